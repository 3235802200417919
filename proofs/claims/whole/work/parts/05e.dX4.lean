theorem dX4_init_0 : decode cX4_init 0 = .ok (.aload_n 0, 1) := by decide +kernel
theorem dX4_init_1 : decode cX4_init 1 = .ok (.invokespecial 1, 3) := by decide +kernel
theorem dX4_init_4 : decode cX4_init 4 = .ok (.aload_n 0, 1) := by decide +kernel
theorem dX4_init_5 : decode cX4_init 5 = .ok (.new 7, 3) := by decide +kernel
theorem dX4_init_8 : decode cX4_init 8 = .ok (.dup, 1) := by decide +kernel
theorem dX4_init_9 : decode cX4_init 9 = .ok (.invokespecial 9, 3) := by decide +kernel
theorem dX4_init_12 : decode cX4_init 12 = .ok (.putfield 10, 3) := by decide +kernel
theorem dX4_init_15 : decode cX4_init 15 = .ok (.aload_n 0, 1) := by decide +kernel
theorem dX4_init_16 : decode cX4_init 16 = .ok (.new 7, 3) := by decide +kernel
theorem dX4_init_19 : decode cX4_init 19 = .ok (.dup, 1) := by decide +kernel
theorem dX4_init_20 : decode cX4_init 20 = .ok (.invokespecial 9, 3) := by decide +kernel
theorem dX4_init_23 : decode cX4_init 23 = .ok (.putfield 16, 3) := by decide +kernel
theorem dX4_init_26 : decode cX4_init 26 = .ok (.return_, 1) := by decide +kernel
theorem dX4_thrown_0 : decode cX4_thrown 0 = .ok (.aload_n 0, 1) := by decide +kernel
theorem dX4_thrown_1 : decode cX4_thrown 1 = .ok (.getfield 19, 3) := by decide +kernel
theorem dX4_thrown_4 : decode cX4_thrown 4 = .ok (.ireturn, 1) := by decide +kernel
theorem dX4_no_0 : decode cX4_no 0 = .ok (.aload_n 0, 1) := by decide +kernel
theorem dX4_no_1 : decode cX4_no 1 = .ok (.iload_n 1, 1) := by decide +kernel
theorem dX4_no_2 : decode cX4_no 2 = .ok (.putfield 19, 3) := by decide +kernel
theorem dX4_no_5 : decode cX4_no 5 = .ok (.iconst 0, 1) := by decide +kernel
theorem dX4_no_6 : decode cX4_no 6 = .ok (.ireturn, 1) := by decide +kernel
theorem dX4_isIn_0 : decode cX4_isIn 0 = .ok (.iload_n 0, 1) := by decide +kernel
theorem dX4_isIn_1 : decode cX4_isIn 1 = .ok (.iload_n 1, 1) := by decide +kernel
theorem dX4_isIn_2 : decode cX4_isIn 2 = .ok (.if_icmp .lt 12, 3) := by decide +kernel
theorem dX4_isIn_5 : decode cX4_isIn 5 = .ok (.iload_n 0, 1) := by decide +kernel
theorem dX4_isIn_6 : decode cX4_isIn 6 = .ok (.iload_n 2, 1) := by decide +kernel
theorem dX4_isIn_7 : decode cX4_isIn 7 = .ok (.if_icmp .gt 7, 3) := by decide +kernel
theorem dX4_isIn_10 : decode cX4_isIn 10 = .ok (.iconst 1, 1) := by decide +kernel
theorem dX4_isIn_11 : decode cX4_isIn 11 = .ok (.goto 4, 3) := by decide +kernel
theorem dX4_isIn_14 : decode cX4_isIn 14 = .ok (.iconst 0, 1) := by decide +kernel
theorem dX4_isIn_15 : decode cX4_isIn 15 = .ok (.ireturn, 1) := by decide +kernel
theorem dX4_isBoat_0 : decode cX4_isBoat 0 = .ok (.iload_n 1, 1) := by decide +kernel
theorem dX4_isBoat_1 : decode cX4_isBoat 1 = .ok (.iconst 0, 1) := by decide +kernel
theorem dX4_isBoat_2 : decode cX4_isBoat 2 = .ok (.aload_n 0, 1) := by decide +kernel
theorem dX4_isBoat_3 : decode cX4_isBoat 3 = .ok (.getfield 10, 3) := by decide +kernel
theorem dX4_isBoat_6 : decode cX4_isBoat 6 = .ok (.getfield 23, 3) := by decide +kernel
theorem dX4_isBoat_9 : decode cX4_isBoat 9 = .ok (.iconst 1, 1) := by decide +kernel
theorem dX4_isBoat_10 : decode cX4_isBoat 10 = .ok (.isub, 1) := by decide +kernel
theorem dX4_isBoat_11 : decode cX4_isBoat 11 = .ok (.invokestatic 26, 3) := by decide +kernel
theorem dX4_isBoat_14 : decode cX4_isBoat 14 = .ok (.ireturn, 1) := by decide +kernel
theorem dX4_fleet_0 : decode cX4_fleet 0 = .ok (.aload_n 0, 1) := by decide +kernel
theorem dX4_fleet_1 : decode cX4_fleet 1 = .ok (.iconst 0, 1) := by decide +kernel
theorem dX4_fleet_2 : decode cX4_fleet 2 = .ok (.putfield 19, 3) := by decide +kernel
theorem dX4_fleet_5 : decode cX4_fleet 5 = .ok (.iload_n 1, 1) := by decide +kernel
theorem dX4_fleet_6 : decode cX4_fleet 6 = .ok (.iconst 3, 1) := by decide +kernel
theorem dX4_fleet_7 : decode cX4_fleet 7 = .ok (.bipush 7, 2) := by decide +kernel
theorem dX4_fleet_9 : decode cX4_fleet 9 = .ok (.invokestatic 26, 3) := by decide +kernel
theorem dX4_fleet_12 : decode cX4_fleet 12 = .ok (.ifCond .ne 9, 3) := by decide +kernel
theorem dX4_fleet_15 : decode cX4_fleet 15 = .ok (.aload_n 0, 1) := by decide +kernel
theorem dX4_fleet_16 : decode cX4_fleet 16 = .ok (.iconst 1, 1) := by decide +kernel
theorem dX4_fleet_17 : decode cX4_fleet 17 = .ok (.invokevirtual 30, 3) := by decide +kernel
theorem dX4_fleet_20 : decode cX4_fleet 20 = .ok (.ireturn, 1) := by decide +kernel
theorem dX4_fleet_21 : decode cX4_fleet 21 = .ok (.aload_n 0, 1) := by decide +kernel
theorem dX4_fleet_22 : decode cX4_fleet 22 = .ok (.getfield 10, 3) := by decide +kernel
theorem dX4_fleet_25 : decode cX4_fleet 25 = .ok (.iload_n 1, 1) := by decide +kernel
theorem dX4_fleet_26 : decode cX4_fleet 26 = .ok (.invokevirtual 34, 3) := by decide +kernel
theorem dX4_fleet_29 : decode cX4_fleet 29 = .ok (.iload_n 1, 1) := by decide +kernel
theorem dX4_fleet_30 : decode cX4_fleet 30 = .ok (.iconst 2, 1) := by decide +kernel
theorem dX4_fleet_31 : decode cX4_fleet 31 = .ok (.idiv, 1) := by decide +kernel
theorem dX4_fleet_32 : decode cX4_fleet 32 = .ok (.iconst 1, 1) := by decide +kernel
theorem dX4_fleet_33 : decode cX4_fleet 33 = .ok (.iadd, 1) := by decide +kernel
theorem dX4_fleet_34 : decode cX4_fleet 34 = .ok (.ireturn, 1) := by decide +kernel
theorem dX4_setPatience_0 : decode cX4_setPatience 0 = .ok (.aload_n 0, 1) := by decide +kernel
theorem dX4_setPatience_1 : decode cX4_setPatience 1 = .ok (.iconst 0, 1) := by decide +kernel
theorem dX4_setPatience_2 : decode cX4_setPatience 2 = .ok (.putfield 19, 3) := by decide +kernel
theorem dX4_setPatience_5 : decode cX4_setPatience 5 = .ok (.aload_n 0, 1) := by decide +kernel
theorem dX4_setPatience_6 : decode cX4_setPatience 6 = .ok (.iload_n 1, 1) := by decide +kernel
theorem dX4_setPatience_7 : decode cX4_setPatience 7 = .ok (.invokevirtual 38, 3) := by decide +kernel
theorem dX4_setPatience_10 : decode cX4_setPatience 10 = .ok (.ifCond .ne 9, 3) := by decide +kernel
theorem dX4_setPatience_13 : decode cX4_setPatience 13 = .ok (.aload_n 0, 1) := by decide +kernel
theorem dX4_setPatience_14 : decode cX4_setPatience 14 = .ok (.iconst 1, 1) := by decide +kernel
theorem dX4_setPatience_15 : decode cX4_setPatience 15 = .ok (.invokevirtual 30, 3) := by decide +kernel
theorem dX4_setPatience_18 : decode cX4_setPatience 18 = .ok (.ireturn, 1) := by decide +kernel
theorem dX4_setPatience_19 : decode cX4_setPatience 19 = .ok (.iload_n 2, 1) := by decide +kernel
theorem dX4_setPatience_20 : decode cX4_setPatience 20 = .ok (.iconst 2, 1) := by decide +kernel
theorem dX4_setPatience_21 : decode cX4_setPatience 21 = .ok (.bipush 9, 2) := by decide +kernel
theorem dX4_setPatience_23 : decode cX4_setPatience 23 = .ok (.invokestatic 26, 3) := by decide +kernel
theorem dX4_setPatience_26 : decode cX4_setPatience 26 = .ok (.ifCond .ne 9, 3) := by decide +kernel
theorem dX4_setPatience_29 : decode cX4_setPatience 29 = .ok (.aload_n 0, 1) := by decide +kernel
theorem dX4_setPatience_30 : decode cX4_setPatience 30 = .ok (.iconst 2, 1) := by decide +kernel
theorem dX4_setPatience_31 : decode cX4_setPatience 31 = .ok (.invokevirtual 30, 3) := by decide +kernel
theorem dX4_setPatience_34 : decode cX4_setPatience 34 = .ok (.ireturn, 1) := by decide +kernel
theorem dX4_setPatience_35 : decode cX4_setPatience 35 = .ok (.aload_n 0, 1) := by decide +kernel
theorem dX4_setPatience_36 : decode cX4_setPatience 36 = .ok (.getfield 10, 3) := by decide +kernel
theorem dX4_setPatience_39 : decode cX4_setPatience 39 = .ok (.getfield 42, 3) := by decide +kernel
theorem dX4_setPatience_42 : decode cX4_setPatience 42 = .ok (.iload_n 1, 1) := by decide +kernel
theorem dX4_setPatience_43 : decode cX4_setPatience 43 = .ok (.iaload, 1) := by decide +kernel
theorem dX4_setPatience_44 : decode cX4_setPatience 44 = .ok (.istore_n 3, 1) := by decide +kernel
theorem dX4_setPatience_45 : decode cX4_setPatience 45 = .ok (.aload_n 0, 1) := by decide +kernel
theorem dX4_setPatience_46 : decode cX4_setPatience 46 = .ok (.getfield 10, 3) := by decide +kernel
theorem dX4_setPatience_49 : decode cX4_setPatience 49 = .ok (.getfield 42, 3) := by decide +kernel
theorem dX4_setPatience_52 : decode cX4_setPatience 52 = .ok (.iload_n 1, 1) := by decide +kernel
theorem dX4_setPatience_53 : decode cX4_setPatience 53 = .ok (.iload_n 2, 1) := by decide +kernel
theorem dX4_setPatience_54 : decode cX4_setPatience 54 = .ok (.iastore, 1) := by decide +kernel
theorem dX4_setPatience_55 : decode cX4_setPatience 55 = .ok (.iload_n 3, 1) := by decide +kernel
theorem dX4_setPatience_56 : decode cX4_setPatience 56 = .ok (.ireturn, 1) := by decide +kernel
theorem dX4_go_0 : decode cX4_go 0 = .ok (.aload_n 0, 1) := by decide +kernel
theorem dX4_go_1 : decode cX4_go 1 = .ok (.iconst 0, 1) := by decide +kernel
theorem dX4_go_2 : decode cX4_go 2 = .ok (.putfield 19, 3) := by decide +kernel
theorem dX4_go_5 : decode cX4_go 5 = .ok (.aload_n 0, 1) := by decide +kernel
theorem dX4_go_6 : decode cX4_go 6 = .ok (.iload_n 1, 1) := by decide +kernel
theorem dX4_go_7 : decode cX4_go 7 = .ok (.invokevirtual 38, 3) := by decide +kernel
theorem dX4_go_10 : decode cX4_go 10 = .ok (.ifCond .eq 12, 3) := by decide +kernel
theorem dX4_go_13 : decode cX4_go 13 = .ok (.iload_n 2, 1) := by decide +kernel
theorem dX4_go_14 : decode cX4_go 14 = .ok (.iconst 0, 1) := by decide +kernel
theorem dX4_go_15 : decode cX4_go 15 = .ok (.iconst 2, 1) := by decide +kernel
theorem dX4_go_16 : decode cX4_go 16 = .ok (.invokestatic 26, 3) := by decide +kernel
theorem dX4_go_19 : decode cX4_go 19 = .ok (.ifCond .ne 9, 3) := by decide +kernel
theorem dX4_go_22 : decode cX4_go 22 = .ok (.aload_n 0, 1) := by decide +kernel
theorem dX4_go_23 : decode cX4_go 23 = .ok (.iconst 1, 1) := by decide +kernel
theorem dX4_go_24 : decode cX4_go 24 = .ok (.invokevirtual 30, 3) := by decide +kernel
theorem dX4_go_27 : decode cX4_go 27 = .ok (.ireturn, 1) := by decide +kernel
theorem dX4_go_28 : decode cX4_go 28 = .ok (.aload_n 0, 1) := by decide +kernel
theorem dX4_go_29 : decode cX4_go 29 = .ok (.getfield 10, 3) := by decide +kernel
theorem dX4_go_32 : decode cX4_go 32 = .ok (.getfield 46, 3) := by decide +kernel
theorem dX4_go_35 : decode cX4_go 35 = .ok (.iload_n 1, 1) := by decide +kernel
theorem dX4_go_36 : decode cX4_go 36 = .ok (.iaload, 1) := by decide +kernel
theorem dX4_go_37 : decode cX4_go 37 = .ok (.istore_n 3, 1) := by decide +kernel
theorem dX4_go_38 : decode cX4_go 38 = .ok (.aload_n 0, 1) := by decide +kernel
theorem dX4_go_39 : decode cX4_go 39 = .ok (.getfield 10, 3) := by decide +kernel
theorem dX4_go_42 : decode cX4_go 42 = .ok (.getfield 46, 3) := by decide +kernel
theorem dX4_go_45 : decode cX4_go 45 = .ok (.iload_n 1, 1) := by decide +kernel
theorem dX4_go_46 : decode cX4_go 46 = .ok (.iload_n 2, 1) := by decide +kernel
theorem dX4_go_47 : decode cX4_go 47 = .ok (.iastore, 1) := by decide +kernel
theorem dX4_go_48 : decode cX4_go 48 = .ok (.iload_n 3, 1) := by decide +kernel
theorem dX4_go_49 : decode cX4_go 49 = .ok (.ireturn, 1) := by decide +kernel
theorem dX4_sink_0 : decode cX4_sink 0 = .ok (.aload_n 0, 1) := by decide +kernel
theorem dX4_sink_1 : decode cX4_sink 1 = .ok (.aload_n 0, 1) := by decide +kernel
theorem dX4_sink_2 : decode cX4_sink 2 = .ok (.iload_n 1, 1) := by decide +kernel
theorem dX4_sink_3 : decode cX4_sink 3 = .ok (.invokevirtual 38, 3) := by decide +kernel
theorem dX4_sink_6 : decode cX4_sink 6 = .ok (.ifCond .eq 7, 3) := by decide +kernel
theorem dX4_sink_9 : decode cX4_sink 9 = .ok (.iconst 0, 1) := by decide +kernel
theorem dX4_sink_10 : decode cX4_sink 10 = .ok (.goto 4, 3) := by decide +kernel
theorem dX4_sink_13 : decode cX4_sink 13 = .ok (.iconst 1, 1) := by decide +kernel
theorem dX4_sink_14 : decode cX4_sink 14 = .ok (.putfield 19, 3) := by decide +kernel
theorem dX4_sink_17 : decode cX4_sink 17 = .ok (.aload_n 0, 1) := by decide +kernel
theorem dX4_sink_18 : decode cX4_sink 18 = .ok (.getfield 19, 3) := by decide +kernel
theorem dX4_sink_21 : decode cX4_sink 21 = .ok (.ifCond .le 5, 3) := by decide +kernel
theorem dX4_sink_24 : decode cX4_sink 24 = .ok (.iconst 0, 1) := by decide +kernel
theorem dX4_sink_25 : decode cX4_sink 25 = .ok (.ireturn, 1) := by decide +kernel
theorem dX4_sink_26 : decode cX4_sink 26 = .ok (.aload_n 0, 1) := by decide +kernel
theorem dX4_sink_27 : decode cX4_sink 27 = .ok (.getfield 10, 3) := by decide +kernel
theorem dX4_sink_30 : decode cX4_sink 30 = .ok (.getfield 49, 3) := by decide +kernel
theorem dX4_sink_33 : decode cX4_sink 33 = .ok (.iload_n 1, 1) := by decide +kernel
theorem dX4_sink_34 : decode cX4_sink 34 = .ok (.iconst 1, 1) := by decide +kernel
theorem dX4_sink_35 : decode cX4_sink 35 = .ok (.aload_n 0, 1) := by decide +kernel
theorem dX4_sink_36 : decode cX4_sink 36 = .ok (.getfield 10, 3) := by decide +kernel
theorem dX4_sink_39 : decode cX4_sink 39 = .ok (.getfield 49, 3) := by decide +kernel
theorem dX4_sink_42 : decode cX4_sink 42 = .ok (.iload_n 1, 1) := by decide +kernel
theorem dX4_sink_43 : decode cX4_sink 43 = .ok (.iaload, 1) := by decide +kernel
theorem dX4_sink_44 : decode cX4_sink 44 = .ok (.isub, 1) := by decide +kernel
theorem dX4_sink_45 : decode cX4_sink 45 = .ok (.iastore, 1) := by decide +kernel
theorem dX4_sink_46 : decode cX4_sink 46 = .ok (.aload_n 0, 1) := by decide +kernel
theorem dX4_sink_47 : decode cX4_sink 47 = .ok (.getfield 10, 3) := by decide +kernel
theorem dX4_sink_50 : decode cX4_sink 50 = .ok (.getfield 49, 3) := by decide +kernel
theorem dX4_sink_53 : decode cX4_sink 53 = .ok (.iload_n 1, 1) := by decide +kernel
theorem dX4_sink_54 : decode cX4_sink 54 = .ok (.iaload, 1) := by decide +kernel
theorem dX4_sink_55 : decode cX4_sink 55 = .ok (.ifCond .ne 5, 3) := by decide +kernel
theorem dX4_sink_58 : decode cX4_sink 58 = .ok (.iconst 0, 1) := by decide +kernel
theorem dX4_sink_59 : decode cX4_sink 59 = .ok (.ireturn, 1) := by decide +kernel
theorem dX4_sink_60 : decode cX4_sink 60 = .ok (.aload_n 0, 1) := by decide +kernel
theorem dX4_sink_61 : decode cX4_sink 61 = .ok (.getfield 10, 3) := by decide +kernel
theorem dX4_sink_64 : decode cX4_sink 64 = .ok (.getfield 52, 3) := by decide +kernel
theorem dX4_sink_67 : decode cX4_sink 67 = .ok (.iload_n 1, 1) := by decide +kernel
theorem dX4_sink_68 : decode cX4_sink 68 = .ok (.iconst 0, 1) := by decide +kernel
theorem dX4_sink_69 : decode cX4_sink 69 = .ok (.iastore, 1) := by decide +kernel
theorem dX4_sink_70 : decode cX4_sink 70 = .ok (.aload_n 0, 1) := by decide +kernel
theorem dX4_sink_71 : decode cX4_sink 71 = .ok (.getfield 10, 3) := by decide +kernel
theorem dX4_sink_74 : decode cX4_sink 74 = .ok (.getfield 55, 3) := by decide +kernel
theorem dX4_sink_77 : decode cX4_sink 77 = .ok (.iload_n 1, 1) := by decide +kernel
theorem dX4_sink_78 : decode cX4_sink 78 = .ok (.aload_n 0, 1) := by decide +kernel
theorem dX4_sink_79 : decode cX4_sink 79 = .ok (.getfield 10, 3) := by decide +kernel
theorem dX4_sink_82 : decode cX4_sink 82 = .ok (.getfield 42, 3) := by decide +kernel
theorem dX4_sink_85 : decode cX4_sink 85 = .ok (.iload_n 1, 1) := by decide +kernel
theorem dX4_sink_86 : decode cX4_sink 86 = .ok (.iaload, 1) := by decide +kernel
theorem dX4_sink_87 : decode cX4_sink 87 = .ok (.iastore, 1) := by decide +kernel
theorem dX4_sink_88 : decode cX4_sink 88 = .ok (.aload_n 0, 1) := by decide +kernel
theorem dX4_sink_89 : decode cX4_sink 89 = .ok (.getfield 10, 3) := by decide +kernel
theorem dX4_sink_92 : decode cX4_sink 92 = .ok (.getfield 58, 3) := by decide +kernel
theorem dX4_sink_95 : decode cX4_sink 95 = .ok (.iload_n 1, 1) := by decide +kernel
theorem dX4_sink_96 : decode cX4_sink 96 = .ok (.iconst 0, 1) := by decide +kernel
theorem dX4_sink_97 : decode cX4_sink 97 = .ok (.iastore, 1) := by decide +kernel
theorem dX4_sink_98 : decode cX4_sink 98 = .ok (.iconst 1, 1) := by decide +kernel
theorem dX4_sink_99 : decode cX4_sink 99 = .ok (.ireturn, 1) := by decide +kernel
theorem dX4_write_0 : decode cX4_write 0 = .ok (.aload_n 0, 1) := by decide +kernel
theorem dX4_write_1 : decode cX4_write 1 = .ok (.iconst 0, 1) := by decide +kernel
theorem dX4_write_2 : decode cX4_write 2 = .ok (.putfield 19, 3) := by decide +kernel
theorem dX4_write_5 : decode cX4_write 5 = .ok (.aload_n 0, 1) := by decide +kernel
theorem dX4_write_6 : decode cX4_write 6 = .ok (.iload_n 1, 1) := by decide +kernel
theorem dX4_write_7 : decode cX4_write 7 = .ok (.invokevirtual 38, 3) := by decide +kernel
theorem dX4_write_10 : decode cX4_write 10 = .ok (.ifCond .ne 9, 3) := by decide +kernel
theorem dX4_write_13 : decode cX4_write 13 = .ok (.aload_n 0, 1) := by decide +kernel
theorem dX4_write_14 : decode cX4_write 14 = .ok (.iconst 1, 1) := by decide +kernel
theorem dX4_write_15 : decode cX4_write 15 = .ok (.invokevirtual 30, 3) := by decide +kernel
theorem dX4_write_18 : decode cX4_write 18 = .ok (.ireturn, 1) := by decide +kernel
theorem dX4_write_19 : decode cX4_write 19 = .ok (.iload_n 2, 1) := by decide +kernel
theorem dX4_write_20 : decode cX4_write 20 = .ok (.iconst 0, 1) := by decide +kernel
theorem dX4_write_21 : decode cX4_write 21 = .ok (.bipush 99, 2) := by decide +kernel
theorem dX4_write_23 : decode cX4_write 23 = .ok (.invokestatic 26, 3) := by decide +kernel
theorem dX4_write_26 : decode cX4_write 26 = .ok (.ifCond .ne 9, 3) := by decide +kernel
theorem dX4_write_29 : decode cX4_write 29 = .ok (.aload_n 0, 1) := by decide +kernel
theorem dX4_write_30 : decode cX4_write 30 = .ok (.iconst 2, 1) := by decide +kernel
theorem dX4_write_31 : decode cX4_write 31 = .ok (.invokevirtual 30, 3) := by decide +kernel
theorem dX4_write_34 : decode cX4_write 34 = .ok (.ireturn, 1) := by decide +kernel
theorem dX4_write_35 : decode cX4_write 35 = .ok (.aload_n 0, 1) := by decide +kernel
theorem dX4_write_36 : decode cX4_write 36 = .ok (.getfield 10, 3) := by decide +kernel
theorem dX4_write_39 : decode cX4_write 39 = .ok (.iload_n 1, 1) := by decide +kernel
theorem dX4_write_40 : decode cX4_write 40 = .ok (.iconst 2, 1) := by decide +kernel
theorem dX4_write_41 : decode cX4_write 41 = .ok (.invokevirtual 61, 3) := by decide +kernel
theorem dX4_write_44 : decode cX4_write 44 = .ok (.ifCond .eq 17, 3) := by decide +kernel
theorem dX4_write_47 : decode cX4_write 47 = .ok (.aload_n 0, 1) := by decide +kernel
theorem dX4_write_48 : decode cX4_write 48 = .ok (.getfield 10, 3) := by decide +kernel
theorem dX4_write_51 : decode cX4_write 51 = .ok (.getfield 65, 3) := by decide +kernel
theorem dX4_write_54 : decode cX4_write 54 = .ok (.iload_n 1, 1) := by decide +kernel
theorem dX4_write_55 : decode cX4_write 55 = .ok (.iaload, 1) := by decide +kernel
theorem dX4_write_56 : decode cX4_write 56 = .ok (.bipush 10, 2) := by decide +kernel
theorem dX4_write_58 : decode cX4_write 58 = .ok (.if_icmp .ne 9, 3) := by decide +kernel
theorem dX4_write_61 : decode cX4_write 61 = .ok (.aload_n 0, 1) := by decide +kernel
theorem dX4_write_62 : decode cX4_write 62 = .ok (.iconst 3, 1) := by decide +kernel
theorem dX4_write_63 : decode cX4_write 63 = .ok (.invokevirtual 30, 3) := by decide +kernel
theorem dX4_write_66 : decode cX4_write 66 = .ok (.ireturn, 1) := by decide +kernel
theorem dX4_write_67 : decode cX4_write 67 = .ok (.aload_n 0, 1) := by decide +kernel
theorem dX4_write_68 : decode cX4_write 68 = .ok (.getfield 10, 3) := by decide +kernel
theorem dX4_write_71 : decode cX4_write 71 = .ok (.iload_n 1, 1) := by decide +kernel
theorem dX4_write_72 : decode cX4_write 72 = .ok (.aload_n 0, 1) := by decide +kernel
theorem dX4_write_73 : decode cX4_write 73 = .ok (.getfield 10, 3) := by decide +kernel
theorem dX4_write_76 : decode cX4_write 76 = .ok (.getfield 68, 3) := by decide +kernel
theorem dX4_write_79 : decode cX4_write 79 = .ok (.iload_n 1, 1) := by decide +kernel
theorem dX4_write_80 : decode cX4_write 80 = .ok (.iaload, 1) := by decide +kernel
theorem dX4_write_81 : decode cX4_write 81 = .ok (.iload_n 2, 1) := by decide +kernel
theorem dX4_write_82 : decode cX4_write 82 = .ok (.invokevirtual 71, 3) := by decide +kernel
theorem dX4_write_85 : decode cX4_write 85 = .ok (.aload_n 0, 1) := by decide +kernel
theorem dX4_write_86 : decode cX4_write 86 = .ok (.getfield 10, 3) := by decide +kernel
theorem dX4_write_89 : decode cX4_write 89 = .ok (.getfield 65, 3) := by decide +kernel
theorem dX4_write_92 : decode cX4_write 92 = .ok (.iload_n 1, 1) := by decide +kernel
theorem dX4_write_93 : decode cX4_write 93 = .ok (.iaload, 1) := by decide +kernel
theorem dX4_write_94 : decode cX4_write 94 = .ok (.iconst 1, 1) := by decide +kernel
theorem dX4_write_95 : decode cX4_write 95 = .ok (.isub, 1) := by decide +kernel
theorem dX4_write_96 : decode cX4_write 96 = .ok (.ireturn, 1) := by decide +kernel
theorem dX4_pass_0 : decode cX4_pass 0 = .ok (.aload_n 0, 1) := by decide +kernel
theorem dX4_pass_1 : decode cX4_pass 1 = .ok (.iconst 0, 1) := by decide +kernel
theorem dX4_pass_2 : decode cX4_pass 2 = .ok (.putfield 19, 3) := by decide +kernel
theorem dX4_pass_5 : decode cX4_pass 5 = .ok (.iload_n 1, 1) := by decide +kernel
theorem dX4_pass_6 : decode cX4_pass 6 = .ok (.iconst 1, 1) := by decide +kernel
theorem dX4_pass_7 : decode cX4_pass 7 = .ok (.bipush 50, 2) := by decide +kernel
theorem dX4_pass_9 : decode cX4_pass 9 = .ok (.invokestatic 26, 3) := by decide +kernel
theorem dX4_pass_12 : decode cX4_pass 12 = .ok (.ifCond .ne 9, 3) := by decide +kernel
theorem dX4_pass_15 : decode cX4_pass 15 = .ok (.aload_n 0, 1) := by decide +kernel
theorem dX4_pass_16 : decode cX4_pass 16 = .ok (.iconst 1, 1) := by decide +kernel
theorem dX4_pass_17 : decode cX4_pass 17 = .ok (.invokevirtual 30, 3) := by decide +kernel
theorem dX4_pass_20 : decode cX4_pass 20 = .ok (.ireturn, 1) := by decide +kernel
theorem dX4_pass_21 : decode cX4_pass 21 = .ok (.aload_n 0, 1) := by decide +kernel
theorem dX4_pass_22 : decode cX4_pass 22 = .ok (.getfield 10, 3) := by decide +kernel
theorem dX4_pass_25 : decode cX4_pass 25 = .ok (.getfield 75, 3) := by decide +kernel
theorem dX4_pass_28 : decode cX4_pass 28 = .ok (.istore_n 2, 1) := by decide +kernel
theorem dX4_pass_29 : decode cX4_pass 29 = .ok (.aload_n 0, 1) := by decide +kernel
theorem dX4_pass_30 : decode cX4_pass 30 = .ok (.getfield 10, 3) := by decide +kernel
theorem dX4_pass_33 : decode cX4_pass 33 = .ok (.iload_n 1, 1) := by decide +kernel
theorem dX4_pass_34 : decode cX4_pass 34 = .ok (.invokevirtual 78, 3) := by decide +kernel
theorem dX4_pass_37 : decode cX4_pass 37 = .ok (.aload_n 0, 1) := by decide +kernel
theorem dX4_pass_38 : decode cX4_pass 38 = .ok (.getfield 10, 3) := by decide +kernel
theorem dX4_pass_41 : decode cX4_pass 41 = .ok (.getfield 75, 3) := by decide +kernel
theorem dX4_pass_44 : decode cX4_pass 44 = .ok (.iload_n 2, 1) := by decide +kernel
theorem dX4_pass_45 : decode cX4_pass 45 = .ok (.isub, 1) := by decide +kernel
theorem dX4_pass_46 : decode cX4_pass 46 = .ok (.ireturn, 1) := by decide +kernel
theorem dX4_boatTold_0 : decode cX4_boatTold 0 = .ok (.iload_n 2, 1) := by decide +kernel
theorem dX4_boatTold_1 : decode cX4_boatTold 1 = .ok (.tableswitch 141 0 8 #[51, 61, 71, 81, 91, 101, 111, 121, 131], 51) := by decide +kernel
theorem dX4_boatTold_52 : decode cX4_boatTold 52 = .ok (.aload_n 0, 1) := by decide +kernel
theorem dX4_boatTold_53 : decode cX4_boatTold 53 = .ok (.getfield 10, 3) := by decide +kernel
theorem dX4_boatTold_56 : decode cX4_boatTold 56 = .ok (.getfield 68, 3) := by decide +kernel
theorem dX4_boatTold_59 : decode cX4_boatTold 59 = .ok (.iload_n 1, 1) := by decide +kernel
theorem dX4_boatTold_60 : decode cX4_boatTold 60 = .ok (.iaload, 1) := by decide +kernel
theorem dX4_boatTold_61 : decode cX4_boatTold 61 = .ok (.ireturn, 1) := by decide +kernel
theorem dX4_boatTold_62 : decode cX4_boatTold 62 = .ok (.aload_n 0, 1) := by decide +kernel
theorem dX4_boatTold_63 : decode cX4_boatTold 63 = .ok (.getfield 10, 3) := by decide +kernel
theorem dX4_boatTold_66 : decode cX4_boatTold 66 = .ok (.getfield 81, 3) := by decide +kernel
theorem dX4_boatTold_69 : decode cX4_boatTold 69 = .ok (.iload_n 1, 1) := by decide +kernel
theorem dX4_boatTold_70 : decode cX4_boatTold 70 = .ok (.iaload, 1) := by decide +kernel
theorem dX4_boatTold_71 : decode cX4_boatTold 71 = .ok (.ireturn, 1) := by decide +kernel
theorem dX4_boatTold_72 : decode cX4_boatTold 72 = .ok (.aload_n 0, 1) := by decide +kernel
theorem dX4_boatTold_73 : decode cX4_boatTold 73 = .ok (.getfield 10, 3) := by decide +kernel
theorem dX4_boatTold_76 : decode cX4_boatTold 76 = .ok (.getfield 52, 3) := by decide +kernel
theorem dX4_boatTold_79 : decode cX4_boatTold 79 = .ok (.iload_n 1, 1) := by decide +kernel
theorem dX4_boatTold_80 : decode cX4_boatTold 80 = .ok (.iaload, 1) := by decide +kernel
theorem dX4_boatTold_81 : decode cX4_boatTold 81 = .ok (.ireturn, 1) := by decide +kernel
theorem dX4_boatTold_82 : decode cX4_boatTold 82 = .ok (.aload_n 0, 1) := by decide +kernel
theorem dX4_boatTold_83 : decode cX4_boatTold 83 = .ok (.getfield 10, 3) := by decide +kernel
theorem dX4_boatTold_86 : decode cX4_boatTold 86 = .ok (.getfield 46, 3) := by decide +kernel
theorem dX4_boatTold_89 : decode cX4_boatTold 89 = .ok (.iload_n 1, 1) := by decide +kernel
theorem dX4_boatTold_90 : decode cX4_boatTold 90 = .ok (.iaload, 1) := by decide +kernel
theorem dX4_boatTold_91 : decode cX4_boatTold 91 = .ok (.ireturn, 1) := by decide +kernel
theorem dX4_boatTold_92 : decode cX4_boatTold 92 = .ok (.aload_n 0, 1) := by decide +kernel
theorem dX4_boatTold_93 : decode cX4_boatTold 93 = .ok (.getfield 10, 3) := by decide +kernel
theorem dX4_boatTold_96 : decode cX4_boatTold 96 = .ok (.getfield 49, 3) := by decide +kernel
theorem dX4_boatTold_99 : decode cX4_boatTold 99 = .ok (.iload_n 1, 1) := by decide +kernel
theorem dX4_boatTold_100 : decode cX4_boatTold 100 = .ok (.iaload, 1) := by decide +kernel
theorem dX4_boatTold_101 : decode cX4_boatTold 101 = .ok (.ireturn, 1) := by decide +kernel
theorem dX4_boatTold_102 : decode cX4_boatTold 102 = .ok (.aload_n 0, 1) := by decide +kernel
theorem dX4_boatTold_103 : decode cX4_boatTold 103 = .ok (.getfield 10, 3) := by decide +kernel
theorem dX4_boatTold_106 : decode cX4_boatTold 106 = .ok (.getfield 42, 3) := by decide +kernel
theorem dX4_boatTold_109 : decode cX4_boatTold 109 = .ok (.iload_n 1, 1) := by decide +kernel
theorem dX4_boatTold_110 : decode cX4_boatTold 110 = .ok (.iaload, 1) := by decide +kernel
theorem dX4_boatTold_111 : decode cX4_boatTold 111 = .ok (.ireturn, 1) := by decide +kernel
theorem dX4_boatTold_112 : decode cX4_boatTold 112 = .ok (.aload_n 0, 1) := by decide +kernel
theorem dX4_boatTold_113 : decode cX4_boatTold 113 = .ok (.getfield 10, 3) := by decide +kernel
theorem dX4_boatTold_116 : decode cX4_boatTold 116 = .ok (.getfield 55, 3) := by decide +kernel
theorem dX4_boatTold_119 : decode cX4_boatTold 119 = .ok (.iload_n 1, 1) := by decide +kernel
theorem dX4_boatTold_120 : decode cX4_boatTold 120 = .ok (.iaload, 1) := by decide +kernel
theorem dX4_boatTold_121 : decode cX4_boatTold 121 = .ok (.ireturn, 1) := by decide +kernel
theorem dX4_boatTold_122 : decode cX4_boatTold 122 = .ok (.aload_n 0, 1) := by decide +kernel
theorem dX4_boatTold_123 : decode cX4_boatTold 123 = .ok (.getfield 10, 3) := by decide +kernel
theorem dX4_boatTold_126 : decode cX4_boatTold 126 = .ok (.getfield 65, 3) := by decide +kernel
theorem dX4_boatTold_129 : decode cX4_boatTold 129 = .ok (.iload_n 1, 1) := by decide +kernel
theorem dX4_boatTold_130 : decode cX4_boatTold 130 = .ok (.iaload, 1) := by decide +kernel
theorem dX4_boatTold_131 : decode cX4_boatTold 131 = .ok (.ireturn, 1) := by decide +kernel
theorem dX4_boatTold_132 : decode cX4_boatTold 132 = .ok (.aload_n 0, 1) := by decide +kernel
theorem dX4_boatTold_133 : decode cX4_boatTold 133 = .ok (.getfield 10, 3) := by decide +kernel
theorem dX4_boatTold_136 : decode cX4_boatTold 136 = .ok (.getfield 58, 3) := by decide +kernel
theorem dX4_boatTold_139 : decode cX4_boatTold 139 = .ok (.iload_n 1, 1) := by decide +kernel
theorem dX4_boatTold_140 : decode cX4_boatTold 140 = .ok (.iaload, 1) := by decide +kernel
theorem dX4_boatTold_141 : decode cX4_boatTold 141 = .ok (.ireturn, 1) := by decide +kernel
theorem dX4_boatTold_142 : decode cX4_boatTold 142 = .ok (.aload_n 0, 1) := by decide +kernel
theorem dX4_boatTold_143 : decode cX4_boatTold 143 = .ok (.getfield 10, 3) := by decide +kernel
theorem dX4_boatTold_146 : decode cX4_boatTold 146 = .ok (.iload_n 1, 1) := by decide +kernel
theorem dX4_boatTold_147 : decode cX4_boatTold 147 = .ok (.invokevirtual 84, 3) := by decide +kernel
theorem dX4_boatTold_150 : decode cX4_boatTold 150 = .ok (.ireturn, 1) := by decide +kernel
theorem dX4_told_0 : decode cX4_told 0 = .ok (.aload_n 0, 1) := by decide +kernel
theorem dX4_told_1 : decode cX4_told 1 = .ok (.iconst 0, 1) := by decide +kernel
theorem dX4_told_2 : decode cX4_told 2 = .ok (.putfield 19, 3) := by decide +kernel
theorem dX4_told_5 : decode cX4_told 5 = .ok (.aload_n 0, 1) := by decide +kernel
theorem dX4_told_6 : decode cX4_told 6 = .ok (.iload_n 1, 1) := by decide +kernel
theorem dX4_told_7 : decode cX4_told 7 = .ok (.invokevirtual 38, 3) := by decide +kernel
theorem dX4_told_10 : decode cX4_told 10 = .ok (.ifCond .eq 22, 3) := by decide +kernel
theorem dX4_told_13 : decode cX4_told 13 = .ok (.iload_n 2, 1) := by decide +kernel
theorem dX4_told_14 : decode cX4_told 14 = .ok (.iconst 0, 1) := by decide +kernel
theorem dX4_told_15 : decode cX4_told 15 = .ok (.bipush 9, 2) := by decide +kernel
theorem dX4_told_17 : decode cX4_told 17 = .ok (.invokestatic 26, 3) := by decide +kernel
theorem dX4_told_20 : decode cX4_told 20 = .ok (.ifCond .eq 12, 3) := by decide +kernel
theorem dX4_told_23 : decode cX4_told 23 = .ok (.aload_n 0, 1) := by decide +kernel
theorem dX4_told_24 : decode cX4_told 24 = .ok (.iload_n 1, 1) := by decide +kernel
theorem dX4_told_25 : decode cX4_told 25 = .ok (.iload_n 2, 1) := by decide +kernel
theorem dX4_told_26 : decode cX4_told 26 = .ok (.invokevirtual 87, 3) := by decide +kernel
theorem dX4_told_29 : decode cX4_told 29 = .ok (.goto 8, 3) := by decide +kernel
theorem dX4_told_32 : decode cX4_told 32 = .ok (.aload_n 0, 1) := by decide +kernel
theorem dX4_told_33 : decode cX4_told 33 = .ok (.iconst 1, 1) := by decide +kernel
theorem dX4_told_34 : decode cX4_told 34 = .ok (.invokevirtual 30, 3) := by decide +kernel
theorem dX4_told_37 : decode cX4_told 37 = .ok (.ireturn, 1) := by decide +kernel
theorem dX4_entryTold_0 : decode cX4_entryTold 0 = .ok (.iload_n 3, 1) := by decide +kernel
theorem dX4_entryTold_1 : decode cX4_entryTold 1 = .ok (.iconst 2, 1) := by decide +kernel
theorem dX4_entryTold_2 : decode cX4_entryTold 2 = .ok (.if_icmp .ge 39, 3) := by decide +kernel
theorem dX4_entryTold_5 : decode cX4_entryTold 5 = .ok (.iload_n 3, 1) := by decide +kernel
theorem dX4_entryTold_6 : decode cX4_entryTold 6 = .ok (.ifCond .ne 20, 3) := by decide +kernel
theorem dX4_entryTold_9 : decode cX4_entryTold 9 = .ok (.aload_n 0, 1) := by decide +kernel
theorem dX4_entryTold_10 : decode cX4_entryTold 10 = .ok (.getfield 10, 3) := by decide +kernel
theorem dX4_entryTold_13 : decode cX4_entryTold 13 = .ok (.getfield 91, 3) := by decide +kernel
theorem dX4_entryTold_16 : decode cX4_entryTold 16 = .ok (.bipush 10, 2) := by decide +kernel
theorem dX4_entryTold_18 : decode cX4_entryTold 18 = .ok (.iload_n 1, 1) := by decide +kernel
theorem dX4_entryTold_19 : decode cX4_entryTold 19 = .ok (.imul, 1) := by decide +kernel
theorem dX4_entryTold_20 : decode cX4_entryTold 20 = .ok (.iload_n 2, 1) := by decide +kernel
theorem dX4_entryTold_21 : decode cX4_entryTold 21 = .ok (.iadd, 1) := by decide +kernel
theorem dX4_entryTold_22 : decode cX4_entryTold 22 = .ok (.iaload, 1) := by decide +kernel
theorem dX4_entryTold_23 : decode cX4_entryTold 23 = .ok (.goto 17, 3) := by decide +kernel
theorem dX4_entryTold_26 : decode cX4_entryTold 26 = .ok (.aload_n 0, 1) := by decide +kernel
theorem dX4_entryTold_27 : decode cX4_entryTold 27 = .ok (.getfield 10, 3) := by decide +kernel
theorem dX4_entryTold_30 : decode cX4_entryTold 30 = .ok (.getfield 94, 3) := by decide +kernel
theorem dX4_entryTold_33 : decode cX4_entryTold 33 = .ok (.bipush 10, 2) := by decide +kernel
theorem dX4_entryTold_35 : decode cX4_entryTold 35 = .ok (.iload_n 1, 1) := by decide +kernel
theorem dX4_entryTold_36 : decode cX4_entryTold 36 = .ok (.imul, 1) := by decide +kernel
theorem dX4_entryTold_37 : decode cX4_entryTold 37 = .ok (.iload_n 2, 1) := by decide +kernel
theorem dX4_entryTold_38 : decode cX4_entryTold 38 = .ok (.iadd, 1) := by decide +kernel
theorem dX4_entryTold_39 : decode cX4_entryTold 39 = .ok (.iaload, 1) := by decide +kernel
theorem dX4_entryTold_40 : decode cX4_entryTold 40 = .ok (.ireturn, 1) := by decide +kernel
theorem dX4_entryTold_41 : decode cX4_entryTold 41 = .ok (.iconst 0, 1) := by decide +kernel
theorem dX4_entryTold_42 : decode cX4_entryTold 42 = .ok (.istore 4, 2) := by decide +kernel
theorem dX4_entryTold_44 : decode cX4_entryTold 44 = .ok (.iconst 0, 1) := by decide +kernel
theorem dX4_entryTold_45 : decode cX4_entryTold 45 = .ok (.istore 5, 2) := by decide +kernel
theorem dX4_entryTold_47 : decode cX4_entryTold 47 = .ok (.iload 5, 2) := by decide +kernel
theorem dX4_entryTold_49 : decode cX4_entryTold 49 = .ok (.aload_n 0, 1) := by decide +kernel
theorem dX4_entryTold_50 : decode cX4_entryTold 50 = .ok (.getfield 10, 3) := by decide +kernel
theorem dX4_entryTold_53 : decode cX4_entryTold 53 = .ok (.getfield 23, 3) := by decide +kernel
theorem dX4_entryTold_56 : decode cX4_entryTold 56 = .ok (.if_icmp .ge 33, 3) := by decide +kernel
theorem dX4_entryTold_59 : decode cX4_entryTold 59 = .ok (.iload 4, 2) := by decide +kernel
theorem dX4_entryTold_61 : decode cX4_entryTold 61 = .ok (.aload_n 0, 1) := by decide +kernel
theorem dX4_entryTold_62 : decode cX4_entryTold 62 = .ok (.getfield 10, 3) := by decide +kernel
theorem dX4_entryTold_65 : decode cX4_entryTold 65 = .ok (.iload_n 1, 1) := by decide +kernel
theorem dX4_entryTold_66 : decode cX4_entryTold 66 = .ok (.iload 5, 2) := by decide +kernel
theorem dX4_entryTold_68 : decode cX4_entryTold 68 = .ok (.invokevirtual 97, 3) := by decide +kernel
theorem dX4_entryTold_71 : decode cX4_entryTold 71 = .ok (.iload_n 2, 1) := by decide +kernel
theorem dX4_entryTold_72 : decode cX4_entryTold 72 = .ok (.if_icmp .le 7, 3) := by decide +kernel
theorem dX4_entryTold_75 : decode cX4_entryTold 75 = .ok (.iconst 1, 1) := by decide +kernel
theorem dX4_entryTold_76 : decode cX4_entryTold 76 = .ok (.goto 4, 3) := by decide +kernel
theorem dX4_entryTold_79 : decode cX4_entryTold 79 = .ok (.iconst 0, 1) := by decide +kernel
theorem dX4_entryTold_80 : decode cX4_entryTold 80 = .ok (.iadd, 1) := by decide +kernel
theorem dX4_entryTold_81 : decode cX4_entryTold 81 = .ok (.istore 4, 2) := by decide +kernel
theorem dX4_entryTold_83 : decode cX4_entryTold 83 = .ok (.iinc 5 1, 3) := by decide +kernel
theorem dX4_entryTold_86 : decode cX4_entryTold 86 = .ok (.goto (-39), 3) := by decide +kernel
theorem dX4_entryTold_89 : decode cX4_entryTold 89 = .ok (.iload 4, 2) := by decide +kernel
theorem dX4_entryTold_91 : decode cX4_entryTold 91 = .ok (.ireturn, 1) := by decide +kernel
theorem dX4_entry_0 : decode cX4_entry 0 = .ok (.aload_n 0, 1) := by decide +kernel
theorem dX4_entry_1 : decode cX4_entry 1 = .ok (.iconst 0, 1) := by decide +kernel
theorem dX4_entry_2 : decode cX4_entry 2 = .ok (.putfield 19, 3) := by decide +kernel
theorem dX4_entry_5 : decode cX4_entry 5 = .ok (.aload_n 0, 1) := by decide +kernel
theorem dX4_entry_6 : decode cX4_entry 6 = .ok (.iload_n 1, 1) := by decide +kernel
theorem dX4_entry_7 : decode cX4_entry 7 = .ok (.invokevirtual 38, 3) := by decide +kernel
theorem dX4_entry_10 : decode cX4_entry 10 = .ok (.ifCond .eq 41, 3) := by decide +kernel
theorem dX4_entry_13 : decode cX4_entry 13 = .ok (.iload_n 2, 1) := by decide +kernel
theorem dX4_entry_14 : decode cX4_entry 14 = .ok (.iconst 0, 1) := by decide +kernel
theorem dX4_entry_15 : decode cX4_entry 15 = .ok (.aload_n 0, 1) := by decide +kernel
theorem dX4_entry_16 : decode cX4_entry 16 = .ok (.getfield 10, 3) := by decide +kernel
theorem dX4_entry_19 : decode cX4_entry 19 = .ok (.getfield 65, 3) := by decide +kernel
theorem dX4_entry_22 : decode cX4_entry 22 = .ok (.iload_n 1, 1) := by decide +kernel
theorem dX4_entry_23 : decode cX4_entry 23 = .ok (.iaload, 1) := by decide +kernel
theorem dX4_entry_24 : decode cX4_entry 24 = .ok (.iconst 1, 1) := by decide +kernel
theorem dX4_entry_25 : decode cX4_entry 25 = .ok (.isub, 1) := by decide +kernel
theorem dX4_entry_26 : decode cX4_entry 26 = .ok (.invokestatic 26, 3) := by decide +kernel
theorem dX4_entry_29 : decode cX4_entry 29 = .ok (.ifCond .eq 22, 3) := by decide +kernel
theorem dX4_entry_32 : decode cX4_entry 32 = .ok (.iload_n 3, 1) := by decide +kernel
theorem dX4_entry_33 : decode cX4_entry 33 = .ok (.iconst 0, 1) := by decide +kernel
theorem dX4_entry_34 : decode cX4_entry 34 = .ok (.iconst 2, 1) := by decide +kernel
theorem dX4_entry_35 : decode cX4_entry 35 = .ok (.invokestatic 26, 3) := by decide +kernel
theorem dX4_entry_38 : decode cX4_entry 38 = .ok (.ifCond .eq 13, 3) := by decide +kernel
theorem dX4_entry_41 : decode cX4_entry 41 = .ok (.aload_n 0, 1) := by decide +kernel
theorem dX4_entry_42 : decode cX4_entry 42 = .ok (.iload_n 1, 1) := by decide +kernel
theorem dX4_entry_43 : decode cX4_entry 43 = .ok (.iload_n 2, 1) := by decide +kernel
theorem dX4_entry_44 : decode cX4_entry 44 = .ok (.iload_n 3, 1) := by decide +kernel
theorem dX4_entry_45 : decode cX4_entry 45 = .ok (.invokevirtual 100, 3) := by decide +kernel
theorem dX4_entry_48 : decode cX4_entry 48 = .ok (.goto 8, 3) := by decide +kernel
theorem dX4_entry_51 : decode cX4_entry 51 = .ok (.aload_n 0, 1) := by decide +kernel
theorem dX4_entry_52 : decode cX4_entry 52 = .ok (.iconst 1, 1) := by decide +kernel
theorem dX4_entry_53 : decode cX4_entry 53 = .ok (.invokevirtual 30, 3) := by decide +kernel
theorem dX4_entry_56 : decode cX4_entry 56 = .ok (.ireturn, 1) := by decide +kernel
theorem dX4_agree_0 : decode cX4_agree 0 = .ok (.aload_n 0, 1) := by decide +kernel
theorem dX4_agree_1 : decode cX4_agree 1 = .ok (.iconst 0, 1) := by decide +kernel
theorem dX4_agree_2 : decode cX4_agree 2 = .ok (.putfield 19, 3) := by decide +kernel
theorem dX4_agree_5 : decode cX4_agree 5 = .ok (.aload_n 0, 1) := by decide +kernel
theorem dX4_agree_6 : decode cX4_agree 6 = .ok (.iload_n 1, 1) := by decide +kernel
theorem dX4_agree_7 : decode cX4_agree 7 = .ok (.invokevirtual 38, 3) := by decide +kernel
theorem dX4_agree_10 : decode cX4_agree 10 = .ok (.ifCond .eq 23, 3) := by decide +kernel
theorem dX4_agree_13 : decode cX4_agree 13 = .ok (.aload_n 0, 1) := by decide +kernel
theorem dX4_agree_14 : decode cX4_agree 14 = .ok (.iload_n 2, 1) := by decide +kernel
theorem dX4_agree_15 : decode cX4_agree 15 = .ok (.invokevirtual 38, 3) := by decide +kernel
theorem dX4_agree_18 : decode cX4_agree 18 = .ok (.ifCond .eq 15, 3) := by decide +kernel
theorem dX4_agree_21 : decode cX4_agree 21 = .ok (.aload_n 0, 1) := by decide +kernel
theorem dX4_agree_22 : decode cX4_agree 22 = .ok (.getfield 10, 3) := by decide +kernel
theorem dX4_agree_25 : decode cX4_agree 25 = .ok (.iload_n 1, 1) := by decide +kernel
theorem dX4_agree_26 : decode cX4_agree 26 = .ok (.iload_n 2, 1) := by decide +kernel
theorem dX4_agree_27 : decode cX4_agree 27 = .ok (.invokevirtual 97, 3) := by decide +kernel
theorem dX4_agree_30 : decode cX4_agree 30 = .ok (.goto 8, 3) := by decide +kernel
theorem dX4_agree_33 : decode cX4_agree 33 = .ok (.aload_n 0, 1) := by decide +kernel
theorem dX4_agree_34 : decode cX4_agree 34 = .ok (.iconst 1, 1) := by decide +kernel
theorem dX4_agree_35 : decode cX4_agree 35 = .ok (.invokevirtual 30, 3) := by decide +kernel
theorem dX4_agree_38 : decode cX4_agree 38 = .ok (.ireturn, 1) := by decide +kernel
theorem dX4_newer_0 : decode cX4_newer 0 = .ok (.aload_n 0, 1) := by decide +kernel
theorem dX4_newer_1 : decode cX4_newer 1 = .ok (.aload_n 0, 1) := by decide +kernel
theorem dX4_newer_2 : decode cX4_newer 2 = .ok (.iload_n 1, 1) := by decide +kernel
theorem dX4_newer_3 : decode cX4_newer 3 = .ok (.invokevirtual 38, 3) := by decide +kernel
theorem dX4_newer_6 : decode cX4_newer 6 = .ok (.ifCond .eq 15, 3) := by decide +kernel
theorem dX4_newer_9 : decode cX4_newer 9 = .ok (.aload_n 0, 1) := by decide +kernel
theorem dX4_newer_10 : decode cX4_newer 10 = .ok (.iload_n 2, 1) := by decide +kernel
theorem dX4_newer_11 : decode cX4_newer 11 = .ok (.invokevirtual 38, 3) := by decide +kernel
theorem dX4_newer_14 : decode cX4_newer 14 = .ok (.ifCond .eq 7, 3) := by decide +kernel
theorem dX4_newer_17 : decode cX4_newer 17 = .ok (.iconst 0, 1) := by decide +kernel
theorem dX4_newer_18 : decode cX4_newer 18 = .ok (.goto 4, 3) := by decide +kernel
theorem dX4_newer_21 : decode cX4_newer 21 = .ok (.iconst 1, 1) := by decide +kernel
theorem dX4_newer_22 : decode cX4_newer 22 = .ok (.putfield 19, 3) := by decide +kernel
theorem dX4_newer_25 : decode cX4_newer 25 = .ok (.aload_n 0, 1) := by decide +kernel
theorem dX4_newer_26 : decode cX4_newer 26 = .ok (.getfield 19, 3) := by decide +kernel
theorem dX4_newer_29 : decode cX4_newer 29 = .ok (.ifCond .ne 19, 3) := by decide +kernel
theorem dX4_newer_32 : decode cX4_newer 32 = .ok (.aload_n 0, 1) := by decide +kernel
theorem dX4_newer_33 : decode cX4_newer 33 = .ok (.getfield 10, 3) := by decide +kernel
theorem dX4_newer_36 : decode cX4_newer 36 = .ok (.iload_n 1, 1) := by decide +kernel
theorem dX4_newer_37 : decode cX4_newer 37 = .ok (.iload_n 2, 1) := by decide +kernel
theorem dX4_newer_38 : decode cX4_newer 38 = .ok (.invokevirtual 104, 3) := by decide +kernel
theorem dX4_newer_41 : decode cX4_newer 41 = .ok (.ifCond .eq 7, 3) := by decide +kernel
theorem dX4_newer_44 : decode cX4_newer 44 = .ok (.iconst 1, 1) := by decide +kernel
theorem dX4_newer_45 : decode cX4_newer 45 = .ok (.goto 4, 3) := by decide +kernel
theorem dX4_newer_48 : decode cX4_newer 48 = .ok (.iconst 0, 1) := by decide +kernel
theorem dX4_newer_49 : decode cX4_newer 49 = .ok (.ireturn, 1) := by decide +kernel
theorem dX4_leader_0 : decode cX4_leader 0 = .ok (.aload_n 0, 1) := by decide +kernel
theorem dX4_leader_1 : decode cX4_leader 1 = .ok (.iconst 0, 1) := by decide +kernel
theorem dX4_leader_2 : decode cX4_leader 2 = .ok (.putfield 19, 3) := by decide +kernel
theorem dX4_leader_5 : decode cX4_leader 5 = .ok (.iconst (-1), 1) := by decide +kernel
theorem dX4_leader_6 : decode cX4_leader 6 = .ok (.istore_n 1, 1) := by decide +kernel
theorem dX4_leader_7 : decode cX4_leader 7 = .ok (.iconst 0, 1) := by decide +kernel
theorem dX4_leader_8 : decode cX4_leader 8 = .ok (.istore_n 2, 1) := by decide +kernel
theorem dX4_leader_9 : decode cX4_leader 9 = .ok (.iload_n 2, 1) := by decide +kernel
theorem dX4_leader_10 : decode cX4_leader 10 = .ok (.aload_n 0, 1) := by decide +kernel
theorem dX4_leader_11 : decode cX4_leader 11 = .ok (.getfield 10, 3) := by decide +kernel
theorem dX4_leader_14 : decode cX4_leader 14 = .ok (.getfield 23, 3) := by decide +kernel
theorem dX4_leader_17 : decode cX4_leader 17 = .ok (.if_icmp .ge 49, 3) := by decide +kernel
theorem dX4_leader_20 : decode cX4_leader 20 = .ok (.aload_n 0, 1) := by decide +kernel
theorem dX4_leader_21 : decode cX4_leader 21 = .ok (.getfield 10, 3) := by decide +kernel
theorem dX4_leader_24 : decode cX4_leader 24 = .ok (.iload_n 2, 1) := by decide +kernel
theorem dX4_leader_25 : decode cX4_leader 25 = .ok (.iconst 2, 1) := by decide +kernel
theorem dX4_leader_26 : decode cX4_leader 26 = .ok (.invokevirtual 61, 3) := by decide +kernel
theorem dX4_leader_29 : decode cX4_leader 29 = .ok (.ifCond .eq 31, 3) := by decide +kernel
theorem dX4_leader_32 : decode cX4_leader 32 = .ok (.iload_n 1, 1) := by decide +kernel
theorem dX4_leader_33 : decode cX4_leader 33 = .ok (.iconst (-1), 1) := by decide +kernel
theorem dX4_leader_34 : decode cX4_leader 34 = .ok (.if_icmp .eq 24, 3) := by decide +kernel
theorem dX4_leader_37 : decode cX4_leader 37 = .ok (.aload_n 0, 1) := by decide +kernel
theorem dX4_leader_38 : decode cX4_leader 38 = .ok (.getfield 10, 3) := by decide +kernel
theorem dX4_leader_41 : decode cX4_leader 41 = .ok (.getfield 68, 3) := by decide +kernel
theorem dX4_leader_44 : decode cX4_leader 44 = .ok (.iload_n 2, 1) := by decide +kernel
theorem dX4_leader_45 : decode cX4_leader 45 = .ok (.iaload, 1) := by decide +kernel
theorem dX4_leader_46 : decode cX4_leader 46 = .ok (.aload_n 0, 1) := by decide +kernel
theorem dX4_leader_47 : decode cX4_leader 47 = .ok (.getfield 10, 3) := by decide +kernel
theorem dX4_leader_50 : decode cX4_leader 50 = .ok (.getfield 68, 3) := by decide +kernel
theorem dX4_leader_53 : decode cX4_leader 53 = .ok (.iload_n 1, 1) := by decide +kernel
theorem dX4_leader_54 : decode cX4_leader 54 = .ok (.iaload, 1) := by decide +kernel
theorem dX4_leader_55 : decode cX4_leader 55 = .ok (.if_icmp .le 5, 3) := by decide +kernel
theorem dX4_leader_58 : decode cX4_leader 58 = .ok (.iload_n 2, 1) := by decide +kernel
theorem dX4_leader_59 : decode cX4_leader 59 = .ok (.istore_n 1, 1) := by decide +kernel
theorem dX4_leader_60 : decode cX4_leader 60 = .ok (.iinc 2 1, 3) := by decide +kernel
theorem dX4_leader_63 : decode cX4_leader 63 = .ok (.goto (-54), 3) := by decide +kernel
theorem dX4_leader_66 : decode cX4_leader 66 = .ok (.iload_n 1, 1) := by decide +kernel
theorem dX4_leader_67 : decode cX4_leader 67 = .ok (.ireturn, 1) := by decide +kernel
theorem dX4_count_0 : decode cX4_count 0 = .ok (.aload_n 0, 1) := by decide +kernel
theorem dX4_count_1 : decode cX4_count 1 = .ok (.iconst 0, 1) := by decide +kernel
theorem dX4_count_2 : decode cX4_count 2 = .ok (.putfield 19, 3) := by decide +kernel
theorem dX4_count_5 : decode cX4_count 5 = .ok (.iload_n 1, 1) := by decide +kernel
theorem dX4_count_6 : decode cX4_count 6 = .ok (.iconst 0, 1) := by decide +kernel
theorem dX4_count_7 : decode cX4_count 7 = .ok (.bipush 9, 2) := by decide +kernel
theorem dX4_count_9 : decode cX4_count 9 = .ok (.invokestatic 26, 3) := by decide +kernel
theorem dX4_count_12 : decode cX4_count 12 = .ok (.ifCond .eq 14, 3) := by decide +kernel
theorem dX4_count_15 : decode cX4_count 15 = .ok (.aload_n 0, 1) := by decide +kernel
theorem dX4_count_16 : decode cX4_count 16 = .ok (.getfield 10, 3) := by decide +kernel
theorem dX4_count_19 : decode cX4_count 19 = .ok (.iload_n 1, 1) := by decide +kernel
theorem dX4_count_20 : decode cX4_count 20 = .ok (.invokevirtual 107, 3) := by decide +kernel
theorem dX4_count_23 : decode cX4_count 23 = .ok (.goto 8, 3) := by decide +kernel
theorem dX4_count_26 : decode cX4_count 26 = .ok (.aload_n 0, 1) := by decide +kernel
theorem dX4_count_27 : decode cX4_count 27 = .ok (.iconst 1, 1) := by decide +kernel
theorem dX4_count_28 : decode cX4_count 28 = .ok (.invokevirtual 30, 3) := by decide +kernel
theorem dX4_count_31 : decode cX4_count 31 = .ok (.ireturn, 1) := by decide +kernel
theorem dX4_harbourTold_0 : decode cX4_harbourTold 0 = .ok (.iconst 0, 1) := by decide +kernel
theorem dX4_harbourTold_1 : decode cX4_harbourTold 1 = .ok (.istore_n 3, 1) := by decide +kernel
theorem dX4_harbourTold_2 : decode cX4_harbourTold 2 = .ok (.iconst (-1), 1) := by decide +kernel
theorem dX4_harbourTold_3 : decode cX4_harbourTold 3 = .ok (.istore 4, 2) := by decide +kernel
theorem dX4_harbourTold_5 : decode cX4_harbourTold 5 = .ok (.iconst 0, 1) := by decide +kernel
theorem dX4_harbourTold_6 : decode cX4_harbourTold 6 = .ok (.istore 5, 2) := by decide +kernel
theorem dX4_harbourTold_8 : decode cX4_harbourTold 8 = .ok (.iload 5, 2) := by decide +kernel
theorem dX4_harbourTold_10 : decode cX4_harbourTold 10 = .ok (.aload_n 0, 1) := by decide +kernel
theorem dX4_harbourTold_11 : decode cX4_harbourTold 11 = .ok (.getfield 10, 3) := by decide +kernel
theorem dX4_harbourTold_14 : decode cX4_harbourTold 14 = .ok (.getfield 23, 3) := by decide +kernel
theorem dX4_harbourTold_17 : decode cX4_harbourTold 17 = .ok (.if_icmp .ge 66, 3) := by decide +kernel
theorem dX4_harbourTold_20 : decode cX4_harbourTold 20 = .ok (.aload_n 0, 1) := by decide +kernel
theorem dX4_harbourTold_21 : decode cX4_harbourTold 21 = .ok (.getfield 10, 3) := by decide +kernel
theorem dX4_harbourTold_24 : decode cX4_harbourTold 24 = .ok (.getfield 49, 3) := by decide +kernel
theorem dX4_harbourTold_27 : decode cX4_harbourTold 27 = .ok (.iload 5, 2) := by decide +kernel
theorem dX4_harbourTold_29 : decode cX4_harbourTold 29 = .ok (.iaload, 1) := by decide +kernel
theorem dX4_harbourTold_30 : decode cX4_harbourTold 30 = .ok (.ifCond .eq 47, 3) := by decide +kernel
theorem dX4_harbourTold_33 : decode cX4_harbourTold 33 = .ok (.aload_n 0, 1) := by decide +kernel
theorem dX4_harbourTold_34 : decode cX4_harbourTold 34 = .ok (.getfield 10, 3) := by decide +kernel
theorem dX4_harbourTold_37 : decode cX4_harbourTold 37 = .ok (.getfield 46, 3) := by decide +kernel
theorem dX4_harbourTold_40 : decode cX4_harbourTold 40 = .ok (.iload 5, 2) := by decide +kernel
theorem dX4_harbourTold_42 : decode cX4_harbourTold 42 = .ok (.iaload, 1) := by decide +kernel
theorem dX4_harbourTold_43 : decode cX4_harbourTold 43 = .ok (.iload_n 1, 1) := by decide +kernel
theorem dX4_harbourTold_44 : decode cX4_harbourTold 44 = .ok (.if_icmp .eq 6, 3) := by decide +kernel
theorem dX4_harbourTold_47 : decode cX4_harbourTold 47 = .ok (.goto 30, 3) := by decide +kernel
theorem dX4_harbourTold_50 : decode cX4_harbourTold 50 = .ok (.iinc 3 1, 3) := by decide +kernel
theorem dX4_harbourTold_53 : decode cX4_harbourTold 53 = .ok (.iload 4, 2) := by decide +kernel
theorem dX4_harbourTold_55 : decode cX4_harbourTold 55 = .ok (.iconst (-1), 1) := by decide +kernel
theorem dX4_harbourTold_56 : decode cX4_harbourTold 56 = .ok (.if_icmp .eq 17, 3) := by decide +kernel
theorem dX4_harbourTold_59 : decode cX4_harbourTold 59 = .ok (.aload_n 0, 1) := by decide +kernel
theorem dX4_harbourTold_60 : decode cX4_harbourTold 60 = .ok (.getfield 10, 3) := by decide +kernel
theorem dX4_harbourTold_63 : decode cX4_harbourTold 63 = .ok (.iload 4, 2) := by decide +kernel
theorem dX4_harbourTold_65 : decode cX4_harbourTold 65 = .ok (.iload 5, 2) := by decide +kernel
theorem dX4_harbourTold_67 : decode cX4_harbourTold 67 = .ok (.invokevirtual 104, 3) := by decide +kernel
theorem dX4_harbourTold_70 : decode cX4_harbourTold 70 = .ok (.ifCond .ne 7, 3) := by decide +kernel
theorem dX4_harbourTold_73 : decode cX4_harbourTold 73 = .ok (.iload 5, 2) := by decide +kernel
theorem dX4_harbourTold_75 : decode cX4_harbourTold 75 = .ok (.istore 4, 2) := by decide +kernel
theorem dX4_harbourTold_77 : decode cX4_harbourTold 77 = .ok (.iinc 5 1, 3) := by decide +kernel
theorem dX4_harbourTold_80 : decode cX4_harbourTold 80 = .ok (.goto (-72), 3) := by decide +kernel
theorem dX4_harbourTold_83 : decode cX4_harbourTold 83 = .ok (.iload_n 2, 1) := by decide +kernel
theorem dX4_harbourTold_84 : decode cX4_harbourTold 84 = .ok (.ifCond .ne 7, 3) := by decide +kernel
theorem dX4_harbourTold_87 : decode cX4_harbourTold 87 = .ok (.iload_n 3, 1) := by decide +kernel
theorem dX4_harbourTold_88 : decode cX4_harbourTold 88 = .ok (.goto 29, 3) := by decide +kernel
theorem dX4_harbourTold_91 : decode cX4_harbourTold 91 = .ok (.iload_n 2, 1) := by decide +kernel
theorem dX4_harbourTold_92 : decode cX4_harbourTold 92 = .ok (.iconst 1, 1) := by decide +kernel
theorem dX4_harbourTold_93 : decode cX4_harbourTold 93 = .ok (.if_icmp .ne 22, 3) := by decide +kernel
theorem dX4_harbourTold_96 : decode cX4_harbourTold 96 = .ok (.aload_n 0, 1) := by decide +kernel
theorem dX4_harbourTold_97 : decode cX4_harbourTold 97 = .ok (.getfield 10, 3) := by decide +kernel
theorem dX4_harbourTold_100 : decode cX4_harbourTold 100 = .ok (.iload_n 3, 1) := by decide +kernel
theorem dX4_harbourTold_101 : decode cX4_harbourTold 101 = .ok (.invokevirtual 110, 3) := by decide +kernel
theorem dX4_harbourTold_104 : decode cX4_harbourTold 104 = .ok (.ifCond .eq 7, 3) := by decide +kernel
theorem dX4_harbourTold_107 : decode cX4_harbourTold 107 = .ok (.iconst 1, 1) := by decide +kernel
theorem dX4_harbourTold_108 : decode cX4_harbourTold 108 = .ok (.goto 9, 3) := by decide +kernel
theorem dX4_harbourTold_111 : decode cX4_harbourTold 111 = .ok (.iconst 0, 1) := by decide +kernel
theorem dX4_harbourTold_112 : decode cX4_harbourTold 112 = .ok (.goto 5, 3) := by decide +kernel
theorem dX4_harbourTold_115 : decode cX4_harbourTold 115 = .ok (.iload 4, 2) := by decide +kernel
theorem dX4_harbourTold_117 : decode cX4_harbourTold 117 = .ok (.ireturn, 1) := by decide +kernel
theorem dX4_harbour_0 : decode cX4_harbour 0 = .ok (.aload_n 0, 1) := by decide +kernel
theorem dX4_harbour_1 : decode cX4_harbour 1 = .ok (.iconst 0, 1) := by decide +kernel
theorem dX4_harbour_2 : decode cX4_harbour 2 = .ok (.putfield 19, 3) := by decide +kernel
theorem dX4_harbour_5 : decode cX4_harbour 5 = .ok (.iload_n 1, 1) := by decide +kernel
theorem dX4_harbour_6 : decode cX4_harbour 6 = .ok (.iconst 0, 1) := by decide +kernel
theorem dX4_harbour_7 : decode cX4_harbour 7 = .ok (.iconst 2, 1) := by decide +kernel
theorem dX4_harbour_8 : decode cX4_harbour 8 = .ok (.invokestatic 26, 3) := by decide +kernel
theorem dX4_harbour_11 : decode cX4_harbour 11 = .ok (.ifCond .eq 21, 3) := by decide +kernel
theorem dX4_harbour_14 : decode cX4_harbour 14 = .ok (.iload_n 2, 1) := by decide +kernel
theorem dX4_harbour_15 : decode cX4_harbour 15 = .ok (.iconst 0, 1) := by decide +kernel
theorem dX4_harbour_16 : decode cX4_harbour 16 = .ok (.iconst 2, 1) := by decide +kernel
theorem dX4_harbour_17 : decode cX4_harbour 17 = .ok (.invokestatic 26, 3) := by decide +kernel
theorem dX4_harbour_20 : decode cX4_harbour 20 = .ok (.ifCond .eq 12, 3) := by decide +kernel
theorem dX4_harbour_23 : decode cX4_harbour 23 = .ok (.aload_n 0, 1) := by decide +kernel
theorem dX4_harbour_24 : decode cX4_harbour 24 = .ok (.iload_n 1, 1) := by decide +kernel
theorem dX4_harbour_25 : decode cX4_harbour 25 = .ok (.iload_n 2, 1) := by decide +kernel
theorem dX4_harbour_26 : decode cX4_harbour 26 = .ok (.invokevirtual 113, 3) := by decide +kernel
theorem dX4_harbour_29 : decode cX4_harbour 29 = .ok (.goto 8, 3) := by decide +kernel
theorem dX4_harbour_32 : decode cX4_harbour 32 = .ok (.aload_n 0, 1) := by decide +kernel
theorem dX4_harbour_33 : decode cX4_harbour 33 = .ok (.iconst 1, 1) := by decide +kernel
theorem dX4_harbour_34 : decode cX4_harbour 34 = .ok (.invokevirtual 30, 3) := by decide +kernel
theorem dX4_harbour_37 : decode cX4_harbour 37 = .ok (.ireturn, 1) := by decide +kernel
theorem dX4_until_0 : decode cX4_until 0 = .ok (.aload_n 0, 1) := by decide +kernel
theorem dX4_until_1 : decode cX4_until 1 = .ok (.iconst 0, 1) := by decide +kernel
theorem dX4_until_2 : decode cX4_until 2 = .ok (.putfield 19, 3) := by decide +kernel
theorem dX4_until_5 : decode cX4_until 5 = .ok (.aload_n 0, 1) := by decide +kernel
theorem dX4_until_6 : decode cX4_until 6 = .ok (.getfield 16, 3) := by decide +kernel
theorem dX4_until_9 : decode cX4_until 9 = .ok (.aload_n 0, 1) := by decide +kernel
theorem dX4_until_10 : decode cX4_until 10 = .ok (.getfield 10, 3) := by decide +kernel
theorem dX4_until_13 : decode cX4_until 13 = .ok (.invokevirtual 116, 3) := by decide +kernel
theorem dX4_until_16 : decode cX4_until 16 = .ok (.iconst 0, 1) := by decide +kernel
theorem dX4_until_17 : decode cX4_until 17 = .ok (.istore_n 1, 1) := by decide +kernel
theorem dX4_until_18 : decode cX4_until 18 = .ok (.iload_n 1, 1) := by decide +kernel
theorem dX4_until_19 : decode cX4_until 19 = .ok (.bipush 60, 2) := by decide +kernel
theorem dX4_until_21 : decode cX4_until 21 = .ok (.if_icmp .gt 28, 3) := by decide +kernel
theorem dX4_until_24 : decode cX4_until 24 = .ok (.aload_n 0, 1) := by decide +kernel
theorem dX4_until_25 : decode cX4_until 25 = .ok (.getfield 16, 3) := by decide +kernel
theorem dX4_until_28 : decode cX4_until 28 = .ok (.invokevirtual 120, 3) := by decide +kernel
theorem dX4_until_31 : decode cX4_until 31 = .ok (.ifCond .eq 5, 3) := by decide +kernel
theorem dX4_until_34 : decode cX4_until 34 = .ok (.iload_n 1, 1) := by decide +kernel
theorem dX4_until_35 : decode cX4_until 35 = .ok (.ireturn, 1) := by decide +kernel
theorem dX4_until_36 : decode cX4_until 36 = .ok (.aload_n 0, 1) := by decide +kernel
theorem dX4_until_37 : decode cX4_until 37 = .ok (.getfield 16, 3) := by decide +kernel
theorem dX4_until_40 : decode cX4_until 40 = .ok (.invokevirtual 124, 3) := by decide +kernel
theorem dX4_until_43 : decode cX4_until 43 = .ok (.iinc 1 1, 3) := by decide +kernel
theorem dX4_until_46 : decode cX4_until 46 = .ok (.goto (-28), 3) := by decide +kernel
theorem dX4_until_49 : decode cX4_until 49 = .ok (.iconst (-1), 1) := by decide +kernel
theorem dX4_until_50 : decode cX4_until 50 = .ok (.ireturn, 1) := by decide +kernel
theorem dX4_foresee_0 : decode cX4_foresee 0 = .ok (.aload_n 0, 1) := by decide +kernel
theorem dX4_foresee_1 : decode cX4_foresee 1 = .ok (.iconst 0, 1) := by decide +kernel
theorem dX4_foresee_2 : decode cX4_foresee 2 = .ok (.putfield 19, 3) := by decide +kernel
theorem dX4_foresee_5 : decode cX4_foresee 5 = .ok (.iload_n 1, 1) := by decide +kernel
theorem dX4_foresee_6 : decode cX4_foresee 6 = .ok (.iconst 1, 1) := by decide +kernel
theorem dX4_foresee_7 : decode cX4_foresee 7 = .ok (.bipush 50, 2) := by decide +kernel
theorem dX4_foresee_9 : decode cX4_foresee 9 = .ok (.invokestatic 26, 3) := by decide +kernel
theorem dX4_foresee_12 : decode cX4_foresee 12 = .ok (.ifCond .ne 9, 3) := by decide +kernel
theorem dX4_foresee_15 : decode cX4_foresee 15 = .ok (.aload_n 0, 1) := by decide +kernel
theorem dX4_foresee_16 : decode cX4_foresee 16 = .ok (.iconst 1, 1) := by decide +kernel
theorem dX4_foresee_17 : decode cX4_foresee 17 = .ok (.invokevirtual 30, 3) := by decide +kernel
theorem dX4_foresee_20 : decode cX4_foresee 20 = .ok (.ireturn, 1) := by decide +kernel
theorem dX4_foresee_21 : decode cX4_foresee 21 = .ok (.iload_n 2, 1) := by decide +kernel
theorem dX4_foresee_22 : decode cX4_foresee 22 = .ok (.iconst 3, 1) := by decide +kernel
theorem dX4_foresee_23 : decode cX4_foresee 23 = .ok (.bipush 9, 2) := by decide +kernel
theorem dX4_foresee_25 : decode cX4_foresee 25 = .ok (.invokestatic 26, 3) := by decide +kernel
theorem dX4_foresee_28 : decode cX4_foresee 28 = .ok (.ifCond .ne 9, 3) := by decide +kernel
theorem dX4_foresee_31 : decode cX4_foresee 31 = .ok (.aload_n 0, 1) := by decide +kernel
theorem dX4_foresee_32 : decode cX4_foresee 32 = .ok (.iconst 2, 1) := by decide +kernel
theorem dX4_foresee_33 : decode cX4_foresee 33 = .ok (.invokevirtual 30, 3) := by decide +kernel
theorem dX4_foresee_36 : decode cX4_foresee 36 = .ok (.ireturn, 1) := by decide +kernel
theorem dX4_foresee_37 : decode cX4_foresee 37 = .ok (.aload_n 0, 1) := by decide +kernel
theorem dX4_foresee_38 : decode cX4_foresee 38 = .ok (.getfield 16, 3) := by decide +kernel
theorem dX4_foresee_41 : decode cX4_foresee 41 = .ok (.aload_n 0, 1) := by decide +kernel
theorem dX4_foresee_42 : decode cX4_foresee 42 = .ok (.getfield 10, 3) := by decide +kernel
theorem dX4_foresee_45 : decode cX4_foresee 45 = .ok (.invokevirtual 116, 3) := by decide +kernel
theorem dX4_foresee_48 : decode cX4_foresee 48 = .ok (.aload_n 0, 1) := by decide +kernel
theorem dX4_foresee_49 : decode cX4_foresee 49 = .ok (.getfield 16, 3) := by decide +kernel
theorem dX4_foresee_52 : decode cX4_foresee 52 = .ok (.iload_n 1, 1) := by decide +kernel
theorem dX4_foresee_53 : decode cX4_foresee 53 = .ok (.invokevirtual 78, 3) := by decide +kernel
theorem dX4_foresee_56 : decode cX4_foresee 56 = .ok (.aload_n 0, 1) := by decide +kernel
theorem dX4_foresee_57 : decode cX4_foresee 57 = .ok (.getfield 16, 3) := by decide +kernel
theorem dX4_foresee_60 : decode cX4_foresee 60 = .ok (.iload_n 2, 1) := by decide +kernel
theorem dX4_foresee_61 : decode cX4_foresee 61 = .ok (.invokevirtual 107, 3) := by decide +kernel
theorem dX4_foresee_64 : decode cX4_foresee 64 = .ok (.ireturn, 1) := by decide +kernel
theorem dX4_advise_0 : decode cX4_advise 0 = .ok (.aload_n 0, 1) := by decide +kernel
theorem dX4_advise_1 : decode cX4_advise 1 = .ok (.iconst 0, 1) := by decide +kernel
theorem dX4_advise_2 : decode cX4_advise 2 = .ok (.putfield 19, 3) := by decide +kernel
theorem dX4_advise_5 : decode cX4_advise 5 = .ok (.aload_n 0, 1) := by decide +kernel
theorem dX4_advise_6 : decode cX4_advise 6 = .ok (.iload_n 1, 1) := by decide +kernel
theorem dX4_advise_7 : decode cX4_advise 7 = .ok (.invokevirtual 38, 3) := by decide +kernel
theorem dX4_advise_10 : decode cX4_advise 10 = .ok (.ifCond .ne 9, 3) := by decide +kernel
theorem dX4_advise_13 : decode cX4_advise 13 = .ok (.aload_n 0, 1) := by decide +kernel
theorem dX4_advise_14 : decode cX4_advise 14 = .ok (.iconst 1, 1) := by decide +kernel
theorem dX4_advise_15 : decode cX4_advise 15 = .ok (.invokevirtual 30, 3) := by decide +kernel
theorem dX4_advise_18 : decode cX4_advise 18 = .ok (.ireturn, 1) := by decide +kernel
theorem dX4_advise_19 : decode cX4_advise 19 = .ok (.iload_n 2, 1) := by decide +kernel
theorem dX4_advise_20 : decode cX4_advise 20 = .ok (.iconst 1, 1) := by decide +kernel
theorem dX4_advise_21 : decode cX4_advise 21 = .ok (.bipush 20, 2) := by decide +kernel
theorem dX4_advise_23 : decode cX4_advise 23 = .ok (.invokestatic 26, 3) := by decide +kernel
theorem dX4_advise_26 : decode cX4_advise 26 = .ok (.ifCond .ne 9, 3) := by decide +kernel
theorem dX4_advise_29 : decode cX4_advise 29 = .ok (.aload_n 0, 1) := by decide +kernel
theorem dX4_advise_30 : decode cX4_advise 30 = .ok (.iconst 2, 1) := by decide +kernel
theorem dX4_advise_31 : decode cX4_advise 31 = .ok (.invokevirtual 30, 3) := by decide +kernel
theorem dX4_advise_34 : decode cX4_advise 34 = .ok (.ireturn, 1) := by decide +kernel
theorem dX4_advise_35 : decode cX4_advise 35 = .ok (.aload_n 0, 1) := by decide +kernel
theorem dX4_advise_36 : decode cX4_advise 36 = .ok (.getfield 10, 3) := by decide +kernel
theorem dX4_advise_39 : decode cX4_advise 39 = .ok (.getfield 49, 3) := by decide +kernel
theorem dX4_advise_42 : decode cX4_advise 42 = .ok (.iload_n 1, 1) := by decide +kernel
theorem dX4_advise_43 : decode cX4_advise 43 = .ok (.iaload, 1) := by decide +kernel
theorem dX4_advise_44 : decode cX4_advise 44 = .ok (.ifCond .ne 9, 3) := by decide +kernel
theorem dX4_advise_47 : decode cX4_advise 47 = .ok (.aload_n 0, 1) := by decide +kernel
theorem dX4_advise_48 : decode cX4_advise 48 = .ok (.iconst 3, 1) := by decide +kernel
theorem dX4_advise_49 : decode cX4_advise 49 = .ok (.invokevirtual 30, 3) := by decide +kernel
theorem dX4_advise_52 : decode cX4_advise 52 = .ok (.ireturn, 1) := by decide +kernel
theorem dX4_advise_53 : decode cX4_advise 53 = .ok (.iconst 0, 1) := by decide +kernel
theorem dX4_advise_54 : decode cX4_advise 54 = .ok (.istore_n 3, 1) := by decide +kernel
theorem dX4_advise_55 : decode cX4_advise 55 = .ok (.iconst (-1), 1) := by decide +kernel
theorem dX4_advise_56 : decode cX4_advise 56 = .ok (.istore 4, 2) := by decide +kernel
theorem dX4_advise_58 : decode cX4_advise 58 = .ok (.iconst 0, 1) := by decide +kernel
theorem dX4_advise_59 : decode cX4_advise 59 = .ok (.istore 5, 2) := by decide +kernel
theorem dX4_advise_61 : decode cX4_advise 61 = .ok (.iload 5, 2) := by decide +kernel
theorem dX4_advise_63 : decode cX4_advise 63 = .ok (.iconst 3, 1) := by decide +kernel
theorem dX4_advise_64 : decode cX4_advise 64 = .ok (.if_icmp .ge 70, 3) := by decide +kernel
theorem dX4_advise_67 : decode cX4_advise 67 = .ok (.aload_n 0, 1) := by decide +kernel
theorem dX4_advise_68 : decode cX4_advise 68 = .ok (.getfield 16, 3) := by decide +kernel
theorem dX4_advise_71 : decode cX4_advise 71 = .ok (.aload_n 0, 1) := by decide +kernel
theorem dX4_advise_72 : decode cX4_advise 72 = .ok (.getfield 10, 3) := by decide +kernel
theorem dX4_advise_75 : decode cX4_advise 75 = .ok (.invokevirtual 116, 3) := by decide +kernel
theorem dX4_advise_78 : decode cX4_advise 78 = .ok (.aload_n 0, 1) := by decide +kernel
theorem dX4_advise_79 : decode cX4_advise 79 = .ok (.getfield 16, 3) := by decide +kernel
theorem dX4_advise_82 : decode cX4_advise 82 = .ok (.getfield 46, 3) := by decide +kernel
theorem dX4_advise_85 : decode cX4_advise 85 = .ok (.iload_n 1, 1) := by decide +kernel
theorem dX4_advise_86 : decode cX4_advise 86 = .ok (.iload 5, 2) := by decide +kernel
theorem dX4_advise_88 : decode cX4_advise 88 = .ok (.iastore, 1) := by decide +kernel
theorem dX4_advise_89 : decode cX4_advise 89 = .ok (.aload_n 0, 1) := by decide +kernel
theorem dX4_advise_90 : decode cX4_advise 90 = .ok (.getfield 16, 3) := by decide +kernel
theorem dX4_advise_93 : decode cX4_advise 93 = .ok (.iload_n 2, 1) := by decide +kernel
theorem dX4_advise_94 : decode cX4_advise 94 = .ok (.invokevirtual 78, 3) := by decide +kernel
theorem dX4_advise_97 : decode cX4_advise 97 = .ok (.aload_n 0, 1) := by decide +kernel
theorem dX4_advise_98 : decode cX4_advise 98 = .ok (.getfield 16, 3) := by decide +kernel
theorem dX4_advise_101 : decode cX4_advise 101 = .ok (.bipush 8, 2) := by decide +kernel
theorem dX4_advise_103 : decode cX4_advise 103 = .ok (.invokevirtual 107, 3) := by decide +kernel
theorem dX4_advise_106 : decode cX4_advise 106 = .ok (.iload 4, 2) := by decide +kernel
theorem dX4_advise_108 : decode cX4_advise 108 = .ok (.if_icmp .gt 6, 3) := by decide +kernel
theorem dX4_advise_111 : decode cX4_advise 111 = .ok (.goto 17, 3) := by decide +kernel
theorem dX4_advise_114 : decode cX4_advise 114 = .ok (.iload 5, 2) := by decide +kernel
theorem dX4_advise_116 : decode cX4_advise 116 = .ok (.istore_n 3, 1) := by decide +kernel
theorem dX4_advise_117 : decode cX4_advise 117 = .ok (.aload_n 0, 1) := by decide +kernel
theorem dX4_advise_118 : decode cX4_advise 118 = .ok (.getfield 16, 3) := by decide +kernel
theorem dX4_advise_121 : decode cX4_advise 121 = .ok (.bipush 8, 2) := by decide +kernel
theorem dX4_advise_123 : decode cX4_advise 123 = .ok (.invokevirtual 107, 3) := by decide +kernel
theorem dX4_advise_126 : decode cX4_advise 126 = .ok (.istore 4, 2) := by decide +kernel
theorem dX4_advise_128 : decode cX4_advise 128 = .ok (.iinc 5 1, 3) := by decide +kernel
theorem dX4_advise_131 : decode cX4_advise 131 = .ok (.goto (-70), 3) := by decide +kernel
theorem dX4_advise_134 : decode cX4_advise 134 = .ok (.iload_n 3, 1) := by decide +kernel
theorem dX4_advise_135 : decode cX4_advise 135 = .ok (.ireturn, 1) := by decide +kernel
theorem dX4_mean_0 : decode cX4_mean 0 = .ok (.aload_n 0, 1) := by decide +kernel
theorem dX4_mean_1 : decode cX4_mean 1 = .ok (.iconst 0, 1) := by decide +kernel
theorem dX4_mean_2 : decode cX4_mean 2 = .ok (.putfield 19, 3) := by decide +kernel
theorem dX4_mean_5 : decode cX4_mean 5 = .ok (.iconst 0, 1) := by decide +kernel
theorem dX4_mean_6 : decode cX4_mean 6 = .ok (.istore_n 1, 1) := by decide +kernel
theorem dX4_mean_7 : decode cX4_mean 7 = .ok (.iconst 0, 1) := by decide +kernel
theorem dX4_mean_8 : decode cX4_mean 8 = .ok (.istore_n 2, 1) := by decide +kernel
theorem dX4_mean_9 : decode cX4_mean 9 = .ok (.iload_n 2, 1) := by decide +kernel
theorem dX4_mean_10 : decode cX4_mean 10 = .ok (.aload_n 0, 1) := by decide +kernel
theorem dX4_mean_11 : decode cX4_mean 11 = .ok (.getfield 10, 3) := by decide +kernel
theorem dX4_mean_14 : decode cX4_mean 14 = .ok (.getfield 23, 3) := by decide +kernel
theorem dX4_mean_17 : decode cX4_mean 17 = .ok (.if_icmp .ge 21, 3) := by decide +kernel
theorem dX4_mean_20 : decode cX4_mean 20 = .ok (.iload_n 1, 1) := by decide +kernel
theorem dX4_mean_21 : decode cX4_mean 21 = .ok (.aload_n 0, 1) := by decide +kernel
theorem dX4_mean_22 : decode cX4_mean 22 = .ok (.getfield 10, 3) := by decide +kernel
theorem dX4_mean_25 : decode cX4_mean 25 = .ok (.getfield 58, 3) := by decide +kernel
theorem dX4_mean_28 : decode cX4_mean 28 = .ok (.iload_n 2, 1) := by decide +kernel
theorem dX4_mean_29 : decode cX4_mean 29 = .ok (.iaload, 1) := by decide +kernel
theorem dX4_mean_30 : decode cX4_mean 30 = .ok (.iadd, 1) := by decide +kernel
theorem dX4_mean_31 : decode cX4_mean 31 = .ok (.istore_n 1, 1) := by decide +kernel
theorem dX4_mean_32 : decode cX4_mean 32 = .ok (.iinc 2 1, 3) := by decide +kernel
theorem dX4_mean_35 : decode cX4_mean 35 = .ok (.goto (-26), 3) := by decide +kernel
theorem dX4_mean_38 : decode cX4_mean 38 = .ok (.iload_n 1, 1) := by decide +kernel
theorem dX4_mean_39 : decode cX4_mean 39 = .ok (.i2d, 1) := by decide +kernel
theorem dX4_mean_40 : decode cX4_mean 40 = .ok (.aload_n 0, 1) := by decide +kernel
theorem dX4_mean_41 : decode cX4_mean 41 = .ok (.getfield 10, 3) := by decide +kernel
theorem dX4_mean_44 : decode cX4_mean 44 = .ok (.getfield 23, 3) := by decide +kernel
theorem dX4_mean_47 : decode cX4_mean 47 = .ok (.i2d, 1) := by decide +kernel
theorem dX4_mean_48 : decode cX4_mean 48 = .ok (.ddiv, 1) := by decide +kernel
theorem dX4_mean_49 : decode cX4_mean 49 = .ok (.dreturn, 1) := by decide +kernel
theorem dX4_digest_0 : decode cX4_digest 0 = .ok (.aload_n 0, 1) := by decide +kernel
theorem dX4_digest_1 : decode cX4_digest 1 = .ok (.iconst 0, 1) := by decide +kernel
theorem dX4_digest_2 : decode cX4_digest 2 = .ok (.putfield 19, 3) := by decide +kernel
theorem dX4_digest_5 : decode cX4_digest 5 = .ok (.ldc2_w 127, 3) := by decide +kernel
theorem dX4_digest_8 : decode cX4_digest 8 = .ok (.lstore_n 1, 1) := by decide +kernel
theorem dX4_digest_9 : decode cX4_digest 9 = .ok (.iconst 0, 1) := by decide +kernel
theorem dX4_digest_10 : decode cX4_digest 10 = .ok (.istore_n 3, 1) := by decide +kernel
theorem dX4_digest_11 : decode cX4_digest 11 = .ok (.iload_n 3, 1) := by decide +kernel
theorem dX4_digest_12 : decode cX4_digest 12 = .ok (.bipush 9, 2) := by decide +kernel
theorem dX4_digest_14 : decode cX4_digest 14 = .ok (.if_icmp .gt 25, 3) := by decide +kernel
theorem dX4_digest_17 : decode cX4_digest 17 = .ok (.lload_n 1, 1) := by decide +kernel
theorem dX4_digest_18 : decode cX4_digest 18 = .ok (.ldc2_w 129, 3) := by decide +kernel
theorem dX4_digest_21 : decode cX4_digest 21 = .ok (.lmul, 1) := by decide +kernel
theorem dX4_digest_22 : decode cX4_digest 22 = .ok (.aload_n 0, 1) := by decide +kernel
theorem dX4_digest_23 : decode cX4_digest 23 = .ok (.getfield 10, 3) := by decide +kernel
theorem dX4_digest_26 : decode cX4_digest 26 = .ok (.iload_n 3, 1) := by decide +kernel
theorem dX4_digest_27 : decode cX4_digest 27 = .ok (.invokevirtual 107, 3) := by decide +kernel
theorem dX4_digest_30 : decode cX4_digest 30 = .ok (.i2l, 1) := by decide +kernel
theorem dX4_digest_31 : decode cX4_digest 31 = .ok (.ladd, 1) := by decide +kernel
theorem dX4_digest_32 : decode cX4_digest 32 = .ok (.lstore_n 1, 1) := by decide +kernel
theorem dX4_digest_33 : decode cX4_digest 33 = .ok (.iinc 3 1, 3) := by decide +kernel
theorem dX4_digest_36 : decode cX4_digest 36 = .ok (.goto (-25), 3) := by decide +kernel
theorem dX4_digest_39 : decode cX4_digest 39 = .ok (.iconst 0, 1) := by decide +kernel
theorem dX4_digest_40 : decode cX4_digest 40 = .ok (.istore_n 3, 1) := by decide +kernel
theorem dX4_digest_41 : decode cX4_digest 41 = .ok (.iload_n 3, 1) := by decide +kernel
theorem dX4_digest_42 : decode cX4_digest 42 = .ok (.aload_n 0, 1) := by decide +kernel
theorem dX4_digest_43 : decode cX4_digest 43 = .ok (.getfield 10, 3) := by decide +kernel
theorem dX4_digest_46 : decode cX4_digest 46 = .ok (.getfield 23, 3) := by decide +kernel
theorem dX4_digest_49 : decode cX4_digest 49 = .ok (.if_icmp .ge 95, 3) := by decide +kernel
theorem dX4_digest_52 : decode cX4_digest 52 = .ok (.iconst 0, 1) := by decide +kernel
theorem dX4_digest_53 : decode cX4_digest 53 = .ok (.istore 4, 2) := by decide +kernel
theorem dX4_digest_55 : decode cX4_digest 55 = .ok (.iload 4, 2) := by decide +kernel
theorem dX4_digest_57 : decode cX4_digest 57 = .ok (.bipush 9, 2) := by decide +kernel
theorem dX4_digest_59 : decode cX4_digest 59 = .ok (.if_icmp .gt 24, 3) := by decide +kernel
theorem dX4_digest_62 : decode cX4_digest 62 = .ok (.lload_n 1, 1) := by decide +kernel
theorem dX4_digest_63 : decode cX4_digest 63 = .ok (.ldc2_w 129, 3) := by decide +kernel
theorem dX4_digest_66 : decode cX4_digest 66 = .ok (.lmul, 1) := by decide +kernel
theorem dX4_digest_67 : decode cX4_digest 67 = .ok (.aload_n 0, 1) := by decide +kernel
theorem dX4_digest_68 : decode cX4_digest 68 = .ok (.iload_n 3, 1) := by decide +kernel
theorem dX4_digest_69 : decode cX4_digest 69 = .ok (.iload 4, 2) := by decide +kernel
theorem dX4_digest_71 : decode cX4_digest 71 = .ok (.invokevirtual 87, 3) := by decide +kernel
theorem dX4_digest_74 : decode cX4_digest 74 = .ok (.i2l, 1) := by decide +kernel
theorem dX4_digest_75 : decode cX4_digest 75 = .ok (.ladd, 1) := by decide +kernel
theorem dX4_digest_76 : decode cX4_digest 76 = .ok (.lstore_n 1, 1) := by decide +kernel
theorem dX4_digest_77 : decode cX4_digest 77 = .ok (.iinc 4 1, 3) := by decide +kernel
theorem dX4_digest_80 : decode cX4_digest 80 = .ok (.goto (-25), 3) := by decide +kernel
theorem dX4_digest_83 : decode cX4_digest 83 = .ok (.iconst 0, 1) := by decide +kernel
theorem dX4_digest_84 : decode cX4_digest 84 = .ok (.istore 4, 2) := by decide +kernel
theorem dX4_digest_86 : decode cX4_digest 86 = .ok (.iload 4, 2) := by decide +kernel
theorem dX4_digest_88 : decode cX4_digest 88 = .ok (.aload_n 0, 1) := by decide +kernel
theorem dX4_digest_89 : decode cX4_digest 89 = .ok (.getfield 10, 3) := by decide +kernel
theorem dX4_digest_92 : decode cX4_digest 92 = .ok (.getfield 65, 3) := by decide +kernel
theorem dX4_digest_95 : decode cX4_digest 95 = .ok (.iload_n 3, 1) := by decide +kernel
theorem dX4_digest_96 : decode cX4_digest 96 = .ok (.iaload, 1) := by decide +kernel
theorem dX4_digest_97 : decode cX4_digest 97 = .ok (.if_icmp .ge 41, 3) := by decide +kernel
theorem dX4_digest_100 : decode cX4_digest 100 = .ok (.iconst 0, 1) := by decide +kernel
theorem dX4_digest_101 : decode cX4_digest 101 = .ok (.istore 5, 2) := by decide +kernel
theorem dX4_digest_103 : decode cX4_digest 103 = .ok (.iload 5, 2) := by decide +kernel
theorem dX4_digest_105 : decode cX4_digest 105 = .ok (.iconst 2, 1) := by decide +kernel
theorem dX4_digest_106 : decode cX4_digest 106 = .ok (.if_icmp .gt 26, 3) := by decide +kernel
theorem dX4_digest_109 : decode cX4_digest 109 = .ok (.lload_n 1, 1) := by decide +kernel
theorem dX4_digest_110 : decode cX4_digest 110 = .ok (.ldc2_w 129, 3) := by decide +kernel
theorem dX4_digest_113 : decode cX4_digest 113 = .ok (.lmul, 1) := by decide +kernel
theorem dX4_digest_114 : decode cX4_digest 114 = .ok (.aload_n 0, 1) := by decide +kernel
theorem dX4_digest_115 : decode cX4_digest 115 = .ok (.iload_n 3, 1) := by decide +kernel
theorem dX4_digest_116 : decode cX4_digest 116 = .ok (.iload 4, 2) := by decide +kernel
theorem dX4_digest_118 : decode cX4_digest 118 = .ok (.iload 5, 2) := by decide +kernel
theorem dX4_digest_120 : decode cX4_digest 120 = .ok (.invokevirtual 100, 3) := by decide +kernel
theorem dX4_digest_123 : decode cX4_digest 123 = .ok (.i2l, 1) := by decide +kernel
theorem dX4_digest_124 : decode cX4_digest 124 = .ok (.ladd, 1) := by decide +kernel
theorem dX4_digest_125 : decode cX4_digest 125 = .ok (.lstore_n 1, 1) := by decide +kernel
theorem dX4_digest_126 : decode cX4_digest 126 = .ok (.iinc 5 1, 3) := by decide +kernel
theorem dX4_digest_129 : decode cX4_digest 129 = .ok (.goto (-26), 3) := by decide +kernel
theorem dX4_digest_132 : decode cX4_digest 132 = .ok (.iinc 4 1, 3) := by decide +kernel
theorem dX4_digest_135 : decode cX4_digest 135 = .ok (.goto (-49), 3) := by decide +kernel
theorem dX4_digest_138 : decode cX4_digest 138 = .ok (.iinc 3 1, 3) := by decide +kernel
theorem dX4_digest_141 : decode cX4_digest 141 = .ok (.goto (-100), 3) := by decide +kernel
theorem dX4_digest_144 : decode cX4_digest 144 = .ok (.lload_n 1, 1) := by decide +kernel
theorem dX4_digest_145 : decode cX4_digest 145 = .ok (.lreturn, 1) := by decide +kernel
