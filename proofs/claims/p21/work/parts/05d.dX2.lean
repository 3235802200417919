theorem dX2_init_0 : decode cX2_init 0 = .ok (.aload_n 0, 1) := by decide +kernel
theorem dX2_init_1 : decode cX2_init 1 = .ok (.invokespecial 1, 3) := by decide +kernel
theorem dX2_init_4 : decode cX2_init 4 = .ok (.aload_n 0, 1) := by decide +kernel
theorem dX2_init_5 : decode cX2_init 5 = .ok (.new 7, 3) := by decide +kernel
theorem dX2_init_8 : decode cX2_init 8 = .ok (.dup, 1) := by decide +kernel
theorem dX2_init_9 : decode cX2_init 9 = .ok (.invokespecial 9, 3) := by decide +kernel
theorem dX2_init_12 : decode cX2_init 12 = .ok (.putfield 10, 3) := by decide +kernel
theorem dX2_init_15 : decode cX2_init 15 = .ok (.aload_n 0, 1) := by decide +kernel
theorem dX2_init_16 : decode cX2_init 16 = .ok (.new 7, 3) := by decide +kernel
theorem dX2_init_19 : decode cX2_init 19 = .ok (.dup, 1) := by decide +kernel
theorem dX2_init_20 : decode cX2_init 20 = .ok (.invokespecial 9, 3) := by decide +kernel
theorem dX2_init_23 : decode cX2_init 23 = .ok (.putfield 16, 3) := by decide +kernel
theorem dX2_init_26 : decode cX2_init 26 = .ok (.aload_n 0, 1) := by decide +kernel
theorem dX2_init_27 : decode cX2_init 27 = .ok (.getfield 10, 3) := by decide +kernel
theorem dX2_init_30 : decode cX2_init 30 = .ok (.iconst 5, 1) := by decide +kernel
theorem dX2_init_31 : decode cX2_init 31 = .ok (.invokevirtual 19, 3) := by decide +kernel
theorem dX2_init_34 : decode cX2_init 34 = .ok (.return_, 1) := by decide +kernel
theorem dX2_fleet_0 : decode cX2_fleet 0 = .ok (.iload_n 1, 1) := by decide +kernel
theorem dX2_fleet_1 : decode cX2_fleet 1 = .ok (.iconst 3, 1) := by decide +kernel
theorem dX2_fleet_2 : decode cX2_fleet 2 = .ok (.if_icmp .lt 9, 3) := by decide +kernel
theorem dX2_fleet_5 : decode cX2_fleet 5 = .ok (.iload_n 1, 1) := by decide +kernel
theorem dX2_fleet_6 : decode cX2_fleet 6 = .ok (.bipush 7, 2) := by decide +kernel
theorem dX2_fleet_8 : decode cX2_fleet 8 = .ok (.if_icmp .le 13, 3) := by decide +kernel
theorem dX2_fleet_11 : decode cX2_fleet 11 = .ok (.new 23, 3) := by decide +kernel
theorem dX2_fleet_14 : decode cX2_fleet 14 = .ok (.dup, 1) := by decide +kernel
theorem dX2_fleet_15 : decode cX2_fleet 15 = .ok (.ldc 25, 2) := by decide +kernel
theorem dX2_fleet_17 : decode cX2_fleet 17 = .ok (.invokespecial 27, 3) := by decide +kernel
theorem dX2_fleet_20 : decode cX2_fleet 20 = .ok (.athrow, 1) := by decide +kernel
theorem dX2_fleet_21 : decode cX2_fleet 21 = .ok (.aload_n 0, 1) := by decide +kernel
theorem dX2_fleet_22 : decode cX2_fleet 22 = .ok (.getfield 10, 3) := by decide +kernel
theorem dX2_fleet_25 : decode cX2_fleet 25 = .ok (.iload_n 1, 1) := by decide +kernel
theorem dX2_fleet_26 : decode cX2_fleet 26 = .ok (.invokevirtual 19, 3) := by decide +kernel
theorem dX2_fleet_29 : decode cX2_fleet 29 = .ok (.iload_n 1, 1) := by decide +kernel
theorem dX2_fleet_30 : decode cX2_fleet 30 = .ok (.iconst 2, 1) := by decide +kernel
theorem dX2_fleet_31 : decode cX2_fleet 31 = .ok (.idiv, 1) := by decide +kernel
theorem dX2_fleet_32 : decode cX2_fleet 32 = .ok (.iconst 1, 1) := by decide +kernel
theorem dX2_fleet_33 : decode cX2_fleet 33 = .ok (.iadd, 1) := by decide +kernel
theorem dX2_fleet_34 : decode cX2_fleet 34 = .ok (.ireturn, 1) := by decide +kernel
theorem dX2_setPatience_0 : decode cX2_setPatience 0 = .ok (.aload_n 0, 1) := by decide +kernel
theorem dX2_setPatience_1 : decode cX2_setPatience 1 = .ok (.iload_n 1, 1) := by decide +kernel
theorem dX2_setPatience_2 : decode cX2_setPatience 2 = .ok (.invokevirtual 30, 3) := by decide +kernel
theorem dX2_setPatience_5 : decode cX2_setPatience 5 = .ok (.iload_n 2, 1) := by decide +kernel
theorem dX2_setPatience_6 : decode cX2_setPatience 6 = .ok (.iconst 2, 1) := by decide +kernel
theorem dX2_setPatience_7 : decode cX2_setPatience 7 = .ok (.if_icmp .lt 9, 3) := by decide +kernel
theorem dX2_setPatience_10 : decode cX2_setPatience 10 = .ok (.iload_n 2, 1) := by decide +kernel
theorem dX2_setPatience_11 : decode cX2_setPatience 11 = .ok (.bipush 9, 2) := by decide +kernel
theorem dX2_setPatience_13 : decode cX2_setPatience 13 = .ok (.if_icmp .le 13, 3) := by decide +kernel
theorem dX2_setPatience_16 : decode cX2_setPatience 16 = .ok (.new 23, 3) := by decide +kernel
theorem dX2_setPatience_19 : decode cX2_setPatience 19 = .ok (.dup, 1) := by decide +kernel
theorem dX2_setPatience_20 : decode cX2_setPatience 20 = .ok (.ldc 33, 2) := by decide +kernel
theorem dX2_setPatience_22 : decode cX2_setPatience 22 = .ok (.invokespecial 27, 3) := by decide +kernel
theorem dX2_setPatience_25 : decode cX2_setPatience 25 = .ok (.athrow, 1) := by decide +kernel
theorem dX2_setPatience_26 : decode cX2_setPatience 26 = .ok (.aload_n 0, 1) := by decide +kernel
theorem dX2_setPatience_27 : decode cX2_setPatience 27 = .ok (.getfield 10, 3) := by decide +kernel
theorem dX2_setPatience_30 : decode cX2_setPatience 30 = .ok (.getfield 35, 3) := by decide +kernel
theorem dX2_setPatience_33 : decode cX2_setPatience 33 = .ok (.iload_n 1, 1) := by decide +kernel
theorem dX2_setPatience_34 : decode cX2_setPatience 34 = .ok (.iaload, 1) := by decide +kernel
theorem dX2_setPatience_35 : decode cX2_setPatience 35 = .ok (.istore_n 3, 1) := by decide +kernel
theorem dX2_setPatience_36 : decode cX2_setPatience 36 = .ok (.aload_n 0, 1) := by decide +kernel
theorem dX2_setPatience_37 : decode cX2_setPatience 37 = .ok (.getfield 10, 3) := by decide +kernel
theorem dX2_setPatience_40 : decode cX2_setPatience 40 = .ok (.getfield 35, 3) := by decide +kernel
theorem dX2_setPatience_43 : decode cX2_setPatience 43 = .ok (.iload_n 1, 1) := by decide +kernel
theorem dX2_setPatience_44 : decode cX2_setPatience 44 = .ok (.iload_n 2, 1) := by decide +kernel
theorem dX2_setPatience_45 : decode cX2_setPatience 45 = .ok (.iastore, 1) := by decide +kernel
theorem dX2_setPatience_46 : decode cX2_setPatience 46 = .ok (.iload_n 3, 1) := by decide +kernel
theorem dX2_setPatience_47 : decode cX2_setPatience 47 = .ok (.ireturn, 1) := by decide +kernel
theorem dX2_go_0 : decode cX2_go 0 = .ok (.aload_n 0, 1) := by decide +kernel
theorem dX2_go_1 : decode cX2_go 1 = .ok (.iload_n 1, 1) := by decide +kernel
theorem dX2_go_2 : decode cX2_go 2 = .ok (.invokevirtual 30, 3) := by decide +kernel
theorem dX2_go_5 : decode cX2_go 5 = .ok (.aload_n 0, 1) := by decide +kernel
theorem dX2_go_6 : decode cX2_go 6 = .ok (.iload_n 2, 1) := by decide +kernel
theorem dX2_go_7 : decode cX2_go 7 = .ok (.iconst 3, 1) := by decide +kernel
theorem dX2_go_8 : decode cX2_go 8 = .ok (.invokevirtual 39, 3) := by decide +kernel
theorem dX2_go_11 : decode cX2_go 11 = .ok (.aload_n 0, 1) := by decide +kernel
theorem dX2_go_12 : decode cX2_go 12 = .ok (.getfield 10, 3) := by decide +kernel
theorem dX2_go_15 : decode cX2_go 15 = .ok (.getfield 43, 3) := by decide +kernel
theorem dX2_go_18 : decode cX2_go 18 = .ok (.iload_n 1, 1) := by decide +kernel
theorem dX2_go_19 : decode cX2_go 19 = .ok (.iaload, 1) := by decide +kernel
theorem dX2_go_20 : decode cX2_go 20 = .ok (.istore_n 3, 1) := by decide +kernel
theorem dX2_go_21 : decode cX2_go 21 = .ok (.aload_n 0, 1) := by decide +kernel
theorem dX2_go_22 : decode cX2_go 22 = .ok (.getfield 10, 3) := by decide +kernel
theorem dX2_go_25 : decode cX2_go 25 = .ok (.getfield 43, 3) := by decide +kernel
theorem dX2_go_28 : decode cX2_go 28 = .ok (.iload_n 1, 1) := by decide +kernel
theorem dX2_go_29 : decode cX2_go 29 = .ok (.iload_n 2, 1) := by decide +kernel
theorem dX2_go_30 : decode cX2_go 30 = .ok (.iastore, 1) := by decide +kernel
theorem dX2_go_31 : decode cX2_go 31 = .ok (.iload_n 3, 1) := by decide +kernel
theorem dX2_go_32 : decode cX2_go 32 = .ok (.ireturn, 1) := by decide +kernel
theorem dX2_sink_0 : decode cX2_sink 0 = .ok (.aload_n 0, 1) := by decide +kernel
theorem dX2_sink_1 : decode cX2_sink 1 = .ok (.iload_n 1, 1) := by decide +kernel
theorem dX2_sink_2 : decode cX2_sink 2 = .ok (.invokevirtual 30, 3) := by decide +kernel
theorem dX2_sink_5 : decode cX2_sink 5 = .ok (.aload_n 0, 1) := by decide +kernel
theorem dX2_sink_6 : decode cX2_sink 6 = .ok (.getfield 10, 3) := by decide +kernel
theorem dX2_sink_9 : decode cX2_sink 9 = .ok (.getfield 46, 3) := by decide +kernel
theorem dX2_sink_12 : decode cX2_sink 12 = .ok (.iload_n 1, 1) := by decide +kernel
theorem dX2_sink_13 : decode cX2_sink 13 = .ok (.baload, 1) := by decide +kernel
theorem dX2_sink_14 : decode cX2_sink 14 = .ok (.ifCond .eq 16, 3) := by decide +kernel
theorem dX2_sink_17 : decode cX2_sink 17 = .ok (.aload_n 0, 1) := by decide +kernel
theorem dX2_sink_18 : decode cX2_sink 18 = .ok (.getfield 10, 3) := by decide +kernel
theorem dX2_sink_21 : decode cX2_sink 21 = .ok (.getfield 46, 3) := by decide +kernel
theorem dX2_sink_24 : decode cX2_sink 24 = .ok (.iload_n 1, 1) := by decide +kernel
theorem dX2_sink_25 : decode cX2_sink 25 = .ok (.iconst 0, 1) := by decide +kernel
theorem dX2_sink_26 : decode cX2_sink 26 = .ok (.bastore, 1) := by decide +kernel
theorem dX2_sink_27 : decode cX2_sink 27 = .ok (.goto 11, 3) := by decide +kernel
theorem dX2_sink_30 : decode cX2_sink 30 = .ok (.aload_n 0, 1) := by decide +kernel
theorem dX2_sink_31 : decode cX2_sink 31 = .ok (.getfield 10, 3) := by decide +kernel
theorem dX2_sink_34 : decode cX2_sink 34 = .ok (.iload_n 1, 1) := by decide +kernel
theorem dX2_sink_35 : decode cX2_sink 35 = .ok (.invokevirtual 50, 3) := by decide +kernel
theorem dX2_sink_38 : decode cX2_sink 38 = .ok (.aload_n 0, 1) := by decide +kernel
theorem dX2_sink_39 : decode cX2_sink 39 = .ok (.getfield 10, 3) := by decide +kernel
theorem dX2_sink_42 : decode cX2_sink 42 = .ok (.getfield 46, 3) := by decide +kernel
theorem dX2_sink_45 : decode cX2_sink 45 = .ok (.iload_n 1, 1) := by decide +kernel
theorem dX2_sink_46 : decode cX2_sink 46 = .ok (.baload, 1) := by decide +kernel
theorem dX2_sink_47 : decode cX2_sink 47 = .ok (.ireturn, 1) := by decide +kernel
theorem dX2_write_0 : decode cX2_write 0 = .ok (.aload_n 0, 1) := by decide +kernel
theorem dX2_write_1 : decode cX2_write 1 = .ok (.iload_n 1, 1) := by decide +kernel
theorem dX2_write_2 : decode cX2_write 2 = .ok (.invokevirtual 30, 3) := by decide +kernel
theorem dX2_write_5 : decode cX2_write 5 = .ok (.iload_n 2, 1) := by decide +kernel
theorem dX2_write_6 : decode cX2_write 6 = .ok (.ifCond .lt 9, 3) := by decide +kernel
theorem dX2_write_9 : decode cX2_write 9 = .ok (.iload_n 2, 1) := by decide +kernel
theorem dX2_write_10 : decode cX2_write 10 = .ok (.bipush 99, 2) := by decide +kernel
theorem dX2_write_12 : decode cX2_write 12 = .ok (.if_icmp .le 13, 3) := by decide +kernel
theorem dX2_write_15 : decode cX2_write 15 = .ok (.new 23, 3) := by decide +kernel
theorem dX2_write_18 : decode cX2_write 18 = .ok (.dup, 1) := by decide +kernel
theorem dX2_write_19 : decode cX2_write 19 = .ok (.ldc 53, 2) := by decide +kernel
theorem dX2_write_21 : decode cX2_write 21 = .ok (.invokespecial 27, 3) := by decide +kernel
theorem dX2_write_24 : decode cX2_write 24 = .ok (.athrow, 1) := by decide +kernel
theorem dX2_write_25 : decode cX2_write 25 = .ok (.aload_n 0, 1) := by decide +kernel
theorem dX2_write_26 : decode cX2_write 26 = .ok (.getfield 10, 3) := by decide +kernel
theorem dX2_write_29 : decode cX2_write 29 = .ok (.iload_n 1, 1) := by decide +kernel
theorem dX2_write_30 : decode cX2_write 30 = .ok (.invokevirtual 55, 3) := by decide +kernel
theorem dX2_write_33 : decode cX2_write 33 = .ok (.ifCond .ne 13, 3) := by decide +kernel
theorem dX2_write_36 : decode cX2_write 36 = .ok (.new 59, 3) := by decide +kernel
theorem dX2_write_39 : decode cX2_write 39 = .ok (.dup, 1) := by decide +kernel
theorem dX2_write_40 : decode cX2_write 40 = .ok (.ldc 61, 2) := by decide +kernel
theorem dX2_write_42 : decode cX2_write 42 = .ok (.invokespecial 63, 3) := by decide +kernel
theorem dX2_write_45 : decode cX2_write 45 = .ok (.athrow, 1) := by decide +kernel
theorem dX2_write_46 : decode cX2_write 46 = .ok (.aload_n 0, 1) := by decide +kernel
theorem dX2_write_47 : decode cX2_write 47 = .ok (.getfield 10, 3) := by decide +kernel
theorem dX2_write_50 : decode cX2_write 50 = .ok (.getfield 64, 3) := by decide +kernel
theorem dX2_write_53 : decode cX2_write 53 = .ok (.getfield 68, 3) := by decide +kernel
theorem dX2_write_56 : decode cX2_write 56 = .ok (.iload_n 1, 1) := by decide +kernel
theorem dX2_write_57 : decode cX2_write 57 = .ok (.iaload, 1) := by decide +kernel
theorem dX2_write_58 : decode cX2_write 58 = .ok (.bipush 10, 2) := by decide +kernel
theorem dX2_write_60 : decode cX2_write 60 = .ok (.if_icmp .lt 13, 3) := by decide +kernel
theorem dX2_write_63 : decode cX2_write 63 = .ok (.new 59, 3) := by decide +kernel
theorem dX2_write_66 : decode cX2_write 66 = .ok (.dup, 1) := by decide +kernel
theorem dX2_write_67 : decode cX2_write 67 = .ok (.ldc 73, 2) := by decide +kernel
theorem dX2_write_69 : decode cX2_write 69 = .ok (.invokespecial 63, 3) := by decide +kernel
theorem dX2_write_72 : decode cX2_write 72 = .ok (.athrow, 1) := by decide +kernel
theorem dX2_write_73 : decode cX2_write 73 = .ok (.aload_n 0, 1) := by decide +kernel
theorem dX2_write_74 : decode cX2_write 74 = .ok (.getfield 10, 3) := by decide +kernel
theorem dX2_write_77 : decode cX2_write 77 = .ok (.getfield 64, 3) := by decide +kernel
theorem dX2_write_80 : decode cX2_write 80 = .ok (.iload_n 1, 1) := by decide +kernel
theorem dX2_write_81 : decode cX2_write 81 = .ok (.aload_n 0, 1) := by decide +kernel
theorem dX2_write_82 : decode cX2_write 82 = .ok (.getfield 10, 3) := by decide +kernel
theorem dX2_write_85 : decode cX2_write 85 = .ok (.getfield 75, 3) := by decide +kernel
theorem dX2_write_88 : decode cX2_write 88 = .ok (.iload_n 1, 1) := by decide +kernel
theorem dX2_write_89 : decode cX2_write 89 = .ok (.iaload, 1) := by decide +kernel
theorem dX2_write_90 : decode cX2_write 90 = .ok (.iload_n 2, 1) := by decide +kernel
theorem dX2_write_91 : decode cX2_write 91 = .ok (.invokevirtual 78, 3) := by decide +kernel
theorem dX2_write_94 : decode cX2_write 94 = .ok (.aload_n 0, 1) := by decide +kernel
theorem dX2_write_95 : decode cX2_write 95 = .ok (.getfield 10, 3) := by decide +kernel
theorem dX2_write_98 : decode cX2_write 98 = .ok (.getfield 64, 3) := by decide +kernel
theorem dX2_write_101 : decode cX2_write 101 = .ok (.getfield 68, 3) := by decide +kernel
theorem dX2_write_104 : decode cX2_write 104 = .ok (.iload_n 1, 1) := by decide +kernel
theorem dX2_write_105 : decode cX2_write 105 = .ok (.iaload, 1) := by decide +kernel
theorem dX2_write_106 : decode cX2_write 106 = .ok (.iconst 1, 1) := by decide +kernel
theorem dX2_write_107 : decode cX2_write 107 = .ok (.isub, 1) := by decide +kernel
theorem dX2_write_108 : decode cX2_write 108 = .ok (.ireturn, 1) := by decide +kernel
theorem dX2_pass_0 : decode cX2_pass 0 = .ok (.aload_n 0, 1) := by decide +kernel
theorem dX2_pass_1 : decode cX2_pass 1 = .ok (.iload_n 1, 1) := by decide +kernel
theorem dX2_pass_2 : decode cX2_pass 2 = .ok (.bipush 50, 2) := by decide +kernel
theorem dX2_pass_4 : decode cX2_pass 4 = .ok (.invokevirtual 82, 3) := by decide +kernel
theorem dX2_pass_7 : decode cX2_pass 7 = .ok (.aload_n 0, 1) := by decide +kernel
theorem dX2_pass_8 : decode cX2_pass 8 = .ok (.getfield 10, 3) := by decide +kernel
theorem dX2_pass_11 : decode cX2_pass 11 = .ok (.getfield 85, 3) := by decide +kernel
theorem dX2_pass_14 : decode cX2_pass 14 = .ok (.istore_n 2, 1) := by decide +kernel
theorem dX2_pass_15 : decode cX2_pass 15 = .ok (.aload_n 0, 1) := by decide +kernel
theorem dX2_pass_16 : decode cX2_pass 16 = .ok (.getfield 10, 3) := by decide +kernel
theorem dX2_pass_19 : decode cX2_pass 19 = .ok (.iload_n 1, 1) := by decide +kernel
theorem dX2_pass_20 : decode cX2_pass 20 = .ok (.invokevirtual 89, 3) := by decide +kernel
theorem dX2_pass_23 : decode cX2_pass 23 = .ok (.aload_n 0, 1) := by decide +kernel
theorem dX2_pass_24 : decode cX2_pass 24 = .ok (.getfield 10, 3) := by decide +kernel
theorem dX2_pass_27 : decode cX2_pass 27 = .ok (.getfield 85, 3) := by decide +kernel
theorem dX2_pass_30 : decode cX2_pass 30 = .ok (.iload_n 2, 1) := by decide +kernel
theorem dX2_pass_31 : decode cX2_pass 31 = .ok (.isub, 1) := by decide +kernel
theorem dX2_pass_32 : decode cX2_pass 32 = .ok (.ireturn, 1) := by decide +kernel
theorem dX2_told_0 : decode cX2_told 0 = .ok (.aload_n 0, 1) := by decide +kernel
theorem dX2_told_1 : decode cX2_told 1 = .ok (.iload_n 1, 1) := by decide +kernel
theorem dX2_told_2 : decode cX2_told 2 = .ok (.invokevirtual 30, 3) := by decide +kernel
theorem dX2_told_5 : decode cX2_told 5 = .ok (.aload_n 0, 1) := by decide +kernel
theorem dX2_told_6 : decode cX2_told 6 = .ok (.iload_n 2, 1) := by decide +kernel
theorem dX2_told_7 : decode cX2_told 7 = .ok (.bipush 10, 2) := by decide +kernel
theorem dX2_told_9 : decode cX2_told 9 = .ok (.invokevirtual 39, 3) := by decide +kernel
theorem dX2_told_12 : decode cX2_told 12 = .ok (.aload_n 0, 1) := by decide +kernel
theorem dX2_told_13 : decode cX2_told 13 = .ok (.getfield 10, 3) := by decide +kernel
theorem dX2_told_16 : decode cX2_told 16 = .ok (.iload_n 1, 1) := by decide +kernel
theorem dX2_told_17 : decode cX2_told 17 = .ok (.iload_n 2, 1) := by decide +kernel
theorem dX2_told_18 : decode cX2_told 18 = .ok (.invokevirtual 92, 3) := by decide +kernel
theorem dX2_told_21 : decode cX2_told 21 = .ok (.ireturn, 1) := by decide +kernel
theorem dX2_entry_0 : decode cX2_entry 0 = .ok (.aload_n 0, 1) := by decide +kernel
theorem dX2_entry_1 : decode cX2_entry 1 = .ok (.iload_n 1, 1) := by decide +kernel
theorem dX2_entry_2 : decode cX2_entry 2 = .ok (.invokevirtual 30, 3) := by decide +kernel
theorem dX2_entry_5 : decode cX2_entry 5 = .ok (.aload_n 0, 1) := by decide +kernel
theorem dX2_entry_6 : decode cX2_entry 6 = .ok (.iload_n 2, 1) := by decide +kernel
theorem dX2_entry_7 : decode cX2_entry 7 = .ok (.aload_n 0, 1) := by decide +kernel
theorem dX2_entry_8 : decode cX2_entry 8 = .ok (.getfield 10, 3) := by decide +kernel
theorem dX2_entry_11 : decode cX2_entry 11 = .ok (.getfield 64, 3) := by decide +kernel
theorem dX2_entry_14 : decode cX2_entry 14 = .ok (.getfield 68, 3) := by decide +kernel
theorem dX2_entry_17 : decode cX2_entry 17 = .ok (.iload_n 1, 1) := by decide +kernel
theorem dX2_entry_18 : decode cX2_entry 18 = .ok (.iaload, 1) := by decide +kernel
theorem dX2_entry_19 : decode cX2_entry 19 = .ok (.invokevirtual 39, 3) := by decide +kernel
theorem dX2_entry_22 : decode cX2_entry 22 = .ok (.aload_n 0, 1) := by decide +kernel
theorem dX2_entry_23 : decode cX2_entry 23 = .ok (.iload_n 3, 1) := by decide +kernel
theorem dX2_entry_24 : decode cX2_entry 24 = .ok (.iconst 3, 1) := by decide +kernel
theorem dX2_entry_25 : decode cX2_entry 25 = .ok (.invokevirtual 39, 3) := by decide +kernel
theorem dX2_entry_28 : decode cX2_entry 28 = .ok (.aload_n 0, 1) := by decide +kernel
theorem dX2_entry_29 : decode cX2_entry 29 = .ok (.getfield 10, 3) := by decide +kernel
theorem dX2_entry_32 : decode cX2_entry 32 = .ok (.iload_n 1, 1) := by decide +kernel
theorem dX2_entry_33 : decode cX2_entry 33 = .ok (.iload_n 2, 1) := by decide +kernel
theorem dX2_entry_34 : decode cX2_entry 34 = .ok (.iload_n 3, 1) := by decide +kernel
theorem dX2_entry_35 : decode cX2_entry 35 = .ok (.invokevirtual 96, 3) := by decide +kernel
theorem dX2_entry_38 : decode cX2_entry 38 = .ok (.ireturn, 1) := by decide +kernel
theorem dX2_agree_0 : decode cX2_agree 0 = .ok (.aload_n 0, 1) := by decide +kernel
theorem dX2_agree_1 : decode cX2_agree 1 = .ok (.iload_n 1, 1) := by decide +kernel
theorem dX2_agree_2 : decode cX2_agree 2 = .ok (.invokevirtual 30, 3) := by decide +kernel
theorem dX2_agree_5 : decode cX2_agree 5 = .ok (.aload_n 0, 1) := by decide +kernel
theorem dX2_agree_6 : decode cX2_agree 6 = .ok (.iload_n 2, 1) := by decide +kernel
theorem dX2_agree_7 : decode cX2_agree 7 = .ok (.invokevirtual 30, 3) := by decide +kernel
theorem dX2_agree_10 : decode cX2_agree 10 = .ok (.aload_n 0, 1) := by decide +kernel
theorem dX2_agree_11 : decode cX2_agree 11 = .ok (.getfield 10, 3) := by decide +kernel
theorem dX2_agree_14 : decode cX2_agree 14 = .ok (.getfield 64, 3) := by decide +kernel
theorem dX2_agree_17 : decode cX2_agree 17 = .ok (.iload_n 1, 1) := by decide +kernel
theorem dX2_agree_18 : decode cX2_agree 18 = .ok (.iload_n 2, 1) := by decide +kernel
theorem dX2_agree_19 : decode cX2_agree 19 = .ok (.invokevirtual 100, 3) := by decide +kernel
theorem dX2_agree_22 : decode cX2_agree 22 = .ok (.ireturn, 1) := by decide +kernel
theorem dX2_newer_0 : decode cX2_newer 0 = .ok (.aload_n 0, 1) := by decide +kernel
theorem dX2_newer_1 : decode cX2_newer 1 = .ok (.iload_n 1, 1) := by decide +kernel
theorem dX2_newer_2 : decode cX2_newer 2 = .ok (.invokevirtual 30, 3) := by decide +kernel
theorem dX2_newer_5 : decode cX2_newer 5 = .ok (.aload_n 0, 1) := by decide +kernel
theorem dX2_newer_6 : decode cX2_newer 6 = .ok (.iload_n 2, 1) := by decide +kernel
theorem dX2_newer_7 : decode cX2_newer 7 = .ok (.invokevirtual 30, 3) := by decide +kernel
theorem dX2_newer_10 : decode cX2_newer 10 = .ok (.aload_n 0, 1) := by decide +kernel
theorem dX2_newer_11 : decode cX2_newer 11 = .ok (.getfield 10, 3) := by decide +kernel
theorem dX2_newer_14 : decode cX2_newer 14 = .ok (.getfield 64, 3) := by decide +kernel
theorem dX2_newer_17 : decode cX2_newer 17 = .ok (.iload_n 1, 1) := by decide +kernel
theorem dX2_newer_18 : decode cX2_newer 18 = .ok (.iload_n 2, 1) := by decide +kernel
theorem dX2_newer_19 : decode cX2_newer 19 = .ok (.invokevirtual 103, 3) := by decide +kernel
theorem dX2_newer_22 : decode cX2_newer 22 = .ok (.ireturn, 1) := by decide +kernel
theorem dX2_leader_0 : decode cX2_leader 0 = .ok (.iconst (-1), 1) := by decide +kernel
theorem dX2_leader_1 : decode cX2_leader 1 = .ok (.istore_n 1, 1) := by decide +kernel
theorem dX2_leader_2 : decode cX2_leader 2 = .ok (.iconst 0, 1) := by decide +kernel
theorem dX2_leader_3 : decode cX2_leader 3 = .ok (.istore_n 2, 1) := by decide +kernel
theorem dX2_leader_4 : decode cX2_leader 4 = .ok (.iload_n 2, 1) := by decide +kernel
theorem dX2_leader_5 : decode cX2_leader 5 = .ok (.aload_n 0, 1) := by decide +kernel
theorem dX2_leader_6 : decode cX2_leader 6 = .ok (.getfield 10, 3) := by decide +kernel
theorem dX2_leader_9 : decode cX2_leader 9 = .ok (.getfield 107, 3) := by decide +kernel
theorem dX2_leader_12 : decode cX2_leader 12 = .ok (.if_icmp .ge 48, 3) := by decide +kernel
theorem dX2_leader_15 : decode cX2_leader 15 = .ok (.aload_n 0, 1) := by decide +kernel
theorem dX2_leader_16 : decode cX2_leader 16 = .ok (.getfield 10, 3) := by decide +kernel
theorem dX2_leader_19 : decode cX2_leader 19 = .ok (.iload_n 2, 1) := by decide +kernel
theorem dX2_leader_20 : decode cX2_leader 20 = .ok (.invokevirtual 55, 3) := by decide +kernel
theorem dX2_leader_23 : decode cX2_leader 23 = .ok (.ifCond .eq 31, 3) := by decide +kernel
theorem dX2_leader_26 : decode cX2_leader 26 = .ok (.iload_n 1, 1) := by decide +kernel
theorem dX2_leader_27 : decode cX2_leader 27 = .ok (.iconst (-1), 1) := by decide +kernel
theorem dX2_leader_28 : decode cX2_leader 28 = .ok (.if_icmp .eq 24, 3) := by decide +kernel
theorem dX2_leader_31 : decode cX2_leader 31 = .ok (.aload_n 0, 1) := by decide +kernel
theorem dX2_leader_32 : decode cX2_leader 32 = .ok (.getfield 10, 3) := by decide +kernel
theorem dX2_leader_35 : decode cX2_leader 35 = .ok (.getfield 75, 3) := by decide +kernel
theorem dX2_leader_38 : decode cX2_leader 38 = .ok (.iload_n 2, 1) := by decide +kernel
theorem dX2_leader_39 : decode cX2_leader 39 = .ok (.iaload, 1) := by decide +kernel
theorem dX2_leader_40 : decode cX2_leader 40 = .ok (.aload_n 0, 1) := by decide +kernel
theorem dX2_leader_41 : decode cX2_leader 41 = .ok (.getfield 10, 3) := by decide +kernel
theorem dX2_leader_44 : decode cX2_leader 44 = .ok (.getfield 75, 3) := by decide +kernel
theorem dX2_leader_47 : decode cX2_leader 47 = .ok (.iload_n 1, 1) := by decide +kernel
theorem dX2_leader_48 : decode cX2_leader 48 = .ok (.iaload, 1) := by decide +kernel
theorem dX2_leader_49 : decode cX2_leader 49 = .ok (.if_icmp .le 5, 3) := by decide +kernel
theorem dX2_leader_52 : decode cX2_leader 52 = .ok (.iload_n 2, 1) := by decide +kernel
theorem dX2_leader_53 : decode cX2_leader 53 = .ok (.istore_n 1, 1) := by decide +kernel
theorem dX2_leader_54 : decode cX2_leader 54 = .ok (.iinc 2 1, 3) := by decide +kernel
theorem dX2_leader_57 : decode cX2_leader 57 = .ok (.goto (-53), 3) := by decide +kernel
theorem dX2_leader_60 : decode cX2_leader 60 = .ok (.iload_n 1, 1) := by decide +kernel
theorem dX2_leader_61 : decode cX2_leader 61 = .ok (.ireturn, 1) := by decide +kernel
theorem dX2_count_0 : decode cX2_count 0 = .ok (.aload_n 0, 1) := by decide +kernel
theorem dX2_count_1 : decode cX2_count 1 = .ok (.iload_n 1, 1) := by decide +kernel
theorem dX2_count_2 : decode cX2_count 2 = .ok (.bipush 10, 2) := by decide +kernel
theorem dX2_count_4 : decode cX2_count 4 = .ok (.invokevirtual 39, 3) := by decide +kernel
theorem dX2_count_7 : decode cX2_count 7 = .ok (.aload_n 0, 1) := by decide +kernel
theorem dX2_count_8 : decode cX2_count 8 = .ok (.getfield 10, 3) := by decide +kernel
theorem dX2_count_11 : decode cX2_count 11 = .ok (.iload_n 1, 1) := by decide +kernel
theorem dX2_count_12 : decode cX2_count 12 = .ok (.invokevirtual 110, 3) := by decide +kernel
theorem dX2_count_15 : decode cX2_count 15 = .ok (.ireturn, 1) := by decide +kernel
theorem dX2_harbour_0 : decode cX2_harbour 0 = .ok (.aload_n 0, 1) := by decide +kernel
theorem dX2_harbour_1 : decode cX2_harbour 1 = .ok (.iload_n 1, 1) := by decide +kernel
theorem dX2_harbour_2 : decode cX2_harbour 2 = .ok (.iconst 3, 1) := by decide +kernel
theorem dX2_harbour_3 : decode cX2_harbour 3 = .ok (.invokevirtual 39, 3) := by decide +kernel
theorem dX2_harbour_6 : decode cX2_harbour 6 = .ok (.aload_n 0, 1) := by decide +kernel
theorem dX2_harbour_7 : decode cX2_harbour 7 = .ok (.iload_n 2, 1) := by decide +kernel
theorem dX2_harbour_8 : decode cX2_harbour 8 = .ok (.iconst 3, 1) := by decide +kernel
theorem dX2_harbour_9 : decode cX2_harbour 9 = .ok (.invokevirtual 39, 3) := by decide +kernel
theorem dX2_harbour_12 : decode cX2_harbour 12 = .ok (.iload_n 2, 1) := by decide +kernel
theorem dX2_harbour_13 : decode cX2_harbour 13 = .ok (.iconst 2, 1) := by decide +kernel
theorem dX2_harbour_14 : decode cX2_harbour 14 = .ok (.if_icmp .ne 12, 3) := by decide +kernel
theorem dX2_harbour_17 : decode cX2_harbour 17 = .ok (.aload_n 0, 1) := by decide +kernel
theorem dX2_harbour_18 : decode cX2_harbour 18 = .ok (.getfield 10, 3) := by decide +kernel
theorem dX2_harbour_21 : decode cX2_harbour 21 = .ok (.iload_n 1, 1) := by decide +kernel
theorem dX2_harbour_22 : decode cX2_harbour 22 = .ok (.invokevirtual 114, 3) := by decide +kernel
theorem dX2_harbour_25 : decode cX2_harbour 25 = .ok (.ireturn, 1) := by decide +kernel
theorem dX2_harbour_26 : decode cX2_harbour 26 = .ok (.aload_n 0, 1) := by decide +kernel
theorem dX2_harbour_27 : decode cX2_harbour 27 = .ok (.getfield 10, 3) := by decide +kernel
theorem dX2_harbour_30 : decode cX2_harbour 30 = .ok (.iload_n 1, 1) := by decide +kernel
theorem dX2_harbour_31 : decode cX2_harbour 31 = .ok (.invokevirtual 117, 3) := by decide +kernel
theorem dX2_harbour_34 : decode cX2_harbour 34 = .ok (.istore_n 3, 1) := by decide +kernel
theorem dX2_harbour_35 : decode cX2_harbour 35 = .ok (.iload_n 2, 1) := by decide +kernel
theorem dX2_harbour_36 : decode cX2_harbour 36 = .ok (.iconst 1, 1) := by decide +kernel
theorem dX2_harbour_37 : decode cX2_harbour 37 = .ok (.if_icmp .ne 20, 3) := by decide +kernel
theorem dX2_harbour_40 : decode cX2_harbour 40 = .ok (.aload_n 0, 1) := by decide +kernel
theorem dX2_harbour_41 : decode cX2_harbour 41 = .ok (.getfield 10, 3) := by decide +kernel
theorem dX2_harbour_44 : decode cX2_harbour 44 = .ok (.iload_n 3, 1) := by decide +kernel
theorem dX2_harbour_45 : decode cX2_harbour 45 = .ok (.invokevirtual 120, 3) := by decide +kernel
theorem dX2_harbour_48 : decode cX2_harbour 48 = .ok (.ifCond .eq 7, 3) := by decide +kernel
theorem dX2_harbour_51 : decode cX2_harbour 51 = .ok (.iconst 1, 1) := by decide +kernel
theorem dX2_harbour_52 : decode cX2_harbour 52 = .ok (.goto 4, 3) := by decide +kernel
theorem dX2_harbour_55 : decode cX2_harbour 55 = .ok (.iconst 0, 1) := by decide +kernel
theorem dX2_harbour_56 : decode cX2_harbour 56 = .ok (.ireturn, 1) := by decide +kernel
theorem dX2_harbour_57 : decode cX2_harbour 57 = .ok (.iload_n 3, 1) := by decide +kernel
theorem dX2_harbour_58 : decode cX2_harbour 58 = .ok (.ireturn, 1) := by decide +kernel
theorem dX2_until_0 : decode cX2_until 0 = .ok (.aload_n 0, 1) := by decide +kernel
theorem dX2_until_1 : decode cX2_until 1 = .ok (.getfield 16, 3) := by decide +kernel
theorem dX2_until_4 : decode cX2_until 4 = .ok (.aload_n 0, 1) := by decide +kernel
theorem dX2_until_5 : decode cX2_until 5 = .ok (.getfield 10, 3) := by decide +kernel
theorem dX2_until_8 : decode cX2_until 8 = .ok (.invokevirtual 123, 3) := by decide +kernel
theorem dX2_until_11 : decode cX2_until 11 = .ok (.iconst 0, 1) := by decide +kernel
theorem dX2_until_12 : decode cX2_until 12 = .ok (.istore_n 1, 1) := by decide +kernel
theorem dX2_until_13 : decode cX2_until 13 = .ok (.iload_n 1, 1) := by decide +kernel
theorem dX2_until_14 : decode cX2_until 14 = .ok (.bipush 60, 2) := by decide +kernel
theorem dX2_until_16 : decode cX2_until 16 = .ok (.if_icmp .gt 29, 3) := by decide +kernel
theorem dX2_until_19 : decode cX2_until 19 = .ok (.aload_n 0, 1) := by decide +kernel
theorem dX2_until_20 : decode cX2_until 20 = .ok (.getfield 16, 3) := by decide +kernel
theorem dX2_until_23 : decode cX2_until 23 = .ok (.invokevirtual 127, 3) := by decide +kernel
theorem dX2_until_26 : decode cX2_until 26 = .ok (.ifCond .eq 5, 3) := by decide +kernel
theorem dX2_until_29 : decode cX2_until 29 = .ok (.iload_n 1, 1) := by decide +kernel
theorem dX2_until_30 : decode cX2_until 30 = .ok (.ireturn, 1) := by decide +kernel
theorem dX2_until_31 : decode cX2_until 31 = .ok (.aload_n 0, 1) := by decide +kernel
theorem dX2_until_32 : decode cX2_until 32 = .ok (.getfield 16, 3) := by decide +kernel
theorem dX2_until_35 : decode cX2_until 35 = .ok (.iconst 1, 1) := by decide +kernel
theorem dX2_until_36 : decode cX2_until 36 = .ok (.invokevirtual 89, 3) := by decide +kernel
theorem dX2_until_39 : decode cX2_until 39 = .ok (.iinc 1 1, 3) := by decide +kernel
theorem dX2_until_42 : decode cX2_until 42 = .ok (.goto (-29), 3) := by decide +kernel
theorem dX2_until_45 : decode cX2_until 45 = .ok (.iconst (-1), 1) := by decide +kernel
theorem dX2_until_46 : decode cX2_until 46 = .ok (.ireturn, 1) := by decide +kernel
theorem dX2_foresee_0 : decode cX2_foresee 0 = .ok (.aload_n 0, 1) := by decide +kernel
theorem dX2_foresee_1 : decode cX2_foresee 1 = .ok (.iload_n 1, 1) := by decide +kernel
theorem dX2_foresee_2 : decode cX2_foresee 2 = .ok (.bipush 50, 2) := by decide +kernel
theorem dX2_foresee_4 : decode cX2_foresee 4 = .ok (.invokevirtual 82, 3) := by decide +kernel
theorem dX2_foresee_7 : decode cX2_foresee 7 = .ok (.iload_n 2, 1) := by decide +kernel
theorem dX2_foresee_8 : decode cX2_foresee 8 = .ok (.iconst 3, 1) := by decide +kernel
theorem dX2_foresee_9 : decode cX2_foresee 9 = .ok (.if_icmp .lt 9, 3) := by decide +kernel
theorem dX2_foresee_12 : decode cX2_foresee 12 = .ok (.iload_n 2, 1) := by decide +kernel
theorem dX2_foresee_13 : decode cX2_foresee 13 = .ok (.bipush 10, 2) := by decide +kernel
theorem dX2_foresee_15 : decode cX2_foresee 15 = .ok (.if_icmp .lt 13, 3) := by decide +kernel
theorem dX2_foresee_18 : decode cX2_foresee 18 = .ok (.new 131, 3) := by decide +kernel
theorem dX2_foresee_21 : decode cX2_foresee 21 = .ok (.dup, 1) := by decide +kernel
theorem dX2_foresee_22 : decode cX2_foresee 22 = .ok (.ldc 133, 2) := by decide +kernel
theorem dX2_foresee_24 : decode cX2_foresee 24 = .ok (.invokespecial 135, 3) := by decide +kernel
theorem dX2_foresee_27 : decode cX2_foresee 27 = .ok (.athrow, 1) := by decide +kernel
theorem dX2_foresee_28 : decode cX2_foresee 28 = .ok (.aload_n 0, 1) := by decide +kernel
theorem dX2_foresee_29 : decode cX2_foresee 29 = .ok (.getfield 16, 3) := by decide +kernel
theorem dX2_foresee_32 : decode cX2_foresee 32 = .ok (.aload_n 0, 1) := by decide +kernel
theorem dX2_foresee_33 : decode cX2_foresee 33 = .ok (.getfield 10, 3) := by decide +kernel
theorem dX2_foresee_36 : decode cX2_foresee 36 = .ok (.invokevirtual 123, 3) := by decide +kernel
theorem dX2_foresee_39 : decode cX2_foresee 39 = .ok (.aload_n 0, 1) := by decide +kernel
theorem dX2_foresee_40 : decode cX2_foresee 40 = .ok (.getfield 16, 3) := by decide +kernel
theorem dX2_foresee_43 : decode cX2_foresee 43 = .ok (.iload_n 1, 1) := by decide +kernel
theorem dX2_foresee_44 : decode cX2_foresee 44 = .ok (.invokevirtual 89, 3) := by decide +kernel
theorem dX2_foresee_47 : decode cX2_foresee 47 = .ok (.aload_n 0, 1) := by decide +kernel
theorem dX2_foresee_48 : decode cX2_foresee 48 = .ok (.getfield 16, 3) := by decide +kernel
theorem dX2_foresee_51 : decode cX2_foresee 51 = .ok (.iload_n 2, 1) := by decide +kernel
theorem dX2_foresee_52 : decode cX2_foresee 52 = .ok (.invokevirtual 110, 3) := by decide +kernel
theorem dX2_foresee_55 : decode cX2_foresee 55 = .ok (.ireturn, 1) := by decide +kernel
theorem dX2_mean_0 : decode cX2_mean 0 = .ok (.iconst 0, 1) := by decide +kernel
theorem dX2_mean_1 : decode cX2_mean 1 = .ok (.istore_n 1, 1) := by decide +kernel
theorem dX2_mean_2 : decode cX2_mean 2 = .ok (.iconst 0, 1) := by decide +kernel
theorem dX2_mean_3 : decode cX2_mean 3 = .ok (.istore_n 2, 1) := by decide +kernel
theorem dX2_mean_4 : decode cX2_mean 4 = .ok (.iload_n 2, 1) := by decide +kernel
theorem dX2_mean_5 : decode cX2_mean 5 = .ok (.aload_n 0, 1) := by decide +kernel
theorem dX2_mean_6 : decode cX2_mean 6 = .ok (.getfield 10, 3) := by decide +kernel
theorem dX2_mean_9 : decode cX2_mean 9 = .ok (.getfield 107, 3) := by decide +kernel
theorem dX2_mean_12 : decode cX2_mean 12 = .ok (.if_icmp .ge 24, 3) := by decide +kernel
theorem dX2_mean_15 : decode cX2_mean 15 = .ok (.iload_n 1, 1) := by decide +kernel
theorem dX2_mean_16 : decode cX2_mean 16 = .ok (.aload_n 0, 1) := by decide +kernel
theorem dX2_mean_17 : decode cX2_mean 17 = .ok (.getfield 10, 3) := by decide +kernel
theorem dX2_mean_20 : decode cX2_mean 20 = .ok (.getfield 64, 3) := by decide +kernel
theorem dX2_mean_23 : decode cX2_mean 23 = .ok (.getfield 142, 3) := by decide +kernel
theorem dX2_mean_26 : decode cX2_mean 26 = .ok (.iload_n 2, 1) := by decide +kernel
theorem dX2_mean_27 : decode cX2_mean 27 = .ok (.iaload, 1) := by decide +kernel
theorem dX2_mean_28 : decode cX2_mean 28 = .ok (.iadd, 1) := by decide +kernel
theorem dX2_mean_29 : decode cX2_mean 29 = .ok (.istore_n 1, 1) := by decide +kernel
theorem dX2_mean_30 : decode cX2_mean 30 = .ok (.iinc 2 1, 3) := by decide +kernel
theorem dX2_mean_33 : decode cX2_mean 33 = .ok (.goto (-29), 3) := by decide +kernel
theorem dX2_mean_36 : decode cX2_mean 36 = .ok (.aload_n 0, 1) := by decide +kernel
theorem dX2_mean_37 : decode cX2_mean 37 = .ok (.getfield 10, 3) := by decide +kernel
theorem dX2_mean_40 : decode cX2_mean 40 = .ok (.getfield 107, 3) := by decide +kernel
theorem dX2_mean_43 : decode cX2_mean 43 = .ok (.ifCond .le 17, 3) := by decide +kernel
theorem dX2_mean_46 : decode cX2_mean 46 = .ok (.iload_n 1, 1) := by decide +kernel
theorem dX2_mean_47 : decode cX2_mean 47 = .ok (.i2d, 1) := by decide +kernel
theorem dX2_mean_48 : decode cX2_mean 48 = .ok (.aload_n 0, 1) := by decide +kernel
theorem dX2_mean_49 : decode cX2_mean 49 = .ok (.getfield 10, 3) := by decide +kernel
theorem dX2_mean_52 : decode cX2_mean 52 = .ok (.getfield 107, 3) := by decide +kernel
theorem dX2_mean_55 : decode cX2_mean 55 = .ok (.i2d, 1) := by decide +kernel
theorem dX2_mean_56 : decode cX2_mean 56 = .ok (.ddiv, 1) := by decide +kernel
theorem dX2_mean_57 : decode cX2_mean 57 = .ok (.goto 4, 3) := by decide +kernel
theorem dX2_mean_60 : decode cX2_mean 60 = .ok (.dconst 0, 1) := by decide +kernel
theorem dX2_mean_61 : decode cX2_mean 61 = .ok (.dreturn, 1) := by decide +kernel
theorem dX2_digest_0 : decode cX2_digest 0 = .ok (.ldc2_w 145, 3) := by decide +kernel
theorem dX2_digest_3 : decode cX2_digest 3 = .ok (.lstore_n 1, 1) := by decide +kernel
theorem dX2_digest_4 : decode cX2_digest 4 = .ok (.iconst 0, 1) := by decide +kernel
theorem dX2_digest_5 : decode cX2_digest 5 = .ok (.istore_n 3, 1) := by decide +kernel
theorem dX2_digest_6 : decode cX2_digest 6 = .ok (.iload_n 3, 1) := by decide +kernel
theorem dX2_digest_7 : decode cX2_digest 7 = .ok (.bipush 10, 2) := by decide +kernel
theorem dX2_digest_9 : decode cX2_digest 9 = .ok (.if_icmp .ge 25, 3) := by decide +kernel
theorem dX2_digest_12 : decode cX2_digest 12 = .ok (.lload_n 1, 1) := by decide +kernel
theorem dX2_digest_13 : decode cX2_digest 13 = .ok (.ldc2_w 147, 3) := by decide +kernel
theorem dX2_digest_16 : decode cX2_digest 16 = .ok (.lmul, 1) := by decide +kernel
theorem dX2_digest_17 : decode cX2_digest 17 = .ok (.aload_n 0, 1) := by decide +kernel
theorem dX2_digest_18 : decode cX2_digest 18 = .ok (.getfield 10, 3) := by decide +kernel
theorem dX2_digest_21 : decode cX2_digest 21 = .ok (.iload_n 3, 1) := by decide +kernel
theorem dX2_digest_22 : decode cX2_digest 22 = .ok (.invokevirtual 110, 3) := by decide +kernel
theorem dX2_digest_25 : decode cX2_digest 25 = .ok (.i2l, 1) := by decide +kernel
theorem dX2_digest_26 : decode cX2_digest 26 = .ok (.ladd, 1) := by decide +kernel
theorem dX2_digest_27 : decode cX2_digest 27 = .ok (.lstore_n 1, 1) := by decide +kernel
theorem dX2_digest_28 : decode cX2_digest 28 = .ok (.iinc 3 1, 3) := by decide +kernel
theorem dX2_digest_31 : decode cX2_digest 31 = .ok (.goto (-25), 3) := by decide +kernel
theorem dX2_digest_34 : decode cX2_digest 34 = .ok (.iconst 0, 1) := by decide +kernel
theorem dX2_digest_35 : decode cX2_digest 35 = .ok (.istore_n 3, 1) := by decide +kernel
theorem dX2_digest_36 : decode cX2_digest 36 = .ok (.iload_n 3, 1) := by decide +kernel
theorem dX2_digest_37 : decode cX2_digest 37 = .ok (.aload_n 0, 1) := by decide +kernel
theorem dX2_digest_38 : decode cX2_digest 38 = .ok (.getfield 10, 3) := by decide +kernel
theorem dX2_digest_41 : decode cX2_digest 41 = .ok (.getfield 107, 3) := by decide +kernel
theorem dX2_digest_44 : decode cX2_digest 44 = .ok (.if_icmp .ge 16, 3) := by decide +kernel
theorem dX2_digest_47 : decode cX2_digest 47 = .ok (.aload_n 0, 1) := by decide +kernel
theorem dX2_digest_48 : decode cX2_digest 48 = .ok (.lload_n 1, 1) := by decide +kernel
theorem dX2_digest_49 : decode cX2_digest 49 = .ok (.iload_n 3, 1) := by decide +kernel
theorem dX2_digest_50 : decode cX2_digest 50 = .ok (.invokevirtual 149, 3) := by decide +kernel
theorem dX2_digest_53 : decode cX2_digest 53 = .ok (.lstore_n 1, 1) := by decide +kernel
theorem dX2_digest_54 : decode cX2_digest 54 = .ok (.iinc 3 1, 3) := by decide +kernel
theorem dX2_digest_57 : decode cX2_digest 57 = .ok (.goto (-21), 3) := by decide +kernel
theorem dX2_digest_60 : decode cX2_digest 60 = .ok (.lload_n 1, 1) := by decide +kernel
theorem dX2_digest_61 : decode cX2_digest 61 = .ok (.lreturn, 1) := by decide +kernel
theorem dX2_digestOfBoat_0 : decode cX2_digestOfBoat 0 = .ok (.lload_n 1, 1) := by decide +kernel
theorem dX2_digestOfBoat_1 : decode cX2_digestOfBoat 1 = .ok (.lstore 4, 2) := by decide +kernel
theorem dX2_digestOfBoat_3 : decode cX2_digestOfBoat 3 = .ok (.iconst 0, 1) := by decide +kernel
theorem dX2_digestOfBoat_4 : decode cX2_digestOfBoat 4 = .ok (.istore 6, 2) := by decide +kernel
theorem dX2_digestOfBoat_6 : decode cX2_digestOfBoat 6 = .ok (.iload 6, 2) := by decide +kernel
theorem dX2_digestOfBoat_8 : decode cX2_digestOfBoat 8 = .ok (.bipush 10, 2) := by decide +kernel
theorem dX2_digestOfBoat_10 : decode cX2_digestOfBoat 10 = .ok (.if_icmp .ge 29, 3) := by decide +kernel
theorem dX2_digestOfBoat_13 : decode cX2_digestOfBoat 13 = .ok (.lload 4, 2) := by decide +kernel
theorem dX2_digestOfBoat_15 : decode cX2_digestOfBoat 15 = .ok (.ldc2_w 147, 3) := by decide +kernel
theorem dX2_digestOfBoat_18 : decode cX2_digestOfBoat 18 = .ok (.lmul, 1) := by decide +kernel
theorem dX2_digestOfBoat_19 : decode cX2_digestOfBoat 19 = .ok (.aload_n 0, 1) := by decide +kernel
theorem dX2_digestOfBoat_20 : decode cX2_digestOfBoat 20 = .ok (.getfield 10, 3) := by decide +kernel
theorem dX2_digestOfBoat_23 : decode cX2_digestOfBoat 23 = .ok (.iload_n 3, 1) := by decide +kernel
theorem dX2_digestOfBoat_24 : decode cX2_digestOfBoat 24 = .ok (.iload 6, 2) := by decide +kernel
theorem dX2_digestOfBoat_26 : decode cX2_digestOfBoat 26 = .ok (.invokevirtual 92, 3) := by decide +kernel
theorem dX2_digestOfBoat_29 : decode cX2_digestOfBoat 29 = .ok (.i2l, 1) := by decide +kernel
theorem dX2_digestOfBoat_30 : decode cX2_digestOfBoat 30 = .ok (.ladd, 1) := by decide +kernel
theorem dX2_digestOfBoat_31 : decode cX2_digestOfBoat 31 = .ok (.lstore 4, 2) := by decide +kernel
theorem dX2_digestOfBoat_33 : decode cX2_digestOfBoat 33 = .ok (.iinc 6 1, 3) := by decide +kernel
theorem dX2_digestOfBoat_36 : decode cX2_digestOfBoat 36 = .ok (.goto (-30), 3) := by decide +kernel
theorem dX2_digestOfBoat_39 : decode cX2_digestOfBoat 39 = .ok (.iconst 0, 1) := by decide +kernel
theorem dX2_digestOfBoat_40 : decode cX2_digestOfBoat 40 = .ok (.istore 6, 2) := by decide +kernel
theorem dX2_digestOfBoat_42 : decode cX2_digestOfBoat 42 = .ok (.iload 6, 2) := by decide +kernel
theorem dX2_digestOfBoat_44 : decode cX2_digestOfBoat 44 = .ok (.aload_n 0, 1) := by decide +kernel
theorem dX2_digestOfBoat_45 : decode cX2_digestOfBoat 45 = .ok (.getfield 10, 3) := by decide +kernel
theorem dX2_digestOfBoat_48 : decode cX2_digestOfBoat 48 = .ok (.getfield 64, 3) := by decide +kernel
theorem dX2_digestOfBoat_51 : decode cX2_digestOfBoat 51 = .ok (.getfield 68, 3) := by decide +kernel
theorem dX2_digestOfBoat_54 : decode cX2_digestOfBoat 54 = .ok (.iload_n 3, 1) := by decide +kernel
theorem dX2_digestOfBoat_55 : decode cX2_digestOfBoat 55 = .ok (.iaload, 1) := by decide +kernel
theorem dX2_digestOfBoat_56 : decode cX2_digestOfBoat 56 = .ok (.if_icmp .ge 46, 3) := by decide +kernel
theorem dX2_digestOfBoat_59 : decode cX2_digestOfBoat 59 = .ok (.iconst 0, 1) := by decide +kernel
theorem dX2_digestOfBoat_60 : decode cX2_digestOfBoat 60 = .ok (.istore 7, 2) := by decide +kernel
theorem dX2_digestOfBoat_62 : decode cX2_digestOfBoat 62 = .ok (.iload 7, 2) := by decide +kernel
theorem dX2_digestOfBoat_64 : decode cX2_digestOfBoat 64 = .ok (.iconst 3, 1) := by decide +kernel
theorem dX2_digestOfBoat_65 : decode cX2_digestOfBoat 65 = .ok (.if_icmp .ge 31, 3) := by decide +kernel
theorem dX2_digestOfBoat_68 : decode cX2_digestOfBoat 68 = .ok (.lload 4, 2) := by decide +kernel
theorem dX2_digestOfBoat_70 : decode cX2_digestOfBoat 70 = .ok (.ldc2_w 147, 3) := by decide +kernel
theorem dX2_digestOfBoat_73 : decode cX2_digestOfBoat 73 = .ok (.lmul, 1) := by decide +kernel
theorem dX2_digestOfBoat_74 : decode cX2_digestOfBoat 74 = .ok (.aload_n 0, 1) := by decide +kernel
theorem dX2_digestOfBoat_75 : decode cX2_digestOfBoat 75 = .ok (.getfield 10, 3) := by decide +kernel
theorem dX2_digestOfBoat_78 : decode cX2_digestOfBoat 78 = .ok (.iload_n 3, 1) := by decide +kernel
theorem dX2_digestOfBoat_79 : decode cX2_digestOfBoat 79 = .ok (.iload 6, 2) := by decide +kernel
theorem dX2_digestOfBoat_81 : decode cX2_digestOfBoat 81 = .ok (.iload 7, 2) := by decide +kernel
theorem dX2_digestOfBoat_83 : decode cX2_digestOfBoat 83 = .ok (.invokevirtual 96, 3) := by decide +kernel
theorem dX2_digestOfBoat_86 : decode cX2_digestOfBoat 86 = .ok (.i2l, 1) := by decide +kernel
theorem dX2_digestOfBoat_87 : decode cX2_digestOfBoat 87 = .ok (.ladd, 1) := by decide +kernel
theorem dX2_digestOfBoat_88 : decode cX2_digestOfBoat 88 = .ok (.lstore 4, 2) := by decide +kernel
theorem dX2_digestOfBoat_90 : decode cX2_digestOfBoat 90 = .ok (.iinc 7 1, 3) := by decide +kernel
theorem dX2_digestOfBoat_93 : decode cX2_digestOfBoat 93 = .ok (.goto (-31), 3) := by decide +kernel
theorem dX2_digestOfBoat_96 : decode cX2_digestOfBoat 96 = .ok (.iinc 6 1, 3) := by decide +kernel
theorem dX2_digestOfBoat_99 : decode cX2_digestOfBoat 99 = .ok (.goto (-57), 3) := by decide +kernel
theorem dX2_digestOfBoat_102 : decode cX2_digestOfBoat 102 = .ok (.lload 4, 2) := by decide +kernel
theorem dX2_digestOfBoat_104 : decode cX2_digestOfBoat 104 = .ok (.lreturn, 1) := by decide +kernel
theorem dX2_needBoat_0 : decode cX2_needBoat 0 = .ok (.iload_n 1, 1) := by decide +kernel
theorem dX2_needBoat_1 : decode cX2_needBoat 1 = .ok (.ifCond .lt 14, 3) := by decide +kernel
theorem dX2_needBoat_4 : decode cX2_needBoat 4 = .ok (.iload_n 1, 1) := by decide +kernel
theorem dX2_needBoat_5 : decode cX2_needBoat 5 = .ok (.aload_n 0, 1) := by decide +kernel
theorem dX2_needBoat_6 : decode cX2_needBoat 6 = .ok (.getfield 10, 3) := by decide +kernel
theorem dX2_needBoat_9 : decode cX2_needBoat 9 = .ok (.getfield 107, 3) := by decide +kernel
theorem dX2_needBoat_12 : decode cX2_needBoat 12 = .ok (.if_icmp .lt 13, 3) := by decide +kernel
theorem dX2_needBoat_15 : decode cX2_needBoat 15 = .ok (.new 131, 3) := by decide +kernel
theorem dX2_needBoat_18 : decode cX2_needBoat 18 = .ok (.dup, 1) := by decide +kernel
theorem dX2_needBoat_19 : decode cX2_needBoat 19 = .ok (.ldc 153, 2) := by decide +kernel
theorem dX2_needBoat_21 : decode cX2_needBoat 21 = .ok (.invokespecial 135, 3) := by decide +kernel
theorem dX2_needBoat_24 : decode cX2_needBoat 24 = .ok (.athrow, 1) := by decide +kernel
theorem dX2_needBoat_25 : decode cX2_needBoat 25 = .ok (.return_, 1) := by decide +kernel
theorem dX2_needBelow_0 : decode cX2_needBelow 0 = .ok (.iload_n 1, 1) := by decide +kernel
theorem dX2_needBelow_1 : decode cX2_needBelow 1 = .ok (.ifCond .lt 8, 3) := by decide +kernel
theorem dX2_needBelow_4 : decode cX2_needBelow 4 = .ok (.iload_n 1, 1) := by decide +kernel
theorem dX2_needBelow_5 : decode cX2_needBelow 5 = .ok (.iload_n 2, 1) := by decide +kernel
theorem dX2_needBelow_6 : decode cX2_needBelow 6 = .ok (.if_icmp .lt 13, 3) := by decide +kernel
theorem dX2_needBelow_9 : decode cX2_needBelow 9 = .ok (.new 131, 3) := by decide +kernel
theorem dX2_needBelow_12 : decode cX2_needBelow 12 = .ok (.dup, 1) := by decide +kernel
theorem dX2_needBelow_13 : decode cX2_needBelow 13 = .ok (.ldc 155, 2) := by decide +kernel
theorem dX2_needBelow_15 : decode cX2_needBelow 15 = .ok (.invokespecial 135, 3) := by decide +kernel
theorem dX2_needBelow_18 : decode cX2_needBelow 18 = .ok (.athrow, 1) := by decide +kernel
theorem dX2_needBelow_19 : decode cX2_needBelow 19 = .ok (.return_, 1) := by decide +kernel
theorem dX2_needHours_0 : decode cX2_needHours 0 = .ok (.iload_n 1, 1) := by decide +kernel
theorem dX2_needHours_1 : decode cX2_needHours 1 = .ok (.iconst 1, 1) := by decide +kernel
theorem dX2_needHours_2 : decode cX2_needHours 2 = .ok (.if_icmp .lt 8, 3) := by decide +kernel
theorem dX2_needHours_5 : decode cX2_needHours 5 = .ok (.iload_n 1, 1) := by decide +kernel
theorem dX2_needHours_6 : decode cX2_needHours 6 = .ok (.iload_n 2, 1) := by decide +kernel
theorem dX2_needHours_7 : decode cX2_needHours 7 = .ok (.if_icmp .le 13, 3) := by decide +kernel
theorem dX2_needHours_10 : decode cX2_needHours 10 = .ok (.new 23, 3) := by decide +kernel
theorem dX2_needHours_13 : decode cX2_needHours 13 = .ok (.dup, 1) := by decide +kernel
theorem dX2_needHours_14 : decode cX2_needHours 14 = .ok (.ldc 157, 2) := by decide +kernel
theorem dX2_needHours_16 : decode cX2_needHours 16 = .ok (.invokespecial 27, 3) := by decide +kernel
theorem dX2_needHours_19 : decode cX2_needHours 19 = .ok (.athrow, 1) := by decide +kernel
theorem dX2_needHours_20 : decode cX2_needHours 20 = .ok (.return_, 1) := by decide +kernel
