theorem dX3_init_0 : decode cX3_init 0 = .ok (.aload_n 0, 1) := by decide +kernel
theorem dX3_init_1 : decode cX3_init 1 = .ok (.invokespecial 1, 3) := by decide +kernel
theorem dX3_init_4 : decode cX3_init 4 = .ok (.aload_n 0, 1) := by decide +kernel
theorem dX3_init_5 : decode cX3_init 5 = .ok (.iconst (-1), 1) := by decide +kernel
theorem dX3_init_6 : decode cX3_init 6 = .ok (.putfield 7, 3) := by decide +kernel
theorem dX3_init_9 : decode cX3_init 9 = .ok (.aload_n 0, 1) := by decide +kernel
theorem dX3_init_10 : decode cX3_init 10 = .ok (.iconst 1, 1) := by decide +kernel
theorem dX3_init_11 : decode cX3_init 11 = .ok (.putfield 13, 3) := by decide +kernel
theorem dX3_init_14 : decode cX3_init 14 = .ok (.aload_n 0, 1) := by decide +kernel
theorem dX3_init_15 : decode cX3_init 15 = .ok (.iconst 0, 1) := by decide +kernel
theorem dX3_init_16 : decode cX3_init 16 = .ok (.anewarray 17, 3) := by decide +kernel
theorem dX3_init_19 : decode cX3_init 19 = .ok (.putfield 19, 3) := by decide +kernel
theorem dX3_init_22 : decode cX3_init 22 = .ok (.aload_n 0, 1) := by decide +kernel
theorem dX3_init_23 : decode cX3_init 23 = .ok (.iload_n 1, 1) := by decide +kernel
theorem dX3_init_24 : decode cX3_init 24 = .ok (.putfield 23, 3) := by decide +kernel
theorem dX3_init_27 : decode cX3_init 27 = .ok (.aload_n 0, 1) := by decide +kernel
theorem dX3_init_28 : decode cX3_init 28 = .ok (.iload_n 1, 1) := by decide +kernel
theorem dX3_init_29 : decode cX3_init 29 = .ok (.putfield 26, 3) := by decide +kernel
theorem dX3_init_32 : decode cX3_init 32 = .ok (.return_, 1) := by decide +kernel
theorem dX3_last_0 : decode cX3_last 0 = .ok (.aload_n 0, 1) := by decide +kernel
theorem dX3_last_1 : decode cX3_last 1 = .ok (.getfield 19, 3) := by decide +kernel
theorem dX3_last_4 : decode cX3_last 4 = .ok (.arraylength, 1) := by decide +kernel
theorem dX3_last_5 : decode cX3_last 5 = .ok (.ifCond .le 20, 3) := by decide +kernel
theorem dX3_last_8 : decode cX3_last 8 = .ok (.aload_n 0, 1) := by decide +kernel
theorem dX3_last_9 : decode cX3_last 9 = .ok (.getfield 19, 3) := by decide +kernel
theorem dX3_last_12 : decode cX3_last 12 = .ok (.aload_n 0, 1) := by decide +kernel
theorem dX3_last_13 : decode cX3_last 13 = .ok (.getfield 19, 3) := by decide +kernel
theorem dX3_last_16 : decode cX3_last 16 = .ok (.arraylength, 1) := by decide +kernel
theorem dX3_last_17 : decode cX3_last 17 = .ok (.iconst 1, 1) := by decide +kernel
theorem dX3_last_18 : decode cX3_last 18 = .ok (.isub, 1) := by decide +kernel
theorem dX3_last_19 : decode cX3_last 19 = .ok (.aaload, 1) := by decide +kernel
theorem dX3_last_20 : decode cX3_last 20 = .ok (.iconst 0, 1) := by decide +kernel
theorem dX3_last_21 : decode cX3_last 21 = .ok (.iaload, 1) := by decide +kernel
theorem dX3_last_22 : decode cX3_last 22 = .ok (.goto 4, 3) := by decide +kernel
theorem dX3_last_25 : decode cX3_last 25 = .ok (.iconst (-1), 1) := by decide +kernel
theorem dX3_last_26 : decode cX3_last 26 = .ok (.ireturn, 1) := by decide +kernel
theorem dX3_relog_0 : decode cX3_relog 0 = .ok (.iload_n 3, 1) := by decide +kernel
theorem dX3_relog_1 : decode cX3_relog 1 = .ok (.ifCond .lt 13, 3) := by decide +kernel
theorem dX3_relog_4 : decode cX3_relog 4 = .ok (.iload_n 3, 1) := by decide +kernel
theorem dX3_relog_5 : decode cX3_relog 5 = .ok (.aload_n 2, 1) := by decide +kernel
theorem dX3_relog_6 : decode cX3_relog 6 = .ok (.arraylength, 1) := by decide +kernel
theorem dX3_relog_7 : decode cX3_relog 7 = .ok (.if_icmp .ge 7, 3) := by decide +kernel
theorem dX3_relog_10 : decode cX3_relog 10 = .ok (.iconst 1, 1) := by decide +kernel
theorem dX3_relog_11 : decode cX3_relog 11 = .ok (.goto 4, 3) := by decide +kernel
theorem dX3_relog_14 : decode cX3_relog 14 = .ok (.iconst 0, 1) := by decide +kernel
theorem dX3_relog_15 : decode cX3_relog 15 = .ok (.istore 4, 2) := by decide +kernel
theorem dX3_relog_17 : decode cX3_relog 17 = .ok (.iload_n 1, 1) := by decide +kernel
theorem dX3_relog_18 : decode cX3_relog 18 = .ok (.iload 4, 2) := by decide +kernel
theorem dX3_relog_20 : decode cX3_relog 20 = .ok (.ifCond .eq 7, 3) := by decide +kernel
theorem dX3_relog_23 : decode cX3_relog 23 = .ok (.iconst 1, 1) := by decide +kernel
theorem dX3_relog_24 : decode cX3_relog 24 = .ok (.goto 4, 3) := by decide +kernel
theorem dX3_relog_27 : decode cX3_relog 27 = .ok (.iconst 0, 1) := by decide +kernel
theorem dX3_relog_28 : decode cX3_relog 28 = .ok (.iadd, 1) := by decide +kernel
theorem dX3_relog_29 : decode cX3_relog 29 = .ok (.anewarray 17, 3) := by decide +kernel
theorem dX3_relog_32 : decode cX3_relog 32 = .ok (.astore 5, 2) := by decide +kernel
theorem dX3_relog_34 : decode cX3_relog 34 = .ok (.iconst 0, 1) := by decide +kernel
theorem dX3_relog_35 : decode cX3_relog 35 = .ok (.istore 6, 2) := by decide +kernel
theorem dX3_relog_37 : decode cX3_relog 37 = .ok (.iload 6, 2) := by decide +kernel
theorem dX3_relog_39 : decode cX3_relog 39 = .ok (.iload_n 1, 1) := by decide +kernel
theorem dX3_relog_40 : decode cX3_relog 40 = .ok (.if_icmp .ge 21, 3) := by decide +kernel
theorem dX3_relog_43 : decode cX3_relog 43 = .ok (.aload 5, 2) := by decide +kernel
theorem dX3_relog_45 : decode cX3_relog 45 = .ok (.iload 6, 2) := by decide +kernel
theorem dX3_relog_47 : decode cX3_relog 47 = .ok (.aload_n 0, 1) := by decide +kernel
theorem dX3_relog_48 : decode cX3_relog 48 = .ok (.getfield 19, 3) := by decide +kernel
theorem dX3_relog_51 : decode cX3_relog 51 = .ok (.iload 6, 2) := by decide +kernel
theorem dX3_relog_53 : decode cX3_relog 53 = .ok (.aaload, 1) := by decide +kernel
theorem dX3_relog_54 : decode cX3_relog 54 = .ok (.aastore, 1) := by decide +kernel
theorem dX3_relog_55 : decode cX3_relog 55 = .ok (.iinc 6 1, 3) := by decide +kernel
theorem dX3_relog_58 : decode cX3_relog 58 = .ok (.goto (-21), 3) := by decide +kernel
theorem dX3_relog_61 : decode cX3_relog 61 = .ok (.iload 4, 2) := by decide +kernel
theorem dX3_relog_63 : decode cX3_relog 63 = .ok (.ifCond .eq 10, 3) := by decide +kernel
theorem dX3_relog_66 : decode cX3_relog 66 = .ok (.aload 5, 2) := by decide +kernel
theorem dX3_relog_68 : decode cX3_relog 68 = .ok (.iload_n 1, 1) := by decide +kernel
theorem dX3_relog_69 : decode cX3_relog 69 = .ok (.aload_n 2, 1) := by decide +kernel
theorem dX3_relog_70 : decode cX3_relog 70 = .ok (.iload_n 3, 1) := by decide +kernel
theorem dX3_relog_71 : decode cX3_relog 71 = .ok (.aaload, 1) := by decide +kernel
theorem dX3_relog_72 : decode cX3_relog 72 = .ok (.aastore, 1) := by decide +kernel
theorem dX3_relog_73 : decode cX3_relog 73 = .ok (.aload_n 0, 1) := by decide +kernel
theorem dX3_relog_74 : decode cX3_relog 74 = .ok (.aload 5, 2) := by decide +kernel
theorem dX3_relog_76 : decode cX3_relog 76 = .ok (.putfield 19, 3) := by decide +kernel
theorem dX3_relog_79 : decode cX3_relog 79 = .ok (.return_, 1) := by decide +kernel
theorem dX3_same_0 : decode cX3_same 0 = .ok (.iconst 0, 1) := by decide +kernel
theorem dX3_same_1 : decode cX3_same 1 = .ok (.istore_n 2, 1) := by decide +kernel
theorem dX3_same_2 : decode cX3_same 2 = .ok (.iload_n 2, 1) := by decide +kernel
theorem dX3_same_3 : decode cX3_same 3 = .ok (.aload_n 0, 1) := by decide +kernel
theorem dX3_same_4 : decode cX3_same 4 = .ok (.getfield 19, 3) := by decide +kernel
theorem dX3_same_7 : decode cX3_same 7 = .ok (.arraylength, 1) := by decide +kernel
theorem dX3_same_8 : decode cX3_same 8 = .ok (.if_icmp .ge 58, 3) := by decide +kernel
theorem dX3_same_11 : decode cX3_same 11 = .ok (.iload_n 2, 1) := by decide +kernel
theorem dX3_same_12 : decode cX3_same 12 = .ok (.aload_n 1, 1) := by decide +kernel
theorem dX3_same_13 : decode cX3_same 13 = .ok (.getfield 19, 3) := by decide +kernel
theorem dX3_same_16 : decode cX3_same 16 = .ok (.arraylength, 1) := by decide +kernel
theorem dX3_same_17 : decode cX3_same 17 = .ok (.if_icmp .ge 41, 3) := by decide +kernel
theorem dX3_same_20 : decode cX3_same 20 = .ok (.aload_n 0, 1) := by decide +kernel
theorem dX3_same_21 : decode cX3_same 21 = .ok (.getfield 19, 3) := by decide +kernel
theorem dX3_same_24 : decode cX3_same 24 = .ok (.iload_n 2, 1) := by decide +kernel
theorem dX3_same_25 : decode cX3_same 25 = .ok (.aaload, 1) := by decide +kernel
theorem dX3_same_26 : decode cX3_same 26 = .ok (.iconst 0, 1) := by decide +kernel
theorem dX3_same_27 : decode cX3_same 27 = .ok (.iaload, 1) := by decide +kernel
theorem dX3_same_28 : decode cX3_same 28 = .ok (.aload_n 1, 1) := by decide +kernel
theorem dX3_same_29 : decode cX3_same 29 = .ok (.getfield 19, 3) := by decide +kernel
theorem dX3_same_32 : decode cX3_same 32 = .ok (.iload_n 2, 1) := by decide +kernel
theorem dX3_same_33 : decode cX3_same 33 = .ok (.aaload, 1) := by decide +kernel
theorem dX3_same_34 : decode cX3_same 34 = .ok (.iconst 0, 1) := by decide +kernel
theorem dX3_same_35 : decode cX3_same 35 = .ok (.iaload, 1) := by decide +kernel
theorem dX3_same_36 : decode cX3_same 36 = .ok (.if_icmp .ne 22, 3) := by decide +kernel
theorem dX3_same_39 : decode cX3_same 39 = .ok (.aload_n 0, 1) := by decide +kernel
theorem dX3_same_40 : decode cX3_same 40 = .ok (.getfield 19, 3) := by decide +kernel
theorem dX3_same_43 : decode cX3_same 43 = .ok (.iload_n 2, 1) := by decide +kernel
theorem dX3_same_44 : decode cX3_same 44 = .ok (.aaload, 1) := by decide +kernel
theorem dX3_same_45 : decode cX3_same 45 = .ok (.iconst 1, 1) := by decide +kernel
theorem dX3_same_46 : decode cX3_same 46 = .ok (.iaload, 1) := by decide +kernel
theorem dX3_same_47 : decode cX3_same 47 = .ok (.aload_n 1, 1) := by decide +kernel
theorem dX3_same_48 : decode cX3_same 48 = .ok (.getfield 19, 3) := by decide +kernel
theorem dX3_same_51 : decode cX3_same 51 = .ok (.iload_n 2, 1) := by decide +kernel
theorem dX3_same_52 : decode cX3_same 52 = .ok (.aaload, 1) := by decide +kernel
theorem dX3_same_53 : decode cX3_same 53 = .ok (.iconst 1, 1) := by decide +kernel
theorem dX3_same_54 : decode cX3_same 54 = .ok (.iaload, 1) := by decide +kernel
theorem dX3_same_55 : decode cX3_same 55 = .ok (.if_icmp .eq 5, 3) := by decide +kernel
theorem dX3_same_58 : decode cX3_same 58 = .ok (.iload_n 2, 1) := by decide +kernel
theorem dX3_same_59 : decode cX3_same 59 = .ok (.ireturn, 1) := by decide +kernel
theorem dX3_same_60 : decode cX3_same 60 = .ok (.iinc 2 1, 3) := by decide +kernel
theorem dX3_same_63 : decode cX3_same 63 = .ok (.goto (-61), 3) := by decide +kernel
theorem dX3_same_66 : decode cX3_same 66 = .ok (.aload_n 0, 1) := by decide +kernel
theorem dX3_same_67 : decode cX3_same 67 = .ok (.getfield 19, 3) := by decide +kernel
theorem dX3_same_70 : decode cX3_same 70 = .ok (.arraylength, 1) := by decide +kernel
theorem dX3_same_71 : decode cX3_same 71 = .ok (.ireturn, 1) := by decide +kernel
theorem dX3_isAsNew_0 : decode cX3_isAsNew 0 = .ok (.bipush 100, 2) := by decide +kernel
theorem dX3_isAsNew_2 : decode cX3_isAsNew 2 = .ok (.aload_n 0, 1) := by decide +kernel
theorem dX3_isAsNew_3 : decode cX3_isAsNew 3 = .ok (.invokevirtual 44, 3) := by decide +kernel
theorem dX3_isAsNew_6 : decode cX3_isAsNew 6 = .ok (.imul, 1) := by decide +kernel
theorem dX3_isAsNew_7 : decode cX3_isAsNew 7 = .ok (.aload_n 0, 1) := by decide +kernel
theorem dX3_isAsNew_8 : decode cX3_isAsNew 8 = .ok (.getfield 19, 3) := by decide +kernel
theorem dX3_isAsNew_11 : decode cX3_isAsNew 11 = .ok (.arraylength, 1) := by decide +kernel
theorem dX3_isAsNew_12 : decode cX3_isAsNew 12 = .ok (.iadd, 1) := by decide +kernel
theorem dX3_isAsNew_13 : decode cX3_isAsNew 13 = .ok (.bipush 100, 2) := by decide +kernel
theorem dX3_isAsNew_15 : decode cX3_isAsNew 15 = .ok (.aload_n 1, 1) := by decide +kernel
theorem dX3_isAsNew_16 : decode cX3_isAsNew 16 = .ok (.invokevirtual 44, 3) := by decide +kernel
theorem dX3_isAsNew_19 : decode cX3_isAsNew 19 = .ok (.imul, 1) := by decide +kernel
theorem dX3_isAsNew_20 : decode cX3_isAsNew 20 = .ok (.aload_n 1, 1) := by decide +kernel
theorem dX3_isAsNew_21 : decode cX3_isAsNew 21 = .ok (.getfield 19, 3) := by decide +kernel
theorem dX3_isAsNew_24 : decode cX3_isAsNew 24 = .ok (.arraylength, 1) := by decide +kernel
theorem dX3_isAsNew_25 : decode cX3_isAsNew 25 = .ok (.iadd, 1) := by decide +kernel
theorem dX3_isAsNew_26 : decode cX3_isAsNew 26 = .ok (.if_icmp .lt 7, 3) := by decide +kernel
theorem dX3_isAsNew_29 : decode cX3_isAsNew 29 = .ok (.iconst 1, 1) := by decide +kernel
theorem dX3_isAsNew_30 : decode cX3_isAsNew 30 = .ok (.goto 4, 3) := by decide +kernel
theorem dX3_isAsNew_33 : decode cX3_isAsNew 33 = .ok (.iconst 0, 1) := by decide +kernel
theorem dX3_isAsNew_34 : decode cX3_isAsNew 34 = .ok (.ireturn, 1) := by decide +kernel
theorem dX3_meet_0 : decode cX3_meet 0 = .ok (.iload_n 1, 1) := by decide +kernel
theorem dX3_meet_1 : decode cX3_meet 1 = .ok (.aload_n 0, 1) := by decide +kernel
theorem dX3_meet_2 : decode cX3_meet 2 = .ok (.getfield 32, 3) := by decide +kernel
theorem dX3_meet_5 : decode cX3_meet 5 = .ok (.if_icmp .gt 4, 3) := by decide +kernel
theorem dX3_meet_8 : decode cX3_meet 8 = .ok (.return_, 1) := by decide +kernel
theorem dX3_meet_9 : decode cX3_meet 9 = .ok (.aload_n 0, 1) := by decide +kernel
theorem dX3_meet_10 : decode cX3_meet 10 = .ok (.iload_n 1, 1) := by decide +kernel
theorem dX3_meet_11 : decode cX3_meet 11 = .ok (.putfield 32, 3) := by decide +kernel
theorem dX3_meet_14 : decode cX3_meet 14 = .ok (.aload_n 0, 1) := by decide +kernel
theorem dX3_meet_15 : decode cX3_meet 15 = .ok (.iconst (-1), 1) := by decide +kernel
theorem dX3_meet_16 : decode cX3_meet 16 = .ok (.putfield 7, 3) := by decide +kernel
theorem dX3_meet_19 : decode cX3_meet 19 = .ok (.aload_n 0, 1) := by decide +kernel
theorem dX3_meet_20 : decode cX3_meet 20 = .ok (.iconst 0, 1) := by decide +kernel
theorem dX3_meet_21 : decode cX3_meet 21 = .ok (.putfield 35, 3) := by decide +kernel
theorem dX3_meet_24 : decode cX3_meet 24 = .ok (.return_, 1) := by decide +kernel
