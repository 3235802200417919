theorem dX1_init_0 : decode cX1_init 0 = .ok (.aload_n 0, 1) := by decide +kernel
theorem dX1_init_1 : decode cX1_init 1 = .ok (.invokespecial 3, 3) := by decide +kernel
theorem dX1_init_4 : decode cX1_init 4 = .ok (.aload_n 0, 1) := by decide +kernel
theorem dX1_init_5 : decode cX1_init 5 = .ok (.bipush 7, 2) := by decide +kernel
theorem dX1_init_7 : decode cX1_init 7 = .ok (.newarray .int, 2) := by decide +kernel
theorem dX1_init_9 : decode cX1_init 9 = .ok (.putfield 9, 3) := by decide +kernel
theorem dX1_init_12 : decode cX1_init 12 = .ok (.aload_n 0, 1) := by decide +kernel
theorem dX1_init_13 : decode cX1_init 13 = .ok (.bipush 7, 2) := by decide +kernel
theorem dX1_init_15 : decode cX1_init 15 = .ok (.newarray .int, 2) := by decide +kernel
theorem dX1_init_17 : decode cX1_init 17 = .ok (.putfield 15, 3) := by decide +kernel
theorem dX1_init_20 : decode cX1_init 20 = .ok (.aload_n 0, 1) := by decide +kernel
theorem dX1_init_21 : decode cX1_init 21 = .ok (.bipush 70, 2) := by decide +kernel
theorem dX1_init_23 : decode cX1_init 23 = .ok (.newarray .int, 2) := by decide +kernel
theorem dX1_init_25 : decode cX1_init 25 = .ok (.putfield 18, 3) := by decide +kernel
theorem dX1_init_28 : decode cX1_init 28 = .ok (.aload_n 0, 1) := by decide +kernel
theorem dX1_init_29 : decode cX1_init 29 = .ok (.bipush 70, 2) := by decide +kernel
theorem dX1_init_31 : decode cX1_init 31 = .ok (.newarray .int, 2) := by decide +kernel
theorem dX1_init_33 : decode cX1_init 33 = .ok (.putfield 21, 3) := by decide +kernel
theorem dX1_init_36 : decode cX1_init 36 = .ok (.return_, 1) := by decide +kernel
theorem dX1_clear_0 : decode cX1_clear 0 = .ok (.aload_n 0, 1) := by decide +kernel
theorem dX1_clear_1 : decode cX1_clear 1 = .ok (.getfield 9, 3) := by decide +kernel
theorem dX1_clear_4 : decode cX1_clear 4 = .ok (.iload_n 1, 1) := by decide +kernel
theorem dX1_clear_5 : decode cX1_clear 5 = .ok (.iconst 0, 1) := by decide +kernel
theorem dX1_clear_6 : decode cX1_clear 6 = .ok (.iastore, 1) := by decide +kernel
theorem dX1_clear_7 : decode cX1_clear 7 = .ok (.aload_n 0, 1) := by decide +kernel
theorem dX1_clear_8 : decode cX1_clear 8 = .ok (.getfield 15, 3) := by decide +kernel
theorem dX1_clear_11 : decode cX1_clear 11 = .ok (.iload_n 1, 1) := by decide +kernel
theorem dX1_clear_12 : decode cX1_clear 12 = .ok (.iconst 0, 1) := by decide +kernel
theorem dX1_clear_13 : decode cX1_clear 13 = .ok (.iastore, 1) := by decide +kernel
theorem dX1_clear_14 : decode cX1_clear 14 = .ok (.return_, 1) := by decide +kernel
theorem dX1_copyFrom_0 : decode cX1_copyFrom 0 = .ok (.aload_n 1, 1) := by decide +kernel
theorem dX1_copyFrom_1 : decode cX1_copyFrom 1 = .ok (.getfield 9, 3) := by decide +kernel
theorem dX1_copyFrom_4 : decode cX1_copyFrom 4 = .ok (.iconst 0, 1) := by decide +kernel
theorem dX1_copyFrom_5 : decode cX1_copyFrom 5 = .ok (.aload_n 0, 1) := by decide +kernel
theorem dX1_copyFrom_6 : decode cX1_copyFrom 6 = .ok (.getfield 9, 3) := by decide +kernel
theorem dX1_copyFrom_9 : decode cX1_copyFrom 9 = .ok (.iconst 0, 1) := by decide +kernel
theorem dX1_copyFrom_10 : decode cX1_copyFrom 10 = .ok (.bipush 7, 2) := by decide +kernel
theorem dX1_copyFrom_12 : decode cX1_copyFrom 12 = .ok (.invokestatic 24, 3) := by decide +kernel
theorem dX1_copyFrom_15 : decode cX1_copyFrom 15 = .ok (.aload_n 1, 1) := by decide +kernel
theorem dX1_copyFrom_16 : decode cX1_copyFrom 16 = .ok (.getfield 15, 3) := by decide +kernel
theorem dX1_copyFrom_19 : decode cX1_copyFrom 19 = .ok (.iconst 0, 1) := by decide +kernel
theorem dX1_copyFrom_20 : decode cX1_copyFrom 20 = .ok (.aload_n 0, 1) := by decide +kernel
theorem dX1_copyFrom_21 : decode cX1_copyFrom 21 = .ok (.getfield 15, 3) := by decide +kernel
theorem dX1_copyFrom_24 : decode cX1_copyFrom 24 = .ok (.iconst 0, 1) := by decide +kernel
theorem dX1_copyFrom_25 : decode cX1_copyFrom 25 = .ok (.bipush 7, 2) := by decide +kernel
theorem dX1_copyFrom_27 : decode cX1_copyFrom 27 = .ok (.invokestatic 24, 3) := by decide +kernel
theorem dX1_copyFrom_30 : decode cX1_copyFrom 30 = .ok (.aload_n 1, 1) := by decide +kernel
theorem dX1_copyFrom_31 : decode cX1_copyFrom 31 = .ok (.getfield 18, 3) := by decide +kernel
theorem dX1_copyFrom_34 : decode cX1_copyFrom 34 = .ok (.iconst 0, 1) := by decide +kernel
theorem dX1_copyFrom_35 : decode cX1_copyFrom 35 = .ok (.aload_n 0, 1) := by decide +kernel
theorem dX1_copyFrom_36 : decode cX1_copyFrom 36 = .ok (.getfield 18, 3) := by decide +kernel
theorem dX1_copyFrom_39 : decode cX1_copyFrom 39 = .ok (.iconst 0, 1) := by decide +kernel
theorem dX1_copyFrom_40 : decode cX1_copyFrom 40 = .ok (.bipush 70, 2) := by decide +kernel
theorem dX1_copyFrom_42 : decode cX1_copyFrom 42 = .ok (.invokestatic 24, 3) := by decide +kernel
theorem dX1_copyFrom_45 : decode cX1_copyFrom 45 = .ok (.aload_n 1, 1) := by decide +kernel
theorem dX1_copyFrom_46 : decode cX1_copyFrom 46 = .ok (.getfield 21, 3) := by decide +kernel
theorem dX1_copyFrom_49 : decode cX1_copyFrom 49 = .ok (.iconst 0, 1) := by decide +kernel
theorem dX1_copyFrom_50 : decode cX1_copyFrom 50 = .ok (.aload_n 0, 1) := by decide +kernel
theorem dX1_copyFrom_51 : decode cX1_copyFrom 51 = .ok (.getfield 21, 3) := by decide +kernel
theorem dX1_copyFrom_54 : decode cX1_copyFrom 54 = .ok (.iconst 0, 1) := by decide +kernel
theorem dX1_copyFrom_55 : decode cX1_copyFrom 55 = .ok (.bipush 70, 2) := by decide +kernel
theorem dX1_copyFrom_57 : decode cX1_copyFrom 57 = .ok (.invokestatic 24, 3) := by decide +kernel
theorem dX1_copyFrom_60 : decode cX1_copyFrom 60 = .ok (.return_, 1) := by decide +kernel
theorem dX1_termAt_0 : decode cX1_termAt 0 = .ok (.aload_n 0, 1) := by decide +kernel
theorem dX1_termAt_1 : decode cX1_termAt 1 = .ok (.getfield 18, 3) := by decide +kernel
theorem dX1_termAt_4 : decode cX1_termAt 4 = .ok (.iload_n 1, 1) := by decide +kernel
theorem dX1_termAt_5 : decode cX1_termAt 5 = .ok (.bipush 10, 2) := by decide +kernel
theorem dX1_termAt_7 : decode cX1_termAt 7 = .ok (.imul, 1) := by decide +kernel
theorem dX1_termAt_8 : decode cX1_termAt 8 = .ok (.iload_n 2, 1) := by decide +kernel
theorem dX1_termAt_9 : decode cX1_termAt 9 = .ok (.iadd, 1) := by decide +kernel
theorem dX1_termAt_10 : decode cX1_termAt 10 = .ok (.iaload, 1) := by decide +kernel
theorem dX1_termAt_11 : decode cX1_termAt 11 = .ok (.ireturn, 1) := by decide +kernel
theorem dX1_fishAt_0 : decode cX1_fishAt 0 = .ok (.aload_n 0, 1) := by decide +kernel
theorem dX1_fishAt_1 : decode cX1_fishAt 1 = .ok (.getfield 21, 3) := by decide +kernel
theorem dX1_fishAt_4 : decode cX1_fishAt 4 = .ok (.iload_n 1, 1) := by decide +kernel
theorem dX1_fishAt_5 : decode cX1_fishAt 5 = .ok (.bipush 10, 2) := by decide +kernel
theorem dX1_fishAt_7 : decode cX1_fishAt 7 = .ok (.imul, 1) := by decide +kernel
theorem dX1_fishAt_8 : decode cX1_fishAt 8 = .ok (.iload_n 2, 1) := by decide +kernel
theorem dX1_fishAt_9 : decode cX1_fishAt 9 = .ok (.iadd, 1) := by decide +kernel
theorem dX1_fishAt_10 : decode cX1_fishAt 10 = .ok (.iaload, 1) := by decide +kernel
theorem dX1_fishAt_11 : decode cX1_fishAt 11 = .ok (.ireturn, 1) := by decide +kernel
theorem dX1_lastTerm_0 : decode cX1_lastTerm 0 = .ok (.aload_n 0, 1) := by decide +kernel
theorem dX1_lastTerm_1 : decode cX1_lastTerm 1 = .ok (.getfield 9, 3) := by decide +kernel
theorem dX1_lastTerm_4 : decode cX1_lastTerm 4 = .ok (.iload_n 1, 1) := by decide +kernel
theorem dX1_lastTerm_5 : decode cX1_lastTerm 5 = .ok (.iaload, 1) := by decide +kernel
theorem dX1_lastTerm_6 : decode cX1_lastTerm 6 = .ok (.ifCond .le 24, 3) := by decide +kernel
theorem dX1_lastTerm_9 : decode cX1_lastTerm 9 = .ok (.aload_n 0, 1) := by decide +kernel
theorem dX1_lastTerm_10 : decode cX1_lastTerm 10 = .ok (.getfield 18, 3) := by decide +kernel
theorem dX1_lastTerm_13 : decode cX1_lastTerm 13 = .ok (.iload_n 1, 1) := by decide +kernel
theorem dX1_lastTerm_14 : decode cX1_lastTerm 14 = .ok (.bipush 10, 2) := by decide +kernel
theorem dX1_lastTerm_16 : decode cX1_lastTerm 16 = .ok (.imul, 1) := by decide +kernel
theorem dX1_lastTerm_17 : decode cX1_lastTerm 17 = .ok (.aload_n 0, 1) := by decide +kernel
theorem dX1_lastTerm_18 : decode cX1_lastTerm 18 = .ok (.getfield 9, 3) := by decide +kernel
theorem dX1_lastTerm_21 : decode cX1_lastTerm 21 = .ok (.iload_n 1, 1) := by decide +kernel
theorem dX1_lastTerm_22 : decode cX1_lastTerm 22 = .ok (.iaload, 1) := by decide +kernel
theorem dX1_lastTerm_23 : decode cX1_lastTerm 23 = .ok (.iadd, 1) := by decide +kernel
theorem dX1_lastTerm_24 : decode cX1_lastTerm 24 = .ok (.iconst 1, 1) := by decide +kernel
theorem dX1_lastTerm_25 : decode cX1_lastTerm 25 = .ok (.isub, 1) := by decide +kernel
theorem dX1_lastTerm_26 : decode cX1_lastTerm 26 = .ok (.iaload, 1) := by decide +kernel
theorem dX1_lastTerm_27 : decode cX1_lastTerm 27 = .ok (.goto 4, 3) := by decide +kernel
theorem dX1_lastTerm_30 : decode cX1_lastTerm 30 = .ok (.iconst (-1), 1) := by decide +kernel
theorem dX1_lastTerm_31 : decode cX1_lastTerm 31 = .ok (.ireturn, 1) := by decide +kernel
theorem dX1_append_0 : decode cX1_append 0 = .ok (.aload_n 0, 1) := by decide +kernel
theorem dX1_append_1 : decode cX1_append 1 = .ok (.getfield 9, 3) := by decide +kernel
theorem dX1_append_4 : decode cX1_append 4 = .ok (.iload_n 1, 1) := by decide +kernel
theorem dX1_append_5 : decode cX1_append 5 = .ok (.iaload, 1) := by decide +kernel
theorem dX1_append_6 : decode cX1_append 6 = .ok (.bipush 10, 2) := by decide +kernel
theorem dX1_append_8 : decode cX1_append 8 = .ok (.if_icmp .lt 4, 3) := by decide +kernel
theorem dX1_append_11 : decode cX1_append 11 = .ok (.return_, 1) := by decide +kernel
theorem dX1_append_12 : decode cX1_append 12 = .ok (.iload_n 1, 1) := by decide +kernel
theorem dX1_append_13 : decode cX1_append 13 = .ok (.bipush 10, 2) := by decide +kernel
theorem dX1_append_15 : decode cX1_append 15 = .ok (.imul, 1) := by decide +kernel
theorem dX1_append_16 : decode cX1_append 16 = .ok (.aload_n 0, 1) := by decide +kernel
theorem dX1_append_17 : decode cX1_append 17 = .ok (.getfield 9, 3) := by decide +kernel
theorem dX1_append_20 : decode cX1_append 20 = .ok (.iload_n 1, 1) := by decide +kernel
theorem dX1_append_21 : decode cX1_append 21 = .ok (.iaload, 1) := by decide +kernel
theorem dX1_append_22 : decode cX1_append 22 = .ok (.iadd, 1) := by decide +kernel
theorem dX1_append_23 : decode cX1_append 23 = .ok (.istore 4, 2) := by decide +kernel
theorem dX1_append_25 : decode cX1_append 25 = .ok (.aload_n 0, 1) := by decide +kernel
theorem dX1_append_26 : decode cX1_append 26 = .ok (.getfield 18, 3) := by decide +kernel
theorem dX1_append_29 : decode cX1_append 29 = .ok (.iload 4, 2) := by decide +kernel
theorem dX1_append_31 : decode cX1_append 31 = .ok (.iload_n 2, 1) := by decide +kernel
theorem dX1_append_32 : decode cX1_append 32 = .ok (.iastore, 1) := by decide +kernel
theorem dX1_append_33 : decode cX1_append 33 = .ok (.aload_n 0, 1) := by decide +kernel
theorem dX1_append_34 : decode cX1_append 34 = .ok (.getfield 21, 3) := by decide +kernel
theorem dX1_append_37 : decode cX1_append 37 = .ok (.iload 4, 2) := by decide +kernel
theorem dX1_append_39 : decode cX1_append 39 = .ok (.iload_n 3, 1) := by decide +kernel
theorem dX1_append_40 : decode cX1_append 40 = .ok (.iastore, 1) := by decide +kernel
theorem dX1_append_41 : decode cX1_append 41 = .ok (.aload_n 0, 1) := by decide +kernel
theorem dX1_append_42 : decode cX1_append 42 = .ok (.getfield 9, 3) := by decide +kernel
theorem dX1_append_45 : decode cX1_append 45 = .ok (.iload_n 1, 1) := by decide +kernel
theorem dX1_append_46 : decode cX1_append 46 = .ok (.dup2, 1) := by decide +kernel
theorem dX1_append_47 : decode cX1_append 47 = .ok (.iaload, 1) := by decide +kernel
theorem dX1_append_48 : decode cX1_append 48 = .ok (.iconst 1, 1) := by decide +kernel
theorem dX1_append_49 : decode cX1_append 49 = .ok (.iadd, 1) := by decide +kernel
theorem dX1_append_50 : decode cX1_append 50 = .ok (.iastore, 1) := by decide +kernel
theorem dX1_append_51 : decode cX1_append 51 = .ok (.return_, 1) := by decide +kernel
theorem dX1_loseLast_0 : decode cX1_loseLast 0 = .ok (.aload_n 0, 1) := by decide +kernel
theorem dX1_loseLast_1 : decode cX1_loseLast 1 = .ok (.getfield 9, 3) := by decide +kernel
theorem dX1_loseLast_4 : decode cX1_loseLast 4 = .ok (.iload_n 1, 1) := by decide +kernel
theorem dX1_loseLast_5 : decode cX1_loseLast 5 = .ok (.iaload, 1) := by decide +kernel
theorem dX1_loseLast_6 : decode cX1_loseLast 6 = .ok (.ifCond .le 13, 3) := by decide +kernel
theorem dX1_loseLast_9 : decode cX1_loseLast 9 = .ok (.aload_n 0, 1) := by decide +kernel
theorem dX1_loseLast_10 : decode cX1_loseLast 10 = .ok (.getfield 9, 3) := by decide +kernel
theorem dX1_loseLast_13 : decode cX1_loseLast 13 = .ok (.iload_n 1, 1) := by decide +kernel
theorem dX1_loseLast_14 : decode cX1_loseLast 14 = .ok (.dup2, 1) := by decide +kernel
theorem dX1_loseLast_15 : decode cX1_loseLast 15 = .ok (.iaload, 1) := by decide +kernel
theorem dX1_loseLast_16 : decode cX1_loseLast 16 = .ok (.iconst 1, 1) := by decide +kernel
theorem dX1_loseLast_17 : decode cX1_loseLast 17 = .ok (.isub, 1) := by decide +kernel
theorem dX1_loseLast_18 : decode cX1_loseLast 18 = .ok (.iastore, 1) := by decide +kernel
theorem dX1_loseLast_19 : decode cX1_loseLast 19 = .ok (.return_, 1) := by decide +kernel
theorem dX1_agreement_0 : decode cX1_agreement 0 = .ok (.iload_n 1, 1) := by decide +kernel
theorem dX1_agreement_1 : decode cX1_agreement 1 = .ok (.bipush 10, 2) := by decide +kernel
theorem dX1_agreement_3 : decode cX1_agreement 3 = .ok (.imul, 1) := by decide +kernel
theorem dX1_agreement_4 : decode cX1_agreement 4 = .ok (.istore_n 3, 1) := by decide +kernel
theorem dX1_agreement_5 : decode cX1_agreement 5 = .ok (.iload_n 2, 1) := by decide +kernel
theorem dX1_agreement_6 : decode cX1_agreement 6 = .ok (.bipush 10, 2) := by decide +kernel
theorem dX1_agreement_8 : decode cX1_agreement 8 = .ok (.imul, 1) := by decide +kernel
theorem dX1_agreement_9 : decode cX1_agreement 9 = .ok (.istore 4, 2) := by decide +kernel
theorem dX1_agreement_11 : decode cX1_agreement 11 = .ok (.aload_n 0, 1) := by decide +kernel
theorem dX1_agreement_12 : decode cX1_agreement 12 = .ok (.getfield 9, 3) := by decide +kernel
theorem dX1_agreement_15 : decode cX1_agreement 15 = .ok (.iload_n 1, 1) := by decide +kernel
theorem dX1_agreement_16 : decode cX1_agreement 16 = .ok (.iaload, 1) := by decide +kernel
theorem dX1_agreement_17 : decode cX1_agreement 17 = .ok (.aload_n 0, 1) := by decide +kernel
theorem dX1_agreement_18 : decode cX1_agreement 18 = .ok (.getfield 9, 3) := by decide +kernel
theorem dX1_agreement_21 : decode cX1_agreement 21 = .ok (.iload_n 2, 1) := by decide +kernel
theorem dX1_agreement_22 : decode cX1_agreement 22 = .ok (.iaload, 1) := by decide +kernel
theorem dX1_agreement_23 : decode cX1_agreement 23 = .ok (.invokestatic 30, 3) := by decide +kernel
theorem dX1_agreement_26 : decode cX1_agreement 26 = .ok (.istore 5, 2) := by decide +kernel
theorem dX1_agreement_28 : decode cX1_agreement 28 = .ok (.iconst 0, 1) := by decide +kernel
theorem dX1_agreement_29 : decode cX1_agreement 29 = .ok (.istore 6, 2) := by decide +kernel
theorem dX1_agreement_31 : decode cX1_agreement 31 = .ok (.iload 6, 2) := by decide +kernel
theorem dX1_agreement_33 : decode cX1_agreement 33 = .ok (.iload 5, 2) := by decide +kernel
theorem dX1_agreement_35 : decode cX1_agreement 35 = .ok (.if_icmp .ge 53, 3) := by decide +kernel
theorem dX1_agreement_38 : decode cX1_agreement 38 = .ok (.aload_n 0, 1) := by decide +kernel
theorem dX1_agreement_39 : decode cX1_agreement 39 = .ok (.getfield 18, 3) := by decide +kernel
theorem dX1_agreement_42 : decode cX1_agreement 42 = .ok (.iload_n 3, 1) := by decide +kernel
theorem dX1_agreement_43 : decode cX1_agreement 43 = .ok (.iload 6, 2) := by decide +kernel
theorem dX1_agreement_45 : decode cX1_agreement 45 = .ok (.iadd, 1) := by decide +kernel
theorem dX1_agreement_46 : decode cX1_agreement 46 = .ok (.iaload, 1) := by decide +kernel
theorem dX1_agreement_47 : decode cX1_agreement 47 = .ok (.aload_n 0, 1) := by decide +kernel
theorem dX1_agreement_48 : decode cX1_agreement 48 = .ok (.getfield 18, 3) := by decide +kernel
theorem dX1_agreement_51 : decode cX1_agreement 51 = .ok (.iload 4, 2) := by decide +kernel
theorem dX1_agreement_53 : decode cX1_agreement 53 = .ok (.iload 6, 2) := by decide +kernel
theorem dX1_agreement_55 : decode cX1_agreement 55 = .ok (.iadd, 1) := by decide +kernel
theorem dX1_agreement_56 : decode cX1_agreement 56 = .ok (.iaload, 1) := by decide +kernel
theorem dX1_agreement_57 : decode cX1_agreement 57 = .ok (.if_icmp .ne 31, 3) := by decide +kernel
theorem dX1_agreement_60 : decode cX1_agreement 60 = .ok (.aload_n 0, 1) := by decide +kernel
theorem dX1_agreement_61 : decode cX1_agreement 61 = .ok (.getfield 21, 3) := by decide +kernel
theorem dX1_agreement_64 : decode cX1_agreement 64 = .ok (.iload_n 3, 1) := by decide +kernel
theorem dX1_agreement_65 : decode cX1_agreement 65 = .ok (.iload 6, 2) := by decide +kernel
theorem dX1_agreement_67 : decode cX1_agreement 67 = .ok (.iadd, 1) := by decide +kernel
theorem dX1_agreement_68 : decode cX1_agreement 68 = .ok (.iaload, 1) := by decide +kernel
theorem dX1_agreement_69 : decode cX1_agreement 69 = .ok (.aload_n 0, 1) := by decide +kernel
theorem dX1_agreement_70 : decode cX1_agreement 70 = .ok (.getfield 21, 3) := by decide +kernel
theorem dX1_agreement_73 : decode cX1_agreement 73 = .ok (.iload 4, 2) := by decide +kernel
theorem dX1_agreement_75 : decode cX1_agreement 75 = .ok (.iload 6, 2) := by decide +kernel
theorem dX1_agreement_77 : decode cX1_agreement 77 = .ok (.iadd, 1) := by decide +kernel
theorem dX1_agreement_78 : decode cX1_agreement 78 = .ok (.iaload, 1) := by decide +kernel
theorem dX1_agreement_79 : decode cX1_agreement 79 = .ok (.if_icmp .ne 9, 3) := by decide +kernel
theorem dX1_agreement_82 : decode cX1_agreement 82 = .ok (.iinc 6 1, 3) := by decide +kernel
theorem dX1_agreement_85 : decode cX1_agreement 85 = .ok (.goto (-54), 3) := by decide +kernel
theorem dX1_agreement_88 : decode cX1_agreement 88 = .ok (.iload 6, 2) := by decide +kernel
theorem dX1_agreement_90 : decode cX1_agreement 90 = .ok (.ireturn, 1) := by decide +kernel
theorem dX1_asNew_0 : decode cX1_asNew 0 = .ok (.aload_n 0, 1) := by decide +kernel
theorem dX1_asNew_1 : decode cX1_asNew 1 = .ok (.iload_n 1, 1) := by decide +kernel
theorem dX1_asNew_2 : decode cX1_asNew 2 = .ok (.invokevirtual 36, 3) := by decide +kernel
theorem dX1_asNew_5 : decode cX1_asNew 5 = .ok (.istore_n 3, 1) := by decide +kernel
theorem dX1_asNew_6 : decode cX1_asNew 6 = .ok (.aload_n 0, 1) := by decide +kernel
theorem dX1_asNew_7 : decode cX1_asNew 7 = .ok (.iload_n 2, 1) := by decide +kernel
theorem dX1_asNew_8 : decode cX1_asNew 8 = .ok (.invokevirtual 36, 3) := by decide +kernel
theorem dX1_asNew_11 : decode cX1_asNew 11 = .ok (.istore 4, 2) := by decide +kernel
theorem dX1_asNew_13 : decode cX1_asNew 13 = .ok (.iload_n 3, 1) := by decide +kernel
theorem dX1_asNew_14 : decode cX1_asNew 14 = .ok (.iload 4, 2) := by decide +kernel
theorem dX1_asNew_16 : decode cX1_asNew 16 = .ok (.if_icmp .gt 24, 3) := by decide +kernel
theorem dX1_asNew_19 : decode cX1_asNew 19 = .ok (.iload_n 3, 1) := by decide +kernel
theorem dX1_asNew_20 : decode cX1_asNew 20 = .ok (.iload 4, 2) := by decide +kernel
theorem dX1_asNew_22 : decode cX1_asNew 22 = .ok (.if_icmp .ne 22, 3) := by decide +kernel
theorem dX1_asNew_25 : decode cX1_asNew 25 = .ok (.aload_n 0, 1) := by decide +kernel
theorem dX1_asNew_26 : decode cX1_asNew 26 = .ok (.getfield 9, 3) := by decide +kernel
theorem dX1_asNew_29 : decode cX1_asNew 29 = .ok (.iload_n 1, 1) := by decide +kernel
theorem dX1_asNew_30 : decode cX1_asNew 30 = .ok (.iaload, 1) := by decide +kernel
theorem dX1_asNew_31 : decode cX1_asNew 31 = .ok (.aload_n 0, 1) := by decide +kernel
theorem dX1_asNew_32 : decode cX1_asNew 32 = .ok (.getfield 9, 3) := by decide +kernel
theorem dX1_asNew_35 : decode cX1_asNew 35 = .ok (.iload_n 2, 1) := by decide +kernel
theorem dX1_asNew_36 : decode cX1_asNew 36 = .ok (.iaload, 1) := by decide +kernel
theorem dX1_asNew_37 : decode cX1_asNew 37 = .ok (.if_icmp .lt 7, 3) := by decide +kernel
theorem dX1_asNew_40 : decode cX1_asNew 40 = .ok (.iconst 1, 1) := by decide +kernel
theorem dX1_asNew_41 : decode cX1_asNew 41 = .ok (.goto 4, 3) := by decide +kernel
theorem dX1_asNew_44 : decode cX1_asNew 44 = .ok (.iconst 0, 1) := by decide +kernel
theorem dX1_asNew_45 : decode cX1_asNew 45 = .ok (.ireturn, 1) := by decide +kernel
theorem dX1_mend_0 : decode cX1_mend 0 = .ok (.aload_n 0, 1) := by decide +kernel
theorem dX1_mend_1 : decode cX1_mend 1 = .ok (.iload_n 1, 1) := by decide +kernel
theorem dX1_mend_2 : decode cX1_mend 2 = .ok (.iload_n 2, 1) := by decide +kernel
theorem dX1_mend_3 : decode cX1_mend 3 = .ok (.invokevirtual 40, 3) := by decide +kernel
theorem dX1_mend_6 : decode cX1_mend 6 = .ok (.istore_n 3, 1) := by decide +kernel
theorem dX1_mend_7 : decode cX1_mend 7 = .ok (.aload_n 0, 1) := by decide +kernel
theorem dX1_mend_8 : decode cX1_mend 8 = .ok (.getfield 9, 3) := by decide +kernel
theorem dX1_mend_11 : decode cX1_mend 11 = .ok (.iload_n 2, 1) := by decide +kernel
theorem dX1_mend_12 : decode cX1_mend 12 = .ok (.iaload, 1) := by decide +kernel
theorem dX1_mend_13 : decode cX1_mend 13 = .ok (.iload_n 3, 1) := by decide +kernel
theorem dX1_mend_14 : decode cX1_mend 14 = .ok (.if_icmp .le 10, 3) := by decide +kernel
theorem dX1_mend_17 : decode cX1_mend 17 = .ok (.aload_n 0, 1) := by decide +kernel
theorem dX1_mend_18 : decode cX1_mend 18 = .ok (.iload_n 2, 1) := by decide +kernel
theorem dX1_mend_19 : decode cX1_mend 19 = .ok (.invokevirtual 43, 3) := by decide +kernel
theorem dX1_mend_22 : decode cX1_mend 22 = .ok (.iconst 1, 1) := by decide +kernel
theorem dX1_mend_23 : decode cX1_mend 23 = .ok (.ireturn, 1) := by decide +kernel
theorem dX1_mend_24 : decode cX1_mend 24 = .ok (.iload_n 3, 1) := by decide +kernel
theorem dX1_mend_25 : decode cX1_mend 25 = .ok (.aload_n 0, 1) := by decide +kernel
theorem dX1_mend_26 : decode cX1_mend 26 = .ok (.getfield 9, 3) := by decide +kernel
theorem dX1_mend_29 : decode cX1_mend 29 = .ok (.iload_n 1, 1) := by decide +kernel
theorem dX1_mend_30 : decode cX1_mend 30 = .ok (.iaload, 1) := by decide +kernel
theorem dX1_mend_31 : decode cX1_mend 31 = .ok (.if_icmp .ge 20, 3) := by decide +kernel
theorem dX1_mend_34 : decode cX1_mend 34 = .ok (.aload_n 0, 1) := by decide +kernel
theorem dX1_mend_35 : decode cX1_mend 35 = .ok (.iload_n 2, 1) := by decide +kernel
theorem dX1_mend_36 : decode cX1_mend 36 = .ok (.aload_n 0, 1) := by decide +kernel
theorem dX1_mend_37 : decode cX1_mend 37 = .ok (.iload_n 1, 1) := by decide +kernel
theorem dX1_mend_38 : decode cX1_mend 38 = .ok (.iload_n 3, 1) := by decide +kernel
theorem dX1_mend_39 : decode cX1_mend 39 = .ok (.invokevirtual 47, 3) := by decide +kernel
theorem dX1_mend_42 : decode cX1_mend 42 = .ok (.aload_n 0, 1) := by decide +kernel
theorem dX1_mend_43 : decode cX1_mend 43 = .ok (.iload_n 1, 1) := by decide +kernel
theorem dX1_mend_44 : decode cX1_mend 44 = .ok (.iload_n 3, 1) := by decide +kernel
theorem dX1_mend_45 : decode cX1_mend 45 = .ok (.invokevirtual 50, 3) := by decide +kernel
theorem dX1_mend_48 : decode cX1_mend 48 = .ok (.invokevirtual 53, 3) := by decide +kernel
theorem dX1_mend_51 : decode cX1_mend 51 = .ok (.iconst 0, 1) := by decide +kernel
theorem dX1_mend_52 : decode cX1_mend 52 = .ok (.ireturn, 1) := by decide +kernel
theorem dX1_learnCommitted_0 : decode cX1_learnCommitted 0 = .ok (.aload_n 0, 1) := by decide +kernel
theorem dX1_learnCommitted_1 : decode cX1_learnCommitted 1 = .ok (.getfield 15, 3) := by decide +kernel
theorem dX1_learnCommitted_4 : decode cX1_learnCommitted 4 = .ok (.iload_n 1, 1) := by decide +kernel
theorem dX1_learnCommitted_5 : decode cX1_learnCommitted 5 = .ok (.iaload, 1) := by decide +kernel
theorem dX1_learnCommitted_6 : decode cX1_learnCommitted 6 = .ok (.aload_n 0, 1) := by decide +kernel
theorem dX1_learnCommitted_7 : decode cX1_learnCommitted 7 = .ok (.iload_n 1, 1) := by decide +kernel
theorem dX1_learnCommitted_8 : decode cX1_learnCommitted 8 = .ok (.iload_n 2, 1) := by decide +kernel
theorem dX1_learnCommitted_9 : decode cX1_learnCommitted 9 = .ok (.invokevirtual 40, 3) := by decide +kernel
theorem dX1_learnCommitted_12 : decode cX1_learnCommitted 12 = .ok (.invokestatic 30, 3) := by decide +kernel
theorem dX1_learnCommitted_15 : decode cX1_learnCommitted 15 = .ok (.istore_n 3, 1) := by decide +kernel
theorem dX1_learnCommitted_16 : decode cX1_learnCommitted 16 = .ok (.aload_n 0, 1) := by decide +kernel
theorem dX1_learnCommitted_17 : decode cX1_learnCommitted 17 = .ok (.getfield 15, 3) := by decide +kernel
theorem dX1_learnCommitted_20 : decode cX1_learnCommitted 20 = .ok (.iload_n 2, 1) := by decide +kernel
theorem dX1_learnCommitted_21 : decode cX1_learnCommitted 21 = .ok (.aload_n 0, 1) := by decide +kernel
theorem dX1_learnCommitted_22 : decode cX1_learnCommitted 22 = .ok (.getfield 15, 3) := by decide +kernel
theorem dX1_learnCommitted_25 : decode cX1_learnCommitted 25 = .ok (.iload_n 2, 1) := by decide +kernel
theorem dX1_learnCommitted_26 : decode cX1_learnCommitted 26 = .ok (.iaload, 1) := by decide +kernel
theorem dX1_learnCommitted_27 : decode cX1_learnCommitted 27 = .ok (.iload_n 3, 1) := by decide +kernel
theorem dX1_learnCommitted_28 : decode cX1_learnCommitted 28 = .ok (.invokestatic 57, 3) := by decide +kernel
theorem dX1_learnCommitted_31 : decode cX1_learnCommitted 31 = .ok (.iastore, 1) := by decide +kernel
theorem dX1_learnCommitted_32 : decode cX1_learnCommitted 32 = .ok (.return_, 1) := by decide +kernel
