theorem dX4_init_0 : decode cX4_init 0 = .ok (.aload_n 0, 1) := by decide +kernel
theorem dX4_init_1 : decode cX4_init 1 = .ok (.invokespecial 1, 3) := by decide +kernel
theorem dX4_init_4 : decode cX4_init 4 = .ok (.aload_n 0, 1) := by decide +kernel
theorem dX4_init_5 : decode cX4_init 5 = .ok (.iconst 0, 1) := by decide +kernel
theorem dX4_init_6 : decode cX4_init 6 = .ok (.anewarray 7, 3) := by decide +kernel
theorem dX4_init_9 : decode cX4_init 9 = .ok (.putfield 9, 3) := by decide +kernel
theorem dX4_init_12 : decode cX4_init 12 = .ok (.aload_n 0, 1) := by decide +kernel
theorem dX4_init_13 : decode cX4_init 13 = .ok (.iload_n 1, 1) := by decide +kernel
theorem dX4_init_14 : decode cX4_init 14 = .ok (.anewarray 7, 3) := by decide +kernel
theorem dX4_init_17 : decode cX4_init 17 = .ok (.putfield 9, 3) := by decide +kernel
theorem dX4_init_20 : decode cX4_init 20 = .ok (.iconst 0, 1) := by decide +kernel
theorem dX4_init_21 : decode cX4_init 21 = .ok (.istore_n 2, 1) := by decide +kernel
theorem dX4_init_22 : decode cX4_init 22 = .ok (.iload_n 2, 1) := by decide +kernel
theorem dX4_init_23 : decode cX4_init 23 = .ok (.iload_n 1, 1) := by decide +kernel
theorem dX4_init_24 : decode cX4_init 24 = .ok (.if_icmp .ge 25, 3) := by decide +kernel
theorem dX4_init_27 : decode cX4_init 27 = .ok (.aload_n 0, 1) := by decide +kernel
theorem dX4_init_28 : decode cX4_init 28 = .ok (.getfield 9, 3) := by decide +kernel
theorem dX4_init_31 : decode cX4_init 31 = .ok (.iload_n 2, 1) := by decide +kernel
theorem dX4_init_32 : decode cX4_init 32 = .ok (.new 7, 3) := by decide +kernel
theorem dX4_init_35 : decode cX4_init 35 = .ok (.dup, 1) := by decide +kernel
theorem dX4_init_36 : decode cX4_init 36 = .ok (.iconst 2, 1) := by decide +kernel
theorem dX4_init_37 : decode cX4_init 37 = .ok (.iload_n 2, 1) := by decide +kernel
theorem dX4_init_38 : decode cX4_init 38 = .ok (.iadd, 1) := by decide +kernel
theorem dX4_init_39 : decode cX4_init 39 = .ok (.invokespecial 15, 3) := by decide +kernel
theorem dX4_init_42 : decode cX4_init 42 = .ok (.aastore, 1) := by decide +kernel
theorem dX4_init_43 : decode cX4_init 43 = .ok (.iinc 2 1, 3) := by decide +kernel
theorem dX4_init_46 : decode cX4_init 46 = .ok (.goto (-24), 3) := by decide +kernel
theorem dX4_init_49 : decode cX4_init 49 = .ok (.return_, 1) := by decide +kernel
theorem dX4_hear_0 : decode cX4_hear 0 = .ok (.iload_n 1, 1) := by decide +kernel
theorem dX4_hear_1 : decode cX4_hear 1 = .ok (.iload_n 2, 1) := by decide +kernel
theorem dX4_hear_2 : decode cX4_hear 2 = .ok (.if_icmp .eq 52, 3) := by decide +kernel
theorem dX4_hear_5 : decode cX4_hear 5 = .ok (.aload_n 0, 1) := by decide +kernel
theorem dX4_hear_6 : decode cX4_hear 6 = .ok (.getfield 9, 3) := by decide +kernel
theorem dX4_hear_9 : decode cX4_hear 9 = .ok (.iload_n 1, 1) := by decide +kernel
theorem dX4_hear_10 : decode cX4_hear 10 = .ok (.aaload, 1) := by decide +kernel
theorem dX4_hear_11 : decode cX4_hear 11 = .ok (.getfield 36, 3) := by decide +kernel
theorem dX4_hear_14 : decode cX4_hear 14 = .ok (.ifCond .eq 40, 3) := by decide +kernel
theorem dX4_hear_17 : decode cX4_hear 17 = .ok (.aload_n 0, 1) := by decide +kernel
theorem dX4_hear_18 : decode cX4_hear 18 = .ok (.getfield 9, 3) := by decide +kernel
theorem dX4_hear_21 : decode cX4_hear 21 = .ok (.iload_n 2, 1) := by decide +kernel
theorem dX4_hear_22 : decode cX4_hear 22 = .ok (.aaload, 1) := by decide +kernel
theorem dX4_hear_23 : decode cX4_hear 23 = .ok (.getfield 36, 3) := by decide +kernel
theorem dX4_hear_26 : decode cX4_hear 26 = .ok (.ifCond .eq 28, 3) := by decide +kernel
theorem dX4_hear_29 : decode cX4_hear 29 = .ok (.aload_n 0, 1) := by decide +kernel
theorem dX4_hear_30 : decode cX4_hear 30 = .ok (.getfield 9, 3) := by decide +kernel
theorem dX4_hear_33 : decode cX4_hear 33 = .ok (.iload_n 1, 1) := by decide +kernel
theorem dX4_hear_34 : decode cX4_hear 34 = .ok (.aaload, 1) := by decide +kernel
theorem dX4_hear_35 : decode cX4_hear 35 = .ok (.getfield 40, 3) := by decide +kernel
theorem dX4_hear_38 : decode cX4_hear 38 = .ok (.aload_n 0, 1) := by decide +kernel
theorem dX4_hear_39 : decode cX4_hear 39 = .ok (.getfield 9, 3) := by decide +kernel
theorem dX4_hear_42 : decode cX4_hear 42 = .ok (.iload_n 2, 1) := by decide +kernel
theorem dX4_hear_43 : decode cX4_hear 43 = .ok (.aaload, 1) := by decide +kernel
theorem dX4_hear_44 : decode cX4_hear 44 = .ok (.getfield 40, 3) := by decide +kernel
theorem dX4_hear_47 : decode cX4_hear 47 = .ok (.if_icmp .ne 7, 3) := by decide +kernel
theorem dX4_hear_50 : decode cX4_hear 50 = .ok (.iconst 1, 1) := by decide +kernel
theorem dX4_hear_51 : decode cX4_hear 51 = .ok (.goto 4, 3) := by decide +kernel
theorem dX4_hear_54 : decode cX4_hear 54 = .ok (.iconst 0, 1) := by decide +kernel
theorem dX4_hear_55 : decode cX4_hear 55 = .ok (.ireturn, 1) := by decide +kernel
theorem dX4_stand_0 : decode cX4_stand 0 = .ok (.aload_n 0, 1) := by decide +kernel
theorem dX4_stand_1 : decode cX4_stand 1 = .ok (.getfield 9, 3) := by decide +kernel
theorem dX4_stand_4 : decode cX4_stand 4 = .ok (.iload_n 1, 1) := by decide +kernel
theorem dX4_stand_5 : decode cX4_stand 5 = .ok (.aaload, 1) := by decide +kernel
theorem dX4_stand_6 : decode cX4_stand 6 = .ok (.astore_n 2, 1) := by decide +kernel
theorem dX4_stand_7 : decode cX4_stand 7 = .ok (.aload_n 0, 1) := by decide +kernel
theorem dX4_stand_8 : decode cX4_stand 8 = .ok (.dup, 1) := by decide +kernel
theorem dX4_stand_9 : decode cX4_stand 9 = .ok (.getfield 23, 3) := by decide +kernel
theorem dX4_stand_12 : decode cX4_stand 12 = .ok (.iconst 1, 1) := by decide +kernel
theorem dX4_stand_13 : decode cX4_stand 13 = .ok (.iadd, 1) := by decide +kernel
theorem dX4_stand_14 : decode cX4_stand 14 = .ok (.putfield 23, 3) := by decide +kernel
theorem dX4_stand_17 : decode cX4_stand 17 = .ok (.aload_n 2, 1) := by decide +kernel
theorem dX4_stand_18 : decode cX4_stand 18 = .ok (.dup, 1) := by decide +kernel
theorem dX4_stand_19 : decode cX4_stand 19 = .ok (.getfield 43, 3) := by decide +kernel
theorem dX4_stand_22 : decode cX4_stand 22 = .ok (.iconst 1, 1) := by decide +kernel
theorem dX4_stand_23 : decode cX4_stand 23 = .ok (.iadd, 1) := by decide +kernel
theorem dX4_stand_24 : decode cX4_stand 24 = .ok (.putfield 43, 3) := by decide +kernel
theorem dX4_stand_27 : decode cX4_stand 27 = .ok (.aload_n 2, 1) := by decide +kernel
theorem dX4_stand_28 : decode cX4_stand 28 = .ok (.iconst 1, 1) := by decide +kernel
theorem dX4_stand_29 : decode cX4_stand 29 = .ok (.putfield 46, 3) := by decide +kernel
theorem dX4_stand_32 : decode cX4_stand 32 = .ok (.aload_n 2, 1) := by decide +kernel
theorem dX4_stand_33 : decode cX4_stand 33 = .ok (.iload_n 1, 1) := by decide +kernel
theorem dX4_stand_34 : decode cX4_stand 34 = .ok (.putfield 49, 3) := by decide +kernel
theorem dX4_stand_37 : decode cX4_stand 37 = .ok (.aload_n 2, 1) := by decide +kernel
theorem dX4_stand_38 : decode cX4_stand 38 = .ok (.aload_n 2, 1) := by decide +kernel
theorem dX4_stand_39 : decode cX4_stand 39 = .ok (.getfield 52, 3) := by decide +kernel
theorem dX4_stand_42 : decode cX4_stand 42 = .ok (.putfield 55, 3) := by decide +kernel
theorem dX4_stand_45 : decode cX4_stand 45 = .ok (.iconst 1, 1) := by decide +kernel
theorem dX4_stand_46 : decode cX4_stand 46 = .ok (.istore_n 3, 1) := by decide +kernel
theorem dX4_stand_47 : decode cX4_stand 47 = .ok (.iconst 0, 1) := by decide +kernel
theorem dX4_stand_48 : decode cX4_stand 48 = .ok (.istore 4, 2) := by decide +kernel
theorem dX4_stand_50 : decode cX4_stand 50 = .ok (.iload 4, 2) := by decide +kernel
theorem dX4_stand_52 : decode cX4_stand 52 = .ok (.aload_n 0, 1) := by decide +kernel
theorem dX4_stand_53 : decode cX4_stand 53 = .ok (.getfield 9, 3) := by decide +kernel
theorem dX4_stand_56 : decode cX4_stand 56 = .ok (.arraylength, 1) := by decide +kernel
theorem dX4_stand_57 : decode cX4_stand 57 = .ok (.if_icmp .ge 113, 3) := by decide +kernel
theorem dX4_stand_60 : decode cX4_stand 60 = .ok (.aload_n 2, 1) := by decide +kernel
theorem dX4_stand_61 : decode cX4_stand 61 = .ok (.getfield 46, 3) := by decide +kernel
theorem dX4_stand_64 : decode cX4_stand 64 = .ok (.iconst 1, 1) := by decide +kernel
theorem dX4_stand_65 : decode cX4_stand 65 = .ok (.if_icmp .ne 105, 3) := by decide +kernel
theorem dX4_stand_68 : decode cX4_stand 68 = .ok (.aload_n 0, 1) := by decide +kernel
theorem dX4_stand_69 : decode cX4_stand 69 = .ok (.getfield 9, 3) := by decide +kernel
theorem dX4_stand_72 : decode cX4_stand 72 = .ok (.iload 4, 2) := by decide +kernel
theorem dX4_stand_74 : decode cX4_stand 74 = .ok (.aaload, 1) := by decide +kernel
theorem dX4_stand_75 : decode cX4_stand 75 = .ok (.astore 5, 2) := by decide +kernel
theorem dX4_stand_77 : decode cX4_stand 77 = .ok (.aload_n 0, 1) := by decide +kernel
theorem dX4_stand_78 : decode cX4_stand 78 = .ok (.iload_n 1, 1) := by decide +kernel
theorem dX4_stand_79 : decode cX4_stand 79 = .ok (.iload 4, 2) := by decide +kernel
theorem dX4_stand_81 : decode cX4_stand 81 = .ok (.invokevirtual 58, 3) := by decide +kernel
theorem dX4_stand_84 : decode cX4_stand 84 = .ok (.ifCond .ne 6, 3) := by decide +kernel
theorem dX4_stand_87 : decode cX4_stand 87 = .ok (.goto 77, 3) := by decide +kernel
theorem dX4_stand_90 : decode cX4_stand 90 = .ok (.aload 5, 2) := by decide +kernel
theorem dX4_stand_92 : decode cX4_stand 92 = .ok (.aload_n 2, 1) := by decide +kernel
theorem dX4_stand_93 : decode cX4_stand 93 = .ok (.getfield 43, 3) := by decide +kernel
theorem dX4_stand_96 : decode cX4_stand 96 = .ok (.invokevirtual 62, 3) := by decide +kernel
theorem dX4_stand_99 : decode cX4_stand 99 = .ok (.aload_n 2, 1) := by decide +kernel
theorem dX4_stand_100 : decode cX4_stand 100 = .ok (.aload 5, 2) := by decide +kernel
theorem dX4_stand_102 : decode cX4_stand 102 = .ok (.getfield 43, 3) := by decide +kernel
theorem dX4_stand_105 : decode cX4_stand 105 = .ok (.invokevirtual 62, 3) := by decide +kernel
theorem dX4_stand_108 : decode cX4_stand 108 = .ok (.aload_n 2, 1) := by decide +kernel
theorem dX4_stand_109 : decode cX4_stand 109 = .ok (.getfield 46, 3) := by decide +kernel
theorem dX4_stand_112 : decode cX4_stand 112 = .ok (.iconst 1, 1) := by decide +kernel
theorem dX4_stand_113 : decode cX4_stand 113 = .ok (.if_icmp .ne 51, 3) := by decide +kernel
theorem dX4_stand_116 : decode cX4_stand 116 = .ok (.aload 5, 2) := by decide +kernel
theorem dX4_stand_118 : decode cX4_stand 118 = .ok (.getfield 49, 3) := by decide +kernel
theorem dX4_stand_121 : decode cX4_stand 121 = .ok (.ifCond .lt 12, 3) := by decide +kernel
theorem dX4_stand_124 : decode cX4_stand 124 = .ok (.aload 5, 2) := by decide +kernel
theorem dX4_stand_126 : decode cX4_stand 126 = .ok (.getfield 49, 3) := by decide +kernel
theorem dX4_stand_129 : decode cX4_stand 129 = .ok (.iload_n 1, 1) := by decide +kernel
theorem dX4_stand_130 : decode cX4_stand 130 = .ok (.if_icmp .ne 34, 3) := by decide +kernel
theorem dX4_stand_133 : decode cX4_stand 133 = .ok (.aload_n 2, 1) := by decide +kernel
theorem dX4_stand_134 : decode cX4_stand 134 = .ok (.aload 5, 2) := by decide +kernel
theorem dX4_stand_136 : decode cX4_stand 136 = .ok (.invokevirtual 65, 3) := by decide +kernel
theorem dX4_stand_139 : decode cX4_stand 139 = .ok (.ifCond .ne 6, 3) := by decide +kernel
theorem dX4_stand_142 : decode cX4_stand 142 = .ok (.goto 22, 3) := by decide +kernel
theorem dX4_stand_145 : decode cX4_stand 145 = .ok (.aload 5, 2) := by decide +kernel
theorem dX4_stand_147 : decode cX4_stand 147 = .ok (.iload_n 1, 1) := by decide +kernel
theorem dX4_stand_148 : decode cX4_stand 148 = .ok (.putfield 49, 3) := by decide +kernel
theorem dX4_stand_151 : decode cX4_stand 151 = .ok (.aload 5, 2) := by decide +kernel
theorem dX4_stand_153 : decode cX4_stand 153 = .ok (.aload 5, 2) := by decide +kernel
theorem dX4_stand_155 : decode cX4_stand 155 = .ok (.getfield 52, 3) := by decide +kernel
theorem dX4_stand_158 : decode cX4_stand 158 = .ok (.putfield 55, 3) := by decide +kernel
theorem dX4_stand_161 : decode cX4_stand 161 = .ok (.iinc 3 1, 3) := by decide +kernel
theorem dX4_stand_164 : decode cX4_stand 164 = .ok (.iinc 4 1, 3) := by decide +kernel
theorem dX4_stand_167 : decode cX4_stand 167 = .ok (.goto (-117), 3) := by decide +kernel
theorem dX4_stand_170 : decode cX4_stand 170 = .ok (.aload_n 2, 1) := by decide +kernel
theorem dX4_stand_171 : decode cX4_stand 171 = .ok (.getfield 46, 3) := by decide +kernel
theorem dX4_stand_174 : decode cX4_stand 174 = .ok (.iconst 1, 1) := by decide +kernel
theorem dX4_stand_175 : decode cX4_stand 175 = .ok (.if_icmp .ne 29, 3) := by decide +kernel
theorem dX4_stand_178 : decode cX4_stand 178 = .ok (.iconst 2, 1) := by decide +kernel
theorem dX4_stand_179 : decode cX4_stand 179 = .ok (.iload_n 3, 1) := by decide +kernel
theorem dX4_stand_180 : decode cX4_stand 180 = .ok (.imul, 1) := by decide +kernel
theorem dX4_stand_181 : decode cX4_stand 181 = .ok (.aload_n 0, 1) := by decide +kernel
theorem dX4_stand_182 : decode cX4_stand 182 = .ok (.getfield 9, 3) := by decide +kernel
theorem dX4_stand_185 : decode cX4_stand 185 = .ok (.arraylength, 1) := by decide +kernel
theorem dX4_stand_186 : decode cX4_stand 186 = .ok (.if_icmp .le 18, 3) := by decide +kernel
theorem dX4_stand_189 : decode cX4_stand 189 = .ok (.aload_n 2, 1) := by decide +kernel
theorem dX4_stand_190 : decode cX4_stand 190 = .ok (.iconst 2, 1) := by decide +kernel
theorem dX4_stand_191 : decode cX4_stand 191 = .ok (.putfield 46, 3) := by decide +kernel
theorem dX4_stand_194 : decode cX4_stand 194 = .ok (.aload_n 0, 1) := by decide +kernel
theorem dX4_stand_195 : decode cX4_stand 195 = .ok (.dup, 1) := by decide +kernel
theorem dX4_stand_196 : decode cX4_stand 196 = .ok (.getfield 26, 3) := by decide +kernel
theorem dX4_stand_199 : decode cX4_stand 199 = .ok (.iconst 1, 1) := by decide +kernel
theorem dX4_stand_200 : decode cX4_stand 200 = .ok (.iadd, 1) := by decide +kernel
theorem dX4_stand_201 : decode cX4_stand 201 = .ok (.putfield 26, 3) := by decide +kernel
theorem dX4_stand_204 : decode cX4_stand 204 = .ok (.return_, 1) := by decide +kernel
theorem dX4_tell_0 : decode cX4_tell 0 = .ok (.aload_n 0, 1) := by decide +kernel
theorem dX4_tell_1 : decode cX4_tell 1 = .ok (.getfield 9, 3) := by decide +kernel
theorem dX4_tell_4 : decode cX4_tell 4 = .ok (.iload_n 1, 1) := by decide +kernel
theorem dX4_tell_5 : decode cX4_tell 5 = .ok (.aaload, 1) := by decide +kernel
theorem dX4_tell_6 : decode cX4_tell 6 = .ok (.astore_n 2, 1) := by decide +kernel
theorem dX4_tell_7 : decode cX4_tell 7 = .ok (.iconst 0, 1) := by decide +kernel
theorem dX4_tell_8 : decode cX4_tell 8 = .ok (.istore_n 3, 1) := by decide +kernel
theorem dX4_tell_9 : decode cX4_tell 9 = .ok (.iload_n 3, 1) := by decide +kernel
theorem dX4_tell_10 : decode cX4_tell 10 = .ok (.aload_n 0, 1) := by decide +kernel
theorem dX4_tell_11 : decode cX4_tell 11 = .ok (.getfield 9, 3) := by decide +kernel
theorem dX4_tell_14 : decode cX4_tell 14 = .ok (.arraylength, 1) := by decide +kernel
theorem dX4_tell_15 : decode cX4_tell 15 = .ok (.if_icmp .ge 190, 3) := by decide +kernel
theorem dX4_tell_18 : decode cX4_tell 18 = .ok (.aload_n 2, 1) := by decide +kernel
theorem dX4_tell_19 : decode cX4_tell 19 = .ok (.getfield 46, 3) := by decide +kernel
theorem dX4_tell_22 : decode cX4_tell 22 = .ok (.iconst 2, 1) := by decide +kernel
theorem dX4_tell_23 : decode cX4_tell 23 = .ok (.if_icmp .ne 182, 3) := by decide +kernel
theorem dX4_tell_26 : decode cX4_tell 26 = .ok (.aload_n 0, 1) := by decide +kernel
theorem dX4_tell_27 : decode cX4_tell 27 = .ok (.getfield 9, 3) := by decide +kernel
theorem dX4_tell_30 : decode cX4_tell 30 = .ok (.iload_n 3, 1) := by decide +kernel
theorem dX4_tell_31 : decode cX4_tell 31 = .ok (.aaload, 1) := by decide +kernel
theorem dX4_tell_32 : decode cX4_tell 32 = .ok (.astore 4, 2) := by decide +kernel
theorem dX4_tell_34 : decode cX4_tell 34 = .ok (.aload_n 0, 1) := by decide +kernel
theorem dX4_tell_35 : decode cX4_tell 35 = .ok (.iload_n 1, 1) := by decide +kernel
theorem dX4_tell_36 : decode cX4_tell 36 = .ok (.iload_n 3, 1) := by decide +kernel
theorem dX4_tell_37 : decode cX4_tell 37 = .ok (.invokevirtual 58, 3) := by decide +kernel
theorem dX4_tell_40 : decode cX4_tell 40 = .ok (.ifCond .ne 6, 3) := by decide +kernel
theorem dX4_tell_43 : decode cX4_tell 43 = .ok (.goto 156, 3) := by decide +kernel
theorem dX4_tell_46 : decode cX4_tell 46 = .ok (.aload_n 2, 1) := by decide +kernel
theorem dX4_tell_47 : decode cX4_tell 47 = .ok (.aload 4, 2) := by decide +kernel
theorem dX4_tell_49 : decode cX4_tell 49 = .ok (.getfield 43, 3) := by decide +kernel
theorem dX4_tell_52 : decode cX4_tell 52 = .ok (.invokevirtual 62, 3) := by decide +kernel
theorem dX4_tell_55 : decode cX4_tell 55 = .ok (.aload_n 2, 1) := by decide +kernel
theorem dX4_tell_56 : decode cX4_tell 56 = .ok (.getfield 46, 3) := by decide +kernel
theorem dX4_tell_59 : decode cX4_tell 59 = .ok (.iconst 2, 1) := by decide +kernel
theorem dX4_tell_60 : decode cX4_tell 60 = .ok (.if_icmp .eq 6, 3) := by decide +kernel
theorem dX4_tell_63 : decode cX4_tell 63 = .ok (.goto 136, 3) := by decide +kernel
theorem dX4_tell_66 : decode cX4_tell 66 = .ok (.aload 4, 2) := by decide +kernel
theorem dX4_tell_68 : decode cX4_tell 68 = .ok (.aload_n 2, 1) := by decide +kernel
theorem dX4_tell_69 : decode cX4_tell 69 = .ok (.getfield 43, 3) := by decide +kernel
theorem dX4_tell_72 : decode cX4_tell 72 = .ok (.invokevirtual 62, 3) := by decide +kernel
theorem dX4_tell_75 : decode cX4_tell 75 = .ok (.aload 4, 2) := by decide +kernel
theorem dX4_tell_77 : decode cX4_tell 77 = .ok (.iconst 0, 1) := by decide +kernel
theorem dX4_tell_78 : decode cX4_tell 78 = .ok (.putfield 46, 3) := by decide +kernel
theorem dX4_tell_81 : decode cX4_tell 81 = .ok (.aload 4, 2) := by decide +kernel
theorem dX4_tell_83 : decode cX4_tell 83 = .ok (.aload 4, 2) := by decide +kernel
theorem dX4_tell_85 : decode cX4_tell 85 = .ok (.getfield 52, 3) := by decide +kernel
theorem dX4_tell_88 : decode cX4_tell 88 = .ok (.putfield 55, 3) := by decide +kernel
theorem dX4_tell_91 : decode cX4_tell 91 = .ok (.aload_n 2, 1) := by decide +kernel
theorem dX4_tell_92 : decode cX4_tell 92 = .ok (.aload 4, 2) := by decide +kernel
theorem dX4_tell_94 : decode cX4_tell 94 = .ok (.invokevirtual 69, 3) := by decide +kernel
theorem dX4_tell_97 : decode cX4_tell 97 = .ok (.istore 5, 2) := by decide +kernel
theorem dX4_tell_99 : decode cX4_tell 99 = .ok (.aload 4, 2) := by decide +kernel
theorem dX4_tell_101 : decode cX4_tell 101 = .ok (.getfield 73, 3) := by decide +kernel
theorem dX4_tell_104 : decode cX4_tell 104 = .ok (.arraylength, 1) := by decide +kernel
theorem dX4_tell_105 : decode cX4_tell 105 = .ok (.iload 5, 2) := by decide +kernel
theorem dX4_tell_107 : decode cX4_tell 107 = .ok (.if_icmp .le 34, 3) := by decide +kernel
theorem dX4_tell_110 : decode cX4_tell 110 = .ok (.aload 4, 2) := by decide +kernel
theorem dX4_tell_112 : decode cX4_tell 112 = .ok (.aload 4, 2) := by decide +kernel
theorem dX4_tell_114 : decode cX4_tell 114 = .ok (.getfield 73, 3) := by decide +kernel
theorem dX4_tell_117 : decode cX4_tell 117 = .ok (.arraylength, 1) := by decide +kernel
theorem dX4_tell_118 : decode cX4_tell 118 = .ok (.iconst 1, 1) := by decide +kernel
theorem dX4_tell_119 : decode cX4_tell 119 = .ok (.isub, 1) := by decide +kernel
theorem dX4_tell_120 : decode cX4_tell 120 = .ok (.aload_n 2, 1) := by decide +kernel
theorem dX4_tell_121 : decode cX4_tell 121 = .ok (.getfield 73, 3) := by decide +kernel
theorem dX4_tell_124 : decode cX4_tell 124 = .ok (.iconst (-1), 1) := by decide +kernel
theorem dX4_tell_125 : decode cX4_tell 125 = .ok (.invokevirtual 77, 3) := by decide +kernel
theorem dX4_tell_128 : decode cX4_tell 128 = .ok (.aload_n 0, 1) := by decide +kernel
theorem dX4_tell_129 : decode cX4_tell 129 = .ok (.dup, 1) := by decide +kernel
theorem dX4_tell_130 : decode cX4_tell 130 = .ok (.getfield 29, 3) := by decide +kernel
theorem dX4_tell_133 : decode cX4_tell 133 = .ok (.iconst 1, 1) := by decide +kernel
theorem dX4_tell_134 : decode cX4_tell 134 = .ok (.iadd, 1) := by decide +kernel
theorem dX4_tell_135 : decode cX4_tell 135 = .ok (.putfield 29, 3) := by decide +kernel
theorem dX4_tell_138 : decode cX4_tell 138 = .ok (.goto 16, 3) := by decide +kernel
theorem dX4_tell_141 : decode cX4_tell 141 = .ok (.aload 4, 2) := by decide +kernel
theorem dX4_tell_143 : decode cX4_tell 143 = .ok (.iload 5, 2) := by decide +kernel
theorem dX4_tell_145 : decode cX4_tell 145 = .ok (.aload_n 2, 1) := by decide +kernel
theorem dX4_tell_146 : decode cX4_tell 146 = .ok (.getfield 73, 3) := by decide +kernel
theorem dX4_tell_149 : decode cX4_tell 149 = .ok (.iload 5, 2) := by decide +kernel
theorem dX4_tell_151 : decode cX4_tell 151 = .ok (.invokevirtual 77, 3) := by decide +kernel
theorem dX4_tell_154 : decode cX4_tell 154 = .ok (.aload_n 2, 1) := by decide +kernel
theorem dX4_tell_155 : decode cX4_tell 155 = .ok (.getfield 81, 3) := by decide +kernel
theorem dX4_tell_158 : decode cX4_tell 158 = .ok (.aload_n 2, 1) := by decide +kernel
theorem dX4_tell_159 : decode cX4_tell 159 = .ok (.aload 4, 2) := by decide +kernel
theorem dX4_tell_161 : decode cX4_tell 161 = .ok (.invokevirtual 69, 3) := by decide +kernel
theorem dX4_tell_164 : decode cX4_tell 164 = .ok (.if_icmp .ge 10, 3) := by decide +kernel
theorem dX4_tell_167 : decode cX4_tell 167 = .ok (.aload_n 2, 1) := by decide +kernel
theorem dX4_tell_168 : decode cX4_tell 168 = .ok (.getfield 81, 3) := by decide +kernel
theorem dX4_tell_171 : decode cX4_tell 171 = .ok (.goto 9, 3) := by decide +kernel
theorem dX4_tell_174 : decode cX4_tell 174 = .ok (.aload_n 2, 1) := by decide +kernel
theorem dX4_tell_175 : decode cX4_tell 175 = .ok (.aload 4, 2) := by decide +kernel
theorem dX4_tell_177 : decode cX4_tell 177 = .ok (.invokevirtual 69, 3) := by decide +kernel
theorem dX4_tell_180 : decode cX4_tell 180 = .ok (.istore 6, 2) := by decide +kernel
theorem dX4_tell_182 : decode cX4_tell 182 = .ok (.iload 6, 2) := by decide +kernel
theorem dX4_tell_184 : decode cX4_tell 184 = .ok (.aload 4, 2) := by decide +kernel
theorem dX4_tell_186 : decode cX4_tell 186 = .ok (.getfield 81, 3) := by decide +kernel
theorem dX4_tell_189 : decode cX4_tell 189 = .ok (.if_icmp .le 10, 3) := by decide +kernel
theorem dX4_tell_192 : decode cX4_tell 192 = .ok (.aload 4, 2) := by decide +kernel
theorem dX4_tell_194 : decode cX4_tell 194 = .ok (.iload 6, 2) := by decide +kernel
theorem dX4_tell_196 : decode cX4_tell 196 = .ok (.putfield 81, 3) := by decide +kernel
theorem dX4_tell_199 : decode cX4_tell 199 = .ok (.iinc 3 1, 3) := by decide +kernel
theorem dX4_tell_202 : decode cX4_tell 202 = .ok (.goto (-193), 3) := by decide +kernel
theorem dX4_tell_205 : decode cX4_tell 205 = .ok (.return_, 1) := by decide +kernel
theorem dX4_commit_0 : decode cX4_commit 0 = .ok (.aload_n 0, 1) := by decide +kernel
theorem dX4_commit_1 : decode cX4_commit 1 = .ok (.getfield 9, 3) := by decide +kernel
theorem dX4_commit_4 : decode cX4_commit 4 = .ok (.iload_n 1, 1) := by decide +kernel
theorem dX4_commit_5 : decode cX4_commit 5 = .ok (.aaload, 1) := by decide +kernel
theorem dX4_commit_6 : decode cX4_commit 6 = .ok (.astore_n 2, 1) := by decide +kernel
theorem dX4_commit_7 : decode cX4_commit 7 = .ok (.aload_n 2, 1) := by decide +kernel
theorem dX4_commit_8 : decode cX4_commit 8 = .ok (.getfield 81, 3) := by decide +kernel
theorem dX4_commit_11 : decode cX4_commit 11 = .ok (.istore_n 3, 1) := by decide +kernel
theorem dX4_commit_12 : decode cX4_commit 12 = .ok (.aload_n 2, 1) := by decide +kernel
theorem dX4_commit_13 : decode cX4_commit 13 = .ok (.getfield 81, 3) := by decide +kernel
theorem dX4_commit_16 : decode cX4_commit 16 = .ok (.iconst 1, 1) := by decide +kernel
theorem dX4_commit_17 : decode cX4_commit 17 = .ok (.iadd, 1) := by decide +kernel
theorem dX4_commit_18 : decode cX4_commit 18 = .ok (.istore 4, 2) := by decide +kernel
theorem dX4_commit_20 : decode cX4_commit 20 = .ok (.iload 4, 2) := by decide +kernel
theorem dX4_commit_22 : decode cX4_commit 22 = .ok (.aload_n 2, 1) := by decide +kernel
theorem dX4_commit_23 : decode cX4_commit 23 = .ok (.getfield 73, 3) := by decide +kernel
theorem dX4_commit_26 : decode cX4_commit 26 = .ok (.arraylength, 1) := by decide +kernel
theorem dX4_commit_27 : decode cX4_commit 27 = .ok (.if_icmp .gt 100, 3) := by decide +kernel
theorem dX4_commit_30 : decode cX4_commit 30 = .ok (.iconst 1, 1) := by decide +kernel
theorem dX4_commit_31 : decode cX4_commit 31 = .ok (.istore 5, 2) := by decide +kernel
theorem dX4_commit_33 : decode cX4_commit 33 = .ok (.iconst 0, 1) := by decide +kernel
theorem dX4_commit_34 : decode cX4_commit 34 = .ok (.istore 6, 2) := by decide +kernel
theorem dX4_commit_36 : decode cX4_commit 36 = .ok (.iload 6, 2) := by decide +kernel
theorem dX4_commit_38 : decode cX4_commit 38 = .ok (.aload_n 0, 1) := by decide +kernel
theorem dX4_commit_39 : decode cX4_commit 39 = .ok (.getfield 9, 3) := by decide +kernel
theorem dX4_commit_42 : decode cX4_commit 42 = .ok (.arraylength, 1) := by decide +kernel
theorem dX4_commit_43 : decode cX4_commit 43 = .ok (.if_icmp .ge 45, 3) := by decide +kernel
theorem dX4_commit_46 : decode cX4_commit 46 = .ok (.iload 5, 2) := by decide +kernel
theorem dX4_commit_48 : decode cX4_commit 48 = .ok (.aload_n 0, 1) := by decide +kernel
theorem dX4_commit_49 : decode cX4_commit 49 = .ok (.iload_n 1, 1) := by decide +kernel
theorem dX4_commit_50 : decode cX4_commit 50 = .ok (.iload 6, 2) := by decide +kernel
theorem dX4_commit_52 : decode cX4_commit 52 = .ok (.invokevirtual 58, 3) := by decide +kernel
theorem dX4_commit_55 : decode cX4_commit 55 = .ok (.ifCond .eq 23, 3) := by decide +kernel
theorem dX4_commit_58 : decode cX4_commit 58 = .ok (.aload_n 2, 1) := by decide +kernel
theorem dX4_commit_59 : decode cX4_commit 59 = .ok (.aload_n 0, 1) := by decide +kernel
theorem dX4_commit_60 : decode cX4_commit 60 = .ok (.getfield 9, 3) := by decide +kernel
theorem dX4_commit_63 : decode cX4_commit 63 = .ok (.iload 6, 2) := by decide +kernel
theorem dX4_commit_65 : decode cX4_commit 65 = .ok (.aaload, 1) := by decide +kernel
theorem dX4_commit_66 : decode cX4_commit 66 = .ok (.invokevirtual 69, 3) := by decide +kernel
theorem dX4_commit_69 : decode cX4_commit 69 = .ok (.iload 4, 2) := by decide +kernel
theorem dX4_commit_71 : decode cX4_commit 71 = .ok (.if_icmp .lt 7, 3) := by decide +kernel
theorem dX4_commit_74 : decode cX4_commit 74 = .ok (.iconst 1, 1) := by decide +kernel
theorem dX4_commit_75 : decode cX4_commit 75 = .ok (.goto 4, 3) := by decide +kernel
theorem dX4_commit_78 : decode cX4_commit 78 = .ok (.iconst 0, 1) := by decide +kernel
theorem dX4_commit_79 : decode cX4_commit 79 = .ok (.iadd, 1) := by decide +kernel
theorem dX4_commit_80 : decode cX4_commit 80 = .ok (.istore 5, 2) := by decide +kernel
theorem dX4_commit_82 : decode cX4_commit 82 = .ok (.iinc 6 1, 3) := by decide +kernel
theorem dX4_commit_85 : decode cX4_commit 85 = .ok (.goto (-49), 3) := by decide +kernel
theorem dX4_commit_88 : decode cX4_commit 88 = .ok (.iconst 2, 1) := by decide +kernel
theorem dX4_commit_89 : decode cX4_commit 89 = .ok (.iload 5, 2) := by decide +kernel
theorem dX4_commit_91 : decode cX4_commit 91 = .ok (.imul, 1) := by decide +kernel
theorem dX4_commit_92 : decode cX4_commit 92 = .ok (.aload_n 0, 1) := by decide +kernel
theorem dX4_commit_93 : decode cX4_commit 93 = .ok (.getfield 9, 3) := by decide +kernel
theorem dX4_commit_96 : decode cX4_commit 96 = .ok (.arraylength, 1) := by decide +kernel
theorem dX4_commit_97 : decode cX4_commit 97 = .ok (.if_icmp .le 24, 3) := by decide +kernel
theorem dX4_commit_100 : decode cX4_commit 100 = .ok (.aload_n 2, 1) := by decide +kernel
theorem dX4_commit_101 : decode cX4_commit 101 = .ok (.getfield 73, 3) := by decide +kernel
theorem dX4_commit_104 : decode cX4_commit 104 = .ok (.iload 4, 2) := by decide +kernel
theorem dX4_commit_106 : decode cX4_commit 106 = .ok (.iconst 1, 1) := by decide +kernel
theorem dX4_commit_107 : decode cX4_commit 107 = .ok (.isub, 1) := by decide +kernel
theorem dX4_commit_108 : decode cX4_commit 108 = .ok (.aaload, 1) := by decide +kernel
theorem dX4_commit_109 : decode cX4_commit 109 = .ok (.iconst 0, 1) := by decide +kernel
theorem dX4_commit_110 : decode cX4_commit 110 = .ok (.iaload, 1) := by decide +kernel
theorem dX4_commit_111 : decode cX4_commit 111 = .ok (.aload_n 2, 1) := by decide +kernel
theorem dX4_commit_112 : decode cX4_commit 112 = .ok (.getfield 43, 3) := by decide +kernel
theorem dX4_commit_115 : decode cX4_commit 115 = .ok (.if_icmp .ne 6, 3) := by decide +kernel
theorem dX4_commit_118 : decode cX4_commit 118 = .ok (.iload 4, 2) := by decide +kernel
theorem dX4_commit_120 : decode cX4_commit 120 = .ok (.istore_n 3, 1) := by decide +kernel
theorem dX4_commit_121 : decode cX4_commit 121 = .ok (.iinc 4 1, 3) := by decide +kernel
theorem dX4_commit_124 : decode cX4_commit 124 = .ok (.goto (-104), 3) := by decide +kernel
theorem dX4_commit_127 : decode cX4_commit 127 = .ok (.aload_n 2, 1) := by decide +kernel
theorem dX4_commit_128 : decode cX4_commit 128 = .ok (.iload_n 3, 1) := by decide +kernel
theorem dX4_commit_129 : decode cX4_commit 129 = .ok (.putfield 81, 3) := by decide +kernel
theorem dX4_commit_132 : decode cX4_commit 132 = .ok (.return_, 1) := by decide +kernel
theorem dX4_go_0 : decode cX4_go 0 = .ok (.iconst 0, 1) := by decide +kernel
theorem dX4_go_1 : decode cX4_go 1 = .ok (.istore_n 1, 1) := by decide +kernel
theorem dX4_go_2 : decode cX4_go 2 = .ok (.iload_n 1, 1) := by decide +kernel
theorem dX4_go_3 : decode cX4_go 3 = .ok (.aload_n 0, 1) := by decide +kernel
theorem dX4_go_4 : decode cX4_go 4 = .ok (.getfield 9, 3) := by decide +kernel
theorem dX4_go_7 : decode cX4_go 7 = .ok (.arraylength, 1) := by decide +kernel
theorem dX4_go_8 : decode cX4_go 8 = .ok (.if_icmp .ge 69, 3) := by decide +kernel
theorem dX4_go_11 : decode cX4_go 11 = .ok (.aload_n 0, 1) := by decide +kernel
theorem dX4_go_12 : decode cX4_go 12 = .ok (.getfield 9, 3) := by decide +kernel
theorem dX4_go_15 : decode cX4_go 15 = .ok (.iload_n 1, 1) := by decide +kernel
theorem dX4_go_16 : decode cX4_go 16 = .ok (.aaload, 1) := by decide +kernel
theorem dX4_go_17 : decode cX4_go 17 = .ok (.getfield 36, 3) := by decide +kernel
theorem dX4_go_20 : decode cX4_go 20 = .ok (.ifCond .eq 51, 3) := by decide +kernel
theorem dX4_go_23 : decode cX4_go 23 = .ok (.aload_n 0, 1) := by decide +kernel
theorem dX4_go_24 : decode cX4_go 24 = .ok (.getfield 9, 3) := by decide +kernel
theorem dX4_go_27 : decode cX4_go 27 = .ok (.iload_n 1, 1) := by decide +kernel
theorem dX4_go_28 : decode cX4_go 28 = .ok (.aaload, 1) := by decide +kernel
theorem dX4_go_29 : decode cX4_go 29 = .ok (.getfield 46, 3) := by decide +kernel
theorem dX4_go_32 : decode cX4_go 32 = .ok (.iconst 2, 1) := by decide +kernel
theorem dX4_go_33 : decode cX4_go 33 = .ok (.if_icmp .ne 6, 3) := by decide +kernel
theorem dX4_go_36 : decode cX4_go 36 = .ok (.goto 35, 3) := by decide +kernel
theorem dX4_go_39 : decode cX4_go 39 = .ok (.aload_n 0, 1) := by decide +kernel
theorem dX4_go_40 : decode cX4_go 40 = .ok (.getfield 9, 3) := by decide +kernel
theorem dX4_go_43 : decode cX4_go 43 = .ok (.iload_n 1, 1) := by decide +kernel
theorem dX4_go_44 : decode cX4_go 44 = .ok (.aaload, 1) := by decide +kernel
theorem dX4_go_45 : decode cX4_go 45 = .ok (.dup, 1) := by decide +kernel
theorem dX4_go_46 : decode cX4_go 46 = .ok (.getfield 55, 3) := by decide +kernel
theorem dX4_go_49 : decode cX4_go 49 = .ok (.iconst 1, 1) := by decide +kernel
theorem dX4_go_50 : decode cX4_go 50 = .ok (.isub, 1) := by decide +kernel
theorem dX4_go_51 : decode cX4_go 51 = .ok (.putfield 55, 3) := by decide +kernel
theorem dX4_go_54 : decode cX4_go 54 = .ok (.aload_n 0, 1) := by decide +kernel
theorem dX4_go_55 : decode cX4_go 55 = .ok (.getfield 9, 3) := by decide +kernel
theorem dX4_go_58 : decode cX4_go 58 = .ok (.iload_n 1, 1) := by decide +kernel
theorem dX4_go_59 : decode cX4_go 59 = .ok (.aaload, 1) := by decide +kernel
theorem dX4_go_60 : decode cX4_go 60 = .ok (.getfield 55, 3) := by decide +kernel
theorem dX4_go_63 : decode cX4_go 63 = .ok (.ifCond .ne 8, 3) := by decide +kernel
theorem dX4_go_66 : decode cX4_go 66 = .ok (.aload_n 0, 1) := by decide +kernel
theorem dX4_go_67 : decode cX4_go 67 = .ok (.iload_n 1, 1) := by decide +kernel
theorem dX4_go_68 : decode cX4_go 68 = .ok (.invokevirtual 84, 3) := by decide +kernel
theorem dX4_go_71 : decode cX4_go 71 = .ok (.iinc 1 1, 3) := by decide +kernel
theorem dX4_go_74 : decode cX4_go 74 = .ok (.goto (-72), 3) := by decide +kernel
theorem dX4_go_77 : decode cX4_go 77 = .ok (.iconst 0, 1) := by decide +kernel
theorem dX4_go_78 : decode cX4_go 78 = .ok (.istore_n 1, 1) := by decide +kernel
theorem dX4_go_79 : decode cX4_go 79 = .ok (.iload_n 1, 1) := by decide +kernel
theorem dX4_go_80 : decode cX4_go 80 = .ok (.aload_n 0, 1) := by decide +kernel
theorem dX4_go_81 : decode cX4_go 81 = .ok (.getfield 9, 3) := by decide +kernel
theorem dX4_go_84 : decode cX4_go 84 = .ok (.arraylength, 1) := by decide +kernel
theorem dX4_go_85 : decode cX4_go 85 = .ok (.if_icmp .ge 39, 3) := by decide +kernel
theorem dX4_go_88 : decode cX4_go 88 = .ok (.aload_n 0, 1) := by decide +kernel
theorem dX4_go_89 : decode cX4_go 89 = .ok (.getfield 9, 3) := by decide +kernel
theorem dX4_go_92 : decode cX4_go 92 = .ok (.iload_n 1, 1) := by decide +kernel
theorem dX4_go_93 : decode cX4_go 93 = .ok (.aaload, 1) := by decide +kernel
theorem dX4_go_94 : decode cX4_go 94 = .ok (.getfield 36, 3) := by decide +kernel
theorem dX4_go_97 : decode cX4_go 97 = .ok (.ifCond .eq 21, 3) := by decide +kernel
theorem dX4_go_100 : decode cX4_go 100 = .ok (.aload_n 0, 1) := by decide +kernel
theorem dX4_go_101 : decode cX4_go 101 = .ok (.getfield 9, 3) := by decide +kernel
theorem dX4_go_104 : decode cX4_go 104 = .ok (.iload_n 1, 1) := by decide +kernel
theorem dX4_go_105 : decode cX4_go 105 = .ok (.aaload, 1) := by decide +kernel
theorem dX4_go_106 : decode cX4_go 106 = .ok (.getfield 46, 3) := by decide +kernel
theorem dX4_go_109 : decode cX4_go 109 = .ok (.iconst 2, 1) := by decide +kernel
theorem dX4_go_110 : decode cX4_go 110 = .ok (.if_icmp .ne 8, 3) := by decide +kernel
theorem dX4_go_113 : decode cX4_go 113 = .ok (.aload_n 0, 1) := by decide +kernel
theorem dX4_go_114 : decode cX4_go 114 = .ok (.iload_n 1, 1) := by decide +kernel
theorem dX4_go_115 : decode cX4_go 115 = .ok (.invokevirtual 87, 3) := by decide +kernel
theorem dX4_go_118 : decode cX4_go 118 = .ok (.iinc 1 1, 3) := by decide +kernel
theorem dX4_go_121 : decode cX4_go 121 = .ok (.goto (-42), 3) := by decide +kernel
theorem dX4_go_124 : decode cX4_go 124 = .ok (.iconst 0, 1) := by decide +kernel
theorem dX4_go_125 : decode cX4_go 125 = .ok (.istore_n 1, 1) := by decide +kernel
theorem dX4_go_126 : decode cX4_go 126 = .ok (.iload_n 1, 1) := by decide +kernel
theorem dX4_go_127 : decode cX4_go 127 = .ok (.aload_n 0, 1) := by decide +kernel
theorem dX4_go_128 : decode cX4_go 128 = .ok (.getfield 9, 3) := by decide +kernel
theorem dX4_go_131 : decode cX4_go 131 = .ok (.arraylength, 1) := by decide +kernel
theorem dX4_go_132 : decode cX4_go 132 = .ok (.if_icmp .ge 39, 3) := by decide +kernel
theorem dX4_go_135 : decode cX4_go 135 = .ok (.aload_n 0, 1) := by decide +kernel
theorem dX4_go_136 : decode cX4_go 136 = .ok (.getfield 9, 3) := by decide +kernel
theorem dX4_go_139 : decode cX4_go 139 = .ok (.iload_n 1, 1) := by decide +kernel
theorem dX4_go_140 : decode cX4_go 140 = .ok (.aaload, 1) := by decide +kernel
theorem dX4_go_141 : decode cX4_go 141 = .ok (.getfield 36, 3) := by decide +kernel
theorem dX4_go_144 : decode cX4_go 144 = .ok (.ifCond .eq 21, 3) := by decide +kernel
theorem dX4_go_147 : decode cX4_go 147 = .ok (.aload_n 0, 1) := by decide +kernel
theorem dX4_go_148 : decode cX4_go 148 = .ok (.getfield 9, 3) := by decide +kernel
theorem dX4_go_151 : decode cX4_go 151 = .ok (.iload_n 1, 1) := by decide +kernel
theorem dX4_go_152 : decode cX4_go 152 = .ok (.aaload, 1) := by decide +kernel
theorem dX4_go_153 : decode cX4_go 153 = .ok (.getfield 46, 3) := by decide +kernel
theorem dX4_go_156 : decode cX4_go 156 = .ok (.iconst 2, 1) := by decide +kernel
theorem dX4_go_157 : decode cX4_go 157 = .ok (.if_icmp .ne 8, 3) := by decide +kernel
theorem dX4_go_160 : decode cX4_go 160 = .ok (.aload_n 0, 1) := by decide +kernel
theorem dX4_go_161 : decode cX4_go 161 = .ok (.iload_n 1, 1) := by decide +kernel
theorem dX4_go_162 : decode cX4_go 162 = .ok (.invokevirtual 90, 3) := by decide +kernel
theorem dX4_go_165 : decode cX4_go 165 = .ok (.iinc 1 1, 3) := by decide +kernel
theorem dX4_go_168 : decode cX4_go 168 = .ok (.goto (-42), 3) := by decide +kernel
theorem dX4_go_171 : decode cX4_go 171 = .ok (.aload_n 0, 1) := by decide +kernel
theorem dX4_go_172 : decode cX4_go 172 = .ok (.dup, 1) := by decide +kernel
theorem dX4_go_173 : decode cX4_go 173 = .ok (.getfield 19, 3) := by decide +kernel
theorem dX4_go_176 : decode cX4_go 176 = .ok (.iconst 1, 1) := by decide +kernel
theorem dX4_go_177 : decode cX4_go 177 = .ok (.iadd, 1) := by decide +kernel
theorem dX4_go_178 : decode cX4_go 178 = .ok (.putfield 19, 3) := by decide +kernel
theorem dX4_go_181 : decode cX4_go 181 = .ok (.return_, 1) := by decide +kernel
theorem dX4_counted_0 : decode cX4_counted 0 = .ok (.bipush 10, 2) := by decide +kernel
theorem dX4_counted_2 : decode cX4_counted 2 = .ok (.newarray .int, 2) := by decide +kernel
theorem dX4_counted_4 : decode cX4_counted 4 = .ok (.dup, 1) := by decide +kernel
theorem dX4_counted_5 : decode cX4_counted 5 = .ok (.iconst 0, 1) := by decide +kernel
theorem dX4_counted_6 : decode cX4_counted 6 = .ok (.aload_n 0, 1) := by decide +kernel
theorem dX4_counted_7 : decode cX4_counted 7 = .ok (.getfield 19, 3) := by decide +kernel
theorem dX4_counted_10 : decode cX4_counted 10 = .ok (.iastore, 1) := by decide +kernel
theorem dX4_counted_11 : decode cX4_counted 11 = .ok (.dup, 1) := by decide +kernel
theorem dX4_counted_12 : decode cX4_counted 12 = .ok (.iconst 1, 1) := by decide +kernel
theorem dX4_counted_13 : decode cX4_counted 13 = .ok (.aload_n 0, 1) := by decide +kernel
theorem dX4_counted_14 : decode cX4_counted 14 = .ok (.getfield 9, 3) := by decide +kernel
theorem dX4_counted_17 : decode cX4_counted 17 = .ok (.arraylength, 1) := by decide +kernel
theorem dX4_counted_18 : decode cX4_counted 18 = .ok (.iastore, 1) := by decide +kernel
theorem dX4_counted_19 : decode cX4_counted 19 = .ok (.dup, 1) := by decide +kernel
theorem dX4_counted_20 : decode cX4_counted 20 = .ok (.iconst 2, 1) := by decide +kernel
theorem dX4_counted_21 : decode cX4_counted 21 = .ok (.iconst 0, 1) := by decide +kernel
theorem dX4_counted_22 : decode cX4_counted 22 = .ok (.iastore, 1) := by decide +kernel
theorem dX4_counted_23 : decode cX4_counted 23 = .ok (.dup, 1) := by decide +kernel
theorem dX4_counted_24 : decode cX4_counted 24 = .ok (.iconst 3, 1) := by decide +kernel
theorem dX4_counted_25 : decode cX4_counted 25 = .ok (.iconst 0, 1) := by decide +kernel
theorem dX4_counted_26 : decode cX4_counted 26 = .ok (.iastore, 1) := by decide +kernel
theorem dX4_counted_27 : decode cX4_counted 27 = .ok (.dup, 1) := by decide +kernel
theorem dX4_counted_28 : decode cX4_counted 28 = .ok (.iconst 4, 1) := by decide +kernel
theorem dX4_counted_29 : decode cX4_counted 29 = .ok (.iconst 0, 1) := by decide +kernel
theorem dX4_counted_30 : decode cX4_counted 30 = .ok (.iastore, 1) := by decide +kernel
theorem dX4_counted_31 : decode cX4_counted 31 = .ok (.dup, 1) := by decide +kernel
theorem dX4_counted_32 : decode cX4_counted 32 = .ok (.iconst 5, 1) := by decide +kernel
theorem dX4_counted_33 : decode cX4_counted 33 = .ok (.aload_n 0, 1) := by decide +kernel
theorem dX4_counted_34 : decode cX4_counted 34 = .ok (.getfield 23, 3) := by decide +kernel
theorem dX4_counted_37 : decode cX4_counted 37 = .ok (.iastore, 1) := by decide +kernel
theorem dX4_counted_38 : decode cX4_counted 38 = .ok (.dup, 1) := by decide +kernel
theorem dX4_counted_39 : decode cX4_counted 39 = .ok (.bipush 6, 2) := by decide +kernel
theorem dX4_counted_41 : decode cX4_counted 41 = .ok (.aload_n 0, 1) := by decide +kernel
theorem dX4_counted_42 : decode cX4_counted 42 = .ok (.getfield 26, 3) := by decide +kernel
theorem dX4_counted_45 : decode cX4_counted 45 = .ok (.iastore, 1) := by decide +kernel
theorem dX4_counted_46 : decode cX4_counted 46 = .ok (.dup, 1) := by decide +kernel
theorem dX4_counted_47 : decode cX4_counted 47 = .ok (.bipush 7, 2) := by decide +kernel
theorem dX4_counted_49 : decode cX4_counted 49 = .ok (.aload_n 0, 1) := by decide +kernel
theorem dX4_counted_50 : decode cX4_counted 50 = .ok (.getfield 29, 3) := by decide +kernel
theorem dX4_counted_53 : decode cX4_counted 53 = .ok (.iastore, 1) := by decide +kernel
theorem dX4_counted_54 : decode cX4_counted 54 = .ok (.dup, 1) := by decide +kernel
theorem dX4_counted_55 : decode cX4_counted 55 = .ok (.bipush 8, 2) := by decide +kernel
theorem dX4_counted_57 : decode cX4_counted 57 = .ok (.iconst 0, 1) := by decide +kernel
theorem dX4_counted_58 : decode cX4_counted 58 = .ok (.iastore, 1) := by decide +kernel
theorem dX4_counted_59 : decode cX4_counted 59 = .ok (.dup, 1) := by decide +kernel
theorem dX4_counted_60 : decode cX4_counted 60 = .ok (.bipush 9, 2) := by decide +kernel
theorem dX4_counted_62 : decode cX4_counted 62 = .ok (.bipush 99, 2) := by decide +kernel
theorem dX4_counted_64 : decode cX4_counted 64 = .ok (.iastore, 1) := by decide +kernel
theorem dX4_counted_65 : decode cX4_counted 65 = .ok (.astore_n 2, 1) := by decide +kernel
theorem dX4_counted_66 : decode cX4_counted 66 = .ok (.aload_n 0, 1) := by decide +kernel
theorem dX4_counted_67 : decode cX4_counted 67 = .ok (.getfield 9, 3) := by decide +kernel
theorem dX4_counted_70 : decode cX4_counted 70 = .ok (.astore_n 3, 1) := by decide +kernel
theorem dX4_counted_71 : decode cX4_counted 71 = .ok (.aload_n 3, 1) := by decide +kernel
theorem dX4_counted_72 : decode cX4_counted 72 = .ok (.arraylength, 1) := by decide +kernel
theorem dX4_counted_73 : decode cX4_counted 73 = .ok (.istore 4, 2) := by decide +kernel
theorem dX4_counted_75 : decode cX4_counted 75 = .ok (.iconst 0, 1) := by decide +kernel
theorem dX4_counted_76 : decode cX4_counted 76 = .ok (.istore 5, 2) := by decide +kernel
theorem dX4_counted_78 : decode cX4_counted 78 = .ok (.iload 5, 2) := by decide +kernel
theorem dX4_counted_80 : decode cX4_counted 80 = .ok (.iload 4, 2) := by decide +kernel
theorem dX4_counted_82 : decode cX4_counted 82 = .ok (.if_icmp .ge 108, 3) := by decide +kernel
theorem dX4_counted_85 : decode cX4_counted 85 = .ok (.aload_n 3, 1) := by decide +kernel
theorem dX4_counted_86 : decode cX4_counted 86 = .ok (.iload 5, 2) := by decide +kernel
theorem dX4_counted_88 : decode cX4_counted 88 = .ok (.aaload, 1) := by decide +kernel
theorem dX4_counted_89 : decode cX4_counted 89 = .ok (.astore 6, 2) := by decide +kernel
theorem dX4_counted_91 : decode cX4_counted 91 = .ok (.aload_n 2, 1) := by decide +kernel
theorem dX4_counted_92 : decode cX4_counted 92 = .ok (.iconst 2, 1) := by decide +kernel
theorem dX4_counted_93 : decode cX4_counted 93 = .ok (.dup2, 1) := by decide +kernel
theorem dX4_counted_94 : decode cX4_counted 94 = .ok (.iaload, 1) := by decide +kernel
theorem dX4_counted_95 : decode cX4_counted 95 = .ok (.aload 6, 2) := by decide +kernel
theorem dX4_counted_97 : decode cX4_counted 97 = .ok (.getfield 36, 3) := by decide +kernel
theorem dX4_counted_100 : decode cX4_counted 100 = .ok (.ifCond .eq 7, 3) := by decide +kernel
theorem dX4_counted_103 : decode cX4_counted 103 = .ok (.iconst 1, 1) := by decide +kernel
theorem dX4_counted_104 : decode cX4_counted 104 = .ok (.goto 4, 3) := by decide +kernel
theorem dX4_counted_107 : decode cX4_counted 107 = .ok (.iconst 0, 1) := by decide +kernel
theorem dX4_counted_108 : decode cX4_counted 108 = .ok (.iadd, 1) := by decide +kernel
theorem dX4_counted_109 : decode cX4_counted 109 = .ok (.iastore, 1) := by decide +kernel
theorem dX4_counted_110 : decode cX4_counted 110 = .ok (.aload_n 2, 1) := by decide +kernel
theorem dX4_counted_111 : decode cX4_counted 111 = .ok (.iconst 3, 1) := by decide +kernel
theorem dX4_counted_112 : decode cX4_counted 112 = .ok (.dup2, 1) := by decide +kernel
theorem dX4_counted_113 : decode cX4_counted 113 = .ok (.iaload, 1) := by decide +kernel
theorem dX4_counted_114 : decode cX4_counted 114 = .ok (.aload 6, 2) := by decide +kernel
theorem dX4_counted_116 : decode cX4_counted 116 = .ok (.getfield 36, 3) := by decide +kernel
theorem dX4_counted_119 : decode cX4_counted 119 = .ok (.ifCond .eq 16, 3) := by decide +kernel
theorem dX4_counted_122 : decode cX4_counted 122 = .ok (.aload 6, 2) := by decide +kernel
theorem dX4_counted_124 : decode cX4_counted 124 = .ok (.getfield 46, 3) := by decide +kernel
theorem dX4_counted_127 : decode cX4_counted 127 = .ok (.iconst 2, 1) := by decide +kernel
theorem dX4_counted_128 : decode cX4_counted 128 = .ok (.if_icmp .ne 7, 3) := by decide +kernel
theorem dX4_counted_131 : decode cX4_counted 131 = .ok (.iconst 1, 1) := by decide +kernel
theorem dX4_counted_132 : decode cX4_counted 132 = .ok (.goto 4, 3) := by decide +kernel
theorem dX4_counted_135 : decode cX4_counted 135 = .ok (.iconst 0, 1) := by decide +kernel
theorem dX4_counted_136 : decode cX4_counted 136 = .ok (.iadd, 1) := by decide +kernel
theorem dX4_counted_137 : decode cX4_counted 137 = .ok (.iastore, 1) := by decide +kernel
theorem dX4_counted_138 : decode cX4_counted 138 = .ok (.aload_n 2, 1) := by decide +kernel
theorem dX4_counted_139 : decode cX4_counted 139 = .ok (.iconst 4, 1) := by decide +kernel
theorem dX4_counted_140 : decode cX4_counted 140 = .ok (.aload_n 2, 1) := by decide +kernel
theorem dX4_counted_141 : decode cX4_counted 141 = .ok (.iconst 4, 1) := by decide +kernel
theorem dX4_counted_142 : decode cX4_counted 142 = .ok (.iaload, 1) := by decide +kernel
theorem dX4_counted_143 : decode cX4_counted 143 = .ok (.aload 6, 2) := by decide +kernel
theorem dX4_counted_145 : decode cX4_counted 145 = .ok (.getfield 43, 3) := by decide +kernel
theorem dX4_counted_148 : decode cX4_counted 148 = .ok (.invokestatic 93, 3) := by decide +kernel
theorem dX4_counted_151 : decode cX4_counted 151 = .ok (.iastore, 1) := by decide +kernel
theorem dX4_counted_152 : decode cX4_counted 152 = .ok (.aload_n 2, 1) := by decide +kernel
theorem dX4_counted_153 : decode cX4_counted 153 = .ok (.bipush 8, 2) := by decide +kernel
theorem dX4_counted_155 : decode cX4_counted 155 = .ok (.aload_n 2, 1) := by decide +kernel
theorem dX4_counted_156 : decode cX4_counted 156 = .ok (.bipush 8, 2) := by decide +kernel
theorem dX4_counted_158 : decode cX4_counted 158 = .ok (.iaload, 1) := by decide +kernel
theorem dX4_counted_159 : decode cX4_counted 159 = .ok (.aload 6, 2) := by decide +kernel
theorem dX4_counted_161 : decode cX4_counted 161 = .ok (.getfield 81, 3) := by decide +kernel
theorem dX4_counted_164 : decode cX4_counted 164 = .ok (.invokestatic 93, 3) := by decide +kernel
theorem dX4_counted_167 : decode cX4_counted 167 = .ok (.iastore, 1) := by decide +kernel
theorem dX4_counted_168 : decode cX4_counted 168 = .ok (.aload_n 2, 1) := by decide +kernel
theorem dX4_counted_169 : decode cX4_counted 169 = .ok (.bipush 9, 2) := by decide +kernel
theorem dX4_counted_171 : decode cX4_counted 171 = .ok (.aload_n 2, 1) := by decide +kernel
theorem dX4_counted_172 : decode cX4_counted 172 = .ok (.bipush 9, 2) := by decide +kernel
theorem dX4_counted_174 : decode cX4_counted 174 = .ok (.iaload, 1) := by decide +kernel
theorem dX4_counted_175 : decode cX4_counted 175 = .ok (.aload 6, 2) := by decide +kernel
theorem dX4_counted_177 : decode cX4_counted 177 = .ok (.getfield 81, 3) := by decide +kernel
theorem dX4_counted_180 : decode cX4_counted 180 = .ok (.invokestatic 99, 3) := by decide +kernel
theorem dX4_counted_183 : decode cX4_counted 183 = .ok (.iastore, 1) := by decide +kernel
theorem dX4_counted_184 : decode cX4_counted 184 = .ok (.iinc 5 1, 3) := by decide +kernel
theorem dX4_counted_187 : decode cX4_counted 187 = .ok (.goto (-109), 3) := by decide +kernel
theorem dX4_counted_190 : decode cX4_counted 190 = .ok (.aload_n 2, 1) := by decide +kernel
theorem dX4_counted_191 : decode cX4_counted 191 = .ok (.iload_n 1, 1) := by decide +kernel
theorem dX4_counted_192 : decode cX4_counted 192 = .ok (.iaload, 1) := by decide +kernel
theorem dX4_counted_193 : decode cX4_counted 193 = .ok (.ireturn, 1) := by decide +kernel
theorem dX4_isSame_0 : decode cX4_isSame 0 = .ok (.iconst 0, 1) := by decide +kernel
theorem dX4_isSame_1 : decode cX4_isSame 1 = .ok (.istore_n 2, 1) := by decide +kernel
theorem dX4_isSame_2 : decode cX4_isSame 2 = .ok (.iload_n 2, 1) := by decide +kernel
theorem dX4_isSame_3 : decode cX4_isSame 3 = .ok (.bipush 10, 2) := by decide +kernel
theorem dX4_isSame_5 : decode cX4_isSame 5 = .ok (.if_icmp .ge 24, 3) := by decide +kernel
theorem dX4_isSame_8 : decode cX4_isSame 8 = .ok (.aload_n 1, 1) := by decide +kernel
theorem dX4_isSame_9 : decode cX4_isSame 9 = .ok (.iload_n 2, 1) := by decide +kernel
theorem dX4_isSame_10 : decode cX4_isSame 10 = .ok (.invokevirtual 106, 3) := by decide +kernel
theorem dX4_isSame_13 : decode cX4_isSame 13 = .ok (.aload_n 0, 1) := by decide +kernel
theorem dX4_isSame_14 : decode cX4_isSame 14 = .ok (.iload_n 2, 1) := by decide +kernel
theorem dX4_isSame_15 : decode cX4_isSame 15 = .ok (.invokevirtual 111, 3) := by decide +kernel
theorem dX4_isSame_18 : decode cX4_isSame 18 = .ok (.if_icmp .eq 5, 3) := by decide +kernel
theorem dX4_isSame_21 : decode cX4_isSame 21 = .ok (.iconst 0, 1) := by decide +kernel
theorem dX4_isSame_22 : decode cX4_isSame 22 = .ok (.ireturn, 1) := by decide +kernel
theorem dX4_isSame_23 : decode cX4_isSame 23 = .ok (.iinc 2 1, 3) := by decide +kernel
theorem dX4_isSame_26 : decode cX4_isSame 26 = .ok (.goto (-24), 3) := by decide +kernel
theorem dX4_isSame_29 : decode cX4_isSame 29 = .ok (.iconst 0, 1) := by decide +kernel
theorem dX4_isSame_30 : decode cX4_isSame 30 = .ok (.istore_n 2, 1) := by decide +kernel
theorem dX4_isSame_31 : decode cX4_isSame 31 = .ok (.iconst (-1), 1) := by decide +kernel
theorem dX4_isSame_32 : decode cX4_isSame 32 = .ok (.istore_n 3, 1) := by decide +kernel
theorem dX4_isSame_33 : decode cX4_isSame 33 = .ok (.iconst 0, 1) := by decide +kernel
theorem dX4_isSame_34 : decode cX4_isSame 34 = .ok (.istore 4, 2) := by decide +kernel
theorem dX4_isSame_36 : decode cX4_isSame 36 = .ok (.iload 4, 2) := by decide +kernel
theorem dX4_isSame_38 : decode cX4_isSame 38 = .ok (.aload_n 0, 1) := by decide +kernel
theorem dX4_isSame_39 : decode cX4_isSame 39 = .ok (.getfield 9, 3) := by decide +kernel
theorem dX4_isSame_42 : decode cX4_isSame 42 = .ok (.arraylength, 1) := by decide +kernel
theorem dX4_isSame_43 : decode cX4_isSame 43 = .ok (.if_icmp .ge 406, 3) := by decide +kernel
theorem dX4_isSame_46 : decode cX4_isSame 46 = .ok (.aload_n 0, 1) := by decide +kernel
theorem dX4_isSame_47 : decode cX4_isSame 47 = .ok (.getfield 9, 3) := by decide +kernel
theorem dX4_isSame_50 : decode cX4_isSame 50 = .ok (.iload 4, 2) := by decide +kernel
theorem dX4_isSame_52 : decode cX4_isSame 52 = .ok (.aaload, 1) := by decide +kernel
theorem dX4_isSame_53 : decode cX4_isSame 53 = .ok (.astore 5, 2) := by decide +kernel
theorem dX4_isSame_55 : decode cX4_isSame 55 = .ok (.bipush 10, 2) := by decide +kernel
theorem dX4_isSame_57 : decode cX4_isSame 57 = .ok (.newarray .int, 2) := by decide +kernel
theorem dX4_isSame_59 : decode cX4_isSame 59 = .ok (.dup, 1) := by decide +kernel
theorem dX4_isSame_60 : decode cX4_isSame 60 = .ok (.iconst 0, 1) := by decide +kernel
theorem dX4_isSame_61 : decode cX4_isSame 61 = .ok (.aload 5, 2) := by decide +kernel
theorem dX4_isSame_63 : decode cX4_isSame 63 = .ok (.getfield 43, 3) := by decide +kernel
theorem dX4_isSame_66 : decode cX4_isSame 66 = .ok (.iastore, 1) := by decide +kernel
theorem dX4_isSame_67 : decode cX4_isSame 67 = .ok (.dup, 1) := by decide +kernel
theorem dX4_isSame_68 : decode cX4_isSame 68 = .ok (.iconst 1, 1) := by decide +kernel
theorem dX4_isSame_69 : decode cX4_isSame 69 = .ok (.aload 5, 2) := by decide +kernel
theorem dX4_isSame_71 : decode cX4_isSame 71 = .ok (.getfield 49, 3) := by decide +kernel
theorem dX4_isSame_74 : decode cX4_isSame 74 = .ok (.iastore, 1) := by decide +kernel
theorem dX4_isSame_75 : decode cX4_isSame 75 = .ok (.dup, 1) := by decide +kernel
theorem dX4_isSame_76 : decode cX4_isSame 76 = .ok (.iconst 2, 1) := by decide +kernel
theorem dX4_isSame_77 : decode cX4_isSame 77 = .ok (.aload 5, 2) := by decide +kernel
theorem dX4_isSame_79 : decode cX4_isSame 79 = .ok (.getfield 46, 3) := by decide +kernel
theorem dX4_isSame_82 : decode cX4_isSame 82 = .ok (.iastore, 1) := by decide +kernel
theorem dX4_isSame_83 : decode cX4_isSame 83 = .ok (.dup, 1) := by decide +kernel
theorem dX4_isSame_84 : decode cX4_isSame 84 = .ok (.iconst 3, 1) := by decide +kernel
theorem dX4_isSame_85 : decode cX4_isSame 85 = .ok (.aload 5, 2) := by decide +kernel
theorem dX4_isSame_87 : decode cX4_isSame 87 = .ok (.getfield 40, 3) := by decide +kernel
theorem dX4_isSame_90 : decode cX4_isSame 90 = .ok (.iastore, 1) := by decide +kernel
theorem dX4_isSame_91 : decode cX4_isSame 91 = .ok (.dup, 1) := by decide +kernel
theorem dX4_isSame_92 : decode cX4_isSame 92 = .ok (.iconst 4, 1) := by decide +kernel
theorem dX4_isSame_93 : decode cX4_isSame 93 = .ok (.aload 5, 2) := by decide +kernel
theorem dX4_isSame_95 : decode cX4_isSame 95 = .ok (.getfield 36, 3) := by decide +kernel
theorem dX4_isSame_98 : decode cX4_isSame 98 = .ok (.ifCond .eq 7, 3) := by decide +kernel
theorem dX4_isSame_101 : decode cX4_isSame 101 = .ok (.iconst 1, 1) := by decide +kernel
theorem dX4_isSame_102 : decode cX4_isSame 102 = .ok (.goto 4, 3) := by decide +kernel
theorem dX4_isSame_105 : decode cX4_isSame 105 = .ok (.iconst 0, 1) := by decide +kernel
theorem dX4_isSame_106 : decode cX4_isSame 106 = .ok (.iastore, 1) := by decide +kernel
theorem dX4_isSame_107 : decode cX4_isSame 107 = .ok (.dup, 1) := by decide +kernel
theorem dX4_isSame_108 : decode cX4_isSame 108 = .ok (.iconst 5, 1) := by decide +kernel
theorem dX4_isSame_109 : decode cX4_isSame 109 = .ok (.aload 5, 2) := by decide +kernel
theorem dX4_isSame_111 : decode cX4_isSame 111 = .ok (.getfield 52, 3) := by decide +kernel
theorem dX4_isSame_114 : decode cX4_isSame 114 = .ok (.iastore, 1) := by decide +kernel
theorem dX4_isSame_115 : decode cX4_isSame 115 = .ok (.dup, 1) := by decide +kernel
theorem dX4_isSame_116 : decode cX4_isSame 116 = .ok (.bipush 6, 2) := by decide +kernel
theorem dX4_isSame_118 : decode cX4_isSame 118 = .ok (.aload 5, 2) := by decide +kernel
theorem dX4_isSame_120 : decode cX4_isSame 120 = .ok (.getfield 55, 3) := by decide +kernel
theorem dX4_isSame_123 : decode cX4_isSame 123 = .ok (.iastore, 1) := by decide +kernel
theorem dX4_isSame_124 : decode cX4_isSame 124 = .ok (.dup, 1) := by decide +kernel
theorem dX4_isSame_125 : decode cX4_isSame 125 = .ok (.bipush 7, 2) := by decide +kernel
theorem dX4_isSame_127 : decode cX4_isSame 127 = .ok (.aload 5, 2) := by decide +kernel
theorem dX4_isSame_129 : decode cX4_isSame 129 = .ok (.getfield 73, 3) := by decide +kernel
theorem dX4_isSame_132 : decode cX4_isSame 132 = .ok (.arraylength, 1) := by decide +kernel
theorem dX4_isSame_133 : decode cX4_isSame 133 = .ok (.iastore, 1) := by decide +kernel
theorem dX4_isSame_134 : decode cX4_isSame 134 = .ok (.dup, 1) := by decide +kernel
theorem dX4_isSame_135 : decode cX4_isSame 135 = .ok (.bipush 8, 2) := by decide +kernel
theorem dX4_isSame_137 : decode cX4_isSame 137 = .ok (.aload 5, 2) := by decide +kernel
theorem dX4_isSame_139 : decode cX4_isSame 139 = .ok (.getfield 81, 3) := by decide +kernel
theorem dX4_isSame_142 : decode cX4_isSame 142 = .ok (.iastore, 1) := by decide +kernel
theorem dX4_isSame_143 : decode cX4_isSame 143 = .ok (.dup, 1) := by decide +kernel
theorem dX4_isSame_144 : decode cX4_isSame 144 = .ok (.bipush 9, 2) := by decide +kernel
theorem dX4_isSame_146 : decode cX4_isSame 146 = .ok (.aload 5, 2) := by decide +kernel
theorem dX4_isSame_148 : decode cX4_isSame 148 = .ok (.invokevirtual 114, 3) := by decide +kernel
theorem dX4_isSame_151 : decode cX4_isSame 151 = .ok (.iastore, 1) := by decide +kernel
theorem dX4_isSame_152 : decode cX4_isSame 152 = .ok (.astore 6, 2) := by decide +kernel
theorem dX4_isSame_154 : decode cX4_isSame 154 = .ok (.iconst 0, 1) := by decide +kernel
theorem dX4_isSame_155 : decode cX4_isSame 155 = .ok (.istore 7, 2) := by decide +kernel
theorem dX4_isSame_157 : decode cX4_isSame 157 = .ok (.iload 7, 2) := by decide +kernel
theorem dX4_isSame_159 : decode cX4_isSame 159 = .ok (.bipush 10, 2) := by decide +kernel
theorem dX4_isSame_161 : decode cX4_isSame 161 = .ok (.if_icmp .ge 27, 3) := by decide +kernel
theorem dX4_isSame_164 : decode cX4_isSame 164 = .ok (.aload_n 1, 1) := by decide +kernel
theorem dX4_isSame_165 : decode cX4_isSame 165 = .ok (.iload 4, 2) := by decide +kernel
theorem dX4_isSame_167 : decode cX4_isSame 167 = .ok (.iload 7, 2) := by decide +kernel
theorem dX4_isSame_169 : decode cX4_isSame 169 = .ok (.invokevirtual 118, 3) := by decide +kernel
theorem dX4_isSame_172 : decode cX4_isSame 172 = .ok (.aload 6, 2) := by decide +kernel
theorem dX4_isSame_174 : decode cX4_isSame 174 = .ok (.iload 7, 2) := by decide +kernel
theorem dX4_isSame_176 : decode cX4_isSame 176 = .ok (.iaload, 1) := by decide +kernel
theorem dX4_isSame_177 : decode cX4_isSame 177 = .ok (.if_icmp .eq 5, 3) := by decide +kernel
theorem dX4_isSame_180 : decode cX4_isSame 180 = .ok (.iconst 0, 1) := by decide +kernel
theorem dX4_isSame_181 : decode cX4_isSame 181 = .ok (.ireturn, 1) := by decide +kernel
theorem dX4_isSame_182 : decode cX4_isSame 182 = .ok (.iinc 7 1, 3) := by decide +kernel
theorem dX4_isSame_185 : decode cX4_isSame 185 = .ok (.goto (-28), 3) := by decide +kernel
theorem dX4_isSame_188 : decode cX4_isSame 188 = .ok (.iconst 0, 1) := by decide +kernel
theorem dX4_isSame_189 : decode cX4_isSame 189 = .ok (.istore 7, 2) := by decide +kernel
theorem dX4_isSame_191 : decode cX4_isSame 191 = .ok (.iload 7, 2) := by decide +kernel
theorem dX4_isSame_193 : decode cX4_isSame 193 = .ok (.aload 5, 2) := by decide +kernel
theorem dX4_isSame_195 : decode cX4_isSame 195 = .ok (.getfield 73, 3) := by decide +kernel
theorem dX4_isSame_198 : decode cX4_isSame 198 = .ok (.arraylength, 1) := by decide +kernel
theorem dX4_isSame_199 : decode cX4_isSame 199 = .ok (.if_icmp .ge 128, 3) := by decide +kernel
theorem dX4_isSame_202 : decode cX4_isSame 202 = .ok (.iconst 0, 1) := by decide +kernel
theorem dX4_isSame_203 : decode cX4_isSame 203 = .ok (.istore 8, 2) := by decide +kernel
theorem dX4_isSame_205 : decode cX4_isSame 205 = .ok (.aload_n 0, 1) := by decide +kernel
theorem dX4_isSame_206 : decode cX4_isSame 206 = .ok (.getfield 9, 3) := by decide +kernel
theorem dX4_isSame_209 : decode cX4_isSame 209 = .ok (.astore 9, 2) := by decide +kernel
theorem dX4_isSame_211 : decode cX4_isSame 211 = .ok (.aload 9, 2) := by decide +kernel
theorem dX4_isSame_213 : decode cX4_isSame 213 = .ok (.arraylength, 1) := by decide +kernel
theorem dX4_isSame_214 : decode cX4_isSame 214 = .ok (.istore 10, 2) := by decide +kernel
theorem dX4_isSame_216 : decode cX4_isSame 216 = .ok (.iconst 0, 1) := by decide +kernel
theorem dX4_isSame_217 : decode cX4_isSame 217 = .ok (.istore 11, 2) := by decide +kernel
theorem dX4_isSame_219 : decode cX4_isSame 219 = .ok (.iload 11, 2) := by decide +kernel
theorem dX4_isSame_221 : decode cX4_isSame 221 = .ok (.iload 10, 2) := by decide +kernel
theorem dX4_isSame_223 : decode cX4_isSame 223 = .ok (.if_icmp .ge 38, 3) := by decide +kernel
theorem dX4_isSame_226 : decode cX4_isSame 226 = .ok (.aload 9, 2) := by decide +kernel
theorem dX4_isSame_228 : decode cX4_isSame 228 = .ok (.iload 11, 2) := by decide +kernel
theorem dX4_isSame_230 : decode cX4_isSame 230 = .ok (.aaload, 1) := by decide +kernel
theorem dX4_isSame_231 : decode cX4_isSame 231 = .ok (.astore 12, 2) := by decide +kernel
theorem dX4_isSame_233 : decode cX4_isSame 233 = .ok (.iload 8, 2) := by decide +kernel
theorem dX4_isSame_235 : decode cX4_isSame 235 = .ok (.aload 5, 2) := by decide +kernel
theorem dX4_isSame_237 : decode cX4_isSame 237 = .ok (.aload 12, 2) := by decide +kernel
theorem dX4_isSame_239 : decode cX4_isSame 239 = .ok (.invokevirtual 69, 3) := by decide +kernel
theorem dX4_isSame_242 : decode cX4_isSame 242 = .ok (.iload 7, 2) := by decide +kernel
theorem dX4_isSame_244 : decode cX4_isSame 244 = .ok (.if_icmp .le 7, 3) := by decide +kernel
theorem dX4_isSame_247 : decode cX4_isSame 247 = .ok (.iconst 1, 1) := by decide +kernel
theorem dX4_isSame_248 : decode cX4_isSame 248 = .ok (.goto 4, 3) := by decide +kernel
theorem dX4_isSame_251 : decode cX4_isSame 251 = .ok (.iconst 0, 1) := by decide +kernel
theorem dX4_isSame_252 : decode cX4_isSame 252 = .ok (.iadd, 1) := by decide +kernel
theorem dX4_isSame_253 : decode cX4_isSame 253 = .ok (.istore 8, 2) := by decide +kernel
theorem dX4_isSame_255 : decode cX4_isSame 255 = .ok (.iinc 11 1, 3) := by decide +kernel
theorem dX4_isSame_258 : decode cX4_isSame 258 = .ok (.goto (-39), 3) := by decide +kernel
theorem dX4_isSame_261 : decode cX4_isSame 261 = .ok (.aload_n 1, 1) := by decide +kernel
theorem dX4_isSame_262 : decode cX4_isSame 262 = .ok (.iload 4, 2) := by decide +kernel
theorem dX4_isSame_264 : decode cX4_isSame 264 = .ok (.iload 7, 2) := by decide +kernel
theorem dX4_isSame_266 : decode cX4_isSame 266 = .ok (.iconst 0, 1) := by decide +kernel
theorem dX4_isSame_267 : decode cX4_isSame 267 = .ok (.invokevirtual 121, 3) := by decide +kernel
theorem dX4_isSame_270 : decode cX4_isSame 270 = .ok (.aload 5, 2) := by decide +kernel
theorem dX4_isSame_272 : decode cX4_isSame 272 = .ok (.getfield 73, 3) := by decide +kernel
theorem dX4_isSame_275 : decode cX4_isSame 275 = .ok (.iload 7, 2) := by decide +kernel
theorem dX4_isSame_277 : decode cX4_isSame 277 = .ok (.aaload, 1) := by decide +kernel
theorem dX4_isSame_278 : decode cX4_isSame 278 = .ok (.iconst 0, 1) := by decide +kernel
theorem dX4_isSame_279 : decode cX4_isSame 279 = .ok (.iaload, 1) := by decide +kernel
theorem dX4_isSame_280 : decode cX4_isSame 280 = .ok (.if_icmp .ne 39, 3) := by decide +kernel
theorem dX4_isSame_283 : decode cX4_isSame 283 = .ok (.aload_n 1, 1) := by decide +kernel
theorem dX4_isSame_284 : decode cX4_isSame 284 = .ok (.iload 4, 2) := by decide +kernel
theorem dX4_isSame_286 : decode cX4_isSame 286 = .ok (.iload 7, 2) := by decide +kernel
theorem dX4_isSame_288 : decode cX4_isSame 288 = .ok (.iconst 1, 1) := by decide +kernel
theorem dX4_isSame_289 : decode cX4_isSame 289 = .ok (.invokevirtual 121, 3) := by decide +kernel
theorem dX4_isSame_292 : decode cX4_isSame 292 = .ok (.aload 5, 2) := by decide +kernel
theorem dX4_isSame_294 : decode cX4_isSame 294 = .ok (.getfield 73, 3) := by decide +kernel
theorem dX4_isSame_297 : decode cX4_isSame 297 = .ok (.iload 7, 2) := by decide +kernel
theorem dX4_isSame_299 : decode cX4_isSame 299 = .ok (.aaload, 1) := by decide +kernel
theorem dX4_isSame_300 : decode cX4_isSame 300 = .ok (.iconst 1, 1) := by decide +kernel
theorem dX4_isSame_301 : decode cX4_isSame 301 = .ok (.iaload, 1) := by decide +kernel
theorem dX4_isSame_302 : decode cX4_isSame 302 = .ok (.if_icmp .ne 17, 3) := by decide +kernel
theorem dX4_isSame_305 : decode cX4_isSame 305 = .ok (.aload_n 1, 1) := by decide +kernel
theorem dX4_isSame_306 : decode cX4_isSame 306 = .ok (.iload 4, 2) := by decide +kernel
theorem dX4_isSame_308 : decode cX4_isSame 308 = .ok (.iload 7, 2) := by decide +kernel
theorem dX4_isSame_310 : decode cX4_isSame 310 = .ok (.iconst 2, 1) := by decide +kernel
theorem dX4_isSame_311 : decode cX4_isSame 311 = .ok (.invokevirtual 121, 3) := by decide +kernel
theorem dX4_isSame_314 : decode cX4_isSame 314 = .ok (.iload 8, 2) := by decide +kernel
theorem dX4_isSame_316 : decode cX4_isSame 316 = .ok (.if_icmp .eq 5, 3) := by decide +kernel
theorem dX4_isSame_319 : decode cX4_isSame 319 = .ok (.iconst 0, 1) := by decide +kernel
theorem dX4_isSame_320 : decode cX4_isSame 320 = .ok (.ireturn, 1) := by decide +kernel
theorem dX4_isSame_321 : decode cX4_isSame 321 = .ok (.iinc 7 1, 3) := by decide +kernel
theorem dX4_isSame_324 : decode cX4_isSame 324 = .ok (.goto (-133), 3) := by decide +kernel
theorem dX4_isSame_327 : decode cX4_isSame 327 = .ok (.iconst 0, 1) := by decide +kernel
theorem dX4_isSame_328 : decode cX4_isSame 328 = .ok (.istore 7, 2) := by decide +kernel
theorem dX4_isSame_330 : decode cX4_isSame 330 = .ok (.iload 7, 2) := by decide +kernel
theorem dX4_isSame_332 : decode cX4_isSame 332 = .ok (.aload_n 0, 1) := by decide +kernel
theorem dX4_isSame_333 : decode cX4_isSame 333 = .ok (.getfield 9, 3) := by decide +kernel
theorem dX4_isSame_336 : decode cX4_isSame 336 = .ok (.arraylength, 1) := by decide +kernel
theorem dX4_isSame_337 : decode cX4_isSame 337 = .ok (.if_icmp .ge 57, 3) := by decide +kernel
theorem dX4_isSame_340 : decode cX4_isSame 340 = .ok (.aload_n 1, 1) := by decide +kernel
theorem dX4_isSame_341 : decode cX4_isSame 341 = .ok (.iload 4, 2) := by decide +kernel
theorem dX4_isSame_343 : decode cX4_isSame 343 = .ok (.iload 7, 2) := by decide +kernel
theorem dX4_isSame_345 : decode cX4_isSame 345 = .ok (.invokevirtual 125, 3) := by decide +kernel
theorem dX4_isSame_348 : decode cX4_isSame 348 = .ok (.aload 5, 2) := by decide +kernel
theorem dX4_isSame_350 : decode cX4_isSame 350 = .ok (.aload_n 0, 1) := by decide +kernel
theorem dX4_isSame_351 : decode cX4_isSame 351 = .ok (.getfield 9, 3) := by decide +kernel
theorem dX4_isSame_354 : decode cX4_isSame 354 = .ok (.iload 7, 2) := by decide +kernel
theorem dX4_isSame_356 : decode cX4_isSame 356 = .ok (.aaload, 1) := by decide +kernel
theorem dX4_isSame_357 : decode cX4_isSame 357 = .ok (.invokevirtual 69, 3) := by decide +kernel
theorem dX4_isSame_360 : decode cX4_isSame 360 = .ok (.if_icmp .ne 26, 3) := by decide +kernel
theorem dX4_isSame_363 : decode cX4_isSame 363 = .ok (.aload_n 1, 1) := by decide +kernel
theorem dX4_isSame_364 : decode cX4_isSame 364 = .ok (.iload 4, 2) := by decide +kernel
theorem dX4_isSame_366 : decode cX4_isSame 366 = .ok (.iload 7, 2) := by decide +kernel
theorem dX4_isSame_368 : decode cX4_isSame 368 = .ok (.invokevirtual 128, 3) := by decide +kernel
theorem dX4_isSame_371 : decode cX4_isSame 371 = .ok (.aload 5, 2) := by decide +kernel
theorem dX4_isSame_373 : decode cX4_isSame 373 = .ok (.aload_n 0, 1) := by decide +kernel
theorem dX4_isSame_374 : decode cX4_isSame 374 = .ok (.getfield 9, 3) := by decide +kernel
theorem dX4_isSame_377 : decode cX4_isSame 377 = .ok (.iload 7, 2) := by decide +kernel
theorem dX4_isSame_379 : decode cX4_isSame 379 = .ok (.aaload, 1) := by decide +kernel
theorem dX4_isSame_380 : decode cX4_isSame 380 = .ok (.invokevirtual 65, 3) := by decide +kernel
theorem dX4_isSame_383 : decode cX4_isSame 383 = .ok (.if_icmp .eq 5, 3) := by decide +kernel
theorem dX4_isSame_386 : decode cX4_isSame 386 = .ok (.iconst 0, 1) := by decide +kernel
theorem dX4_isSame_387 : decode cX4_isSame 387 = .ok (.ireturn, 1) := by decide +kernel
theorem dX4_isSame_388 : decode cX4_isSame 388 = .ok (.iinc 7 1, 3) := by decide +kernel
theorem dX4_isSame_391 : decode cX4_isSame 391 = .ok (.goto (-61), 3) := by decide +kernel
theorem dX4_isSame_394 : decode cX4_isSame 394 = .ok (.iload_n 2, 1) := by decide +kernel
theorem dX4_isSame_395 : decode cX4_isSame 395 = .ok (.aload 5, 2) := by decide +kernel
theorem dX4_isSame_397 : decode cX4_isSame 397 = .ok (.getfield 81, 3) := by decide +kernel
theorem dX4_isSame_400 : decode cX4_isSame 400 = .ok (.iadd, 1) := by decide +kernel
theorem dX4_isSame_401 : decode cX4_isSame 401 = .ok (.istore_n 2, 1) := by decide +kernel
theorem dX4_isSame_402 : decode cX4_isSame 402 = .ok (.aload 5, 2) := by decide +kernel
theorem dX4_isSame_404 : decode cX4_isSame 404 = .ok (.getfield 36, 3) := by decide +kernel
theorem dX4_isSame_407 : decode cX4_isSame 407 = .ok (.ifCond .eq 36, 3) := by decide +kernel
theorem dX4_isSame_410 : decode cX4_isSame 410 = .ok (.aload 5, 2) := by decide +kernel
theorem dX4_isSame_412 : decode cX4_isSame 412 = .ok (.getfield 46, 3) := by decide +kernel
theorem dX4_isSame_415 : decode cX4_isSame 415 = .ok (.iconst 2, 1) := by decide +kernel
theorem dX4_isSame_416 : decode cX4_isSame 416 = .ok (.if_icmp .ne 27, 3) := by decide +kernel
theorem dX4_isSame_419 : decode cX4_isSame 419 = .ok (.iload_n 3, 1) := by decide +kernel
theorem dX4_isSame_420 : decode cX4_isSame 420 = .ok (.ifCond .lt 20, 3) := by decide +kernel
theorem dX4_isSame_423 : decode cX4_isSame 423 = .ok (.aload 5, 2) := by decide +kernel
theorem dX4_isSame_425 : decode cX4_isSame 425 = .ok (.getfield 43, 3) := by decide +kernel
theorem dX4_isSame_428 : decode cX4_isSame 428 = .ok (.aload_n 0, 1) := by decide +kernel
theorem dX4_isSame_429 : decode cX4_isSame 429 = .ok (.getfield 9, 3) := by decide +kernel
theorem dX4_isSame_432 : decode cX4_isSame 432 = .ok (.iload_n 3, 1) := by decide +kernel
theorem dX4_isSame_433 : decode cX4_isSame 433 = .ok (.aaload, 1) := by decide +kernel
theorem dX4_isSame_434 : decode cX4_isSame 434 = .ok (.getfield 43, 3) := by decide +kernel
theorem dX4_isSame_437 : decode cX4_isSame 437 = .ok (.if_icmp .le 6, 3) := by decide +kernel
theorem dX4_isSame_440 : decode cX4_isSame 440 = .ok (.iload 4, 2) := by decide +kernel
theorem dX4_isSame_442 : decode cX4_isSame 442 = .ok (.istore_n 3, 1) := by decide +kernel
theorem dX4_isSame_443 : decode cX4_isSame 443 = .ok (.iinc 4 1, 3) := by decide +kernel
theorem dX4_isSame_446 : decode cX4_isSame 446 = .ok (.goto (-410), 3) := by decide +kernel
theorem dX4_isSame_449 : decode cX4_isSame 449 = .ok (.iconst 0, 1) := by decide +kernel
theorem dX4_isSame_450 : decode cX4_isSame 450 = .ok (.istore 4, 2) := by decide +kernel
theorem dX4_isSame_452 : decode cX4_isSame 452 = .ok (.iload 4, 2) := by decide +kernel
theorem dX4_isSame_454 : decode cX4_isSame 454 = .ok (.iconst 3, 1) := by decide +kernel
theorem dX4_isSame_455 : decode cX4_isSame 455 = .ok (.if_icmp .ge 151, 3) := by decide +kernel
theorem dX4_isSame_458 : decode cX4_isSame 458 = .ok (.iconst 0, 1) := by decide +kernel
theorem dX4_isSame_459 : decode cX4_isSame 459 = .ok (.istore 5, 2) := by decide +kernel
theorem dX4_isSame_461 : decode cX4_isSame 461 = .ok (.iconst (-1), 1) := by decide +kernel
theorem dX4_isSame_462 : decode cX4_isSame 462 = .ok (.istore 6, 2) := by decide +kernel
theorem dX4_isSame_464 : decode cX4_isSame 464 = .ok (.aload_n 0, 1) := by decide +kernel
theorem dX4_isSame_465 : decode cX4_isSame 465 = .ok (.getfield 9, 3) := by decide +kernel
theorem dX4_isSame_468 : decode cX4_isSame 468 = .ok (.arraylength, 1) := by decide +kernel
theorem dX4_isSame_469 : decode cX4_isSame 469 = .ok (.iconst 1, 1) := by decide +kernel
theorem dX4_isSame_470 : decode cX4_isSame 470 = .ok (.isub, 1) := by decide +kernel
theorem dX4_isSame_471 : decode cX4_isSame 471 = .ok (.istore 7, 2) := by decide +kernel
theorem dX4_isSame_473 : decode cX4_isSame 473 = .ok (.iload 7, 2) := by decide +kernel
theorem dX4_isSame_475 : decode cX4_isSame 475 = .ok (.ifCond .lt 72, 3) := by decide +kernel
theorem dX4_isSame_478 : decode cX4_isSame 478 = .ok (.aload_n 0, 1) := by decide +kernel
theorem dX4_isSame_479 : decode cX4_isSame 479 = .ok (.getfield 9, 3) := by decide +kernel
theorem dX4_isSame_482 : decode cX4_isSame 482 = .ok (.iload 7, 2) := by decide +kernel
theorem dX4_isSame_484 : decode cX4_isSame 484 = .ok (.aaload, 1) := by decide +kernel
theorem dX4_isSame_485 : decode cX4_isSame 485 = .ok (.getfield 36, 3) := by decide +kernel
theorem dX4_isSame_488 : decode cX4_isSame 488 = .ok (.ifCond .eq 53, 3) := by decide +kernel
theorem dX4_isSame_491 : decode cX4_isSame 491 = .ok (.aload_n 0, 1) := by decide +kernel
theorem dX4_isSame_492 : decode cX4_isSame 492 = .ok (.getfield 9, 3) := by decide +kernel
theorem dX4_isSame_495 : decode cX4_isSame 495 = .ok (.iload 7, 2) := by decide +kernel
theorem dX4_isSame_497 : decode cX4_isSame 497 = .ok (.aaload, 1) := by decide +kernel
theorem dX4_isSame_498 : decode cX4_isSame 498 = .ok (.getfield 40, 3) := by decide +kernel
theorem dX4_isSame_501 : decode cX4_isSame 501 = .ok (.iload 4, 2) := by decide +kernel
theorem dX4_isSame_503 : decode cX4_isSame 503 = .ok (.if_icmp .eq 6, 3) := by decide +kernel
theorem dX4_isSame_506 : decode cX4_isSame 506 = .ok (.goto 35, 3) := by decide +kernel
theorem dX4_isSame_509 : decode cX4_isSame 509 = .ok (.iinc 5 1, 3) := by decide +kernel
theorem dX4_isSame_512 : decode cX4_isSame 512 = .ok (.iload 6, 2) := by decide +kernel
theorem dX4_isSame_514 : decode cX4_isSame 514 = .ok (.ifCond .lt 23, 3) := by decide +kernel
theorem dX4_isSame_517 : decode cX4_isSame 517 = .ok (.aload_n 0, 1) := by decide +kernel
theorem dX4_isSame_518 : decode cX4_isSame 518 = .ok (.getfield 9, 3) := by decide +kernel
theorem dX4_isSame_521 : decode cX4_isSame 521 = .ok (.iload 7, 2) := by decide +kernel
theorem dX4_isSame_523 : decode cX4_isSame 523 = .ok (.aaload, 1) := by decide +kernel
theorem dX4_isSame_524 : decode cX4_isSame 524 = .ok (.aload_n 0, 1) := by decide +kernel
theorem dX4_isSame_525 : decode cX4_isSame 525 = .ok (.getfield 9, 3) := by decide +kernel
theorem dX4_isSame_528 : decode cX4_isSame 528 = .ok (.iload 6, 2) := by decide +kernel
theorem dX4_isSame_530 : decode cX4_isSame 530 = .ok (.aaload, 1) := by decide +kernel
theorem dX4_isSame_531 : decode cX4_isSame 531 = .ok (.invokevirtual 65, 3) := by decide +kernel
theorem dX4_isSame_534 : decode cX4_isSame 534 = .ok (.ifCond .eq 7, 3) := by decide +kernel
theorem dX4_isSame_537 : decode cX4_isSame 537 = .ok (.iload 7, 2) := by decide +kernel
theorem dX4_isSame_539 : decode cX4_isSame 539 = .ok (.istore 6, 2) := by decide +kernel
theorem dX4_isSame_541 : decode cX4_isSame 541 = .ok (.iinc 7 (-1), 3) := by decide +kernel
theorem dX4_isSame_544 : decode cX4_isSame 544 = .ok (.goto (-71), 3) := by decide +kernel
theorem dX4_isSame_547 : decode cX4_isSame 547 = .ok (.aload_n 1, 1) := by decide +kernel
theorem dX4_isSame_548 : decode cX4_isSame 548 = .ok (.iload 4, 2) := by decide +kernel
theorem dX4_isSame_550 : decode cX4_isSame 550 = .ok (.iconst 0, 1) := by decide +kernel
theorem dX4_isSame_551 : decode cX4_isSame 551 = .ok (.invokevirtual 131, 3) := by decide +kernel
theorem dX4_isSame_554 : decode cX4_isSame 554 = .ok (.iload 5, 2) := by decide +kernel
theorem dX4_isSame_556 : decode cX4_isSame 556 = .ok (.if_icmp .ne 42, 3) := by decide +kernel
theorem dX4_isSame_559 : decode cX4_isSame 559 = .ok (.aload_n 1, 1) := by decide +kernel
theorem dX4_isSame_560 : decode cX4_isSame 560 = .ok (.iload 4, 2) := by decide +kernel
theorem dX4_isSame_562 : decode cX4_isSame 562 = .ok (.iconst 1, 1) := by decide +kernel
theorem dX4_isSame_563 : decode cX4_isSame 563 = .ok (.invokevirtual 131, 3) := by decide +kernel
theorem dX4_isSame_566 : decode cX4_isSame 566 = .ok (.iconst 2, 1) := by decide +kernel
theorem dX4_isSame_567 : decode cX4_isSame 567 = .ok (.iload 5, 2) := by decide +kernel
theorem dX4_isSame_569 : decode cX4_isSame 569 = .ok (.imul, 1) := by decide +kernel
theorem dX4_isSame_570 : decode cX4_isSame 570 = .ok (.aload_n 0, 1) := by decide +kernel
theorem dX4_isSame_571 : decode cX4_isSame 571 = .ok (.getfield 9, 3) := by decide +kernel
theorem dX4_isSame_574 : decode cX4_isSame 574 = .ok (.arraylength, 1) := by decide +kernel
theorem dX4_isSame_575 : decode cX4_isSame 575 = .ok (.if_icmp .le 7, 3) := by decide +kernel
theorem dX4_isSame_578 : decode cX4_isSame 578 = .ok (.iconst 1, 1) := by decide +kernel
theorem dX4_isSame_579 : decode cX4_isSame 579 = .ok (.goto 4, 3) := by decide +kernel
theorem dX4_isSame_582 : decode cX4_isSame 582 = .ok (.iconst 0, 1) := by decide +kernel
theorem dX4_isSame_583 : decode cX4_isSame 583 = .ok (.if_icmp .ne 15, 3) := by decide +kernel
theorem dX4_isSame_586 : decode cX4_isSame 586 = .ok (.aload_n 1, 1) := by decide +kernel
theorem dX4_isSame_587 : decode cX4_isSame 587 = .ok (.iload 4, 2) := by decide +kernel
theorem dX4_isSame_589 : decode cX4_isSame 589 = .ok (.iconst 2, 1) := by decide +kernel
theorem dX4_isSame_590 : decode cX4_isSame 590 = .ok (.invokevirtual 131, 3) := by decide +kernel
theorem dX4_isSame_593 : decode cX4_isSame 593 = .ok (.iload 6, 2) := by decide +kernel
theorem dX4_isSame_595 : decode cX4_isSame 595 = .ok (.if_icmp .eq 5, 3) := by decide +kernel
theorem dX4_isSame_598 : decode cX4_isSame 598 = .ok (.iconst 0, 1) := by decide +kernel
theorem dX4_isSame_599 : decode cX4_isSame 599 = .ok (.ireturn, 1) := by decide +kernel
theorem dX4_isSame_600 : decode cX4_isSame 600 = .ok (.iinc 4 1, 3) := by decide +kernel
theorem dX4_isSame_603 : decode cX4_isSame 603 = .ok (.goto (-151), 3) := by decide +kernel
theorem dX4_isSame_606 : decode cX4_isSame 606 = .ok (.aload_n 1, 1) := by decide +kernel
theorem dX4_isSame_607 : decode cX4_isSame 607 = .ok (.invokevirtual 133, 3) := by decide +kernel
theorem dX4_isSame_610 : decode cX4_isSame 610 = .ok (.iload_n 3, 1) := by decide +kernel
theorem dX4_isSame_611 : decode cX4_isSame 611 = .ok (.if_icmp .ne 24, 3) := by decide +kernel
theorem dX4_isSame_614 : decode cX4_isSame 614 = .ok (.aload_n 1, 1) := by decide +kernel
theorem dX4_isSame_615 : decode cX4_isSame 615 = .ok (.invokevirtual 136, 3) := by decide +kernel
theorem dX4_isSame_618 : decode cX4_isSame 618 = .ok (.iload_n 2, 1) := by decide +kernel
theorem dX4_isSame_619 : decode cX4_isSame 619 = .ok (.i2d, 1) := by decide +kernel
theorem dX4_isSame_620 : decode cX4_isSame 620 = .ok (.aload_n 0, 1) := by decide +kernel
theorem dX4_isSame_621 : decode cX4_isSame 621 = .ok (.getfield 9, 3) := by decide +kernel
theorem dX4_isSame_624 : decode cX4_isSame 624 = .ok (.arraylength, 1) := by decide +kernel
theorem dX4_isSame_625 : decode cX4_isSame 625 = .ok (.i2d, 1) := by decide +kernel
theorem dX4_isSame_626 : decode cX4_isSame 626 = .ok (.ddiv, 1) := by decide +kernel
theorem dX4_isSame_627 : decode cX4_isSame 627 = .ok (.dcmp .l, 1) := by decide +kernel
theorem dX4_isSame_628 : decode cX4_isSame 628 = .ok (.ifCond .ne 7, 3) := by decide +kernel
theorem dX4_isSame_631 : decode cX4_isSame 631 = .ok (.iconst 1, 1) := by decide +kernel
theorem dX4_isSame_632 : decode cX4_isSame 632 = .ok (.goto 4, 3) := by decide +kernel
theorem dX4_isSame_635 : decode cX4_isSame 635 = .ok (.iconst 0, 1) := by decide +kernel
theorem dX4_isSame_636 : decode cX4_isSame 636 = .ok (.ireturn, 1) := by decide +kernel
