theorem dX3_init_0 : decode cX3_init 0 = .ok (.aload_n 0, 1) := by decide +kernel
theorem dX3_init_1 : decode cX3_init 1 = .ok (.invokespecial 3, 3) := by decide +kernel
theorem dX3_init_4 : decode cX3_init 4 = .ok (.aload_n 0, 1) := by decide +kernel
theorem dX3_init_5 : decode cX3_init 5 = .ok (.iconst 5, 1) := by decide +kernel
theorem dX3_init_6 : decode cX3_init 6 = .ok (.putfield 9, 3) := by decide +kernel
theorem dX3_init_9 : decode cX3_init 9 = .ok (.aload_n 0, 1) := by decide +kernel
theorem dX3_init_10 : decode cX3_init 10 = .ok (.bipush 7, 2) := by decide +kernel
theorem dX3_init_12 : decode cX3_init 12 = .ok (.newarray .int, 2) := by decide +kernel
theorem dX3_init_14 : decode cX3_init 14 = .ok (.putfield 15, 3) := by decide +kernel
theorem dX3_init_17 : decode cX3_init 17 = .ok (.aload_n 0, 1) := by decide +kernel
theorem dX3_init_18 : decode cX3_init 18 = .ok (.bipush 7, 2) := by decide +kernel
theorem dX3_init_20 : decode cX3_init 20 = .ok (.newarray .int, 2) := by decide +kernel
theorem dX3_init_22 : decode cX3_init 22 = .ok (.putfield 19, 3) := by decide +kernel
theorem dX3_init_25 : decode cX3_init 25 = .ok (.aload_n 0, 1) := by decide +kernel
theorem dX3_init_26 : decode cX3_init 26 = .ok (.bipush 7, 2) := by decide +kernel
theorem dX3_init_28 : decode cX3_init 28 = .ok (.newarray .int, 2) := by decide +kernel
theorem dX3_init_30 : decode cX3_init 30 = .ok (.putfield 22, 3) := by decide +kernel
theorem dX3_init_33 : decode cX3_init 33 = .ok (.aload_n 0, 1) := by decide +kernel
theorem dX3_init_34 : decode cX3_init 34 = .ok (.bipush 7, 2) := by decide +kernel
theorem dX3_init_36 : decode cX3_init 36 = .ok (.newarray .int, 2) := by decide +kernel
theorem dX3_init_38 : decode cX3_init 38 = .ok (.putfield 25, 3) := by decide +kernel
theorem dX3_init_41 : decode cX3_init 41 = .ok (.aload_n 0, 1) := by decide +kernel
theorem dX3_init_42 : decode cX3_init 42 = .ok (.bipush 7, 2) := by decide +kernel
theorem dX3_init_44 : decode cX3_init 44 = .ok (.newarray .int, 2) := by decide +kernel
theorem dX3_init_46 : decode cX3_init 46 = .ok (.putfield 28, 3) := by decide +kernel
theorem dX3_init_49 : decode cX3_init 49 = .ok (.aload_n 0, 1) := by decide +kernel
theorem dX3_init_50 : decode cX3_init 50 = .ok (.bipush 7, 2) := by decide +kernel
theorem dX3_init_52 : decode cX3_init 52 = .ok (.newarray .int, 2) := by decide +kernel
theorem dX3_init_54 : decode cX3_init 54 = .ok (.putfield 31, 3) := by decide +kernel
theorem dX3_init_57 : decode cX3_init 57 = .ok (.aload_n 0, 1) := by decide +kernel
theorem dX3_init_58 : decode cX3_init 58 = .ok (.bipush 7, 2) := by decide +kernel
theorem dX3_init_60 : decode cX3_init 60 = .ok (.newarray .int, 2) := by decide +kernel
theorem dX3_init_62 : decode cX3_init 62 = .ok (.putfield 34, 3) := by decide +kernel
theorem dX3_init_65 : decode cX3_init 65 = .ok (.aload_n 0, 1) := by decide +kernel
theorem dX3_init_66 : decode cX3_init 66 = .ok (.bipush 7, 2) := by decide +kernel
theorem dX3_init_68 : decode cX3_init 68 = .ok (.newarray .int, 2) := by decide +kernel
theorem dX3_init_70 : decode cX3_init 70 = .ok (.putfield 37, 3) := by decide +kernel
theorem dX3_init_73 : decode cX3_init 73 = .ok (.aload_n 0, 1) := by decide +kernel
theorem dX3_init_74 : decode cX3_init 74 = .ok (.bipush 7, 2) := by decide +kernel
theorem dX3_init_76 : decode cX3_init 76 = .ok (.newarray .int, 2) := by decide +kernel
theorem dX3_init_78 : decode cX3_init 78 = .ok (.putfield 40, 3) := by decide +kernel
theorem dX3_init_81 : decode cX3_init 81 = .ok (.aload_n 0, 1) := by decide +kernel
theorem dX3_init_82 : decode cX3_init 82 = .ok (.bipush 70, 2) := by decide +kernel
theorem dX3_init_84 : decode cX3_init 84 = .ok (.newarray .int, 2) := by decide +kernel
theorem dX3_init_86 : decode cX3_init 86 = .ok (.putfield 43, 3) := by decide +kernel
theorem dX3_init_89 : decode cX3_init 89 = .ok (.aload_n 0, 1) := by decide +kernel
theorem dX3_init_90 : decode cX3_init 90 = .ok (.bipush 70, 2) := by decide +kernel
theorem dX3_init_92 : decode cX3_init 92 = .ok (.newarray .int, 2) := by decide +kernel
theorem dX3_init_94 : decode cX3_init 94 = .ok (.putfield 46, 3) := by decide +kernel
theorem dX3_init_97 : decode cX3_init 97 = .ok (.aload_n 0, 1) := by decide +kernel
theorem dX3_init_98 : decode cX3_init 98 = .ok (.iconst 5, 1) := by decide +kernel
theorem dX3_init_99 : decode cX3_init 99 = .ok (.invokevirtual 49, 3) := by decide +kernel
theorem dX3_init_102 : decode cX3_init 102 = .ok (.return_, 1) := by decide +kernel
theorem dX3_begin_0 : decode cX3_begin 0 = .ok (.aload_n 0, 1) := by decide +kernel
theorem dX3_begin_1 : decode cX3_begin 1 = .ok (.iload_n 1, 1) := by decide +kernel
theorem dX3_begin_2 : decode cX3_begin 2 = .ok (.putfield 9, 3) := by decide +kernel
theorem dX3_begin_5 : decode cX3_begin 5 = .ok (.aload_n 0, 1) := by decide +kernel
theorem dX3_begin_6 : decode cX3_begin 6 = .ok (.iconst 0, 1) := by decide +kernel
theorem dX3_begin_7 : decode cX3_begin 7 = .ok (.putfield 53, 3) := by decide +kernel
theorem dX3_begin_10 : decode cX3_begin 10 = .ok (.aload_n 0, 1) := by decide +kernel
theorem dX3_begin_11 : decode cX3_begin 11 = .ok (.iconst 0, 1) := by decide +kernel
theorem dX3_begin_12 : decode cX3_begin 12 = .ok (.putfield 56, 3) := by decide +kernel
theorem dX3_begin_15 : decode cX3_begin 15 = .ok (.aload_n 0, 1) := by decide +kernel
theorem dX3_begin_16 : decode cX3_begin 16 = .ok (.iconst 0, 1) := by decide +kernel
theorem dX3_begin_17 : decode cX3_begin 17 = .ok (.putfield 59, 3) := by decide +kernel
theorem dX3_begin_20 : decode cX3_begin 20 = .ok (.aload_n 0, 1) := by decide +kernel
theorem dX3_begin_21 : decode cX3_begin 21 = .ok (.iconst 0, 1) := by decide +kernel
theorem dX3_begin_22 : decode cX3_begin 22 = .ok (.putfield 62, 3) := by decide +kernel
theorem dX3_begin_25 : decode cX3_begin 25 = .ok (.iconst 0, 1) := by decide +kernel
theorem dX3_begin_26 : decode cX3_begin 26 = .ok (.istore_n 2, 1) := by decide +kernel
theorem dX3_begin_27 : decode cX3_begin 27 = .ok (.iload_n 2, 1) := by decide +kernel
theorem dX3_begin_28 : decode cX3_begin 28 = .ok (.bipush 7, 2) := by decide +kernel
theorem dX3_begin_30 : decode cX3_begin 30 = .ok (.if_icmp .ge 76, 3) := by decide +kernel
theorem dX3_begin_33 : decode cX3_begin 33 = .ok (.aload_n 0, 1) := by decide +kernel
theorem dX3_begin_34 : decode cX3_begin 34 = .ok (.getfield 15, 3) := by decide +kernel
theorem dX3_begin_37 : decode cX3_begin 37 = .ok (.iload_n 2, 1) := by decide +kernel
theorem dX3_begin_38 : decode cX3_begin 38 = .ok (.iconst 2, 1) := by decide +kernel
theorem dX3_begin_39 : decode cX3_begin 39 = .ok (.iload_n 2, 1) := by decide +kernel
theorem dX3_begin_40 : decode cX3_begin 40 = .ok (.iadd, 1) := by decide +kernel
theorem dX3_begin_41 : decode cX3_begin 41 = .ok (.iastore, 1) := by decide +kernel
theorem dX3_begin_42 : decode cX3_begin 42 = .ok (.aload_n 0, 1) := by decide +kernel
theorem dX3_begin_43 : decode cX3_begin 43 = .ok (.getfield 19, 3) := by decide +kernel
theorem dX3_begin_46 : decode cX3_begin 46 = .ok (.iload_n 2, 1) := by decide +kernel
theorem dX3_begin_47 : decode cX3_begin 47 = .ok (.iconst 2, 1) := by decide +kernel
theorem dX3_begin_48 : decode cX3_begin 48 = .ok (.iload_n 2, 1) := by decide +kernel
theorem dX3_begin_49 : decode cX3_begin 49 = .ok (.iadd, 1) := by decide +kernel
theorem dX3_begin_50 : decode cX3_begin 50 = .ok (.iastore, 1) := by decide +kernel
theorem dX3_begin_51 : decode cX3_begin 51 = .ok (.aload_n 0, 1) := by decide +kernel
theorem dX3_begin_52 : decode cX3_begin 52 = .ok (.getfield 22, 3) := by decide +kernel
theorem dX3_begin_55 : decode cX3_begin 55 = .ok (.iload_n 2, 1) := by decide +kernel
theorem dX3_begin_56 : decode cX3_begin 56 = .ok (.iconst 0, 1) := by decide +kernel
theorem dX3_begin_57 : decode cX3_begin 57 = .ok (.iastore, 1) := by decide +kernel
theorem dX3_begin_58 : decode cX3_begin 58 = .ok (.aload_n 0, 1) := by decide +kernel
theorem dX3_begin_59 : decode cX3_begin 59 = .ok (.getfield 25, 3) := by decide +kernel
theorem dX3_begin_62 : decode cX3_begin 62 = .ok (.iload_n 2, 1) := by decide +kernel
theorem dX3_begin_63 : decode cX3_begin 63 = .ok (.iconst (-1), 1) := by decide +kernel
theorem dX3_begin_64 : decode cX3_begin 64 = .ok (.iastore, 1) := by decide +kernel
theorem dX3_begin_65 : decode cX3_begin 65 = .ok (.aload_n 0, 1) := by decide +kernel
theorem dX3_begin_66 : decode cX3_begin 66 = .ok (.getfield 28, 3) := by decide +kernel
theorem dX3_begin_69 : decode cX3_begin 69 = .ok (.iload_n 2, 1) := by decide +kernel
theorem dX3_begin_70 : decode cX3_begin 70 = .ok (.iconst 0, 1) := by decide +kernel
theorem dX3_begin_71 : decode cX3_begin 71 = .ok (.iastore, 1) := by decide +kernel
theorem dX3_begin_72 : decode cX3_begin 72 = .ok (.aload_n 0, 1) := by decide +kernel
theorem dX3_begin_73 : decode cX3_begin 73 = .ok (.getfield 31, 3) := by decide +kernel
theorem dX3_begin_76 : decode cX3_begin 76 = .ok (.iload_n 2, 1) := by decide +kernel
theorem dX3_begin_77 : decode cX3_begin 77 = .ok (.iconst 0, 1) := by decide +kernel
theorem dX3_begin_78 : decode cX3_begin 78 = .ok (.iastore, 1) := by decide +kernel
theorem dX3_begin_79 : decode cX3_begin 79 = .ok (.aload_n 0, 1) := by decide +kernel
theorem dX3_begin_80 : decode cX3_begin 80 = .ok (.getfield 34, 3) := by decide +kernel
theorem dX3_begin_83 : decode cX3_begin 83 = .ok (.iload_n 2, 1) := by decide +kernel
theorem dX3_begin_84 : decode cX3_begin 84 = .ok (.iconst 1, 1) := by decide +kernel
theorem dX3_begin_85 : decode cX3_begin 85 = .ok (.iastore, 1) := by decide +kernel
theorem dX3_begin_86 : decode cX3_begin 86 = .ok (.aload_n 0, 1) := by decide +kernel
theorem dX3_begin_87 : decode cX3_begin 87 = .ok (.getfield 37, 3) := by decide +kernel
theorem dX3_begin_90 : decode cX3_begin 90 = .ok (.iload_n 2, 1) := by decide +kernel
theorem dX3_begin_91 : decode cX3_begin 91 = .ok (.iconst 0, 1) := by decide +kernel
theorem dX3_begin_92 : decode cX3_begin 92 = .ok (.iastore, 1) := by decide +kernel
theorem dX3_begin_93 : decode cX3_begin 93 = .ok (.aload_n 0, 1) := by decide +kernel
theorem dX3_begin_94 : decode cX3_begin 94 = .ok (.getfield 40, 3) := by decide +kernel
theorem dX3_begin_97 : decode cX3_begin 97 = .ok (.iload_n 2, 1) := by decide +kernel
theorem dX3_begin_98 : decode cX3_begin 98 = .ok (.iconst 0, 1) := by decide +kernel
theorem dX3_begin_99 : decode cX3_begin 99 = .ok (.iastore, 1) := by decide +kernel
theorem dX3_begin_100 : decode cX3_begin 100 = .ok (.iinc 2 1, 3) := by decide +kernel
theorem dX3_begin_103 : decode cX3_begin 103 = .ok (.goto (-76), 3) := by decide +kernel
theorem dX3_begin_106 : decode cX3_begin 106 = .ok (.return_, 1) := by decide +kernel
theorem dX3_copy_0 : decode cX3_copy 0 = .ok (.aload_n 0, 1) := by decide +kernel
theorem dX3_copy_1 : decode cX3_copy 1 = .ok (.iconst 0, 1) := by decide +kernel
theorem dX3_copy_2 : decode cX3_copy 2 = .ok (.aload_n 1, 1) := by decide +kernel
theorem dX3_copy_3 : decode cX3_copy 3 = .ok (.iconst 0, 1) := by decide +kernel
theorem dX3_copy_4 : decode cX3_copy 4 = .ok (.aload_n 1, 1) := by decide +kernel
theorem dX3_copy_5 : decode cX3_copy 5 = .ok (.arraylength, 1) := by decide +kernel
theorem dX3_copy_6 : decode cX3_copy 6 = .ok (.invokestatic 65, 3) := by decide +kernel
theorem dX3_copy_9 : decode cX3_copy 9 = .ok (.return_, 1) := by decide +kernel
theorem dX3_become_0 : decode cX3_become 0 = .ok (.aload_n 0, 1) := by decide +kernel
theorem dX3_become_1 : decode cX3_become 1 = .ok (.aload_n 1, 1) := by decide +kernel
theorem dX3_become_2 : decode cX3_become 2 = .ok (.getfield 9, 3) := by decide +kernel
theorem dX3_become_5 : decode cX3_become 5 = .ok (.putfield 9, 3) := by decide +kernel
theorem dX3_become_8 : decode cX3_become 8 = .ok (.aload_n 0, 1) := by decide +kernel
theorem dX3_become_9 : decode cX3_become 9 = .ok (.aload_n 1, 1) := by decide +kernel
theorem dX3_become_10 : decode cX3_become 10 = .ok (.getfield 53, 3) := by decide +kernel
theorem dX3_become_13 : decode cX3_become 13 = .ok (.putfield 53, 3) := by decide +kernel
theorem dX3_become_16 : decode cX3_become 16 = .ok (.aload_n 0, 1) := by decide +kernel
theorem dX3_become_17 : decode cX3_become 17 = .ok (.aload_n 1, 1) := by decide +kernel
theorem dX3_become_18 : decode cX3_become 18 = .ok (.getfield 56, 3) := by decide +kernel
theorem dX3_become_21 : decode cX3_become 21 = .ok (.putfield 56, 3) := by decide +kernel
theorem dX3_become_24 : decode cX3_become 24 = .ok (.aload_n 0, 1) := by decide +kernel
theorem dX3_become_25 : decode cX3_become 25 = .ok (.aload_n 1, 1) := by decide +kernel
theorem dX3_become_26 : decode cX3_become 26 = .ok (.getfield 59, 3) := by decide +kernel
theorem dX3_become_29 : decode cX3_become 29 = .ok (.putfield 59, 3) := by decide +kernel
theorem dX3_become_32 : decode cX3_become 32 = .ok (.aload_n 0, 1) := by decide +kernel
theorem dX3_become_33 : decode cX3_become 33 = .ok (.aload_n 1, 1) := by decide +kernel
theorem dX3_become_34 : decode cX3_become 34 = .ok (.getfield 62, 3) := by decide +kernel
theorem dX3_become_37 : decode cX3_become 37 = .ok (.putfield 62, 3) := by decide +kernel
theorem dX3_become_40 : decode cX3_become 40 = .ok (.aload_n 1, 1) := by decide +kernel
theorem dX3_become_41 : decode cX3_become 41 = .ok (.getfield 15, 3) := by decide +kernel
theorem dX3_become_44 : decode cX3_become 44 = .ok (.aload_n 0, 1) := by decide +kernel
theorem dX3_become_45 : decode cX3_become 45 = .ok (.getfield 15, 3) := by decide +kernel
theorem dX3_become_48 : decode cX3_become 48 = .ok (.invokestatic 71, 3) := by decide +kernel
theorem dX3_become_51 : decode cX3_become 51 = .ok (.aload_n 1, 1) := by decide +kernel
theorem dX3_become_52 : decode cX3_become 52 = .ok (.getfield 19, 3) := by decide +kernel
theorem dX3_become_55 : decode cX3_become 55 = .ok (.aload_n 0, 1) := by decide +kernel
theorem dX3_become_56 : decode cX3_become 56 = .ok (.getfield 19, 3) := by decide +kernel
theorem dX3_become_59 : decode cX3_become 59 = .ok (.invokestatic 71, 3) := by decide +kernel
theorem dX3_become_62 : decode cX3_become 62 = .ok (.aload_n 1, 1) := by decide +kernel
theorem dX3_become_63 : decode cX3_become 63 = .ok (.getfield 22, 3) := by decide +kernel
theorem dX3_become_66 : decode cX3_become 66 = .ok (.aload_n 0, 1) := by decide +kernel
theorem dX3_become_67 : decode cX3_become 67 = .ok (.getfield 22, 3) := by decide +kernel
theorem dX3_become_70 : decode cX3_become 70 = .ok (.invokestatic 71, 3) := by decide +kernel
theorem dX3_become_73 : decode cX3_become 73 = .ok (.aload_n 1, 1) := by decide +kernel
theorem dX3_become_74 : decode cX3_become 74 = .ok (.getfield 25, 3) := by decide +kernel
theorem dX3_become_77 : decode cX3_become 77 = .ok (.aload_n 0, 1) := by decide +kernel
theorem dX3_become_78 : decode cX3_become 78 = .ok (.getfield 25, 3) := by decide +kernel
theorem dX3_become_81 : decode cX3_become 81 = .ok (.invokestatic 71, 3) := by decide +kernel
theorem dX3_become_84 : decode cX3_become 84 = .ok (.aload_n 1, 1) := by decide +kernel
theorem dX3_become_85 : decode cX3_become 85 = .ok (.getfield 28, 3) := by decide +kernel
theorem dX3_become_88 : decode cX3_become 88 = .ok (.aload_n 0, 1) := by decide +kernel
theorem dX3_become_89 : decode cX3_become 89 = .ok (.getfield 28, 3) := by decide +kernel
theorem dX3_become_92 : decode cX3_become 92 = .ok (.invokestatic 71, 3) := by decide +kernel
theorem dX3_become_95 : decode cX3_become 95 = .ok (.aload_n 1, 1) := by decide +kernel
theorem dX3_become_96 : decode cX3_become 96 = .ok (.getfield 31, 3) := by decide +kernel
theorem dX3_become_99 : decode cX3_become 99 = .ok (.aload_n 0, 1) := by decide +kernel
theorem dX3_become_100 : decode cX3_become 100 = .ok (.getfield 31, 3) := by decide +kernel
theorem dX3_become_103 : decode cX3_become 103 = .ok (.invokestatic 71, 3) := by decide +kernel
theorem dX3_become_106 : decode cX3_become 106 = .ok (.aload_n 1, 1) := by decide +kernel
theorem dX3_become_107 : decode cX3_become 107 = .ok (.getfield 34, 3) := by decide +kernel
theorem dX3_become_110 : decode cX3_become 110 = .ok (.aload_n 0, 1) := by decide +kernel
theorem dX3_become_111 : decode cX3_become 111 = .ok (.getfield 34, 3) := by decide +kernel
theorem dX3_become_114 : decode cX3_become 114 = .ok (.invokestatic 71, 3) := by decide +kernel
theorem dX3_become_117 : decode cX3_become 117 = .ok (.aload_n 1, 1) := by decide +kernel
theorem dX3_become_118 : decode cX3_become 118 = .ok (.getfield 37, 3) := by decide +kernel
theorem dX3_become_121 : decode cX3_become 121 = .ok (.aload_n 0, 1) := by decide +kernel
theorem dX3_become_122 : decode cX3_become 122 = .ok (.getfield 37, 3) := by decide +kernel
theorem dX3_become_125 : decode cX3_become 125 = .ok (.invokestatic 71, 3) := by decide +kernel
theorem dX3_become_128 : decode cX3_become 128 = .ok (.aload_n 1, 1) := by decide +kernel
theorem dX3_become_129 : decode cX3_become 129 = .ok (.getfield 40, 3) := by decide +kernel
theorem dX3_become_132 : decode cX3_become 132 = .ok (.aload_n 0, 1) := by decide +kernel
theorem dX3_become_133 : decode cX3_become 133 = .ok (.getfield 40, 3) := by decide +kernel
theorem dX3_become_136 : decode cX3_become 136 = .ok (.invokestatic 71, 3) := by decide +kernel
theorem dX3_become_139 : decode cX3_become 139 = .ok (.aload_n 1, 1) := by decide +kernel
theorem dX3_become_140 : decode cX3_become 140 = .ok (.getfield 43, 3) := by decide +kernel
theorem dX3_become_143 : decode cX3_become 143 = .ok (.aload_n 0, 1) := by decide +kernel
theorem dX3_become_144 : decode cX3_become 144 = .ok (.getfield 43, 3) := by decide +kernel
theorem dX3_become_147 : decode cX3_become 147 = .ok (.invokestatic 71, 3) := by decide +kernel
theorem dX3_become_150 : decode cX3_become 150 = .ok (.aload_n 1, 1) := by decide +kernel
theorem dX3_become_151 : decode cX3_become 151 = .ok (.getfield 46, 3) := by decide +kernel
theorem dX3_become_154 : decode cX3_become 154 = .ok (.aload_n 0, 1) := by decide +kernel
theorem dX3_become_155 : decode cX3_become 155 = .ok (.getfield 46, 3) := by decide +kernel
theorem dX3_become_158 : decode cX3_become 158 = .ok (.invokestatic 71, 3) := by decide +kernel
theorem dX3_become_161 : decode cX3_become 161 = .ok (.return_, 1) := by decide +kernel
theorem dX3_isMore_0 : decode cX3_isMore 0 = .ok (.iload_n 1, 1) := by decide +kernel
theorem dX3_isMore_1 : decode cX3_isMore 1 = .ok (.aload_n 0, 1) := by decide +kernel
theorem dX3_isMore_2 : decode cX3_isMore 2 = .ok (.getfield 9, 3) := by decide +kernel
theorem dX3_isMore_5 : decode cX3_isMore 5 = .ok (.iconst 2, 1) := by decide +kernel
theorem dX3_isMore_6 : decode cX3_isMore 6 = .ok (.idiv, 1) := by decide +kernel
theorem dX3_isMore_7 : decode cX3_isMore 7 = .ok (.if_icmp .le 7, 3) := by decide +kernel
theorem dX3_isMore_10 : decode cX3_isMore 10 = .ok (.iconst 1, 1) := by decide +kernel
theorem dX3_isMore_11 : decode cX3_isMore 11 = .ok (.goto 4, 3) := by decide +kernel
theorem dX3_isMore_14 : decode cX3_isMore 14 = .ok (.iconst 0, 1) := by decide +kernel
theorem dX3_isMore_15 : decode cX3_isMore 15 = .ok (.ireturn, 1) := by decide +kernel
theorem dX3_isUp_0 : decode cX3_isUp 0 = .ok (.aload_n 0, 1) := by decide +kernel
theorem dX3_isUp_1 : decode cX3_isUp 1 = .ok (.getfield 34, 3) := by decide +kernel
theorem dX3_isUp_4 : decode cX3_isUp 4 = .ok (.iload_n 1, 1) := by decide +kernel
theorem dX3_isUp_5 : decode cX3_isUp 5 = .ok (.iaload, 1) := by decide +kernel
theorem dX3_isUp_6 : decode cX3_isUp 6 = .ok (.iconst 1, 1) := by decide +kernel
theorem dX3_isUp_7 : decode cX3_isUp 7 = .ok (.if_icmp .ne 17, 3) := by decide +kernel
theorem dX3_isUp_10 : decode cX3_isUp 10 = .ok (.aload_n 0, 1) := by decide +kernel
theorem dX3_isUp_11 : decode cX3_isUp 11 = .ok (.getfield 28, 3) := by decide +kernel
theorem dX3_isUp_14 : decode cX3_isUp 14 = .ok (.iload_n 1, 1) := by decide +kernel
theorem dX3_isUp_15 : decode cX3_isUp 15 = .ok (.iaload, 1) := by decide +kernel
theorem dX3_isUp_16 : decode cX3_isUp 16 = .ok (.iload_n 2, 1) := by decide +kernel
theorem dX3_isUp_17 : decode cX3_isUp 17 = .ok (.if_icmp .ne 7, 3) := by decide +kernel
theorem dX3_isUp_20 : decode cX3_isUp 20 = .ok (.iconst 1, 1) := by decide +kernel
theorem dX3_isUp_21 : decode cX3_isUp 21 = .ok (.goto 4, 3) := by decide +kernel
theorem dX3_isUp_24 : decode cX3_isUp 24 = .ok (.iconst 0, 1) := by decide +kernel
theorem dX3_isUp_25 : decode cX3_isUp 25 = .ok (.ireturn, 1) := by decide +kernel
theorem dX3_hear_0 : decode cX3_hear 0 = .ok (.iload_n 1, 1) := by decide +kernel
theorem dX3_hear_1 : decode cX3_hear 1 = .ok (.iload_n 2, 1) := by decide +kernel
theorem dX3_hear_2 : decode cX3_hear 2 = .ok (.if_icmp .eq 42, 3) := by decide +kernel
theorem dX3_hear_5 : decode cX3_hear 5 = .ok (.aload_n 0, 1) := by decide +kernel
theorem dX3_hear_6 : decode cX3_hear 6 = .ok (.getfield 34, 3) := by decide +kernel
theorem dX3_hear_9 : decode cX3_hear 9 = .ok (.iload_n 1, 1) := by decide +kernel
theorem dX3_hear_10 : decode cX3_hear 10 = .ok (.iaload, 1) := by decide +kernel
theorem dX3_hear_11 : decode cX3_hear 11 = .ok (.iconst 1, 1) := by decide +kernel
theorem dX3_hear_12 : decode cX3_hear 12 = .ok (.if_icmp .ne 32, 3) := by decide +kernel
theorem dX3_hear_15 : decode cX3_hear 15 = .ok (.aload_n 0, 1) := by decide +kernel
theorem dX3_hear_16 : decode cX3_hear 16 = .ok (.getfield 34, 3) := by decide +kernel
theorem dX3_hear_19 : decode cX3_hear 19 = .ok (.iload_n 2, 1) := by decide +kernel
theorem dX3_hear_20 : decode cX3_hear 20 = .ok (.iaload, 1) := by decide +kernel
theorem dX3_hear_21 : decode cX3_hear 21 = .ok (.iconst 1, 1) := by decide +kernel
theorem dX3_hear_22 : decode cX3_hear 22 = .ok (.if_icmp .ne 22, 3) := by decide +kernel
theorem dX3_hear_25 : decode cX3_hear 25 = .ok (.aload_n 0, 1) := by decide +kernel
theorem dX3_hear_26 : decode cX3_hear 26 = .ok (.getfield 31, 3) := by decide +kernel
theorem dX3_hear_29 : decode cX3_hear 29 = .ok (.iload_n 1, 1) := by decide +kernel
theorem dX3_hear_30 : decode cX3_hear 30 = .ok (.iaload, 1) := by decide +kernel
theorem dX3_hear_31 : decode cX3_hear 31 = .ok (.aload_n 0, 1) := by decide +kernel
theorem dX3_hear_32 : decode cX3_hear 32 = .ok (.getfield 31, 3) := by decide +kernel
theorem dX3_hear_35 : decode cX3_hear 35 = .ok (.iload_n 2, 1) := by decide +kernel
theorem dX3_hear_36 : decode cX3_hear 36 = .ok (.iaload, 1) := by decide +kernel
theorem dX3_hear_37 : decode cX3_hear 37 = .ok (.if_icmp .ne 7, 3) := by decide +kernel
theorem dX3_hear_40 : decode cX3_hear 40 = .ok (.iconst 1, 1) := by decide +kernel
theorem dX3_hear_41 : decode cX3_hear 41 = .ok (.goto 4, 3) := by decide +kernel
theorem dX3_hear_44 : decode cX3_hear 44 = .ok (.iconst 0, 1) := by decide +kernel
theorem dX3_hear_45 : decode cX3_hear 45 = .ok (.ireturn, 1) := by decide +kernel
theorem dX3_agree_0 : decode cX3_agree 0 = .ok (.iconst 0, 1) := by decide +kernel
theorem dX3_agree_1 : decode cX3_agree 1 = .ok (.istore_n 3, 1) := by decide +kernel
theorem dX3_agree_2 : decode cX3_agree 2 = .ok (.iload_n 3, 1) := by decide +kernel
theorem dX3_agree_3 : decode cX3_agree 3 = .ok (.aload_n 0, 1) := by decide +kernel
theorem dX3_agree_4 : decode cX3_agree 4 = .ok (.getfield 37, 3) := by decide +kernel
theorem dX3_agree_7 : decode cX3_agree 7 = .ok (.iload_n 1, 1) := by decide +kernel
theorem dX3_agree_8 : decode cX3_agree 8 = .ok (.iaload, 1) := by decide +kernel
theorem dX3_agree_9 : decode cX3_agree 9 = .ok (.if_icmp .ge 69, 3) := by decide +kernel
theorem dX3_agree_12 : decode cX3_agree 12 = .ok (.iload_n 3, 1) := by decide +kernel
theorem dX3_agree_13 : decode cX3_agree 13 = .ok (.aload_n 0, 1) := by decide +kernel
theorem dX3_agree_14 : decode cX3_agree 14 = .ok (.getfield 37, 3) := by decide +kernel
theorem dX3_agree_17 : decode cX3_agree 17 = .ok (.iload_n 2, 1) := by decide +kernel
theorem dX3_agree_18 : decode cX3_agree 18 = .ok (.iaload, 1) := by decide +kernel
theorem dX3_agree_19 : decode cX3_agree 19 = .ok (.if_icmp .ge 59, 3) := by decide +kernel
theorem dX3_agree_22 : decode cX3_agree 22 = .ok (.aload_n 0, 1) := by decide +kernel
theorem dX3_agree_23 : decode cX3_agree 23 = .ok (.getfield 43, 3) := by decide +kernel
theorem dX3_agree_26 : decode cX3_agree 26 = .ok (.bipush 10, 2) := by decide +kernel
theorem dX3_agree_28 : decode cX3_agree 28 = .ok (.iload_n 1, 1) := by decide +kernel
theorem dX3_agree_29 : decode cX3_agree 29 = .ok (.imul, 1) := by decide +kernel
theorem dX3_agree_30 : decode cX3_agree 30 = .ok (.iload_n 3, 1) := by decide +kernel
theorem dX3_agree_31 : decode cX3_agree 31 = .ok (.iadd, 1) := by decide +kernel
theorem dX3_agree_32 : decode cX3_agree 32 = .ok (.iaload, 1) := by decide +kernel
theorem dX3_agree_33 : decode cX3_agree 33 = .ok (.aload_n 0, 1) := by decide +kernel
theorem dX3_agree_34 : decode cX3_agree 34 = .ok (.getfield 43, 3) := by decide +kernel
theorem dX3_agree_37 : decode cX3_agree 37 = .ok (.bipush 10, 2) := by decide +kernel
theorem dX3_agree_39 : decode cX3_agree 39 = .ok (.iload_n 2, 1) := by decide +kernel
theorem dX3_agree_40 : decode cX3_agree 40 = .ok (.imul, 1) := by decide +kernel
theorem dX3_agree_41 : decode cX3_agree 41 = .ok (.iload_n 3, 1) := by decide +kernel
theorem dX3_agree_42 : decode cX3_agree 42 = .ok (.iadd, 1) := by decide +kernel
theorem dX3_agree_43 : decode cX3_agree 43 = .ok (.iaload, 1) := by decide +kernel
theorem dX3_agree_44 : decode cX3_agree 44 = .ok (.if_icmp .ne 34, 3) := by decide +kernel
theorem dX3_agree_47 : decode cX3_agree 47 = .ok (.aload_n 0, 1) := by decide +kernel
theorem dX3_agree_48 : decode cX3_agree 48 = .ok (.getfield 46, 3) := by decide +kernel
theorem dX3_agree_51 : decode cX3_agree 51 = .ok (.bipush 10, 2) := by decide +kernel
theorem dX3_agree_53 : decode cX3_agree 53 = .ok (.iload_n 1, 1) := by decide +kernel
theorem dX3_agree_54 : decode cX3_agree 54 = .ok (.imul, 1) := by decide +kernel
theorem dX3_agree_55 : decode cX3_agree 55 = .ok (.iload_n 3, 1) := by decide +kernel
theorem dX3_agree_56 : decode cX3_agree 56 = .ok (.iadd, 1) := by decide +kernel
theorem dX3_agree_57 : decode cX3_agree 57 = .ok (.iaload, 1) := by decide +kernel
theorem dX3_agree_58 : decode cX3_agree 58 = .ok (.aload_n 0, 1) := by decide +kernel
theorem dX3_agree_59 : decode cX3_agree 59 = .ok (.getfield 46, 3) := by decide +kernel
theorem dX3_agree_62 : decode cX3_agree 62 = .ok (.bipush 10, 2) := by decide +kernel
theorem dX3_agree_64 : decode cX3_agree 64 = .ok (.iload_n 2, 1) := by decide +kernel
theorem dX3_agree_65 : decode cX3_agree 65 = .ok (.imul, 1) := by decide +kernel
theorem dX3_agree_66 : decode cX3_agree 66 = .ok (.iload_n 3, 1) := by decide +kernel
theorem dX3_agree_67 : decode cX3_agree 67 = .ok (.iadd, 1) := by decide +kernel
theorem dX3_agree_68 : decode cX3_agree 68 = .ok (.iaload, 1) := by decide +kernel
theorem dX3_agree_69 : decode cX3_agree 69 = .ok (.if_icmp .ne 9, 3) := by decide +kernel
theorem dX3_agree_72 : decode cX3_agree 72 = .ok (.iinc 3 1, 3) := by decide +kernel
theorem dX3_agree_75 : decode cX3_agree 75 = .ok (.goto (-73), 3) := by decide +kernel
theorem dX3_agree_78 : decode cX3_agree 78 = .ok (.iload_n 3, 1) := by decide +kernel
theorem dX3_agree_79 : decode cX3_agree 79 = .ok (.ireturn, 1) := by decide +kernel
theorem dX3_lastTerm_0 : decode cX3_lastTerm 0 = .ok (.aload_n 0, 1) := by decide +kernel
theorem dX3_lastTerm_1 : decode cX3_lastTerm 1 = .ok (.getfield 37, 3) := by decide +kernel
theorem dX3_lastTerm_4 : decode cX3_lastTerm 4 = .ok (.iload_n 1, 1) := by decide +kernel
theorem dX3_lastTerm_5 : decode cX3_lastTerm 5 = .ok (.iaload, 1) := by decide +kernel
theorem dX3_lastTerm_6 : decode cX3_lastTerm 6 = .ok (.ifCond .ne 7, 3) := by decide +kernel
theorem dX3_lastTerm_9 : decode cX3_lastTerm 9 = .ok (.iconst (-1), 1) := by decide +kernel
theorem dX3_lastTerm_10 : decode cX3_lastTerm 10 = .ok (.goto 21, 3) := by decide +kernel
theorem dX3_lastTerm_13 : decode cX3_lastTerm 13 = .ok (.aload_n 0, 1) := by decide +kernel
theorem dX3_lastTerm_14 : decode cX3_lastTerm 14 = .ok (.getfield 43, 3) := by decide +kernel
theorem dX3_lastTerm_17 : decode cX3_lastTerm 17 = .ok (.bipush 10, 2) := by decide +kernel
theorem dX3_lastTerm_19 : decode cX3_lastTerm 19 = .ok (.iload_n 1, 1) := by decide +kernel
theorem dX3_lastTerm_20 : decode cX3_lastTerm 20 = .ok (.imul, 1) := by decide +kernel
theorem dX3_lastTerm_21 : decode cX3_lastTerm 21 = .ok (.aload_n 0, 1) := by decide +kernel
theorem dX3_lastTerm_22 : decode cX3_lastTerm 22 = .ok (.getfield 37, 3) := by decide +kernel
theorem dX3_lastTerm_25 : decode cX3_lastTerm 25 = .ok (.iload_n 1, 1) := by decide +kernel
theorem dX3_lastTerm_26 : decode cX3_lastTerm 26 = .ok (.iaload, 1) := by decide +kernel
theorem dX3_lastTerm_27 : decode cX3_lastTerm 27 = .ok (.iadd, 1) := by decide +kernel
theorem dX3_lastTerm_28 : decode cX3_lastTerm 28 = .ok (.iconst 1, 1) := by decide +kernel
theorem dX3_lastTerm_29 : decode cX3_lastTerm 29 = .ok (.isub, 1) := by decide +kernel
theorem dX3_lastTerm_30 : decode cX3_lastTerm 30 = .ok (.iaload, 1) := by decide +kernel
theorem dX3_lastTerm_31 : decode cX3_lastTerm 31 = .ok (.ireturn, 1) := by decide +kernel
theorem dX3_isAsNew_0 : decode cX3_isAsNew 0 = .ok (.aload_n 0, 1) := by decide +kernel
theorem dX3_isAsNew_1 : decode cX3_isAsNew 1 = .ok (.iload_n 1, 1) := by decide +kernel
theorem dX3_isAsNew_2 : decode cX3_isAsNew 2 = .ok (.invokevirtual 75, 3) := by decide +kernel
theorem dX3_isAsNew_5 : decode cX3_isAsNew 5 = .ok (.aload_n 0, 1) := by decide +kernel
theorem dX3_isAsNew_6 : decode cX3_isAsNew 6 = .ok (.iload_n 2, 1) := by decide +kernel
theorem dX3_isAsNew_7 : decode cX3_isAsNew 7 = .ok (.invokevirtual 75, 3) := by decide +kernel
theorem dX3_isAsNew_10 : decode cX3_isAsNew 10 = .ok (.if_icmp .eq 24, 3) := by decide +kernel
theorem dX3_isAsNew_13 : decode cX3_isAsNew 13 = .ok (.aload_n 0, 1) := by decide +kernel
theorem dX3_isAsNew_14 : decode cX3_isAsNew 14 = .ok (.iload_n 1, 1) := by decide +kernel
theorem dX3_isAsNew_15 : decode cX3_isAsNew 15 = .ok (.invokevirtual 75, 3) := by decide +kernel
theorem dX3_isAsNew_18 : decode cX3_isAsNew 18 = .ok (.aload_n 0, 1) := by decide +kernel
theorem dX3_isAsNew_19 : decode cX3_isAsNew 19 = .ok (.iload_n 2, 1) := by decide +kernel
theorem dX3_isAsNew_20 : decode cX3_isAsNew 20 = .ok (.invokevirtual 75, 3) := by decide +kernel
theorem dX3_isAsNew_23 : decode cX3_isAsNew 23 = .ok (.if_icmp .le 7, 3) := by decide +kernel
theorem dX3_isAsNew_26 : decode cX3_isAsNew 26 = .ok (.iconst 1, 1) := by decide +kernel
theorem dX3_isAsNew_27 : decode cX3_isAsNew 27 = .ok (.goto 27, 3) := by decide +kernel
theorem dX3_isAsNew_30 : decode cX3_isAsNew 30 = .ok (.iconst 0, 1) := by decide +kernel
theorem dX3_isAsNew_31 : decode cX3_isAsNew 31 = .ok (.goto 23, 3) := by decide +kernel
theorem dX3_isAsNew_34 : decode cX3_isAsNew 34 = .ok (.aload_n 0, 1) := by decide +kernel
theorem dX3_isAsNew_35 : decode cX3_isAsNew 35 = .ok (.getfield 37, 3) := by decide +kernel
theorem dX3_isAsNew_38 : decode cX3_isAsNew 38 = .ok (.iload_n 1, 1) := by decide +kernel
theorem dX3_isAsNew_39 : decode cX3_isAsNew 39 = .ok (.iaload, 1) := by decide +kernel
theorem dX3_isAsNew_40 : decode cX3_isAsNew 40 = .ok (.aload_n 0, 1) := by decide +kernel
theorem dX3_isAsNew_41 : decode cX3_isAsNew 41 = .ok (.getfield 37, 3) := by decide +kernel
theorem dX3_isAsNew_44 : decode cX3_isAsNew 44 = .ok (.iload_n 2, 1) := by decide +kernel
theorem dX3_isAsNew_45 : decode cX3_isAsNew 45 = .ok (.iaload, 1) := by decide +kernel
theorem dX3_isAsNew_46 : decode cX3_isAsNew 46 = .ok (.if_icmp .lt 7, 3) := by decide +kernel
theorem dX3_isAsNew_49 : decode cX3_isAsNew 49 = .ok (.iconst 1, 1) := by decide +kernel
theorem dX3_isAsNew_50 : decode cX3_isAsNew 50 = .ok (.goto 4, 3) := by decide +kernel
theorem dX3_isAsNew_53 : decode cX3_isAsNew 53 = .ok (.iconst 0, 1) := by decide +kernel
theorem dX3_isAsNew_54 : decode cX3_isAsNew 54 = .ok (.ireturn, 1) := by decide +kernel
theorem dX3_add_0 : decode cX3_add 0 = .ok (.aload_n 0, 1) := by decide +kernel
theorem dX3_add_1 : decode cX3_add 1 = .ok (.getfield 43, 3) := by decide +kernel
theorem dX3_add_4 : decode cX3_add 4 = .ok (.bipush 10, 2) := by decide +kernel
theorem dX3_add_6 : decode cX3_add 6 = .ok (.iload_n 1, 1) := by decide +kernel
theorem dX3_add_7 : decode cX3_add 7 = .ok (.imul, 1) := by decide +kernel
theorem dX3_add_8 : decode cX3_add 8 = .ok (.aload_n 0, 1) := by decide +kernel
theorem dX3_add_9 : decode cX3_add 9 = .ok (.getfield 37, 3) := by decide +kernel
theorem dX3_add_12 : decode cX3_add 12 = .ok (.iload_n 1, 1) := by decide +kernel
theorem dX3_add_13 : decode cX3_add 13 = .ok (.iaload, 1) := by decide +kernel
theorem dX3_add_14 : decode cX3_add 14 = .ok (.iadd, 1) := by decide +kernel
theorem dX3_add_15 : decode cX3_add 15 = .ok (.iload_n 2, 1) := by decide +kernel
theorem dX3_add_16 : decode cX3_add 16 = .ok (.iastore, 1) := by decide +kernel
theorem dX3_add_17 : decode cX3_add 17 = .ok (.aload_n 0, 1) := by decide +kernel
theorem dX3_add_18 : decode cX3_add 18 = .ok (.getfield 46, 3) := by decide +kernel
theorem dX3_add_21 : decode cX3_add 21 = .ok (.bipush 10, 2) := by decide +kernel
theorem dX3_add_23 : decode cX3_add 23 = .ok (.iload_n 1, 1) := by decide +kernel
theorem dX3_add_24 : decode cX3_add 24 = .ok (.imul, 1) := by decide +kernel
theorem dX3_add_25 : decode cX3_add 25 = .ok (.aload_n 0, 1) := by decide +kernel
theorem dX3_add_26 : decode cX3_add 26 = .ok (.getfield 37, 3) := by decide +kernel
theorem dX3_add_29 : decode cX3_add 29 = .ok (.iload_n 1, 1) := by decide +kernel
theorem dX3_add_30 : decode cX3_add 30 = .ok (.iaload, 1) := by decide +kernel
theorem dX3_add_31 : decode cX3_add 31 = .ok (.iadd, 1) := by decide +kernel
theorem dX3_add_32 : decode cX3_add 32 = .ok (.iload_n 3, 1) := by decide +kernel
theorem dX3_add_33 : decode cX3_add 33 = .ok (.iastore, 1) := by decide +kernel
theorem dX3_add_34 : decode cX3_add 34 = .ok (.aload_n 0, 1) := by decide +kernel
theorem dX3_add_35 : decode cX3_add 35 = .ok (.getfield 37, 3) := by decide +kernel
theorem dX3_add_38 : decode cX3_add 38 = .ok (.iload_n 1, 1) := by decide +kernel
theorem dX3_add_39 : decode cX3_add 39 = .ok (.dup2, 1) := by decide +kernel
theorem dX3_add_40 : decode cX3_add 40 = .ok (.iaload, 1) := by decide +kernel
theorem dX3_add_41 : decode cX3_add 41 = .ok (.iconst 1, 1) := by decide +kernel
theorem dX3_add_42 : decode cX3_add 42 = .ok (.iadd, 1) := by decide +kernel
theorem dX3_add_43 : decode cX3_add 43 = .ok (.iastore, 1) := by decide +kernel
theorem dX3_add_44 : decode cX3_add 44 = .ok (.return_, 1) := by decide +kernel
theorem dX3_hearOf_0 : decode cX3_hearOf 0 = .ok (.iload_n 2, 1) := by decide +kernel
theorem dX3_hearOf_1 : decode cX3_hearOf 1 = .ok (.aload_n 0, 1) := by decide +kernel
theorem dX3_hearOf_2 : decode cX3_hearOf 2 = .ok (.getfield 22, 3) := by decide +kernel
theorem dX3_hearOf_5 : decode cX3_hearOf 5 = .ok (.iload_n 1, 1) := by decide +kernel
theorem dX3_hearOf_6 : decode cX3_hearOf 6 = .ok (.iaload, 1) := by decide +kernel
theorem dX3_hearOf_7 : decode cX3_hearOf 7 = .ok (.if_icmp .gt 4, 3) := by decide +kernel
theorem dX3_hearOf_10 : decode cX3_hearOf 10 = .ok (.return_, 1) := by decide +kernel
theorem dX3_hearOf_11 : decode cX3_hearOf 11 = .ok (.aload_n 0, 1) := by decide +kernel
theorem dX3_hearOf_12 : decode cX3_hearOf 12 = .ok (.getfield 22, 3) := by decide +kernel
theorem dX3_hearOf_15 : decode cX3_hearOf 15 = .ok (.iload_n 1, 1) := by decide +kernel
theorem dX3_hearOf_16 : decode cX3_hearOf 16 = .ok (.iload_n 2, 1) := by decide +kernel
theorem dX3_hearOf_17 : decode cX3_hearOf 17 = .ok (.iastore, 1) := by decide +kernel
theorem dX3_hearOf_18 : decode cX3_hearOf 18 = .ok (.aload_n 0, 1) := by decide +kernel
theorem dX3_hearOf_19 : decode cX3_hearOf 19 = .ok (.getfield 25, 3) := by decide +kernel
theorem dX3_hearOf_22 : decode cX3_hearOf 22 = .ok (.iload_n 1, 1) := by decide +kernel
theorem dX3_hearOf_23 : decode cX3_hearOf 23 = .ok (.iconst (-1), 1) := by decide +kernel
theorem dX3_hearOf_24 : decode cX3_hearOf 24 = .ok (.iastore, 1) := by decide +kernel
theorem dX3_hearOf_25 : decode cX3_hearOf 25 = .ok (.aload_n 0, 1) := by decide +kernel
theorem dX3_hearOf_26 : decode cX3_hearOf 26 = .ok (.getfield 28, 3) := by decide +kernel
theorem dX3_hearOf_29 : decode cX3_hearOf 29 = .ok (.iload_n 1, 1) := by decide +kernel
theorem dX3_hearOf_30 : decode cX3_hearOf 30 = .ok (.iconst 0, 1) := by decide +kernel
theorem dX3_hearOf_31 : decode cX3_hearOf 31 = .ok (.iastore, 1) := by decide +kernel
theorem dX3_hearOf_32 : decode cX3_hearOf 32 = .ok (.return_, 1) := by decide +kernel
theorem dX3_stand_0 : decode cX3_stand 0 = .ok (.aload_n 0, 1) := by decide +kernel
theorem dX3_stand_1 : decode cX3_stand 1 = .ok (.dup, 1) := by decide +kernel
theorem dX3_stand_2 : decode cX3_stand 2 = .ok (.getfield 56, 3) := by decide +kernel
theorem dX3_stand_5 : decode cX3_stand 5 = .ok (.iconst 1, 1) := by decide +kernel
theorem dX3_stand_6 : decode cX3_stand 6 = .ok (.iadd, 1) := by decide +kernel
theorem dX3_stand_7 : decode cX3_stand 7 = .ok (.putfield 56, 3) := by decide +kernel
theorem dX3_stand_10 : decode cX3_stand 10 = .ok (.aload_n 0, 1) := by decide +kernel
theorem dX3_stand_11 : decode cX3_stand 11 = .ok (.getfield 22, 3) := by decide +kernel
theorem dX3_stand_14 : decode cX3_stand 14 = .ok (.iload_n 1, 1) := by decide +kernel
theorem dX3_stand_15 : decode cX3_stand 15 = .ok (.dup2, 1) := by decide +kernel
theorem dX3_stand_16 : decode cX3_stand 16 = .ok (.iaload, 1) := by decide +kernel
theorem dX3_stand_17 : decode cX3_stand 17 = .ok (.iconst 1, 1) := by decide +kernel
theorem dX3_stand_18 : decode cX3_stand 18 = .ok (.iadd, 1) := by decide +kernel
theorem dX3_stand_19 : decode cX3_stand 19 = .ok (.iastore, 1) := by decide +kernel
theorem dX3_stand_20 : decode cX3_stand 20 = .ok (.aload_n 0, 1) := by decide +kernel
theorem dX3_stand_21 : decode cX3_stand 21 = .ok (.getfield 28, 3) := by decide +kernel
theorem dX3_stand_24 : decode cX3_stand 24 = .ok (.iload_n 1, 1) := by decide +kernel
theorem dX3_stand_25 : decode cX3_stand 25 = .ok (.iconst 1, 1) := by decide +kernel
theorem dX3_stand_26 : decode cX3_stand 26 = .ok (.iastore, 1) := by decide +kernel
theorem dX3_stand_27 : decode cX3_stand 27 = .ok (.aload_n 0, 1) := by decide +kernel
theorem dX3_stand_28 : decode cX3_stand 28 = .ok (.getfield 25, 3) := by decide +kernel
theorem dX3_stand_31 : decode cX3_stand 31 = .ok (.iload_n 1, 1) := by decide +kernel
theorem dX3_stand_32 : decode cX3_stand 32 = .ok (.iload_n 1, 1) := by decide +kernel
theorem dX3_stand_33 : decode cX3_stand 33 = .ok (.iastore, 1) := by decide +kernel
theorem dX3_stand_34 : decode cX3_stand 34 = .ok (.aload_n 0, 1) := by decide +kernel
theorem dX3_stand_35 : decode cX3_stand 35 = .ok (.getfield 19, 3) := by decide +kernel
theorem dX3_stand_38 : decode cX3_stand 38 = .ok (.iload_n 1, 1) := by decide +kernel
theorem dX3_stand_39 : decode cX3_stand 39 = .ok (.aload_n 0, 1) := by decide +kernel
theorem dX3_stand_40 : decode cX3_stand 40 = .ok (.getfield 15, 3) := by decide +kernel
theorem dX3_stand_43 : decode cX3_stand 43 = .ok (.iload_n 1, 1) := by decide +kernel
theorem dX3_stand_44 : decode cX3_stand 44 = .ok (.iaload, 1) := by decide +kernel
theorem dX3_stand_45 : decode cX3_stand 45 = .ok (.iastore, 1) := by decide +kernel
theorem dX3_stand_46 : decode cX3_stand 46 = .ok (.iconst 1, 1) := by decide +kernel
theorem dX3_stand_47 : decode cX3_stand 47 = .ok (.istore_n 2, 1) := by decide +kernel
theorem dX3_stand_48 : decode cX3_stand 48 = .ok (.iconst 0, 1) := by decide +kernel
theorem dX3_stand_49 : decode cX3_stand 49 = .ok (.istore_n 3, 1) := by decide +kernel
theorem dX3_stand_50 : decode cX3_stand 50 = .ok (.iload_n 3, 1) := by decide +kernel
theorem dX3_stand_51 : decode cX3_stand 51 = .ok (.aload_n 0, 1) := by decide +kernel
theorem dX3_stand_52 : decode cX3_stand 52 = .ok (.getfield 9, 3) := by decide +kernel
theorem dX3_stand_55 : decode cX3_stand 55 = .ok (.if_icmp .ge 113, 3) := by decide +kernel
theorem dX3_stand_58 : decode cX3_stand 58 = .ok (.aload_n 0, 1) := by decide +kernel
theorem dX3_stand_59 : decode cX3_stand 59 = .ok (.iload_n 1, 1) := by decide +kernel
theorem dX3_stand_60 : decode cX3_stand 60 = .ok (.iload_n 3, 1) := by decide +kernel
theorem dX3_stand_61 : decode cX3_stand 61 = .ok (.invokevirtual 79, 3) := by decide +kernel
theorem dX3_stand_64 : decode cX3_stand 64 = .ok (.ifCond .ne 6, 3) := by decide +kernel
theorem dX3_stand_67 : decode cX3_stand 67 = .ok (.goto 95, 3) := by decide +kernel
theorem dX3_stand_70 : decode cX3_stand 70 = .ok (.aload_n 0, 1) := by decide +kernel
theorem dX3_stand_71 : decode cX3_stand 71 = .ok (.getfield 22, 3) := by decide +kernel
theorem dX3_stand_74 : decode cX3_stand 74 = .ok (.iload_n 3, 1) := by decide +kernel
theorem dX3_stand_75 : decode cX3_stand 75 = .ok (.iaload, 1) := by decide +kernel
theorem dX3_stand_76 : decode cX3_stand 76 = .ok (.aload_n 0, 1) := by decide +kernel
theorem dX3_stand_77 : decode cX3_stand 77 = .ok (.getfield 22, 3) := by decide +kernel
theorem dX3_stand_80 : decode cX3_stand 80 = .ok (.iload_n 1, 1) := by decide +kernel
theorem dX3_stand_81 : decode cX3_stand 81 = .ok (.iaload, 1) := by decide +kernel
theorem dX3_stand_82 : decode cX3_stand 82 = .ok (.if_icmp .le 15, 3) := by decide +kernel
theorem dX3_stand_85 : decode cX3_stand 85 = .ok (.aload_n 0, 1) := by decide +kernel
theorem dX3_stand_86 : decode cX3_stand 86 = .ok (.iload_n 1, 1) := by decide +kernel
theorem dX3_stand_87 : decode cX3_stand 87 = .ok (.aload_n 0, 1) := by decide +kernel
theorem dX3_stand_88 : decode cX3_stand 88 = .ok (.getfield 22, 3) := by decide +kernel
theorem dX3_stand_91 : decode cX3_stand 91 = .ok (.iload_n 3, 1) := by decide +kernel
theorem dX3_stand_92 : decode cX3_stand 92 = .ok (.iaload, 1) := by decide +kernel
theorem dX3_stand_93 : decode cX3_stand 93 = .ok (.invokevirtual 83, 3) := by decide +kernel
theorem dX3_stand_96 : decode cX3_stand 96 = .ok (.return_, 1) := by decide +kernel
theorem dX3_stand_97 : decode cX3_stand 97 = .ok (.aload_n 0, 1) := by decide +kernel
theorem dX3_stand_98 : decode cX3_stand 98 = .ok (.iload_n 3, 1) := by decide +kernel
theorem dX3_stand_99 : decode cX3_stand 99 = .ok (.aload_n 0, 1) := by decide +kernel
theorem dX3_stand_100 : decode cX3_stand 100 = .ok (.getfield 22, 3) := by decide +kernel
theorem dX3_stand_103 : decode cX3_stand 103 = .ok (.iload_n 1, 1) := by decide +kernel
theorem dX3_stand_104 : decode cX3_stand 104 = .ok (.iaload, 1) := by decide +kernel
theorem dX3_stand_105 : decode cX3_stand 105 = .ok (.invokevirtual 83, 3) := by decide +kernel
theorem dX3_stand_108 : decode cX3_stand 108 = .ok (.aload_n 0, 1) := by decide +kernel
theorem dX3_stand_109 : decode cX3_stand 109 = .ok (.getfield 25, 3) := by decide +kernel
theorem dX3_stand_112 : decode cX3_stand 112 = .ok (.iload_n 3, 1) := by decide +kernel
theorem dX3_stand_113 : decode cX3_stand 113 = .ok (.iaload, 1) := by decide +kernel
theorem dX3_stand_114 : decode cX3_stand 114 = .ok (.iconst (-1), 1) := by decide +kernel
theorem dX3_stand_115 : decode cX3_stand 115 = .ok (.if_icmp .eq 13, 3) := by decide +kernel
theorem dX3_stand_118 : decode cX3_stand 118 = .ok (.aload_n 0, 1) := by decide +kernel
theorem dX3_stand_119 : decode cX3_stand 119 = .ok (.getfield 25, 3) := by decide +kernel
theorem dX3_stand_122 : decode cX3_stand 122 = .ok (.iload_n 3, 1) := by decide +kernel
theorem dX3_stand_123 : decode cX3_stand 123 = .ok (.iaload, 1) := by decide +kernel
theorem dX3_stand_124 : decode cX3_stand 124 = .ok (.iload_n 1, 1) := by decide +kernel
theorem dX3_stand_125 : decode cX3_stand 125 = .ok (.if_icmp .ne 37, 3) := by decide +kernel
theorem dX3_stand_128 : decode cX3_stand 128 = .ok (.aload_n 0, 1) := by decide +kernel
theorem dX3_stand_129 : decode cX3_stand 129 = .ok (.iload_n 1, 1) := by decide +kernel
theorem dX3_stand_130 : decode cX3_stand 130 = .ok (.iload_n 3, 1) := by decide +kernel
theorem dX3_stand_131 : decode cX3_stand 131 = .ok (.invokevirtual 87, 3) := by decide +kernel
theorem dX3_stand_134 : decode cX3_stand 134 = .ok (.ifCond .ne 6, 3) := by decide +kernel
theorem dX3_stand_137 : decode cX3_stand 137 = .ok (.goto 25, 3) := by decide +kernel
theorem dX3_stand_140 : decode cX3_stand 140 = .ok (.aload_n 0, 1) := by decide +kernel
theorem dX3_stand_141 : decode cX3_stand 141 = .ok (.getfield 25, 3) := by decide +kernel
theorem dX3_stand_144 : decode cX3_stand 144 = .ok (.iload_n 3, 1) := by decide +kernel
theorem dX3_stand_145 : decode cX3_stand 145 = .ok (.iload_n 1, 1) := by decide +kernel
theorem dX3_stand_146 : decode cX3_stand 146 = .ok (.iastore, 1) := by decide +kernel
theorem dX3_stand_147 : decode cX3_stand 147 = .ok (.aload_n 0, 1) := by decide +kernel
theorem dX3_stand_148 : decode cX3_stand 148 = .ok (.getfield 19, 3) := by decide +kernel
theorem dX3_stand_151 : decode cX3_stand 151 = .ok (.iload_n 3, 1) := by decide +kernel
theorem dX3_stand_152 : decode cX3_stand 152 = .ok (.aload_n 0, 1) := by decide +kernel
theorem dX3_stand_153 : decode cX3_stand 153 = .ok (.getfield 15, 3) := by decide +kernel
theorem dX3_stand_156 : decode cX3_stand 156 = .ok (.iload_n 3, 1) := by decide +kernel
theorem dX3_stand_157 : decode cX3_stand 157 = .ok (.iaload, 1) := by decide +kernel
theorem dX3_stand_158 : decode cX3_stand 158 = .ok (.iastore, 1) := by decide +kernel
theorem dX3_stand_159 : decode cX3_stand 159 = .ok (.iinc 2 1, 3) := by decide +kernel
theorem dX3_stand_162 : decode cX3_stand 162 = .ok (.iinc 3 1, 3) := by decide +kernel
theorem dX3_stand_165 : decode cX3_stand 165 = .ok (.goto (-115), 3) := by decide +kernel
theorem dX3_stand_168 : decode cX3_stand 168 = .ok (.aload_n 0, 1) := by decide +kernel
theorem dX3_stand_169 : decode cX3_stand 169 = .ok (.iload_n 2, 1) := by decide +kernel
theorem dX3_stand_170 : decode cX3_stand 170 = .ok (.invokevirtual 90, 3) := by decide +kernel
theorem dX3_stand_173 : decode cX3_stand 173 = .ok (.ifCond .ne 4, 3) := by decide +kernel
theorem dX3_stand_176 : decode cX3_stand 176 = .ok (.return_, 1) := by decide +kernel
theorem dX3_stand_177 : decode cX3_stand 177 = .ok (.aload_n 0, 1) := by decide +kernel
theorem dX3_stand_178 : decode cX3_stand 178 = .ok (.getfield 28, 3) := by decide +kernel
theorem dX3_stand_181 : decode cX3_stand 181 = .ok (.iload_n 1, 1) := by decide +kernel
theorem dX3_stand_182 : decode cX3_stand 182 = .ok (.iconst 2, 1) := by decide +kernel
theorem dX3_stand_183 : decode cX3_stand 183 = .ok (.iastore, 1) := by decide +kernel
theorem dX3_stand_184 : decode cX3_stand 184 = .ok (.aload_n 0, 1) := by decide +kernel
theorem dX3_stand_185 : decode cX3_stand 185 = .ok (.dup, 1) := by decide +kernel
theorem dX3_stand_186 : decode cX3_stand 186 = .ok (.getfield 59, 3) := by decide +kernel
theorem dX3_stand_189 : decode cX3_stand 189 = .ok (.iconst 1, 1) := by decide +kernel
theorem dX3_stand_190 : decode cX3_stand 190 = .ok (.iadd, 1) := by decide +kernel
theorem dX3_stand_191 : decode cX3_stand 191 = .ok (.putfield 59, 3) := by decide +kernel
theorem dX3_stand_194 : decode cX3_stand 194 = .ok (.return_, 1) := by decide +kernel
theorem dX3_takeFrom_0 : decode cX3_takeFrom 0 = .ok (.aload_n 0, 1) := by decide +kernel
theorem dX3_takeFrom_1 : decode cX3_takeFrom 1 = .ok (.iload_n 1, 1) := by decide +kernel
theorem dX3_takeFrom_2 : decode cX3_takeFrom 2 = .ok (.aload_n 0, 1) := by decide +kernel
theorem dX3_takeFrom_3 : decode cX3_takeFrom 3 = .ok (.getfield 22, 3) := by decide +kernel
theorem dX3_takeFrom_6 : decode cX3_takeFrom 6 = .ok (.iload_n 2, 1) := by decide +kernel
theorem dX3_takeFrom_7 : decode cX3_takeFrom 7 = .ok (.iaload, 1) := by decide +kernel
theorem dX3_takeFrom_8 : decode cX3_takeFrom 8 = .ok (.invokevirtual 83, 3) := by decide +kernel
theorem dX3_takeFrom_11 : decode cX3_takeFrom 11 = .ok (.aload_n 0, 1) := by decide +kernel
theorem dX3_takeFrom_12 : decode cX3_takeFrom 12 = .ok (.getfield 28, 3) := by decide +kernel
theorem dX3_takeFrom_15 : decode cX3_takeFrom 15 = .ok (.iload_n 1, 1) := by decide +kernel
theorem dX3_takeFrom_16 : decode cX3_takeFrom 16 = .ok (.iconst 0, 1) := by decide +kernel
theorem dX3_takeFrom_17 : decode cX3_takeFrom 17 = .ok (.iastore, 1) := by decide +kernel
theorem dX3_takeFrom_18 : decode cX3_takeFrom 18 = .ok (.aload_n 0, 1) := by decide +kernel
theorem dX3_takeFrom_19 : decode cX3_takeFrom 19 = .ok (.getfield 19, 3) := by decide +kernel
theorem dX3_takeFrom_22 : decode cX3_takeFrom 22 = .ok (.iload_n 1, 1) := by decide +kernel
theorem dX3_takeFrom_23 : decode cX3_takeFrom 23 = .ok (.aload_n 0, 1) := by decide +kernel
theorem dX3_takeFrom_24 : decode cX3_takeFrom 24 = .ok (.getfield 15, 3) := by decide +kernel
theorem dX3_takeFrom_27 : decode cX3_takeFrom 27 = .ok (.iload_n 1, 1) := by decide +kernel
theorem dX3_takeFrom_28 : decode cX3_takeFrom 28 = .ok (.iaload, 1) := by decide +kernel
theorem dX3_takeFrom_29 : decode cX3_takeFrom 29 = .ok (.iastore, 1) := by decide +kernel
theorem dX3_takeFrom_30 : decode cX3_takeFrom 30 = .ok (.aload_n 0, 1) := by decide +kernel
theorem dX3_takeFrom_31 : decode cX3_takeFrom 31 = .ok (.iload_n 2, 1) := by decide +kernel
theorem dX3_takeFrom_32 : decode cX3_takeFrom 32 = .ok (.iload_n 1, 1) := by decide +kernel
theorem dX3_takeFrom_33 : decode cX3_takeFrom 33 = .ok (.invokevirtual 94, 3) := by decide +kernel
theorem dX3_takeFrom_36 : decode cX3_takeFrom 36 = .ok (.istore_n 3, 1) := by decide +kernel
theorem dX3_takeFrom_37 : decode cX3_takeFrom 37 = .ok (.aload_n 0, 1) := by decide +kernel
theorem dX3_takeFrom_38 : decode cX3_takeFrom 38 = .ok (.getfield 37, 3) := by decide +kernel
theorem dX3_takeFrom_41 : decode cX3_takeFrom 41 = .ok (.iload_n 1, 1) := by decide +kernel
theorem dX3_takeFrom_42 : decode cX3_takeFrom 42 = .ok (.iaload, 1) := by decide +kernel
theorem dX3_takeFrom_43 : decode cX3_takeFrom 43 = .ok (.iload_n 3, 1) := by decide +kernel
theorem dX3_takeFrom_44 : decode cX3_takeFrom 44 = .ok (.if_icmp .le 26, 3) := by decide +kernel
theorem dX3_takeFrom_47 : decode cX3_takeFrom 47 = .ok (.aload_n 0, 1) := by decide +kernel
theorem dX3_takeFrom_48 : decode cX3_takeFrom 48 = .ok (.getfield 37, 3) := by decide +kernel
theorem dX3_takeFrom_51 : decode cX3_takeFrom 51 = .ok (.iload_n 1, 1) := by decide +kernel
theorem dX3_takeFrom_52 : decode cX3_takeFrom 52 = .ok (.dup2, 1) := by decide +kernel
theorem dX3_takeFrom_53 : decode cX3_takeFrom 53 = .ok (.iaload, 1) := by decide +kernel
theorem dX3_takeFrom_54 : decode cX3_takeFrom 54 = .ok (.iconst 1, 1) := by decide +kernel
theorem dX3_takeFrom_55 : decode cX3_takeFrom 55 = .ok (.isub, 1) := by decide +kernel
theorem dX3_takeFrom_56 : decode cX3_takeFrom 56 = .ok (.iastore, 1) := by decide +kernel
theorem dX3_takeFrom_57 : decode cX3_takeFrom 57 = .ok (.aload_n 0, 1) := by decide +kernel
theorem dX3_takeFrom_58 : decode cX3_takeFrom 58 = .ok (.dup, 1) := by decide +kernel
theorem dX3_takeFrom_59 : decode cX3_takeFrom 59 = .ok (.getfield 62, 3) := by decide +kernel
theorem dX3_takeFrom_62 : decode cX3_takeFrom 62 = .ok (.iconst 1, 1) := by decide +kernel
theorem dX3_takeFrom_63 : decode cX3_takeFrom 63 = .ok (.iadd, 1) := by decide +kernel
theorem dX3_takeFrom_64 : decode cX3_takeFrom 64 = .ok (.putfield 62, 3) := by decide +kernel
theorem dX3_takeFrom_67 : decode cX3_takeFrom 67 = .ok (.goto 40, 3) := by decide +kernel
theorem dX3_takeFrom_70 : decode cX3_takeFrom 70 = .ok (.aload_n 0, 1) := by decide +kernel
theorem dX3_takeFrom_71 : decode cX3_takeFrom 71 = .ok (.getfield 37, 3) := by decide +kernel
theorem dX3_takeFrom_74 : decode cX3_takeFrom 74 = .ok (.iload_n 2, 1) := by decide +kernel
theorem dX3_takeFrom_75 : decode cX3_takeFrom 75 = .ok (.iaload, 1) := by decide +kernel
theorem dX3_takeFrom_76 : decode cX3_takeFrom 76 = .ok (.iload_n 3, 1) := by decide +kernel
theorem dX3_takeFrom_77 : decode cX3_takeFrom 77 = .ok (.if_icmp .le 30, 3) := by decide +kernel
theorem dX3_takeFrom_80 : decode cX3_takeFrom 80 = .ok (.aload_n 0, 1) := by decide +kernel
theorem dX3_takeFrom_81 : decode cX3_takeFrom 81 = .ok (.iload_n 1, 1) := by decide +kernel
theorem dX3_takeFrom_82 : decode cX3_takeFrom 82 = .ok (.aload_n 0, 1) := by decide +kernel
theorem dX3_takeFrom_83 : decode cX3_takeFrom 83 = .ok (.getfield 43, 3) := by decide +kernel
theorem dX3_takeFrom_86 : decode cX3_takeFrom 86 = .ok (.bipush 10, 2) := by decide +kernel
theorem dX3_takeFrom_88 : decode cX3_takeFrom 88 = .ok (.iload_n 2, 1) := by decide +kernel
theorem dX3_takeFrom_89 : decode cX3_takeFrom 89 = .ok (.imul, 1) := by decide +kernel
theorem dX3_takeFrom_90 : decode cX3_takeFrom 90 = .ok (.iload_n 3, 1) := by decide +kernel
theorem dX3_takeFrom_91 : decode cX3_takeFrom 91 = .ok (.iadd, 1) := by decide +kernel
theorem dX3_takeFrom_92 : decode cX3_takeFrom 92 = .ok (.iaload, 1) := by decide +kernel
theorem dX3_takeFrom_93 : decode cX3_takeFrom 93 = .ok (.aload_n 0, 1) := by decide +kernel
theorem dX3_takeFrom_94 : decode cX3_takeFrom 94 = .ok (.getfield 46, 3) := by decide +kernel
theorem dX3_takeFrom_97 : decode cX3_takeFrom 97 = .ok (.bipush 10, 2) := by decide +kernel
theorem dX3_takeFrom_99 : decode cX3_takeFrom 99 = .ok (.iload_n 2, 1) := by decide +kernel
theorem dX3_takeFrom_100 : decode cX3_takeFrom 100 = .ok (.imul, 1) := by decide +kernel
theorem dX3_takeFrom_101 : decode cX3_takeFrom 101 = .ok (.iload_n 3, 1) := by decide +kernel
theorem dX3_takeFrom_102 : decode cX3_takeFrom 102 = .ok (.iadd, 1) := by decide +kernel
theorem dX3_takeFrom_103 : decode cX3_takeFrom 103 = .ok (.iaload, 1) := by decide +kernel
theorem dX3_takeFrom_104 : decode cX3_takeFrom 104 = .ok (.invokevirtual 98, 3) := by decide +kernel
theorem dX3_takeFrom_107 : decode cX3_takeFrom 107 = .ok (.aload_n 0, 1) := by decide +kernel
theorem dX3_takeFrom_108 : decode cX3_takeFrom 108 = .ok (.getfield 40, 3) := by decide +kernel
theorem dX3_takeFrom_111 : decode cX3_takeFrom 111 = .ok (.iload_n 1, 1) := by decide +kernel
theorem dX3_takeFrom_112 : decode cX3_takeFrom 112 = .ok (.aload_n 0, 1) := by decide +kernel
theorem dX3_takeFrom_113 : decode cX3_takeFrom 113 = .ok (.getfield 40, 3) := by decide +kernel
theorem dX3_takeFrom_116 : decode cX3_takeFrom 116 = .ok (.iload_n 1, 1) := by decide +kernel
theorem dX3_takeFrom_117 : decode cX3_takeFrom 117 = .ok (.iaload, 1) := by decide +kernel
theorem dX3_takeFrom_118 : decode cX3_takeFrom 118 = .ok (.aload_n 0, 1) := by decide +kernel
theorem dX3_takeFrom_119 : decode cX3_takeFrom 119 = .ok (.getfield 40, 3) := by decide +kernel
theorem dX3_takeFrom_122 : decode cX3_takeFrom 122 = .ok (.iload_n 2, 1) := by decide +kernel
theorem dX3_takeFrom_123 : decode cX3_takeFrom 123 = .ok (.iaload, 1) := by decide +kernel
theorem dX3_takeFrom_124 : decode cX3_takeFrom 124 = .ok (.aload_n 0, 1) := by decide +kernel
theorem dX3_takeFrom_125 : decode cX3_takeFrom 125 = .ok (.iload_n 2, 1) := by decide +kernel
theorem dX3_takeFrom_126 : decode cX3_takeFrom 126 = .ok (.iload_n 1, 1) := by decide +kernel
theorem dX3_takeFrom_127 : decode cX3_takeFrom 127 = .ok (.invokevirtual 94, 3) := by decide +kernel
theorem dX3_takeFrom_130 : decode cX3_takeFrom 130 = .ok (.invokestatic 102, 3) := by decide +kernel
theorem dX3_takeFrom_133 : decode cX3_takeFrom 133 = .ok (.invokestatic 107, 3) := by decide +kernel
theorem dX3_takeFrom_136 : decode cX3_takeFrom 136 = .ok (.iastore, 1) := by decide +kernel
theorem dX3_takeFrom_137 : decode cX3_takeFrom 137 = .ok (.return_, 1) := by decide +kernel
theorem dX3_tell_0 : decode cX3_tell 0 = .ok (.iconst 0, 1) := by decide +kernel
theorem dX3_tell_1 : decode cX3_tell 1 = .ok (.istore_n 2, 1) := by decide +kernel
theorem dX3_tell_2 : decode cX3_tell 2 = .ok (.iload_n 2, 1) := by decide +kernel
theorem dX3_tell_3 : decode cX3_tell 3 = .ok (.aload_n 0, 1) := by decide +kernel
theorem dX3_tell_4 : decode cX3_tell 4 = .ok (.getfield 9, 3) := by decide +kernel
theorem dX3_tell_7 : decode cX3_tell 7 = .ok (.if_icmp .ge 54, 3) := by decide +kernel
theorem dX3_tell_10 : decode cX3_tell 10 = .ok (.aload_n 0, 1) := by decide +kernel
theorem dX3_tell_11 : decode cX3_tell 11 = .ok (.iload_n 1, 1) := by decide +kernel
theorem dX3_tell_12 : decode cX3_tell 12 = .ok (.iload_n 2, 1) := by decide +kernel
theorem dX3_tell_13 : decode cX3_tell 13 = .ok (.invokevirtual 79, 3) := by decide +kernel
theorem dX3_tell_16 : decode cX3_tell 16 = .ok (.ifCond .ne 6, 3) := by decide +kernel
theorem dX3_tell_19 : decode cX3_tell 19 = .ok (.goto 36, 3) := by decide +kernel
theorem dX3_tell_22 : decode cX3_tell 22 = .ok (.aload_n 0, 1) := by decide +kernel
theorem dX3_tell_23 : decode cX3_tell 23 = .ok (.getfield 22, 3) := by decide +kernel
theorem dX3_tell_26 : decode cX3_tell 26 = .ok (.iload_n 2, 1) := by decide +kernel
theorem dX3_tell_27 : decode cX3_tell 27 = .ok (.iaload, 1) := by decide +kernel
theorem dX3_tell_28 : decode cX3_tell 28 = .ok (.aload_n 0, 1) := by decide +kernel
theorem dX3_tell_29 : decode cX3_tell 29 = .ok (.getfield 22, 3) := by decide +kernel
theorem dX3_tell_32 : decode cX3_tell 32 = .ok (.iload_n 1, 1) := by decide +kernel
theorem dX3_tell_33 : decode cX3_tell 33 = .ok (.iaload, 1) := by decide +kernel
theorem dX3_tell_34 : decode cX3_tell 34 = .ok (.if_icmp .le 15, 3) := by decide +kernel
theorem dX3_tell_37 : decode cX3_tell 37 = .ok (.aload_n 0, 1) := by decide +kernel
theorem dX3_tell_38 : decode cX3_tell 38 = .ok (.iload_n 1, 1) := by decide +kernel
theorem dX3_tell_39 : decode cX3_tell 39 = .ok (.aload_n 0, 1) := by decide +kernel
theorem dX3_tell_40 : decode cX3_tell 40 = .ok (.getfield 22, 3) := by decide +kernel
theorem dX3_tell_43 : decode cX3_tell 43 = .ok (.iload_n 2, 1) := by decide +kernel
theorem dX3_tell_44 : decode cX3_tell 44 = .ok (.iaload, 1) := by decide +kernel
theorem dX3_tell_45 : decode cX3_tell 45 = .ok (.invokevirtual 83, 3) := by decide +kernel
theorem dX3_tell_48 : decode cX3_tell 48 = .ok (.return_, 1) := by decide +kernel
theorem dX3_tell_49 : decode cX3_tell 49 = .ok (.aload_n 0, 1) := by decide +kernel
theorem dX3_tell_50 : decode cX3_tell 50 = .ok (.iload_n 2, 1) := by decide +kernel
theorem dX3_tell_51 : decode cX3_tell 51 = .ok (.iload_n 1, 1) := by decide +kernel
theorem dX3_tell_52 : decode cX3_tell 52 = .ok (.invokevirtual 110, 3) := by decide +kernel
theorem dX3_tell_55 : decode cX3_tell 55 = .ok (.iinc 2 1, 3) := by decide +kernel
theorem dX3_tell_58 : decode cX3_tell 58 = .ok (.goto (-56), 3) := by decide +kernel
theorem dX3_tell_61 : decode cX3_tell 61 = .ok (.return_, 1) := by decide +kernel
theorem dX3_commit_0 : decode cX3_commit 0 = .ok (.aload_n 0, 1) := by decide +kernel
theorem dX3_commit_1 : decode cX3_commit 1 = .ok (.getfield 37, 3) := by decide +kernel
theorem dX3_commit_4 : decode cX3_commit 4 = .ok (.iload_n 1, 1) := by decide +kernel
theorem dX3_commit_5 : decode cX3_commit 5 = .ok (.iaload, 1) := by decide +kernel
theorem dX3_commit_6 : decode cX3_commit 6 = .ok (.istore_n 2, 1) := by decide +kernel
theorem dX3_commit_7 : decode cX3_commit 7 = .ok (.iload_n 2, 1) := by decide +kernel
theorem dX3_commit_8 : decode cX3_commit 8 = .ok (.aload_n 0, 1) := by decide +kernel
theorem dX3_commit_9 : decode cX3_commit 9 = .ok (.getfield 40, 3) := by decide +kernel
theorem dX3_commit_12 : decode cX3_commit 12 = .ok (.iload_n 1, 1) := by decide +kernel
theorem dX3_commit_13 : decode cX3_commit 13 = .ok (.iaload, 1) := by decide +kernel
theorem dX3_commit_14 : decode cX3_commit 14 = .ok (.if_icmp .le 102, 3) := by decide +kernel
theorem dX3_commit_17 : decode cX3_commit 17 = .ok (.aload_n 0, 1) := by decide +kernel
theorem dX3_commit_18 : decode cX3_commit 18 = .ok (.getfield 43, 3) := by decide +kernel
theorem dX3_commit_21 : decode cX3_commit 21 = .ok (.bipush 10, 2) := by decide +kernel
theorem dX3_commit_23 : decode cX3_commit 23 = .ok (.iload_n 1, 1) := by decide +kernel
theorem dX3_commit_24 : decode cX3_commit 24 = .ok (.imul, 1) := by decide +kernel
theorem dX3_commit_25 : decode cX3_commit 25 = .ok (.iload_n 2, 1) := by decide +kernel
theorem dX3_commit_26 : decode cX3_commit 26 = .ok (.iadd, 1) := by decide +kernel
theorem dX3_commit_27 : decode cX3_commit 27 = .ok (.iconst 1, 1) := by decide +kernel
theorem dX3_commit_28 : decode cX3_commit 28 = .ok (.isub, 1) := by decide +kernel
theorem dX3_commit_29 : decode cX3_commit 29 = .ok (.iaload, 1) := by decide +kernel
theorem dX3_commit_30 : decode cX3_commit 30 = .ok (.aload_n 0, 1) := by decide +kernel
theorem dX3_commit_31 : decode cX3_commit 31 = .ok (.getfield 22, 3) := by decide +kernel
theorem dX3_commit_34 : decode cX3_commit 34 = .ok (.iload_n 1, 1) := by decide +kernel
theorem dX3_commit_35 : decode cX3_commit 35 = .ok (.iaload, 1) := by decide +kernel
theorem dX3_commit_36 : decode cX3_commit 36 = .ok (.if_icmp .eq 6, 3) := by decide +kernel
theorem dX3_commit_39 : decode cX3_commit 39 = .ok (.goto 71, 3) := by decide +kernel
theorem dX3_commit_42 : decode cX3_commit 42 = .ok (.iconst 1, 1) := by decide +kernel
theorem dX3_commit_43 : decode cX3_commit 43 = .ok (.istore_n 3, 1) := by decide +kernel
theorem dX3_commit_44 : decode cX3_commit 44 = .ok (.iconst 0, 1) := by decide +kernel
theorem dX3_commit_45 : decode cX3_commit 45 = .ok (.istore 4, 2) := by decide +kernel
theorem dX3_commit_47 : decode cX3_commit 47 = .ok (.iload 4, 2) := by decide +kernel
theorem dX3_commit_49 : decode cX3_commit 49 = .ok (.aload_n 0, 1) := by decide +kernel
theorem dX3_commit_50 : decode cX3_commit 50 = .ok (.getfield 9, 3) := by decide +kernel
theorem dX3_commit_53 : decode cX3_commit 53 = .ok (.if_icmp .ge 38, 3) := by decide +kernel
theorem dX3_commit_56 : decode cX3_commit 56 = .ok (.iload_n 3, 1) := by decide +kernel
theorem dX3_commit_57 : decode cX3_commit 57 = .ok (.aload_n 0, 1) := by decide +kernel
theorem dX3_commit_58 : decode cX3_commit 58 = .ok (.iload_n 1, 1) := by decide +kernel
theorem dX3_commit_59 : decode cX3_commit 59 = .ok (.iload 4, 2) := by decide +kernel
theorem dX3_commit_61 : decode cX3_commit 61 = .ok (.invokevirtual 79, 3) := by decide +kernel
theorem dX3_commit_64 : decode cX3_commit 64 = .ok (.ifCond .eq 18, 3) := by decide +kernel
theorem dX3_commit_67 : decode cX3_commit 67 = .ok (.aload_n 0, 1) := by decide +kernel
theorem dX3_commit_68 : decode cX3_commit 68 = .ok (.iload_n 1, 1) := by decide +kernel
theorem dX3_commit_69 : decode cX3_commit 69 = .ok (.iload 4, 2) := by decide +kernel
theorem dX3_commit_71 : decode cX3_commit 71 = .ok (.invokevirtual 94, 3) := by decide +kernel
theorem dX3_commit_74 : decode cX3_commit 74 = .ok (.iload_n 2, 1) := by decide +kernel
theorem dX3_commit_75 : decode cX3_commit 75 = .ok (.if_icmp .lt 7, 3) := by decide +kernel
theorem dX3_commit_78 : decode cX3_commit 78 = .ok (.iconst 1, 1) := by decide +kernel
theorem dX3_commit_79 : decode cX3_commit 79 = .ok (.goto 4, 3) := by decide +kernel
theorem dX3_commit_82 : decode cX3_commit 82 = .ok (.iconst 0, 1) := by decide +kernel
theorem dX3_commit_83 : decode cX3_commit 83 = .ok (.iadd, 1) := by decide +kernel
theorem dX3_commit_84 : decode cX3_commit 84 = .ok (.istore_n 3, 1) := by decide +kernel
theorem dX3_commit_85 : decode cX3_commit 85 = .ok (.iinc 4 1, 3) := by decide +kernel
theorem dX3_commit_88 : decode cX3_commit 88 = .ok (.goto (-41), 3) := by decide +kernel
theorem dX3_commit_91 : decode cX3_commit 91 = .ok (.aload_n 0, 1) := by decide +kernel
theorem dX3_commit_92 : decode cX3_commit 92 = .ok (.iload_n 3, 1) := by decide +kernel
theorem dX3_commit_93 : decode cX3_commit 93 = .ok (.invokevirtual 90, 3) := by decide +kernel
theorem dX3_commit_96 : decode cX3_commit 96 = .ok (.ifCond .ne 6, 3) := by decide +kernel
theorem dX3_commit_99 : decode cX3_commit 99 = .ok (.goto 11, 3) := by decide +kernel
theorem dX3_commit_102 : decode cX3_commit 102 = .ok (.aload_n 0, 1) := by decide +kernel
theorem dX3_commit_103 : decode cX3_commit 103 = .ok (.getfield 40, 3) := by decide +kernel
theorem dX3_commit_106 : decode cX3_commit 106 = .ok (.iload_n 1, 1) := by decide +kernel
theorem dX3_commit_107 : decode cX3_commit 107 = .ok (.iload_n 2, 1) := by decide +kernel
theorem dX3_commit_108 : decode cX3_commit 108 = .ok (.iastore, 1) := by decide +kernel
theorem dX3_commit_109 : decode cX3_commit 109 = .ok (.return_, 1) := by decide +kernel
theorem dX3_commit_110 : decode cX3_commit 110 = .ok (.iinc 2 (-1), 3) := by decide +kernel
theorem dX3_commit_113 : decode cX3_commit 113 = .ok (.goto (-106), 3) := by decide +kernel
theorem dX3_commit_116 : decode cX3_commit 116 = .ok (.return_, 1) := by decide +kernel
theorem dX3_pass_0 : decode cX3_pass 0 = .ok (.iconst 0, 1) := by decide +kernel
theorem dX3_pass_1 : decode cX3_pass 1 = .ok (.istore_n 1, 1) := by decide +kernel
theorem dX3_pass_2 : decode cX3_pass 2 = .ok (.iload_n 1, 1) := by decide +kernel
theorem dX3_pass_3 : decode cX3_pass 3 = .ok (.aload_n 0, 1) := by decide +kernel
theorem dX3_pass_4 : decode cX3_pass 4 = .ok (.getfield 9, 3) := by decide +kernel
theorem dX3_pass_7 : decode cX3_pass 7 = .ok (.if_icmp .ge 55, 3) := by decide +kernel
theorem dX3_pass_10 : decode cX3_pass 10 = .ok (.aload_n 0, 1) := by decide +kernel
theorem dX3_pass_11 : decode cX3_pass 11 = .ok (.getfield 34, 3) := by decide +kernel
theorem dX3_pass_14 : decode cX3_pass 14 = .ok (.iload_n 1, 1) := by decide +kernel
theorem dX3_pass_15 : decode cX3_pass 15 = .ok (.iaload, 1) := by decide +kernel
theorem dX3_pass_16 : decode cX3_pass 16 = .ok (.ifCond .eq 40, 3) := by decide +kernel
theorem dX3_pass_19 : decode cX3_pass 19 = .ok (.aload_n 0, 1) := by decide +kernel
theorem dX3_pass_20 : decode cX3_pass 20 = .ok (.getfield 28, 3) := by decide +kernel
theorem dX3_pass_23 : decode cX3_pass 23 = .ok (.iload_n 1, 1) := by decide +kernel
theorem dX3_pass_24 : decode cX3_pass 24 = .ok (.iaload, 1) := by decide +kernel
theorem dX3_pass_25 : decode cX3_pass 25 = .ok (.iconst 2, 1) := by decide +kernel
theorem dX3_pass_26 : decode cX3_pass 26 = .ok (.if_icmp .ne 6, 3) := by decide +kernel
theorem dX3_pass_29 : decode cX3_pass 29 = .ok (.goto 27, 3) := by decide +kernel
theorem dX3_pass_32 : decode cX3_pass 32 = .ok (.aload_n 0, 1) := by decide +kernel
theorem dX3_pass_33 : decode cX3_pass 33 = .ok (.getfield 19, 3) := by decide +kernel
theorem dX3_pass_36 : decode cX3_pass 36 = .ok (.iload_n 1, 1) := by decide +kernel
theorem dX3_pass_37 : decode cX3_pass 37 = .ok (.dup2, 1) := by decide +kernel
theorem dX3_pass_38 : decode cX3_pass 38 = .ok (.iaload, 1) := by decide +kernel
theorem dX3_pass_39 : decode cX3_pass 39 = .ok (.iconst 1, 1) := by decide +kernel
theorem dX3_pass_40 : decode cX3_pass 40 = .ok (.isub, 1) := by decide +kernel
theorem dX3_pass_41 : decode cX3_pass 41 = .ok (.iastore, 1) := by decide +kernel
theorem dX3_pass_42 : decode cX3_pass 42 = .ok (.aload_n 0, 1) := by decide +kernel
theorem dX3_pass_43 : decode cX3_pass 43 = .ok (.getfield 19, 3) := by decide +kernel
theorem dX3_pass_46 : decode cX3_pass 46 = .ok (.iload_n 1, 1) := by decide +kernel
theorem dX3_pass_47 : decode cX3_pass 47 = .ok (.iaload, 1) := by decide +kernel
theorem dX3_pass_48 : decode cX3_pass 48 = .ok (.ifCond .ne 8, 3) := by decide +kernel
theorem dX3_pass_51 : decode cX3_pass 51 = .ok (.aload_n 0, 1) := by decide +kernel
theorem dX3_pass_52 : decode cX3_pass 52 = .ok (.iload_n 1, 1) := by decide +kernel
theorem dX3_pass_53 : decode cX3_pass 53 = .ok (.invokevirtual 113, 3) := by decide +kernel
theorem dX3_pass_56 : decode cX3_pass 56 = .ok (.iinc 1 1, 3) := by decide +kernel
theorem dX3_pass_59 : decode cX3_pass 59 = .ok (.goto (-57), 3) := by decide +kernel
theorem dX3_pass_62 : decode cX3_pass 62 = .ok (.iconst 0, 1) := by decide +kernel
theorem dX3_pass_63 : decode cX3_pass 63 = .ok (.istore_n 1, 1) := by decide +kernel
theorem dX3_pass_64 : decode cX3_pass 64 = .ok (.iload_n 1, 1) := by decide +kernel
theorem dX3_pass_65 : decode cX3_pass 65 = .ok (.aload_n 0, 1) := by decide +kernel
theorem dX3_pass_66 : decode cX3_pass 66 = .ok (.getfield 9, 3) := by decide +kernel
theorem dX3_pass_69 : decode cX3_pass 69 = .ok (.if_icmp .ge 23, 3) := by decide +kernel
theorem dX3_pass_72 : decode cX3_pass 72 = .ok (.aload_n 0, 1) := by decide +kernel
theorem dX3_pass_73 : decode cX3_pass 73 = .ok (.iload_n 1, 1) := by decide +kernel
theorem dX3_pass_74 : decode cX3_pass 74 = .ok (.iconst 2, 1) := by decide +kernel
theorem dX3_pass_75 : decode cX3_pass 75 = .ok (.invokevirtual 116, 3) := by decide +kernel
theorem dX3_pass_78 : decode cX3_pass 78 = .ok (.ifCond .eq 8, 3) := by decide +kernel
theorem dX3_pass_81 : decode cX3_pass 81 = .ok (.aload_n 0, 1) := by decide +kernel
theorem dX3_pass_82 : decode cX3_pass 82 = .ok (.iload_n 1, 1) := by decide +kernel
theorem dX3_pass_83 : decode cX3_pass 83 = .ok (.invokevirtual 119, 3) := by decide +kernel
theorem dX3_pass_86 : decode cX3_pass 86 = .ok (.iinc 1 1, 3) := by decide +kernel
theorem dX3_pass_89 : decode cX3_pass 89 = .ok (.goto (-25), 3) := by decide +kernel
theorem dX3_pass_92 : decode cX3_pass 92 = .ok (.iconst 0, 1) := by decide +kernel
theorem dX3_pass_93 : decode cX3_pass 93 = .ok (.istore_n 1, 1) := by decide +kernel
theorem dX3_pass_94 : decode cX3_pass 94 = .ok (.iload_n 1, 1) := by decide +kernel
theorem dX3_pass_95 : decode cX3_pass 95 = .ok (.aload_n 0, 1) := by decide +kernel
theorem dX3_pass_96 : decode cX3_pass 96 = .ok (.getfield 9, 3) := by decide +kernel
theorem dX3_pass_99 : decode cX3_pass 99 = .ok (.if_icmp .ge 23, 3) := by decide +kernel
theorem dX3_pass_102 : decode cX3_pass 102 = .ok (.aload_n 0, 1) := by decide +kernel
theorem dX3_pass_103 : decode cX3_pass 103 = .ok (.iload_n 1, 1) := by decide +kernel
theorem dX3_pass_104 : decode cX3_pass 104 = .ok (.iconst 2, 1) := by decide +kernel
theorem dX3_pass_105 : decode cX3_pass 105 = .ok (.invokevirtual 116, 3) := by decide +kernel
theorem dX3_pass_108 : decode cX3_pass 108 = .ok (.ifCond .eq 8, 3) := by decide +kernel
theorem dX3_pass_111 : decode cX3_pass 111 = .ok (.aload_n 0, 1) := by decide +kernel
theorem dX3_pass_112 : decode cX3_pass 112 = .ok (.iload_n 1, 1) := by decide +kernel
theorem dX3_pass_113 : decode cX3_pass 113 = .ok (.invokevirtual 122, 3) := by decide +kernel
theorem dX3_pass_116 : decode cX3_pass 116 = .ok (.iinc 1 1, 3) := by decide +kernel
theorem dX3_pass_119 : decode cX3_pass 119 = .ok (.goto (-25), 3) := by decide +kernel
theorem dX3_pass_122 : decode cX3_pass 122 = .ok (.aload_n 0, 1) := by decide +kernel
theorem dX3_pass_123 : decode cX3_pass 123 = .ok (.dup, 1) := by decide +kernel
theorem dX3_pass_124 : decode cX3_pass 124 = .ok (.getfield 53, 3) := by decide +kernel
theorem dX3_pass_127 : decode cX3_pass 127 = .ok (.iconst 1, 1) := by decide +kernel
theorem dX3_pass_128 : decode cX3_pass 128 = .ok (.iadd, 1) := by decide +kernel
theorem dX3_pass_129 : decode cX3_pass 129 = .ok (.putfield 53, 3) := by decide +kernel
theorem dX3_pass_132 : decode cX3_pass 132 = .ok (.return_, 1) := by decide +kernel
theorem dX3_passOn_0 : decode cX3_passOn 0 = .ok (.iconst 0, 1) := by decide +kernel
theorem dX3_passOn_1 : decode cX3_passOn 1 = .ok (.istore_n 2, 1) := by decide +kernel
theorem dX3_passOn_2 : decode cX3_passOn 2 = .ok (.iload_n 2, 1) := by decide +kernel
theorem dX3_passOn_3 : decode cX3_passOn 3 = .ok (.iload_n 1, 1) := by decide +kernel
theorem dX3_passOn_4 : decode cX3_passOn 4 = .ok (.if_icmp .ge 13, 3) := by decide +kernel
theorem dX3_passOn_7 : decode cX3_passOn 7 = .ok (.aload_n 0, 1) := by decide +kernel
theorem dX3_passOn_8 : decode cX3_passOn 8 = .ok (.invokevirtual 125, 3) := by decide +kernel
theorem dX3_passOn_11 : decode cX3_passOn 11 = .ok (.iinc 2 1, 3) := by decide +kernel
theorem dX3_passOn_14 : decode cX3_passOn 14 = .ok (.goto (-12), 3) := by decide +kernel
theorem dX3_passOn_17 : decode cX3_passOn 17 = .ok (.return_, 1) := by decide +kernel
theorem dX3_counted_0 : decode cX3_counted 0 = .ok (.iconst 0, 1) := by decide +kernel
theorem dX3_counted_1 : decode cX3_counted 1 = .ok (.istore_n 2, 1) := by decide +kernel
theorem dX3_counted_2 : decode cX3_counted 2 = .ok (.iconst 0, 1) := by decide +kernel
theorem dX3_counted_3 : decode cX3_counted 3 = .ok (.istore_n 3, 1) := by decide +kernel
theorem dX3_counted_4 : decode cX3_counted 4 = .ok (.bipush 10, 2) := by decide +kernel
theorem dX3_counted_6 : decode cX3_counted 6 = .ok (.istore 4, 2) := by decide +kernel
theorem dX3_counted_8 : decode cX3_counted 8 = .ok (.iconst 0, 1) := by decide +kernel
theorem dX3_counted_9 : decode cX3_counted 9 = .ok (.istore 5, 2) := by decide +kernel
theorem dX3_counted_11 : decode cX3_counted 11 = .ok (.iconst 0, 1) := by decide +kernel
theorem dX3_counted_12 : decode cX3_counted 12 = .ok (.istore 6, 2) := by decide +kernel
theorem dX3_counted_14 : decode cX3_counted 14 = .ok (.iconst 0, 1) := by decide +kernel
theorem dX3_counted_15 : decode cX3_counted 15 = .ok (.istore 7, 2) := by decide +kernel
theorem dX3_counted_17 : decode cX3_counted 17 = .ok (.iload 7, 2) := by decide +kernel
theorem dX3_counted_19 : decode cX3_counted 19 = .ok (.aload_n 0, 1) := by decide +kernel
theorem dX3_counted_20 : decode cX3_counted 20 = .ok (.getfield 9, 3) := by decide +kernel
theorem dX3_counted_23 : decode cX3_counted 23 = .ok (.if_icmp .ge 79, 3) := by decide +kernel
theorem dX3_counted_26 : decode cX3_counted 26 = .ok (.iload_n 2, 1) := by decide +kernel
theorem dX3_counted_27 : decode cX3_counted 27 = .ok (.aload_n 0, 1) := by decide +kernel
theorem dX3_counted_28 : decode cX3_counted 28 = .ok (.getfield 34, 3) := by decide +kernel
theorem dX3_counted_31 : decode cX3_counted 31 = .ok (.iload 7, 2) := by decide +kernel
theorem dX3_counted_33 : decode cX3_counted 33 = .ok (.iaload, 1) := by decide +kernel
theorem dX3_counted_34 : decode cX3_counted 34 = .ok (.iadd, 1) := by decide +kernel
theorem dX3_counted_35 : decode cX3_counted 35 = .ok (.istore_n 2, 1) := by decide +kernel
theorem dX3_counted_36 : decode cX3_counted 36 = .ok (.iload 6, 2) := by decide +kernel
theorem dX3_counted_38 : decode cX3_counted 38 = .ok (.aload_n 0, 1) := by decide +kernel
theorem dX3_counted_39 : decode cX3_counted 39 = .ok (.iload 7, 2) := by decide +kernel
theorem dX3_counted_41 : decode cX3_counted 41 = .ok (.iconst 2, 1) := by decide +kernel
theorem dX3_counted_42 : decode cX3_counted 42 = .ok (.invokevirtual 116, 3) := by decide +kernel
theorem dX3_counted_45 : decode cX3_counted 45 = .ok (.ifCond .eq 7, 3) := by decide +kernel
theorem dX3_counted_48 : decode cX3_counted 48 = .ok (.iconst 1, 1) := by decide +kernel
theorem dX3_counted_49 : decode cX3_counted 49 = .ok (.goto 4, 3) := by decide +kernel
theorem dX3_counted_52 : decode cX3_counted 52 = .ok (.iconst 0, 1) := by decide +kernel
theorem dX3_counted_53 : decode cX3_counted 53 = .ok (.iadd, 1) := by decide +kernel
theorem dX3_counted_54 : decode cX3_counted 54 = .ok (.istore 6, 2) := by decide +kernel
theorem dX3_counted_56 : decode cX3_counted 56 = .ok (.iload 5, 2) := by decide +kernel
theorem dX3_counted_58 : decode cX3_counted 58 = .ok (.aload_n 0, 1) := by decide +kernel
theorem dX3_counted_59 : decode cX3_counted 59 = .ok (.getfield 22, 3) := by decide +kernel
theorem dX3_counted_62 : decode cX3_counted 62 = .ok (.iload 7, 2) := by decide +kernel
theorem dX3_counted_64 : decode cX3_counted 64 = .ok (.iaload, 1) := by decide +kernel
theorem dX3_counted_65 : decode cX3_counted 65 = .ok (.invokestatic 107, 3) := by decide +kernel
theorem dX3_counted_68 : decode cX3_counted 68 = .ok (.istore 5, 2) := by decide +kernel
theorem dX3_counted_70 : decode cX3_counted 70 = .ok (.iload_n 3, 1) := by decide +kernel
theorem dX3_counted_71 : decode cX3_counted 71 = .ok (.aload_n 0, 1) := by decide +kernel
theorem dX3_counted_72 : decode cX3_counted 72 = .ok (.getfield 40, 3) := by decide +kernel
theorem dX3_counted_75 : decode cX3_counted 75 = .ok (.iload 7, 2) := by decide +kernel
theorem dX3_counted_77 : decode cX3_counted 77 = .ok (.iaload, 1) := by decide +kernel
theorem dX3_counted_78 : decode cX3_counted 78 = .ok (.invokestatic 107, 3) := by decide +kernel
theorem dX3_counted_81 : decode cX3_counted 81 = .ok (.istore_n 3, 1) := by decide +kernel
theorem dX3_counted_82 : decode cX3_counted 82 = .ok (.iload 4, 2) := by decide +kernel
theorem dX3_counted_84 : decode cX3_counted 84 = .ok (.aload_n 0, 1) := by decide +kernel
theorem dX3_counted_85 : decode cX3_counted 85 = .ok (.getfield 40, 3) := by decide +kernel
theorem dX3_counted_88 : decode cX3_counted 88 = .ok (.iload 7, 2) := by decide +kernel
theorem dX3_counted_90 : decode cX3_counted 90 = .ok (.iaload, 1) := by decide +kernel
theorem dX3_counted_91 : decode cX3_counted 91 = .ok (.invokestatic 102, 3) := by decide +kernel
theorem dX3_counted_94 : decode cX3_counted 94 = .ok (.istore 4, 2) := by decide +kernel
theorem dX3_counted_96 : decode cX3_counted 96 = .ok (.iinc 7 1, 3) := by decide +kernel
theorem dX3_counted_99 : decode cX3_counted 99 = .ok (.goto (-82), 3) := by decide +kernel
theorem dX3_counted_102 : decode cX3_counted 102 = .ok (.iload_n 1, 1) := by decide +kernel
theorem dX3_counted_103 : decode cX3_counted 103 = .ok (.tableswitch 84 0 8 #[49, 54, 59, 61, 64, 67, 72, 77, 82], 49) := by decide +kernel
theorem dX3_counted_152 : decode cX3_counted 152 = .ok (.aload_n 0, 1) := by decide +kernel
theorem dX3_counted_153 : decode cX3_counted 153 = .ok (.getfield 53, 3) := by decide +kernel
theorem dX3_counted_156 : decode cX3_counted 156 = .ok (.ireturn, 1) := by decide +kernel
theorem dX3_counted_157 : decode cX3_counted 157 = .ok (.aload_n 0, 1) := by decide +kernel
theorem dX3_counted_158 : decode cX3_counted 158 = .ok (.getfield 9, 3) := by decide +kernel
theorem dX3_counted_161 : decode cX3_counted 161 = .ok (.ireturn, 1) := by decide +kernel
theorem dX3_counted_162 : decode cX3_counted 162 = .ok (.iload_n 2, 1) := by decide +kernel
theorem dX3_counted_163 : decode cX3_counted 163 = .ok (.ireturn, 1) := by decide +kernel
theorem dX3_counted_164 : decode cX3_counted 164 = .ok (.iload 6, 2) := by decide +kernel
theorem dX3_counted_166 : decode cX3_counted 166 = .ok (.ireturn, 1) := by decide +kernel
theorem dX3_counted_167 : decode cX3_counted 167 = .ok (.iload 5, 2) := by decide +kernel
theorem dX3_counted_169 : decode cX3_counted 169 = .ok (.ireturn, 1) := by decide +kernel
theorem dX3_counted_170 : decode cX3_counted 170 = .ok (.aload_n 0, 1) := by decide +kernel
theorem dX3_counted_171 : decode cX3_counted 171 = .ok (.getfield 56, 3) := by decide +kernel
theorem dX3_counted_174 : decode cX3_counted 174 = .ok (.ireturn, 1) := by decide +kernel
theorem dX3_counted_175 : decode cX3_counted 175 = .ok (.aload_n 0, 1) := by decide +kernel
theorem dX3_counted_176 : decode cX3_counted 176 = .ok (.getfield 59, 3) := by decide +kernel
theorem dX3_counted_179 : decode cX3_counted 179 = .ok (.ireturn, 1) := by decide +kernel
theorem dX3_counted_180 : decode cX3_counted 180 = .ok (.aload_n 0, 1) := by decide +kernel
theorem dX3_counted_181 : decode cX3_counted 181 = .ok (.getfield 62, 3) := by decide +kernel
theorem dX3_counted_184 : decode cX3_counted 184 = .ok (.ireturn, 1) := by decide +kernel
theorem dX3_counted_185 : decode cX3_counted 185 = .ok (.iload_n 3, 1) := by decide +kernel
theorem dX3_counted_186 : decode cX3_counted 186 = .ok (.ireturn, 1) := by decide +kernel
theorem dX3_counted_187 : decode cX3_counted 187 = .ok (.iload 4, 2) := by decide +kernel
theorem dX3_counted_189 : decode cX3_counted 189 = .ok (.ireturn, 1) := by decide +kernel
theorem dX3_isLed_0 : decode cX3_isLed 0 = .ok (.iconst 0, 1) := by decide +kernel
theorem dX3_isLed_1 : decode cX3_isLed 1 = .ok (.istore_n 1, 1) := by decide +kernel
theorem dX3_isLed_2 : decode cX3_isLed 2 = .ok (.iload_n 1, 1) := by decide +kernel
theorem dX3_isLed_3 : decode cX3_isLed 3 = .ok (.aload_n 0, 1) := by decide +kernel
theorem dX3_isLed_4 : decode cX3_isLed 4 = .ok (.getfield 9, 3) := by decide +kernel
theorem dX3_isLed_7 : decode cX3_isLed 7 = .ok (.if_icmp .ge 66, 3) := by decide +kernel
theorem dX3_isLed_10 : decode cX3_isLed 10 = .ok (.aload_n 0, 1) := by decide +kernel
theorem dX3_isLed_11 : decode cX3_isLed 11 = .ok (.iload_n 1, 1) := by decide +kernel
theorem dX3_isLed_12 : decode cX3_isLed 12 = .ok (.iconst 2, 1) := by decide +kernel
theorem dX3_isLed_13 : decode cX3_isLed 13 = .ok (.invokevirtual 116, 3) := by decide +kernel
theorem dX3_isLed_16 : decode cX3_isLed 16 = .ok (.ifCond .ne 6, 3) := by decide +kernel
theorem dX3_isLed_19 : decode cX3_isLed 19 = .ok (.goto 48, 3) := by decide +kernel
theorem dX3_isLed_22 : decode cX3_isLed 22 = .ok (.iconst 1, 1) := by decide +kernel
theorem dX3_isLed_23 : decode cX3_isLed 23 = .ok (.istore_n 2, 1) := by decide +kernel
theorem dX3_isLed_24 : decode cX3_isLed 24 = .ok (.iconst 0, 1) := by decide +kernel
theorem dX3_isLed_25 : decode cX3_isLed 25 = .ok (.istore_n 3, 1) := by decide +kernel
theorem dX3_isLed_26 : decode cX3_isLed 26 = .ok (.iload_n 3, 1) := by decide +kernel
theorem dX3_isLed_27 : decode cX3_isLed 27 = .ok (.aload_n 0, 1) := by decide +kernel
theorem dX3_isLed_28 : decode cX3_isLed 28 = .ok (.getfield 9, 3) := by decide +kernel
theorem dX3_isLed_31 : decode cX3_isLed 31 = .ok (.if_icmp .ge 26, 3) := by decide +kernel
theorem dX3_isLed_34 : decode cX3_isLed 34 = .ok (.iload_n 2, 1) := by decide +kernel
theorem dX3_isLed_35 : decode cX3_isLed 35 = .ok (.aload_n 0, 1) := by decide +kernel
theorem dX3_isLed_36 : decode cX3_isLed 36 = .ok (.iload_n 1, 1) := by decide +kernel
theorem dX3_isLed_37 : decode cX3_isLed 37 = .ok (.iload_n 3, 1) := by decide +kernel
theorem dX3_isLed_38 : decode cX3_isLed 38 = .ok (.invokevirtual 79, 3) := by decide +kernel
theorem dX3_isLed_41 : decode cX3_isLed 41 = .ok (.ifCond .eq 7, 3) := by decide +kernel
theorem dX3_isLed_44 : decode cX3_isLed 44 = .ok (.iconst 1, 1) := by decide +kernel
theorem dX3_isLed_45 : decode cX3_isLed 45 = .ok (.goto 4, 3) := by decide +kernel
theorem dX3_isLed_48 : decode cX3_isLed 48 = .ok (.iconst 0, 1) := by decide +kernel
theorem dX3_isLed_49 : decode cX3_isLed 49 = .ok (.iadd, 1) := by decide +kernel
theorem dX3_isLed_50 : decode cX3_isLed 50 = .ok (.istore_n 2, 1) := by decide +kernel
theorem dX3_isLed_51 : decode cX3_isLed 51 = .ok (.iinc 3 1, 3) := by decide +kernel
theorem dX3_isLed_54 : decode cX3_isLed 54 = .ok (.goto (-28), 3) := by decide +kernel
theorem dX3_isLed_57 : decode cX3_isLed 57 = .ok (.aload_n 0, 1) := by decide +kernel
theorem dX3_isLed_58 : decode cX3_isLed 58 = .ok (.iload_n 2, 1) := by decide +kernel
theorem dX3_isLed_59 : decode cX3_isLed 59 = .ok (.invokevirtual 90, 3) := by decide +kernel
theorem dX3_isLed_62 : decode cX3_isLed 62 = .ok (.ifCond .eq 5, 3) := by decide +kernel
theorem dX3_isLed_65 : decode cX3_isLed 65 = .ok (.iconst 1, 1) := by decide +kernel
theorem dX3_isLed_66 : decode cX3_isLed 66 = .ok (.ireturn, 1) := by decide +kernel
theorem dX3_isLed_67 : decode cX3_isLed 67 = .ok (.iinc 1 1, 3) := by decide +kernel
theorem dX3_isLed_70 : decode cX3_isLed 70 = .ok (.goto (-68), 3) := by decide +kernel
theorem dX3_isLed_73 : decode cX3_isLed 73 = .ok (.iconst 0, 1) := by decide +kernel
theorem dX3_isLed_74 : decode cX3_isLed 74 = .ok (.ireturn, 1) := by decide +kernel
