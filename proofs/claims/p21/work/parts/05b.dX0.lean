theorem dX0_init_0 : decode cX0_init 0 = .ok (.aload_n 0, 1) := by decide +kernel
theorem dX0_init_1 : decode cX0_init 1 = .ok (.invokespecial 3, 3) := by decide +kernel
theorem dX0_init_4 : decode cX0_init 4 = .ok (.aload_n 0, 1) := by decide +kernel
theorem dX0_init_5 : decode cX0_init 5 = .ok (.bipush 7, 2) := by decide +kernel
theorem dX0_init_7 : decode cX0_init 7 = .ok (.newarray .int, 2) := by decide +kernel
theorem dX0_init_9 : decode cX0_init 9 = .ok (.putfield 9, 3) := by decide +kernel
theorem dX0_init_12 : decode cX0_init 12 = .ok (.aload_n 0, 1) := by decide +kernel
theorem dX0_init_13 : decode cX0_init 13 = .ok (.bipush 7, 2) := by decide +kernel
theorem dX0_init_15 : decode cX0_init 15 = .ok (.newarray .int, 2) := by decide +kernel
theorem dX0_init_17 : decode cX0_init 17 = .ok (.putfield 15, 3) := by decide +kernel
theorem dX0_init_20 : decode cX0_init 20 = .ok (.aload_n 0, 1) := by decide +kernel
theorem dX0_init_21 : decode cX0_init 21 = .ok (.bipush 7, 2) := by decide +kernel
theorem dX0_init_23 : decode cX0_init 23 = .ok (.newarray .int, 2) := by decide +kernel
theorem dX0_init_25 : decode cX0_init 25 = .ok (.putfield 18, 3) := by decide +kernel
theorem dX0_init_28 : decode cX0_init 28 = .ok (.aload_n 0, 1) := by decide +kernel
theorem dX0_init_29 : decode cX0_init 29 = .ok (.bipush 7, 2) := by decide +kernel
theorem dX0_init_31 : decode cX0_init 31 = .ok (.newarray .int, 2) := by decide +kernel
theorem dX0_init_33 : decode cX0_init 33 = .ok (.putfield 21, 3) := by decide +kernel
theorem dX0_init_36 : decode cX0_init 36 = .ok (.aload_n 0, 1) := by decide +kernel
theorem dX0_init_37 : decode cX0_init 37 = .ok (.bipush 7, 2) := by decide +kernel
theorem dX0_init_39 : decode cX0_init 39 = .ok (.newarray .int, 2) := by decide +kernel
theorem dX0_init_41 : decode cX0_init 41 = .ok (.putfield 24, 3) := by decide +kernel
theorem dX0_init_44 : decode cX0_init 44 = .ok (.aload_n 0, 1) := by decide +kernel
theorem dX0_init_45 : decode cX0_init 45 = .ok (.bipush 7, 2) := by decide +kernel
theorem dX0_init_47 : decode cX0_init 47 = .ok (.newarray .int, 2) := by decide +kernel
theorem dX0_init_49 : decode cX0_init 49 = .ok (.putfield 27, 3) := by decide +kernel
theorem dX0_init_52 : decode cX0_init 52 = .ok (.aload_n 0, 1) := by decide +kernel
theorem dX0_init_53 : decode cX0_init 53 = .ok (.bipush 7, 2) := by decide +kernel
theorem dX0_init_55 : decode cX0_init 55 = .ok (.newarray .boolean, 2) := by decide +kernel
theorem dX0_init_57 : decode cX0_init 57 = .ok (.putfield 30, 3) := by decide +kernel
theorem dX0_init_60 : decode cX0_init 60 = .ok (.aload_n 0, 1) := by decide +kernel
theorem dX0_init_61 : decode cX0_init 61 = .ok (.new 34, 3) := by decide +kernel
theorem dX0_init_64 : decode cX0_init 64 = .ok (.dup, 1) := by decide +kernel
theorem dX0_init_65 : decode cX0_init 65 = .ok (.invokespecial 36, 3) := by decide +kernel
theorem dX0_init_68 : decode cX0_init 68 = .ok (.putfield 37, 3) := by decide +kernel
theorem dX0_init_71 : decode cX0_init 71 = .ok (.return_, 1) := by decide +kernel
theorem dX0_begin_0 : decode cX0_begin 0 = .ok (.aload_n 0, 1) := by decide +kernel
theorem dX0_begin_1 : decode cX0_begin 1 = .ok (.iconst 3, 1) := by decide +kernel
theorem dX0_begin_2 : decode cX0_begin 2 = .ok (.iload_n 1, 1) := by decide +kernel
theorem dX0_begin_3 : decode cX0_begin 3 = .ok (.bipush 7, 2) := by decide +kernel
theorem dX0_begin_5 : decode cX0_begin 5 = .ok (.invokestatic 41, 3) := by decide +kernel
theorem dX0_begin_8 : decode cX0_begin 8 = .ok (.invokestatic 47, 3) := by decide +kernel
theorem dX0_begin_11 : decode cX0_begin 11 = .ok (.putfield 50, 3) := by decide +kernel
theorem dX0_begin_14 : decode cX0_begin 14 = .ok (.aload_n 0, 1) := by decide +kernel
theorem dX0_begin_15 : decode cX0_begin 15 = .ok (.iconst 0, 1) := by decide +kernel
theorem dX0_begin_16 : decode cX0_begin 16 = .ok (.putfield 54, 3) := by decide +kernel
theorem dX0_begin_19 : decode cX0_begin 19 = .ok (.aload_n 0, 1) := by decide +kernel
theorem dX0_begin_20 : decode cX0_begin 20 = .ok (.iconst 0, 1) := by decide +kernel
theorem dX0_begin_21 : decode cX0_begin 21 = .ok (.putfield 57, 3) := by decide +kernel
theorem dX0_begin_24 : decode cX0_begin 24 = .ok (.aload_n 0, 1) := by decide +kernel
theorem dX0_begin_25 : decode cX0_begin 25 = .ok (.iconst 0, 1) := by decide +kernel
theorem dX0_begin_26 : decode cX0_begin 26 = .ok (.putfield 60, 3) := by decide +kernel
theorem dX0_begin_29 : decode cX0_begin 29 = .ok (.aload_n 0, 1) := by decide +kernel
theorem dX0_begin_30 : decode cX0_begin 30 = .ok (.iconst 0, 1) := by decide +kernel
theorem dX0_begin_31 : decode cX0_begin 31 = .ok (.putfield 63, 3) := by decide +kernel
theorem dX0_begin_34 : decode cX0_begin 34 = .ok (.iconst 0, 1) := by decide +kernel
theorem dX0_begin_35 : decode cX0_begin 35 = .ok (.istore_n 2, 1) := by decide +kernel
theorem dX0_begin_36 : decode cX0_begin 36 = .ok (.iload_n 2, 1) := by decide +kernel
theorem dX0_begin_37 : decode cX0_begin 37 = .ok (.aload_n 0, 1) := by decide +kernel
theorem dX0_begin_38 : decode cX0_begin 38 = .ok (.getfield 50, 3) := by decide +kernel
theorem dX0_begin_41 : decode cX0_begin 41 = .ok (.if_icmp .ge 73, 3) := by decide +kernel
theorem dX0_begin_44 : decode cX0_begin 44 = .ok (.aload_n 0, 1) := by decide +kernel
theorem dX0_begin_45 : decode cX0_begin 45 = .ok (.getfield 9, 3) := by decide +kernel
theorem dX0_begin_48 : decode cX0_begin 48 = .ok (.iload_n 2, 1) := by decide +kernel
theorem dX0_begin_49 : decode cX0_begin 49 = .ok (.iconst 2, 1) := by decide +kernel
theorem dX0_begin_50 : decode cX0_begin 50 = .ok (.iload_n 2, 1) := by decide +kernel
theorem dX0_begin_51 : decode cX0_begin 51 = .ok (.iadd, 1) := by decide +kernel
theorem dX0_begin_52 : decode cX0_begin 52 = .ok (.iastore, 1) := by decide +kernel
theorem dX0_begin_53 : decode cX0_begin 53 = .ok (.aload_n 0, 1) := by decide +kernel
theorem dX0_begin_54 : decode cX0_begin 54 = .ok (.getfield 15, 3) := by decide +kernel
theorem dX0_begin_57 : decode cX0_begin 57 = .ok (.iload_n 2, 1) := by decide +kernel
theorem dX0_begin_58 : decode cX0_begin 58 = .ok (.aload_n 0, 1) := by decide +kernel
theorem dX0_begin_59 : decode cX0_begin 59 = .ok (.getfield 9, 3) := by decide +kernel
theorem dX0_begin_62 : decode cX0_begin 62 = .ok (.iload_n 2, 1) := by decide +kernel
theorem dX0_begin_63 : decode cX0_begin 63 = .ok (.iaload, 1) := by decide +kernel
theorem dX0_begin_64 : decode cX0_begin 64 = .ok (.iastore, 1) := by decide +kernel
theorem dX0_begin_65 : decode cX0_begin 65 = .ok (.aload_n 0, 1) := by decide +kernel
theorem dX0_begin_66 : decode cX0_begin 66 = .ok (.getfield 18, 3) := by decide +kernel
theorem dX0_begin_69 : decode cX0_begin 69 = .ok (.iload_n 2, 1) := by decide +kernel
theorem dX0_begin_70 : decode cX0_begin 70 = .ok (.iconst 0, 1) := by decide +kernel
theorem dX0_begin_71 : decode cX0_begin 71 = .ok (.iastore, 1) := by decide +kernel
theorem dX0_begin_72 : decode cX0_begin 72 = .ok (.aload_n 0, 1) := by decide +kernel
theorem dX0_begin_73 : decode cX0_begin 73 = .ok (.getfield 21, 3) := by decide +kernel
theorem dX0_begin_76 : decode cX0_begin 76 = .ok (.iload_n 2, 1) := by decide +kernel
theorem dX0_begin_77 : decode cX0_begin 77 = .ok (.iconst (-1), 1) := by decide +kernel
theorem dX0_begin_78 : decode cX0_begin 78 = .ok (.iastore, 1) := by decide +kernel
theorem dX0_begin_79 : decode cX0_begin 79 = .ok (.aload_n 0, 1) := by decide +kernel
theorem dX0_begin_80 : decode cX0_begin 80 = .ok (.getfield 24, 3) := by decide +kernel
theorem dX0_begin_83 : decode cX0_begin 83 = .ok (.iload_n 2, 1) := by decide +kernel
theorem dX0_begin_84 : decode cX0_begin 84 = .ok (.iconst 0, 1) := by decide +kernel
theorem dX0_begin_85 : decode cX0_begin 85 = .ok (.iastore, 1) := by decide +kernel
theorem dX0_begin_86 : decode cX0_begin 86 = .ok (.aload_n 0, 1) := by decide +kernel
theorem dX0_begin_87 : decode cX0_begin 87 = .ok (.getfield 27, 3) := by decide +kernel
theorem dX0_begin_90 : decode cX0_begin 90 = .ok (.iload_n 2, 1) := by decide +kernel
theorem dX0_begin_91 : decode cX0_begin 91 = .ok (.iconst 0, 1) := by decide +kernel
theorem dX0_begin_92 : decode cX0_begin 92 = .ok (.iastore, 1) := by decide +kernel
theorem dX0_begin_93 : decode cX0_begin 93 = .ok (.aload_n 0, 1) := by decide +kernel
theorem dX0_begin_94 : decode cX0_begin 94 = .ok (.getfield 30, 3) := by decide +kernel
theorem dX0_begin_97 : decode cX0_begin 97 = .ok (.iload_n 2, 1) := by decide +kernel
theorem dX0_begin_98 : decode cX0_begin 98 = .ok (.iconst 1, 1) := by decide +kernel
theorem dX0_begin_99 : decode cX0_begin 99 = .ok (.bastore, 1) := by decide +kernel
theorem dX0_begin_100 : decode cX0_begin 100 = .ok (.aload_n 0, 1) := by decide +kernel
theorem dX0_begin_101 : decode cX0_begin 101 = .ok (.getfield 37, 3) := by decide +kernel
theorem dX0_begin_104 : decode cX0_begin 104 = .ok (.iload_n 2, 1) := by decide +kernel
theorem dX0_begin_105 : decode cX0_begin 105 = .ok (.invokevirtual 66, 3) := by decide +kernel
theorem dX0_begin_108 : decode cX0_begin 108 = .ok (.iinc 2 1, 3) := by decide +kernel
theorem dX0_begin_111 : decode cX0_begin 111 = .ok (.goto (-75), 3) := by decide +kernel
theorem dX0_begin_114 : decode cX0_begin 114 = .ok (.return_, 1) := by decide +kernel
theorem dX0_copyFrom_0 : decode cX0_copyFrom 0 = .ok (.aload_n 0, 1) := by decide +kernel
theorem dX0_copyFrom_1 : decode cX0_copyFrom 1 = .ok (.aload_n 1, 1) := by decide +kernel
theorem dX0_copyFrom_2 : decode cX0_copyFrom 2 = .ok (.getfield 50, 3) := by decide +kernel
theorem dX0_copyFrom_5 : decode cX0_copyFrom 5 = .ok (.putfield 50, 3) := by decide +kernel
theorem dX0_copyFrom_8 : decode cX0_copyFrom 8 = .ok (.aload_n 0, 1) := by decide +kernel
theorem dX0_copyFrom_9 : decode cX0_copyFrom 9 = .ok (.aload_n 1, 1) := by decide +kernel
theorem dX0_copyFrom_10 : decode cX0_copyFrom 10 = .ok (.getfield 54, 3) := by decide +kernel
theorem dX0_copyFrom_13 : decode cX0_copyFrom 13 = .ok (.putfield 54, 3) := by decide +kernel
theorem dX0_copyFrom_16 : decode cX0_copyFrom 16 = .ok (.aload_n 0, 1) := by decide +kernel
theorem dX0_copyFrom_17 : decode cX0_copyFrom 17 = .ok (.aload_n 1, 1) := by decide +kernel
theorem dX0_copyFrom_18 : decode cX0_copyFrom 18 = .ok (.getfield 57, 3) := by decide +kernel
theorem dX0_copyFrom_21 : decode cX0_copyFrom 21 = .ok (.putfield 57, 3) := by decide +kernel
theorem dX0_copyFrom_24 : decode cX0_copyFrom 24 = .ok (.aload_n 0, 1) := by decide +kernel
theorem dX0_copyFrom_25 : decode cX0_copyFrom 25 = .ok (.aload_n 1, 1) := by decide +kernel
theorem dX0_copyFrom_26 : decode cX0_copyFrom 26 = .ok (.getfield 60, 3) := by decide +kernel
theorem dX0_copyFrom_29 : decode cX0_copyFrom 29 = .ok (.putfield 60, 3) := by decide +kernel
theorem dX0_copyFrom_32 : decode cX0_copyFrom 32 = .ok (.aload_n 0, 1) := by decide +kernel
theorem dX0_copyFrom_33 : decode cX0_copyFrom 33 = .ok (.aload_n 1, 1) := by decide +kernel
theorem dX0_copyFrom_34 : decode cX0_copyFrom 34 = .ok (.getfield 63, 3) := by decide +kernel
theorem dX0_copyFrom_37 : decode cX0_copyFrom 37 = .ok (.putfield 63, 3) := by decide +kernel
theorem dX0_copyFrom_40 : decode cX0_copyFrom 40 = .ok (.iconst 0, 1) := by decide +kernel
theorem dX0_copyFrom_41 : decode cX0_copyFrom 41 = .ok (.istore_n 2, 1) := by decide +kernel
theorem dX0_copyFrom_42 : decode cX0_copyFrom 42 = .ok (.iload_n 2, 1) := by decide +kernel
theorem dX0_copyFrom_43 : decode cX0_copyFrom 43 = .ok (.bipush 7, 2) := by decide +kernel
theorem dX0_copyFrom_45 : decode cX0_copyFrom 45 = .ok (.if_icmp .ge 93, 3) := by decide +kernel
theorem dX0_copyFrom_48 : decode cX0_copyFrom 48 = .ok (.aload_n 0, 1) := by decide +kernel
theorem dX0_copyFrom_49 : decode cX0_copyFrom 49 = .ok (.getfield 9, 3) := by decide +kernel
theorem dX0_copyFrom_52 : decode cX0_copyFrom 52 = .ok (.iload_n 2, 1) := by decide +kernel
theorem dX0_copyFrom_53 : decode cX0_copyFrom 53 = .ok (.aload_n 1, 1) := by decide +kernel
theorem dX0_copyFrom_54 : decode cX0_copyFrom 54 = .ok (.getfield 9, 3) := by decide +kernel
theorem dX0_copyFrom_57 : decode cX0_copyFrom 57 = .ok (.iload_n 2, 1) := by decide +kernel
theorem dX0_copyFrom_58 : decode cX0_copyFrom 58 = .ok (.iaload, 1) := by decide +kernel
theorem dX0_copyFrom_59 : decode cX0_copyFrom 59 = .ok (.iastore, 1) := by decide +kernel
theorem dX0_copyFrom_60 : decode cX0_copyFrom 60 = .ok (.aload_n 0, 1) := by decide +kernel
theorem dX0_copyFrom_61 : decode cX0_copyFrom 61 = .ok (.getfield 15, 3) := by decide +kernel
theorem dX0_copyFrom_64 : decode cX0_copyFrom 64 = .ok (.iload_n 2, 1) := by decide +kernel
theorem dX0_copyFrom_65 : decode cX0_copyFrom 65 = .ok (.aload_n 1, 1) := by decide +kernel
theorem dX0_copyFrom_66 : decode cX0_copyFrom 66 = .ok (.getfield 15, 3) := by decide +kernel
theorem dX0_copyFrom_69 : decode cX0_copyFrom 69 = .ok (.iload_n 2, 1) := by decide +kernel
theorem dX0_copyFrom_70 : decode cX0_copyFrom 70 = .ok (.iaload, 1) := by decide +kernel
theorem dX0_copyFrom_71 : decode cX0_copyFrom 71 = .ok (.iastore, 1) := by decide +kernel
theorem dX0_copyFrom_72 : decode cX0_copyFrom 72 = .ok (.aload_n 0, 1) := by decide +kernel
theorem dX0_copyFrom_73 : decode cX0_copyFrom 73 = .ok (.getfield 18, 3) := by decide +kernel
theorem dX0_copyFrom_76 : decode cX0_copyFrom 76 = .ok (.iload_n 2, 1) := by decide +kernel
theorem dX0_copyFrom_77 : decode cX0_copyFrom 77 = .ok (.aload_n 1, 1) := by decide +kernel
theorem dX0_copyFrom_78 : decode cX0_copyFrom 78 = .ok (.getfield 18, 3) := by decide +kernel
theorem dX0_copyFrom_81 : decode cX0_copyFrom 81 = .ok (.iload_n 2, 1) := by decide +kernel
theorem dX0_copyFrom_82 : decode cX0_copyFrom 82 = .ok (.iaload, 1) := by decide +kernel
theorem dX0_copyFrom_83 : decode cX0_copyFrom 83 = .ok (.iastore, 1) := by decide +kernel
theorem dX0_copyFrom_84 : decode cX0_copyFrom 84 = .ok (.aload_n 0, 1) := by decide +kernel
theorem dX0_copyFrom_85 : decode cX0_copyFrom 85 = .ok (.getfield 21, 3) := by decide +kernel
theorem dX0_copyFrom_88 : decode cX0_copyFrom 88 = .ok (.iload_n 2, 1) := by decide +kernel
theorem dX0_copyFrom_89 : decode cX0_copyFrom 89 = .ok (.aload_n 1, 1) := by decide +kernel
theorem dX0_copyFrom_90 : decode cX0_copyFrom 90 = .ok (.getfield 21, 3) := by decide +kernel
theorem dX0_copyFrom_93 : decode cX0_copyFrom 93 = .ok (.iload_n 2, 1) := by decide +kernel
theorem dX0_copyFrom_94 : decode cX0_copyFrom 94 = .ok (.iaload, 1) := by decide +kernel
theorem dX0_copyFrom_95 : decode cX0_copyFrom 95 = .ok (.iastore, 1) := by decide +kernel
theorem dX0_copyFrom_96 : decode cX0_copyFrom 96 = .ok (.aload_n 0, 1) := by decide +kernel
theorem dX0_copyFrom_97 : decode cX0_copyFrom 97 = .ok (.getfield 24, 3) := by decide +kernel
theorem dX0_copyFrom_100 : decode cX0_copyFrom 100 = .ok (.iload_n 2, 1) := by decide +kernel
theorem dX0_copyFrom_101 : decode cX0_copyFrom 101 = .ok (.aload_n 1, 1) := by decide +kernel
theorem dX0_copyFrom_102 : decode cX0_copyFrom 102 = .ok (.getfield 24, 3) := by decide +kernel
theorem dX0_copyFrom_105 : decode cX0_copyFrom 105 = .ok (.iload_n 2, 1) := by decide +kernel
theorem dX0_copyFrom_106 : decode cX0_copyFrom 106 = .ok (.iaload, 1) := by decide +kernel
theorem dX0_copyFrom_107 : decode cX0_copyFrom 107 = .ok (.iastore, 1) := by decide +kernel
theorem dX0_copyFrom_108 : decode cX0_copyFrom 108 = .ok (.aload_n 0, 1) := by decide +kernel
theorem dX0_copyFrom_109 : decode cX0_copyFrom 109 = .ok (.getfield 27, 3) := by decide +kernel
theorem dX0_copyFrom_112 : decode cX0_copyFrom 112 = .ok (.iload_n 2, 1) := by decide +kernel
theorem dX0_copyFrom_113 : decode cX0_copyFrom 113 = .ok (.aload_n 1, 1) := by decide +kernel
theorem dX0_copyFrom_114 : decode cX0_copyFrom 114 = .ok (.getfield 27, 3) := by decide +kernel
theorem dX0_copyFrom_117 : decode cX0_copyFrom 117 = .ok (.iload_n 2, 1) := by decide +kernel
theorem dX0_copyFrom_118 : decode cX0_copyFrom 118 = .ok (.iaload, 1) := by decide +kernel
theorem dX0_copyFrom_119 : decode cX0_copyFrom 119 = .ok (.iastore, 1) := by decide +kernel
theorem dX0_copyFrom_120 : decode cX0_copyFrom 120 = .ok (.aload_n 0, 1) := by decide +kernel
theorem dX0_copyFrom_121 : decode cX0_copyFrom 121 = .ok (.getfield 30, 3) := by decide +kernel
theorem dX0_copyFrom_124 : decode cX0_copyFrom 124 = .ok (.iload_n 2, 1) := by decide +kernel
theorem dX0_copyFrom_125 : decode cX0_copyFrom 125 = .ok (.aload_n 1, 1) := by decide +kernel
theorem dX0_copyFrom_126 : decode cX0_copyFrom 126 = .ok (.getfield 30, 3) := by decide +kernel
theorem dX0_copyFrom_129 : decode cX0_copyFrom 129 = .ok (.iload_n 2, 1) := by decide +kernel
theorem dX0_copyFrom_130 : decode cX0_copyFrom 130 = .ok (.baload, 1) := by decide +kernel
theorem dX0_copyFrom_131 : decode cX0_copyFrom 131 = .ok (.bastore, 1) := by decide +kernel
theorem dX0_copyFrom_132 : decode cX0_copyFrom 132 = .ok (.iinc 2 1, 3) := by decide +kernel
theorem dX0_copyFrom_135 : decode cX0_copyFrom 135 = .ok (.goto (-93), 3) := by decide +kernel
theorem dX0_copyFrom_138 : decode cX0_copyFrom 138 = .ok (.aload_n 0, 1) := by decide +kernel
theorem dX0_copyFrom_139 : decode cX0_copyFrom 139 = .ok (.getfield 37, 3) := by decide +kernel
theorem dX0_copyFrom_142 : decode cX0_copyFrom 142 = .ok (.aload_n 1, 1) := by decide +kernel
theorem dX0_copyFrom_143 : decode cX0_copyFrom 143 = .ok (.getfield 37, 3) := by decide +kernel
theorem dX0_copyFrom_146 : decode cX0_copyFrom 146 = .ok (.invokevirtual 70, 3) := by decide +kernel
theorem dX0_copyFrom_149 : decode cX0_copyFrom 149 = .ok (.return_, 1) := by decide +kernel
theorem dX0_raise_0 : decode cX0_raise 0 = .ok (.aload_n 0, 1) := by decide +kernel
theorem dX0_raise_1 : decode cX0_raise 1 = .ok (.getfield 30, 3) := by decide +kernel
theorem dX0_raise_4 : decode cX0_raise 4 = .ok (.iload_n 1, 1) := by decide +kernel
theorem dX0_raise_5 : decode cX0_raise 5 = .ok (.iconst 1, 1) := by decide +kernel
theorem dX0_raise_6 : decode cX0_raise 6 = .ok (.bastore, 1) := by decide +kernel
theorem dX0_raise_7 : decode cX0_raise 7 = .ok (.aload_n 0, 1) := by decide +kernel
theorem dX0_raise_8 : decode cX0_raise 8 = .ok (.getfield 24, 3) := by decide +kernel
theorem dX0_raise_11 : decode cX0_raise 11 = .ok (.iload_n 1, 1) := by decide +kernel
theorem dX0_raise_12 : decode cX0_raise 12 = .ok (.iconst 0, 1) := by decide +kernel
theorem dX0_raise_13 : decode cX0_raise 13 = .ok (.iastore, 1) := by decide +kernel
theorem dX0_raise_14 : decode cX0_raise 14 = .ok (.aload_n 0, 1) := by decide +kernel
theorem dX0_raise_15 : decode cX0_raise 15 = .ok (.getfield 15, 3) := by decide +kernel
theorem dX0_raise_18 : decode cX0_raise 18 = .ok (.iload_n 1, 1) := by decide +kernel
theorem dX0_raise_19 : decode cX0_raise 19 = .ok (.aload_n 0, 1) := by decide +kernel
theorem dX0_raise_20 : decode cX0_raise 20 = .ok (.getfield 9, 3) := by decide +kernel
theorem dX0_raise_23 : decode cX0_raise 23 = .ok (.iload_n 1, 1) := by decide +kernel
theorem dX0_raise_24 : decode cX0_raise 24 = .ok (.iaload, 1) := by decide +kernel
theorem dX0_raise_25 : decode cX0_raise 25 = .ok (.iastore, 1) := by decide +kernel
theorem dX0_raise_26 : decode cX0_raise 26 = .ok (.aload_n 0, 1) := by decide +kernel
theorem dX0_raise_27 : decode cX0_raise 27 = .ok (.getfield 37, 3) := by decide +kernel
theorem dX0_raise_30 : decode cX0_raise 30 = .ok (.getfield 74, 3) := by decide +kernel
theorem dX0_raise_33 : decode cX0_raise 33 = .ok (.iload_n 1, 1) := by decide +kernel
theorem dX0_raise_34 : decode cX0_raise 34 = .ok (.iconst 0, 1) := by decide +kernel
theorem dX0_raise_35 : decode cX0_raise 35 = .ok (.iastore, 1) := by decide +kernel
theorem dX0_raise_36 : decode cX0_raise 36 = .ok (.return_, 1) := by decide +kernel
theorem dX0_passHours_0 : decode cX0_passHours 0 = .ok (.iconst 0, 1) := by decide +kernel
theorem dX0_passHours_1 : decode cX0_passHours 1 = .ok (.istore_n 2, 1) := by decide +kernel
theorem dX0_passHours_2 : decode cX0_passHours 2 = .ok (.iload_n 2, 1) := by decide +kernel
theorem dX0_passHours_3 : decode cX0_passHours 3 = .ok (.iload_n 1, 1) := by decide +kernel
theorem dX0_passHours_4 : decode cX0_passHours 4 = .ok (.if_icmp .ge 31, 3) := by decide +kernel
theorem dX0_passHours_7 : decode cX0_passHours 7 = .ok (.aload_n 0, 1) := by decide +kernel
theorem dX0_passHours_8 : decode cX0_passHours 8 = .ok (.invokevirtual 77, 3) := by decide +kernel
theorem dX0_passHours_11 : decode cX0_passHours 11 = .ok (.aload_n 0, 1) := by decide +kernel
theorem dX0_passHours_12 : decode cX0_passHours 12 = .ok (.invokevirtual 80, 3) := by decide +kernel
theorem dX0_passHours_15 : decode cX0_passHours 15 = .ok (.aload_n 0, 1) := by decide +kernel
theorem dX0_passHours_16 : decode cX0_passHours 16 = .ok (.invokevirtual 83, 3) := by decide +kernel
theorem dX0_passHours_19 : decode cX0_passHours 19 = .ok (.aload_n 0, 1) := by decide +kernel
theorem dX0_passHours_20 : decode cX0_passHours 20 = .ok (.dup, 1) := by decide +kernel
theorem dX0_passHours_21 : decode cX0_passHours 21 = .ok (.getfield 54, 3) := by decide +kernel
theorem dX0_passHours_24 : decode cX0_passHours 24 = .ok (.iconst 1, 1) := by decide +kernel
theorem dX0_passHours_25 : decode cX0_passHours 25 = .ok (.iadd, 1) := by decide +kernel
theorem dX0_passHours_26 : decode cX0_passHours 26 = .ok (.putfield 54, 3) := by decide +kernel
theorem dX0_passHours_29 : decode cX0_passHours 29 = .ok (.iinc 2 1, 3) := by decide +kernel
theorem dX0_passHours_32 : decode cX0_passHours 32 = .ok (.goto (-30), 3) := by decide +kernel
theorem dX0_passHours_35 : decode cX0_passHours 35 = .ok (.return_, 1) := by decide +kernel
theorem dX0_runClocks_0 : decode cX0_runClocks 0 = .ok (.iconst 0, 1) := by decide +kernel
theorem dX0_runClocks_1 : decode cX0_runClocks 1 = .ok (.istore_n 1, 1) := by decide +kernel
theorem dX0_runClocks_2 : decode cX0_runClocks 2 = .ok (.iload_n 1, 1) := by decide +kernel
theorem dX0_runClocks_3 : decode cX0_runClocks 3 = .ok (.aload_n 0, 1) := by decide +kernel
theorem dX0_runClocks_4 : decode cX0_runClocks 4 = .ok (.getfield 50, 3) := by decide +kernel
theorem dX0_runClocks_7 : decode cX0_runClocks 7 = .ok (.if_icmp .ge 52, 3) := by decide +kernel
theorem dX0_runClocks_10 : decode cX0_runClocks 10 = .ok (.aload_n 0, 1) := by decide +kernel
theorem dX0_runClocks_11 : decode cX0_runClocks 11 = .ok (.getfield 30, 3) := by decide +kernel
theorem dX0_runClocks_14 : decode cX0_runClocks 14 = .ok (.iload_n 1, 1) := by decide +kernel
theorem dX0_runClocks_15 : decode cX0_runClocks 15 = .ok (.baload, 1) := by decide +kernel
theorem dX0_runClocks_16 : decode cX0_runClocks 16 = .ok (.ifCond .eq 37, 3) := by decide +kernel
theorem dX0_runClocks_19 : decode cX0_runClocks 19 = .ok (.aload_n 0, 1) := by decide +kernel
theorem dX0_runClocks_20 : decode cX0_runClocks 20 = .ok (.getfield 24, 3) := by decide +kernel
theorem dX0_runClocks_23 : decode cX0_runClocks 23 = .ok (.iload_n 1, 1) := by decide +kernel
theorem dX0_runClocks_24 : decode cX0_runClocks 24 = .ok (.iaload, 1) := by decide +kernel
theorem dX0_runClocks_25 : decode cX0_runClocks 25 = .ok (.iconst 2, 1) := by decide +kernel
theorem dX0_runClocks_26 : decode cX0_runClocks 26 = .ok (.if_icmp .eq 27, 3) := by decide +kernel
theorem dX0_runClocks_29 : decode cX0_runClocks 29 = .ok (.aload_n 0, 1) := by decide +kernel
theorem dX0_runClocks_30 : decode cX0_runClocks 30 = .ok (.getfield 15, 3) := by decide +kernel
theorem dX0_runClocks_33 : decode cX0_runClocks 33 = .ok (.iload_n 1, 1) := by decide +kernel
theorem dX0_runClocks_34 : decode cX0_runClocks 34 = .ok (.dup2, 1) := by decide +kernel
theorem dX0_runClocks_35 : decode cX0_runClocks 35 = .ok (.iaload, 1) := by decide +kernel
theorem dX0_runClocks_36 : decode cX0_runClocks 36 = .ok (.iconst 1, 1) := by decide +kernel
theorem dX0_runClocks_37 : decode cX0_runClocks 37 = .ok (.isub, 1) := by decide +kernel
theorem dX0_runClocks_38 : decode cX0_runClocks 38 = .ok (.iastore, 1) := by decide +kernel
theorem dX0_runClocks_39 : decode cX0_runClocks 39 = .ok (.aload_n 0, 1) := by decide +kernel
theorem dX0_runClocks_40 : decode cX0_runClocks 40 = .ok (.getfield 15, 3) := by decide +kernel
theorem dX0_runClocks_43 : decode cX0_runClocks 43 = .ok (.iload_n 1, 1) := by decide +kernel
theorem dX0_runClocks_44 : decode cX0_runClocks 44 = .ok (.iaload, 1) := by decide +kernel
theorem dX0_runClocks_45 : decode cX0_runClocks 45 = .ok (.ifCond .ne 8, 3) := by decide +kernel
theorem dX0_runClocks_48 : decode cX0_runClocks 48 = .ok (.aload_n 0, 1) := by decide +kernel
theorem dX0_runClocks_49 : decode cX0_runClocks 49 = .ok (.iload_n 1, 1) := by decide +kernel
theorem dX0_runClocks_50 : decode cX0_runClocks 50 = .ok (.invokevirtual 86, 3) := by decide +kernel
theorem dX0_runClocks_53 : decode cX0_runClocks 53 = .ok (.iinc 1 1, 3) := by decide +kernel
theorem dX0_runClocks_56 : decode cX0_runClocks 56 = .ok (.goto (-54), 3) := by decide +kernel
theorem dX0_runClocks_59 : decode cX0_runClocks 59 = .ok (.return_, 1) := by decide +kernel
theorem dX0_tellAll_0 : decode cX0_tellAll 0 = .ok (.iconst 0, 1) := by decide +kernel
theorem dX0_tellAll_1 : decode cX0_tellAll 1 = .ok (.istore_n 1, 1) := by decide +kernel
theorem dX0_tellAll_2 : decode cX0_tellAll 2 = .ok (.iload_n 1, 1) := by decide +kernel
theorem dX0_tellAll_3 : decode cX0_tellAll 3 = .ok (.aload_n 0, 1) := by decide +kernel
theorem dX0_tellAll_4 : decode cX0_tellAll 4 = .ok (.getfield 50, 3) := by decide +kernel
theorem dX0_tellAll_7 : decode cX0_tellAll 7 = .ok (.if_icmp .ge 22, 3) := by decide +kernel
theorem dX0_tellAll_10 : decode cX0_tellAll 10 = .ok (.aload_n 0, 1) := by decide +kernel
theorem dX0_tellAll_11 : decode cX0_tellAll 11 = .ok (.iload_n 1, 1) := by decide +kernel
theorem dX0_tellAll_12 : decode cX0_tellAll 12 = .ok (.invokevirtual 89, 3) := by decide +kernel
theorem dX0_tellAll_15 : decode cX0_tellAll 15 = .ok (.ifCond .eq 8, 3) := by decide +kernel
theorem dX0_tellAll_18 : decode cX0_tellAll 18 = .ok (.aload_n 0, 1) := by decide +kernel
theorem dX0_tellAll_19 : decode cX0_tellAll 19 = .ok (.iload_n 1, 1) := by decide +kernel
theorem dX0_tellAll_20 : decode cX0_tellAll 20 = .ok (.invokevirtual 93, 3) := by decide +kernel
theorem dX0_tellAll_23 : decode cX0_tellAll 23 = .ok (.iinc 1 1, 3) := by decide +kernel
theorem dX0_tellAll_26 : decode cX0_tellAll 26 = .ok (.goto (-24), 3) := by decide +kernel
theorem dX0_tellAll_29 : decode cX0_tellAll 29 = .ok (.return_, 1) := by decide +kernel
theorem dX0_commitAll_0 : decode cX0_commitAll 0 = .ok (.iconst 0, 1) := by decide +kernel
theorem dX0_commitAll_1 : decode cX0_commitAll 1 = .ok (.istore_n 1, 1) := by decide +kernel
theorem dX0_commitAll_2 : decode cX0_commitAll 2 = .ok (.iload_n 1, 1) := by decide +kernel
theorem dX0_commitAll_3 : decode cX0_commitAll 3 = .ok (.aload_n 0, 1) := by decide +kernel
theorem dX0_commitAll_4 : decode cX0_commitAll 4 = .ok (.getfield 50, 3) := by decide +kernel
theorem dX0_commitAll_7 : decode cX0_commitAll 7 = .ok (.if_icmp .ge 22, 3) := by decide +kernel
theorem dX0_commitAll_10 : decode cX0_commitAll 10 = .ok (.aload_n 0, 1) := by decide +kernel
theorem dX0_commitAll_11 : decode cX0_commitAll 11 = .ok (.iload_n 1, 1) := by decide +kernel
theorem dX0_commitAll_12 : decode cX0_commitAll 12 = .ok (.invokevirtual 89, 3) := by decide +kernel
theorem dX0_commitAll_15 : decode cX0_commitAll 15 = .ok (.ifCond .eq 8, 3) := by decide +kernel
theorem dX0_commitAll_18 : decode cX0_commitAll 18 = .ok (.aload_n 0, 1) := by decide +kernel
theorem dX0_commitAll_19 : decode cX0_commitAll 19 = .ok (.iload_n 1, 1) := by decide +kernel
theorem dX0_commitAll_20 : decode cX0_commitAll 20 = .ok (.invokevirtual 96, 3) := by decide +kernel
theorem dX0_commitAll_23 : decode cX0_commitAll 23 = .ok (.iinc 1 1, 3) := by decide +kernel
theorem dX0_commitAll_26 : decode cX0_commitAll 26 = .ok (.goto (-24), 3) := by decide +kernel
theorem dX0_commitAll_29 : decode cX0_commitAll 29 = .ok (.return_, 1) := by decide +kernel
theorem dX0_stand_0 : decode cX0_stand 0 = .ok (.aload_n 0, 1) := by decide +kernel
theorem dX0_stand_1 : decode cX0_stand 1 = .ok (.dup, 1) := by decide +kernel
theorem dX0_stand_2 : decode cX0_stand 2 = .ok (.getfield 57, 3) := by decide +kernel
theorem dX0_stand_5 : decode cX0_stand 5 = .ok (.iconst 1, 1) := by decide +kernel
theorem dX0_stand_6 : decode cX0_stand 6 = .ok (.iadd, 1) := by decide +kernel
theorem dX0_stand_7 : decode cX0_stand 7 = .ok (.putfield 57, 3) := by decide +kernel
theorem dX0_stand_10 : decode cX0_stand 10 = .ok (.aload_n 0, 1) := by decide +kernel
theorem dX0_stand_11 : decode cX0_stand 11 = .ok (.getfield 18, 3) := by decide +kernel
theorem dX0_stand_14 : decode cX0_stand 14 = .ok (.iload_n 1, 1) := by decide +kernel
theorem dX0_stand_15 : decode cX0_stand 15 = .ok (.dup2, 1) := by decide +kernel
theorem dX0_stand_16 : decode cX0_stand 16 = .ok (.iaload, 1) := by decide +kernel
theorem dX0_stand_17 : decode cX0_stand 17 = .ok (.iconst 1, 1) := by decide +kernel
theorem dX0_stand_18 : decode cX0_stand 18 = .ok (.iadd, 1) := by decide +kernel
theorem dX0_stand_19 : decode cX0_stand 19 = .ok (.iastore, 1) := by decide +kernel
theorem dX0_stand_20 : decode cX0_stand 20 = .ok (.aload_n 0, 1) := by decide +kernel
theorem dX0_stand_21 : decode cX0_stand 21 = .ok (.getfield 24, 3) := by decide +kernel
theorem dX0_stand_24 : decode cX0_stand 24 = .ok (.iload_n 1, 1) := by decide +kernel
theorem dX0_stand_25 : decode cX0_stand 25 = .ok (.iconst 1, 1) := by decide +kernel
theorem dX0_stand_26 : decode cX0_stand 26 = .ok (.iastore, 1) := by decide +kernel
theorem dX0_stand_27 : decode cX0_stand 27 = .ok (.aload_n 0, 1) := by decide +kernel
theorem dX0_stand_28 : decode cX0_stand 28 = .ok (.getfield 21, 3) := by decide +kernel
theorem dX0_stand_31 : decode cX0_stand 31 = .ok (.iload_n 1, 1) := by decide +kernel
theorem dX0_stand_32 : decode cX0_stand 32 = .ok (.iload_n 1, 1) := by decide +kernel
theorem dX0_stand_33 : decode cX0_stand 33 = .ok (.iastore, 1) := by decide +kernel
theorem dX0_stand_34 : decode cX0_stand 34 = .ok (.aload_n 0, 1) := by decide +kernel
theorem dX0_stand_35 : decode cX0_stand 35 = .ok (.getfield 15, 3) := by decide +kernel
theorem dX0_stand_38 : decode cX0_stand 38 = .ok (.iload_n 1, 1) := by decide +kernel
theorem dX0_stand_39 : decode cX0_stand 39 = .ok (.aload_n 0, 1) := by decide +kernel
theorem dX0_stand_40 : decode cX0_stand 40 = .ok (.getfield 9, 3) := by decide +kernel
theorem dX0_stand_43 : decode cX0_stand 43 = .ok (.iload_n 1, 1) := by decide +kernel
theorem dX0_stand_44 : decode cX0_stand 44 = .ok (.iaload, 1) := by decide +kernel
theorem dX0_stand_45 : decode cX0_stand 45 = .ok (.iastore, 1) := by decide +kernel
theorem dX0_stand_46 : decode cX0_stand 46 = .ok (.iconst 1, 1) := by decide +kernel
theorem dX0_stand_47 : decode cX0_stand 47 = .ok (.istore_n 2, 1) := by decide +kernel
theorem dX0_stand_48 : decode cX0_stand 48 = .ok (.iconst 0, 1) := by decide +kernel
theorem dX0_stand_49 : decode cX0_stand 49 = .ok (.istore_n 3, 1) := by decide +kernel
theorem dX0_stand_50 : decode cX0_stand 50 = .ok (.iload_n 3, 1) := by decide +kernel
theorem dX0_stand_51 : decode cX0_stand 51 = .ok (.aload_n 0, 1) := by decide +kernel
theorem dX0_stand_52 : decode cX0_stand 52 = .ok (.getfield 50, 3) := by decide +kernel
theorem dX0_stand_55 : decode cX0_stand 55 = .ok (.if_icmp .ge 45, 3) := by decide +kernel
theorem dX0_stand_58 : decode cX0_stand 58 = .ok (.aload_n 0, 1) := by decide +kernel
theorem dX0_stand_59 : decode cX0_stand 59 = .ok (.getfield 24, 3) := by decide +kernel
theorem dX0_stand_62 : decode cX0_stand 62 = .ok (.iload_n 1, 1) := by decide +kernel
theorem dX0_stand_63 : decode cX0_stand 63 = .ok (.iaload, 1) := by decide +kernel
theorem dX0_stand_64 : decode cX0_stand 64 = .ok (.iconst 1, 1) := by decide +kernel
theorem dX0_stand_65 : decode cX0_stand 65 = .ok (.if_icmp .ne 35, 3) := by decide +kernel
theorem dX0_stand_68 : decode cX0_stand 68 = .ok (.iload_n 3, 1) := by decide +kernel
theorem dX0_stand_69 : decode cX0_stand 69 = .ok (.iload_n 1, 1) := by decide +kernel
theorem dX0_stand_70 : decode cX0_stand 70 = .ok (.if_icmp .eq 24, 3) := by decide +kernel
theorem dX0_stand_73 : decode cX0_stand 73 = .ok (.aload_n 0, 1) := by decide +kernel
theorem dX0_stand_74 : decode cX0_stand 74 = .ok (.iload_n 1, 1) := by decide +kernel
theorem dX0_stand_75 : decode cX0_stand 75 = .ok (.iload_n 3, 1) := by decide +kernel
theorem dX0_stand_76 : decode cX0_stand 76 = .ok (.invokevirtual 99, 3) := by decide +kernel
theorem dX0_stand_79 : decode cX0_stand 79 = .ok (.ifCond .eq 15, 3) := by decide +kernel
theorem dX0_stand_82 : decode cX0_stand 82 = .ok (.aload_n 0, 1) := by decide +kernel
theorem dX0_stand_83 : decode cX0_stand 83 = .ok (.iload_n 1, 1) := by decide +kernel
theorem dX0_stand_84 : decode cX0_stand 84 = .ok (.iload_n 3, 1) := by decide +kernel
theorem dX0_stand_85 : decode cX0_stand 85 = .ok (.invokevirtual 103, 3) := by decide +kernel
theorem dX0_stand_88 : decode cX0_stand 88 = .ok (.ifCond .eq 6, 3) := by decide +kernel
theorem dX0_stand_91 : decode cX0_stand 91 = .ok (.iinc 2 1, 3) := by decide +kernel
theorem dX0_stand_94 : decode cX0_stand 94 = .ok (.iinc 3 1, 3) := by decide +kernel
theorem dX0_stand_97 : decode cX0_stand 97 = .ok (.goto (-47), 3) := by decide +kernel
theorem dX0_stand_100 : decode cX0_stand 100 = .ok (.aload_n 0, 1) := by decide +kernel
theorem dX0_stand_101 : decode cX0_stand 101 = .ok (.getfield 24, 3) := by decide +kernel
theorem dX0_stand_104 : decode cX0_stand 104 = .ok (.iload_n 1, 1) := by decide +kernel
theorem dX0_stand_105 : decode cX0_stand 105 = .ok (.iaload, 1) := by decide +kernel
theorem dX0_stand_106 : decode cX0_stand 106 = .ok (.iconst 1, 1) := by decide +kernel
theorem dX0_stand_107 : decode cX0_stand 107 = .ok (.if_icmp .ne 28, 3) := by decide +kernel
theorem dX0_stand_110 : decode cX0_stand 110 = .ok (.aload_n 0, 1) := by decide +kernel
theorem dX0_stand_111 : decode cX0_stand 111 = .ok (.iload_n 2, 1) := by decide +kernel
theorem dX0_stand_112 : decode cX0_stand 112 = .ok (.invokevirtual 106, 3) := by decide +kernel
theorem dX0_stand_115 : decode cX0_stand 115 = .ok (.ifCond .eq 20, 3) := by decide +kernel
theorem dX0_stand_118 : decode cX0_stand 118 = .ok (.aload_n 0, 1) := by decide +kernel
theorem dX0_stand_119 : decode cX0_stand 119 = .ok (.getfield 24, 3) := by decide +kernel
theorem dX0_stand_122 : decode cX0_stand 122 = .ok (.iload_n 1, 1) := by decide +kernel
theorem dX0_stand_123 : decode cX0_stand 123 = .ok (.iconst 2, 1) := by decide +kernel
theorem dX0_stand_124 : decode cX0_stand 124 = .ok (.iastore, 1) := by decide +kernel
theorem dX0_stand_125 : decode cX0_stand 125 = .ok (.aload_n 0, 1) := by decide +kernel
theorem dX0_stand_126 : decode cX0_stand 126 = .ok (.dup, 1) := by decide +kernel
theorem dX0_stand_127 : decode cX0_stand 127 = .ok (.getfield 60, 3) := by decide +kernel
theorem dX0_stand_130 : decode cX0_stand 130 = .ok (.iconst 1, 1) := by decide +kernel
theorem dX0_stand_131 : decode cX0_stand 131 = .ok (.iadd, 1) := by decide +kernel
theorem dX0_stand_132 : decode cX0_stand 132 = .ok (.putfield 60, 3) := by decide +kernel
theorem dX0_stand_135 : decode cX0_stand 135 = .ok (.return_, 1) := by decide +kernel
theorem dX0_givesVote_0 : decode cX0_givesVote 0 = .ok (.aload_n 0, 1) := by decide +kernel
theorem dX0_givesVote_1 : decode cX0_givesVote 1 = .ok (.iload_n 1, 1) := by decide +kernel
theorem dX0_givesVote_2 : decode cX0_givesVote 2 = .ok (.iload_n 2, 1) := by decide +kernel
theorem dX0_givesVote_3 : decode cX0_givesVote 3 = .ok (.invokevirtual 109, 3) := by decide +kernel
theorem dX0_givesVote_6 : decode cX0_givesVote 6 = .ok (.ifCond .ne 5, 3) := by decide +kernel
theorem dX0_givesVote_9 : decode cX0_givesVote 9 = .ok (.iconst 0, 1) := by decide +kernel
theorem dX0_givesVote_10 : decode cX0_givesVote 10 = .ok (.ireturn, 1) := by decide +kernel
theorem dX0_givesVote_11 : decode cX0_givesVote 11 = .ok (.aload_n 0, 1) := by decide +kernel
theorem dX0_givesVote_12 : decode cX0_givesVote 12 = .ok (.getfield 21, 3) := by decide +kernel
theorem dX0_givesVote_15 : decode cX0_givesVote 15 = .ok (.iload_n 2, 1) := by decide +kernel
theorem dX0_givesVote_16 : decode cX0_givesVote 16 = .ok (.iaload, 1) := by decide +kernel
theorem dX0_givesVote_17 : decode cX0_givesVote 17 = .ok (.iconst (-1), 1) := by decide +kernel
theorem dX0_givesVote_18 : decode cX0_givesVote 18 = .ok (.if_icmp .eq 13, 3) := by decide +kernel
theorem dX0_givesVote_21 : decode cX0_givesVote 21 = .ok (.aload_n 0, 1) := by decide +kernel
theorem dX0_givesVote_22 : decode cX0_givesVote 22 = .ok (.getfield 21, 3) := by decide +kernel
theorem dX0_givesVote_25 : decode cX0_givesVote 25 = .ok (.iload_n 2, 1) := by decide +kernel
theorem dX0_givesVote_26 : decode cX0_givesVote 26 = .ok (.iaload, 1) := by decide +kernel
theorem dX0_givesVote_27 : decode cX0_givesVote 27 = .ok (.iload_n 1, 1) := by decide +kernel
theorem dX0_givesVote_28 : decode cX0_givesVote 28 = .ok (.if_icmp .ne 7, 3) := by decide +kernel
theorem dX0_givesVote_31 : decode cX0_givesVote 31 = .ok (.iconst 1, 1) := by decide +kernel
theorem dX0_givesVote_32 : decode cX0_givesVote 32 = .ok (.goto 4, 3) := by decide +kernel
theorem dX0_givesVote_35 : decode cX0_givesVote 35 = .ok (.iconst 0, 1) := by decide +kernel
theorem dX0_givesVote_36 : decode cX0_givesVote 36 = .ok (.istore_n 3, 1) := by decide +kernel
theorem dX0_givesVote_37 : decode cX0_givesVote 37 = .ok (.iload_n 3, 1) := by decide +kernel
theorem dX0_givesVote_38 : decode cX0_givesVote 38 = .ok (.ifCond .eq 15, 3) := by decide +kernel
theorem dX0_givesVote_41 : decode cX0_givesVote 41 = .ok (.aload_n 0, 1) := by decide +kernel
theorem dX0_givesVote_42 : decode cX0_givesVote 42 = .ok (.getfield 37, 3) := by decide +kernel
theorem dX0_givesVote_45 : decode cX0_givesVote 45 = .ok (.iload_n 1, 1) := by decide +kernel
theorem dX0_givesVote_46 : decode cX0_givesVote 46 = .ok (.iload_n 2, 1) := by decide +kernel
theorem dX0_givesVote_47 : decode cX0_givesVote 47 = .ok (.invokevirtual 112, 3) := by decide +kernel
theorem dX0_givesVote_50 : decode cX0_givesVote 50 = .ok (.ifCond .ne 5, 3) := by decide +kernel
theorem dX0_givesVote_53 : decode cX0_givesVote 53 = .ok (.iconst 0, 1) := by decide +kernel
theorem dX0_givesVote_54 : decode cX0_givesVote 54 = .ok (.ireturn, 1) := by decide +kernel
theorem dX0_givesVote_55 : decode cX0_givesVote 55 = .ok (.aload_n 0, 1) := by decide +kernel
theorem dX0_givesVote_56 : decode cX0_givesVote 56 = .ok (.getfield 21, 3) := by decide +kernel
theorem dX0_givesVote_59 : decode cX0_givesVote 59 = .ok (.iload_n 2, 1) := by decide +kernel
theorem dX0_givesVote_60 : decode cX0_givesVote 60 = .ok (.iload_n 1, 1) := by decide +kernel
theorem dX0_givesVote_61 : decode cX0_givesVote 61 = .ok (.iastore, 1) := by decide +kernel
theorem dX0_givesVote_62 : decode cX0_givesVote 62 = .ok (.aload_n 0, 1) := by decide +kernel
theorem dX0_givesVote_63 : decode cX0_givesVote 63 = .ok (.getfield 15, 3) := by decide +kernel
theorem dX0_givesVote_66 : decode cX0_givesVote 66 = .ok (.iload_n 2, 1) := by decide +kernel
theorem dX0_givesVote_67 : decode cX0_givesVote 67 = .ok (.aload_n 0, 1) := by decide +kernel
theorem dX0_givesVote_68 : decode cX0_givesVote 68 = .ok (.getfield 9, 3) := by decide +kernel
theorem dX0_givesVote_71 : decode cX0_givesVote 71 = .ok (.iload_n 2, 1) := by decide +kernel
theorem dX0_givesVote_72 : decode cX0_givesVote 72 = .ok (.iaload, 1) := by decide +kernel
theorem dX0_givesVote_73 : decode cX0_givesVote 73 = .ok (.iastore, 1) := by decide +kernel
theorem dX0_givesVote_74 : decode cX0_givesVote 74 = .ok (.iconst 1, 1) := by decide +kernel
theorem dX0_givesVote_75 : decode cX0_givesVote 75 = .ok (.ireturn, 1) := by decide +kernel
theorem dX0_tellOthers_0 : decode cX0_tellOthers 0 = .ok (.iconst 0, 1) := by decide +kernel
theorem dX0_tellOthers_1 : decode cX0_tellOthers 1 = .ok (.istore_n 2, 1) := by decide +kernel
theorem dX0_tellOthers_2 : decode cX0_tellOthers 2 = .ok (.iload_n 2, 1) := by decide +kernel
theorem dX0_tellOthers_3 : decode cX0_tellOthers 3 = .ok (.aload_n 0, 1) := by decide +kernel
theorem dX0_tellOthers_4 : decode cX0_tellOthers 4 = .ok (.getfield 50, 3) := by decide +kernel
theorem dX0_tellOthers_7 : decode cX0_tellOthers 7 = .ok (.if_icmp .ge 39, 3) := by decide +kernel
theorem dX0_tellOthers_10 : decode cX0_tellOthers 10 = .ok (.aload_n 0, 1) := by decide +kernel
theorem dX0_tellOthers_11 : decode cX0_tellOthers 11 = .ok (.getfield 24, 3) := by decide +kernel
theorem dX0_tellOthers_14 : decode cX0_tellOthers 14 = .ok (.iload_n 1, 1) := by decide +kernel
theorem dX0_tellOthers_15 : decode cX0_tellOthers 15 = .ok (.iaload, 1) := by decide +kernel
theorem dX0_tellOthers_16 : decode cX0_tellOthers 16 = .ok (.iconst 2, 1) := by decide +kernel
theorem dX0_tellOthers_17 : decode cX0_tellOthers 17 = .ok (.if_icmp .ne 29, 3) := by decide +kernel
theorem dX0_tellOthers_20 : decode cX0_tellOthers 20 = .ok (.iload_n 2, 1) := by decide +kernel
theorem dX0_tellOthers_21 : decode cX0_tellOthers 21 = .ok (.iload_n 1, 1) := by decide +kernel
theorem dX0_tellOthers_22 : decode cX0_tellOthers 22 = .ok (.if_icmp .eq 18, 3) := by decide +kernel
theorem dX0_tellOthers_25 : decode cX0_tellOthers 25 = .ok (.aload_n 0, 1) := by decide +kernel
theorem dX0_tellOthers_26 : decode cX0_tellOthers 26 = .ok (.iload_n 1, 1) := by decide +kernel
theorem dX0_tellOthers_27 : decode cX0_tellOthers 27 = .ok (.iload_n 2, 1) := by decide +kernel
theorem dX0_tellOthers_28 : decode cX0_tellOthers 28 = .ok (.invokevirtual 99, 3) := by decide +kernel
theorem dX0_tellOthers_31 : decode cX0_tellOthers 31 = .ok (.ifCond .eq 9, 3) := by decide +kernel
theorem dX0_tellOthers_34 : decode cX0_tellOthers 34 = .ok (.aload_n 0, 1) := by decide +kernel
theorem dX0_tellOthers_35 : decode cX0_tellOthers 35 = .ok (.iload_n 1, 1) := by decide +kernel
theorem dX0_tellOthers_36 : decode cX0_tellOthers 36 = .ok (.iload_n 2, 1) := by decide +kernel
theorem dX0_tellOthers_37 : decode cX0_tellOthers 37 = .ok (.invokevirtual 115, 3) := by decide +kernel
theorem dX0_tellOthers_40 : decode cX0_tellOthers 40 = .ok (.iinc 2 1, 3) := by decide +kernel
theorem dX0_tellOthers_43 : decode cX0_tellOthers 43 = .ok (.goto (-41), 3) := by decide +kernel
theorem dX0_tellOthers_46 : decode cX0_tellOthers 46 = .ok (.return_, 1) := by decide +kernel
theorem dX0_tell_0 : decode cX0_tell 0 = .ok (.aload_n 0, 1) := by decide +kernel
theorem dX0_tell_1 : decode cX0_tell 1 = .ok (.iload_n 1, 1) := by decide +kernel
theorem dX0_tell_2 : decode cX0_tell 2 = .ok (.iload_n 2, 1) := by decide +kernel
theorem dX0_tell_3 : decode cX0_tell 3 = .ok (.invokevirtual 109, 3) := by decide +kernel
theorem dX0_tell_6 : decode cX0_tell 6 = .ok (.ifCond .ne 4, 3) := by decide +kernel
theorem dX0_tell_9 : decode cX0_tell 9 = .ok (.return_, 1) := by decide +kernel
theorem dX0_tell_10 : decode cX0_tell 10 = .ok (.aload_n 0, 1) := by decide +kernel
theorem dX0_tell_11 : decode cX0_tell 11 = .ok (.getfield 24, 3) := by decide +kernel
theorem dX0_tell_14 : decode cX0_tell 14 = .ok (.iload_n 2, 1) := by decide +kernel
theorem dX0_tell_15 : decode cX0_tell 15 = .ok (.iconst 0, 1) := by decide +kernel
theorem dX0_tell_16 : decode cX0_tell 16 = .ok (.iastore, 1) := by decide +kernel
theorem dX0_tell_17 : decode cX0_tell 17 = .ok (.aload_n 0, 1) := by decide +kernel
theorem dX0_tell_18 : decode cX0_tell 18 = .ok (.getfield 15, 3) := by decide +kernel
theorem dX0_tell_21 : decode cX0_tell 21 = .ok (.iload_n 2, 1) := by decide +kernel
theorem dX0_tell_22 : decode cX0_tell 22 = .ok (.aload_n 0, 1) := by decide +kernel
theorem dX0_tell_23 : decode cX0_tell 23 = .ok (.getfield 9, 3) := by decide +kernel
theorem dX0_tell_26 : decode cX0_tell 26 = .ok (.iload_n 2, 1) := by decide +kernel
theorem dX0_tell_27 : decode cX0_tell 27 = .ok (.iaload, 1) := by decide +kernel
theorem dX0_tell_28 : decode cX0_tell 28 = .ok (.iastore, 1) := by decide +kernel
theorem dX0_tell_29 : decode cX0_tell 29 = .ok (.aload_n 0, 1) := by decide +kernel
theorem dX0_tell_30 : decode cX0_tell 30 = .ok (.getfield 37, 3) := by decide +kernel
theorem dX0_tell_33 : decode cX0_tell 33 = .ok (.iload_n 1, 1) := by decide +kernel
theorem dX0_tell_34 : decode cX0_tell 34 = .ok (.iload_n 2, 1) := by decide +kernel
theorem dX0_tell_35 : decode cX0_tell 35 = .ok (.invokevirtual 119, 3) := by decide +kernel
theorem dX0_tell_38 : decode cX0_tell 38 = .ok (.ifCond .eq 13, 3) := by decide +kernel
theorem dX0_tell_41 : decode cX0_tell 41 = .ok (.aload_n 0, 1) := by decide +kernel
theorem dX0_tell_42 : decode cX0_tell 42 = .ok (.dup, 1) := by decide +kernel
theorem dX0_tell_43 : decode cX0_tell 43 = .ok (.getfield 63, 3) := by decide +kernel
theorem dX0_tell_46 : decode cX0_tell 46 = .ok (.iconst 1, 1) := by decide +kernel
theorem dX0_tell_47 : decode cX0_tell 47 = .ok (.iadd, 1) := by decide +kernel
theorem dX0_tell_48 : decode cX0_tell 48 = .ok (.putfield 63, 3) := by decide +kernel
theorem dX0_tell_51 : decode cX0_tell 51 = .ok (.aload_n 0, 1) := by decide +kernel
theorem dX0_tell_52 : decode cX0_tell 52 = .ok (.getfield 37, 3) := by decide +kernel
theorem dX0_tell_55 : decode cX0_tell 55 = .ok (.iload_n 1, 1) := by decide +kernel
theorem dX0_tell_56 : decode cX0_tell 56 = .ok (.iload_n 2, 1) := by decide +kernel
theorem dX0_tell_57 : decode cX0_tell 57 = .ok (.invokevirtual 122, 3) := by decide +kernel
theorem dX0_tell_60 : decode cX0_tell 60 = .ok (.return_, 1) := by decide +kernel
theorem dX0_meetTerms_0 : decode cX0_meetTerms 0 = .ok (.aload_n 0, 1) := by decide +kernel
theorem dX0_meetTerms_1 : decode cX0_meetTerms 1 = .ok (.getfield 18, 3) := by decide +kernel
theorem dX0_meetTerms_4 : decode cX0_meetTerms 4 = .ok (.iload_n 2, 1) := by decide +kernel
theorem dX0_meetTerms_5 : decode cX0_meetTerms 5 = .ok (.iaload, 1) := by decide +kernel
theorem dX0_meetTerms_6 : decode cX0_meetTerms 6 = .ok (.aload_n 0, 1) := by decide +kernel
theorem dX0_meetTerms_7 : decode cX0_meetTerms 7 = .ok (.getfield 18, 3) := by decide +kernel
theorem dX0_meetTerms_10 : decode cX0_meetTerms 10 = .ok (.iload_n 1, 1) := by decide +kernel
theorem dX0_meetTerms_11 : decode cX0_meetTerms 11 = .ok (.iaload, 1) := by decide +kernel
theorem dX0_meetTerms_12 : decode cX0_meetTerms 12 = .ok (.if_icmp .le 16, 3) := by decide +kernel
theorem dX0_meetTerms_15 : decode cX0_meetTerms 15 = .ok (.aload_n 0, 1) := by decide +kernel
theorem dX0_meetTerms_16 : decode cX0_meetTerms 16 = .ok (.iload_n 1, 1) := by decide +kernel
theorem dX0_meetTerms_17 : decode cX0_meetTerms 17 = .ok (.aload_n 0, 1) := by decide +kernel
theorem dX0_meetTerms_18 : decode cX0_meetTerms 18 = .ok (.getfield 18, 3) := by decide +kernel
theorem dX0_meetTerms_21 : decode cX0_meetTerms 21 = .ok (.iload_n 2, 1) := by decide +kernel
theorem dX0_meetTerms_22 : decode cX0_meetTerms 22 = .ok (.iaload, 1) := by decide +kernel
theorem dX0_meetTerms_23 : decode cX0_meetTerms 23 = .ok (.invokevirtual 125, 3) := by decide +kernel
theorem dX0_meetTerms_26 : decode cX0_meetTerms 26 = .ok (.iconst 0, 1) := by decide +kernel
theorem dX0_meetTerms_27 : decode cX0_meetTerms 27 = .ok (.ireturn, 1) := by decide +kernel
theorem dX0_meetTerms_28 : decode cX0_meetTerms 28 = .ok (.aload_n 0, 1) := by decide +kernel
theorem dX0_meetTerms_29 : decode cX0_meetTerms 29 = .ok (.getfield 18, 3) := by decide +kernel
theorem dX0_meetTerms_32 : decode cX0_meetTerms 32 = .ok (.iload_n 2, 1) := by decide +kernel
theorem dX0_meetTerms_33 : decode cX0_meetTerms 33 = .ok (.iaload, 1) := by decide +kernel
theorem dX0_meetTerms_34 : decode cX0_meetTerms 34 = .ok (.aload_n 0, 1) := by decide +kernel
theorem dX0_meetTerms_35 : decode cX0_meetTerms 35 = .ok (.getfield 18, 3) := by decide +kernel
theorem dX0_meetTerms_38 : decode cX0_meetTerms 38 = .ok (.iload_n 1, 1) := by decide +kernel
theorem dX0_meetTerms_39 : decode cX0_meetTerms 39 = .ok (.iaload, 1) := by decide +kernel
theorem dX0_meetTerms_40 : decode cX0_meetTerms 40 = .ok (.if_icmp .ge 14, 3) := by decide +kernel
theorem dX0_meetTerms_43 : decode cX0_meetTerms 43 = .ok (.aload_n 0, 1) := by decide +kernel
theorem dX0_meetTerms_44 : decode cX0_meetTerms 44 = .ok (.iload_n 2, 1) := by decide +kernel
theorem dX0_meetTerms_45 : decode cX0_meetTerms 45 = .ok (.aload_n 0, 1) := by decide +kernel
theorem dX0_meetTerms_46 : decode cX0_meetTerms 46 = .ok (.getfield 18, 3) := by decide +kernel
theorem dX0_meetTerms_49 : decode cX0_meetTerms 49 = .ok (.iload_n 1, 1) := by decide +kernel
theorem dX0_meetTerms_50 : decode cX0_meetTerms 50 = .ok (.iaload, 1) := by decide +kernel
theorem dX0_meetTerms_51 : decode cX0_meetTerms 51 = .ok (.invokevirtual 125, 3) := by decide +kernel
theorem dX0_meetTerms_54 : decode cX0_meetTerms 54 = .ok (.iconst 1, 1) := by decide +kernel
theorem dX0_meetTerms_55 : decode cX0_meetTerms 55 = .ok (.ireturn, 1) := by decide +kernel
theorem dX0_takeTerm_0 : decode cX0_takeTerm 0 = .ok (.aload_n 0, 1) := by decide +kernel
theorem dX0_takeTerm_1 : decode cX0_takeTerm 1 = .ok (.getfield 18, 3) := by decide +kernel
theorem dX0_takeTerm_4 : decode cX0_takeTerm 4 = .ok (.iload_n 1, 1) := by decide +kernel
theorem dX0_takeTerm_5 : decode cX0_takeTerm 5 = .ok (.iload_n 2, 1) := by decide +kernel
theorem dX0_takeTerm_6 : decode cX0_takeTerm 6 = .ok (.iastore, 1) := by decide +kernel
theorem dX0_takeTerm_7 : decode cX0_takeTerm 7 = .ok (.aload_n 0, 1) := by decide +kernel
theorem dX0_takeTerm_8 : decode cX0_takeTerm 8 = .ok (.getfield 21, 3) := by decide +kernel
theorem dX0_takeTerm_11 : decode cX0_takeTerm 11 = .ok (.iload_n 1, 1) := by decide +kernel
theorem dX0_takeTerm_12 : decode cX0_takeTerm 12 = .ok (.iconst (-1), 1) := by decide +kernel
theorem dX0_takeTerm_13 : decode cX0_takeTerm 13 = .ok (.iastore, 1) := by decide +kernel
theorem dX0_takeTerm_14 : decode cX0_takeTerm 14 = .ok (.aload_n 0, 1) := by decide +kernel
theorem dX0_takeTerm_15 : decode cX0_takeTerm 15 = .ok (.getfield 24, 3) := by decide +kernel
theorem dX0_takeTerm_18 : decode cX0_takeTerm 18 = .ok (.iload_n 1, 1) := by decide +kernel
theorem dX0_takeTerm_19 : decode cX0_takeTerm 19 = .ok (.iconst 0, 1) := by decide +kernel
theorem dX0_takeTerm_20 : decode cX0_takeTerm 20 = .ok (.iastore, 1) := by decide +kernel
theorem dX0_takeTerm_21 : decode cX0_takeTerm 21 = .ok (.return_, 1) := by decide +kernel
theorem dX0_commit_0 : decode cX0_commit 0 = .ok (.aload_n 0, 1) := by decide +kernel
theorem dX0_commit_1 : decode cX0_commit 1 = .ok (.getfield 37, 3) := by decide +kernel
theorem dX0_commit_4 : decode cX0_commit 4 = .ok (.getfield 128, 3) := by decide +kernel
theorem dX0_commit_7 : decode cX0_commit 7 = .ok (.iload_n 1, 1) := by decide +kernel
theorem dX0_commit_8 : decode cX0_commit 8 = .ok (.iaload, 1) := by decide +kernel
theorem dX0_commit_9 : decode cX0_commit 9 = .ok (.istore_n 2, 1) := by decide +kernel
theorem dX0_commit_10 : decode cX0_commit 10 = .ok (.iload_n 2, 1) := by decide +kernel
theorem dX0_commit_11 : decode cX0_commit 11 = .ok (.aload_n 0, 1) := by decide +kernel
theorem dX0_commit_12 : decode cX0_commit 12 = .ok (.getfield 37, 3) := by decide +kernel
theorem dX0_commit_15 : decode cX0_commit 15 = .ok (.getfield 74, 3) := by decide +kernel
theorem dX0_commit_18 : decode cX0_commit 18 = .ok (.iload_n 1, 1) := by decide +kernel
theorem dX0_commit_19 : decode cX0_commit 19 = .ok (.iaload, 1) := by decide +kernel
theorem dX0_commit_20 : decode cX0_commit 20 = .ok (.if_icmp .le 53, 3) := by decide +kernel
theorem dX0_commit_23 : decode cX0_commit 23 = .ok (.aload_n 0, 1) := by decide +kernel
theorem dX0_commit_24 : decode cX0_commit 24 = .ok (.getfield 37, 3) := by decide +kernel
theorem dX0_commit_27 : decode cX0_commit 27 = .ok (.iload_n 1, 1) := by decide +kernel
theorem dX0_commit_28 : decode cX0_commit 28 = .ok (.iload_n 2, 1) := by decide +kernel
theorem dX0_commit_29 : decode cX0_commit 29 = .ok (.iconst 1, 1) := by decide +kernel
theorem dX0_commit_30 : decode cX0_commit 30 = .ok (.isub, 1) := by decide +kernel
theorem dX0_commit_31 : decode cX0_commit 31 = .ok (.invokevirtual 131, 3) := by decide +kernel
theorem dX0_commit_34 : decode cX0_commit 34 = .ok (.aload_n 0, 1) := by decide +kernel
theorem dX0_commit_35 : decode cX0_commit 35 = .ok (.getfield 18, 3) := by decide +kernel
theorem dX0_commit_38 : decode cX0_commit 38 = .ok (.iload_n 1, 1) := by decide +kernel
theorem dX0_commit_39 : decode cX0_commit 39 = .ok (.iaload, 1) := by decide +kernel
theorem dX0_commit_40 : decode cX0_commit 40 = .ok (.if_icmp .ne 27, 3) := by decide +kernel
theorem dX0_commit_43 : decode cX0_commit 43 = .ok (.aload_n 0, 1) := by decide +kernel
theorem dX0_commit_44 : decode cX0_commit 44 = .ok (.aload_n 0, 1) := by decide +kernel
theorem dX0_commit_45 : decode cX0_commit 45 = .ok (.iload_n 1, 1) := by decide +kernel
theorem dX0_commit_46 : decode cX0_commit 46 = .ok (.iload_n 2, 1) := by decide +kernel
theorem dX0_commit_47 : decode cX0_commit 47 = .ok (.invokevirtual 134, 3) := by decide +kernel
theorem dX0_commit_50 : decode cX0_commit 50 = .ok (.invokevirtual 106, 3) := by decide +kernel
theorem dX0_commit_53 : decode cX0_commit 53 = .ok (.ifCond .eq 14, 3) := by decide +kernel
theorem dX0_commit_56 : decode cX0_commit 56 = .ok (.aload_n 0, 1) := by decide +kernel
theorem dX0_commit_57 : decode cX0_commit 57 = .ok (.getfield 37, 3) := by decide +kernel
theorem dX0_commit_60 : decode cX0_commit 60 = .ok (.getfield 74, 3) := by decide +kernel
theorem dX0_commit_63 : decode cX0_commit 63 = .ok (.iload_n 1, 1) := by decide +kernel
theorem dX0_commit_64 : decode cX0_commit 64 = .ok (.iload_n 2, 1) := by decide +kernel
theorem dX0_commit_65 : decode cX0_commit 65 = .ok (.iastore, 1) := by decide +kernel
theorem dX0_commit_66 : decode cX0_commit 66 = .ok (.return_, 1) := by decide +kernel
theorem dX0_commit_67 : decode cX0_commit 67 = .ok (.iinc 2 (-1), 3) := by decide +kernel
theorem dX0_commit_70 : decode cX0_commit 70 = .ok (.goto (-60), 3) := by decide +kernel
theorem dX0_commit_73 : decode cX0_commit 73 = .ok (.return_, 1) := by decide +kernel
theorem dX0_hearersThatAgree_0 : decode cX0_hearersThatAgree 0 = .ok (.iconst 0, 1) := by decide +kernel
theorem dX0_hearersThatAgree_1 : decode cX0_hearersThatAgree 1 = .ok (.istore_n 3, 1) := by decide +kernel
theorem dX0_hearersThatAgree_2 : decode cX0_hearersThatAgree 2 = .ok (.iconst 0, 1) := by decide +kernel
theorem dX0_hearersThatAgree_3 : decode cX0_hearersThatAgree 3 = .ok (.istore 4, 2) := by decide +kernel
theorem dX0_hearersThatAgree_5 : decode cX0_hearersThatAgree 5 = .ok (.iload 4, 2) := by decide +kernel
theorem dX0_hearersThatAgree_7 : decode cX0_hearersThatAgree 7 = .ok (.aload_n 0, 1) := by decide +kernel
theorem dX0_hearersThatAgree_8 : decode cX0_hearersThatAgree 8 = .ok (.getfield 50, 3) := by decide +kernel
theorem dX0_hearersThatAgree_11 : decode cX0_hearersThatAgree 11 = .ok (.if_icmp .ge 36, 3) := by decide +kernel
theorem dX0_hearersThatAgree_14 : decode cX0_hearersThatAgree 14 = .ok (.aload_n 0, 1) := by decide +kernel
theorem dX0_hearersThatAgree_15 : decode cX0_hearersThatAgree 15 = .ok (.iload_n 1, 1) := by decide +kernel
theorem dX0_hearersThatAgree_16 : decode cX0_hearersThatAgree 16 = .ok (.iload 4, 2) := by decide +kernel
theorem dX0_hearersThatAgree_18 : decode cX0_hearersThatAgree 18 = .ok (.invokevirtual 99, 3) := by decide +kernel
theorem dX0_hearersThatAgree_21 : decode cX0_hearersThatAgree 21 = .ok (.ifCond .eq 20, 3) := by decide +kernel
theorem dX0_hearersThatAgree_24 : decode cX0_hearersThatAgree 24 = .ok (.aload_n 0, 1) := by decide +kernel
theorem dX0_hearersThatAgree_25 : decode cX0_hearersThatAgree 25 = .ok (.getfield 37, 3) := by decide +kernel
theorem dX0_hearersThatAgree_28 : decode cX0_hearersThatAgree 28 = .ok (.iload_n 1, 1) := by decide +kernel
theorem dX0_hearersThatAgree_29 : decode cX0_hearersThatAgree 29 = .ok (.iload 4, 2) := by decide +kernel
theorem dX0_hearersThatAgree_31 : decode cX0_hearersThatAgree 31 = .ok (.invokevirtual 137, 3) := by decide +kernel
theorem dX0_hearersThatAgree_34 : decode cX0_hearersThatAgree 34 = .ok (.iload_n 2, 1) := by decide +kernel
theorem dX0_hearersThatAgree_35 : decode cX0_hearersThatAgree 35 = .ok (.if_icmp .lt 6, 3) := by decide +kernel
theorem dX0_hearersThatAgree_38 : decode cX0_hearersThatAgree 38 = .ok (.iinc 3 1, 3) := by decide +kernel
theorem dX0_hearersThatAgree_41 : decode cX0_hearersThatAgree 41 = .ok (.iinc 4 1, 3) := by decide +kernel
theorem dX0_hearersThatAgree_44 : decode cX0_hearersThatAgree 44 = .ok (.goto (-39), 3) := by decide +kernel
theorem dX0_hearersThatAgree_47 : decode cX0_hearersThatAgree 47 = .ok (.iload_n 3, 1) := by decide +kernel
theorem dX0_hearersThatAgree_48 : decode cX0_hearersThatAgree 48 = .ok (.ireturn, 1) := by decide +kernel
theorem dX0_leadsNow_0 : decode cX0_leadsNow 0 = .ok (.aload_n 0, 1) := by decide +kernel
theorem dX0_leadsNow_1 : decode cX0_leadsNow 1 = .ok (.getfield 30, 3) := by decide +kernel
theorem dX0_leadsNow_4 : decode cX0_leadsNow 4 = .ok (.iload_n 1, 1) := by decide +kernel
theorem dX0_leadsNow_5 : decode cX0_leadsNow 5 = .ok (.baload, 1) := by decide +kernel
theorem dX0_leadsNow_6 : decode cX0_leadsNow 6 = .ok (.ifCond .eq 17, 3) := by decide +kernel
theorem dX0_leadsNow_9 : decode cX0_leadsNow 9 = .ok (.aload_n 0, 1) := by decide +kernel
theorem dX0_leadsNow_10 : decode cX0_leadsNow 10 = .ok (.getfield 24, 3) := by decide +kernel
theorem dX0_leadsNow_13 : decode cX0_leadsNow 13 = .ok (.iload_n 1, 1) := by decide +kernel
theorem dX0_leadsNow_14 : decode cX0_leadsNow 14 = .ok (.iaload, 1) := by decide +kernel
theorem dX0_leadsNow_15 : decode cX0_leadsNow 15 = .ok (.iconst 2, 1) := by decide +kernel
theorem dX0_leadsNow_16 : decode cX0_leadsNow 16 = .ok (.if_icmp .ne 7, 3) := by decide +kernel
theorem dX0_leadsNow_19 : decode cX0_leadsNow 19 = .ok (.iconst 1, 1) := by decide +kernel
theorem dX0_leadsNow_20 : decode cX0_leadsNow 20 = .ok (.goto 4, 3) := by decide +kernel
theorem dX0_leadsNow_23 : decode cX0_leadsNow 23 = .ok (.iconst 0, 1) := by decide +kernel
theorem dX0_leadsNow_24 : decode cX0_leadsNow 24 = .ok (.ireturn, 1) := by decide +kernel
theorem dX0_hear_0 : decode cX0_hear 0 = .ok (.aload_n 0, 1) := by decide +kernel
theorem dX0_hear_1 : decode cX0_hear 1 = .ok (.getfield 30, 3) := by decide +kernel
theorem dX0_hear_4 : decode cX0_hear 4 = .ok (.iload_n 1, 1) := by decide +kernel
theorem dX0_hear_5 : decode cX0_hear 5 = .ok (.baload, 1) := by decide +kernel
theorem dX0_hear_6 : decode cX0_hear 6 = .ok (.ifCond .eq 31, 3) := by decide +kernel
theorem dX0_hear_9 : decode cX0_hear 9 = .ok (.aload_n 0, 1) := by decide +kernel
theorem dX0_hear_10 : decode cX0_hear 10 = .ok (.getfield 30, 3) := by decide +kernel
theorem dX0_hear_13 : decode cX0_hear 13 = .ok (.iload_n 2, 1) := by decide +kernel
theorem dX0_hear_14 : decode cX0_hear 14 = .ok (.baload, 1) := by decide +kernel
theorem dX0_hear_15 : decode cX0_hear 15 = .ok (.ifCond .eq 22, 3) := by decide +kernel
theorem dX0_hear_18 : decode cX0_hear 18 = .ok (.aload_n 0, 1) := by decide +kernel
theorem dX0_hear_19 : decode cX0_hear 19 = .ok (.getfield 27, 3) := by decide +kernel
theorem dX0_hear_22 : decode cX0_hear 22 = .ok (.iload_n 1, 1) := by decide +kernel
theorem dX0_hear_23 : decode cX0_hear 23 = .ok (.iaload, 1) := by decide +kernel
theorem dX0_hear_24 : decode cX0_hear 24 = .ok (.aload_n 0, 1) := by decide +kernel
theorem dX0_hear_25 : decode cX0_hear 25 = .ok (.getfield 27, 3) := by decide +kernel
theorem dX0_hear_28 : decode cX0_hear 28 = .ok (.iload_n 2, 1) := by decide +kernel
theorem dX0_hear_29 : decode cX0_hear 29 = .ok (.iaload, 1) := by decide +kernel
theorem dX0_hear_30 : decode cX0_hear 30 = .ok (.if_icmp .ne 7, 3) := by decide +kernel
theorem dX0_hear_33 : decode cX0_hear 33 = .ok (.iconst 1, 1) := by decide +kernel
theorem dX0_hear_34 : decode cX0_hear 34 = .ok (.goto 4, 3) := by decide +kernel
theorem dX0_hear_37 : decode cX0_hear 37 = .ok (.iconst 0, 1) := by decide +kernel
theorem dX0_hear_38 : decode cX0_hear 38 = .ok (.ireturn, 1) := by decide +kernel
theorem dX0_isMoreThanHalf_0 : decode cX0_isMoreThanHalf 0 = .ok (.iload_n 1, 1) := by decide +kernel
theorem dX0_isMoreThanHalf_1 : decode cX0_isMoreThanHalf 1 = .ok (.aload_n 0, 1) := by decide +kernel
theorem dX0_isMoreThanHalf_2 : decode cX0_isMoreThanHalf 2 = .ok (.getfield 50, 3) := by decide +kernel
theorem dX0_isMoreThanHalf_5 : decode cX0_isMoreThanHalf 5 = .ok (.iconst 2, 1) := by decide +kernel
theorem dX0_isMoreThanHalf_6 : decode cX0_isMoreThanHalf 6 = .ok (.idiv, 1) := by decide +kernel
theorem dX0_isMoreThanHalf_7 : decode cX0_isMoreThanHalf 7 = .ok (.if_icmp .le 7, 3) := by decide +kernel
theorem dX0_isMoreThanHalf_10 : decode cX0_isMoreThanHalf 10 = .ok (.iconst 1, 1) := by decide +kernel
theorem dX0_isMoreThanHalf_11 : decode cX0_isMoreThanHalf 11 = .ok (.goto 4, 3) := by decide +kernel
theorem dX0_isMoreThanHalf_14 : decode cX0_isMoreThanHalf 14 = .ok (.iconst 0, 1) := by decide +kernel
theorem dX0_isMoreThanHalf_15 : decode cX0_isMoreThanHalf 15 = .ok (.ireturn, 1) := by decide +kernel
theorem dX0_isLed_0 : decode cX0_isLed 0 = .ok (.iconst 0, 1) := by decide +kernel
theorem dX0_isLed_1 : decode cX0_isLed 1 = .ok (.istore_n 1, 1) := by decide +kernel
theorem dX0_isLed_2 : decode cX0_isLed 2 = .ok (.iload_n 1, 1) := by decide +kernel
theorem dX0_isLed_3 : decode cX0_isLed 3 = .ok (.aload_n 0, 1) := by decide +kernel
theorem dX0_isLed_4 : decode cX0_isLed 4 = .ok (.getfield 50, 3) := by decide +kernel
theorem dX0_isLed_7 : decode cX0_isLed 7 = .ok (.if_icmp .ge 36, 3) := by decide +kernel
theorem dX0_isLed_10 : decode cX0_isLed 10 = .ok (.aload_n 0, 1) := by decide +kernel
theorem dX0_isLed_11 : decode cX0_isLed 11 = .ok (.iload_n 1, 1) := by decide +kernel
theorem dX0_isLed_12 : decode cX0_isLed 12 = .ok (.invokevirtual 89, 3) := by decide +kernel
theorem dX0_isLed_15 : decode cX0_isLed 15 = .ok (.ifCond .eq 22, 3) := by decide +kernel
theorem dX0_isLed_18 : decode cX0_isLed 18 = .ok (.aload_n 0, 1) := by decide +kernel
theorem dX0_isLed_19 : decode cX0_isLed 19 = .ok (.aload_n 0, 1) := by decide +kernel
theorem dX0_isLed_20 : decode cX0_isLed 20 = .ok (.aload_n 0, 1) := by decide +kernel
theorem dX0_isLed_21 : decode cX0_isLed 21 = .ok (.getfield 27, 3) := by decide +kernel
theorem dX0_isLed_24 : decode cX0_isLed 24 = .ok (.iload_n 1, 1) := by decide +kernel
theorem dX0_isLed_25 : decode cX0_isLed 25 = .ok (.iaload, 1) := by decide +kernel
theorem dX0_isLed_26 : decode cX0_isLed 26 = .ok (.invokevirtual 140, 3) := by decide +kernel
theorem dX0_isLed_29 : decode cX0_isLed 29 = .ok (.invokevirtual 106, 3) := by decide +kernel
theorem dX0_isLed_32 : decode cX0_isLed 32 = .ok (.ifCond .eq 5, 3) := by decide +kernel
theorem dX0_isLed_35 : decode cX0_isLed 35 = .ok (.iconst 1, 1) := by decide +kernel
theorem dX0_isLed_36 : decode cX0_isLed 36 = .ok (.ireturn, 1) := by decide +kernel
theorem dX0_isLed_37 : decode cX0_isLed 37 = .ok (.iinc 1 1, 3) := by decide +kernel
theorem dX0_isLed_40 : decode cX0_isLed 40 = .ok (.goto (-38), 3) := by decide +kernel
theorem dX0_isLed_43 : decode cX0_isLed 43 = .ok (.iconst 0, 1) := by decide +kernel
theorem dX0_isLed_44 : decode cX0_isLed 44 = .ok (.ireturn, 1) := by decide +kernel
theorem dX0_upIn_0 : decode cX0_upIn 0 = .ok (.iconst 0, 1) := by decide +kernel
theorem dX0_upIn_1 : decode cX0_upIn 1 = .ok (.istore_n 2, 1) := by decide +kernel
theorem dX0_upIn_2 : decode cX0_upIn 2 = .ok (.iconst 0, 1) := by decide +kernel
theorem dX0_upIn_3 : decode cX0_upIn 3 = .ok (.istore_n 3, 1) := by decide +kernel
theorem dX0_upIn_4 : decode cX0_upIn 4 = .ok (.iload_n 3, 1) := by decide +kernel
theorem dX0_upIn_5 : decode cX0_upIn 5 = .ok (.aload_n 0, 1) := by decide +kernel
theorem dX0_upIn_6 : decode cX0_upIn 6 = .ok (.getfield 50, 3) := by decide +kernel
theorem dX0_upIn_9 : decode cX0_upIn 9 = .ok (.if_icmp .ge 31, 3) := by decide +kernel
theorem dX0_upIn_12 : decode cX0_upIn 12 = .ok (.aload_n 0, 1) := by decide +kernel
theorem dX0_upIn_13 : decode cX0_upIn 13 = .ok (.getfield 30, 3) := by decide +kernel
theorem dX0_upIn_16 : decode cX0_upIn 16 = .ok (.iload_n 3, 1) := by decide +kernel
theorem dX0_upIn_17 : decode cX0_upIn 17 = .ok (.baload, 1) := by decide +kernel
theorem dX0_upIn_18 : decode cX0_upIn 18 = .ok (.ifCond .eq 16, 3) := by decide +kernel
theorem dX0_upIn_21 : decode cX0_upIn 21 = .ok (.aload_n 0, 1) := by decide +kernel
theorem dX0_upIn_22 : decode cX0_upIn 22 = .ok (.getfield 27, 3) := by decide +kernel
theorem dX0_upIn_25 : decode cX0_upIn 25 = .ok (.iload_n 3, 1) := by decide +kernel
theorem dX0_upIn_26 : decode cX0_upIn 26 = .ok (.iaload, 1) := by decide +kernel
theorem dX0_upIn_27 : decode cX0_upIn 27 = .ok (.iload_n 1, 1) := by decide +kernel
theorem dX0_upIn_28 : decode cX0_upIn 28 = .ok (.if_icmp .ne 6, 3) := by decide +kernel
theorem dX0_upIn_31 : decode cX0_upIn 31 = .ok (.iinc 2 1, 3) := by decide +kernel
theorem dX0_upIn_34 : decode cX0_upIn 34 = .ok (.iinc 3 1, 3) := by decide +kernel
theorem dX0_upIn_37 : decode cX0_upIn 37 = .ok (.goto (-33), 3) := by decide +kernel
theorem dX0_upIn_40 : decode cX0_upIn 40 = .ok (.iload_n 2, 1) := by decide +kernel
theorem dX0_upIn_41 : decode cX0_upIn 41 = .ok (.ireturn, 1) := by decide +kernel
theorem dX0_newestIn_0 : decode cX0_newestIn 0 = .ok (.iconst (-1), 1) := by decide +kernel
theorem dX0_newestIn_1 : decode cX0_newestIn 1 = .ok (.istore_n 2, 1) := by decide +kernel
theorem dX0_newestIn_2 : decode cX0_newestIn 2 = .ok (.iconst 0, 1) := by decide +kernel
theorem dX0_newestIn_3 : decode cX0_newestIn 3 = .ok (.istore_n 3, 1) := by decide +kernel
theorem dX0_newestIn_4 : decode cX0_newestIn 4 = .ok (.iload_n 3, 1) := by decide +kernel
theorem dX0_newestIn_5 : decode cX0_newestIn 5 = .ok (.aload_n 0, 1) := by decide +kernel
theorem dX0_newestIn_6 : decode cX0_newestIn 6 = .ok (.getfield 50, 3) := by decide +kernel
theorem dX0_newestIn_9 : decode cX0_newestIn 9 = .ok (.if_icmp .ge 47, 3) := by decide +kernel
theorem dX0_newestIn_12 : decode cX0_newestIn 12 = .ok (.aload_n 0, 1) := by decide +kernel
theorem dX0_newestIn_13 : decode cX0_newestIn 13 = .ok (.getfield 30, 3) := by decide +kernel
theorem dX0_newestIn_16 : decode cX0_newestIn 16 = .ok (.iload_n 3, 1) := by decide +kernel
theorem dX0_newestIn_17 : decode cX0_newestIn 17 = .ok (.baload, 1) := by decide +kernel
theorem dX0_newestIn_18 : decode cX0_newestIn 18 = .ok (.ifCond .eq 32, 3) := by decide +kernel
theorem dX0_newestIn_21 : decode cX0_newestIn 21 = .ok (.aload_n 0, 1) := by decide +kernel
theorem dX0_newestIn_22 : decode cX0_newestIn 22 = .ok (.getfield 27, 3) := by decide +kernel
theorem dX0_newestIn_25 : decode cX0_newestIn 25 = .ok (.iload_n 3, 1) := by decide +kernel
theorem dX0_newestIn_26 : decode cX0_newestIn 26 = .ok (.iaload, 1) := by decide +kernel
theorem dX0_newestIn_27 : decode cX0_newestIn 27 = .ok (.iload_n 1, 1) := by decide +kernel
theorem dX0_newestIn_28 : decode cX0_newestIn 28 = .ok (.if_icmp .ne 22, 3) := by decide +kernel
theorem dX0_newestIn_31 : decode cX0_newestIn 31 = .ok (.iload_n 2, 1) := by decide +kernel
theorem dX0_newestIn_32 : decode cX0_newestIn 32 = .ok (.iconst (-1), 1) := by decide +kernel
theorem dX0_newestIn_33 : decode cX0_newestIn 33 = .ok (.if_icmp .eq 15, 3) := by decide +kernel
theorem dX0_newestIn_36 : decode cX0_newestIn 36 = .ok (.aload_n 0, 1) := by decide +kernel
theorem dX0_newestIn_37 : decode cX0_newestIn 37 = .ok (.getfield 37, 3) := by decide +kernel
theorem dX0_newestIn_40 : decode cX0_newestIn 40 = .ok (.iload_n 2, 1) := by decide +kernel
theorem dX0_newestIn_41 : decode cX0_newestIn 41 = .ok (.iload_n 3, 1) := by decide +kernel
theorem dX0_newestIn_42 : decode cX0_newestIn 42 = .ok (.invokevirtual 112, 3) := by decide +kernel
theorem dX0_newestIn_45 : decode cX0_newestIn 45 = .ok (.ifCond .ne 5, 3) := by decide +kernel
theorem dX0_newestIn_48 : decode cX0_newestIn 48 = .ok (.iload_n 3, 1) := by decide +kernel
theorem dX0_newestIn_49 : decode cX0_newestIn 49 = .ok (.istore_n 2, 1) := by decide +kernel
theorem dX0_newestIn_50 : decode cX0_newestIn 50 = .ok (.iinc 3 1, 3) := by decide +kernel
theorem dX0_newestIn_53 : decode cX0_newestIn 53 = .ok (.goto (-49), 3) := by decide +kernel
theorem dX0_newestIn_56 : decode cX0_newestIn 56 = .ok (.iload_n 2, 1) := by decide +kernel
theorem dX0_newestIn_57 : decode cX0_newestIn 57 = .ok (.ireturn, 1) := by decide +kernel
theorem dX0_ofBoat_0 : decode cX0_ofBoat 0 = .ok (.iload_n 2, 1) := by decide +kernel
theorem dX0_ofBoat_1 : decode cX0_ofBoat 1 = .ok (.tableswitch 128 0 8 #[51, 58, 65, 72, 79, 94, 101, 108, 118], 51) := by decide +kernel
theorem dX0_ofBoat_52 : decode cX0_ofBoat 52 = .ok (.aload_n 0, 1) := by decide +kernel
theorem dX0_ofBoat_53 : decode cX0_ofBoat 53 = .ok (.getfield 18, 3) := by decide +kernel
theorem dX0_ofBoat_56 : decode cX0_ofBoat 56 = .ok (.iload_n 1, 1) := by decide +kernel
theorem dX0_ofBoat_57 : decode cX0_ofBoat 57 = .ok (.iaload, 1) := by decide +kernel
theorem dX0_ofBoat_58 : decode cX0_ofBoat 58 = .ok (.ireturn, 1) := by decide +kernel
theorem dX0_ofBoat_59 : decode cX0_ofBoat 59 = .ok (.aload_n 0, 1) := by decide +kernel
theorem dX0_ofBoat_60 : decode cX0_ofBoat 60 = .ok (.getfield 21, 3) := by decide +kernel
theorem dX0_ofBoat_63 : decode cX0_ofBoat 63 = .ok (.iload_n 1, 1) := by decide +kernel
theorem dX0_ofBoat_64 : decode cX0_ofBoat 64 = .ok (.iaload, 1) := by decide +kernel
theorem dX0_ofBoat_65 : decode cX0_ofBoat 65 = .ok (.ireturn, 1) := by decide +kernel
theorem dX0_ofBoat_66 : decode cX0_ofBoat 66 = .ok (.aload_n 0, 1) := by decide +kernel
theorem dX0_ofBoat_67 : decode cX0_ofBoat 67 = .ok (.getfield 24, 3) := by decide +kernel
theorem dX0_ofBoat_70 : decode cX0_ofBoat 70 = .ok (.iload_n 1, 1) := by decide +kernel
theorem dX0_ofBoat_71 : decode cX0_ofBoat 71 = .ok (.iaload, 1) := by decide +kernel
theorem dX0_ofBoat_72 : decode cX0_ofBoat 72 = .ok (.ireturn, 1) := by decide +kernel
theorem dX0_ofBoat_73 : decode cX0_ofBoat 73 = .ok (.aload_n 0, 1) := by decide +kernel
theorem dX0_ofBoat_74 : decode cX0_ofBoat 74 = .ok (.getfield 27, 3) := by decide +kernel
theorem dX0_ofBoat_77 : decode cX0_ofBoat 77 = .ok (.iload_n 1, 1) := by decide +kernel
theorem dX0_ofBoat_78 : decode cX0_ofBoat 78 = .ok (.iaload, 1) := by decide +kernel
theorem dX0_ofBoat_79 : decode cX0_ofBoat 79 = .ok (.ireturn, 1) := by decide +kernel
theorem dX0_ofBoat_80 : decode cX0_ofBoat 80 = .ok (.aload_n 0, 1) := by decide +kernel
theorem dX0_ofBoat_81 : decode cX0_ofBoat 81 = .ok (.getfield 30, 3) := by decide +kernel
theorem dX0_ofBoat_84 : decode cX0_ofBoat 84 = .ok (.iload_n 1, 1) := by decide +kernel
theorem dX0_ofBoat_85 : decode cX0_ofBoat 85 = .ok (.baload, 1) := by decide +kernel
theorem dX0_ofBoat_86 : decode cX0_ofBoat 86 = .ok (.ifCond .eq 7, 3) := by decide +kernel
theorem dX0_ofBoat_89 : decode cX0_ofBoat 89 = .ok (.iconst 1, 1) := by decide +kernel
theorem dX0_ofBoat_90 : decode cX0_ofBoat 90 = .ok (.goto 4, 3) := by decide +kernel
theorem dX0_ofBoat_93 : decode cX0_ofBoat 93 = .ok (.iconst 0, 1) := by decide +kernel
theorem dX0_ofBoat_94 : decode cX0_ofBoat 94 = .ok (.ireturn, 1) := by decide +kernel
theorem dX0_ofBoat_95 : decode cX0_ofBoat 95 = .ok (.aload_n 0, 1) := by decide +kernel
theorem dX0_ofBoat_96 : decode cX0_ofBoat 96 = .ok (.getfield 9, 3) := by decide +kernel
theorem dX0_ofBoat_99 : decode cX0_ofBoat 99 = .ok (.iload_n 1, 1) := by decide +kernel
theorem dX0_ofBoat_100 : decode cX0_ofBoat 100 = .ok (.iaload, 1) := by decide +kernel
theorem dX0_ofBoat_101 : decode cX0_ofBoat 101 = .ok (.ireturn, 1) := by decide +kernel
theorem dX0_ofBoat_102 : decode cX0_ofBoat 102 = .ok (.aload_n 0, 1) := by decide +kernel
theorem dX0_ofBoat_103 : decode cX0_ofBoat 103 = .ok (.getfield 15, 3) := by decide +kernel
theorem dX0_ofBoat_106 : decode cX0_ofBoat 106 = .ok (.iload_n 1, 1) := by decide +kernel
theorem dX0_ofBoat_107 : decode cX0_ofBoat 107 = .ok (.iaload, 1) := by decide +kernel
theorem dX0_ofBoat_108 : decode cX0_ofBoat 108 = .ok (.ireturn, 1) := by decide +kernel
theorem dX0_ofBoat_109 : decode cX0_ofBoat 109 = .ok (.aload_n 0, 1) := by decide +kernel
theorem dX0_ofBoat_110 : decode cX0_ofBoat 110 = .ok (.getfield 37, 3) := by decide +kernel
theorem dX0_ofBoat_113 : decode cX0_ofBoat 113 = .ok (.getfield 128, 3) := by decide +kernel
theorem dX0_ofBoat_116 : decode cX0_ofBoat 116 = .ok (.iload_n 1, 1) := by decide +kernel
theorem dX0_ofBoat_117 : decode cX0_ofBoat 117 = .ok (.iaload, 1) := by decide +kernel
theorem dX0_ofBoat_118 : decode cX0_ofBoat 118 = .ok (.ireturn, 1) := by decide +kernel
theorem dX0_ofBoat_119 : decode cX0_ofBoat 119 = .ok (.aload_n 0, 1) := by decide +kernel
theorem dX0_ofBoat_120 : decode cX0_ofBoat 120 = .ok (.getfield 37, 3) := by decide +kernel
theorem dX0_ofBoat_123 : decode cX0_ofBoat 123 = .ok (.getfield 74, 3) := by decide +kernel
theorem dX0_ofBoat_126 : decode cX0_ofBoat 126 = .ok (.iload_n 1, 1) := by decide +kernel
theorem dX0_ofBoat_127 : decode cX0_ofBoat 127 = .ok (.iaload, 1) := by decide +kernel
theorem dX0_ofBoat_128 : decode cX0_ofBoat 128 = .ok (.ireturn, 1) := by decide +kernel
theorem dX0_ofBoat_129 : decode cX0_ofBoat 129 = .ok (.aload_n 0, 1) := by decide +kernel
theorem dX0_ofBoat_130 : decode cX0_ofBoat 130 = .ok (.getfield 37, 3) := by decide +kernel
theorem dX0_ofBoat_133 : decode cX0_ofBoat 133 = .ok (.iload_n 1, 1) := by decide +kernel
theorem dX0_ofBoat_134 : decode cX0_ofBoat 134 = .ok (.invokevirtual 144, 3) := by decide +kernel
theorem dX0_ofBoat_137 : decode cX0_ofBoat 137 = .ok (.ireturn, 1) := by decide +kernel
theorem dX0_ofEntry_0 : decode cX0_ofEntry 0 = .ok (.iload_n 3, 1) := by decide +kernel
theorem dX0_ofEntry_1 : decode cX0_ofEntry 1 = .ok (.lookupswitch 47 #[(0, 27), (1, 37)], 27) := by decide +kernel
theorem dX0_ofEntry_28 : decode cX0_ofEntry 28 = .ok (.aload_n 0, 1) := by decide +kernel
theorem dX0_ofEntry_29 : decode cX0_ofEntry 29 = .ok (.getfield 37, 3) := by decide +kernel
theorem dX0_ofEntry_32 : decode cX0_ofEntry 32 = .ok (.iload_n 1, 1) := by decide +kernel
theorem dX0_ofEntry_33 : decode cX0_ofEntry 33 = .ok (.iload_n 2, 1) := by decide +kernel
theorem dX0_ofEntry_34 : decode cX0_ofEntry 34 = .ok (.invokevirtual 131, 3) := by decide +kernel
theorem dX0_ofEntry_37 : decode cX0_ofEntry 37 = .ok (.ireturn, 1) := by decide +kernel
theorem dX0_ofEntry_38 : decode cX0_ofEntry 38 = .ok (.aload_n 0, 1) := by decide +kernel
theorem dX0_ofEntry_39 : decode cX0_ofEntry 39 = .ok (.getfield 37, 3) := by decide +kernel
theorem dX0_ofEntry_42 : decode cX0_ofEntry 42 = .ok (.iload_n 1, 1) := by decide +kernel
theorem dX0_ofEntry_43 : decode cX0_ofEntry 43 = .ok (.iload_n 2, 1) := by decide +kernel
theorem dX0_ofEntry_44 : decode cX0_ofEntry 44 = .ok (.invokevirtual 147, 3) := by decide +kernel
theorem dX0_ofEntry_47 : decode cX0_ofEntry 47 = .ok (.ireturn, 1) := by decide +kernel
theorem dX0_ofEntry_48 : decode cX0_ofEntry 48 = .ok (.aload_n 0, 1) := by decide +kernel
theorem dX0_ofEntry_49 : decode cX0_ofEntry 49 = .ok (.iload_n 1, 1) := by decide +kernel
theorem dX0_ofEntry_50 : decode cX0_ofEntry 50 = .ok (.iload_n 2, 1) := by decide +kernel
theorem dX0_ofEntry_51 : decode cX0_ofEntry 51 = .ok (.iconst 1, 1) := by decide +kernel
theorem dX0_ofEntry_52 : decode cX0_ofEntry 52 = .ok (.iadd, 1) := by decide +kernel
theorem dX0_ofEntry_53 : decode cX0_ofEntry 53 = .ok (.invokevirtual 150, 3) := by decide +kernel
theorem dX0_ofEntry_56 : decode cX0_ofEntry 56 = .ok (.ireturn, 1) := by decide +kernel
theorem dX0_boatsThatAgree_0 : decode cX0_boatsThatAgree 0 = .ok (.iconst 0, 1) := by decide +kernel
theorem dX0_boatsThatAgree_1 : decode cX0_boatsThatAgree 1 = .ok (.istore_n 3, 1) := by decide +kernel
theorem dX0_boatsThatAgree_2 : decode cX0_boatsThatAgree 2 = .ok (.iconst 0, 1) := by decide +kernel
theorem dX0_boatsThatAgree_3 : decode cX0_boatsThatAgree 3 = .ok (.istore 4, 2) := by decide +kernel
theorem dX0_boatsThatAgree_5 : decode cX0_boatsThatAgree 5 = .ok (.iload 4, 2) := by decide +kernel
theorem dX0_boatsThatAgree_7 : decode cX0_boatsThatAgree 7 = .ok (.aload_n 0, 1) := by decide +kernel
theorem dX0_boatsThatAgree_8 : decode cX0_boatsThatAgree 8 = .ok (.getfield 50, 3) := by decide +kernel
theorem dX0_boatsThatAgree_11 : decode cX0_boatsThatAgree 11 = .ok (.if_icmp .ge 26, 3) := by decide +kernel
theorem dX0_boatsThatAgree_14 : decode cX0_boatsThatAgree 14 = .ok (.aload_n 0, 1) := by decide +kernel
theorem dX0_boatsThatAgree_15 : decode cX0_boatsThatAgree 15 = .ok (.getfield 37, 3) := by decide +kernel
theorem dX0_boatsThatAgree_18 : decode cX0_boatsThatAgree 18 = .ok (.iload_n 1, 1) := by decide +kernel
theorem dX0_boatsThatAgree_19 : decode cX0_boatsThatAgree 19 = .ok (.iload 4, 2) := by decide +kernel
theorem dX0_boatsThatAgree_21 : decode cX0_boatsThatAgree 21 = .ok (.invokevirtual 137, 3) := by decide +kernel
theorem dX0_boatsThatAgree_24 : decode cX0_boatsThatAgree 24 = .ok (.iload_n 2, 1) := by decide +kernel
theorem dX0_boatsThatAgree_25 : decode cX0_boatsThatAgree 25 = .ok (.if_icmp .lt 6, 3) := by decide +kernel
theorem dX0_boatsThatAgree_28 : decode cX0_boatsThatAgree 28 = .ok (.iinc 3 1, 3) := by decide +kernel
theorem dX0_boatsThatAgree_31 : decode cX0_boatsThatAgree 31 = .ok (.iinc 4 1, 3) := by decide +kernel
theorem dX0_boatsThatAgree_34 : decode cX0_boatsThatAgree 34 = .ok (.goto (-29), 3) := by decide +kernel
theorem dX0_boatsThatAgree_37 : decode cX0_boatsThatAgree 37 = .ok (.iload_n 3, 1) := by decide +kernel
theorem dX0_boatsThatAgree_38 : decode cX0_boatsThatAgree 38 = .ok (.ireturn, 1) := by decide +kernel
theorem dX0_ofFleet_0 : decode cX0_ofFleet 0 = .ok (.iload_n 1, 1) := by decide +kernel
theorem dX0_ofFleet_1 : decode cX0_ofFleet 1 = .ok (.tableswitch 96 0 8 #[51, 56, 61, 66, 71, 76, 81, 86, 91], 51) := by decide +kernel
theorem dX0_ofFleet_52 : decode cX0_ofFleet 52 = .ok (.aload_n 0, 1) := by decide +kernel
theorem dX0_ofFleet_53 : decode cX0_ofFleet 53 = .ok (.getfield 54, 3) := by decide +kernel
theorem dX0_ofFleet_56 : decode cX0_ofFleet 56 = .ok (.ireturn, 1) := by decide +kernel
theorem dX0_ofFleet_57 : decode cX0_ofFleet 57 = .ok (.aload_n 0, 1) := by decide +kernel
theorem dX0_ofFleet_58 : decode cX0_ofFleet 58 = .ok (.getfield 50, 3) := by decide +kernel
theorem dX0_ofFleet_61 : decode cX0_ofFleet 61 = .ok (.ireturn, 1) := by decide +kernel
theorem dX0_ofFleet_62 : decode cX0_ofFleet 62 = .ok (.aload_n 0, 1) := by decide +kernel
theorem dX0_ofFleet_63 : decode cX0_ofFleet 63 = .ok (.invokevirtual 153, 3) := by decide +kernel
theorem dX0_ofFleet_66 : decode cX0_ofFleet 66 = .ok (.ireturn, 1) := by decide +kernel
theorem dX0_ofFleet_67 : decode cX0_ofFleet 67 = .ok (.aload_n 0, 1) := by decide +kernel
theorem dX0_ofFleet_68 : decode cX0_ofFleet 68 = .ok (.invokevirtual 157, 3) := by decide +kernel
theorem dX0_ofFleet_71 : decode cX0_ofFleet 71 = .ok (.ireturn, 1) := by decide +kernel
theorem dX0_ofFleet_72 : decode cX0_ofFleet 72 = .ok (.aload_n 0, 1) := by decide +kernel
theorem dX0_ofFleet_73 : decode cX0_ofFleet 73 = .ok (.invokevirtual 160, 3) := by decide +kernel
theorem dX0_ofFleet_76 : decode cX0_ofFleet 76 = .ok (.ireturn, 1) := by decide +kernel
theorem dX0_ofFleet_77 : decode cX0_ofFleet 77 = .ok (.aload_n 0, 1) := by decide +kernel
theorem dX0_ofFleet_78 : decode cX0_ofFleet 78 = .ok (.getfield 57, 3) := by decide +kernel
theorem dX0_ofFleet_81 : decode cX0_ofFleet 81 = .ok (.ireturn, 1) := by decide +kernel
theorem dX0_ofFleet_82 : decode cX0_ofFleet 82 = .ok (.aload_n 0, 1) := by decide +kernel
theorem dX0_ofFleet_83 : decode cX0_ofFleet 83 = .ok (.getfield 60, 3) := by decide +kernel
theorem dX0_ofFleet_86 : decode cX0_ofFleet 86 = .ok (.ireturn, 1) := by decide +kernel
theorem dX0_ofFleet_87 : decode cX0_ofFleet 87 = .ok (.aload_n 0, 1) := by decide +kernel
theorem dX0_ofFleet_88 : decode cX0_ofFleet 88 = .ok (.getfield 63, 3) := by decide +kernel
theorem dX0_ofFleet_91 : decode cX0_ofFleet 91 = .ok (.ireturn, 1) := by decide +kernel
theorem dX0_ofFleet_92 : decode cX0_ofFleet 92 = .ok (.aload_n 0, 1) := by decide +kernel
theorem dX0_ofFleet_93 : decode cX0_ofFleet 93 = .ok (.invokevirtual 163, 3) := by decide +kernel
theorem dX0_ofFleet_96 : decode cX0_ofFleet 96 = .ok (.ireturn, 1) := by decide +kernel
theorem dX0_ofFleet_97 : decode cX0_ofFleet 97 = .ok (.aload_n 0, 1) := by decide +kernel
theorem dX0_ofFleet_98 : decode cX0_ofFleet 98 = .ok (.invokevirtual 166, 3) := by decide +kernel
theorem dX0_ofFleet_101 : decode cX0_ofFleet 101 = .ok (.ireturn, 1) := by decide +kernel
theorem dX0_boatsUp_0 : decode cX0_boatsUp 0 = .ok (.iconst 0, 1) := by decide +kernel
theorem dX0_boatsUp_1 : decode cX0_boatsUp 1 = .ok (.istore_n 1, 1) := by decide +kernel
theorem dX0_boatsUp_2 : decode cX0_boatsUp 2 = .ok (.iconst 0, 1) := by decide +kernel
theorem dX0_boatsUp_3 : decode cX0_boatsUp 3 = .ok (.istore_n 2, 1) := by decide +kernel
theorem dX0_boatsUp_4 : decode cX0_boatsUp 4 = .ok (.iload_n 2, 1) := by decide +kernel
theorem dX0_boatsUp_5 : decode cX0_boatsUp 5 = .ok (.aload_n 0, 1) := by decide +kernel
theorem dX0_boatsUp_6 : decode cX0_boatsUp 6 = .ok (.getfield 50, 3) := by decide +kernel
theorem dX0_boatsUp_9 : decode cX0_boatsUp 9 = .ok (.if_icmp .ge 21, 3) := by decide +kernel
theorem dX0_boatsUp_12 : decode cX0_boatsUp 12 = .ok (.aload_n 0, 1) := by decide +kernel
theorem dX0_boatsUp_13 : decode cX0_boatsUp 13 = .ok (.getfield 30, 3) := by decide +kernel
theorem dX0_boatsUp_16 : decode cX0_boatsUp 16 = .ok (.iload_n 2, 1) := by decide +kernel
theorem dX0_boatsUp_17 : decode cX0_boatsUp 17 = .ok (.baload, 1) := by decide +kernel
theorem dX0_boatsUp_18 : decode cX0_boatsUp 18 = .ok (.ifCond .eq 6, 3) := by decide +kernel
theorem dX0_boatsUp_21 : decode cX0_boatsUp 21 = .ok (.iinc 1 1, 3) := by decide +kernel
theorem dX0_boatsUp_24 : decode cX0_boatsUp 24 = .ok (.iinc 2 1, 3) := by decide +kernel
theorem dX0_boatsUp_27 : decode cX0_boatsUp 27 = .ok (.goto (-23), 3) := by decide +kernel
theorem dX0_boatsUp_30 : decode cX0_boatsUp 30 = .ok (.iload_n 1, 1) := by decide +kernel
theorem dX0_boatsUp_31 : decode cX0_boatsUp 31 = .ok (.ireturn, 1) := by decide +kernel
theorem dX0_boatsLeading_0 : decode cX0_boatsLeading 0 = .ok (.iconst 0, 1) := by decide +kernel
theorem dX0_boatsLeading_1 : decode cX0_boatsLeading 1 = .ok (.istore_n 1, 1) := by decide +kernel
theorem dX0_boatsLeading_2 : decode cX0_boatsLeading 2 = .ok (.iconst 0, 1) := by decide +kernel
theorem dX0_boatsLeading_3 : decode cX0_boatsLeading 3 = .ok (.istore_n 2, 1) := by decide +kernel
theorem dX0_boatsLeading_4 : decode cX0_boatsLeading 4 = .ok (.iload_n 2, 1) := by decide +kernel
theorem dX0_boatsLeading_5 : decode cX0_boatsLeading 5 = .ok (.aload_n 0, 1) := by decide +kernel
theorem dX0_boatsLeading_6 : decode cX0_boatsLeading 6 = .ok (.getfield 50, 3) := by decide +kernel
theorem dX0_boatsLeading_9 : decode cX0_boatsLeading 9 = .ok (.if_icmp .ge 20, 3) := by decide +kernel
theorem dX0_boatsLeading_12 : decode cX0_boatsLeading 12 = .ok (.aload_n 0, 1) := by decide +kernel
theorem dX0_boatsLeading_13 : decode cX0_boatsLeading 13 = .ok (.iload_n 2, 1) := by decide +kernel
theorem dX0_boatsLeading_14 : decode cX0_boatsLeading 14 = .ok (.invokevirtual 89, 3) := by decide +kernel
theorem dX0_boatsLeading_17 : decode cX0_boatsLeading 17 = .ok (.ifCond .eq 6, 3) := by decide +kernel
theorem dX0_boatsLeading_20 : decode cX0_boatsLeading 20 = .ok (.iinc 1 1, 3) := by decide +kernel
theorem dX0_boatsLeading_23 : decode cX0_boatsLeading 23 = .ok (.iinc 2 1, 3) := by decide +kernel
theorem dX0_boatsLeading_26 : decode cX0_boatsLeading 26 = .ok (.goto (-22), 3) := by decide +kernel
theorem dX0_boatsLeading_29 : decode cX0_boatsLeading 29 = .ok (.iload_n 1, 1) := by decide +kernel
theorem dX0_boatsLeading_30 : decode cX0_boatsLeading 30 = .ok (.ireturn, 1) := by decide +kernel
theorem dX0_greatestTerm_0 : decode cX0_greatestTerm 0 = .ok (.iconst 0, 1) := by decide +kernel
theorem dX0_greatestTerm_1 : decode cX0_greatestTerm 1 = .ok (.istore_n 1, 1) := by decide +kernel
theorem dX0_greatestTerm_2 : decode cX0_greatestTerm 2 = .ok (.iconst 0, 1) := by decide +kernel
theorem dX0_greatestTerm_3 : decode cX0_greatestTerm 3 = .ok (.istore_n 2, 1) := by decide +kernel
theorem dX0_greatestTerm_4 : decode cX0_greatestTerm 4 = .ok (.iload_n 2, 1) := by decide +kernel
theorem dX0_greatestTerm_5 : decode cX0_greatestTerm 5 = .ok (.aload_n 0, 1) := by decide +kernel
theorem dX0_greatestTerm_6 : decode cX0_greatestTerm 6 = .ok (.getfield 50, 3) := by decide +kernel
theorem dX0_greatestTerm_9 : decode cX0_greatestTerm 9 = .ok (.if_icmp .ge 20, 3) := by decide +kernel
theorem dX0_greatestTerm_12 : decode cX0_greatestTerm 12 = .ok (.iload_n 1, 1) := by decide +kernel
theorem dX0_greatestTerm_13 : decode cX0_greatestTerm 13 = .ok (.aload_n 0, 1) := by decide +kernel
theorem dX0_greatestTerm_14 : decode cX0_greatestTerm 14 = .ok (.getfield 18, 3) := by decide +kernel
theorem dX0_greatestTerm_17 : decode cX0_greatestTerm 17 = .ok (.iload_n 2, 1) := by decide +kernel
theorem dX0_greatestTerm_18 : decode cX0_greatestTerm 18 = .ok (.iaload, 1) := by decide +kernel
theorem dX0_greatestTerm_19 : decode cX0_greatestTerm 19 = .ok (.invokestatic 47, 3) := by decide +kernel
theorem dX0_greatestTerm_22 : decode cX0_greatestTerm 22 = .ok (.istore_n 1, 1) := by decide +kernel
theorem dX0_greatestTerm_23 : decode cX0_greatestTerm 23 = .ok (.iinc 2 1, 3) := by decide +kernel
theorem dX0_greatestTerm_26 : decode cX0_greatestTerm 26 = .ok (.goto (-22), 3) := by decide +kernel
theorem dX0_greatestTerm_29 : decode cX0_greatestTerm 29 = .ok (.iload_n 1, 1) := by decide +kernel
theorem dX0_greatestTerm_30 : decode cX0_greatestTerm 30 = .ok (.ireturn, 1) := by decide +kernel
theorem dX0_mostKnown_0 : decode cX0_mostKnown 0 = .ok (.iconst 0, 1) := by decide +kernel
theorem dX0_mostKnown_1 : decode cX0_mostKnown 1 = .ok (.istore_n 1, 1) := by decide +kernel
theorem dX0_mostKnown_2 : decode cX0_mostKnown 2 = .ok (.iconst 0, 1) := by decide +kernel
theorem dX0_mostKnown_3 : decode cX0_mostKnown 3 = .ok (.istore_n 2, 1) := by decide +kernel
theorem dX0_mostKnown_4 : decode cX0_mostKnown 4 = .ok (.iload_n 2, 1) := by decide +kernel
theorem dX0_mostKnown_5 : decode cX0_mostKnown 5 = .ok (.aload_n 0, 1) := by decide +kernel
theorem dX0_mostKnown_6 : decode cX0_mostKnown 6 = .ok (.getfield 50, 3) := by decide +kernel
theorem dX0_mostKnown_9 : decode cX0_mostKnown 9 = .ok (.if_icmp .ge 23, 3) := by decide +kernel
theorem dX0_mostKnown_12 : decode cX0_mostKnown 12 = .ok (.iload_n 1, 1) := by decide +kernel
theorem dX0_mostKnown_13 : decode cX0_mostKnown 13 = .ok (.aload_n 0, 1) := by decide +kernel
theorem dX0_mostKnown_14 : decode cX0_mostKnown 14 = .ok (.getfield 37, 3) := by decide +kernel
theorem dX0_mostKnown_17 : decode cX0_mostKnown 17 = .ok (.getfield 74, 3) := by decide +kernel
theorem dX0_mostKnown_20 : decode cX0_mostKnown 20 = .ok (.iload_n 2, 1) := by decide +kernel
theorem dX0_mostKnown_21 : decode cX0_mostKnown 21 = .ok (.iaload, 1) := by decide +kernel
theorem dX0_mostKnown_22 : decode cX0_mostKnown 22 = .ok (.invokestatic 47, 3) := by decide +kernel
theorem dX0_mostKnown_25 : decode cX0_mostKnown 25 = .ok (.istore_n 1, 1) := by decide +kernel
theorem dX0_mostKnown_26 : decode cX0_mostKnown 26 = .ok (.iinc 2 1, 3) := by decide +kernel
theorem dX0_mostKnown_29 : decode cX0_mostKnown 29 = .ok (.goto (-25), 3) := by decide +kernel
theorem dX0_mostKnown_32 : decode cX0_mostKnown 32 = .ok (.iload_n 1, 1) := by decide +kernel
theorem dX0_mostKnown_33 : decode cX0_mostKnown 33 = .ok (.ireturn, 1) := by decide +kernel
theorem dX0_fewestKnown_0 : decode cX0_fewestKnown 0 = .ok (.bipush 10, 2) := by decide +kernel
theorem dX0_fewestKnown_2 : decode cX0_fewestKnown 2 = .ok (.istore_n 1, 1) := by decide +kernel
theorem dX0_fewestKnown_3 : decode cX0_fewestKnown 3 = .ok (.iconst 0, 1) := by decide +kernel
theorem dX0_fewestKnown_4 : decode cX0_fewestKnown 4 = .ok (.istore_n 2, 1) := by decide +kernel
theorem dX0_fewestKnown_5 : decode cX0_fewestKnown 5 = .ok (.iload_n 2, 1) := by decide +kernel
theorem dX0_fewestKnown_6 : decode cX0_fewestKnown 6 = .ok (.aload_n 0, 1) := by decide +kernel
theorem dX0_fewestKnown_7 : decode cX0_fewestKnown 7 = .ok (.getfield 50, 3) := by decide +kernel
theorem dX0_fewestKnown_10 : decode cX0_fewestKnown 10 = .ok (.if_icmp .ge 23, 3) := by decide +kernel
theorem dX0_fewestKnown_13 : decode cX0_fewestKnown 13 = .ok (.iload_n 1, 1) := by decide +kernel
theorem dX0_fewestKnown_14 : decode cX0_fewestKnown 14 = .ok (.aload_n 0, 1) := by decide +kernel
theorem dX0_fewestKnown_15 : decode cX0_fewestKnown 15 = .ok (.getfield 37, 3) := by decide +kernel
theorem dX0_fewestKnown_18 : decode cX0_fewestKnown 18 = .ok (.getfield 74, 3) := by decide +kernel
theorem dX0_fewestKnown_21 : decode cX0_fewestKnown 21 = .ok (.iload_n 2, 1) := by decide +kernel
theorem dX0_fewestKnown_22 : decode cX0_fewestKnown 22 = .ok (.iaload, 1) := by decide +kernel
theorem dX0_fewestKnown_23 : decode cX0_fewestKnown 23 = .ok (.invokestatic 41, 3) := by decide +kernel
theorem dX0_fewestKnown_26 : decode cX0_fewestKnown 26 = .ok (.istore_n 1, 1) := by decide +kernel
theorem dX0_fewestKnown_27 : decode cX0_fewestKnown 27 = .ok (.iinc 2 1, 3) := by decide +kernel
theorem dX0_fewestKnown_30 : decode cX0_fewestKnown 30 = .ok (.goto (-25), 3) := by decide +kernel
theorem dX0_fewestKnown_33 : decode cX0_fewestKnown 33 = .ok (.iload_n 1, 1) := by decide +kernel
theorem dX0_fewestKnown_34 : decode cX0_fewestKnown 34 = .ok (.ireturn, 1) := by decide +kernel
