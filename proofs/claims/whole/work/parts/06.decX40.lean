theorem dX4_init_0 : decode cX4_init 0 = .ok (.aload_n 0, 1) := by decide +kernel
theorem dX4_init_1 : decode cX4_init 1 = .ok (.invokespecial 3, 3) := by decide +kernel
theorem dX4_init_4 : decode cX4_init 4 = .ok (.aload_n 0, 1) := by decide +kernel
theorem dX4_init_5 : decode cX4_init 5 = .ok (.iconst 4, 1) := by decide +kernel
theorem dX4_init_6 : decode cX4_init 6 = .ok (.anewarray 9, 3) := by decide +kernel
theorem dX4_init_9 : decode cX4_init 9 = .ok (.putfield 11, 3) := by decide +kernel
theorem dX4_init_12 : decode cX4_init 12 = .ok (.aload_n 0, 1) := by decide +kernel
theorem dX4_init_13 : decode cX4_init 13 = .ok (.new 9, 3) := by decide +kernel
theorem dX4_init_16 : decode cX4_init 16 = .ok (.dup, 1) := by decide +kernel
theorem dX4_init_17 : decode cX4_init 17 = .ok (.invokespecial 17, 3) := by decide +kernel
theorem dX4_init_20 : decode cX4_init 20 = .ok (.putfield 18, 3) := by decide +kernel
theorem dX4_init_23 : decode cX4_init 23 = .ok (.aload_n 0, 1) := by decide +kernel
theorem dX4_init_24 : decode cX4_init 24 = .ok (.bipush 10, 2) := by decide +kernel
theorem dX4_init_26 : decode cX4_init 26 = .ok (.bipush 10, 2) := by decide +kernel
theorem dX4_init_28 : decode cX4_init 28 = .ok (.multianewarray 22 2, 4) := by decide +kernel
theorem dX4_init_32 : decode cX4_init 32 = .ok (.putfield 24, 3) := by decide +kernel
theorem dX4_init_35 : decode cX4_init 35 = .ok (.aload_n 0, 1) := by decide +kernel
theorem dX4_init_36 : decode cX4_init 36 = .ok (.bipush 10, 2) := by decide +kernel
theorem dX4_init_38 : decode cX4_init 38 = .ok (.newarray .long, 2) := by decide +kernel
theorem dX4_init_40 : decode cX4_init 40 = .ok (.putfield 27, 3) := by decide +kernel
theorem dX4_init_43 : decode cX4_init 43 = .ok (.aload_n 0, 1) := by decide +kernel
theorem dX4_init_44 : decode cX4_init 44 = .ok (.bipush 10, 2) := by decide +kernel
theorem dX4_init_46 : decode cX4_init 46 = .ok (.newarray .long, 2) := by decide +kernel
theorem dX4_init_48 : decode cX4_init 48 = .ok (.putfield 31, 3) := by decide +kernel
theorem dX4_init_51 : decode cX4_init 51 = .ok (.aload_n 0, 1) := by decide +kernel
theorem dX4_init_52 : decode cX4_init 52 = .ok (.bipush 10, 2) := by decide +kernel
theorem dX4_init_54 : decode cX4_init 54 = .ok (.newarray .long, 2) := by decide +kernel
theorem dX4_init_56 : decode cX4_init 56 = .ok (.putfield 34, 3) := by decide +kernel
theorem dX4_init_59 : decode cX4_init 59 = .ok (.aload_n 0, 1) := by decide +kernel
theorem dX4_init_60 : decode cX4_init 60 = .ok (.bipush 32, 2) := by decide +kernel
theorem dX4_init_62 : decode cX4_init 62 = .ok (.newarray .long, 2) := by decide +kernel
theorem dX4_init_64 : decode cX4_init 64 = .ok (.putfield 37, 3) := by decide +kernel
theorem dX4_init_67 : decode cX4_init 67 = .ok (.aload_n 0, 1) := by decide +kernel
theorem dX4_init_68 : decode cX4_init 68 = .ok (.bipush 32, 2) := by decide +kernel
theorem dX4_init_70 : decode cX4_init 70 = .ok (.newarray .long, 2) := by decide +kernel
theorem dX4_init_72 : decode cX4_init 72 = .ok (.putfield 40, 3) := by decide +kernel
theorem dX4_init_75 : decode cX4_init 75 = .ok (.aload_n 0, 1) := by decide +kernel
theorem dX4_init_76 : decode cX4_init 76 = .ok (.iconst (-1), 1) := by decide +kernel
theorem dX4_init_77 : decode cX4_init 77 = .ok (.putfield 43, 3) := by decide +kernel
theorem dX4_init_80 : decode cX4_init 80 = .ok (.aload_n 0, 1) := by decide +kernel
theorem dX4_init_81 : decode cX4_init 81 = .ok (.lconst 0, 1) := by decide +kernel
theorem dX4_init_82 : decode cX4_init 82 = .ok (.putfield 47, 3) := by decide +kernel
theorem dX4_init_85 : decode cX4_init 85 = .ok (.aload_n 0, 1) := by decide +kernel
theorem dX4_init_86 : decode cX4_init 86 = .ok (.lconst 0, 1) := by decide +kernel
theorem dX4_init_87 : decode cX4_init 87 = .ok (.putfield 51, 3) := by decide +kernel
theorem dX4_init_90 : decode cX4_init 90 = .ok (.aload_n 0, 1) := by decide +kernel
theorem dX4_init_91 : decode cX4_init 91 = .ok (.iconst (-1), 1) := by decide +kernel
theorem dX4_init_92 : decode cX4_init 92 = .ok (.putfield 54, 3) := by decide +kernel
theorem dX4_init_95 : decode cX4_init 95 = .ok (.aload_n 0, 1) := by decide +kernel
theorem dX4_init_96 : decode cX4_init 96 = .ok (.iconst (-1), 1) := by decide +kernel
theorem dX4_init_97 : decode cX4_init 97 = .ok (.putfield 57, 3) := by decide +kernel
theorem dX4_init_100 : decode cX4_init 100 = .ok (.iconst 0, 1) := by decide +kernel
theorem dX4_init_101 : decode cX4_init 101 = .ok (.istore_n 2, 1) := by decide +kernel
theorem dX4_init_102 : decode cX4_init 102 = .ok (.iload_n 2, 1) := by decide +kernel
theorem dX4_init_103 : decode cX4_init 103 = .ok (.iconst 4, 1) := by decide +kernel
theorem dX4_init_104 : decode cX4_init 104 = .ok (.if_icmp .ge 22, 3) := by decide +kernel
theorem dX4_init_107 : decode cX4_init 107 = .ok (.aload_n 0, 1) := by decide +kernel
theorem dX4_init_108 : decode cX4_init 108 = .ok (.getfield 11, 3) := by decide +kernel
theorem dX4_init_111 : decode cX4_init 111 = .ok (.iload_n 2, 1) := by decide +kernel
theorem dX4_init_112 : decode cX4_init 112 = .ok (.new 9, 3) := by decide +kernel
theorem dX4_init_115 : decode cX4_init 115 = .ok (.dup, 1) := by decide +kernel
theorem dX4_init_116 : decode cX4_init 116 = .ok (.invokespecial 17, 3) := by decide +kernel
theorem dX4_init_119 : decode cX4_init 119 = .ok (.aastore, 1) := by decide +kernel
theorem dX4_init_120 : decode cX4_init 120 = .ok (.iinc 2 1, 3) := by decide +kernel
theorem dX4_init_123 : decode cX4_init 123 = .ok (.goto (-21), 3) := by decide +kernel
theorem dX4_init_126 : decode cX4_init 126 = .ok (.aload_n 0, 1) := by decide +kernel
theorem dX4_init_127 : decode cX4_init 127 = .ok (.aload_n 1, 1) := by decide +kernel
theorem dX4_init_128 : decode cX4_init 128 = .ok (.putfield 60, 3) := by decide +kernel
theorem dX4_init_131 : decode cX4_init 131 = .ok (.return_, 1) := by decide +kernel
theorem dX4_begin_0 : decode cX4_begin 0 = .ok (.aload_n 0, 1) := by decide +kernel
theorem dX4_begin_1 : decode cX4_begin 1 = .ok (.aload_n 1, 1) := by decide +kernel
theorem dX4_begin_2 : decode cX4_begin 2 = .ok (.putfield 60, 3) := by decide +kernel
theorem dX4_begin_5 : decode cX4_begin 5 = .ok (.aload_n 0, 1) := by decide +kernel
theorem dX4_begin_6 : decode cX4_begin 6 = .ok (.invokevirtual 64, 3) := by decide +kernel
theorem dX4_begin_9 : decode cX4_begin 9 = .ok (.return_, 1) := by decide +kernel
theorem dX4_solve_0 : decode cX4_solve 0 = .ok (.aload_n 0, 1) := by decide +kernel
theorem dX4_solve_1 : decode cX4_solve 1 = .ok (.iconst (-1), 1) := by decide +kernel
theorem dX4_solve_2 : decode cX4_solve 2 = .ok (.putfield 43, 3) := by decide +kernel
theorem dX4_solve_5 : decode cX4_solve 5 = .ok (.aload_n 0, 1) := by decide +kernel
theorem dX4_solve_6 : decode cX4_solve 6 = .ok (.lconst 0, 1) := by decide +kernel
theorem dX4_solve_7 : decode cX4_solve 7 = .ok (.putfield 47, 3) := by decide +kernel
theorem dX4_solve_10 : decode cX4_solve 10 = .ok (.aload_n 0, 1) := by decide +kernel
theorem dX4_solve_11 : decode cX4_solve 11 = .ok (.lconst 0, 1) := by decide +kernel
theorem dX4_solve_12 : decode cX4_solve 12 = .ok (.putfield 51, 3) := by decide +kernel
theorem dX4_solve_15 : decode cX4_solve 15 = .ok (.aload_n 0, 1) := by decide +kernel
theorem dX4_solve_16 : decode cX4_solve 16 = .ok (.iconst (-1), 1) := by decide +kernel
theorem dX4_solve_17 : decode cX4_solve 17 = .ok (.putfield 54, 3) := by decide +kernel
theorem dX4_solve_20 : decode cX4_solve 20 = .ok (.aload_n 0, 1) := by decide +kernel
theorem dX4_solve_21 : decode cX4_solve 21 = .ok (.iconst (-1), 1) := by decide +kernel
theorem dX4_solve_22 : decode cX4_solve 22 = .ok (.putfield 57, 3) := by decide +kernel
theorem dX4_solve_25 : decode cX4_solve 25 = .ok (.aload_n 0, 1) := by decide +kernel
theorem dX4_solve_26 : decode cX4_solve 26 = .ok (.getfield 40, 3) := by decide +kernel
theorem dX4_solve_29 : decode cX4_solve 29 = .ok (.lconst 0, 1) := by decide +kernel
theorem dX4_solve_30 : decode cX4_solve 30 = .ok (.invokestatic 67, 3) := by decide +kernel
theorem dX4_solve_33 : decode cX4_solve 33 = .ok (.aload_n 0, 1) := by decide +kernel
theorem dX4_solve_34 : decode cX4_solve 34 = .ok (.invokevirtual 73, 3) := by decide +kernel
theorem dX4_solve_37 : decode cX4_solve 37 = .ok (.aload_n 0, 1) := by decide +kernel
theorem dX4_solve_38 : decode cX4_solve 38 = .ok (.invokevirtual 76, 3) := by decide +kernel
theorem dX4_solve_41 : decode cX4_solve 41 = .ok (.aload_n 0, 1) := by decide +kernel
theorem dX4_solve_42 : decode cX4_solve 42 = .ok (.getfield 43, 3) := by decide +kernel
theorem dX4_solve_45 : decode cX4_solve 45 = .ok (.iconst (-1), 1) := by decide +kernel
theorem dX4_solve_46 : decode cX4_solve 46 = .ok (.if_icmp .ne 11, 3) := by decide +kernel
theorem dX4_solve_49 : decode cX4_solve 49 = .ok (.aload_n 0, 1) := by decide +kernel
theorem dX4_solve_50 : decode cX4_solve 50 = .ok (.invokevirtual 79, 3) := by decide +kernel
theorem dX4_solve_53 : decode cX4_solve 53 = .ok (.aload_n 0, 1) := by decide +kernel
theorem dX4_solve_54 : decode cX4_solve 54 = .ok (.invokevirtual 82, 3) := by decide +kernel
theorem dX4_solve_57 : decode cX4_solve 57 = .ok (.return_, 1) := by decide +kernel
theorem dX4_makeLaws_0 : decode cX4_makeLaws 0 = .ok (.iconst 0, 1) := by decide +kernel
theorem dX4_makeLaws_1 : decode cX4_makeLaws 1 = .ok (.istore_n 1, 1) := by decide +kernel
theorem dX4_makeLaws_2 : decode cX4_makeLaws 2 = .ok (.iload_n 1, 1) := by decide +kernel
theorem dX4_makeLaws_3 : decode cX4_makeLaws 3 = .ok (.aload_n 0, 1) := by decide +kernel
theorem dX4_makeLaws_4 : decode cX4_makeLaws 4 = .ok (.getfield 60, 3) := by decide +kernel
theorem dX4_makeLaws_7 : decode cX4_makeLaws 7 = .ok (.invokevirtual 85, 3) := by decide +kernel
theorem dX4_makeLaws_10 : decode cX4_makeLaws 10 = .ok (.if_icmp .ge 126, 3) := by decide +kernel
theorem dX4_makeLaws_13 : decode cX4_makeLaws 13 = .ok (.iload_n 1, 1) := by decide +kernel
theorem dX4_makeLaws_14 : decode cX4_makeLaws 14 = .ok (.bipush 10, 2) := by decide +kernel
theorem dX4_makeLaws_16 : decode cX4_makeLaws 16 = .ok (.if_icmp .ge 120, 3) := by decide +kernel
theorem dX4_makeLaws_19 : decode cX4_makeLaws 19 = .ok (.aload_n 0, 1) := by decide +kernel
theorem dX4_makeLaws_20 : decode cX4_makeLaws 20 = .ok (.getfield 60, 3) := by decide +kernel
theorem dX4_makeLaws_23 : decode cX4_makeLaws 23 = .ok (.iload_n 1, 1) := by decide +kernel
theorem dX4_makeLaws_24 : decode cX4_makeLaws 24 = .ok (.iconst 0, 1) := by decide +kernel
theorem dX4_makeLaws_25 : decode cX4_makeLaws 25 = .ok (.invokevirtual 91, 3) := by decide +kernel
theorem dX4_makeLaws_28 : decode cX4_makeLaws 28 = .ok (.istore_n 2, 1) := by decide +kernel
theorem dX4_makeLaws_29 : decode cX4_makeLaws 29 = .ok (.aload_n 0, 1) := by decide +kernel
theorem dX4_makeLaws_30 : decode cX4_makeLaws 30 = .ok (.getfield 60, 3) := by decide +kernel
theorem dX4_makeLaws_33 : decode cX4_makeLaws 33 = .ok (.iload_n 1, 1) := by decide +kernel
theorem dX4_makeLaws_34 : decode cX4_makeLaws 34 = .ok (.iconst 3, 1) := by decide +kernel
theorem dX4_makeLaws_35 : decode cX4_makeLaws 35 = .ok (.invokevirtual 91, 3) := by decide +kernel
theorem dX4_makeLaws_38 : decode cX4_makeLaws 38 = .ok (.istore_n 3, 1) := by decide +kernel
theorem dX4_makeLaws_39 : decode cX4_makeLaws 39 = .ok (.aload_n 0, 1) := by decide +kernel
theorem dX4_makeLaws_40 : decode cX4_makeLaws 40 = .ok (.getfield 60, 3) := by decide +kernel
theorem dX4_makeLaws_43 : decode cX4_makeLaws 43 = .ok (.iload_n 1, 1) := by decide +kernel
theorem dX4_makeLaws_44 : decode cX4_makeLaws 44 = .ok (.iconst 4, 1) := by decide +kernel
theorem dX4_makeLaws_45 : decode cX4_makeLaws 45 = .ok (.invokevirtual 91, 3) := by decide +kernel
theorem dX4_makeLaws_48 : decode cX4_makeLaws 48 = .ok (.istore 4, 2) := by decide +kernel
theorem dX4_makeLaws_50 : decode cX4_makeLaws 50 = .ok (.aload_n 0, 1) := by decide +kernel
theorem dX4_makeLaws_51 : decode cX4_makeLaws 51 = .ok (.getfield 60, 3) := by decide +kernel
theorem dX4_makeLaws_54 : decode cX4_makeLaws 54 = .ok (.iload_n 1, 1) := by decide +kernel
theorem dX4_makeLaws_55 : decode cX4_makeLaws 55 = .ok (.iconst 5, 1) := by decide +kernel
theorem dX4_makeLaws_56 : decode cX4_makeLaws 56 = .ok (.invokevirtual 91, 3) := by decide +kernel
theorem dX4_makeLaws_59 : decode cX4_makeLaws 59 = .ok (.istore 5, 2) := by decide +kernel
theorem dX4_makeLaws_61 : decode cX4_makeLaws 61 = .ok (.aload_n 0, 1) := by decide +kernel
theorem dX4_makeLaws_62 : decode cX4_makeLaws 62 = .ok (.getfield 24, 3) := by decide +kernel
theorem dX4_makeLaws_65 : decode cX4_makeLaws 65 = .ok (.iload_n 1, 1) := by decide +kernel
theorem dX4_makeLaws_66 : decode cX4_makeLaws 66 = .ok (.aaload, 1) := by decide +kernel
theorem dX4_makeLaws_67 : decode cX4_makeLaws 67 = .ok (.astore 6, 2) := by decide +kernel
theorem dX4_makeLaws_69 : decode cX4_makeLaws 69 = .ok (.aload 6, 2) := by decide +kernel
theorem dX4_makeLaws_71 : decode cX4_makeLaws 71 = .ok (.lconst 0, 1) := by decide +kernel
theorem dX4_makeLaws_72 : decode cX4_makeLaws 72 = .ok (.invokestatic 67, 3) := by decide +kernel
theorem dX4_makeLaws_75 : decode cX4_makeLaws 75 = .ok (.aload 6, 2) := by decide +kernel
theorem dX4_makeLaws_77 : decode cX4_makeLaws 77 = .ok (.bipush 9, 2) := by decide +kernel
theorem dX4_makeLaws_79 : decode cX4_makeLaws 79 = .ok (.iload_n 2, 1) := by decide +kernel
theorem dX4_makeLaws_80 : decode cX4_makeLaws 80 = .ok (.iload 4, 2) := by decide +kernel
theorem dX4_makeLaws_82 : decode cX4_makeLaws 82 = .ok (.invokestatic 95, 3) := by decide +kernel
theorem dX4_makeLaws_85 : decode cX4_makeLaws 85 = .ok (.i2l, 1) := by decide +kernel
theorem dX4_makeLaws_86 : decode cX4_makeLaws 86 = .ok (.lastore, 1) := by decide +kernel
theorem dX4_makeLaws_87 : decode cX4_makeLaws 87 = .ok (.aload_n 0, 1) := by decide +kernel
theorem dX4_makeLaws_88 : decode cX4_makeLaws 88 = .ok (.aload 6, 2) := by decide +kernel
theorem dX4_makeLaws_90 : decode cX4_makeLaws 90 = .ok (.iconst 1, 1) := by decide +kernel
theorem dX4_makeLaws_91 : decode cX4_makeLaws 91 = .ok (.aload_n 0, 1) := by decide +kernel
theorem dX4_makeLaws_92 : decode cX4_makeLaws 92 = .ok (.getfield 60, 3) := by decide +kernel
theorem dX4_makeLaws_95 : decode cX4_makeLaws 95 = .ok (.iload_n 1, 1) := by decide +kernel
theorem dX4_makeLaws_96 : decode cX4_makeLaws 96 = .ok (.iconst 1, 1) := by decide +kernel
theorem dX4_makeLaws_97 : decode cX4_makeLaws 97 = .ok (.invokevirtual 91, 3) := by decide +kernel
theorem dX4_makeLaws_100 : decode cX4_makeLaws 100 = .ok (.iload_n 3, 1) := by decide +kernel
theorem dX4_makeLaws_101 : decode cX4_makeLaws 101 = .ok (.iload 5, 2) := by decide +kernel
theorem dX4_makeLaws_103 : decode cX4_makeLaws 103 = .ok (.invokevirtual 98, 3) := by decide +kernel
theorem dX4_makeLaws_106 : decode cX4_makeLaws 106 = .ok (.aload_n 0, 1) := by decide +kernel
theorem dX4_makeLaws_107 : decode cX4_makeLaws 107 = .ok (.aload 6, 2) := by decide +kernel
theorem dX4_makeLaws_109 : decode cX4_makeLaws 109 = .ok (.iload_n 2, 1) := by decide +kernel
theorem dX4_makeLaws_110 : decode cX4_makeLaws 110 = .ok (.iload 4, 2) := by decide +kernel
theorem dX4_makeLaws_112 : decode cX4_makeLaws 112 = .ok (.invokestatic 102, 3) := by decide +kernel
theorem dX4_makeLaws_115 : decode cX4_makeLaws 115 = .ok (.aload_n 0, 1) := by decide +kernel
theorem dX4_makeLaws_116 : decode cX4_makeLaws 116 = .ok (.getfield 60, 3) := by decide +kernel
theorem dX4_makeLaws_119 : decode cX4_makeLaws 119 = .ok (.iload_n 1, 1) := by decide +kernel
theorem dX4_makeLaws_120 : decode cX4_makeLaws 120 = .ok (.iconst 2, 1) := by decide +kernel
theorem dX4_makeLaws_121 : decode cX4_makeLaws 121 = .ok (.invokevirtual 91, 3) := by decide +kernel
theorem dX4_makeLaws_124 : decode cX4_makeLaws 124 = .ok (.iload_n 3, 1) := by decide +kernel
theorem dX4_makeLaws_125 : decode cX4_makeLaws 125 = .ok (.iload 5, 2) := by decide +kernel
theorem dX4_makeLaws_127 : decode cX4_makeLaws 127 = .ok (.invokevirtual 98, 3) := by decide +kernel
theorem dX4_makeLaws_130 : decode cX4_makeLaws 130 = .ok (.iinc 1 1, 3) := by decide +kernel
theorem dX4_makeLaws_133 : decode cX4_makeLaws 133 = .ok (.goto (-131), 3) := by decide +kernel
theorem dX4_makeLaws_136 : decode cX4_makeLaws 136 = .ok (.aload_n 0, 1) := by decide +kernel
theorem dX4_makeLaws_137 : decode cX4_makeLaws 137 = .ok (.getfield 60, 3) := by decide +kernel
theorem dX4_makeLaws_140 : decode cX4_makeLaws 140 = .ok (.iconst 3, 1) := by decide +kernel
theorem dX4_makeLaws_141 : decode cX4_makeLaws 141 = .ok (.invokevirtual 105, 3) := by decide +kernel
theorem dX4_makeLaws_144 : decode cX4_makeLaws 144 = .ok (.istore_n 1, 1) := by decide +kernel
theorem dX4_makeLaws_145 : decode cX4_makeLaws 145 = .ok (.aload_n 0, 1) := by decide +kernel
theorem dX4_makeLaws_146 : decode cX4_makeLaws 146 = .ok (.getfield 60, 3) := by decide +kernel
theorem dX4_makeLaws_149 : decode cX4_makeLaws 149 = .ok (.iconst 4, 1) := by decide +kernel
theorem dX4_makeLaws_150 : decode cX4_makeLaws 150 = .ok (.invokevirtual 105, 3) := by decide +kernel
theorem dX4_makeLaws_153 : decode cX4_makeLaws 153 = .ok (.istore_n 2, 1) := by decide +kernel
theorem dX4_makeLaws_154 : decode cX4_makeLaws 154 = .ok (.aload_n 0, 1) := by decide +kernel
theorem dX4_makeLaws_155 : decode cX4_makeLaws 155 = .ok (.getfield 27, 3) := by decide +kernel
theorem dX4_makeLaws_158 : decode cX4_makeLaws 158 = .ok (.invokestatic 109, 3) := by decide +kernel
theorem dX4_makeLaws_161 : decode cX4_makeLaws 161 = .ok (.aload_n 0, 1) := by decide +kernel
theorem dX4_makeLaws_162 : decode cX4_makeLaws 162 = .ok (.aload_n 0, 1) := by decide +kernel
theorem dX4_makeLaws_163 : decode cX4_makeLaws 163 = .ok (.getfield 27, 3) := by decide +kernel
theorem dX4_makeLaws_166 : decode cX4_makeLaws 166 = .ok (.iconst (-1), 1) := by decide +kernel
theorem dX4_makeLaws_167 : decode cX4_makeLaws 167 = .ok (.aload_n 0, 1) := by decide +kernel
theorem dX4_makeLaws_168 : decode cX4_makeLaws 168 = .ok (.getfield 60, 3) := by decide +kernel
theorem dX4_makeLaws_171 : decode cX4_makeLaws 171 = .ok (.iconst 1, 1) := by decide +kernel
theorem dX4_makeLaws_172 : decode cX4_makeLaws 172 = .ok (.invokevirtual 105, 3) := by decide +kernel
theorem dX4_makeLaws_175 : decode cX4_makeLaws 175 = .ok (.iload_n 1, 1) := by decide +kernel
theorem dX4_makeLaws_176 : decode cX4_makeLaws 176 = .ok (.iload_n 2, 1) := by decide +kernel
theorem dX4_makeLaws_177 : decode cX4_makeLaws 177 = .ok (.invokevirtual 98, 3) := by decide +kernel
theorem dX4_makeLaws_180 : decode cX4_makeLaws 180 = .ok (.aload_n 0, 1) := by decide +kernel
theorem dX4_makeLaws_181 : decode cX4_makeLaws 181 = .ok (.aload_n 0, 1) := by decide +kernel
theorem dX4_makeLaws_182 : decode cX4_makeLaws 182 = .ok (.getfield 27, 3) := by decide +kernel
theorem dX4_makeLaws_185 : decode cX4_makeLaws 185 = .ok (.iconst (-1), 1) := by decide +kernel
theorem dX4_makeLaws_186 : decode cX4_makeLaws 186 = .ok (.aload_n 0, 1) := by decide +kernel
theorem dX4_makeLaws_187 : decode cX4_makeLaws 187 = .ok (.getfield 60, 3) := by decide +kernel
theorem dX4_makeLaws_190 : decode cX4_makeLaws 190 = .ok (.iconst 2, 1) := by decide +kernel
theorem dX4_makeLaws_191 : decode cX4_makeLaws 191 = .ok (.invokevirtual 105, 3) := by decide +kernel
theorem dX4_makeLaws_194 : decode cX4_makeLaws 194 = .ok (.iload_n 1, 1) := by decide +kernel
theorem dX4_makeLaws_195 : decode cX4_makeLaws 195 = .ok (.iload_n 2, 1) := by decide +kernel
theorem dX4_makeLaws_196 : decode cX4_makeLaws 196 = .ok (.invokevirtual 98, 3) := by decide +kernel
theorem dX4_makeLaws_199 : decode cX4_makeLaws 199 = .ok (.return_, 1) := by decide +kernel
theorem dX4_madeBy_0 : decode cX4_madeBy 0 = .ok (.iload_n 0, 1) := by decide +kernel
theorem dX4_madeBy_1 : decode cX4_madeBy 1 = .ok (.iconst 3, 1) := by decide +kernel
theorem dX4_madeBy_2 : decode cX4_madeBy 2 = .ok (.if_icmp .ne 5, 3) := by decide +kernel
theorem dX4_madeBy_5 : decode cX4_madeBy 5 = .ok (.iconst 0, 1) := by decide +kernel
theorem dX4_madeBy_6 : decode cX4_madeBy 6 = .ok (.ireturn, 1) := by decide +kernel
theorem dX4_madeBy_7 : decode cX4_madeBy 7 = .ok (.iload_n 0, 1) := by decide +kernel
theorem dX4_madeBy_8 : decode cX4_madeBy 8 = .ok (.iconst 2, 1) := by decide +kernel
theorem dX4_madeBy_9 : decode cX4_madeBy 9 = .ok (.if_icmp .ne 8, 3) := by decide +kernel
theorem dX4_madeBy_12 : decode cX4_madeBy 12 = .ok (.iload_n 1, 1) := by decide +kernel
theorem dX4_madeBy_13 : decode cX4_madeBy 13 = .ok (.ineg, 1) := by decide +kernel
theorem dX4_madeBy_14 : decode cX4_madeBy 14 = .ok (.goto 4, 3) := by decide +kernel
theorem dX4_madeBy_17 : decode cX4_madeBy 17 = .ok (.iload_n 1, 1) := by decide +kernel
theorem dX4_madeBy_18 : decode cX4_madeBy 18 = .ok (.ireturn, 1) := by decide +kernel
theorem dX4_secondWeight_0 : decode cX4_secondWeight 0 = .ok (.iload_n 0, 1) := by decide +kernel
theorem dX4_secondWeight_1 : decode cX4_secondWeight 1 = .ok (.iconst 3, 1) := by decide +kernel
theorem dX4_secondWeight_2 : decode cX4_secondWeight 2 = .ok (.if_icmp .ne 6, 3) := by decide +kernel
theorem dX4_secondWeight_5 : decode cX4_secondWeight 5 = .ok (.iload_n 1, 1) := by decide +kernel
theorem dX4_secondWeight_6 : decode cX4_secondWeight 6 = .ok (.ineg, 1) := by decide +kernel
theorem dX4_secondWeight_7 : decode cX4_secondWeight 7 = .ok (.ireturn, 1) := by decide +kernel
theorem dX4_secondWeight_8 : decode cX4_secondWeight 8 = .ok (.iload_n 0, 1) := by decide +kernel
theorem dX4_secondWeight_9 : decode cX4_secondWeight 9 = .ok (.iconst 4, 1) := by decide +kernel
theorem dX4_secondWeight_10 : decode cX4_secondWeight 10 = .ok (.if_icmp .ne 7, 3) := by decide +kernel
theorem dX4_secondWeight_13 : decode cX4_secondWeight 13 = .ok (.iconst 1, 1) := by decide +kernel
theorem dX4_secondWeight_14 : decode cX4_secondWeight 14 = .ok (.goto 4, 3) := by decide +kernel
theorem dX4_secondWeight_17 : decode cX4_secondWeight 17 = .ok (.iconst (-1), 1) := by decide +kernel
theorem dX4_secondWeight_18 : decode cX4_secondWeight 18 = .ok (.ireturn, 1) := by decide +kernel
theorem dX4_startSought_0 : decode cX4_startSought 0 = .ok (.aload_n 0, 1) := by decide +kernel
theorem dX4_startSought_1 : decode cX4_startSought 1 = .ok (.lconst 0, 1) := by decide +kernel
theorem dX4_startSought_2 : decode cX4_startSought 2 = .ok (.invokestatic 67, 3) := by decide +kernel
theorem dX4_startSought_5 : decode cX4_startSought 5 = .ok (.aload_n 0, 1) := by decide +kernel
theorem dX4_startSought_6 : decode cX4_startSought 6 = .ok (.bipush 8, 2) := by decide +kernel
theorem dX4_startSought_8 : decode cX4_startSought 8 = .ok (.lconst 1, 1) := by decide +kernel
theorem dX4_startSought_9 : decode cX4_startSought 9 = .ok (.lastore, 1) := by decide +kernel
theorem dX4_startSought_10 : decode cX4_startSought 10 = .ok (.return_, 1) := by decide +kernel
theorem dX4_weigh_0 : decode cX4_weigh 0 = .ok (.iload_n 3, 1) := by decide +kernel
theorem dX4_weigh_1 : decode cX4_weigh 1 = .ok (.ifCond .lt 39, 3) := by decide +kernel
theorem dX4_weigh_4 : decode cX4_weigh 4 = .ok (.iload_n 3, 1) := by decide +kernel
theorem dX4_weigh_5 : decode cX4_weigh 5 = .ok (.bipush 8, 2) := by decide +kernel
theorem dX4_weigh_7 : decode cX4_weigh 7 = .ok (.if_icmp .ge 33, 3) := by decide +kernel
theorem dX4_weigh_10 : decode cX4_weigh 10 = .ok (.aload_n 1, 1) := by decide +kernel
theorem dX4_weigh_11 : decode cX4_weigh 11 = .ok (.iload_n 3, 1) := by decide +kernel
theorem dX4_weigh_12 : decode cX4_weigh 12 = .ok (.dup2, 1) := by decide +kernel
theorem dX4_weigh_13 : decode cX4_weigh 13 = .ok (.laload, 1) := by decide +kernel
theorem dX4_weigh_14 : decode cX4_weigh 14 = .ok (.iload_n 2, 1) := by decide +kernel
theorem dX4_weigh_15 : decode cX4_weigh 15 = .ok (.i2l, 1) := by decide +kernel
theorem dX4_weigh_16 : decode cX4_weigh 16 = .ok (.ladd, 1) := by decide +kernel
theorem dX4_weigh_17 : decode cX4_weigh 17 = .ok (.lastore, 1) := by decide +kernel
theorem dX4_weigh_18 : decode cX4_weigh 18 = .ok (.aload_n 1, 1) := by decide +kernel
theorem dX4_weigh_19 : decode cX4_weigh 19 = .ok (.bipush 9, 2) := by decide +kernel
theorem dX4_weigh_21 : decode cX4_weigh 21 = .ok (.dup2, 1) := by decide +kernel
theorem dX4_weigh_22 : decode cX4_weigh 22 = .ok (.laload, 1) := by decide +kernel
theorem dX4_weigh_23 : decode cX4_weigh 23 = .ok (.iload_n 2, 1) := by decide +kernel
theorem dX4_weigh_24 : decode cX4_weigh 24 = .ok (.i2l, 1) := by decide +kernel
theorem dX4_weigh_25 : decode cX4_weigh 25 = .ok (.aload_n 0, 1) := by decide +kernel
theorem dX4_weigh_26 : decode cX4_weigh 26 = .ok (.getfield 60, 3) := by decide +kernel
theorem dX4_weigh_29 : decode cX4_weigh 29 = .ok (.iload_n 3, 1) := by decide +kernel
theorem dX4_weigh_30 : decode cX4_weigh 30 = .ok (.iload 4, 2) := by decide +kernel
theorem dX4_weigh_32 : decode cX4_weigh 32 = .ok (.iload 5, 2) := by decide +kernel
theorem dX4_weigh_34 : decode cX4_weigh 34 = .ok (.invokevirtual 113, 3) := by decide +kernel
theorem dX4_weigh_37 : decode cX4_weigh 37 = .ok (.lmul, 1) := by decide +kernel
theorem dX4_weigh_38 : decode cX4_weigh 38 = .ok (.lsub, 1) := by decide +kernel
theorem dX4_weigh_39 : decode cX4_weigh 39 = .ok (.lastore, 1) := by decide +kernel
theorem dX4_weigh_40 : decode cX4_weigh 40 = .ok (.return_, 1) := by decide +kernel
theorem dX4_addFacts_0 : decode cX4_addFacts 0 = .ok (.iconst 0, 1) := by decide +kernel
theorem dX4_addFacts_1 : decode cX4_addFacts 1 = .ok (.istore_n 1, 1) := by decide +kernel
theorem dX4_addFacts_2 : decode cX4_addFacts 2 = .ok (.iload_n 1, 1) := by decide +kernel
theorem dX4_addFacts_3 : decode cX4_addFacts 3 = .ok (.iconst 4, 1) := by decide +kernel
theorem dX4_addFacts_4 : decode cX4_addFacts 4 = .ok (.if_icmp .ge 18, 3) := by decide +kernel
theorem dX4_addFacts_7 : decode cX4_addFacts 7 = .ok (.aload_n 0, 1) := by decide +kernel
theorem dX4_addFacts_8 : decode cX4_addFacts 8 = .ok (.getfield 11, 3) := by decide +kernel
theorem dX4_addFacts_11 : decode cX4_addFacts 11 = .ok (.iload_n 1, 1) := by decide +kernel
theorem dX4_addFacts_12 : decode cX4_addFacts 12 = .ok (.aaload, 1) := by decide +kernel
theorem dX4_addFacts_13 : decode cX4_addFacts 13 = .ok (.invokevirtual 117, 3) := by decide +kernel
theorem dX4_addFacts_16 : decode cX4_addFacts 16 = .ok (.iinc 1 1, 3) := by decide +kernel
theorem dX4_addFacts_19 : decode cX4_addFacts 19 = .ok (.goto (-17), 3) := by decide +kernel
theorem dX4_addFacts_22 : decode cX4_addFacts 22 = .ok (.iconst 0, 1) := by decide +kernel
theorem dX4_addFacts_23 : decode cX4_addFacts 23 = .ok (.istore_n 1, 1) := by decide +kernel
theorem dX4_addFacts_24 : decode cX4_addFacts 24 = .ok (.iload_n 1, 1) := by decide +kernel
theorem dX4_addFacts_25 : decode cX4_addFacts 25 = .ok (.aload_n 0, 1) := by decide +kernel
theorem dX4_addFacts_26 : decode cX4_addFacts 26 = .ok (.getfield 60, 3) := by decide +kernel
theorem dX4_addFacts_29 : decode cX4_addFacts 29 = .ok (.invokevirtual 85, 3) := by decide +kernel
theorem dX4_addFacts_32 : decode cX4_addFacts 32 = .ok (.if_icmp .ge 88, 3) := by decide +kernel
theorem dX4_addFacts_35 : decode cX4_addFacts 35 = .ok (.iload_n 1, 1) := by decide +kernel
theorem dX4_addFacts_36 : decode cX4_addFacts 36 = .ok (.bipush 10, 2) := by decide +kernel
theorem dX4_addFacts_38 : decode cX4_addFacts 38 = .ok (.if_icmp .ge 82, 3) := by decide +kernel
theorem dX4_addFacts_41 : decode cX4_addFacts 41 = .ok (.aload_n 0, 1) := by decide +kernel
theorem dX4_addFacts_42 : decode cX4_addFacts 42 = .ok (.getfield 43, 3) := by decide +kernel
theorem dX4_addFacts_45 : decode cX4_addFacts 45 = .ok (.iconst (-1), 1) := by decide +kernel
theorem dX4_addFacts_46 : decode cX4_addFacts 46 = .ok (.if_icmp .ne 74, 3) := by decide +kernel
theorem dX4_addFacts_49 : decode cX4_addFacts 49 = .ok (.aload_n 0, 1) := by decide +kernel
theorem dX4_addFacts_50 : decode cX4_addFacts 50 = .ok (.getfield 60, 3) := by decide +kernel
theorem dX4_addFacts_53 : decode cX4_addFacts 53 = .ok (.iload_n 1, 1) := by decide +kernel
theorem dX4_addFacts_54 : decode cX4_addFacts 54 = .ok (.iconst 3, 1) := by decide +kernel
theorem dX4_addFacts_55 : decode cX4_addFacts 55 = .ok (.invokevirtual 91, 3) := by decide +kernel
theorem dX4_addFacts_58 : decode cX4_addFacts 58 = .ok (.istore_n 2, 1) := by decide +kernel
theorem dX4_addFacts_59 : decode cX4_addFacts 59 = .ok (.aload_n 0, 1) := by decide +kernel
theorem dX4_addFacts_60 : decode cX4_addFacts 60 = .ok (.iload_n 1, 1) := by decide +kernel
theorem dX4_addFacts_61 : decode cX4_addFacts 61 = .ok (.invokevirtual 120, 3) := by decide +kernel
theorem dX4_addFacts_64 : decode cX4_addFacts 64 = .ok (.ifCond .eq 50, 3) := by decide +kernel
theorem dX4_addFacts_67 : decode cX4_addFacts 67 = .ok (.iload_n 2, 1) := by decide +kernel
theorem dX4_addFacts_68 : decode cX4_addFacts 68 = .ok (.ifCond .lt 46, 3) := by decide +kernel
theorem dX4_addFacts_71 : decode cX4_addFacts 71 = .ok (.iload_n 2, 1) := by decide +kernel
theorem dX4_addFacts_72 : decode cX4_addFacts 72 = .ok (.iconst 4, 1) := by decide +kernel
theorem dX4_addFacts_73 : decode cX4_addFacts 73 = .ok (.if_icmp .ge 41, 3) := by decide +kernel
theorem dX4_addFacts_76 : decode cX4_addFacts 76 = .ok (.aload_n 0, 1) := by decide +kernel
theorem dX4_addFacts_77 : decode cX4_addFacts 77 = .ok (.getfield 24, 3) := by decide +kernel
theorem dX4_addFacts_80 : decode cX4_addFacts 80 = .ok (.iload_n 1, 1) := by decide +kernel
theorem dX4_addFacts_81 : decode cX4_addFacts 81 = .ok (.aaload, 1) := by decide +kernel
theorem dX4_addFacts_82 : decode cX4_addFacts 82 = .ok (.iconst 0, 1) := by decide +kernel
theorem dX4_addFacts_83 : decode cX4_addFacts 83 = .ok (.aload_n 0, 1) := by decide +kernel
theorem dX4_addFacts_84 : decode cX4_addFacts 84 = .ok (.getfield 31, 3) := by decide +kernel
theorem dX4_addFacts_87 : decode cX4_addFacts 87 = .ok (.iconst 0, 1) := by decide +kernel
theorem dX4_addFacts_88 : decode cX4_addFacts 88 = .ok (.bipush 10, 2) := by decide +kernel
theorem dX4_addFacts_90 : decode cX4_addFacts 90 = .ok (.invokestatic 124, 3) := by decide +kernel
theorem dX4_addFacts_93 : decode cX4_addFacts 93 = .ok (.aload_n 0, 1) := by decide +kernel
theorem dX4_addFacts_94 : decode cX4_addFacts 94 = .ok (.getfield 11, 3) := by decide +kernel
theorem dX4_addFacts_97 : decode cX4_addFacts 97 = .ok (.iload_n 2, 1) := by decide +kernel
theorem dX4_addFacts_98 : decode cX4_addFacts 98 = .ok (.aaload, 1) := by decide +kernel
theorem dX4_addFacts_99 : decode cX4_addFacts 99 = .ok (.aload_n 0, 1) := by decide +kernel
theorem dX4_addFacts_100 : decode cX4_addFacts 100 = .ok (.getfield 31, 3) := by decide +kernel
theorem dX4_addFacts_103 : decode cX4_addFacts 103 = .ok (.invokevirtual 130, 3) := by decide +kernel
theorem dX4_addFacts_106 : decode cX4_addFacts 106 = .ok (.ifCond .ne 8, 3) := by decide +kernel
theorem dX4_addFacts_109 : decode cX4_addFacts 109 = .ok (.aload_n 0, 1) := by decide +kernel
theorem dX4_addFacts_110 : decode cX4_addFacts 110 = .ok (.iload_n 1, 1) := by decide +kernel
theorem dX4_addFacts_111 : decode cX4_addFacts 111 = .ok (.putfield 43, 3) := by decide +kernel
theorem dX4_addFacts_114 : decode cX4_addFacts 114 = .ok (.iinc 1 1, 3) := by decide +kernel
theorem dX4_addFacts_117 : decode cX4_addFacts 117 = .ok (.goto (-93), 3) := by decide +kernel
theorem dX4_addFacts_120 : decode cX4_addFacts 120 = .ok (.return_, 1) := by decide +kernel
theorem dX4_isFact_0 : decode cX4_isFact 0 = .ok (.aload_n 0, 1) := by decide +kernel
theorem dX4_isFact_1 : decode cX4_isFact 1 = .ok (.getfield 60, 3) := by decide +kernel
theorem dX4_isFact_4 : decode cX4_isFact 4 = .ok (.invokevirtual 134, 3) := by decide +kernel
theorem dX4_isFact_7 : decode cX4_isFact 7 = .ok (.iconst 1, 1) := by decide +kernel
theorem dX4_isFact_8 : decode cX4_isFact 8 = .ok (.iload_n 1, 1) := by decide +kernel
theorem dX4_isFact_9 : decode cX4_isFact 9 = .ok (.ishl, 1) := by decide +kernel
theorem dX4_isFact_10 : decode cX4_isFact 10 = .ok (.iand, 1) := by decide +kernel
theorem dX4_isFact_11 : decode cX4_isFact 11 = .ok (.ifCond .eq 7, 3) := by decide +kernel
theorem dX4_isFact_14 : decode cX4_isFact 14 = .ok (.iconst 1, 1) := by decide +kernel
theorem dX4_isFact_15 : decode cX4_isFact 15 = .ok (.goto 4, 3) := by decide +kernel
theorem dX4_isFact_18 : decode cX4_isFact 18 = .ok (.iconst 0, 1) := by decide +kernel
theorem dX4_isFact_19 : decode cX4_isFact 19 = .ok (.ireturn, 1) := by decide +kernel
theorem dX4_settleAmounts_0 : decode cX4_settleAmounts 0 = .ok (.iconst 0, 1) := by decide +kernel
theorem dX4_settleAmounts_1 : decode cX4_settleAmounts 1 = .ok (.istore_n 1, 1) := by decide +kernel
theorem dX4_settleAmounts_2 : decode cX4_settleAmounts 2 = .ok (.iload_n 1, 1) := by decide +kernel
theorem dX4_settleAmounts_3 : decode cX4_settleAmounts 3 = .ok (.iconst 4, 1) := by decide +kernel
theorem dX4_settleAmounts_4 : decode cX4_settleAmounts 4 = .ok (.if_icmp .ge 99, 3) := by decide +kernel
theorem dX4_settleAmounts_7 : decode cX4_settleAmounts 7 = .ok (.iconst 0, 1) := by decide +kernel
theorem dX4_settleAmounts_8 : decode cX4_settleAmounts 8 = .ok (.istore_n 2, 1) := by decide +kernel
theorem dX4_settleAmounts_9 : decode cX4_settleAmounts 9 = .ok (.iload_n 2, 1) := by decide +kernel
theorem dX4_settleAmounts_10 : decode cX4_settleAmounts 10 = .ok (.bipush 8, 2) := by decide +kernel
theorem dX4_settleAmounts_12 : decode cX4_settleAmounts 12 = .ok (.if_icmp .ge 85, 3) := by decide +kernel
theorem dX4_settleAmounts_15 : decode cX4_settleAmounts 15 = .ok (.aload_n 0, 1) := by decide +kernel
theorem dX4_settleAmounts_16 : decode cX4_settleAmounts 16 = .ok (.getfield 31, 3) := by decide +kernel
theorem dX4_settleAmounts_19 : decode cX4_settleAmounts 19 = .ok (.invokestatic 109, 3) := by decide +kernel
theorem dX4_settleAmounts_22 : decode cX4_settleAmounts 22 = .ok (.aload_n 0, 1) := by decide +kernel
theorem dX4_settleAmounts_23 : decode cX4_settleAmounts 23 = .ok (.getfield 31, 3) := by decide +kernel
theorem dX4_settleAmounts_26 : decode cX4_settleAmounts 26 = .ok (.iload_n 2, 1) := by decide +kernel
theorem dX4_settleAmounts_27 : decode cX4_settleAmounts 27 = .ok (.ldc2_w 137, 3) := by decide +kernel
theorem dX4_settleAmounts_30 : decode cX4_settleAmounts 30 = .ok (.lastore, 1) := by decide +kernel
theorem dX4_settleAmounts_31 : decode cX4_settleAmounts 31 = .ok (.aload_n 0, 1) := by decide +kernel
theorem dX4_settleAmounts_32 : decode cX4_settleAmounts 32 = .ok (.getfield 11, 3) := by decide +kernel
theorem dX4_settleAmounts_35 : decode cX4_settleAmounts 35 = .ok (.iload_n 1, 1) := by decide +kernel
theorem dX4_settleAmounts_36 : decode cX4_settleAmounts 36 = .ok (.aaload, 1) := by decide +kernel
theorem dX4_settleAmounts_37 : decode cX4_settleAmounts 37 = .ok (.aload_n 0, 1) := by decide +kernel
theorem dX4_settleAmounts_38 : decode cX4_settleAmounts 38 = .ok (.getfield 31, 3) := by decide +kernel
theorem dX4_settleAmounts_41 : decode cX4_settleAmounts 41 = .ok (.invokevirtual 139, 3) := by decide +kernel
theorem dX4_settleAmounts_44 : decode cX4_settleAmounts 44 = .ok (.aload_n 0, 1) := by decide +kernel
theorem dX4_settleAmounts_45 : decode cX4_settleAmounts 45 = .ok (.getfield 31, 3) := by decide +kernel
theorem dX4_settleAmounts_48 : decode cX4_settleAmounts 48 = .ok (.invokestatic 142, 3) := by decide +kernel
theorem dX4_settleAmounts_51 : decode cX4_settleAmounts 51 = .ok (.iconst (-1), 1) := by decide +kernel
theorem dX4_settleAmounts_52 : decode cX4_settleAmounts 52 = .ok (.if_icmp .ne 39, 3) := by decide +kernel
theorem dX4_settleAmounts_55 : decode cX4_settleAmounts 55 = .ok (.aload_n 0, 1) := by decide +kernel
theorem dX4_settleAmounts_56 : decode cX4_settleAmounts 56 = .ok (.getfield 37, 3) := by decide +kernel
theorem dX4_settleAmounts_59 : decode cX4_settleAmounts 59 = .ok (.iload_n 1, 1) := by decide +kernel
theorem dX4_settleAmounts_60 : decode cX4_settleAmounts 60 = .ok (.bipush 8, 2) := by decide +kernel
theorem dX4_settleAmounts_62 : decode cX4_settleAmounts 62 = .ok (.imul, 1) := by decide +kernel
theorem dX4_settleAmounts_63 : decode cX4_settleAmounts 63 = .ok (.iload_n 2, 1) := by decide +kernel
theorem dX4_settleAmounts_64 : decode cX4_settleAmounts 64 = .ok (.iadd, 1) := by decide +kernel
theorem dX4_settleAmounts_65 : decode cX4_settleAmounts 65 = .ok (.aload_n 0, 1) := by decide +kernel
theorem dX4_settleAmounts_66 : decode cX4_settleAmounts 66 = .ok (.getfield 31, 3) := by decide +kernel
theorem dX4_settleAmounts_69 : decode cX4_settleAmounts 69 = .ok (.bipush 9, 2) := by decide +kernel
theorem dX4_settleAmounts_71 : decode cX4_settleAmounts 71 = .ok (.laload, 1) := by decide +kernel
theorem dX4_settleAmounts_72 : decode cX4_settleAmounts 72 = .ok (.lastore, 1) := by decide +kernel
theorem dX4_settleAmounts_73 : decode cX4_settleAmounts 73 = .ok (.aload_n 0, 1) := by decide +kernel
theorem dX4_settleAmounts_74 : decode cX4_settleAmounts 74 = .ok (.getfield 40, 3) := by decide +kernel
theorem dX4_settleAmounts_77 : decode cX4_settleAmounts 77 = .ok (.iload_n 1, 1) := by decide +kernel
theorem dX4_settleAmounts_78 : decode cX4_settleAmounts 78 = .ok (.bipush 8, 2) := by decide +kernel
theorem dX4_settleAmounts_80 : decode cX4_settleAmounts 80 = .ok (.imul, 1) := by decide +kernel
theorem dX4_settleAmounts_81 : decode cX4_settleAmounts 81 = .ok (.iload_n 2, 1) := by decide +kernel
theorem dX4_settleAmounts_82 : decode cX4_settleAmounts 82 = .ok (.iadd, 1) := by decide +kernel
theorem dX4_settleAmounts_83 : decode cX4_settleAmounts 83 = .ok (.aload_n 0, 1) := by decide +kernel
theorem dX4_settleAmounts_84 : decode cX4_settleAmounts 84 = .ok (.getfield 31, 3) := by decide +kernel
theorem dX4_settleAmounts_87 : decode cX4_settleAmounts 87 = .ok (.bipush 8, 2) := by decide +kernel
theorem dX4_settleAmounts_89 : decode cX4_settleAmounts 89 = .ok (.laload, 1) := by decide +kernel
theorem dX4_settleAmounts_90 : decode cX4_settleAmounts 90 = .ok (.lastore, 1) := by decide +kernel
theorem dX4_settleAmounts_91 : decode cX4_settleAmounts 91 = .ok (.iinc 2 1, 3) := by decide +kernel
theorem dX4_settleAmounts_94 : decode cX4_settleAmounts 94 = .ok (.goto (-85), 3) := by decide +kernel
theorem dX4_settleAmounts_97 : decode cX4_settleAmounts 97 = .ok (.iinc 1 1, 3) := by decide +kernel
theorem dX4_settleAmounts_100 : decode cX4_settleAmounts 100 = .ok (.goto (-98), 3) := by decide +kernel
theorem dX4_settleAmounts_103 : decode cX4_settleAmounts 103 = .ok (.return_, 1) := by decide +kernel
theorem dX4_settleAnswer_0 : decode cX4_settleAnswer 0 = .ok (.aload_n 0, 1) := by decide +kernel
theorem dX4_settleAnswer_1 : decode cX4_settleAnswer 1 = .ok (.getfield 60, 3) := by decide +kernel
theorem dX4_settleAnswer_4 : decode cX4_settleAnswer 4 = .ok (.iconst 3, 1) := by decide +kernel
theorem dX4_settleAnswer_5 : decode cX4_settleAnswer 5 = .ok (.invokevirtual 105, 3) := by decide +kernel
theorem dX4_settleAnswer_8 : decode cX4_settleAnswer 8 = .ok (.istore_n 1, 1) := by decide +kernel
theorem dX4_settleAnswer_9 : decode cX4_settleAnswer 9 = .ok (.iload_n 1, 1) := by decide +kernel
theorem dX4_settleAnswer_10 : decode cX4_settleAnswer 10 = .ok (.ifCond .lt 8, 3) := by decide +kernel
theorem dX4_settleAnswer_13 : decode cX4_settleAnswer 13 = .ok (.iload_n 1, 1) := by decide +kernel
theorem dX4_settleAnswer_14 : decode cX4_settleAnswer 14 = .ok (.iconst 4, 1) := by decide +kernel
theorem dX4_settleAnswer_15 : decode cX4_settleAnswer 15 = .ok (.if_icmp .lt 4, 3) := by decide +kernel
theorem dX4_settleAnswer_18 : decode cX4_settleAnswer 18 = .ok (.return_, 1) := by decide +kernel
theorem dX4_settleAnswer_19 : decode cX4_settleAnswer 19 = .ok (.aload_n 0, 1) := by decide +kernel
theorem dX4_settleAnswer_20 : decode cX4_settleAnswer 20 = .ok (.getfield 27, 3) := by decide +kernel
theorem dX4_settleAnswer_23 : decode cX4_settleAnswer 23 = .ok (.iconst 0, 1) := by decide +kernel
theorem dX4_settleAnswer_24 : decode cX4_settleAnswer 24 = .ok (.aload_n 0, 1) := by decide +kernel
theorem dX4_settleAnswer_25 : decode cX4_settleAnswer 25 = .ok (.getfield 31, 3) := by decide +kernel
theorem dX4_settleAnswer_28 : decode cX4_settleAnswer 28 = .ok (.iconst 0, 1) := by decide +kernel
theorem dX4_settleAnswer_29 : decode cX4_settleAnswer 29 = .ok (.bipush 10, 2) := by decide +kernel
theorem dX4_settleAnswer_31 : decode cX4_settleAnswer 31 = .ok (.invokestatic 124, 3) := by decide +kernel
theorem dX4_settleAnswer_34 : decode cX4_settleAnswer 34 = .ok (.aload_n 0, 1) := by decide +kernel
theorem dX4_settleAnswer_35 : decode cX4_settleAnswer 35 = .ok (.getfield 11, 3) := by decide +kernel
theorem dX4_settleAnswer_38 : decode cX4_settleAnswer 38 = .ok (.iload_n 1, 1) := by decide +kernel
theorem dX4_settleAnswer_39 : decode cX4_settleAnswer 39 = .ok (.aaload, 1) := by decide +kernel
theorem dX4_settleAnswer_40 : decode cX4_settleAnswer 40 = .ok (.aload_n 0, 1) := by decide +kernel
theorem dX4_settleAnswer_41 : decode cX4_settleAnswer 41 = .ok (.getfield 31, 3) := by decide +kernel
theorem dX4_settleAnswer_44 : decode cX4_settleAnswer 44 = .ok (.invokevirtual 139, 3) := by decide +kernel
theorem dX4_settleAnswer_47 : decode cX4_settleAnswer 47 = .ok (.aload_n 0, 1) := by decide +kernel
theorem dX4_settleAnswer_48 : decode cX4_settleAnswer 48 = .ok (.getfield 31, 3) := by decide +kernel
theorem dX4_settleAnswer_51 : decode cX4_settleAnswer 51 = .ok (.invokestatic 142, 3) := by decide +kernel
theorem dX4_settleAnswer_54 : decode cX4_settleAnswer 54 = .ok (.iconst (-1), 1) := by decide +kernel
theorem dX4_settleAnswer_55 : decode cX4_settleAnswer 55 = .ok (.if_icmp .ne 25, 3) := by decide +kernel
theorem dX4_settleAnswer_58 : decode cX4_settleAnswer 58 = .ok (.aload_n 0, 1) := by decide +kernel
theorem dX4_settleAnswer_59 : decode cX4_settleAnswer 59 = .ok (.aload_n 0, 1) := by decide +kernel
theorem dX4_settleAnswer_60 : decode cX4_settleAnswer 60 = .ok (.getfield 31, 3) := by decide +kernel
theorem dX4_settleAnswer_63 : decode cX4_settleAnswer 63 = .ok (.bipush 9, 2) := by decide +kernel
theorem dX4_settleAnswer_65 : decode cX4_settleAnswer 65 = .ok (.laload, 1) := by decide +kernel
theorem dX4_settleAnswer_66 : decode cX4_settleAnswer 66 = .ok (.putfield 47, 3) := by decide +kernel
theorem dX4_settleAnswer_69 : decode cX4_settleAnswer 69 = .ok (.aload_n 0, 1) := by decide +kernel
theorem dX4_settleAnswer_70 : decode cX4_settleAnswer 70 = .ok (.aload_n 0, 1) := by decide +kernel
theorem dX4_settleAnswer_71 : decode cX4_settleAnswer 71 = .ok (.getfield 31, 3) := by decide +kernel
theorem dX4_settleAnswer_74 : decode cX4_settleAnswer 74 = .ok (.bipush 8, 2) := by decide +kernel
theorem dX4_settleAnswer_76 : decode cX4_settleAnswer 76 = .ok (.laload, 1) := by decide +kernel
theorem dX4_settleAnswer_77 : decode cX4_settleAnswer 77 = .ok (.putfield 51, 3) := by decide +kernel
theorem dX4_settleAnswer_80 : decode cX4_settleAnswer 80 = .ok (.return_, 1) := by decide +kernel
theorem dX4_quarrelAt_0 : decode cX4_quarrelAt 0 = .ok (.aload_n 0, 1) := by decide +kernel
theorem dX4_quarrelAt_1 : decode cX4_quarrelAt 1 = .ok (.getfield 43, 3) := by decide +kernel
theorem dX4_quarrelAt_4 : decode cX4_quarrelAt 4 = .ok (.ireturn, 1) := by decide +kernel
theorem dX4_hasAnswer_0 : decode cX4_hasAnswer 0 = .ok (.aload_n 0, 1) := by decide +kernel
theorem dX4_hasAnswer_1 : decode cX4_hasAnswer 1 = .ok (.getfield 51, 3) := by decide +kernel
theorem dX4_hasAnswer_4 : decode cX4_hasAnswer 4 = .ok (.lconst 0, 1) := by decide +kernel
theorem dX4_hasAnswer_5 : decode cX4_hasAnswer 5 = .ok (.lcmp, 1) := by decide +kernel
theorem dX4_hasAnswer_6 : decode cX4_hasAnswer 6 = .ok (.ifCond .eq 7, 3) := by decide +kernel
theorem dX4_hasAnswer_9 : decode cX4_hasAnswer 9 = .ok (.iconst 1, 1) := by decide +kernel
theorem dX4_hasAnswer_10 : decode cX4_hasAnswer 10 = .ok (.goto 4, 3) := by decide +kernel
theorem dX4_hasAnswer_13 : decode cX4_hasAnswer 13 = .ok (.iconst 0, 1) := by decide +kernel
theorem dX4_hasAnswer_14 : decode cX4_hasAnswer 14 = .ok (.ireturn, 1) := by decide +kernel
theorem dX4_answerPart_0 : decode cX4_answerPart 0 = .ok (.aload_n 0, 1) := by decide +kernel
theorem dX4_answerPart_1 : decode cX4_answerPart 1 = .ok (.invokevirtual 146, 3) := by decide +kernel
theorem dX4_answerPart_4 : decode cX4_answerPart 4 = .ok (.ifCond .ne 7, 3) := by decide +kernel
theorem dX4_answerPart_7 : decode cX4_answerPart 7 = .ok (.ldc2_w 150, 3) := by decide +kernel
theorem dX4_answerPart_10 : decode cX4_answerPart 10 = .ok (.lreturn, 1) := by decide +kernel
theorem dX4_answerPart_11 : decode cX4_answerPart 11 = .ok (.iload_n 1, 1) := by decide +kernel
theorem dX4_answerPart_12 : decode cX4_answerPart 12 = .ok (.ifCond .ne 8, 3) := by decide +kernel
theorem dX4_answerPart_15 : decode cX4_answerPart 15 = .ok (.aload_n 0, 1) := by decide +kernel
theorem dX4_answerPart_16 : decode cX4_answerPart 16 = .ok (.getfield 47, 3) := by decide +kernel
theorem dX4_answerPart_19 : decode cX4_answerPart 19 = .ok (.lreturn, 1) := by decide +kernel
theorem dX4_answerPart_20 : decode cX4_answerPart 20 = .ok (.iload_n 1, 1) := by decide +kernel
theorem dX4_answerPart_21 : decode cX4_answerPart 21 = .ok (.iconst 1, 1) := by decide +kernel
theorem dX4_answerPart_22 : decode cX4_answerPart 22 = .ok (.if_icmp .ne 10, 3) := by decide +kernel
theorem dX4_answerPart_25 : decode cX4_answerPart 25 = .ok (.aload_n 0, 1) := by decide +kernel
theorem dX4_answerPart_26 : decode cX4_answerPart 26 = .ok (.getfield 51, 3) := by decide +kernel
theorem dX4_answerPart_29 : decode cX4_answerPart 29 = .ok (.goto 6, 3) := by decide +kernel
theorem dX4_answerPart_32 : decode cX4_answerPart 32 = .ok (.ldc2_w 150, 3) := by decide +kernel
theorem dX4_answerPart_35 : decode cX4_answerPart 35 = .ok (.lreturn, 1) := by decide +kernel
theorem dX4_amountPart_0 : decode cX4_amountPart 0 = .ok (.iload_n 1, 1) := by decide +kernel
theorem dX4_amountPart_1 : decode cX4_amountPart 1 = .ok (.ifCond .lt 33, 3) := by decide +kernel
theorem dX4_amountPart_4 : decode cX4_amountPart 4 = .ok (.iload_n 1, 1) := by decide +kernel
theorem dX4_amountPart_5 : decode cX4_amountPart 5 = .ok (.bipush 8, 2) := by decide +kernel
theorem dX4_amountPart_7 : decode cX4_amountPart 7 = .ok (.if_icmp .ge 27, 3) := by decide +kernel
theorem dX4_amountPart_10 : decode cX4_amountPart 10 = .ok (.iload_n 2, 1) := by decide +kernel
theorem dX4_amountPart_11 : decode cX4_amountPart 11 = .ok (.ifCond .lt 23, 3) := by decide +kernel
theorem dX4_amountPart_14 : decode cX4_amountPart 14 = .ok (.iload_n 2, 1) := by decide +kernel
theorem dX4_amountPart_15 : decode cX4_amountPart 15 = .ok (.iconst 4, 1) := by decide +kernel
theorem dX4_amountPart_16 : decode cX4_amountPart 16 = .ok (.if_icmp .ge 18, 3) := by decide +kernel
theorem dX4_amountPart_19 : decode cX4_amountPart 19 = .ok (.iload_n 3, 1) := by decide +kernel
theorem dX4_amountPart_20 : decode cX4_amountPart 20 = .ok (.ifCond .lt 14, 3) := by decide +kernel
theorem dX4_amountPart_23 : decode cX4_amountPart 23 = .ok (.iload_n 3, 1) := by decide +kernel
theorem dX4_amountPart_24 : decode cX4_amountPart 24 = .ok (.aload_n 0, 1) := by decide +kernel
theorem dX4_amountPart_25 : decode cX4_amountPart 25 = .ok (.getfield 60, 3) := by decide +kernel
theorem dX4_amountPart_28 : decode cX4_amountPart 28 = .ok (.invokevirtual 152, 3) := by decide +kernel
theorem dX4_amountPart_31 : decode cX4_amountPart 31 = .ok (.if_icmp .lt 7, 3) := by decide +kernel
theorem dX4_amountPart_34 : decode cX4_amountPart 34 = .ok (.ldc2_w 150, 3) := by decide +kernel
theorem dX4_amountPart_37 : decode cX4_amountPart 37 = .ok (.lreturn, 1) := by decide +kernel
theorem dX4_amountPart_38 : decode cX4_amountPart 38 = .ok (.aload_n 0, 1) := by decide +kernel
theorem dX4_amountPart_39 : decode cX4_amountPart 39 = .ok (.getfield 40, 3) := by decide +kernel
theorem dX4_amountPart_42 : decode cX4_amountPart 42 = .ok (.iload_n 2, 1) := by decide +kernel
theorem dX4_amountPart_43 : decode cX4_amountPart 43 = .ok (.bipush 8, 2) := by decide +kernel
theorem dX4_amountPart_45 : decode cX4_amountPart 45 = .ok (.imul, 1) := by decide +kernel
theorem dX4_amountPart_46 : decode cX4_amountPart 46 = .ok (.iload_n 1, 1) := by decide +kernel
theorem dX4_amountPart_47 : decode cX4_amountPart 47 = .ok (.iadd, 1) := by decide +kernel
theorem dX4_amountPart_48 : decode cX4_amountPart 48 = .ok (.laload, 1) := by decide +kernel
theorem dX4_amountPart_49 : decode cX4_amountPart 49 = .ok (.lstore 5, 2) := by decide +kernel
theorem dX4_amountPart_51 : decode cX4_amountPart 51 = .ok (.lload 5, 2) := by decide +kernel
theorem dX4_amountPart_53 : decode cX4_amountPart 53 = .ok (.lconst 0, 1) := by decide +kernel
theorem dX4_amountPart_54 : decode cX4_amountPart 54 = .ok (.lcmp, 1) := by decide +kernel
theorem dX4_amountPart_55 : decode cX4_amountPart 55 = .ok (.ifCond .ne 7, 3) := by decide +kernel
theorem dX4_amountPart_58 : decode cX4_amountPart 58 = .ok (.ldc2_w 150, 3) := by decide +kernel
theorem dX4_amountPart_61 : decode cX4_amountPart 61 = .ok (.lreturn, 1) := by decide +kernel
theorem dX4_amountPart_62 : decode cX4_amountPart 62 = .ok (.iload 4, 2) := by decide +kernel
theorem dX4_amountPart_64 : decode cX4_amountPart 64 = .ok (.ifCond .ne 11, 3) := by decide +kernel
theorem dX4_amountPart_67 : decode cX4_amountPart 67 = .ok (.aload_n 0, 1) := by decide +kernel
theorem dX4_amountPart_68 : decode cX4_amountPart 68 = .ok (.iload_n 1, 1) := by decide +kernel
theorem dX4_amountPart_69 : decode cX4_amountPart 69 = .ok (.iload_n 2, 1) := by decide +kernel
theorem dX4_amountPart_70 : decode cX4_amountPart 70 = .ok (.iload_n 3, 1) := by decide +kernel
theorem dX4_amountPart_71 : decode cX4_amountPart 71 = .ok (.invokevirtual 155, 3) := by decide +kernel
theorem dX4_amountPart_74 : decode cX4_amountPart 74 = .ok (.lreturn, 1) := by decide +kernel
theorem dX4_amountPart_75 : decode cX4_amountPart 75 = .ok (.iload 4, 2) := by decide +kernel
theorem dX4_amountPart_77 : decode cX4_amountPart 77 = .ok (.iconst 1, 1) := by decide +kernel
theorem dX4_amountPart_78 : decode cX4_amountPart 78 = .ok (.if_icmp .ne 8, 3) := by decide +kernel
theorem dX4_amountPart_81 : decode cX4_amountPart 81 = .ok (.lload 5, 2) := by decide +kernel
theorem dX4_amountPart_83 : decode cX4_amountPart 83 = .ok (.goto 6, 3) := by decide +kernel
theorem dX4_amountPart_86 : decode cX4_amountPart 86 = .ok (.ldc2_w 150, 3) := by decide +kernel
theorem dX4_amountPart_89 : decode cX4_amountPart 89 = .ok (.lreturn, 1) := by decide +kernel
theorem dX4_topAt_0 : decode cX4_topAt 0 = .ok (.iload_n 2, 1) := by decide +kernel
theorem dX4_topAt_1 : decode cX4_topAt 1 = .ok (.bipush 8, 2) := by decide +kernel
theorem dX4_topAt_3 : decode cX4_topAt 3 = .ok (.imul, 1) := by decide +kernel
theorem dX4_topAt_4 : decode cX4_topAt 4 = .ok (.iload_n 1, 1) := by decide +kernel
theorem dX4_topAt_5 : decode cX4_topAt 5 = .ok (.iadd, 1) := by decide +kernel
theorem dX4_topAt_6 : decode cX4_topAt 6 = .ok (.istore 4, 2) := by decide +kernel
theorem dX4_topAt_8 : decode cX4_topAt 8 = .ok (.aload_n 0, 1) := by decide +kernel
theorem dX4_topAt_9 : decode cX4_topAt 9 = .ok (.getfield 37, 3) := by decide +kernel
theorem dX4_topAt_12 : decode cX4_topAt 12 = .ok (.iload 4, 2) := by decide +kernel
theorem dX4_topAt_14 : decode cX4_topAt 14 = .ok (.laload, 1) := by decide +kernel
theorem dX4_topAt_15 : decode cX4_topAt 15 = .ok (.aload_n 0, 1) := by decide +kernel
theorem dX4_topAt_16 : decode cX4_topAt 16 = .ok (.getfield 40, 3) := by decide +kernel
theorem dX4_topAt_19 : decode cX4_topAt 19 = .ok (.iload 4, 2) := by decide +kernel
theorem dX4_topAt_21 : decode cX4_topAt 21 = .ok (.laload, 1) := by decide +kernel
theorem dX4_topAt_22 : decode cX4_topAt 22 = .ok (.aload_n 0, 1) := by decide +kernel
theorem dX4_topAt_23 : decode cX4_topAt 23 = .ok (.getfield 60, 3) := by decide +kernel
theorem dX4_topAt_26 : decode cX4_topAt 26 = .ok (.iload_n 1, 1) := by decide +kernel
theorem dX4_topAt_27 : decode cX4_topAt 27 = .ok (.iload_n 2, 1) := by decide +kernel
theorem dX4_topAt_28 : decode cX4_topAt 28 = .ok (.iload_n 3, 1) := by decide +kernel
theorem dX4_topAt_29 : decode cX4_topAt 29 = .ok (.invokevirtual 113, 3) := by decide +kernel
theorem dX4_topAt_32 : decode cX4_topAt 32 = .ok (.lmul, 1) := by decide +kernel
theorem dX4_topAt_33 : decode cX4_topAt 33 = .ok (.ladd, 1) := by decide +kernel
theorem dX4_topAt_34 : decode cX4_topAt 34 = .ok (.lreturn, 1) := by decide +kernel
theorem dX4_settledAtFirst_0 : decode cX4_settledAtFirst 0 = .ok (.iconst 0, 1) := by decide +kernel
theorem dX4_settledAtFirst_1 : decode cX4_settledAtFirst 1 = .ok (.istore_n 1, 1) := by decide +kernel
theorem dX4_settledAtFirst_2 : decode cX4_settledAtFirst 2 = .ok (.iconst 0, 1) := by decide +kernel
theorem dX4_settledAtFirst_3 : decode cX4_settledAtFirst 3 = .ok (.istore_n 2, 1) := by decide +kernel
theorem dX4_settledAtFirst_4 : decode cX4_settledAtFirst 4 = .ok (.iload_n 2, 1) := by decide +kernel
theorem dX4_settledAtFirst_5 : decode cX4_settledAtFirst 5 = .ok (.bipush 32, 2) := by decide +kernel
theorem dX4_settledAtFirst_7 : decode cX4_settledAtFirst 7 = .ok (.if_icmp .ge 23, 3) := by decide +kernel
theorem dX4_settledAtFirst_10 : decode cX4_settledAtFirst 10 = .ok (.aload_n 0, 1) := by decide +kernel
theorem dX4_settledAtFirst_11 : decode cX4_settledAtFirst 11 = .ok (.getfield 40, 3) := by decide +kernel
theorem dX4_settledAtFirst_14 : decode cX4_settledAtFirst 14 = .ok (.iload_n 2, 1) := by decide +kernel
theorem dX4_settledAtFirst_15 : decode cX4_settledAtFirst 15 = .ok (.laload, 1) := by decide +kernel
theorem dX4_settledAtFirst_16 : decode cX4_settledAtFirst 16 = .ok (.lconst 0, 1) := by decide +kernel
theorem dX4_settledAtFirst_17 : decode cX4_settledAtFirst 17 = .ok (.lcmp, 1) := by decide +kernel
theorem dX4_settledAtFirst_18 : decode cX4_settledAtFirst 18 = .ok (.ifCond .eq 6, 3) := by decide +kernel
theorem dX4_settledAtFirst_21 : decode cX4_settledAtFirst 21 = .ok (.iinc 1 1, 3) := by decide +kernel
theorem dX4_settledAtFirst_24 : decode cX4_settledAtFirst 24 = .ok (.iinc 2 1, 3) := by decide +kernel
theorem dX4_settledAtFirst_27 : decode cX4_settledAtFirst 27 = .ok (.goto (-23), 3) := by decide +kernel
theorem dX4_settledAtFirst_30 : decode cX4_settledAtFirst 30 = .ok (.iload_n 1, 1) := by decide +kernel
theorem dX4_settledAtFirst_31 : decode cX4_settledAtFirst 31 = .ok (.ireturn, 1) := by decide +kernel
theorem dX4_strangePart_0 : decode cX4_strangePart 0 = .ok (.iconst 0, 1) := by decide +kernel
theorem dX4_strangePart_1 : decode cX4_strangePart 1 = .ok (.istore_n 2, 1) := by decide +kernel
theorem dX4_strangePart_2 : decode cX4_strangePart 2 = .ok (.iload_n 2, 1) := by decide +kernel
theorem dX4_strangePart_3 : decode cX4_strangePart 3 = .ok (.aload_n 0, 1) := by decide +kernel
theorem dX4_strangePart_4 : decode cX4_strangePart 4 = .ok (.getfield 60, 3) := by decide +kernel
theorem dX4_strangePart_7 : decode cX4_strangePart 7 = .ok (.invokevirtual 152, 3) := by decide +kernel
theorem dX4_strangePart_10 : decode cX4_strangePart 10 = .ok (.if_icmp .ge 58, 3) := by decide +kernel
theorem dX4_strangePart_13 : decode cX4_strangePart 13 = .ok (.iconst 0, 1) := by decide +kernel
theorem dX4_strangePart_14 : decode cX4_strangePart 14 = .ok (.istore_n 3, 1) := by decide +kernel
theorem dX4_strangePart_15 : decode cX4_strangePart 15 = .ok (.iload_n 3, 1) := by decide +kernel
theorem dX4_strangePart_16 : decode cX4_strangePart 16 = .ok (.iconst 4, 1) := by decide +kernel
theorem dX4_strangePart_17 : decode cX4_strangePart 17 = .ok (.if_icmp .ge 45, 3) := by decide +kernel
theorem dX4_strangePart_20 : decode cX4_strangePart 20 = .ok (.iconst 0, 1) := by decide +kernel
theorem dX4_strangePart_21 : decode cX4_strangePart 21 = .ok (.istore 4, 2) := by decide +kernel
theorem dX4_strangePart_23 : decode cX4_strangePart 23 = .ok (.iload 4, 2) := by decide +kernel
theorem dX4_strangePart_25 : decode cX4_strangePart 25 = .ok (.bipush 8, 2) := by decide +kernel
theorem dX4_strangePart_27 : decode cX4_strangePart 27 = .ok (.if_icmp .ge 29, 3) := by decide +kernel
theorem dX4_strangePart_30 : decode cX4_strangePart 30 = .ok (.aload_n 0, 1) := by decide +kernel
theorem dX4_strangePart_31 : decode cX4_strangePart 31 = .ok (.iload 4, 2) := by decide +kernel
theorem dX4_strangePart_33 : decode cX4_strangePart 33 = .ok (.iload_n 3, 1) := by decide +kernel
theorem dX4_strangePart_34 : decode cX4_strangePart 34 = .ok (.iload_n 2, 1) := by decide +kernel
theorem dX4_strangePart_35 : decode cX4_strangePart 35 = .ok (.invokevirtual 158, 3) := by decide +kernel
theorem dX4_strangePart_38 : decode cX4_strangePart 38 = .ok (.ifCond .eq 12, 3) := by decide +kernel
theorem dX4_strangePart_41 : decode cX4_strangePart 41 = .ok (.iload_n 1, 1) := by decide +kernel
theorem dX4_strangePart_42 : decode cX4_strangePart 42 = .ok (.iload 4, 2) := by decide +kernel
theorem dX4_strangePart_44 : decode cX4_strangePart 44 = .ok (.iload_n 3, 1) := by decide +kernel
theorem dX4_strangePart_45 : decode cX4_strangePart 45 = .ok (.iload_n 2, 1) := by decide +kernel
theorem dX4_strangePart_46 : decode cX4_strangePart 46 = .ok (.invokestatic 162, 3) := by decide +kernel
theorem dX4_strangePart_49 : decode cX4_strangePart 49 = .ok (.ireturn, 1) := by decide +kernel
theorem dX4_strangePart_50 : decode cX4_strangePart 50 = .ok (.iinc 4 1, 3) := by decide +kernel
theorem dX4_strangePart_53 : decode cX4_strangePart 53 = .ok (.goto (-30), 3) := by decide +kernel
theorem dX4_strangePart_56 : decode cX4_strangePart 56 = .ok (.iinc 3 1, 3) := by decide +kernel
theorem dX4_strangePart_59 : decode cX4_strangePart 59 = .ok (.goto (-44), 3) := by decide +kernel
theorem dX4_strangePart_62 : decode cX4_strangePart 62 = .ok (.iinc 2 1, 3) := by decide +kernel
theorem dX4_strangePart_65 : decode cX4_strangePart 65 = .ok (.goto (-63), 3) := by decide +kernel
theorem dX4_strangePart_68 : decode cX4_strangePart 68 = .ok (.iconst (-1), 1) := by decide +kernel
theorem dX4_strangePart_69 : decode cX4_strangePart 69 = .ok (.ireturn, 1) := by decide +kernel
theorem dX4_isStrange_0 : decode cX4_isStrange 0 = .ok (.aload_n 0, 1) := by decide +kernel
theorem dX4_isStrange_1 : decode cX4_isStrange 1 = .ok (.getfield 40, 3) := by decide +kernel
theorem dX4_isStrange_4 : decode cX4_isStrange 4 = .ok (.iload_n 2, 1) := by decide +kernel
theorem dX4_isStrange_5 : decode cX4_isStrange 5 = .ok (.bipush 8, 2) := by decide +kernel
theorem dX4_isStrange_7 : decode cX4_isStrange 7 = .ok (.imul, 1) := by decide +kernel
theorem dX4_isStrange_8 : decode cX4_isStrange 8 = .ok (.iload_n 1, 1) := by decide +kernel
theorem dX4_isStrange_9 : decode cX4_isStrange 9 = .ok (.iadd, 1) := by decide +kernel
theorem dX4_isStrange_10 : decode cX4_isStrange 10 = .ok (.laload, 1) := by decide +kernel
theorem dX4_isStrange_11 : decode cX4_isStrange 11 = .ok (.lstore 4, 2) := by decide +kernel
theorem dX4_isStrange_13 : decode cX4_isStrange 13 = .ok (.lload 4, 2) := by decide +kernel
theorem dX4_isStrange_15 : decode cX4_isStrange 15 = .ok (.lconst 0, 1) := by decide +kernel
theorem dX4_isStrange_16 : decode cX4_isStrange 16 = .ok (.lcmp, 1) := by decide +kernel
theorem dX4_isStrange_17 : decode cX4_isStrange 17 = .ok (.ifCond .eq 26, 3) := by decide +kernel
theorem dX4_isStrange_20 : decode cX4_isStrange 20 = .ok (.lload 4, 2) := by decide +kernel
theorem dX4_isStrange_22 : decode cX4_isStrange 22 = .ok (.lconst 1, 1) := by decide +kernel
theorem dX4_isStrange_23 : decode cX4_isStrange 23 = .ok (.lcmp, 1) := by decide +kernel
theorem dX4_isStrange_24 : decode cX4_isStrange 24 = .ok (.ifCond .ne 15, 3) := by decide +kernel
theorem dX4_isStrange_27 : decode cX4_isStrange 27 = .ok (.aload_n 0, 1) := by decide +kernel
theorem dX4_isStrange_28 : decode cX4_isStrange 28 = .ok (.iload_n 1, 1) := by decide +kernel
theorem dX4_isStrange_29 : decode cX4_isStrange 29 = .ok (.iload_n 2, 1) := by decide +kernel
theorem dX4_isStrange_30 : decode cX4_isStrange 30 = .ok (.iload_n 3, 1) := by decide +kernel
theorem dX4_isStrange_31 : decode cX4_isStrange 31 = .ok (.invokevirtual 155, 3) := by decide +kernel
theorem dX4_isStrange_34 : decode cX4_isStrange 34 = .ok (.lconst 0, 1) := by decide +kernel
theorem dX4_isStrange_35 : decode cX4_isStrange 35 = .ok (.lcmp, 1) := by decide +kernel
theorem dX4_isStrange_36 : decode cX4_isStrange 36 = .ok (.ifCond .ge 7, 3) := by decide +kernel
theorem dX4_isStrange_39 : decode cX4_isStrange 39 = .ok (.iconst 1, 1) := by decide +kernel
theorem dX4_isStrange_40 : decode cX4_isStrange 40 = .ok (.goto 4, 3) := by decide +kernel
theorem dX4_isStrange_43 : decode cX4_isStrange 43 = .ok (.iconst 0, 1) := by decide +kernel
theorem dX4_isStrange_44 : decode cX4_isStrange 44 = .ok (.ireturn, 1) := by decide +kernel
theorem dX4_choose_0 : decode cX4_choose 0 = .ok (.iload_n 0, 1) := by decide +kernel
theorem dX4_choose_1 : decode cX4_choose 1 = .ok (.tableswitch 33 0 2 #[27, 29, 31], 27) := by decide +kernel
theorem dX4_choose_28 : decode cX4_choose 28 = .ok (.iload_n 1, 1) := by decide +kernel
theorem dX4_choose_29 : decode cX4_choose 29 = .ok (.ireturn, 1) := by decide +kernel
theorem dX4_choose_30 : decode cX4_choose 30 = .ok (.iload_n 2, 1) := by decide +kernel
theorem dX4_choose_31 : decode cX4_choose 31 = .ok (.ireturn, 1) := by decide +kernel
theorem dX4_choose_32 : decode cX4_choose 32 = .ok (.iload_n 3, 1) := by decide +kernel
theorem dX4_choose_33 : decode cX4_choose 33 = .ok (.ireturn, 1) := by decide +kernel
theorem dX4_choose_34 : decode cX4_choose 34 = .ok (.iconst (-1), 1) := by decide +kernel
theorem dX4_choose_35 : decode cX4_choose 35 = .ok (.ireturn, 1) := by decide +kernel
theorem dX4_lackingName_0 : decode cX4_lackingName 0 = .ok (.aload_n 0, 1) := by decide +kernel
theorem dX4_lackingName_1 : decode cX4_lackingName 1 = .ok (.getfield 60, 3) := by decide +kernel
theorem dX4_lackingName_4 : decode cX4_lackingName 4 = .ok (.iconst 3, 1) := by decide +kernel
theorem dX4_lackingName_5 : decode cX4_lackingName 5 = .ok (.invokevirtual 105, 3) := by decide +kernel
theorem dX4_lackingName_8 : decode cX4_lackingName 8 = .ok (.istore_n 1, 1) := by decide +kernel
theorem dX4_lackingName_9 : decode cX4_lackingName 9 = .ok (.aload_n 0, 1) := by decide +kernel
theorem dX4_lackingName_10 : decode cX4_lackingName 10 = .ok (.invokevirtual 146, 3) := by decide +kernel
theorem dX4_lackingName_13 : decode cX4_lackingName 13 = .ok (.ifCond .ne 20, 3) := by decide +kernel
theorem dX4_lackingName_16 : decode cX4_lackingName 16 = .ok (.aload_n 0, 1) := by decide +kernel
theorem dX4_lackingName_17 : decode cX4_lackingName 17 = .ok (.getfield 43, 3) := by decide +kernel
theorem dX4_lackingName_20 : decode cX4_lackingName 20 = .ok (.iconst (-1), 1) := by decide +kernel
theorem dX4_lackingName_21 : decode cX4_lackingName 21 = .ok (.if_icmp .ne 12, 3) := by decide +kernel
theorem dX4_lackingName_24 : decode cX4_lackingName 24 = .ok (.iload_n 1, 1) := by decide +kernel
theorem dX4_lackingName_25 : decode cX4_lackingName 25 = .ok (.ifCond .lt 8, 3) := by decide +kernel
theorem dX4_lackingName_28 : decode cX4_lackingName 28 = .ok (.iload_n 1, 1) := by decide +kernel
theorem dX4_lackingName_29 : decode cX4_lackingName 29 = .ok (.iconst 4, 1) := by decide +kernel
theorem dX4_lackingName_30 : decode cX4_lackingName 30 = .ok (.if_icmp .lt 5, 3) := by decide +kernel
theorem dX4_lackingName_33 : decode cX4_lackingName 33 = .ok (.iconst (-1), 1) := by decide +kernel
theorem dX4_lackingName_34 : decode cX4_lackingName 34 = .ok (.ireturn, 1) := by decide +kernel
theorem dX4_lackingName_35 : decode cX4_lackingName 35 = .ok (.aload_n 0, 1) := by decide +kernel
theorem dX4_lackingName_36 : decode cX4_lackingName 36 = .ok (.getfield 27, 3) := by decide +kernel
theorem dX4_lackingName_39 : decode cX4_lackingName 39 = .ok (.iconst 0, 1) := by decide +kernel
theorem dX4_lackingName_40 : decode cX4_lackingName 40 = .ok (.aload_n 0, 1) := by decide +kernel
theorem dX4_lackingName_41 : decode cX4_lackingName 41 = .ok (.getfield 31, 3) := by decide +kernel
theorem dX4_lackingName_44 : decode cX4_lackingName 44 = .ok (.iconst 0, 1) := by decide +kernel
theorem dX4_lackingName_45 : decode cX4_lackingName 45 = .ok (.bipush 10, 2) := by decide +kernel
theorem dX4_lackingName_47 : decode cX4_lackingName 47 = .ok (.invokestatic 124, 3) := by decide +kernel
theorem dX4_lackingName_50 : decode cX4_lackingName 50 = .ok (.aload_n 0, 1) := by decide +kernel
theorem dX4_lackingName_51 : decode cX4_lackingName 51 = .ok (.getfield 11, 3) := by decide +kernel
theorem dX4_lackingName_54 : decode cX4_lackingName 54 = .ok (.iload_n 1, 1) := by decide +kernel
theorem dX4_lackingName_55 : decode cX4_lackingName 55 = .ok (.aaload, 1) := by decide +kernel
theorem dX4_lackingName_56 : decode cX4_lackingName 56 = .ok (.aload_n 0, 1) := by decide +kernel
theorem dX4_lackingName_57 : decode cX4_lackingName 57 = .ok (.getfield 31, 3) := by decide +kernel
theorem dX4_lackingName_60 : decode cX4_lackingName 60 = .ok (.invokevirtual 139, 3) := by decide +kernel
theorem dX4_lackingName_63 : decode cX4_lackingName 63 = .ok (.iconst 0, 1) := by decide +kernel
theorem dX4_lackingName_64 : decode cX4_lackingName 64 = .ok (.istore_n 2, 1) := by decide +kernel
theorem dX4_lackingName_65 : decode cX4_lackingName 65 = .ok (.iload_n 2, 1) := by decide +kernel
theorem dX4_lackingName_66 : decode cX4_lackingName 66 = .ok (.bipush 8, 2) := by decide +kernel
theorem dX4_lackingName_68 : decode cX4_lackingName 68 = .ok (.if_icmp .ge 53, 3) := by decide +kernel
theorem dX4_lackingName_71 : decode cX4_lackingName 71 = .ok (.aload_n 0, 1) := by decide +kernel
theorem dX4_lackingName_72 : decode cX4_lackingName 72 = .ok (.getfield 34, 3) := by decide +kernel
theorem dX4_lackingName_75 : decode cX4_lackingName 75 = .ok (.lconst 0, 1) := by decide +kernel
