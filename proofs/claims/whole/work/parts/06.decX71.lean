theorem dX7_sentence_403 : decode cX7_sentence 403 = .ok (.ldc 156, 2) := by decide +kernel
theorem dX7_sentence_405 : decode cX7_sentence 405 = .ok (.invokevirtual 141, 3) := by decide +kernel
theorem dX7_sentence_408 : decode cX7_sentence 408 = .ok (.ifCond .eq 7, 3) := by decide +kernel
theorem dX7_sentence_411 : decode cX7_sentence 411 = .ok (.iconst 1, 1) := by decide +kernel
theorem dX7_sentence_412 : decode cX7_sentence 412 = .ok (.goto 4, 3) := by decide +kernel
theorem dX7_sentence_415 : decode cX7_sentence 415 = .ok (.iconst 0, 1) := by decide +kernel
theorem dX7_sentence_416 : decode cX7_sentence 416 = .ok (.ireturn, 1) := by decide +kernel
theorem dX7_asks_0 : decode cX7_asks 0 = .ok (.aload_n 0, 1) := by decide +kernel
theorem dX7_asks_1 : decode cX7_asks 1 = .ok (.ldc 184, 2) := by decide +kernel
theorem dX7_asks_3 : decode cX7_asks 3 = .ok (.invokevirtual 141, 3) := by decide +kernel
theorem dX7_asks_6 : decode cX7_asks 6 = .ok (.ifCond .eq 19, 3) := by decide +kernel
theorem dX7_asks_9 : decode cX7_asks 9 = .ok (.aload_n 0, 1) := by decide +kernel
theorem dX7_asks_10 : decode cX7_asks 10 = .ok (.ldc 182, 2) := by decide +kernel
theorem dX7_asks_12 : decode cX7_asks 12 = .ok (.invokevirtual 141, 3) := by decide +kernel
theorem dX7_asks_15 : decode cX7_asks 15 = .ok (.ifCond .eq 10, 3) := by decide +kernel
theorem dX7_asks_18 : decode cX7_asks 18 = .ok (.aload_n 0, 1) := by decide +kernel
theorem dX7_asks_19 : decode cX7_asks 19 = .ok (.invokevirtual 153, 3) := by decide +kernel
theorem dX7_asks_22 : decode cX7_asks 22 = .ok (.ifCond .ne 5, 3) := by decide +kernel
theorem dX7_asks_25 : decode cX7_asks 25 = .ok (.iconst 0, 1) := by decide +kernel
theorem dX7_asks_26 : decode cX7_asks 26 = .ok (.ireturn, 1) := by decide +kernel
theorem dX7_asks_27 : decode cX7_asks 27 = .ok (.aload_n 0, 1) := by decide +kernel
theorem dX7_asks_28 : decode cX7_asks 28 = .ok (.iconst (-1), 1) := by decide +kernel
theorem dX7_asks_29 : decode cX7_asks 29 = .ok (.putfield 120, 3) := by decide +kernel
theorem dX7_asks_32 : decode cX7_asks 32 = .ok (.aload_n 0, 1) := by decide +kernel
theorem dX7_asks_33 : decode cX7_asks 33 = .ok (.ldc 166, 2) := by decide +kernel
theorem dX7_asks_35 : decode cX7_asks 35 = .ok (.invokevirtual 79, 3) := by decide +kernel
theorem dX7_asks_38 : decode cX7_asks 38 = .ok (.ifCond .eq 7, 3) := by decide +kernel
theorem dX7_asks_41 : decode cX7_asks 41 = .ok (.iconst 0, 1) := by decide +kernel
theorem dX7_asks_42 : decode cX7_asks 42 = .ok (.goto 30, 3) := by decide +kernel
theorem dX7_asks_45 : decode cX7_asks 45 = .ok (.aload_n 0, 1) := by decide +kernel
theorem dX7_asks_46 : decode cX7_asks 46 = .ok (.ldc 147, 2) := by decide +kernel
theorem dX7_asks_48 : decode cX7_asks 48 = .ok (.invokevirtual 79, 3) := by decide +kernel
theorem dX7_asks_51 : decode cX7_asks 51 = .ok (.ifCond .eq 7, 3) := by decide +kernel
theorem dX7_asks_54 : decode cX7_asks 54 = .ok (.iconst 1, 1) := by decide +kernel
theorem dX7_asks_55 : decode cX7_asks 55 = .ok (.goto 17, 3) := by decide +kernel
theorem dX7_asks_58 : decode cX7_asks 58 = .ok (.aload_n 0, 1) := by decide +kernel
theorem dX7_asks_59 : decode cX7_asks 59 = .ok (.ldc 186, 2) := by decide +kernel
theorem dX7_asks_61 : decode cX7_asks 61 = .ok (.invokevirtual 79, 3) := by decide +kernel
theorem dX7_asks_64 : decode cX7_asks 64 = .ok (.ifCond .eq 7, 3) := by decide +kernel
theorem dX7_asks_67 : decode cX7_asks 67 = .ok (.iconst 2, 1) := by decide +kernel
theorem dX7_asks_68 : decode cX7_asks 68 = .ok (.goto 4, 3) := by decide +kernel
theorem dX7_asks_71 : decode cX7_asks 71 = .ok (.iconst (-1), 1) := by decide +kernel
theorem dX7_asks_72 : decode cX7_asks 72 = .ok (.istore_n 1, 1) := by decide +kernel
theorem dX7_asks_73 : decode cX7_asks 73 = .ok (.iload_n 1, 1) := by decide +kernel
theorem dX7_asks_74 : decode cX7_asks 74 = .ok (.iconst (-1), 1) := by decide +kernel
theorem dX7_asks_75 : decode cX7_asks 75 = .ok (.if_icmp .ne 5, 3) := by decide +kernel
theorem dX7_asks_78 : decode cX7_asks 78 = .ok (.iconst 0, 1) := by decide +kernel
theorem dX7_asks_79 : decode cX7_asks 79 = .ok (.ireturn, 1) := by decide +kernel
theorem dX7_asks_80 : decode cX7_asks 80 = .ok (.aload_n 0, 1) := by decide +kernel
theorem dX7_asks_81 : decode cX7_asks 81 = .ok (.invokevirtual 83, 3) := by decide +kernel
theorem dX7_asks_84 : decode cX7_asks 84 = .ok (.aload_n 0, 1) := by decide +kernel
theorem dX7_asks_85 : decode cX7_asks 85 = .ok (.iconst 0, 1) := by decide +kernel
theorem dX7_asks_86 : decode cX7_asks 86 = .ok (.invokevirtual 135, 3) := by decide +kernel
theorem dX7_asks_89 : decode cX7_asks 89 = .ok (.ifCond .eq 34, 3) := by decide +kernel
theorem dX7_asks_92 : decode cX7_asks 92 = .ok (.iload_n 1, 1) := by decide +kernel
theorem dX7_asks_93 : decode cX7_asks 93 = .ok (.iconst 1, 1) := by decide +kernel
theorem dX7_asks_94 : decode cX7_asks 94 = .ok (.if_icmp .ne 20, 3) := by decide +kernel
theorem dX7_asks_97 : decode cX7_asks 97 = .ok (.aload_n 0, 1) := by decide +kernel
theorem dX7_asks_98 : decode cX7_asks 98 = .ok (.ldc 139, 2) := by decide +kernel
theorem dX7_asks_100 : decode cX7_asks 100 = .ok (.invokevirtual 141, 3) := by decide +kernel
theorem dX7_asks_103 : decode cX7_asks 103 = .ok (.ifCond .eq 20, 3) := by decide +kernel
theorem dX7_asks_106 : decode cX7_asks 106 = .ok (.aload_n 0, 1) := by decide +kernel
theorem dX7_asks_107 : decode cX7_asks 107 = .ok (.iconst 1, 1) := by decide +kernel
theorem dX7_asks_108 : decode cX7_asks 108 = .ok (.invokevirtual 135, 3) := by decide +kernel
theorem dX7_asks_111 : decode cX7_asks 111 = .ok (.ifCond .eq 12, 3) := by decide +kernel
theorem dX7_asks_114 : decode cX7_asks 114 = .ok (.aload_n 0, 1) := by decide +kernel
theorem dX7_asks_115 : decode cX7_asks 115 = .ok (.ldc 188, 2) := by decide +kernel
theorem dX7_asks_117 : decode cX7_asks 117 = .ok (.invokevirtual 141, 3) := by decide +kernel
theorem dX7_asks_120 : decode cX7_asks 120 = .ok (.ifCond .ne 5, 3) := by decide +kernel
theorem dX7_asks_123 : decode cX7_asks 123 = .ok (.iconst 0, 1) := by decide +kernel
theorem dX7_asks_124 : decode cX7_asks 124 = .ok (.ireturn, 1) := by decide +kernel
theorem dX7_asks_125 : decode cX7_asks 125 = .ok (.aload_n 0, 1) := by decide +kernel
theorem dX7_asks_126 : decode cX7_asks 126 = .ok (.getfield 23, 3) := by decide +kernel
theorem dX7_asks_129 : decode cX7_asks 129 = .ok (.iconst 0, 1) := by decide +kernel
theorem dX7_asks_130 : decode cX7_asks 130 = .ok (.iload_n 1, 1) := by decide +kernel
theorem dX7_asks_131 : decode cX7_asks 131 = .ok (.iastore, 1) := by decide +kernel
theorem dX7_asks_132 : decode cX7_asks 132 = .ok (.aload_n 0, 1) := by decide +kernel
theorem dX7_asks_133 : decode cX7_asks 133 = .ok (.getfield 23, 3) := by decide +kernel
theorem dX7_asks_136 : decode cX7_asks 136 = .ok (.iconst 1, 1) := by decide +kernel
theorem dX7_asks_137 : decode cX7_asks 137 = .ok (.aload_n 0, 1) := by decide +kernel
theorem dX7_asks_138 : decode cX7_asks 138 = .ok (.getfield 117, 3) := by decide +kernel
theorem dX7_asks_141 : decode cX7_asks 141 = .ok (.iastore, 1) := by decide +kernel
theorem dX7_asks_142 : decode cX7_asks 142 = .ok (.aload_n 0, 1) := by decide +kernel
theorem dX7_asks_143 : decode cX7_asks 143 = .ok (.getfield 23, 3) := by decide +kernel
theorem dX7_asks_146 : decode cX7_asks 146 = .ok (.iconst 2, 1) := by decide +kernel
theorem dX7_asks_147 : decode cX7_asks 147 = .ok (.aload_n 0, 1) := by decide +kernel
theorem dX7_asks_148 : decode cX7_asks 148 = .ok (.getfield 120, 3) := by decide +kernel
theorem dX7_asks_151 : decode cX7_asks 151 = .ok (.iastore, 1) := by decide +kernel
theorem dX7_asks_152 : decode cX7_asks 152 = .ok (.aload_n 0, 1) := by decide +kernel
theorem dX7_asks_153 : decode cX7_asks 153 = .ok (.getfield 23, 3) := by decide +kernel
theorem dX7_asks_156 : decode cX7_asks 156 = .ok (.iconst 3, 1) := by decide +kernel
theorem dX7_asks_157 : decode cX7_asks 157 = .ok (.aload_n 0, 1) := by decide +kernel
theorem dX7_asks_158 : decode cX7_asks 158 = .ok (.getfield 126, 3) := by decide +kernel
theorem dX7_asks_161 : decode cX7_asks 161 = .ok (.iastore, 1) := by decide +kernel
theorem dX7_asks_162 : decode cX7_asks 162 = .ok (.aload_n 0, 1) := by decide +kernel
theorem dX7_asks_163 : decode cX7_asks 163 = .ok (.getfield 23, 3) := by decide +kernel
theorem dX7_asks_166 : decode cX7_asks 166 = .ok (.iconst 4, 1) := by decide +kernel
theorem dX7_asks_167 : decode cX7_asks 167 = .ok (.iload_n 1, 1) := by decide +kernel
theorem dX7_asks_168 : decode cX7_asks 168 = .ok (.iconst 2, 1) := by decide +kernel
theorem dX7_asks_169 : decode cX7_asks 169 = .ok (.if_icmp .ne 7, 3) := by decide +kernel
theorem dX7_asks_172 : decode cX7_asks 172 = .ok (.iconst 0, 1) := by decide +kernel
theorem dX7_asks_173 : decode cX7_asks 173 = .ok (.goto 7, 3) := by decide +kernel
theorem dX7_asks_176 : decode cX7_asks 176 = .ok (.aload_n 0, 1) := by decide +kernel
theorem dX7_asks_177 : decode cX7_asks 177 = .ok (.getfield 190, 3) := by decide +kernel
theorem dX7_asks_180 : decode cX7_asks 180 = .ok (.iastore, 1) := by decide +kernel
theorem dX7_asks_181 : decode cX7_asks 181 = .ok (.aload_n 0, 1) := by decide +kernel
theorem dX7_asks_182 : decode cX7_asks 182 = .ok (.getfield 60, 3) := by decide +kernel
theorem dX7_asks_185 : decode cX7_asks 185 = .ok (.aload_n 0, 1) := by decide +kernel
theorem dX7_asks_186 : decode cX7_asks 186 = .ok (.getfield 46, 3) := by decide +kernel
theorem dX7_asks_189 : decode cX7_asks 189 = .ok (.if_icmp .ne 7, 3) := by decide +kernel
theorem dX7_asks_192 : decode cX7_asks 192 = .ok (.iconst 1, 1) := by decide +kernel
theorem dX7_asks_193 : decode cX7_asks 193 = .ok (.goto 4, 3) := by decide +kernel
theorem dX7_asks_196 : decode cX7_asks 196 = .ok (.iconst 0, 1) := by decide +kernel
theorem dX7_asks_197 : decode cX7_asks 197 = .ok (.ireturn, 1) := by decide +kernel
theorem dX7_reads_0 : decode cX7_reads 0 = .ok (.aload_n 0, 1) := by decide +kernel
theorem dX7_reads_1 : decode cX7_reads 1 = .ok (.iconst 0, 1) := by decide +kernel
theorem dX7_reads_2 : decode cX7_reads 2 = .ok (.putfield 57, 3) := by decide +kernel
theorem dX7_reads_5 : decode cX7_reads 5 = .ok (.aload_n 0, 1) := by decide +kernel
theorem dX7_reads_6 : decode cX7_reads 6 = .ok (.iconst 0, 1) := by decide +kernel
theorem dX7_reads_7 : decode cX7_reads 7 = .ok (.putfield 193, 3) := by decide +kernel
theorem dX7_reads_10 : decode cX7_reads 10 = .ok (.aload_n 0, 1) := by decide +kernel
theorem dX7_reads_11 : decode cX7_reads 11 = .ok (.iconst 0, 1) := by decide +kernel
theorem dX7_reads_12 : decode cX7_reads 12 = .ok (.putfield 190, 3) := by decide +kernel
theorem dX7_reads_15 : decode cX7_reads 15 = .ok (.aload_n 0, 1) := by decide +kernel
theorem dX7_reads_16 : decode cX7_reads 16 = .ok (.invokevirtual 83, 3) := by decide +kernel
theorem dX7_reads_19 : decode cX7_reads 19 = .ok (.aload_n 0, 1) := by decide +kernel
theorem dX7_reads_20 : decode cX7_reads 20 = .ok (.ldc 184, 2) := by decide +kernel
theorem dX7_reads_22 : decode cX7_reads 22 = .ok (.invokevirtual 79, 3) := by decide +kernel
theorem dX7_reads_25 : decode cX7_reads 25 = .ok (.ifCond .ne 160, 3) := by decide +kernel
theorem dX7_reads_28 : decode cX7_reads 28 = .ok (.aload_n 0, 1) := by decide +kernel
theorem dX7_reads_29 : decode cX7_reads 29 = .ok (.invokevirtual 114, 3) := by decide +kernel
theorem dX7_reads_32 : decode cX7_reads 32 = .ok (.iconst (-1), 1) := by decide +kernel
theorem dX7_reads_33 : decode cX7_reads 33 = .ok (.if_icmp .eq 12, 3) := by decide +kernel
theorem dX7_reads_36 : decode cX7_reads 36 = .ok (.aload_n 0, 1) := by decide +kernel
theorem dX7_reads_37 : decode cX7_reads 37 = .ok (.getfield 193, 3) := by decide +kernel
theorem dX7_reads_40 : decode cX7_reads 40 = .ok (.bipush 10, 2) := by decide +kernel
theorem dX7_reads_42 : decode cX7_reads 42 = .ok (.if_icmp .ne 8, 3) := by decide +kernel
theorem dX7_reads_45 : decode cX7_reads 45 = .ok (.aload_n 0, 1) := by decide +kernel
theorem dX7_reads_46 : decode cX7_reads 46 = .ok (.getfield 60, 3) := by decide +kernel
theorem dX7_reads_49 : decode cX7_reads 49 = .ok (.ireturn, 1) := by decide +kernel
theorem dX7_reads_50 : decode cX7_reads 50 = .ok (.aload_n 0, 1) := by decide +kernel
theorem dX7_reads_51 : decode cX7_reads 51 = .ok (.getfield 60, 3) := by decide +kernel
theorem dX7_reads_54 : decode cX7_reads 54 = .ok (.istore_n 1, 1) := by decide +kernel
theorem dX7_reads_55 : decode cX7_reads 55 = .ok (.aload_n 0, 1) := by decide +kernel
theorem dX7_reads_56 : decode cX7_reads 56 = .ok (.invokevirtual 196, 3) := by decide +kernel
theorem dX7_reads_59 : decode cX7_reads 59 = .ok (.ifCond .ne 8, 3) := by decide +kernel
theorem dX7_reads_62 : decode cX7_reads 62 = .ok (.aload_n 0, 1) := by decide +kernel
theorem dX7_reads_63 : decode cX7_reads 63 = .ok (.getfield 60, 3) := by decide +kernel
theorem dX7_reads_66 : decode cX7_reads 66 = .ok (.ireturn, 1) := by decide +kernel
theorem dX7_reads_67 : decode cX7_reads 67 = .ok (.bipush 7, 2) := by decide +kernel
theorem dX7_reads_69 : decode cX7_reads 69 = .ok (.newarray .int, 2) := by decide +kernel
theorem dX7_reads_71 : decode cX7_reads 71 = .ok (.dup, 1) := by decide +kernel
theorem dX7_reads_72 : decode cX7_reads 72 = .ok (.iconst 0, 1) := by decide +kernel
theorem dX7_reads_73 : decode cX7_reads 73 = .ok (.aload_n 0, 1) := by decide +kernel
theorem dX7_reads_74 : decode cX7_reads 74 = .ok (.getfield 144, 3) := by decide +kernel
theorem dX7_reads_77 : decode cX7_reads 77 = .ok (.iastore, 1) := by decide +kernel
theorem dX7_reads_78 : decode cX7_reads 78 = .ok (.dup, 1) := by decide +kernel
theorem dX7_reads_79 : decode cX7_reads 79 = .ok (.iconst 1, 1) := by decide +kernel
theorem dX7_reads_80 : decode cX7_reads 80 = .ok (.aload_n 0, 1) := by decide +kernel
theorem dX7_reads_81 : decode cX7_reads 81 = .ok (.getfield 117, 3) := by decide +kernel
theorem dX7_reads_84 : decode cX7_reads 84 = .ok (.iastore, 1) := by decide +kernel
theorem dX7_reads_85 : decode cX7_reads 85 = .ok (.dup, 1) := by decide +kernel
theorem dX7_reads_86 : decode cX7_reads 86 = .ok (.iconst 2, 1) := by decide +kernel
theorem dX7_reads_87 : decode cX7_reads 87 = .ok (.aload_n 0, 1) := by decide +kernel
theorem dX7_reads_88 : decode cX7_reads 88 = .ok (.getfield 120, 3) := by decide +kernel
theorem dX7_reads_91 : decode cX7_reads 91 = .ok (.iastore, 1) := by decide +kernel
theorem dX7_reads_92 : decode cX7_reads 92 = .ok (.dup, 1) := by decide +kernel
theorem dX7_reads_93 : decode cX7_reads 93 = .ok (.iconst 3, 1) := by decide +kernel
theorem dX7_reads_94 : decode cX7_reads 94 = .ok (.aload_n 0, 1) := by decide +kernel
theorem dX7_reads_95 : decode cX7_reads 95 = .ok (.getfield 126, 3) := by decide +kernel
theorem dX7_reads_98 : decode cX7_reads 98 = .ok (.iastore, 1) := by decide +kernel
theorem dX7_reads_99 : decode cX7_reads 99 = .ok (.dup, 1) := by decide +kernel
theorem dX7_reads_100 : decode cX7_reads 100 = .ok (.iconst 4, 1) := by decide +kernel
theorem dX7_reads_101 : decode cX7_reads 101 = .ok (.aload_n 0, 1) := by decide +kernel
theorem dX7_reads_102 : decode cX7_reads 102 = .ok (.getfield 132, 3) := by decide +kernel
theorem dX7_reads_105 : decode cX7_reads 105 = .ok (.iastore, 1) := by decide +kernel
theorem dX7_reads_106 : decode cX7_reads 106 = .ok (.dup, 1) := by decide +kernel
theorem dX7_reads_107 : decode cX7_reads 107 = .ok (.iconst 5, 1) := by decide +kernel
theorem dX7_reads_108 : decode cX7_reads 108 = .ok (.aload_n 0, 1) := by decide +kernel
theorem dX7_reads_109 : decode cX7_reads 109 = .ok (.getfield 190, 3) := by decide +kernel
theorem dX7_reads_112 : decode cX7_reads 112 = .ok (.iastore, 1) := by decide +kernel
theorem dX7_reads_113 : decode cX7_reads 113 = .ok (.dup, 1) := by decide +kernel
theorem dX7_reads_114 : decode cX7_reads 114 = .ok (.bipush 6, 2) := by decide +kernel
theorem dX7_reads_116 : decode cX7_reads 116 = .ok (.iload_n 1, 1) := by decide +kernel
theorem dX7_reads_117 : decode cX7_reads 117 = .ok (.iastore, 1) := by decide +kernel
theorem dX7_reads_118 : decode cX7_reads 118 = .ok (.astore_n 2, 1) := by decide +kernel
theorem dX7_reads_119 : decode cX7_reads 119 = .ok (.iconst 0, 1) := by decide +kernel
theorem dX7_reads_120 : decode cX7_reads 120 = .ok (.istore_n 3, 1) := by decide +kernel
theorem dX7_reads_121 : decode cX7_reads 121 = .ok (.iload_n 3, 1) := by decide +kernel
theorem dX7_reads_122 : decode cX7_reads 122 = .ok (.bipush 7, 2) := by decide +kernel
theorem dX7_reads_124 : decode cX7_reads 124 = .ok (.if_icmp .ge 26, 3) := by decide +kernel
theorem dX7_reads_127 : decode cX7_reads 127 = .ok (.aload_n 0, 1) := by decide +kernel
theorem dX7_reads_128 : decode cX7_reads 128 = .ok (.getfield 17, 3) := by decide +kernel
theorem dX7_reads_131 : decode cX7_reads 131 = .ok (.bipush 7, 2) := by decide +kernel
theorem dX7_reads_133 : decode cX7_reads 133 = .ok (.aload_n 0, 1) := by decide +kernel
theorem dX7_reads_134 : decode cX7_reads 134 = .ok (.getfield 193, 3) := by decide +kernel
theorem dX7_reads_137 : decode cX7_reads 137 = .ok (.imul, 1) := by decide +kernel
theorem dX7_reads_138 : decode cX7_reads 138 = .ok (.iload_n 3, 1) := by decide +kernel
theorem dX7_reads_139 : decode cX7_reads 139 = .ok (.iadd, 1) := by decide +kernel
theorem dX7_reads_140 : decode cX7_reads 140 = .ok (.aload_n 2, 1) := by decide +kernel
theorem dX7_reads_141 : decode cX7_reads 141 = .ok (.iload_n 3, 1) := by decide +kernel
theorem dX7_reads_142 : decode cX7_reads 142 = .ok (.iaload, 1) := by decide +kernel
theorem dX7_reads_143 : decode cX7_reads 143 = .ok (.iastore, 1) := by decide +kernel
theorem dX7_reads_144 : decode cX7_reads 144 = .ok (.iinc 3 1, 3) := by decide +kernel
theorem dX7_reads_147 : decode cX7_reads 147 = .ok (.goto (-26), 3) := by decide +kernel
theorem dX7_reads_150 : decode cX7_reads 150 = .ok (.aload_n 0, 1) := by decide +kernel
theorem dX7_reads_151 : decode cX7_reads 151 = .ok (.dup, 1) := by decide +kernel
theorem dX7_reads_152 : decode cX7_reads 152 = .ok (.getfield 193, 3) := by decide +kernel
theorem dX7_reads_155 : decode cX7_reads 155 = .ok (.iconst 1, 1) := by decide +kernel
theorem dX7_reads_156 : decode cX7_reads 156 = .ok (.iadd, 1) := by decide +kernel
theorem dX7_reads_157 : decode cX7_reads 157 = .ok (.putfield 193, 3) := by decide +kernel
theorem dX7_reads_160 : decode cX7_reads 160 = .ok (.aload_n 0, 1) := by decide +kernel
theorem dX7_reads_161 : decode cX7_reads 161 = .ok (.dup, 1) := by decide +kernel
theorem dX7_reads_162 : decode cX7_reads 162 = .ok (.getfield 190, 3) := by decide +kernel
theorem dX7_reads_165 : decode cX7_reads 165 = .ok (.aload_n 0, 1) := by decide +kernel
theorem dX7_reads_166 : decode cX7_reads 166 = .ok (.getfield 144, 3) := by decide +kernel
theorem dX7_reads_169 : decode cX7_reads 169 = .ok (.iconst 5, 1) := by decide +kernel
theorem dX7_reads_170 : decode cX7_reads 170 = .ok (.if_icmp .lt 7, 3) := by decide +kernel
theorem dX7_reads_173 : decode cX7_reads 173 = .ok (.iconst 1, 1) := by decide +kernel
theorem dX7_reads_174 : decode cX7_reads 174 = .ok (.goto 4, 3) := by decide +kernel
theorem dX7_reads_177 : decode cX7_reads 177 = .ok (.iconst 0, 1) := by decide +kernel
theorem dX7_reads_178 : decode cX7_reads 178 = .ok (.iadd, 1) := by decide +kernel
theorem dX7_reads_179 : decode cX7_reads 179 = .ok (.putfield 190, 3) := by decide +kernel
theorem dX7_reads_182 : decode cX7_reads 182 = .ok (.goto (-163), 3) := by decide +kernel
theorem dX7_reads_185 : decode cX7_reads 185 = .ok (.aload_n 0, 1) := by decide +kernel
theorem dX7_reads_186 : decode cX7_reads 186 = .ok (.invokevirtual 199, 3) := by decide +kernel
theorem dX7_reads_189 : decode cX7_reads 189 = .ok (.ifCond .eq 7, 3) := by decide +kernel
theorem dX7_reads_192 : decode cX7_reads 192 = .ok (.iconst (-1), 1) := by decide +kernel
theorem dX7_reads_193 : decode cX7_reads 193 = .ok (.goto 7, 3) := by decide +kernel
theorem dX7_reads_196 : decode cX7_reads 196 = .ok (.aload_n 0, 1) := by decide +kernel
theorem dX7_reads_197 : decode cX7_reads 197 = .ok (.getfield 60, 3) := by decide +kernel
theorem dX7_reads_200 : decode cX7_reads 200 = .ok (.ireturn, 1) := by decide +kernel
theorem dX7_fault_0 : decode cX7_fault 0 = .ok (.aload_n 0, 1) := by decide +kernel
theorem dX7_fault_1 : decode cX7_fault 1 = .ok (.iconst 0, 1) := by decide +kernel
theorem dX7_fault_2 : decode cX7_fault 2 = .ok (.putfield 42, 3) := by decide +kernel
theorem dX7_fault_5 : decode cX7_fault 5 = .ok (.aload_n 0, 1) := by decide +kernel
theorem dX7_fault_6 : decode cX7_fault 6 = .ok (.invokevirtual 202, 3) := by decide +kernel
theorem dX7_fault_9 : decode cX7_fault 9 = .ok (.ireturn, 1) := by decide +kernel
theorem dX7_tale_0 : decode cX7_tale 0 = .ok (.aload_n 0, 1) := by decide +kernel
theorem dX7_tale_1 : decode cX7_tale 1 = .ok (.iconst 0, 1) := by decide +kernel
theorem dX7_tale_2 : decode cX7_tale 2 = .ok (.putfield 42, 3) := by decide +kernel
theorem dX7_tale_5 : decode cX7_tale 5 = .ok (.aload_n 0, 1) := by decide +kernel
theorem dX7_tale_6 : decode cX7_tale 6 = .ok (.invokevirtual 202, 3) := by decide +kernel
theorem dX7_tale_9 : decode cX7_tale 9 = .ok (.iconst (-1), 1) := by decide +kernel
theorem dX7_tale_10 : decode cX7_tale 10 = .ok (.if_icmp .eq 5, 3) := by decide +kernel
theorem dX7_tale_13 : decode cX7_tale 13 = .ok (.iconst 0, 1) := by decide +kernel
theorem dX7_tale_14 : decode cX7_tale 14 = .ok (.ireturn, 1) := by decide +kernel
theorem dX7_tale_15 : decode cX7_tale 15 = .ok (.aload_n 0, 1) := by decide +kernel
theorem dX7_tale_16 : decode cX7_tale 16 = .ok (.aload_n 0, 1) := by decide +kernel
theorem dX7_tale_17 : decode cX7_tale 17 = .ok (.getfield 193, 3) := by decide +kernel
theorem dX7_tale_20 : decode cX7_tale 20 = .ok (.putfield 205, 3) := by decide +kernel
theorem dX7_tale_23 : decode cX7_tale 23 = .ok (.iconst 0, 1) := by decide +kernel
theorem dX7_tale_24 : decode cX7_tale 24 = .ok (.istore_n 1, 1) := by decide +kernel
theorem dX7_tale_25 : decode cX7_tale 25 = .ok (.iload_n 1, 1) := by decide +kernel
theorem dX7_tale_26 : decode cX7_tale 26 = .ok (.bipush 7, 2) := by decide +kernel
theorem dX7_tale_28 : decode cX7_tale 28 = .ok (.aload_n 0, 1) := by decide +kernel
theorem dX7_tale_29 : decode cX7_tale 29 = .ok (.getfield 205, 3) := by decide +kernel
theorem dX7_tale_32 : decode cX7_tale 32 = .ok (.imul, 1) := by decide +kernel
theorem dX7_tale_33 : decode cX7_tale 33 = .ok (.if_icmp .ge 21, 3) := by decide +kernel
theorem dX7_tale_36 : decode cX7_tale 36 = .ok (.aload_n 0, 1) := by decide +kernel
theorem dX7_tale_37 : decode cX7_tale 37 = .ok (.getfield 13, 3) := by decide +kernel
theorem dX7_tale_40 : decode cX7_tale 40 = .ok (.iload_n 1, 1) := by decide +kernel
theorem dX7_tale_41 : decode cX7_tale 41 = .ok (.aload_n 0, 1) := by decide +kernel
theorem dX7_tale_42 : decode cX7_tale 42 = .ok (.getfield 17, 3) := by decide +kernel
theorem dX7_tale_45 : decode cX7_tale 45 = .ok (.iload_n 1, 1) := by decide +kernel
theorem dX7_tale_46 : decode cX7_tale 46 = .ok (.iaload, 1) := by decide +kernel
theorem dX7_tale_47 : decode cX7_tale 47 = .ok (.iastore, 1) := by decide +kernel
theorem dX7_tale_48 : decode cX7_tale 48 = .ok (.iinc 1 1, 3) := by decide +kernel
theorem dX7_tale_51 : decode cX7_tale 51 = .ok (.goto (-26), 3) := by decide +kernel
theorem dX7_tale_54 : decode cX7_tale 54 = .ok (.iconst 0, 1) := by decide +kernel
theorem dX7_tale_55 : decode cX7_tale 55 = .ok (.istore_n 1, 1) := by decide +kernel
theorem dX7_tale_56 : decode cX7_tale 56 = .ok (.iload_n 1, 1) := by decide +kernel
theorem dX7_tale_57 : decode cX7_tale 57 = .ok (.iconst 5, 1) := by decide +kernel
theorem dX7_tale_58 : decode cX7_tale 58 = .ok (.if_icmp .ge 21, 3) := by decide +kernel
theorem dX7_tale_61 : decode cX7_tale 61 = .ok (.aload_n 0, 1) := by decide +kernel
theorem dX7_tale_62 : decode cX7_tale 62 = .ok (.getfield 20, 3) := by decide +kernel
theorem dX7_tale_65 : decode cX7_tale 65 = .ok (.iload_n 1, 1) := by decide +kernel
theorem dX7_tale_66 : decode cX7_tale 66 = .ok (.aload_n 0, 1) := by decide +kernel
theorem dX7_tale_67 : decode cX7_tale 67 = .ok (.getfield 23, 3) := by decide +kernel
theorem dX7_tale_70 : decode cX7_tale 70 = .ok (.iload_n 1, 1) := by decide +kernel
theorem dX7_tale_71 : decode cX7_tale 71 = .ok (.iaload, 1) := by decide +kernel
theorem dX7_tale_72 : decode cX7_tale 72 = .ok (.iastore, 1) := by decide +kernel
theorem dX7_tale_73 : decode cX7_tale 73 = .ok (.iinc 1 1, 3) := by decide +kernel
theorem dX7_tale_76 : decode cX7_tale 76 = .ok (.goto (-20), 3) := by decide +kernel
theorem dX7_tale_79 : decode cX7_tale 79 = .ok (.aload_n 0, 1) := by decide +kernel
theorem dX7_tale_80 : decode cX7_tale 80 = .ok (.iconst 1, 1) := by decide +kernel
theorem dX7_tale_81 : decode cX7_tale 81 = .ok (.putfield 207, 3) := by decide +kernel
theorem dX7_tale_84 : decode cX7_tale 84 = .ok (.aload_n 0, 1) := by decide +kernel
theorem dX7_tale_85 : decode cX7_tale 85 = .ok (.iconst 0, 1) := by decide +kernel
theorem dX7_tale_86 : decode cX7_tale 86 = .ok (.putfield 211, 3) := by decide +kernel
theorem dX7_tale_89 : decode cX7_tale 89 = .ok (.aload_n 0, 1) := by decide +kernel
theorem dX7_tale_90 : decode cX7_tale 90 = .ok (.iconst 0, 1) := by decide +kernel
theorem dX7_tale_91 : decode cX7_tale 91 = .ok (.putfield 46, 3) := by decide +kernel
theorem dX7_tale_94 : decode cX7_tale 94 = .ok (.iconst 1, 1) := by decide +kernel
theorem dX7_tale_95 : decode cX7_tale 95 = .ok (.ireturn, 1) := by decide +kernel
theorem dX7_sentences_0 : decode cX7_sentences 0 = .ok (.aload_n 0, 1) := by decide +kernel
theorem dX7_sentences_1 : decode cX7_sentences 1 = .ok (.iconst 0, 1) := by decide +kernel
theorem dX7_sentences_2 : decode cX7_sentences 2 = .ok (.putfield 42, 3) := by decide +kernel
theorem dX7_sentences_5 : decode cX7_sentences 5 = .ok (.aload_n 0, 1) := by decide +kernel
theorem dX7_sentences_6 : decode cX7_sentences 6 = .ok (.getfield 205, 3) := by decide +kernel
theorem dX7_sentences_9 : decode cX7_sentences 9 = .ok (.ireturn, 1) := by decide +kernel
theorem dX7_of_0 : decode cX7_of 0 = .ok (.aload_n 0, 1) := by decide +kernel
theorem dX7_of_1 : decode cX7_of 1 = .ok (.getfield 13, 3) := by decide +kernel
theorem dX7_of_4 : decode cX7_of 4 = .ok (.bipush 7, 2) := by decide +kernel
theorem dX7_of_6 : decode cX7_of 6 = .ok (.iload_n 1, 1) := by decide +kernel
theorem dX7_of_7 : decode cX7_of 7 = .ok (.imul, 1) := by decide +kernel
theorem dX7_of_8 : decode cX7_of 8 = .ok (.iload_n 2, 1) := by decide +kernel
theorem dX7_of_9 : decode cX7_of 9 = .ok (.iadd, 1) := by decide +kernel
theorem dX7_of_10 : decode cX7_of 10 = .ok (.iaload, 1) := by decide +kernel
theorem dX7_of_11 : decode cX7_of 11 = .ok (.ireturn, 1) := by decide +kernel
theorem dX7_sentence__0 : decode cX7_sentence_ 0 = .ok (.aload_n 0, 1) := by decide +kernel
theorem dX7_sentence__1 : decode cX7_sentence_ 1 = .ok (.iload_n 1, 1) := by decide +kernel
theorem dX7_sentence__2 : decode cX7_sentence_ 2 = .ok (.iconst 0, 1) := by decide +kernel
theorem dX7_sentence__3 : decode cX7_sentence_ 3 = .ok (.aload_n 0, 1) := by decide +kernel
theorem dX7_sentence__4 : decode cX7_sentence_ 4 = .ok (.getfield 205, 3) := by decide +kernel
theorem dX7_sentence__7 : decode cX7_sentence_ 7 = .ok (.iconst 1, 1) := by decide +kernel
theorem dX7_sentence__8 : decode cX7_sentence_ 8 = .ok (.isub, 1) := by decide +kernel
theorem dX7_sentence__9 : decode cX7_sentence_ 9 = .ok (.invokestatic 176, 3) := by decide +kernel
theorem dX7_sentence__12 : decode cX7_sentence_ 12 = .ok (.ifCond .eq 13, 3) := by decide +kernel
theorem dX7_sentence__15 : decode cX7_sentence_ 15 = .ok (.iload_n 2, 1) := by decide +kernel
theorem dX7_sentence__16 : decode cX7_sentence_ 16 = .ok (.iconst 0, 1) := by decide +kernel
theorem dX7_sentence__17 : decode cX7_sentence_ 17 = .ok (.bipush 6, 2) := by decide +kernel
theorem dX7_sentence__19 : decode cX7_sentence_ 19 = .ok (.invokestatic 176, 3) := by decide +kernel
theorem dX7_sentence__22 : decode cX7_sentence_ 22 = .ok (.ifCond .ne 7, 3) := by decide +kernel
theorem dX7_sentence__25 : decode cX7_sentence_ 25 = .ok (.iconst 1, 1) := by decide +kernel
theorem dX7_sentence__26 : decode cX7_sentence_ 26 = .ok (.goto 4, 3) := by decide +kernel
theorem dX7_sentence__29 : decode cX7_sentence_ 29 = .ok (.iconst 0, 1) := by decide +kernel
theorem dX7_sentence__30 : decode cX7_sentence_ 30 = .ok (.putfield 42, 3) := by decide +kernel
theorem dX7_sentence__33 : decode cX7_sentence_ 33 = .ok (.aload_n 0, 1) := by decide +kernel
theorem dX7_sentence__34 : decode cX7_sentence_ 34 = .ok (.getfield 42, 3) := by decide +kernel
theorem dX7_sentence__37 : decode cX7_sentence_ 37 = .ok (.ifCond .le 7, 3) := by decide +kernel
theorem dX7_sentence__40 : decode cX7_sentence_ 40 = .ok (.iconst 0, 1) := by decide +kernel
theorem dX7_sentence__41 : decode cX7_sentence_ 41 = .ok (.goto 9, 3) := by decide +kernel
theorem dX7_sentence__44 : decode cX7_sentence_ 44 = .ok (.aload_n 0, 1) := by decide +kernel
theorem dX7_sentence__45 : decode cX7_sentence_ 45 = .ok (.iload_n 1, 1) := by decide +kernel
theorem dX7_sentence__46 : decode cX7_sentence_ 46 = .ok (.iload_n 2, 1) := by decide +kernel
theorem dX7_sentence__47 : decode cX7_sentence_ 47 = .ok (.invokevirtual 214, 3) := by decide +kernel
theorem dX7_sentence__50 : decode cX7_sentence_ 50 = .ok (.ireturn, 1) := by decide +kernel
theorem dX7_question_0 : decode cX7_question 0 = .ok (.aload_n 0, 1) := by decide +kernel
theorem dX7_question_1 : decode cX7_question 1 = .ok (.iconst 0, 1) := by decide +kernel
theorem dX7_question_2 : decode cX7_question 2 = .ok (.putfield 42, 3) := by decide +kernel
theorem dX7_question_5 : decode cX7_question 5 = .ok (.aload_n 0, 1) := by decide +kernel
theorem dX7_question_6 : decode cX7_question 6 = .ok (.getfield 207, 3) := by decide +kernel
theorem dX7_question_9 : decode cX7_question 9 = .ok (.ifCond .eq 21, 3) := by decide +kernel
theorem dX7_question_12 : decode cX7_question 12 = .ok (.iload_n 1, 1) := by decide +kernel
theorem dX7_question_13 : decode cX7_question 13 = .ok (.iconst 0, 1) := by decide +kernel
theorem dX7_question_14 : decode cX7_question 14 = .ok (.iconst 4, 1) := by decide +kernel
theorem dX7_question_15 : decode cX7_question 15 = .ok (.invokestatic 176, 3) := by decide +kernel
theorem dX7_question_18 : decode cX7_question 18 = .ok (.ifCond .eq 12, 3) := by decide +kernel
theorem dX7_question_21 : decode cX7_question 21 = .ok (.aload_n 0, 1) := by decide +kernel
theorem dX7_question_22 : decode cX7_question 22 = .ok (.getfield 20, 3) := by decide +kernel
theorem dX7_question_25 : decode cX7_question 25 = .ok (.iload_n 1, 1) := by decide +kernel
theorem dX7_question_26 : decode cX7_question 26 = .ok (.iaload, 1) := by decide +kernel
theorem dX7_question_27 : decode cX7_question 27 = .ok (.goto 4, 3) := by decide +kernel
theorem dX7_question_30 : decode cX7_question 30 = .ok (.iconst (-1), 1) := by decide +kernel
theorem dX7_question_31 : decode cX7_question 31 = .ok (.ireturn, 1) := by decide +kernel
theorem dX7_more_0 : decode cX7_more 0 = .ok (.iconst 0, 1) := by decide +kernel
theorem dX7_more_1 : decode cX7_more 1 = .ok (.istore 4, 2) := by decide +kernel
theorem dX7_more_3 : decode cX7_more 3 = .ok (.iconst 0, 1) := by decide +kernel
theorem dX7_more_4 : decode cX7_more 4 = .ok (.istore 5, 2) := by decide +kernel
theorem dX7_more_6 : decode cX7_more 6 = .ok (.iload 5, 2) := by decide +kernel
theorem dX7_more_8 : decode cX7_more 8 = .ok (.aload_n 0, 1) := by decide +kernel
theorem dX7_more_9 : decode cX7_more 9 = .ok (.getfield 205, 3) := by decide +kernel
theorem dX7_more_12 : decode cX7_more 12 = .ok (.if_icmp .ge 119, 3) := by decide +kernel
theorem dX7_more_15 : decode cX7_more 15 = .ok (.aload_n 0, 1) := by decide +kernel
theorem dX7_more_16 : decode cX7_more 16 = .ok (.iload 5, 2) := by decide +kernel
theorem dX7_more_18 : decode cX7_more 18 = .ok (.iconst 0, 1) := by decide +kernel
theorem dX7_more_19 : decode cX7_more 19 = .ok (.invokevirtual 214, 3) := by decide +kernel
theorem dX7_more_22 : decode cX7_more 22 = .ok (.iconst 5, 1) := by decide +kernel
theorem dX7_more_23 : decode cX7_more 23 = .ok (.if_icmp .lt 102, 3) := by decide +kernel
theorem dX7_more_26 : decode cX7_more 26 = .ok (.aload_n 0, 1) := by decide +kernel
theorem dX7_more_27 : decode cX7_more 27 = .ok (.iload 5, 2) := by decide +kernel
theorem dX7_more_29 : decode cX7_more 29 = .ok (.iconst 3, 1) := by decide +kernel
theorem dX7_more_30 : decode cX7_more 30 = .ok (.invokevirtual 214, 3) := by decide +kernel
theorem dX7_more_33 : decode cX7_more 33 = .ok (.iload_n 2, 1) := by decide +kernel
theorem dX7_more_34 : decode cX7_more 34 = .ok (.if_icmp .ne 91, 3) := by decide +kernel
theorem dX7_more_37 : decode cX7_more 37 = .ok (.aload_n 0, 1) := by decide +kernel
theorem dX7_more_38 : decode cX7_more 38 = .ok (.iload 5, 2) := by decide +kernel
theorem dX7_more_40 : decode cX7_more 40 = .ok (.iconst 5, 1) := by decide +kernel
theorem dX7_more_41 : decode cX7_more 41 = .ok (.invokevirtual 214, 3) := by decide +kernel
theorem dX7_more_44 : decode cX7_more 44 = .ok (.iload_n 3, 1) := by decide +kernel
theorem dX7_more_45 : decode cX7_more 45 = .ok (.if_icmp .lt 6, 3) := by decide +kernel
theorem dX7_more_48 : decode cX7_more 48 = .ok (.goto 77, 3) := by decide +kernel
theorem dX7_more_51 : decode cX7_more 51 = .ok (.aload_n 0, 1) := by decide +kernel
theorem dX7_more_52 : decode cX7_more 52 = .ok (.iload 5, 2) := by decide +kernel
theorem dX7_more_54 : decode cX7_more 54 = .ok (.iconst 4, 1) := by decide +kernel
theorem dX7_more_55 : decode cX7_more 55 = .ok (.invokevirtual 214, 3) := by decide +kernel
theorem dX7_more_58 : decode cX7_more 58 = .ok (.istore 6, 2) := by decide +kernel
theorem dX7_more_60 : decode cX7_more 60 = .ok (.aload_n 0, 1) := by decide +kernel
theorem dX7_more_61 : decode cX7_more 61 = .ok (.iload 5, 2) := by decide +kernel
theorem dX7_more_63 : decode cX7_more 63 = .ok (.iconst 1, 1) := by decide +kernel
theorem dX7_more_64 : decode cX7_more 64 = .ok (.invokevirtual 214, 3) := by decide +kernel
theorem dX7_more_67 : decode cX7_more 67 = .ok (.iload_n 1, 1) := by decide +kernel
theorem dX7_more_68 : decode cX7_more 68 = .ok (.if_icmp .ne 28, 3) := by decide +kernel
theorem dX7_more_71 : decode cX7_more 71 = .ok (.iload 4, 2) := by decide +kernel
theorem dX7_more_73 : decode cX7_more 73 = .ok (.aload_n 0, 1) := by decide +kernel
theorem dX7_more_74 : decode cX7_more 74 = .ok (.iload 5, 2) := by decide +kernel
theorem dX7_more_76 : decode cX7_more 76 = .ok (.iconst 0, 1) := by decide +kernel
theorem dX7_more_77 : decode cX7_more 77 = .ok (.invokevirtual 214, 3) := by decide +kernel
theorem dX7_more_80 : decode cX7_more 80 = .ok (.bipush 6, 2) := by decide +kernel
theorem dX7_more_82 : decode cX7_more 82 = .ok (.if_icmp .ne 8, 3) := by decide +kernel
theorem dX7_more_85 : decode cX7_more 85 = .ok (.iload 6, 2) := by decide +kernel
theorem dX7_more_87 : decode cX7_more 87 = .ok (.goto 6, 3) := by decide +kernel
theorem dX7_more_90 : decode cX7_more 90 = .ok (.iload 6, 2) := by decide +kernel
theorem dX7_more_92 : decode cX7_more 92 = .ok (.ineg, 1) := by decide +kernel
theorem dX7_more_93 : decode cX7_more 93 = .ok (.iadd, 1) := by decide +kernel
theorem dX7_more_94 : decode cX7_more 94 = .ok (.istore 4, 2) := by decide +kernel
theorem dX7_more_96 : decode cX7_more 96 = .ok (.aload_n 0, 1) := by decide +kernel
theorem dX7_more_97 : decode cX7_more 97 = .ok (.iload 5, 2) := by decide +kernel
theorem dX7_more_99 : decode cX7_more 99 = .ok (.iconst 0, 1) := by decide +kernel
theorem dX7_more_100 : decode cX7_more 100 = .ok (.invokevirtual 214, 3) := by decide +kernel
theorem dX7_more_103 : decode cX7_more 103 = .ok (.iconst 5, 1) := by decide +kernel
theorem dX7_more_104 : decode cX7_more 104 = .ok (.if_icmp .ne 21, 3) := by decide +kernel
theorem dX7_more_107 : decode cX7_more 107 = .ok (.aload_n 0, 1) := by decide +kernel
theorem dX7_more_108 : decode cX7_more 108 = .ok (.iload 5, 2) := by decide +kernel
theorem dX7_more_110 : decode cX7_more 110 = .ok (.iconst 2, 1) := by decide +kernel
theorem dX7_more_111 : decode cX7_more 111 = .ok (.invokevirtual 214, 3) := by decide +kernel
theorem dX7_more_114 : decode cX7_more 114 = .ok (.iload_n 1, 1) := by decide +kernel
theorem dX7_more_115 : decode cX7_more 115 = .ok (.if_icmp .ne 10, 3) := by decide +kernel
theorem dX7_more_118 : decode cX7_more 118 = .ok (.iload 4, 2) := by decide +kernel
theorem dX7_more_120 : decode cX7_more 120 = .ok (.iload 6, 2) := by decide +kernel
theorem dX7_more_122 : decode cX7_more 122 = .ok (.iadd, 1) := by decide +kernel
theorem dX7_more_123 : decode cX7_more 123 = .ok (.istore 4, 2) := by decide +kernel
theorem dX7_more_125 : decode cX7_more 125 = .ok (.iinc 5 1, 3) := by decide +kernel
theorem dX7_more_128 : decode cX7_more 128 = .ok (.goto (-122), 3) := by decide +kernel
theorem dX7_more_131 : decode cX7_more 131 = .ok (.iload 4, 2) := by decide +kernel
theorem dX7_more_133 : decode cX7_more 133 = .ok (.ireturn, 1) := by decide +kernel
theorem dX7_common_0 : decode cX7_common 0 = .ok (.lload_n 0, 1) := by decide +kernel
theorem dX7_common_1 : decode cX7_common 1 = .ok (.invokestatic 217, 3) := by decide +kernel
theorem dX7_common_4 : decode cX7_common 4 = .ok (.lstore 4, 2) := by decide +kernel
theorem dX7_common_6 : decode cX7_common 6 = .ok (.lload_n 2, 1) := by decide +kernel
theorem dX7_common_7 : decode cX7_common 7 = .ok (.invokestatic 217, 3) := by decide +kernel
theorem dX7_common_10 : decode cX7_common 10 = .ok (.lstore 6, 2) := by decide +kernel
theorem dX7_common_12 : decode cX7_common 12 = .ok (.lload 6, 2) := by decide +kernel
theorem dX7_common_14 : decode cX7_common 14 = .ok (.lconst 0, 1) := by decide +kernel
theorem dX7_common_15 : decode cX7_common 15 = .ok (.lcmp, 1) := by decide +kernel
theorem dX7_common_16 : decode cX7_common 16 = .ok (.ifCond .eq 21, 3) := by decide +kernel
theorem dX7_common_19 : decode cX7_common 19 = .ok (.lload 4, 2) := by decide +kernel
theorem dX7_common_21 : decode cX7_common 21 = .ok (.lload 6, 2) := by decide +kernel
theorem dX7_common_23 : decode cX7_common 23 = .ok (.lrem, 1) := by decide +kernel
theorem dX7_common_24 : decode cX7_common 24 = .ok (.lstore 8, 2) := by decide +kernel
theorem dX7_common_26 : decode cX7_common 26 = .ok (.lload 6, 2) := by decide +kernel
theorem dX7_common_28 : decode cX7_common 28 = .ok (.lstore 4, 2) := by decide +kernel
theorem dX7_common_30 : decode cX7_common 30 = .ok (.lload 8, 2) := by decide +kernel
theorem dX7_common_32 : decode cX7_common 32 = .ok (.lstore 6, 2) := by decide +kernel
theorem dX7_common_34 : decode cX7_common 34 = .ok (.goto (-22), 3) := by decide +kernel
theorem dX7_common_37 : decode cX7_common 37 = .ok (.lload 4, 2) := by decide +kernel
theorem dX7_common_39 : decode cX7_common 39 = .ok (.lreturn, 1) := by decide +kernel
theorem dX7_law_0 : decode cX7_law 0 = .ok (.iconst 0, 1) := by decide +kernel
theorem dX7_law_1 : decode cX7_law 1 = .ok (.istore_n 2, 1) := by decide +kernel
theorem dX7_law_2 : decode cX7_law 2 = .ok (.iload_n 2, 1) := by decide +kernel
theorem dX7_law_3 : decode cX7_law 3 = .ok (.bipush 9, 2) := by decide +kernel
theorem dX7_law_5 : decode cX7_law 5 = .ok (.if_icmp .ge 16, 3) := by decide +kernel
theorem dX7_law_8 : decode cX7_law 8 = .ok (.aload_n 0, 1) := by decide +kernel
theorem dX7_law_9 : decode cX7_law 9 = .ok (.getfield 36, 3) := by decide +kernel
theorem dX7_law_12 : decode cX7_law 12 = .ok (.iload_n 2, 1) := by decide +kernel
theorem dX7_law_13 : decode cX7_law 13 = .ok (.lconst 0, 1) := by decide +kernel
theorem dX7_law_14 : decode cX7_law 14 = .ok (.lastore, 1) := by decide +kernel
theorem dX7_law_15 : decode cX7_law 15 = .ok (.iinc 2 1, 3) := by decide +kernel
theorem dX7_law_18 : decode cX7_law 18 = .ok (.goto (-16), 3) := by decide +kernel
theorem dX7_law_21 : decode cX7_law 21 = .ok (.aload_n 0, 1) := by decide +kernel
theorem dX7_law_22 : decode cX7_law 22 = .ok (.iload_n 1, 1) := by decide +kernel
theorem dX7_law_23 : decode cX7_law 23 = .ok (.iconst 3, 1) := by decide +kernel
theorem dX7_law_24 : decode cX7_law 24 = .ok (.invokevirtual 214, 3) := by decide +kernel
theorem dX7_law_27 : decode cX7_law 27 = .ok (.istore_n 2, 1) := by decide +kernel
theorem dX7_law_28 : decode cX7_law 28 = .ok (.aload_n 0, 1) := by decide +kernel
theorem dX7_law_29 : decode cX7_law 29 = .ok (.iload_n 1, 1) := by decide +kernel
theorem dX7_law_30 : decode cX7_law 30 = .ok (.iconst 5, 1) := by decide +kernel
theorem dX7_law_31 : decode cX7_law 31 = .ok (.invokevirtual 214, 3) := by decide +kernel
theorem dX7_law_34 : decode cX7_law 34 = .ok (.istore_n 3, 1) := by decide +kernel
theorem dX7_law_35 : decode cX7_law 35 = .ok (.aload_n 0, 1) := by decide +kernel
theorem dX7_law_36 : decode cX7_law 36 = .ok (.iload_n 1, 1) := by decide +kernel
theorem dX7_law_37 : decode cX7_law 37 = .ok (.iconst 1, 1) := by decide +kernel
theorem dX7_law_38 : decode cX7_law 38 = .ok (.invokevirtual 214, 3) := by decide +kernel
theorem dX7_law_41 : decode cX7_law 41 = .ok (.istore 4, 2) := by decide +kernel
theorem dX7_law_43 : decode cX7_law 43 = .ok (.aload_n 0, 1) := by decide +kernel
theorem dX7_law_44 : decode cX7_law 44 = .ok (.iload_n 1, 1) := by decide +kernel
theorem dX7_law_45 : decode cX7_law 45 = .ok (.iconst 2, 1) := by decide +kernel
theorem dX7_law_46 : decode cX7_law 46 = .ok (.invokevirtual 214, 3) := by decide +kernel
theorem dX7_law_49 : decode cX7_law 49 = .ok (.istore 5, 2) := by decide +kernel
theorem dX7_law_51 : decode cX7_law 51 = .ok (.aload_n 0, 1) := by decide +kernel
theorem dX7_law_52 : decode cX7_law 52 = .ok (.iload_n 1, 1) := by decide +kernel
theorem dX7_law_53 : decode cX7_law 53 = .ok (.iconst 4, 1) := by decide +kernel
theorem dX7_law_54 : decode cX7_law 54 = .ok (.invokevirtual 214, 3) := by decide +kernel
theorem dX7_law_57 : decode cX7_law 57 = .ok (.i2l, 1) := by decide +kernel
theorem dX7_law_58 : decode cX7_law 58 = .ok (.lstore 6, 2) := by decide +kernel
theorem dX7_law_60 : decode cX7_law 60 = .ok (.aload_n 0, 1) := by decide +kernel
theorem dX7_law_61 : decode cX7_law 61 = .ok (.iload 4, 2) := by decide +kernel
theorem dX7_law_63 : decode cX7_law 63 = .ok (.iload_n 2, 1) := by decide +kernel
theorem dX7_law_64 : decode cX7_law 64 = .ok (.iload_n 3, 1) := by decide +kernel
theorem dX7_law_65 : decode cX7_law 65 = .ok (.invokevirtual 223, 3) := by decide +kernel
theorem dX7_law_68 : decode cX7_law 68 = .ok (.i2l, 1) := by decide +kernel
theorem dX7_law_69 : decode cX7_law 69 = .ok (.lstore 8, 2) := by decide +kernel
theorem dX7_law_71 : decode cX7_law 71 = .ok (.iload 5, 2) := by decide +kernel
theorem dX7_law_73 : decode cX7_law 73 = .ok (.iconst (-1), 1) := by decide +kernel
theorem dX7_law_74 : decode cX7_law 74 = .ok (.if_icmp .ne 7, 3) := by decide +kernel
theorem dX7_law_77 : decode cX7_law 77 = .ok (.lconst 0, 1) := by decide +kernel
theorem dX7_law_78 : decode cX7_law 78 = .ok (.goto 12, 3) := by decide +kernel
theorem dX7_law_81 : decode cX7_law 81 = .ok (.aload_n 0, 1) := by decide +kernel
theorem dX7_law_82 : decode cX7_law 82 = .ok (.iload 5, 2) := by decide +kernel
theorem dX7_law_84 : decode cX7_law 84 = .ok (.iload_n 2, 1) := by decide +kernel
theorem dX7_law_85 : decode cX7_law 85 = .ok (.iload_n 3, 1) := by decide +kernel
theorem dX7_law_86 : decode cX7_law 86 = .ok (.invokevirtual 223, 3) := by decide +kernel
theorem dX7_law_89 : decode cX7_law 89 = .ok (.i2l, 1) := by decide +kernel
theorem dX7_law_90 : decode cX7_law 90 = .ok (.lstore 10, 2) := by decide +kernel
theorem dX7_law_92 : decode cX7_law 92 = .ok (.aload_n 0, 1) := by decide +kernel
theorem dX7_law_93 : decode cX7_law 93 = .ok (.getfield 36, 3) := by decide +kernel
theorem dX7_law_96 : decode cX7_law 96 = .ok (.iload 4, 2) := by decide +kernel
theorem dX7_law_98 : decode cX7_law 98 = .ok (.lconst 1, 1) := by decide +kernel
theorem dX7_law_99 : decode cX7_law 99 = .ok (.lastore, 1) := by decide +kernel
theorem dX7_law_100 : decode cX7_law 100 = .ok (.aload_n 0, 1) := by decide +kernel
theorem dX7_law_101 : decode cX7_law 101 = .ok (.iload_n 1, 1) := by decide +kernel
theorem dX7_law_102 : decode cX7_law 102 = .ok (.iconst 0, 1) := by decide +kernel
theorem dX7_law_103 : decode cX7_law 103 = .ok (.invokevirtual 214, 3) := by decide +kernel
theorem dX7_law_106 : decode cX7_law 106 = .ok (.tableswitch 117 0 3 #[30, 45, 45, 89], 30) := by decide +kernel
theorem dX7_law_136 : decode cX7_law 136 = .ok (.aload_n 0, 1) := by decide +kernel
theorem dX7_law_137 : decode cX7_law 137 = .ok (.getfield 36, 3) := by decide +kernel
theorem dX7_law_140 : decode cX7_law 140 = .ok (.bipush 8, 2) := by decide +kernel
theorem dX7_law_142 : decode cX7_law 142 = .ok (.lload 6, 2) := by decide +kernel
theorem dX7_law_144 : decode cX7_law 144 = .ok (.lload 8, 2) := by decide +kernel
theorem dX7_law_146 : decode cX7_law 146 = .ok (.lsub, 1) := by decide +kernel
theorem dX7_law_147 : decode cX7_law 147 = .ok (.lastore, 1) := by decide +kernel
theorem dX7_law_148 : decode cX7_law 148 = .ok (.goto 98, 3) := by decide +kernel
theorem dX7_law_151 : decode cX7_law 151 = .ok (.aload_n 0, 1) := by decide +kernel
theorem dX7_law_152 : decode cX7_law 152 = .ok (.getfield 36, 3) := by decide +kernel
theorem dX7_law_155 : decode cX7_law 155 = .ok (.iload 5, 2) := by decide +kernel
theorem dX7_law_157 : decode cX7_law 157 = .ok (.ldc2_w 226, 3) := by decide +kernel
theorem dX7_law_160 : decode cX7_law 160 = .ok (.lastore, 1) := by decide +kernel
theorem dX7_law_161 : decode cX7_law 161 = .ok (.aload_n 0, 1) := by decide +kernel
theorem dX7_law_162 : decode cX7_law 162 = .ok (.getfield 36, 3) := by decide +kernel
theorem dX7_law_165 : decode cX7_law 165 = .ok (.bipush 8, 2) := by decide +kernel
theorem dX7_law_167 : decode cX7_law 167 = .ok (.aload_n 0, 1) := by decide +kernel
theorem dX7_law_168 : decode cX7_law 168 = .ok (.iload_n 1, 1) := by decide +kernel
theorem dX7_law_169 : decode cX7_law 169 = .ok (.iconst 0, 1) := by decide +kernel
theorem dX7_law_170 : decode cX7_law 170 = .ok (.invokevirtual 214, 3) := by decide +kernel
theorem dX7_law_173 : decode cX7_law 173 = .ok (.iconst 1, 1) := by decide +kernel
theorem dX7_law_174 : decode cX7_law 174 = .ok (.if_icmp .ne 8, 3) := by decide +kernel
theorem dX7_law_177 : decode cX7_law 177 = .ok (.lload 6, 2) := by decide +kernel
theorem dX7_law_179 : decode cX7_law 179 = .ok (.goto 6, 3) := by decide +kernel
theorem dX7_law_182 : decode cX7_law 182 = .ok (.lload 6, 2) := by decide +kernel
theorem dX7_law_184 : decode cX7_law 184 = .ok (.lneg, 1) := by decide +kernel
theorem dX7_law_185 : decode cX7_law 185 = .ok (.lload 10, 2) := by decide +kernel
theorem dX7_law_187 : decode cX7_law 187 = .ok (.ladd, 1) := by decide +kernel
theorem dX7_law_188 : decode cX7_law 188 = .ok (.lload 8, 2) := by decide +kernel
theorem dX7_law_190 : decode cX7_law 190 = .ok (.lsub, 1) := by decide +kernel
theorem dX7_law_191 : decode cX7_law 191 = .ok (.lastore, 1) := by decide +kernel
theorem dX7_law_192 : decode cX7_law 192 = .ok (.goto 54, 3) := by decide +kernel
theorem dX7_law_195 : decode cX7_law 195 = .ok (.aload_n 0, 1) := by decide +kernel
theorem dX7_law_196 : decode cX7_law 196 = .ok (.getfield 36, 3) := by decide +kernel
theorem dX7_law_199 : decode cX7_law 199 = .ok (.iload 5, 2) := by decide +kernel
theorem dX7_law_201 : decode cX7_law 201 = .ok (.lload 6, 2) := by decide +kernel
theorem dX7_law_203 : decode cX7_law 203 = .ok (.lneg, 1) := by decide +kernel
theorem dX7_law_204 : decode cX7_law 204 = .ok (.lastore, 1) := by decide +kernel
theorem dX7_law_205 : decode cX7_law 205 = .ok (.aload_n 0, 1) := by decide +kernel
theorem dX7_law_206 : decode cX7_law 206 = .ok (.getfield 36, 3) := by decide +kernel
theorem dX7_law_209 : decode cX7_law 209 = .ok (.bipush 8, 2) := by decide +kernel
theorem dX7_law_211 : decode cX7_law 211 = .ok (.lload 6, 2) := by decide +kernel
theorem dX7_law_213 : decode cX7_law 213 = .ok (.lload 10, 2) := by decide +kernel
theorem dX7_law_215 : decode cX7_law 215 = .ok (.lmul, 1) := by decide +kernel
theorem dX7_law_216 : decode cX7_law 216 = .ok (.lload 8, 2) := by decide +kernel
theorem dX7_law_218 : decode cX7_law 218 = .ok (.lsub, 1) := by decide +kernel
theorem dX7_law_219 : decode cX7_law 219 = .ok (.lastore, 1) := by decide +kernel
theorem dX7_law_220 : decode cX7_law 220 = .ok (.goto 26, 3) := by decide +kernel
theorem dX7_law_223 : decode cX7_law 223 = .ok (.aload_n 0, 1) := by decide +kernel
theorem dX7_law_224 : decode cX7_law 224 = .ok (.getfield 36, 3) := by decide +kernel
theorem dX7_law_227 : decode cX7_law 227 = .ok (.iload 5, 2) := by decide +kernel
theorem dX7_law_229 : decode cX7_law 229 = .ok (.lconst 1, 1) := by decide +kernel
theorem dX7_law_230 : decode cX7_law 230 = .ok (.lastore, 1) := by decide +kernel
theorem dX7_law_231 : decode cX7_law 231 = .ok (.aload_n 0, 1) := by decide +kernel
theorem dX7_law_232 : decode cX7_law 232 = .ok (.getfield 36, 3) := by decide +kernel
theorem dX7_law_235 : decode cX7_law 235 = .ok (.bipush 8, 2) := by decide +kernel
theorem dX7_law_237 : decode cX7_law 237 = .ok (.lload 6, 2) := by decide +kernel
theorem dX7_law_239 : decode cX7_law 239 = .ok (.lload 8, 2) := by decide +kernel
theorem dX7_law_241 : decode cX7_law 241 = .ok (.lsub, 1) := by decide +kernel
theorem dX7_law_242 : decode cX7_law 242 = .ok (.lload 10, 2) := by decide +kernel
theorem dX7_law_244 : decode cX7_law 244 = .ok (.lsub, 1) := by decide +kernel
theorem dX7_law_245 : decode cX7_law 245 = .ok (.lastore, 1) := by decide +kernel
theorem dX7_law_246 : decode cX7_law 246 = .ok (.return_, 1) := by decide +kernel
theorem dX7_adds_0 : decode cX7_adds 0 = .ok (.iconst 0, 1) := by decide +kernel
theorem dX7_adds_1 : decode cX7_adds 1 = .ok (.istore_n 1, 1) := by decide +kernel
theorem dX7_adds_2 : decode cX7_adds 2 = .ok (.iload_n 1, 1) := by decide +kernel
theorem dX7_adds_3 : decode cX7_adds 3 = .ok (.aload_n 0, 1) := by decide +kernel
theorem dX7_adds_4 : decode cX7_adds 4 = .ok (.getfield 228, 3) := by decide +kernel
theorem dX7_adds_7 : decode cX7_adds 7 = .ok (.if_icmp .ge 148, 3) := by decide +kernel
theorem dX7_adds_10 : decode cX7_adds 10 = .ok (.aload_n 0, 1) := by decide +kernel
theorem dX7_adds_11 : decode cX7_adds 11 = .ok (.getfield 36, 3) := by decide +kernel
theorem dX7_adds_14 : decode cX7_adds 14 = .ok (.aload_n 0, 1) := by decide +kernel
theorem dX7_adds_15 : decode cX7_adds 15 = .ok (.getfield 39, 3) := by decide +kernel
theorem dX7_adds_18 : decode cX7_adds 18 = .ok (.iload_n 1, 1) := by decide +kernel
theorem dX7_adds_19 : decode cX7_adds 19 = .ok (.iaload, 1) := by decide +kernel
theorem dX7_adds_20 : decode cX7_adds 20 = .ok (.laload, 1) := by decide +kernel
theorem dX7_adds_21 : decode cX7_adds 21 = .ok (.lstore_n 2, 1) := by decide +kernel
theorem dX7_adds_22 : decode cX7_adds 22 = .ok (.lload_n 2, 1) := by decide +kernel
theorem dX7_adds_23 : decode cX7_adds 23 = .ok (.lconst 0, 1) := by decide +kernel
theorem dX7_adds_24 : decode cX7_adds 24 = .ok (.lcmp, 1) := by decide +kernel
theorem dX7_adds_25 : decode cX7_adds 25 = .ok (.ifCond .ne 6, 3) := by decide +kernel
theorem dX7_adds_28 : decode cX7_adds 28 = .ok (.goto 121, 3) := by decide +kernel
theorem dX7_adds_31 : decode cX7_adds 31 = .ok (.aload_n 0, 1) := by decide +kernel
theorem dX7_adds_32 : decode cX7_adds 32 = .ok (.getfield 32, 3) := by decide +kernel
theorem dX7_adds_35 : decode cX7_adds 35 = .ok (.bipush 9, 2) := by decide +kernel
theorem dX7_adds_37 : decode cX7_adds 37 = .ok (.iload_n 1, 1) := by decide +kernel
theorem dX7_adds_38 : decode cX7_adds 38 = .ok (.imul, 1) := by decide +kernel
theorem dX7_adds_39 : decode cX7_adds 39 = .ok (.aload_n 0, 1) := by decide +kernel
theorem dX7_adds_40 : decode cX7_adds 40 = .ok (.getfield 39, 3) := by decide +kernel
theorem dX7_adds_43 : decode cX7_adds 43 = .ok (.iload_n 1, 1) := by decide +kernel
theorem dX7_adds_44 : decode cX7_adds 44 = .ok (.iaload, 1) := by decide +kernel
theorem dX7_adds_45 : decode cX7_adds 45 = .ok (.iadd, 1) := by decide +kernel
theorem dX7_adds_46 : decode cX7_adds 46 = .ok (.laload, 1) := by decide +kernel
theorem dX7_adds_47 : decode cX7_adds 47 = .ok (.lstore 4, 2) := by decide +kernel
theorem dX7_adds_49 : decode cX7_adds 49 = .ok (.lconst 0, 1) := by decide +kernel
theorem dX7_adds_50 : decode cX7_adds 50 = .ok (.lstore 6, 2) := by decide +kernel
theorem dX7_adds_52 : decode cX7_adds 52 = .ok (.iconst 0, 1) := by decide +kernel
theorem dX7_adds_53 : decode cX7_adds 53 = .ok (.istore 8, 2) := by decide +kernel
theorem dX7_adds_55 : decode cX7_adds 55 = .ok (.iload 8, 2) := by decide +kernel
theorem dX7_adds_57 : decode cX7_adds 57 = .ok (.bipush 9, 2) := by decide +kernel
theorem dX7_adds_59 : decode cX7_adds 59 = .ok (.if_icmp .ge 55, 3) := by decide +kernel
theorem dX7_adds_62 : decode cX7_adds 62 = .ok (.aload_n 0, 1) := by decide +kernel
theorem dX7_adds_63 : decode cX7_adds 63 = .ok (.getfield 36, 3) := by decide +kernel
theorem dX7_adds_66 : decode cX7_adds 66 = .ok (.iload 8, 2) := by decide +kernel
theorem dX7_adds_68 : decode cX7_adds 68 = .ok (.aload_n 0, 1) := by decide +kernel
theorem dX7_adds_69 : decode cX7_adds 69 = .ok (.getfield 36, 3) := by decide +kernel
theorem dX7_adds_72 : decode cX7_adds 72 = .ok (.iload 8, 2) := by decide +kernel
theorem dX7_adds_74 : decode cX7_adds 74 = .ok (.laload, 1) := by decide +kernel
theorem dX7_adds_75 : decode cX7_adds 75 = .ok (.lload 4, 2) := by decide +kernel
theorem dX7_adds_77 : decode cX7_adds 77 = .ok (.lmul, 1) := by decide +kernel
theorem dX7_adds_78 : decode cX7_adds 78 = .ok (.aload_n 0, 1) := by decide +kernel
theorem dX7_adds_79 : decode cX7_adds 79 = .ok (.getfield 32, 3) := by decide +kernel
theorem dX7_adds_82 : decode cX7_adds 82 = .ok (.bipush 9, 2) := by decide +kernel
theorem dX7_adds_84 : decode cX7_adds 84 = .ok (.iload_n 1, 1) := by decide +kernel
theorem dX7_adds_85 : decode cX7_adds 85 = .ok (.imul, 1) := by decide +kernel
theorem dX7_adds_86 : decode cX7_adds 86 = .ok (.iload 8, 2) := by decide +kernel
theorem dX7_adds_88 : decode cX7_adds 88 = .ok (.iadd, 1) := by decide +kernel
theorem dX7_adds_89 : decode cX7_adds 89 = .ok (.laload, 1) := by decide +kernel
theorem dX7_adds_90 : decode cX7_adds 90 = .ok (.lload_n 2, 1) := by decide +kernel
theorem dX7_adds_91 : decode cX7_adds 91 = .ok (.lmul, 1) := by decide +kernel
theorem dX7_adds_92 : decode cX7_adds 92 = .ok (.lsub, 1) := by decide +kernel
theorem dX7_adds_93 : decode cX7_adds 93 = .ok (.lastore, 1) := by decide +kernel
theorem dX7_adds_94 : decode cX7_adds 94 = .ok (.lload 6, 2) := by decide +kernel
theorem dX7_adds_96 : decode cX7_adds 96 = .ok (.aload_n 0, 1) := by decide +kernel
theorem dX7_adds_97 : decode cX7_adds 97 = .ok (.getfield 36, 3) := by decide +kernel
theorem dX7_adds_100 : decode cX7_adds 100 = .ok (.iload 8, 2) := by decide +kernel
theorem dX7_adds_102 : decode cX7_adds 102 = .ok (.laload, 1) := by decide +kernel
theorem dX7_adds_103 : decode cX7_adds 103 = .ok (.invokestatic 231, 3) := by decide +kernel
theorem dX7_adds_106 : decode cX7_adds 106 = .ok (.lstore 6, 2) := by decide +kernel
theorem dX7_adds_108 : decode cX7_adds 108 = .ok (.iinc 8 1, 3) := by decide +kernel
theorem dX7_adds_111 : decode cX7_adds 111 = .ok (.goto (-56), 3) := by decide +kernel
theorem dX7_adds_114 : decode cX7_adds 114 = .ok (.iconst 0, 1) := by decide +kernel
theorem dX7_adds_115 : decode cX7_adds 115 = .ok (.istore 8, 2) := by decide +kernel
theorem dX7_adds_117 : decode cX7_adds 117 = .ok (.iload 8, 2) := by decide +kernel
theorem dX7_adds_119 : decode cX7_adds 119 = .ok (.bipush 9, 2) := by decide +kernel
theorem dX7_adds_121 : decode cX7_adds 121 = .ok (.if_icmp .ge 28, 3) := by decide +kernel
theorem dX7_adds_124 : decode cX7_adds 124 = .ok (.lload 6, 2) := by decide +kernel
theorem dX7_adds_126 : decode cX7_adds 126 = .ok (.lconst 1, 1) := by decide +kernel
theorem dX7_adds_127 : decode cX7_adds 127 = .ok (.lcmp, 1) := by decide +kernel
theorem dX7_adds_128 : decode cX7_adds 128 = .ok (.ifCond .le 21, 3) := by decide +kernel
theorem dX7_adds_131 : decode cX7_adds 131 = .ok (.aload_n 0, 1) := by decide +kernel
theorem dX7_adds_132 : decode cX7_adds 132 = .ok (.getfield 36, 3) := by decide +kernel
theorem dX7_adds_135 : decode cX7_adds 135 = .ok (.iload 8, 2) := by decide +kernel
theorem dX7_adds_137 : decode cX7_adds 137 = .ok (.dup2, 1) := by decide +kernel
theorem dX7_adds_138 : decode cX7_adds 138 = .ok (.laload, 1) := by decide +kernel
theorem dX7_adds_139 : decode cX7_adds 139 = .ok (.lload 6, 2) := by decide +kernel
theorem dX7_adds_141 : decode cX7_adds 141 = .ok (.ldiv, 1) := by decide +kernel
theorem dX7_adds_142 : decode cX7_adds 142 = .ok (.lastore, 1) := by decide +kernel
theorem dX7_adds_143 : decode cX7_adds 143 = .ok (.iinc 8 1, 3) := by decide +kernel
theorem dX7_adds_146 : decode cX7_adds 146 = .ok (.goto (-29), 3) := by decide +kernel
theorem dX7_adds_149 : decode cX7_adds 149 = .ok (.iinc 1 1, 3) := by decide +kernel
theorem dX7_adds_152 : decode cX7_adds 152 = .ok (.goto (-150), 3) := by decide +kernel
theorem dX7_adds_155 : decode cX7_adds 155 = .ok (.iconst 0, 1) := by decide +kernel
theorem dX7_adds_156 : decode cX7_adds 156 = .ok (.istore_n 1, 1) := by decide +kernel
theorem dX7_adds_157 : decode cX7_adds 157 = .ok (.iload_n 1, 1) := by decide +kernel
theorem dX7_adds_158 : decode cX7_adds 158 = .ok (.bipush 8, 2) := by decide +kernel
theorem dX7_adds_160 : decode cX7_adds 160 = .ok (.if_icmp .ge 20, 3) := by decide +kernel
theorem dX7_adds_163 : decode cX7_adds 163 = .ok (.aload_n 0, 1) := by decide +kernel
theorem dX7_adds_164 : decode cX7_adds 164 = .ok (.getfield 36, 3) := by decide +kernel
theorem dX7_adds_167 : decode cX7_adds 167 = .ok (.iload_n 1, 1) := by decide +kernel
theorem dX7_adds_168 : decode cX7_adds 168 = .ok (.laload, 1) := by decide +kernel
theorem dX7_adds_169 : decode cX7_adds 169 = .ok (.lconst 0, 1) := by decide +kernel
theorem dX7_adds_170 : decode cX7_adds 170 = .ok (.lcmp, 1) := by decide +kernel
theorem dX7_adds_171 : decode cX7_adds 171 = .ok (.ifCond .ne 9, 3) := by decide +kernel
theorem dX7_adds_174 : decode cX7_adds 174 = .ok (.iinc 1 1, 3) := by decide +kernel
theorem dX7_adds_177 : decode cX7_adds 177 = .ok (.goto (-20), 3) := by decide +kernel
theorem dX7_adds_180 : decode cX7_adds 180 = .ok (.iload_n 1, 1) := by decide +kernel
theorem dX7_adds_181 : decode cX7_adds 181 = .ok (.bipush 8, 2) := by decide +kernel
theorem dX7_adds_183 : decode cX7_adds 183 = .ok (.if_icmp .ne 21, 3) := by decide +kernel
theorem dX7_adds_186 : decode cX7_adds 186 = .ok (.aload_n 0, 1) := by decide +kernel
theorem dX7_adds_187 : decode cX7_adds 187 = .ok (.getfield 36, 3) := by decide +kernel
theorem dX7_adds_190 : decode cX7_adds 190 = .ok (.bipush 8, 2) := by decide +kernel
theorem dX7_adds_192 : decode cX7_adds 192 = .ok (.laload, 1) := by decide +kernel
theorem dX7_adds_193 : decode cX7_adds 193 = .ok (.lconst 0, 1) := by decide +kernel
theorem dX7_adds_194 : decode cX7_adds 194 = .ok (.lcmp, 1) := by decide +kernel
theorem dX7_adds_195 : decode cX7_adds 195 = .ok (.ifCond .ne 7, 3) := by decide +kernel
theorem dX7_adds_198 : decode cX7_adds 198 = .ok (.iconst 1, 1) := by decide +kernel
theorem dX7_adds_199 : decode cX7_adds 199 = .ok (.goto 4, 3) := by decide +kernel
theorem dX7_adds_202 : decode cX7_adds 202 = .ok (.iconst 0, 1) := by decide +kernel
theorem dX7_adds_203 : decode cX7_adds 203 = .ok (.ireturn, 1) := by decide +kernel
theorem dX7_adds_204 : decode cX7_adds 204 = .ok (.iconst 0, 1) := by decide +kernel
theorem dX7_adds_205 : decode cX7_adds 205 = .ok (.istore_n 2, 1) := by decide +kernel
theorem dX7_adds_206 : decode cX7_adds 206 = .ok (.iload_n 2, 1) := by decide +kernel
theorem dX7_adds_207 : decode cX7_adds 207 = .ok (.bipush 9, 2) := by decide +kernel
theorem dX7_adds_209 : decode cX7_adds 209 = .ok (.if_icmp .ge 29, 3) := by decide +kernel
