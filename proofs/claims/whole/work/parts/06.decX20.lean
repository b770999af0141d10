theorem dX2_init_0 : decode cX2_init 0 = .ok (.aload_n 0, 1) := by decide +kernel
theorem dX2_init_1 : decode cX2_init 1 = .ok (.invokespecial 3, 3) := by decide +kernel
theorem dX2_init_4 : decode cX2_init 4 = .ok (.aload_n 0, 1) := by decide +kernel
theorem dX2_init_5 : decode cX2_init 5 = .ok (.aload_n 1, 1) := by decide +kernel
theorem dX2_init_6 : decode cX2_init 6 = .ok (.putfield 9, 3) := by decide +kernel
theorem dX2_init_9 : decode cX2_init 9 = .ok (.return_, 1) := by decide +kernel
theorem dX2_read_0 : decode cX2_read 0 = .ok (.aload_n 1, 1) := by decide +kernel
theorem dX2_read_1 : decode cX2_read 1 = .ok (.invokevirtual 15, 3) := by decide +kernel
theorem dX2_read_4 : decode cX2_read 4 = .ok (.aload_n 0, 1) := by decide +kernel
theorem dX2_read_5 : decode cX2_read 5 = .ok (.getfield 9, 3) := by decide +kernel
theorem dX2_read_8 : decode cX2_read 8 = .ok (.invokevirtual 20, 3) := by decide +kernel
theorem dX2_read_11 : decode cX2_read 11 = .ok (.iconst 0, 1) := by decide +kernel
theorem dX2_read_12 : decode cX2_read 12 = .ok (.istore_n 2, 1) := by decide +kernel
theorem dX2_read_13 : decode cX2_read 13 = .ok (.iload_n 2, 1) := by decide +kernel
theorem dX2_read_14 : decode cX2_read 14 = .ok (.bipush 10, 2) := by decide +kernel
theorem dX2_read_16 : decode cX2_read 16 = .ok (.if_icmp .gt 78, 3) := by decide +kernel
theorem dX2_read_19 : decode cX2_read 19 = .ok (.aload_n 0, 1) := by decide +kernel
theorem dX2_read_20 : decode cX2_read 20 = .ok (.getfield 9, 3) := by decide +kernel
theorem dX2_read_23 : decode cX2_read 23 = .ok (.ldc 25, 2) := by decide +kernel
theorem dX2_read_25 : decode cX2_read 25 = .ok (.invokevirtual 27, 3) := by decide +kernel
theorem dX2_read_28 : decode cX2_read 28 = .ok (.ifCond .eq 43, 3) := by decide +kernel
theorem dX2_read_31 : decode cX2_read 31 = .ok (.aload_n 0, 1) := by decide +kernel
theorem dX2_read_32 : decode cX2_read 32 = .ok (.aload_n 1, 1) := by decide +kernel
theorem dX2_read_33 : decode cX2_read 33 = .ok (.invokevirtual 31, 3) := by decide +kernel
theorem dX2_read_36 : decode cX2_read 36 = .ok (.ifCond .eq 17, 3) := by decide +kernel
theorem dX2_read_39 : decode cX2_read 39 = .ok (.aload_n 0, 1) := by decide +kernel
theorem dX2_read_40 : decode cX2_read 40 = .ok (.getfield 9, 3) := by decide +kernel
theorem dX2_read_43 : decode cX2_read 43 = .ok (.invokevirtual 35, 3) := by decide +kernel
theorem dX2_read_46 : decode cX2_read 46 = .ok (.ifCond .eq 7, 3) := by decide +kernel
theorem dX2_read_49 : decode cX2_read 49 = .ok (.iconst 1, 1) := by decide +kernel
theorem dX2_read_50 : decode cX2_read 50 = .ok (.goto 4, 3) := by decide +kernel
theorem dX2_read_53 : decode cX2_read 53 = .ok (.iconst 0, 1) := by decide +kernel
theorem dX2_read_54 : decode cX2_read 54 = .ok (.istore_n 3, 1) := by decide +kernel
theorem dX2_read_55 : decode cX2_read 55 = .ok (.iload_n 3, 1) := by decide +kernel
theorem dX2_read_56 : decode cX2_read 56 = .ok (.ifCond .eq 7, 3) := by decide +kernel
theorem dX2_read_59 : decode cX2_read 59 = .ok (.iconst (-1), 1) := by decide +kernel
theorem dX2_read_60 : decode cX2_read 60 = .ok (.goto 10, 3) := by decide +kernel
theorem dX2_read_63 : decode cX2_read 63 = .ok (.aload_n 0, 1) := by decide +kernel
theorem dX2_read_64 : decode cX2_read 64 = .ok (.getfield 9, 3) := by decide +kernel
theorem dX2_read_67 : decode cX2_read 67 = .ok (.invokevirtual 39, 3) := by decide +kernel
theorem dX2_read_70 : decode cX2_read 70 = .ok (.ireturn, 1) := by decide +kernel
theorem dX2_read_71 : decode cX2_read 71 = .ok (.iload_n 2, 1) := by decide +kernel
theorem dX2_read_72 : decode cX2_read 72 = .ok (.bipush 10, 2) := by decide +kernel
theorem dX2_read_74 : decode cX2_read 74 = .ok (.if_icmp .eq 20, 3) := by decide +kernel
theorem dX2_read_77 : decode cX2_read 77 = .ok (.aload_n 0, 1) := by decide +kernel
theorem dX2_read_78 : decode cX2_read 78 = .ok (.aload_n 1, 1) := by decide +kernel
theorem dX2_read_79 : decode cX2_read 79 = .ok (.invokevirtual 43, 3) := by decide +kernel
theorem dX2_read_82 : decode cX2_read 82 = .ok (.ifCond .ne 6, 3) := by decide +kernel
theorem dX2_read_85 : decode cX2_read 85 = .ok (.goto 9, 3) := by decide +kernel
theorem dX2_read_88 : decode cX2_read 88 = .ok (.iinc 2 1, 3) := by decide +kernel
theorem dX2_read_91 : decode cX2_read 91 = .ok (.goto (-78), 3) := by decide +kernel
theorem dX2_read_94 : decode cX2_read 94 = .ok (.aload_n 0, 1) := by decide +kernel
theorem dX2_read_95 : decode cX2_read 95 = .ok (.getfield 9, 3) := by decide +kernel
theorem dX2_read_98 : decode cX2_read 98 = .ok (.invokevirtual 39, 3) := by decide +kernel
theorem dX2_read_101 : decode cX2_read 101 = .ok (.ireturn, 1) := by decide +kernel
theorem dX2_readSentence_0 : decode cX2_readSentence 0 = .ok (.aload_n 0, 1) := by decide +kernel
theorem dX2_readSentence_1 : decode cX2_readSentence 1 = .ok (.getfield 9, 3) := by decide +kernel
theorem dX2_readSentence_4 : decode cX2_readSentence 4 = .ok (.invokevirtual 39, 3) := by decide +kernel
theorem dX2_readSentence_7 : decode cX2_readSentence 7 = .ok (.istore_n 2, 1) := by decide +kernel
theorem dX2_readSentence_8 : decode cX2_readSentence 8 = .ok (.aload_n 0, 1) := by decide +kernel
theorem dX2_readSentence_9 : decode cX2_readSentence 9 = .ok (.getfield 9, 3) := by decide +kernel
theorem dX2_readSentence_12 : decode cX2_readSentence 12 = .ok (.iconst (-1), 1) := by decide +kernel
theorem dX2_readSentence_13 : decode cX2_readSentence 13 = .ok (.invokevirtual 46, 3) := by decide +kernel
theorem dX2_readSentence_16 : decode cX2_readSentence 16 = .ok (.istore_n 3, 1) := by decide +kernel
theorem dX2_readSentence_17 : decode cX2_readSentence 17 = .ok (.iload_n 3, 1) := by decide +kernel
theorem dX2_readSentence_18 : decode cX2_readSentence 18 = .ok (.iconst (-1), 1) := by decide +kernel
theorem dX2_readSentence_19 : decode cX2_readSentence 19 = .ok (.if_icmp .ne 5, 3) := by decide +kernel
theorem dX2_readSentence_22 : decode cX2_readSentence 22 = .ok (.iconst 0, 1) := by decide +kernel
theorem dX2_readSentence_23 : decode cX2_readSentence 23 = .ok (.ireturn, 1) := by decide +kernel
theorem dX2_readSentence_24 : decode cX2_readSentence 24 = .ok (.aload_n 1, 1) := by decide +kernel
theorem dX2_readSentence_25 : decode cX2_readSentence 25 = .ok (.iload_n 3, 1) := by decide +kernel
theorem dX2_readSentence_26 : decode cX2_readSentence 26 = .ok (.iload_n 2, 1) := by decide +kernel
theorem dX2_readSentence_27 : decode cX2_readSentence 27 = .ok (.invokevirtual 50, 3) := by decide +kernel
theorem dX2_readSentence_30 : decode cX2_readSentence 30 = .ok (.iconst 0, 1) := by decide +kernel
theorem dX2_readSentence_31 : decode cX2_readSentence 31 = .ok (.istore 4, 2) := by decide +kernel
theorem dX2_readSentence_33 : decode cX2_readSentence 33 = .ok (.aload_n 0, 1) := by decide +kernel
theorem dX2_readSentence_34 : decode cX2_readSentence 34 = .ok (.getfield 9, 3) := by decide +kernel
theorem dX2_readSentence_37 : decode cX2_readSentence 37 = .ok (.ldc 54, 2) := by decide +kernel
theorem dX2_readSentence_39 : decode cX2_readSentence 39 = .ok (.invokevirtual 27, 3) := by decide +kernel
theorem dX2_readSentence_42 : decode cX2_readSentence 42 = .ok (.ifCond .eq 14, 3) := by decide +kernel
theorem dX2_readSentence_45 : decode cX2_readSentence 45 = .ok (.aload_n 0, 1) := by decide +kernel
theorem dX2_readSentence_46 : decode cX2_readSentence 46 = .ok (.aload_n 1, 1) := by decide +kernel
theorem dX2_readSentence_47 : decode cX2_readSentence 47 = .ok (.iload_n 3, 1) := by decide +kernel
theorem dX2_readSentence_48 : decode cX2_readSentence 48 = .ok (.invokevirtual 56, 3) := by decide +kernel
theorem dX2_readSentence_51 : decode cX2_readSentence 51 = .ok (.istore 4, 2) := by decide +kernel
theorem dX2_readSentence_53 : decode cX2_readSentence 53 = .ok (.goto 152, 3) := by decide +kernel
theorem dX2_readSentence_56 : decode cX2_readSentence 56 = .ok (.aload_n 0, 1) := by decide +kernel
theorem dX2_readSentence_57 : decode cX2_readSentence 57 = .ok (.getfield 9, 3) := by decide +kernel
theorem dX2_readSentence_60 : decode cX2_readSentence 60 = .ok (.ldc 60, 2) := by decide +kernel
theorem dX2_readSentence_62 : decode cX2_readSentence 62 = .ok (.invokevirtual 27, 3) := by decide +kernel
theorem dX2_readSentence_65 : decode cX2_readSentence 65 = .ok (.ifCond .eq 43, 3) := by decide +kernel
theorem dX2_readSentence_68 : decode cX2_readSentence 68 = .ok (.aload_n 0, 1) := by decide +kernel
theorem dX2_readSentence_69 : decode cX2_readSentence 69 = .ok (.aload_n 1, 1) := by decide +kernel
theorem dX2_readSentence_70 : decode cX2_readSentence 70 = .ok (.iload_n 3, 1) := by decide +kernel
theorem dX2_readSentence_71 : decode cX2_readSentence 71 = .ok (.invokevirtual 62, 3) := by decide +kernel
theorem dX2_readSentence_74 : decode cX2_readSentence 74 = .ok (.ifCond .eq 28, 3) := by decide +kernel
theorem dX2_readSentence_77 : decode cX2_readSentence 77 = .ok (.aload_n 0, 1) := by decide +kernel
theorem dX2_readSentence_78 : decode cX2_readSentence 78 = .ok (.getfield 9, 3) := by decide +kernel
theorem dX2_readSentence_81 : decode cX2_readSentence 81 = .ok (.ldc 65, 2) := by decide +kernel
theorem dX2_readSentence_83 : decode cX2_readSentence 83 = .ok (.invokevirtual 27, 3) := by decide +kernel
theorem dX2_readSentence_86 : decode cX2_readSentence 86 = .ok (.ifCond .eq 16, 3) := by decide +kernel
theorem dX2_readSentence_89 : decode cX2_readSentence 89 = .ok (.aload_n 0, 1) := by decide +kernel
theorem dX2_readSentence_90 : decode cX2_readSentence 90 = .ok (.aload_n 1, 1) := by decide +kernel
theorem dX2_readSentence_91 : decode cX2_readSentence 91 = .ok (.iconst 4, 1) := by decide +kernel
theorem dX2_readSentence_92 : decode cX2_readSentence 92 = .ok (.invokevirtual 67, 3) := by decide +kernel
theorem dX2_readSentence_95 : decode cX2_readSentence 95 = .ok (.ifCond .eq 7, 3) := by decide +kernel
theorem dX2_readSentence_98 : decode cX2_readSentence 98 = .ok (.iconst 1, 1) := by decide +kernel
theorem dX2_readSentence_99 : decode cX2_readSentence 99 = .ok (.goto 4, 3) := by decide +kernel
theorem dX2_readSentence_102 : decode cX2_readSentence 102 = .ok (.iconst 0, 1) := by decide +kernel
theorem dX2_readSentence_103 : decode cX2_readSentence 103 = .ok (.istore 4, 2) := by decide +kernel
theorem dX2_readSentence_105 : decode cX2_readSentence 105 = .ok (.goto 100, 3) := by decide +kernel
theorem dX2_readSentence_108 : decode cX2_readSentence 108 = .ok (.aload_n 0, 1) := by decide +kernel
theorem dX2_readSentence_109 : decode cX2_readSentence 109 = .ok (.getfield 9, 3) := by decide +kernel
theorem dX2_readSentence_112 : decode cX2_readSentence 112 = .ok (.ldc 70, 2) := by decide +kernel
theorem dX2_readSentence_114 : decode cX2_readSentence 114 = .ok (.invokevirtual 27, 3) := by decide +kernel
theorem dX2_readSentence_117 : decode cX2_readSentence 117 = .ok (.ifCond .eq 43, 3) := by decide +kernel
theorem dX2_readSentence_120 : decode cX2_readSentence 120 = .ok (.aload_n 0, 1) := by decide +kernel
theorem dX2_readSentence_121 : decode cX2_readSentence 121 = .ok (.aload_n 1, 1) := by decide +kernel
theorem dX2_readSentence_122 : decode cX2_readSentence 122 = .ok (.iconst 5, 1) := by decide +kernel
theorem dX2_readSentence_123 : decode cX2_readSentence 123 = .ok (.invokevirtual 67, 3) := by decide +kernel
theorem dX2_readSentence_126 : decode cX2_readSentence 126 = .ok (.ifCond .eq 28, 3) := by decide +kernel
theorem dX2_readSentence_129 : decode cX2_readSentence 129 = .ok (.aload_n 0, 1) := by decide +kernel
theorem dX2_readSentence_130 : decode cX2_readSentence 130 = .ok (.getfield 9, 3) := by decide +kernel
theorem dX2_readSentence_133 : decode cX2_readSentence 133 = .ok (.ldc 72, 2) := by decide +kernel
theorem dX2_readSentence_135 : decode cX2_readSentence 135 = .ok (.invokevirtual 27, 3) := by decide +kernel
theorem dX2_readSentence_138 : decode cX2_readSentence 138 = .ok (.ifCond .eq 16, 3) := by decide +kernel
theorem dX2_readSentence_141 : decode cX2_readSentence 141 = .ok (.aload_n 0, 1) := by decide +kernel
theorem dX2_readSentence_142 : decode cX2_readSentence 142 = .ok (.aload_n 1, 1) := by decide +kernel
theorem dX2_readSentence_143 : decode cX2_readSentence 143 = .ok (.iload_n 3, 1) := by decide +kernel
theorem dX2_readSentence_144 : decode cX2_readSentence 144 = .ok (.invokevirtual 62, 3) := by decide +kernel
theorem dX2_readSentence_147 : decode cX2_readSentence 147 = .ok (.ifCond .eq 7, 3) := by decide +kernel
theorem dX2_readSentence_150 : decode cX2_readSentence 150 = .ok (.iconst 1, 1) := by decide +kernel
theorem dX2_readSentence_151 : decode cX2_readSentence 151 = .ok (.goto 4, 3) := by decide +kernel
theorem dX2_readSentence_154 : decode cX2_readSentence 154 = .ok (.iconst 0, 1) := by decide +kernel
theorem dX2_readSentence_155 : decode cX2_readSentence 155 = .ok (.istore 4, 2) := by decide +kernel
theorem dX2_readSentence_157 : decode cX2_readSentence 157 = .ok (.goto 48, 3) := by decide +kernel
theorem dX2_readSentence_160 : decode cX2_readSentence 160 = .ok (.aload_n 0, 1) := by decide +kernel
theorem dX2_readSentence_161 : decode cX2_readSentence 161 = .ok (.getfield 9, 3) := by decide +kernel
theorem dX2_readSentence_164 : decode cX2_readSentence 164 = .ok (.ldc 74, 2) := by decide +kernel
theorem dX2_readSentence_166 : decode cX2_readSentence 166 = .ok (.invokevirtual 27, 3) := by decide +kernel
theorem dX2_readSentence_169 : decode cX2_readSentence 169 = .ok (.ifCond .eq 15, 3) := by decide +kernel
theorem dX2_readSentence_172 : decode cX2_readSentence 172 = .ok (.aload_n 0, 1) := by decide +kernel
theorem dX2_readSentence_173 : decode cX2_readSentence 173 = .ok (.aload_n 1, 1) := by decide +kernel
theorem dX2_readSentence_174 : decode cX2_readSentence 174 = .ok (.bipush 6, 2) := by decide +kernel
theorem dX2_readSentence_176 : decode cX2_readSentence 176 = .ok (.invokevirtual 67, 3) := by decide +kernel
theorem dX2_readSentence_179 : decode cX2_readSentence 179 = .ok (.istore 4, 2) := by decide +kernel
theorem dX2_readSentence_181 : decode cX2_readSentence 181 = .ok (.goto 24, 3) := by decide +kernel
theorem dX2_readSentence_184 : decode cX2_readSentence 184 = .ok (.aload_n 0, 1) := by decide +kernel
theorem dX2_readSentence_185 : decode cX2_readSentence 185 = .ok (.getfield 9, 3) := by decide +kernel
theorem dX2_readSentence_188 : decode cX2_readSentence 188 = .ok (.ldc 76, 2) := by decide +kernel
theorem dX2_readSentence_190 : decode cX2_readSentence 190 = .ok (.invokevirtual 27, 3) := by decide +kernel
theorem dX2_readSentence_193 : decode cX2_readSentence 193 = .ok (.ifCond .eq 12, 3) := by decide +kernel
theorem dX2_readSentence_196 : decode cX2_readSentence 196 = .ok (.aload_n 0, 1) := by decide +kernel
theorem dX2_readSentence_197 : decode cX2_readSentence 197 = .ok (.aload_n 1, 1) := by decide +kernel
theorem dX2_readSentence_198 : decode cX2_readSentence 198 = .ok (.bipush 7, 2) := by decide +kernel
theorem dX2_readSentence_200 : decode cX2_readSentence 200 = .ok (.invokevirtual 67, 3) := by decide +kernel
theorem dX2_readSentence_203 : decode cX2_readSentence 203 = .ok (.istore 4, 2) := by decide +kernel
theorem dX2_readSentence_205 : decode cX2_readSentence 205 = .ok (.iload 4, 2) := by decide +kernel
theorem dX2_readSentence_207 : decode cX2_readSentence 207 = .ok (.ifCond .eq 15, 3) := by decide +kernel
theorem dX2_readSentence_210 : decode cX2_readSentence 210 = .ok (.aload_n 0, 1) := by decide +kernel
theorem dX2_readSentence_211 : decode cX2_readSentence 211 = .ok (.getfield 9, 3) := by decide +kernel
theorem dX2_readSentence_214 : decode cX2_readSentence 214 = .ok (.ldc 78, 2) := by decide +kernel
theorem dX2_readSentence_216 : decode cX2_readSentence 216 = .ok (.invokevirtual 27, 3) := by decide +kernel
theorem dX2_readSentence_219 : decode cX2_readSentence 219 = .ok (.ifCond .ne 5, 3) := by decide +kernel
theorem dX2_readSentence_222 : decode cX2_readSentence 222 = .ok (.iconst 0, 1) := by decide +kernel
theorem dX2_readSentence_223 : decode cX2_readSentence 223 = .ok (.ireturn, 1) := by decide +kernel
theorem dX2_readSentence_224 : decode cX2_readSentence 224 = .ok (.aload_n 1, 1) := by decide +kernel
theorem dX2_readSentence_225 : decode cX2_readSentence 225 = .ok (.invokevirtual 80, 3) := by decide +kernel
theorem dX2_readSentence_228 : decode cX2_readSentence 228 = .ok (.iconst 1, 1) := by decide +kernel
theorem dX2_readSentence_229 : decode cX2_readSentence 229 = .ok (.ireturn, 1) := by decide +kernel
theorem dX2_readHas_0 : decode cX2_readHas 0 = .ok (.aload_n 0, 1) := by decide +kernel
theorem dX2_readHas_1 : decode cX2_readHas 1 = .ok (.getfield 9, 3) := by decide +kernel
theorem dX2_readHas_4 : decode cX2_readHas 4 = .ok (.invokevirtual 83, 3) := by decide +kernel
theorem dX2_readHas_7 : decode cX2_readHas 7 = .ok (.istore_n 3, 1) := by decide +kernel
theorem dX2_readHas_8 : decode cX2_readHas 8 = .ok (.iload_n 3, 1) := by decide +kernel
theorem dX2_readHas_9 : decode cX2_readHas 9 = .ok (.iconst (-1), 1) := by decide +kernel
theorem dX2_readHas_10 : decode cX2_readHas 10 = .ok (.if_icmp .ne 5, 3) := by decide +kernel
theorem dX2_readHas_13 : decode cX2_readHas 13 = .ok (.iconst 0, 1) := by decide +kernel
theorem dX2_readHas_14 : decode cX2_readHas 14 = .ok (.ireturn, 1) := by decide +kernel
theorem dX2_readHas_15 : decode cX2_readHas 15 = .ok (.aload_n 1, 1) := by decide +kernel
theorem dX2_readHas_16 : decode cX2_readHas 16 = .ok (.iconst 4, 1) := by decide +kernel
theorem dX2_readHas_17 : decode cX2_readHas 17 = .ok (.iload_n 3, 1) := by decide +kernel
theorem dX2_readHas_18 : decode cX2_readHas 18 = .ok (.invokevirtual 86, 3) := by decide +kernel
theorem dX2_readHas_21 : decode cX2_readHas 21 = .ok (.aload_n 0, 1) := by decide +kernel
theorem dX2_readHas_22 : decode cX2_readHas 22 = .ok (.getfield 9, 3) := by decide +kernel
theorem dX2_readHas_25 : decode cX2_readHas 25 = .ok (.ldc 89, 2) := by decide +kernel
theorem dX2_readHas_27 : decode cX2_readHas 27 = .ok (.invokevirtual 27, 3) := by decide +kernel
theorem dX2_readHas_30 : decode cX2_readHas 30 = .ok (.ifCond .eq 44, 3) := by decide +kernel
theorem dX2_readHas_33 : decode cX2_readHas 33 = .ok (.aload_n 1, 1) := by decide +kernel
theorem dX2_readHas_34 : decode cX2_readHas 34 = .ok (.iconst 0, 1) := by decide +kernel
theorem dX2_readHas_35 : decode cX2_readHas 35 = .ok (.iconst 1, 1) := by decide +kernel
theorem dX2_readHas_36 : decode cX2_readHas 36 = .ok (.invokevirtual 86, 3) := by decide +kernel
theorem dX2_readHas_39 : decode cX2_readHas 39 = .ok (.aload_n 0, 1) := by decide +kernel
theorem dX2_readHas_40 : decode cX2_readHas 40 = .ok (.aload_n 1, 1) := by decide +kernel
theorem dX2_readHas_41 : decode cX2_readHas 41 = .ok (.invokevirtual 91, 3) := by decide +kernel
theorem dX2_readHas_44 : decode cX2_readHas 44 = .ok (.ifCond .eq 28, 3) := by decide +kernel
theorem dX2_readHas_47 : decode cX2_readHas 47 = .ok (.aload_n 0, 1) := by decide +kernel
theorem dX2_readHas_48 : decode cX2_readHas 48 = .ok (.getfield 9, 3) := by decide +kernel
theorem dX2_readHas_51 : decode cX2_readHas 51 = .ok (.ldc 94, 2) := by decide +kernel
theorem dX2_readHas_53 : decode cX2_readHas 53 = .ok (.invokevirtual 27, 3) := by decide +kernel
theorem dX2_readHas_56 : decode cX2_readHas 56 = .ok (.ifCond .eq 16, 3) := by decide +kernel
theorem dX2_readHas_59 : decode cX2_readHas 59 = .ok (.aload_n 0, 1) := by decide +kernel
theorem dX2_readHas_60 : decode cX2_readHas 60 = .ok (.aload_n 1, 1) := by decide +kernel
theorem dX2_readHas_61 : decode cX2_readHas 61 = .ok (.iload_n 2, 1) := by decide +kernel
theorem dX2_readHas_62 : decode cX2_readHas 62 = .ok (.invokevirtual 62, 3) := by decide +kernel
theorem dX2_readHas_65 : decode cX2_readHas 65 = .ok (.ifCond .eq 7, 3) := by decide +kernel
theorem dX2_readHas_68 : decode cX2_readHas 68 = .ok (.iconst 1, 1) := by decide +kernel
theorem dX2_readHas_69 : decode cX2_readHas 69 = .ok (.goto 4, 3) := by decide +kernel
theorem dX2_readHas_72 : decode cX2_readHas 72 = .ok (.iconst 0, 1) := by decide +kernel
theorem dX2_readHas_73 : decode cX2_readHas 73 = .ok (.ireturn, 1) := by decide +kernel
theorem dX2_readHas_74 : decode cX2_readHas 74 = .ok (.aload_n 0, 1) := by decide +kernel
theorem dX2_readHas_75 : decode cX2_readHas 75 = .ok (.getfield 9, 3) := by decide +kernel
theorem dX2_readHas_78 : decode cX2_readHas 78 = .ok (.ldc 96, 2) := by decide +kernel
theorem dX2_readHas_80 : decode cX2_readHas 80 = .ok (.invokevirtual 27, 3) := by decide +kernel
theorem dX2_readHas_83 : decode cX2_readHas 83 = .ok (.ifCond .eq 44, 3) := by decide +kernel
theorem dX2_readHas_86 : decode cX2_readHas 86 = .ok (.aload_n 1, 1) := by decide +kernel
theorem dX2_readHas_87 : decode cX2_readHas 87 = .ok (.iconst 0, 1) := by decide +kernel
theorem dX2_readHas_88 : decode cX2_readHas 88 = .ok (.iconst 2, 1) := by decide +kernel
theorem dX2_readHas_89 : decode cX2_readHas 89 = .ok (.invokevirtual 86, 3) := by decide +kernel
theorem dX2_readHas_92 : decode cX2_readHas 92 = .ok (.aload_n 0, 1) := by decide +kernel
theorem dX2_readHas_93 : decode cX2_readHas 93 = .ok (.aload_n 1, 1) := by decide +kernel
theorem dX2_readHas_94 : decode cX2_readHas 94 = .ok (.invokevirtual 91, 3) := by decide +kernel
theorem dX2_readHas_97 : decode cX2_readHas 97 = .ok (.ifCond .eq 28, 3) := by decide +kernel
theorem dX2_readHas_100 : decode cX2_readHas 100 = .ok (.aload_n 0, 1) := by decide +kernel
theorem dX2_readHas_101 : decode cX2_readHas 101 = .ok (.getfield 9, 3) := by decide +kernel
theorem dX2_readHas_104 : decode cX2_readHas 104 = .ok (.ldc 94, 2) := by decide +kernel
theorem dX2_readHas_106 : decode cX2_readHas 106 = .ok (.invokevirtual 27, 3) := by decide +kernel
theorem dX2_readHas_109 : decode cX2_readHas 109 = .ok (.ifCond .eq 16, 3) := by decide +kernel
theorem dX2_readHas_112 : decode cX2_readHas 112 = .ok (.aload_n 0, 1) := by decide +kernel
theorem dX2_readHas_113 : decode cX2_readHas 113 = .ok (.aload_n 1, 1) := by decide +kernel
theorem dX2_readHas_114 : decode cX2_readHas 114 = .ok (.iload_n 2, 1) := by decide +kernel
theorem dX2_readHas_115 : decode cX2_readHas 115 = .ok (.invokevirtual 62, 3) := by decide +kernel
theorem dX2_readHas_118 : decode cX2_readHas 118 = .ok (.ifCond .eq 7, 3) := by decide +kernel
theorem dX2_readHas_121 : decode cX2_readHas 121 = .ok (.iconst 1, 1) := by decide +kernel
theorem dX2_readHas_122 : decode cX2_readHas 122 = .ok (.goto 4, 3) := by decide +kernel
theorem dX2_readHas_125 : decode cX2_readHas 125 = .ok (.iconst 0, 1) := by decide +kernel
theorem dX2_readHas_126 : decode cX2_readHas 126 = .ok (.ireturn, 1) := by decide +kernel
theorem dX2_readHas_127 : decode cX2_readHas 127 = .ok (.iload_n 3, 1) := by decide +kernel
theorem dX2_readHas_128 : decode cX2_readHas 128 = .ok (.iconst 2, 1) := by decide +kernel
theorem dX2_readHas_129 : decode cX2_readHas 129 = .ok (.if_icmp .lt 86, 3) := by decide +kernel
theorem dX2_readHas_132 : decode cX2_readHas 132 = .ok (.iload_n 3, 1) := by decide +kernel
theorem dX2_readHas_133 : decode cX2_readHas 133 = .ok (.bipush 9, 2) := by decide +kernel
theorem dX2_readHas_135 : decode cX2_readHas 135 = .ok (.if_icmp .gt 80, 3) := by decide +kernel
theorem dX2_readHas_138 : decode cX2_readHas 138 = .ok (.aload_n 0, 1) := by decide +kernel
theorem dX2_readHas_139 : decode cX2_readHas 139 = .ok (.getfield 9, 3) := by decide +kernel
theorem dX2_readHas_142 : decode cX2_readHas 142 = .ok (.ldc 98, 2) := by decide +kernel
theorem dX2_readHas_144 : decode cX2_readHas 144 = .ok (.invokevirtual 27, 3) := by decide +kernel
theorem dX2_readHas_147 : decode cX2_readHas 147 = .ok (.ifCond .eq 68, 3) := by decide +kernel
theorem dX2_readHas_150 : decode cX2_readHas 150 = .ok (.aload_n 1, 1) := by decide +kernel
theorem dX2_readHas_151 : decode cX2_readHas 151 = .ok (.iconst 0, 1) := by decide +kernel
theorem dX2_readHas_152 : decode cX2_readHas 152 = .ok (.iconst 3, 1) := by decide +kernel
theorem dX2_readHas_153 : decode cX2_readHas 153 = .ok (.invokevirtual 86, 3) := by decide +kernel
theorem dX2_readHas_156 : decode cX2_readHas 156 = .ok (.aload_n 0, 1) := by decide +kernel
theorem dX2_readHas_157 : decode cX2_readHas 157 = .ok (.getfield 9, 3) := by decide +kernel
theorem dX2_readHas_160 : decode cX2_readHas 160 = .ok (.ldc 100, 2) := by decide +kernel
theorem dX2_readHas_162 : decode cX2_readHas 162 = .ok (.invokevirtual 27, 3) := by decide +kernel
theorem dX2_readHas_165 : decode cX2_readHas 165 = .ok (.ifCond .eq 48, 3) := by decide +kernel
theorem dX2_readHas_168 : decode cX2_readHas 168 = .ok (.aload_n 0, 1) := by decide +kernel
theorem dX2_readHas_169 : decode cX2_readHas 169 = .ok (.getfield 9, 3) := by decide +kernel
theorem dX2_readHas_172 : decode cX2_readHas 172 = .ok (.ldc 102, 2) := by decide +kernel
theorem dX2_readHas_174 : decode cX2_readHas 174 = .ok (.invokevirtual 27, 3) := by decide +kernel
theorem dX2_readHas_177 : decode cX2_readHas 177 = .ok (.ifCond .eq 36, 3) := by decide +kernel
theorem dX2_readHas_180 : decode cX2_readHas 180 = .ok (.aload_n 0, 1) := by decide +kernel
theorem dX2_readHas_181 : decode cX2_readHas 181 = .ok (.aload_n 1, 1) := by decide +kernel
theorem dX2_readHas_182 : decode cX2_readHas 182 = .ok (.invokevirtual 91, 3) := by decide +kernel
theorem dX2_readHas_185 : decode cX2_readHas 185 = .ok (.ifCond .eq 28, 3) := by decide +kernel
theorem dX2_readHas_188 : decode cX2_readHas 188 = .ok (.aload_n 0, 1) := by decide +kernel
theorem dX2_readHas_189 : decode cX2_readHas 189 = .ok (.getfield 9, 3) := by decide +kernel
theorem dX2_readHas_192 : decode cX2_readHas 192 = .ok (.ldc 100, 2) := by decide +kernel
theorem dX2_readHas_194 : decode cX2_readHas 194 = .ok (.invokevirtual 27, 3) := by decide +kernel
theorem dX2_readHas_197 : decode cX2_readHas 197 = .ok (.ifCond .eq 16, 3) := by decide +kernel
theorem dX2_readHas_200 : decode cX2_readHas 200 = .ok (.aload_n 0, 1) := by decide +kernel
theorem dX2_readHas_201 : decode cX2_readHas 201 = .ok (.aload_n 1, 1) := by decide +kernel
theorem dX2_readHas_202 : decode cX2_readHas 202 = .ok (.iload_n 2, 1) := by decide +kernel
theorem dX2_readHas_203 : decode cX2_readHas 203 = .ok (.invokevirtual 62, 3) := by decide +kernel
theorem dX2_readHas_206 : decode cX2_readHas 206 = .ok (.ifCond .eq 7, 3) := by decide +kernel
theorem dX2_readHas_209 : decode cX2_readHas 209 = .ok (.iconst 1, 1) := by decide +kernel
theorem dX2_readHas_210 : decode cX2_readHas 210 = .ok (.goto 4, 3) := by decide +kernel
theorem dX2_readHas_213 : decode cX2_readHas 213 = .ok (.iconst 0, 1) := by decide +kernel
theorem dX2_readHas_214 : decode cX2_readHas 214 = .ok (.ireturn, 1) := by decide +kernel
theorem dX2_readHas_215 : decode cX2_readHas 215 = .ok (.aload_n 1, 1) := by decide +kernel
theorem dX2_readHas_216 : decode cX2_readHas 216 = .ok (.iconst 0, 1) := by decide +kernel
theorem dX2_readHas_217 : decode cX2_readHas 217 = .ok (.iconst 0, 1) := by decide +kernel
theorem dX2_readHas_218 : decode cX2_readHas 218 = .ok (.invokevirtual 86, 3) := by decide +kernel
theorem dX2_readHas_221 : decode cX2_readHas 221 = .ok (.aload_n 0, 1) := by decide +kernel
theorem dX2_readHas_222 : decode cX2_readHas 222 = .ok (.aload_n 1, 1) := by decide +kernel
theorem dX2_readHas_223 : decode cX2_readHas 223 = .ok (.invokevirtual 91, 3) := by decide +kernel
theorem dX2_readHas_226 : decode cX2_readHas 226 = .ok (.ireturn, 1) := by decide +kernel
theorem dX2_readPlain_0 : decode cX2_readPlain 0 = .ok (.aload_n 0, 1) := by decide +kernel
theorem dX2_readPlain_1 : decode cX2_readPlain 1 = .ok (.getfield 9, 3) := by decide +kernel
theorem dX2_readPlain_4 : decode cX2_readPlain 4 = .ok (.invokevirtual 83, 3) := by decide +kernel
theorem dX2_readPlain_7 : decode cX2_readPlain 7 = .ok (.istore_n 3, 1) := by decide +kernel
theorem dX2_readPlain_8 : decode cX2_readPlain 8 = .ok (.iload_n 3, 1) := by decide +kernel
theorem dX2_readPlain_9 : decode cX2_readPlain 9 = .ok (.iconst (-1), 1) := by decide +kernel
theorem dX2_readPlain_10 : decode cX2_readPlain 10 = .ok (.if_icmp .ne 5, 3) := by decide +kernel
theorem dX2_readPlain_13 : decode cX2_readPlain 13 = .ok (.iconst 0, 1) := by decide +kernel
theorem dX2_readPlain_14 : decode cX2_readPlain 14 = .ok (.ireturn, 1) := by decide +kernel
theorem dX2_readPlain_15 : decode cX2_readPlain 15 = .ok (.aload_n 1, 1) := by decide +kernel
theorem dX2_readPlain_16 : decode cX2_readPlain 16 = .ok (.iconst 0, 1) := by decide +kernel
theorem dX2_readPlain_17 : decode cX2_readPlain 17 = .ok (.iload_n 2, 1) := by decide +kernel
theorem dX2_readPlain_18 : decode cX2_readPlain 18 = .ok (.invokevirtual 86, 3) := by decide +kernel
theorem dX2_readPlain_21 : decode cX2_readPlain 21 = .ok (.aload_n 1, 1) := by decide +kernel
theorem dX2_readPlain_22 : decode cX2_readPlain 22 = .ok (.iconst 4, 1) := by decide +kernel
theorem dX2_readPlain_23 : decode cX2_readPlain 23 = .ok (.iload_n 3, 1) := by decide +kernel
theorem dX2_readPlain_24 : decode cX2_readPlain 24 = .ok (.invokevirtual 86, 3) := by decide +kernel
theorem dX2_readPlain_27 : decode cX2_readPlain 27 = .ok (.aload_n 0, 1) := by decide +kernel
theorem dX2_readPlain_28 : decode cX2_readPlain 28 = .ok (.aload_n 1, 1) := by decide +kernel
theorem dX2_readPlain_29 : decode cX2_readPlain 29 = .ok (.invokevirtual 91, 3) := by decide +kernel
theorem dX2_readPlain_32 : decode cX2_readPlain 32 = .ok (.ireturn, 1) := by decide +kernel
theorem dX2_readUnit_0 : decode cX2_readUnit 0 = .ok (.aload_n 0, 1) := by decide +kernel
theorem dX2_readUnit_1 : decode cX2_readUnit 1 = .ok (.getfield 9, 3) := by decide +kernel
theorem dX2_readUnit_4 : decode cX2_readUnit 4 = .ok (.invokevirtual 104, 3) := by decide +kernel
theorem dX2_readUnit_7 : decode cX2_readUnit 7 = .ok (.istore_n 2, 1) := by decide +kernel
theorem dX2_readUnit_8 : decode cX2_readUnit 8 = .ok (.aload_n 1, 1) := by decide +kernel
theorem dX2_readUnit_9 : decode cX2_readUnit 9 = .ok (.iconst 3, 1) := by decide +kernel
theorem dX2_readUnit_10 : decode cX2_readUnit 10 = .ok (.iload_n 2, 1) := by decide +kernel
theorem dX2_readUnit_11 : decode cX2_readUnit 11 = .ok (.invokevirtual 86, 3) := by decide +kernel
theorem dX2_readUnit_14 : decode cX2_readUnit 14 = .ok (.iload_n 2, 1) := by decide +kernel
theorem dX2_readUnit_15 : decode cX2_readUnit 15 = .ok (.iconst (-1), 1) := by decide +kernel
theorem dX2_readUnit_16 : decode cX2_readUnit 16 = .ok (.if_icmp .eq 7, 3) := by decide +kernel
theorem dX2_readUnit_19 : decode cX2_readUnit 19 = .ok (.iconst 1, 1) := by decide +kernel
theorem dX2_readUnit_20 : decode cX2_readUnit 20 = .ok (.goto 4, 3) := by decide +kernel
theorem dX2_readUnit_23 : decode cX2_readUnit 23 = .ok (.iconst 0, 1) := by decide +kernel
theorem dX2_readUnit_24 : decode cX2_readUnit 24 = .ok (.ireturn, 1) := by decide +kernel
theorem dX2_readSecond_0 : decode cX2_readSecond 0 = .ok (.aload_n 0, 1) := by decide +kernel
theorem dX2_readSecond_1 : decode cX2_readSecond 1 = .ok (.getfield 9, 3) := by decide +kernel
theorem dX2_readSecond_4 : decode cX2_readSecond 4 = .ok (.iload_n 2, 1) := by decide +kernel
theorem dX2_readSecond_5 : decode cX2_readSecond 5 = .ok (.invokevirtual 46, 3) := by decide +kernel
theorem dX2_readSecond_8 : decode cX2_readSecond 8 = .ok (.istore_n 3, 1) := by decide +kernel
theorem dX2_readSecond_9 : decode cX2_readSecond 9 = .ok (.aload_n 1, 1) := by decide +kernel
theorem dX2_readSecond_10 : decode cX2_readSecond 10 = .ok (.iconst 2, 1) := by decide +kernel
theorem dX2_readSecond_11 : decode cX2_readSecond 11 = .ok (.iload_n 3, 1) := by decide +kernel
theorem dX2_readSecond_12 : decode cX2_readSecond 12 = .ok (.invokevirtual 86, 3) := by decide +kernel
theorem dX2_readSecond_15 : decode cX2_readSecond 15 = .ok (.iload_n 3, 1) := by decide +kernel
theorem dX2_readSecond_16 : decode cX2_readSecond 16 = .ok (.iconst (-1), 1) := by decide +kernel
theorem dX2_readSecond_17 : decode cX2_readSecond 17 = .ok (.if_icmp .eq 7, 3) := by decide +kernel
theorem dX2_readSecond_20 : decode cX2_readSecond 20 = .ok (.iconst 1, 1) := by decide +kernel
theorem dX2_readSecond_21 : decode cX2_readSecond 21 = .ok (.goto 4, 3) := by decide +kernel
theorem dX2_readSecond_24 : decode cX2_readSecond 24 = .ok (.iconst 0, 1) := by decide +kernel
theorem dX2_readSecond_25 : decode cX2_readSecond 25 = .ok (.ireturn, 1) := by decide +kernel
theorem dX2_readQuestion_0 : decode cX2_readQuestion 0 = .ok (.aload_n 0, 1) := by decide +kernel
theorem dX2_readQuestion_1 : decode cX2_readQuestion 1 = .ok (.getfield 9, 3) := by decide +kernel
theorem dX2_readQuestion_4 : decode cX2_readQuestion 4 = .ok (.ldc 102, 2) := by decide +kernel
theorem dX2_readQuestion_6 : decode cX2_readQuestion 6 = .ok (.invokevirtual 27, 3) := by decide +kernel
theorem dX2_readQuestion_9 : decode cX2_readQuestion 9 = .ok (.ifCond .eq 13, 3) := by decide +kernel
theorem dX2_readQuestion_12 : decode cX2_readQuestion 12 = .ok (.aload_n 0, 1) := by decide +kernel
theorem dX2_readQuestion_13 : decode cX2_readQuestion 13 = .ok (.getfield 9, 3) := by decide +kernel
theorem dX2_readQuestion_16 : decode cX2_readQuestion 16 = .ok (.invokevirtual 104, 3) := by decide +kernel
theorem dX2_readQuestion_19 : decode cX2_readQuestion 19 = .ok (.goto 4, 3) := by decide +kernel
theorem dX2_readQuestion_22 : decode cX2_readQuestion 22 = .ok (.iconst (-1), 1) := by decide +kernel
theorem dX2_readQuestion_23 : decode cX2_readQuestion 23 = .ok (.istore_n 2, 1) := by decide +kernel
theorem dX2_readQuestion_24 : decode cX2_readQuestion 24 = .ok (.iload_n 2, 1) := by decide +kernel
theorem dX2_readQuestion_25 : decode cX2_readQuestion 25 = .ok (.iconst (-1), 1) := by decide +kernel
theorem dX2_readQuestion_26 : decode cX2_readQuestion 26 = .ok (.if_icmp .ne 7, 3) := by decide +kernel
theorem dX2_readQuestion_29 : decode cX2_readQuestion 29 = .ok (.iconst (-1), 1) := by decide +kernel
theorem dX2_readQuestion_30 : decode cX2_readQuestion 30 = .ok (.goto 7, 3) := by decide +kernel
theorem dX2_readQuestion_33 : decode cX2_readQuestion 33 = .ok (.aload_n 0, 1) := by decide +kernel
theorem dX2_readQuestion_34 : decode cX2_readQuestion 34 = .ok (.invokevirtual 107, 3) := by decide +kernel
theorem dX2_readQuestion_37 : decode cX2_readQuestion 37 = .ok (.istore_n 3, 1) := by decide +kernel
theorem dX2_readQuestion_38 : decode cX2_readQuestion 38 = .ok (.iload_n 3, 1) := by decide +kernel
theorem dX2_readQuestion_39 : decode cX2_readQuestion 39 = .ok (.iconst (-1), 1) := by decide +kernel
theorem dX2_readQuestion_40 : decode cX2_readQuestion 40 = .ok (.if_icmp .ne 7, 3) := by decide +kernel
theorem dX2_readQuestion_43 : decode cX2_readQuestion 43 = .ok (.iconst (-1), 1) := by decide +kernel
theorem dX2_readQuestion_44 : decode cX2_readQuestion 44 = .ok (.goto 11, 3) := by decide +kernel
theorem dX2_readQuestion_47 : decode cX2_readQuestion 47 = .ok (.aload_n 0, 1) := by decide +kernel
theorem dX2_readQuestion_48 : decode cX2_readQuestion 48 = .ok (.getfield 9, 3) := by decide +kernel
theorem dX2_readQuestion_51 : decode cX2_readQuestion 51 = .ok (.iconst (-1), 1) := by decide +kernel
theorem dX2_readQuestion_52 : decode cX2_readQuestion 52 = .ok (.invokevirtual 46, 3) := by decide +kernel
theorem dX2_readQuestion_55 : decode cX2_readQuestion 55 = .ok (.istore 4, 2) := by decide +kernel
theorem dX2_readQuestion_57 : decode cX2_readQuestion 57 = .ok (.iload 4, 2) := by decide +kernel
theorem dX2_readQuestion_59 : decode cX2_readQuestion 59 = .ok (.iconst (-1), 1) := by decide +kernel
theorem dX2_readQuestion_60 : decode cX2_readQuestion 60 = .ok (.if_icmp .ne 5, 3) := by decide +kernel
theorem dX2_readQuestion_63 : decode cX2_readQuestion 63 = .ok (.iconst 0, 1) := by decide +kernel
theorem dX2_readQuestion_64 : decode cX2_readQuestion 64 = .ok (.ireturn, 1) := by decide +kernel
theorem dX2_readQuestion_65 : decode cX2_readQuestion 65 = .ok (.iconst (-1), 1) := by decide +kernel
theorem dX2_readQuestion_66 : decode cX2_readQuestion 66 = .ok (.istore 5, 2) := by decide +kernel
theorem dX2_readQuestion_68 : decode cX2_readQuestion 68 = .ok (.iload_n 3, 1) := by decide +kernel
theorem dX2_readQuestion_69 : decode cX2_readQuestion 69 = .ok (.iconst 1, 1) := by decide +kernel
theorem dX2_readQuestion_70 : decode cX2_readQuestion 70 = .ok (.if_icmp .ne 38, 3) := by decide +kernel
theorem dX2_readQuestion_73 : decode cX2_readQuestion 73 = .ok (.aload_n 0, 1) := by decide +kernel
theorem dX2_readQuestion_74 : decode cX2_readQuestion 74 = .ok (.getfield 9, 3) := by decide +kernel
theorem dX2_readQuestion_77 : decode cX2_readQuestion 77 = .ok (.ldc 60, 2) := by decide +kernel
theorem dX2_readQuestion_79 : decode cX2_readQuestion 79 = .ok (.invokevirtual 27, 3) := by decide +kernel
theorem dX2_readQuestion_82 : decode cX2_readQuestion 82 = .ok (.ifCond .eq 15, 3) := by decide +kernel
theorem dX2_readQuestion_85 : decode cX2_readQuestion 85 = .ok (.aload_n 0, 1) := by decide +kernel
theorem dX2_readQuestion_86 : decode cX2_readQuestion 86 = .ok (.getfield 9, 3) := by decide +kernel
theorem dX2_readQuestion_89 : decode cX2_readQuestion 89 = .ok (.iload 4, 2) := by decide +kernel
theorem dX2_readQuestion_91 : decode cX2_readQuestion 91 = .ok (.invokevirtual 46, 3) := by decide +kernel
theorem dX2_readQuestion_94 : decode cX2_readQuestion 94 = .ok (.goto 4, 3) := by decide +kernel
theorem dX2_readQuestion_97 : decode cX2_readQuestion 97 = .ok (.iconst (-1), 1) := by decide +kernel
theorem dX2_readQuestion_98 : decode cX2_readQuestion 98 = .ok (.istore 5, 2) := by decide +kernel
theorem dX2_readQuestion_100 : decode cX2_readQuestion 100 = .ok (.iload 5, 2) := by decide +kernel
theorem dX2_readQuestion_102 : decode cX2_readQuestion 102 = .ok (.iconst (-1), 1) := by decide +kernel
theorem dX2_readQuestion_103 : decode cX2_readQuestion 103 = .ok (.if_icmp .ne 5, 3) := by decide +kernel
theorem dX2_readQuestion_106 : decode cX2_readQuestion 106 = .ok (.iconst 0, 1) := by decide +kernel
theorem dX2_readQuestion_107 : decode cX2_readQuestion 107 = .ok (.ireturn, 1) := by decide +kernel
theorem dX2_readQuestion_108 : decode cX2_readQuestion 108 = .ok (.aload_n 0, 1) := by decide +kernel
theorem dX2_readQuestion_109 : decode cX2_readQuestion 109 = .ok (.getfield 9, 3) := by decide +kernel
theorem dX2_readQuestion_112 : decode cX2_readQuestion 112 = .ok (.ldc 110, 2) := by decide +kernel
theorem dX2_readQuestion_114 : decode cX2_readQuestion 114 = .ok (.invokevirtual 27, 3) := by decide +kernel
theorem dX2_readQuestion_117 : decode cX2_readQuestion 117 = .ok (.ifCond .ne 5, 3) := by decide +kernel
theorem dX2_readQuestion_120 : decode cX2_readQuestion 120 = .ok (.iconst 0, 1) := by decide +kernel
theorem dX2_readQuestion_121 : decode cX2_readQuestion 121 = .ok (.ireturn, 1) := by decide +kernel
theorem dX2_readQuestion_122 : decode cX2_readQuestion 122 = .ok (.aload_n 1, 1) := by decide +kernel
theorem dX2_readQuestion_123 : decode cX2_readQuestion 123 = .ok (.iload_n 3, 1) := by decide +kernel
theorem dX2_readQuestion_124 : decode cX2_readQuestion 124 = .ok (.iload 4, 2) := by decide +kernel
theorem dX2_readQuestion_126 : decode cX2_readQuestion 126 = .ok (.iload 5, 2) := by decide +kernel
theorem dX2_readQuestion_128 : decode cX2_readQuestion 128 = .ok (.iload_n 2, 1) := by decide +kernel
theorem dX2_readQuestion_129 : decode cX2_readQuestion 129 = .ok (.invokevirtual 112, 3) := by decide +kernel
theorem dX2_readQuestion_132 : decode cX2_readQuestion 132 = .ok (.iconst 1, 1) := by decide +kernel
theorem dX2_readQuestion_133 : decode cX2_readQuestion 133 = .ok (.ireturn, 1) := by decide +kernel
theorem dX2_takeAskedSort_0 : decode cX2_takeAskedSort 0 = .ok (.aload_n 0, 1) := by decide +kernel
theorem dX2_takeAskedSort_1 : decode cX2_takeAskedSort 1 = .ok (.getfield 9, 3) := by decide +kernel
theorem dX2_takeAskedSort_4 : decode cX2_takeAskedSort 4 = .ok (.ldc 54, 2) := by decide +kernel
theorem dX2_takeAskedSort_6 : decode cX2_takeAskedSort 6 = .ok (.invokevirtual 27, 3) := by decide +kernel
theorem dX2_takeAskedSort_9 : decode cX2_takeAskedSort 9 = .ok (.ifCond .eq 5, 3) := by decide +kernel
theorem dX2_takeAskedSort_12 : decode cX2_takeAskedSort 12 = .ok (.iconst 0, 1) := by decide +kernel
theorem dX2_takeAskedSort_13 : decode cX2_takeAskedSort 13 = .ok (.ireturn, 1) := by decide +kernel
theorem dX2_takeAskedSort_14 : decode cX2_takeAskedSort 14 = .ok (.aload_n 0, 1) := by decide +kernel
theorem dX2_takeAskedSort_15 : decode cX2_takeAskedSort 15 = .ok (.getfield 9, 3) := by decide +kernel
theorem dX2_takeAskedSort_18 : decode cX2_takeAskedSort 18 = .ok (.ldc 65, 2) := by decide +kernel
theorem dX2_takeAskedSort_20 : decode cX2_takeAskedSort 20 = .ok (.invokevirtual 27, 3) := by decide +kernel
theorem dX2_takeAskedSort_23 : decode cX2_takeAskedSort 23 = .ok (.ifCond .eq 5, 3) := by decide +kernel
theorem dX2_takeAskedSort_26 : decode cX2_takeAskedSort 26 = .ok (.iconst 1, 1) := by decide +kernel
theorem dX2_takeAskedSort_27 : decode cX2_takeAskedSort 27 = .ok (.ireturn, 1) := by decide +kernel
theorem dX2_takeAskedSort_28 : decode cX2_takeAskedSort 28 = .ok (.aload_n 0, 1) := by decide +kernel
theorem dX2_takeAskedSort_29 : decode cX2_takeAskedSort 29 = .ok (.getfield 9, 3) := by decide +kernel
theorem dX2_takeAskedSort_32 : decode cX2_takeAskedSort 32 = .ok (.ldc 116, 2) := by decide +kernel
theorem dX2_takeAskedSort_34 : decode cX2_takeAskedSort 34 = .ok (.invokevirtual 27, 3) := by decide +kernel
theorem dX2_takeAskedSort_37 : decode cX2_takeAskedSort 37 = .ok (.ifCond .eq 7, 3) := by decide +kernel
theorem dX2_takeAskedSort_40 : decode cX2_takeAskedSort 40 = .ok (.iconst 2, 1) := by decide +kernel
theorem dX2_takeAskedSort_41 : decode cX2_takeAskedSort 41 = .ok (.goto 4, 3) := by decide +kernel
theorem dX2_takeAskedSort_44 : decode cX2_takeAskedSort 44 = .ok (.iconst (-1), 1) := by decide +kernel
theorem dX2_takeAskedSort_45 : decode cX2_takeAskedSort 45 = .ok (.ireturn, 1) := by decide +kernel
