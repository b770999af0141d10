theorem dX7_adds_212 : decode cX7_adds 212 = .ok (.aload_n 0, 1) := by decide +kernel
theorem dX7_adds_213 : decode cX7_adds 213 = .ok (.getfield 32, 3) := by decide +kernel
theorem dX7_adds_216 : decode cX7_adds 216 = .ok (.bipush 9, 2) := by decide +kernel
theorem dX7_adds_218 : decode cX7_adds 218 = .ok (.aload_n 0, 1) := by decide +kernel
theorem dX7_adds_219 : decode cX7_adds 219 = .ok (.getfield 228, 3) := by decide +kernel
theorem dX7_adds_222 : decode cX7_adds 222 = .ok (.imul, 1) := by decide +kernel
theorem dX7_adds_223 : decode cX7_adds 223 = .ok (.iload_n 2, 1) := by decide +kernel
theorem dX7_adds_224 : decode cX7_adds 224 = .ok (.iadd, 1) := by decide +kernel
theorem dX7_adds_225 : decode cX7_adds 225 = .ok (.aload_n 0, 1) := by decide +kernel
theorem dX7_adds_226 : decode cX7_adds 226 = .ok (.getfield 36, 3) := by decide +kernel
theorem dX7_adds_229 : decode cX7_adds 229 = .ok (.iload_n 2, 1) := by decide +kernel
theorem dX7_adds_230 : decode cX7_adds 230 = .ok (.laload, 1) := by decide +kernel
theorem dX7_adds_231 : decode cX7_adds 231 = .ok (.lastore, 1) := by decide +kernel
theorem dX7_adds_232 : decode cX7_adds 232 = .ok (.iinc 2 1, 3) := by decide +kernel
theorem dX7_adds_235 : decode cX7_adds 235 = .ok (.goto (-29), 3) := by decide +kernel
theorem dX7_adds_238 : decode cX7_adds 238 = .ok (.aload_n 0, 1) := by decide +kernel
theorem dX7_adds_239 : decode cX7_adds 239 = .ok (.getfield 39, 3) := by decide +kernel
theorem dX7_adds_242 : decode cX7_adds 242 = .ok (.aload_n 0, 1) := by decide +kernel
theorem dX7_adds_243 : decode cX7_adds 243 = .ok (.getfield 228, 3) := by decide +kernel
theorem dX7_adds_246 : decode cX7_adds 246 = .ok (.iload_n 1, 1) := by decide +kernel
theorem dX7_adds_247 : decode cX7_adds 247 = .ok (.iastore, 1) := by decide +kernel
theorem dX7_adds_248 : decode cX7_adds 248 = .ok (.aload_n 0, 1) := by decide +kernel
theorem dX7_adds_249 : decode cX7_adds 249 = .ok (.dup, 1) := by decide +kernel
theorem dX7_adds_250 : decode cX7_adds 250 = .ok (.getfield 228, 3) := by decide +kernel
theorem dX7_adds_253 : decode cX7_adds 253 = .ok (.iconst 1, 1) := by decide +kernel
theorem dX7_adds_254 : decode cX7_adds 254 = .ok (.iadd, 1) := by decide +kernel
theorem dX7_adds_255 : decode cX7_adds 255 = .ok (.putfield 228, 3) := by decide +kernel
theorem dX7_adds_258 : decode cX7_adds 258 = .ok (.iconst 1, 1) := by decide +kernel
theorem dX7_adds_259 : decode cX7_adds 259 = .ok (.ireturn, 1) := by decide +kernel
theorem dX7_isFact_0 : decode cX7_isFact 0 = .ok (.aload_n 0, 1) := by decide +kernel
theorem dX7_isFact_1 : decode cX7_isFact 1 = .ok (.iload_n 1, 1) := by decide +kernel
theorem dX7_isFact_2 : decode cX7_isFact 2 = .ok (.iconst 0, 1) := by decide +kernel
theorem dX7_isFact_3 : decode cX7_isFact 3 = .ok (.invokevirtual 214, 3) := by decide +kernel
theorem dX7_isFact_6 : decode cX7_isFact 6 = .ok (.iconst 5, 1) := by decide +kernel
theorem dX7_isFact_7 : decode cX7_isFact 7 = .ok (.if_icmp .ge 7, 3) := by decide +kernel
theorem dX7_isFact_10 : decode cX7_isFact 10 = .ok (.iconst 1, 1) := by decide +kernel
theorem dX7_isFact_11 : decode cX7_isFact 11 = .ok (.goto 4, 3) := by decide +kernel
theorem dX7_isFact_14 : decode cX7_isFact 14 = .ok (.iconst 0, 1) := by decide +kernel
theorem dX7_isFact_15 : decode cX7_isFact 15 = .ok (.ireturn, 1) := by decide +kernel
theorem dX7_gather_0 : decode cX7_gather 0 = .ok (.aload_n 0, 1) := by decide +kernel
theorem dX7_gather_1 : decode cX7_gather 1 = .ok (.iconst 0, 1) := by decide +kernel
theorem dX7_gather_2 : decode cX7_gather 2 = .ok (.putfield 228, 3) := by decide +kernel
theorem dX7_gather_5 : decode cX7_gather 5 = .ok (.iconst 1, 1) := by decide +kernel
theorem dX7_gather_6 : decode cX7_gather 6 = .ok (.istore_n 3, 1) := by decide +kernel
theorem dX7_gather_7 : decode cX7_gather 7 = .ok (.iconst 0, 1) := by decide +kernel
theorem dX7_gather_8 : decode cX7_gather 8 = .ok (.istore 4, 2) := by decide +kernel
theorem dX7_gather_10 : decode cX7_gather 10 = .ok (.iload 4, 2) := by decide +kernel
theorem dX7_gather_12 : decode cX7_gather 12 = .ok (.aload_n 0, 1) := by decide +kernel
theorem dX7_gather_13 : decode cX7_gather 13 = .ok (.getfield 205, 3) := by decide +kernel
theorem dX7_gather_16 : decode cX7_gather 16 = .ok (.if_icmp .ge 56, 3) := by decide +kernel
theorem dX7_gather_19 : decode cX7_gather 19 = .ok (.iload_n 3, 1) := by decide +kernel
theorem dX7_gather_20 : decode cX7_gather 20 = .ok (.ifCond .eq 52, 3) := by decide +kernel
theorem dX7_gather_23 : decode cX7_gather 23 = .ok (.iload_n 2, 1) := by decide +kernel
theorem dX7_gather_24 : decode cX7_gather 24 = .ok (.iload 4, 2) := by decide +kernel
theorem dX7_gather_26 : decode cX7_gather 26 = .ok (.ishr, 1) := by decide +kernel
theorem dX7_gather_27 : decode cX7_gather 27 = .ok (.iconst 1, 1) := by decide +kernel
theorem dX7_gather_28 : decode cX7_gather 28 = .ok (.iand, 1) := by decide +kernel
theorem dX7_gather_29 : decode cX7_gather 29 = .ok (.ifCond .eq 37, 3) := by decide +kernel
theorem dX7_gather_32 : decode cX7_gather 32 = .ok (.aload_n 0, 1) := by decide +kernel
theorem dX7_gather_33 : decode cX7_gather 33 = .ok (.iload 4, 2) := by decide +kernel
theorem dX7_gather_35 : decode cX7_gather 35 = .ok (.invokevirtual 235, 3) := by decide +kernel
theorem dX7_gather_38 : decode cX7_gather 38 = .ok (.ifCond .eq 28, 3) := by decide +kernel
theorem dX7_gather_41 : decode cX7_gather 41 = .ok (.aload_n 0, 1) := by decide +kernel
theorem dX7_gather_42 : decode cX7_gather 42 = .ok (.iload 4, 2) := by decide +kernel
theorem dX7_gather_44 : decode cX7_gather 44 = .ok (.iconst 3, 1) := by decide +kernel
theorem dX7_gather_45 : decode cX7_gather 45 = .ok (.invokevirtual 214, 3) := by decide +kernel
theorem dX7_gather_48 : decode cX7_gather 48 = .ok (.iload_n 1, 1) := by decide +kernel
theorem dX7_gather_49 : decode cX7_gather 49 = .ok (.if_icmp .eq 6, 3) := by decide +kernel
theorem dX7_gather_52 : decode cX7_gather 52 = .ok (.goto 14, 3) := by decide +kernel
theorem dX7_gather_55 : decode cX7_gather 55 = .ok (.aload_n 0, 1) := by decide +kernel
theorem dX7_gather_56 : decode cX7_gather 56 = .ok (.iload 4, 2) := by decide +kernel
theorem dX7_gather_58 : decode cX7_gather 58 = .ok (.invokevirtual 238, 3) := by decide +kernel
theorem dX7_gather_61 : decode cX7_gather 61 = .ok (.aload_n 0, 1) := by decide +kernel
theorem dX7_gather_62 : decode cX7_gather 62 = .ok (.invokevirtual 241, 3) := by decide +kernel
theorem dX7_gather_65 : decode cX7_gather 65 = .ok (.istore_n 3, 1) := by decide +kernel
theorem dX7_gather_66 : decode cX7_gather 66 = .ok (.iinc 4 1, 3) := by decide +kernel
theorem dX7_gather_69 : decode cX7_gather 69 = .ok (.goto (-59), 3) := by decide +kernel
theorem dX7_gather_72 : decode cX7_gather 72 = .ok (.iload_n 3, 1) := by decide +kernel
theorem dX7_gather_73 : decode cX7_gather 73 = .ok (.ireturn, 1) := by decide +kernel
theorem dX7_settles_0 : decode cX7_settles 0 = .ok (.iconst 0, 1) := by decide +kernel
theorem dX7_settles_1 : decode cX7_settles 1 = .ok (.istore_n 3, 1) := by decide +kernel
theorem dX7_settles_2 : decode cX7_settles 2 = .ok (.iload_n 3, 1) := by decide +kernel
theorem dX7_settles_3 : decode cX7_settles 3 = .ok (.bipush 9, 2) := by decide +kernel
theorem dX7_settles_5 : decode cX7_settles 5 = .ok (.if_icmp .ge 16, 3) := by decide +kernel
theorem dX7_settles_8 : decode cX7_settles 8 = .ok (.aload_n 0, 1) := by decide +kernel
theorem dX7_settles_9 : decode cX7_settles 9 = .ok (.getfield 36, 3) := by decide +kernel
theorem dX7_settles_12 : decode cX7_settles 12 = .ok (.iload_n 3, 1) := by decide +kernel
theorem dX7_settles_13 : decode cX7_settles 13 = .ok (.lconst 0, 1) := by decide +kernel
theorem dX7_settles_14 : decode cX7_settles 14 = .ok (.lastore, 1) := by decide +kernel
theorem dX7_settles_15 : decode cX7_settles 15 = .ok (.iinc 3 1, 3) := by decide +kernel
theorem dX7_settles_18 : decode cX7_settles 18 = .ok (.goto (-16), 3) := by decide +kernel
theorem dX7_settles_21 : decode cX7_settles 21 = .ok (.aload_n 0, 1) := by decide +kernel
theorem dX7_settles_22 : decode cX7_settles 22 = .ok (.getfield 36, 3) := by decide +kernel
theorem dX7_settles_25 : decode cX7_settles 25 = .ok (.iload_n 1, 1) := by decide +kernel
theorem dX7_settles_26 : decode cX7_settles 26 = .ok (.lconst 1, 1) := by decide +kernel
theorem dX7_settles_27 : decode cX7_settles 27 = .ok (.lastore, 1) := by decide +kernel
theorem dX7_settles_28 : decode cX7_settles 28 = .ok (.iload_n 2, 1) := by decide +kernel
theorem dX7_settles_29 : decode cX7_settles 29 = .ok (.iconst (-1), 1) := by decide +kernel
theorem dX7_settles_30 : decode cX7_settles 30 = .ok (.if_icmp .eq 10, 3) := by decide +kernel
theorem dX7_settles_33 : decode cX7_settles 33 = .ok (.aload_n 0, 1) := by decide +kernel
theorem dX7_settles_34 : decode cX7_settles 34 = .ok (.getfield 36, 3) := by decide +kernel
theorem dX7_settles_37 : decode cX7_settles 37 = .ok (.iload_n 2, 1) := by decide +kernel
theorem dX7_settles_38 : decode cX7_settles 38 = .ok (.lconst 1, 1) := by decide +kernel
theorem dX7_settles_39 : decode cX7_settles 39 = .ok (.lastore, 1) := by decide +kernel
theorem dX7_settles_40 : decode cX7_settles 40 = .ok (.aload_n 0, 1) := by decide +kernel
theorem dX7_settles_41 : decode cX7_settles 41 = .ok (.lconst 0, 1) := by decide +kernel
theorem dX7_settles_42 : decode cX7_settles 42 = .ok (.putfield 244, 3) := by decide +kernel
theorem dX7_settles_45 : decode cX7_settles 45 = .ok (.aload_n 0, 1) := by decide +kernel
theorem dX7_settles_46 : decode cX7_settles 46 = .ok (.lconst 1, 1) := by decide +kernel
theorem dX7_settles_47 : decode cX7_settles 47 = .ok (.putfield 248, 3) := by decide +kernel
theorem dX7_settles_50 : decode cX7_settles 50 = .ok (.iconst 0, 1) := by decide +kernel
theorem dX7_settles_51 : decode cX7_settles 51 = .ok (.istore_n 3, 1) := by decide +kernel
theorem dX7_settles_52 : decode cX7_settles 52 = .ok (.iload_n 3, 1) := by decide +kernel
theorem dX7_settles_53 : decode cX7_settles 53 = .ok (.aload_n 0, 1) := by decide +kernel
theorem dX7_settles_54 : decode cX7_settles 54 = .ok (.getfield 228, 3) := by decide +kernel
theorem dX7_settles_57 : decode cX7_settles 57 = .ok (.if_icmp .ge 214, 3) := by decide +kernel
theorem dX7_settles_60 : decode cX7_settles 60 = .ok (.aload_n 0, 1) := by decide +kernel
theorem dX7_settles_61 : decode cX7_settles 61 = .ok (.getfield 36, 3) := by decide +kernel
theorem dX7_settles_64 : decode cX7_settles 64 = .ok (.aload_n 0, 1) := by decide +kernel
theorem dX7_settles_65 : decode cX7_settles 65 = .ok (.getfield 39, 3) := by decide +kernel
theorem dX7_settles_68 : decode cX7_settles 68 = .ok (.iload_n 3, 1) := by decide +kernel
theorem dX7_settles_69 : decode cX7_settles 69 = .ok (.iaload, 1) := by decide +kernel
theorem dX7_settles_70 : decode cX7_settles 70 = .ok (.laload, 1) := by decide +kernel
theorem dX7_settles_71 : decode cX7_settles 71 = .ok (.lstore 4, 2) := by decide +kernel
theorem dX7_settles_73 : decode cX7_settles 73 = .ok (.lload 4, 2) := by decide +kernel
theorem dX7_settles_75 : decode cX7_settles 75 = .ok (.lconst 0, 1) := by decide +kernel
theorem dX7_settles_76 : decode cX7_settles 76 = .ok (.lcmp, 1) := by decide +kernel
theorem dX7_settles_77 : decode cX7_settles 77 = .ok (.ifCond .ne 6, 3) := by decide +kernel
theorem dX7_settles_80 : decode cX7_settles 80 = .ok (.goto 185, 3) := by decide +kernel
theorem dX7_settles_83 : decode cX7_settles 83 = .ok (.aload_n 0, 1) := by decide +kernel
theorem dX7_settles_84 : decode cX7_settles 84 = .ok (.getfield 32, 3) := by decide +kernel
theorem dX7_settles_87 : decode cX7_settles 87 = .ok (.bipush 9, 2) := by decide +kernel
theorem dX7_settles_89 : decode cX7_settles 89 = .ok (.iload_n 3, 1) := by decide +kernel
theorem dX7_settles_90 : decode cX7_settles 90 = .ok (.imul, 1) := by decide +kernel
theorem dX7_settles_91 : decode cX7_settles 91 = .ok (.aload_n 0, 1) := by decide +kernel
theorem dX7_settles_92 : decode cX7_settles 92 = .ok (.getfield 39, 3) := by decide +kernel
theorem dX7_settles_95 : decode cX7_settles 95 = .ok (.iload_n 3, 1) := by decide +kernel
theorem dX7_settles_96 : decode cX7_settles 96 = .ok (.iaload, 1) := by decide +kernel
theorem dX7_settles_97 : decode cX7_settles 97 = .ok (.iadd, 1) := by decide +kernel
theorem dX7_settles_98 : decode cX7_settles 98 = .ok (.laload, 1) := by decide +kernel
theorem dX7_settles_99 : decode cX7_settles 99 = .ok (.lstore 6, 2) := by decide +kernel
theorem dX7_settles_101 : decode cX7_settles 101 = .ok (.aload_n 0, 1) := by decide +kernel
theorem dX7_settles_102 : decode cX7_settles 102 = .ok (.aload_n 0, 1) := by decide +kernel
theorem dX7_settles_103 : decode cX7_settles 103 = .ok (.getfield 244, 3) := by decide +kernel
theorem dX7_settles_106 : decode cX7_settles 106 = .ok (.lload 6, 2) := by decide +kernel
theorem dX7_settles_108 : decode cX7_settles 108 = .ok (.lmul, 1) := by decide +kernel
theorem dX7_settles_109 : decode cX7_settles 109 = .ok (.lload 4, 2) := by decide +kernel
theorem dX7_settles_111 : decode cX7_settles 111 = .ok (.aload_n 0, 1) := by decide +kernel
theorem dX7_settles_112 : decode cX7_settles 112 = .ok (.getfield 32, 3) := by decide +kernel
theorem dX7_settles_115 : decode cX7_settles 115 = .ok (.bipush 9, 2) := by decide +kernel
theorem dX7_settles_117 : decode cX7_settles 117 = .ok (.iload_n 3, 1) := by decide +kernel
theorem dX7_settles_118 : decode cX7_settles 118 = .ok (.imul, 1) := by decide +kernel
theorem dX7_settles_119 : decode cX7_settles 119 = .ok (.bipush 8, 2) := by decide +kernel
theorem dX7_settles_121 : decode cX7_settles 121 = .ok (.iadd, 1) := by decide +kernel
theorem dX7_settles_122 : decode cX7_settles 122 = .ok (.laload, 1) := by decide +kernel
theorem dX7_settles_123 : decode cX7_settles 123 = .ok (.lmul, 1) := by decide +kernel
theorem dX7_settles_124 : decode cX7_settles 124 = .ok (.ladd, 1) := by decide +kernel
theorem dX7_settles_125 : decode cX7_settles 125 = .ok (.putfield 244, 3) := by decide +kernel
theorem dX7_settles_128 : decode cX7_settles 128 = .ok (.aload_n 0, 1) := by decide +kernel
theorem dX7_settles_129 : decode cX7_settles 129 = .ok (.dup, 1) := by decide +kernel
theorem dX7_settles_130 : decode cX7_settles 130 = .ok (.getfield 248, 3) := by decide +kernel
theorem dX7_settles_133 : decode cX7_settles 133 = .ok (.lload 6, 2) := by decide +kernel
theorem dX7_settles_135 : decode cX7_settles 135 = .ok (.lmul, 1) := by decide +kernel
theorem dX7_settles_136 : decode cX7_settles 136 = .ok (.putfield 248, 3) := by decide +kernel
theorem dX7_settles_139 : decode cX7_settles 139 = .ok (.aload_n 0, 1) := by decide +kernel
theorem dX7_settles_140 : decode cX7_settles 140 = .ok (.getfield 244, 3) := by decide +kernel
theorem dX7_settles_143 : decode cX7_settles 143 = .ok (.aload_n 0, 1) := by decide +kernel
theorem dX7_settles_144 : decode cX7_settles 144 = .ok (.getfield 248, 3) := by decide +kernel
theorem dX7_settles_147 : decode cX7_settles 147 = .ok (.invokestatic 231, 3) := by decide +kernel
theorem dX7_settles_150 : decode cX7_settles 150 = .ok (.lstore 8, 2) := by decide +kernel
theorem dX7_settles_152 : decode cX7_settles 152 = .ok (.iconst 0, 1) := by decide +kernel
theorem dX7_settles_153 : decode cX7_settles 153 = .ok (.istore 10, 2) := by decide +kernel
theorem dX7_settles_155 : decode cX7_settles 155 = .ok (.iload 10, 2) := by decide +kernel
theorem dX7_settles_157 : decode cX7_settles 157 = .ok (.bipush 8, 2) := by decide +kernel
theorem dX7_settles_159 : decode cX7_settles 159 = .ok (.if_icmp .ge 56, 3) := by decide +kernel
theorem dX7_settles_162 : decode cX7_settles 162 = .ok (.aload_n 0, 1) := by decide +kernel
theorem dX7_settles_163 : decode cX7_settles 163 = .ok (.getfield 36, 3) := by decide +kernel
theorem dX7_settles_166 : decode cX7_settles 166 = .ok (.iload 10, 2) := by decide +kernel
theorem dX7_settles_168 : decode cX7_settles 168 = .ok (.aload_n 0, 1) := by decide +kernel
theorem dX7_settles_169 : decode cX7_settles 169 = .ok (.getfield 36, 3) := by decide +kernel
theorem dX7_settles_172 : decode cX7_settles 172 = .ok (.iload 10, 2) := by decide +kernel
theorem dX7_settles_174 : decode cX7_settles 174 = .ok (.laload, 1) := by decide +kernel
theorem dX7_settles_175 : decode cX7_settles 175 = .ok (.lload 6, 2) := by decide +kernel
theorem dX7_settles_177 : decode cX7_settles 177 = .ok (.lmul, 1) := by decide +kernel
theorem dX7_settles_178 : decode cX7_settles 178 = .ok (.aload_n 0, 1) := by decide +kernel
theorem dX7_settles_179 : decode cX7_settles 179 = .ok (.getfield 32, 3) := by decide +kernel
theorem dX7_settles_182 : decode cX7_settles 182 = .ok (.bipush 9, 2) := by decide +kernel
theorem dX7_settles_184 : decode cX7_settles 184 = .ok (.iload_n 3, 1) := by decide +kernel
theorem dX7_settles_185 : decode cX7_settles 185 = .ok (.imul, 1) := by decide +kernel
theorem dX7_settles_186 : decode cX7_settles 186 = .ok (.iload 10, 2) := by decide +kernel
theorem dX7_settles_188 : decode cX7_settles 188 = .ok (.iadd, 1) := by decide +kernel
theorem dX7_settles_189 : decode cX7_settles 189 = .ok (.laload, 1) := by decide +kernel
theorem dX7_settles_190 : decode cX7_settles 190 = .ok (.lload 4, 2) := by decide +kernel
theorem dX7_settles_192 : decode cX7_settles 192 = .ok (.lmul, 1) := by decide +kernel
theorem dX7_settles_193 : decode cX7_settles 193 = .ok (.lsub, 1) := by decide +kernel
theorem dX7_settles_194 : decode cX7_settles 194 = .ok (.lastore, 1) := by decide +kernel
theorem dX7_settles_195 : decode cX7_settles 195 = .ok (.lload 8, 2) := by decide +kernel
theorem dX7_settles_197 : decode cX7_settles 197 = .ok (.aload_n 0, 1) := by decide +kernel
theorem dX7_settles_198 : decode cX7_settles 198 = .ok (.getfield 36, 3) := by decide +kernel
theorem dX7_settles_201 : decode cX7_settles 201 = .ok (.iload 10, 2) := by decide +kernel
theorem dX7_settles_203 : decode cX7_settles 203 = .ok (.laload, 1) := by decide +kernel
theorem dX7_settles_204 : decode cX7_settles 204 = .ok (.invokestatic 231, 3) := by decide +kernel
theorem dX7_settles_207 : decode cX7_settles 207 = .ok (.lstore 8, 2) := by decide +kernel
theorem dX7_settles_209 : decode cX7_settles 209 = .ok (.iinc 10 1, 3) := by decide +kernel
theorem dX7_settles_212 : decode cX7_settles 212 = .ok (.goto (-57), 3) := by decide +kernel
theorem dX7_settles_215 : decode cX7_settles 215 = .ok (.aload_n 0, 1) := by decide +kernel
theorem dX7_settles_216 : decode cX7_settles 216 = .ok (.dup, 1) := by decide +kernel
theorem dX7_settles_217 : decode cX7_settles 217 = .ok (.getfield 244, 3) := by decide +kernel
theorem dX7_settles_220 : decode cX7_settles 220 = .ok (.lload 8, 2) := by decide +kernel
theorem dX7_settles_222 : decode cX7_settles 222 = .ok (.ldiv, 1) := by decide +kernel
theorem dX7_settles_223 : decode cX7_settles 223 = .ok (.putfield 244, 3) := by decide +kernel
theorem dX7_settles_226 : decode cX7_settles 226 = .ok (.aload_n 0, 1) := by decide +kernel
theorem dX7_settles_227 : decode cX7_settles 227 = .ok (.dup, 1) := by decide +kernel
theorem dX7_settles_228 : decode cX7_settles 228 = .ok (.getfield 248, 3) := by decide +kernel
theorem dX7_settles_231 : decode cX7_settles 231 = .ok (.lload 8, 2) := by decide +kernel
theorem dX7_settles_233 : decode cX7_settles 233 = .ok (.ldiv, 1) := by decide +kernel
theorem dX7_settles_234 : decode cX7_settles 234 = .ok (.putfield 248, 3) := by decide +kernel
theorem dX7_settles_237 : decode cX7_settles 237 = .ok (.iconst 0, 1) := by decide +kernel
theorem dX7_settles_238 : decode cX7_settles 238 = .ok (.istore 10, 2) := by decide +kernel
theorem dX7_settles_240 : decode cX7_settles 240 = .ok (.iload 10, 2) := by decide +kernel
theorem dX7_settles_242 : decode cX7_settles 242 = .ok (.bipush 8, 2) := by decide +kernel
theorem dX7_settles_244 : decode cX7_settles 244 = .ok (.if_icmp .ge 21, 3) := by decide +kernel
theorem dX7_settles_247 : decode cX7_settles 247 = .ok (.aload_n 0, 1) := by decide +kernel
theorem dX7_settles_248 : decode cX7_settles 248 = .ok (.getfield 36, 3) := by decide +kernel
theorem dX7_settles_251 : decode cX7_settles 251 = .ok (.iload 10, 2) := by decide +kernel
theorem dX7_settles_253 : decode cX7_settles 253 = .ok (.dup2, 1) := by decide +kernel
theorem dX7_settles_254 : decode cX7_settles 254 = .ok (.laload, 1) := by decide +kernel
theorem dX7_settles_255 : decode cX7_settles 255 = .ok (.lload 8, 2) := by decide +kernel
theorem dX7_settles_257 : decode cX7_settles 257 = .ok (.ldiv, 1) := by decide +kernel
theorem dX7_settles_258 : decode cX7_settles 258 = .ok (.lastore, 1) := by decide +kernel
theorem dX7_settles_259 : decode cX7_settles 259 = .ok (.iinc 10 1, 3) := by decide +kernel
theorem dX7_settles_262 : decode cX7_settles 262 = .ok (.goto (-22), 3) := by decide +kernel
theorem dX7_settles_265 : decode cX7_settles 265 = .ok (.iinc 3 1, 3) := by decide +kernel
theorem dX7_settles_268 : decode cX7_settles 268 = .ok (.goto (-216), 3) := by decide +kernel
theorem dX7_settles_271 : decode cX7_settles 271 = .ok (.iconst 1, 1) := by decide +kernel
theorem dX7_settles_272 : decode cX7_settles 272 = .ok (.istore_n 3, 1) := by decide +kernel
theorem dX7_settles_273 : decode cX7_settles 273 = .ok (.iconst 0, 1) := by decide +kernel
theorem dX7_settles_274 : decode cX7_settles 274 = .ok (.istore 4, 2) := by decide +kernel
theorem dX7_settles_276 : decode cX7_settles 276 = .ok (.iload 4, 2) := by decide +kernel
theorem dX7_settles_278 : decode cX7_settles 278 = .ok (.bipush 8, 2) := by decide +kernel
theorem dX7_settles_280 : decode cX7_settles 280 = .ok (.if_icmp .ge 31, 3) := by decide +kernel
theorem dX7_settles_283 : decode cX7_settles 283 = .ok (.iload_n 3, 1) := by decide +kernel
theorem dX7_settles_284 : decode cX7_settles 284 = .ok (.ifCond .eq 19, 3) := by decide +kernel
theorem dX7_settles_287 : decode cX7_settles 287 = .ok (.aload_n 0, 1) := by decide +kernel
theorem dX7_settles_288 : decode cX7_settles 288 = .ok (.getfield 36, 3) := by decide +kernel
theorem dX7_settles_291 : decode cX7_settles 291 = .ok (.iload 4, 2) := by decide +kernel
theorem dX7_settles_293 : decode cX7_settles 293 = .ok (.laload, 1) := by decide +kernel
theorem dX7_settles_294 : decode cX7_settles 294 = .ok (.lconst 0, 1) := by decide +kernel
theorem dX7_settles_295 : decode cX7_settles 295 = .ok (.lcmp, 1) := by decide +kernel
theorem dX7_settles_296 : decode cX7_settles 296 = .ok (.ifCond .ne 7, 3) := by decide +kernel
theorem dX7_settles_299 : decode cX7_settles 299 = .ok (.iconst 1, 1) := by decide +kernel
theorem dX7_settles_300 : decode cX7_settles 300 = .ok (.goto 4, 3) := by decide +kernel
theorem dX7_settles_303 : decode cX7_settles 303 = .ok (.iconst 0, 1) := by decide +kernel
theorem dX7_settles_304 : decode cX7_settles 304 = .ok (.istore_n 3, 1) := by decide +kernel
theorem dX7_settles_305 : decode cX7_settles 305 = .ok (.iinc 4 1, 3) := by decide +kernel
theorem dX7_settles_308 : decode cX7_settles 308 = .ok (.goto (-32), 3) := by decide +kernel
theorem dX7_settles_311 : decode cX7_settles 311 = .ok (.iload_n 3, 1) := by decide +kernel
theorem dX7_settles_312 : decode cX7_settles 312 = .ok (.ireturn, 1) := by decide +kernel
theorem dX7_part_0 : decode cX7_part 0 = .ok (.aload_n 0, 1) := by decide +kernel
theorem dX7_part_1 : decode cX7_part 1 = .ok (.getfield 244, 3) := by decide +kernel
theorem dX7_part_4 : decode cX7_part 4 = .ok (.aload_n 0, 1) := by decide +kernel
theorem dX7_part_5 : decode cX7_part 5 = .ok (.getfield 248, 3) := by decide +kernel
theorem dX7_part_8 : decode cX7_part 8 = .ok (.invokestatic 231, 3) := by decide +kernel
theorem dX7_part_11 : decode cX7_part 11 = .ok (.lstore_n 2, 1) := by decide +kernel
theorem dX7_part_12 : decode cX7_part 12 = .ok (.aload_n 0, 1) := by decide +kernel
theorem dX7_part_13 : decode cX7_part 13 = .ok (.getfield 248, 3) := by decide +kernel
theorem dX7_part_16 : decode cX7_part 16 = .ok (.lconst 0, 1) := by decide +kernel
theorem dX7_part_17 : decode cX7_part 17 = .ok (.lcmp, 1) := by decide +kernel
theorem dX7_part_18 : decode cX7_part 18 = .ok (.ifCond .ge 6, 3) := by decide +kernel
theorem dX7_part_21 : decode cX7_part 21 = .ok (.lload_n 2, 1) := by decide +kernel
theorem dX7_part_22 : decode cX7_part 22 = .ok (.lneg, 1) := by decide +kernel
theorem dX7_part_23 : decode cX7_part 23 = .ok (.lstore_n 2, 1) := by decide +kernel
theorem dX7_part_24 : decode cX7_part 24 = .ok (.iload_n 1, 1) := by decide +kernel
theorem dX7_part_25 : decode cX7_part 25 = .ok (.ifCond .ne 12, 3) := by decide +kernel
theorem dX7_part_28 : decode cX7_part 28 = .ok (.aload_n 0, 1) := by decide +kernel
theorem dX7_part_29 : decode cX7_part 29 = .ok (.getfield 244, 3) := by decide +kernel
theorem dX7_part_32 : decode cX7_part 32 = .ok (.lload_n 2, 1) := by decide +kernel
theorem dX7_part_33 : decode cX7_part 33 = .ok (.ldiv, 1) := by decide +kernel
theorem dX7_part_34 : decode cX7_part 34 = .ok (.goto 9, 3) := by decide +kernel
theorem dX7_part_37 : decode cX7_part 37 = .ok (.aload_n 0, 1) := by decide +kernel
theorem dX7_part_38 : decode cX7_part 38 = .ok (.getfield 248, 3) := by decide +kernel
theorem dX7_part_41 : decode cX7_part 41 = .ok (.lload_n 2, 1) := by decide +kernel
theorem dX7_part_42 : decode cX7_part 42 = .ok (.ldiv, 1) := by decide +kernel
theorem dX7_part_43 : decode cX7_part 43 = .ok (.lreturn, 1) := by decide +kernel
theorem dX7_all_0 : decode cX7_all 0 = .ok (.iconst 1, 1) := by decide +kernel
theorem dX7_all_1 : decode cX7_all 1 = .ok (.aload_n 0, 1) := by decide +kernel
theorem dX7_all_2 : decode cX7_all 2 = .ok (.getfield 205, 3) := by decide +kernel
theorem dX7_all_5 : decode cX7_all 5 = .ok (.ishl, 1) := by decide +kernel
theorem dX7_all_6 : decode cX7_all 6 = .ok (.iconst 1, 1) := by decide +kernel
theorem dX7_all_7 : decode cX7_all 7 = .ok (.isub, 1) := by decide +kernel
theorem dX7_all_8 : decode cX7_all 8 = .ok (.ireturn, 1) := by decide +kernel
theorem dX7_quarrelAt_0 : decode cX7_quarrelAt 0 = .ok (.iconst 0, 1) := by decide +kernel
theorem dX7_quarrelAt_1 : decode cX7_quarrelAt 1 = .ok (.istore_n 1, 1) := by decide +kernel
theorem dX7_quarrelAt_2 : decode cX7_quarrelAt 2 = .ok (.iload_n 1, 1) := by decide +kernel
theorem dX7_quarrelAt_3 : decode cX7_quarrelAt 3 = .ok (.aload_n 0, 1) := by decide +kernel
theorem dX7_quarrelAt_4 : decode cX7_quarrelAt 4 = .ok (.getfield 205, 3) := by decide +kernel
theorem dX7_quarrelAt_7 : decode cX7_quarrelAt 7 = .ok (.if_icmp .ge 39, 3) := by decide +kernel
theorem dX7_quarrelAt_10 : decode cX7_quarrelAt 10 = .ok (.aload_n 0, 1) := by decide +kernel
theorem dX7_quarrelAt_11 : decode cX7_quarrelAt 11 = .ok (.iload_n 1, 1) := by decide +kernel
theorem dX7_quarrelAt_12 : decode cX7_quarrelAt 12 = .ok (.invokevirtual 235, 3) := by decide +kernel
theorem dX7_quarrelAt_15 : decode cX7_quarrelAt 15 = .ok (.ifCond .eq 25, 3) := by decide +kernel
theorem dX7_quarrelAt_18 : decode cX7_quarrelAt 18 = .ok (.aload_n 0, 1) := by decide +kernel
theorem dX7_quarrelAt_19 : decode cX7_quarrelAt 19 = .ok (.aload_n 0, 1) := by decide +kernel
theorem dX7_quarrelAt_20 : decode cX7_quarrelAt 20 = .ok (.iload_n 1, 1) := by decide +kernel
theorem dX7_quarrelAt_21 : decode cX7_quarrelAt 21 = .ok (.iconst 3, 1) := by decide +kernel
theorem dX7_quarrelAt_22 : decode cX7_quarrelAt 22 = .ok (.invokevirtual 214, 3) := by decide +kernel
theorem dX7_quarrelAt_25 : decode cX7_quarrelAt 25 = .ok (.iconst 1, 1) := by decide +kernel
theorem dX7_quarrelAt_26 : decode cX7_quarrelAt 26 = .ok (.iload_n 1, 1) := by decide +kernel
theorem dX7_quarrelAt_27 : decode cX7_quarrelAt 27 = .ok (.iconst 1, 1) := by decide +kernel
theorem dX7_quarrelAt_28 : decode cX7_quarrelAt 28 = .ok (.iadd, 1) := by decide +kernel
theorem dX7_quarrelAt_29 : decode cX7_quarrelAt 29 = .ok (.ishl, 1) := by decide +kernel
theorem dX7_quarrelAt_30 : decode cX7_quarrelAt 30 = .ok (.iconst 1, 1) := by decide +kernel
theorem dX7_quarrelAt_31 : decode cX7_quarrelAt 31 = .ok (.isub, 1) := by decide +kernel
theorem dX7_quarrelAt_32 : decode cX7_quarrelAt 32 = .ok (.invokevirtual 251, 3) := by decide +kernel
theorem dX7_quarrelAt_35 : decode cX7_quarrelAt 35 = .ok (.ifCond .ne 5, 3) := by decide +kernel
theorem dX7_quarrelAt_38 : decode cX7_quarrelAt 38 = .ok (.iload_n 1, 1) := by decide +kernel
theorem dX7_quarrelAt_39 : decode cX7_quarrelAt 39 = .ok (.ireturn, 1) := by decide +kernel
theorem dX7_quarrelAt_40 : decode cX7_quarrelAt 40 = .ok (.iinc 1 1, 3) := by decide +kernel
theorem dX7_quarrelAt_43 : decode cX7_quarrelAt 43 = .ok (.goto (-41), 3) := by decide +kernel
theorem dX7_quarrelAt_46 : decode cX7_quarrelAt 46 = .ok (.iconst (-1), 1) := by decide +kernel
theorem dX7_quarrelAt_47 : decode cX7_quarrelAt 47 = .ok (.ireturn, 1) := by decide +kernel
theorem dX7_quarrel_0 : decode cX7_quarrel 0 = .ok (.aload_n 0, 1) := by decide +kernel
theorem dX7_quarrel_1 : decode cX7_quarrel 1 = .ok (.iconst 0, 1) := by decide +kernel
theorem dX7_quarrel_2 : decode cX7_quarrel 2 = .ok (.putfield 42, 3) := by decide +kernel
theorem dX7_quarrel_5 : decode cX7_quarrel 5 = .ok (.aload_n 0, 1) := by decide +kernel
theorem dX7_quarrel_6 : decode cX7_quarrel 6 = .ok (.invokevirtual 255, 3) := by decide +kernel
theorem dX7_quarrel_9 : decode cX7_quarrel 9 = .ok (.ireturn, 1) := by decide +kernel
theorem dX7_answersBy_0 : decode cX7_answersBy 0 = .ok (.aload_n 0, 1) := by decide +kernel
theorem dX7_answersBy_1 : decode cX7_answersBy 1 = .ok (.aload_n 0, 1) := by decide +kernel
theorem dX7_answersBy_2 : decode cX7_answersBy 2 = .ok (.getfield 20, 3) := by decide +kernel
theorem dX7_answersBy_5 : decode cX7_answersBy 5 = .ok (.iconst 3, 1) := by decide +kernel
theorem dX7_answersBy_6 : decode cX7_answersBy 6 = .ok (.iaload, 1) := by decide +kernel
theorem dX7_answersBy_7 : decode cX7_answersBy 7 = .ok (.iload_n 1, 1) := by decide +kernel
theorem dX7_answersBy_8 : decode cX7_answersBy 8 = .ok (.invokevirtual 251, 3) := by decide +kernel
theorem dX7_answersBy_11 : decode cX7_answersBy 11 = .ok (.ifCond .eq 26, 3) := by decide +kernel
theorem dX7_answersBy_14 : decode cX7_answersBy 14 = .ok (.aload_n 0, 1) := by decide +kernel
theorem dX7_answersBy_15 : decode cX7_answersBy 15 = .ok (.aload_n 0, 1) := by decide +kernel
theorem dX7_answersBy_16 : decode cX7_answersBy 16 = .ok (.getfield 20, 3) := by decide +kernel
theorem dX7_answersBy_19 : decode cX7_answersBy 19 = .ok (.iconst 1, 1) := by decide +kernel
theorem dX7_answersBy_20 : decode cX7_answersBy 20 = .ok (.iaload, 1) := by decide +kernel
theorem dX7_answersBy_21 : decode cX7_answersBy 21 = .ok (.aload_n 0, 1) := by decide +kernel
theorem dX7_answersBy_22 : decode cX7_answersBy 22 = .ok (.getfield 20, 3) := by decide +kernel
theorem dX7_answersBy_25 : decode cX7_answersBy 25 = .ok (.iconst 2, 1) := by decide +kernel
theorem dX7_answersBy_26 : decode cX7_answersBy 26 = .ok (.iaload, 1) := by decide +kernel
theorem dX7_answersBy_27 : decode cX7_answersBy 27 = .ok (.invokevirtual 258, 3) := by decide +kernel
theorem dX7_answersBy_30 : decode cX7_answersBy 30 = .ok (.ifCond .eq 7, 3) := by decide +kernel
theorem dX7_answersBy_33 : decode cX7_answersBy 33 = .ok (.iconst 1, 1) := by decide +kernel
theorem dX7_answersBy_34 : decode cX7_answersBy 34 = .ok (.goto 4, 3) := by decide +kernel
theorem dX7_answersBy_37 : decode cX7_answersBy 37 = .ok (.iconst 0, 1) := by decide +kernel
theorem dX7_answersBy_38 : decode cX7_answersBy 38 = .ok (.ireturn, 1) := by decide +kernel
theorem dX7_hasAnswer_0 : decode cX7_hasAnswer 0 = .ok (.aload_n 0, 1) := by decide +kernel
theorem dX7_hasAnswer_1 : decode cX7_hasAnswer 1 = .ok (.getfield 207, 3) := by decide +kernel
theorem dX7_hasAnswer_4 : decode cX7_hasAnswer 4 = .ok (.ifCond .eq 26, 3) := by decide +kernel
theorem dX7_hasAnswer_7 : decode cX7_hasAnswer 7 = .ok (.aload_n 0, 1) := by decide +kernel
theorem dX7_hasAnswer_8 : decode cX7_hasAnswer 8 = .ok (.invokevirtual 255, 3) := by decide +kernel
theorem dX7_hasAnswer_11 : decode cX7_hasAnswer 11 = .ok (.iconst (-1), 1) := by decide +kernel
theorem dX7_hasAnswer_12 : decode cX7_hasAnswer 12 = .ok (.if_icmp .ne 18, 3) := by decide +kernel
theorem dX7_hasAnswer_15 : decode cX7_hasAnswer 15 = .ok (.aload_n 0, 1) := by decide +kernel
theorem dX7_hasAnswer_16 : decode cX7_hasAnswer 16 = .ok (.aload_n 0, 1) := by decide +kernel
theorem dX7_hasAnswer_17 : decode cX7_hasAnswer 17 = .ok (.invokevirtual 261, 3) := by decide +kernel
theorem dX7_hasAnswer_20 : decode cX7_hasAnswer 20 = .ok (.invokevirtual 264, 3) := by decide +kernel
theorem dX7_hasAnswer_23 : decode cX7_hasAnswer 23 = .ok (.ifCond .eq 7, 3) := by decide +kernel
theorem dX7_hasAnswer_26 : decode cX7_hasAnswer 26 = .ok (.iconst 1, 1) := by decide +kernel
theorem dX7_hasAnswer_27 : decode cX7_hasAnswer 27 = .ok (.goto 4, 3) := by decide +kernel
theorem dX7_hasAnswer_30 : decode cX7_hasAnswer 30 = .ok (.iconst 0, 1) := by decide +kernel
theorem dX7_hasAnswer_31 : decode cX7_hasAnswer 31 = .ok (.ireturn, 1) := by decide +kernel
theorem dX7_answer_0 : decode cX7_answer 0 = .ok (.aload_n 0, 1) := by decide +kernel
theorem dX7_answer_1 : decode cX7_answer 1 = .ok (.iconst 0, 1) := by decide +kernel
theorem dX7_answer_2 : decode cX7_answer 2 = .ok (.putfield 42, 3) := by decide +kernel
theorem dX7_answer_5 : decode cX7_answer 5 = .ok (.iload_n 1, 1) := by decide +kernel
theorem dX7_answer_6 : decode cX7_answer 6 = .ok (.iconst 0, 1) := by decide +kernel
theorem dX7_answer_7 : decode cX7_answer 7 = .ok (.iconst 1, 1) := by decide +kernel
theorem dX7_answer_8 : decode cX7_answer 8 = .ok (.invokestatic 176, 3) := by decide +kernel
theorem dX7_answer_11 : decode cX7_answer 11 = .ok (.ifCond .eq 10, 3) := by decide +kernel
theorem dX7_answer_14 : decode cX7_answer 14 = .ok (.aload_n 0, 1) := by decide +kernel
theorem dX7_answer_15 : decode cX7_answer 15 = .ok (.invokevirtual 267, 3) := by decide +kernel
theorem dX7_answer_18 : decode cX7_answer 18 = .ok (.ifCond .ne 7, 3) := by decide +kernel
theorem dX7_answer_21 : decode cX7_answer 21 = .ok (.ldc2_w 270, 3) := by decide +kernel
theorem dX7_answer_24 : decode cX7_answer 24 = .ok (.lreturn, 1) := by decide +kernel
theorem dX7_answer_25 : decode cX7_answer 25 = .ok (.aload_n 0, 1) := by decide +kernel
theorem dX7_answer_26 : decode cX7_answer 26 = .ok (.dup, 1) := by decide +kernel
theorem dX7_answer_27 : decode cX7_answer 27 = .ok (.getfield 244, 3) := by decide +kernel
theorem dX7_answer_30 : decode cX7_answer 30 = .ok (.aload_n 0, 1) := by decide +kernel
theorem dX7_answer_31 : decode cX7_answer 31 = .ok (.getfield 248, 3) := by decide +kernel
theorem dX7_answer_34 : decode cX7_answer 34 = .ok (.aload_n 0, 1) := by decide +kernel
theorem dX7_answer_35 : decode cX7_answer 35 = .ok (.aload_n 0, 1) := by decide +kernel
theorem dX7_answer_36 : decode cX7_answer 36 = .ok (.getfield 20, 3) := by decide +kernel
theorem dX7_answer_39 : decode cX7_answer 39 = .ok (.iconst 1, 1) := by decide +kernel
theorem dX7_answer_40 : decode cX7_answer 40 = .ok (.iaload, 1) := by decide +kernel
theorem dX7_answer_41 : decode cX7_answer 41 = .ok (.aload_n 0, 1) := by decide +kernel
theorem dX7_answer_42 : decode cX7_answer 42 = .ok (.getfield 20, 3) := by decide +kernel
theorem dX7_answer_45 : decode cX7_answer 45 = .ok (.iconst 3, 1) := by decide +kernel
theorem dX7_answer_46 : decode cX7_answer 46 = .ok (.iaload, 1) := by decide +kernel
theorem dX7_answer_47 : decode cX7_answer 47 = .ok (.aload_n 0, 1) := by decide +kernel
theorem dX7_answer_48 : decode cX7_answer 48 = .ok (.getfield 20, 3) := by decide +kernel
theorem dX7_answer_51 : decode cX7_answer 51 = .ok (.iconst 4, 1) := by decide +kernel
theorem dX7_answer_52 : decode cX7_answer 52 = .ok (.iaload, 1) := by decide +kernel
theorem dX7_answer_53 : decode cX7_answer 53 = .ok (.invokevirtual 223, 3) := by decide +kernel
theorem dX7_answer_56 : decode cX7_answer 56 = .ok (.i2l, 1) := by decide +kernel
theorem dX7_answer_57 : decode cX7_answer 57 = .ok (.lmul, 1) := by decide +kernel
theorem dX7_answer_58 : decode cX7_answer 58 = .ok (.ladd, 1) := by decide +kernel
theorem dX7_answer_59 : decode cX7_answer 59 = .ok (.putfield 244, 3) := by decide +kernel
theorem dX7_answer_62 : decode cX7_answer 62 = .ok (.aload_n 0, 1) := by decide +kernel
theorem dX7_answer_63 : decode cX7_answer 63 = .ok (.getfield 20, 3) := by decide +kernel
theorem dX7_answer_66 : decode cX7_answer 66 = .ok (.iconst 2, 1) := by decide +kernel
theorem dX7_answer_67 : decode cX7_answer 67 = .ok (.iaload, 1) := by decide +kernel
theorem dX7_answer_68 : decode cX7_answer 68 = .ok (.iconst (-1), 1) := by decide +kernel
theorem dX7_answer_69 : decode cX7_answer 69 = .ok (.if_icmp .eq 40, 3) := by decide +kernel
theorem dX7_answer_72 : decode cX7_answer 72 = .ok (.aload_n 0, 1) := by decide +kernel
theorem dX7_answer_73 : decode cX7_answer 73 = .ok (.dup, 1) := by decide +kernel
theorem dX7_answer_74 : decode cX7_answer 74 = .ok (.getfield 244, 3) := by decide +kernel
theorem dX7_answer_77 : decode cX7_answer 77 = .ok (.aload_n 0, 1) := by decide +kernel
theorem dX7_answer_78 : decode cX7_answer 78 = .ok (.getfield 248, 3) := by decide +kernel
theorem dX7_answer_81 : decode cX7_answer 81 = .ok (.aload_n 0, 1) := by decide +kernel
theorem dX7_answer_82 : decode cX7_answer 82 = .ok (.aload_n 0, 1) := by decide +kernel
theorem dX7_answer_83 : decode cX7_answer 83 = .ok (.getfield 20, 3) := by decide +kernel
theorem dX7_answer_86 : decode cX7_answer 86 = .ok (.iconst 2, 1) := by decide +kernel
theorem dX7_answer_87 : decode cX7_answer 87 = .ok (.iaload, 1) := by decide +kernel
theorem dX7_answer_88 : decode cX7_answer 88 = .ok (.aload_n 0, 1) := by decide +kernel
theorem dX7_answer_89 : decode cX7_answer 89 = .ok (.getfield 20, 3) := by decide +kernel
theorem dX7_answer_92 : decode cX7_answer 92 = .ok (.iconst 3, 1) := by decide +kernel
theorem dX7_answer_93 : decode cX7_answer 93 = .ok (.iaload, 1) := by decide +kernel
theorem dX7_answer_94 : decode cX7_answer 94 = .ok (.aload_n 0, 1) := by decide +kernel
theorem dX7_answer_95 : decode cX7_answer 95 = .ok (.getfield 20, 3) := by decide +kernel
theorem dX7_answer_98 : decode cX7_answer 98 = .ok (.iconst 4, 1) := by decide +kernel
theorem dX7_answer_99 : decode cX7_answer 99 = .ok (.iaload, 1) := by decide +kernel
theorem dX7_answer_100 : decode cX7_answer 100 = .ok (.invokevirtual 223, 3) := by decide +kernel
theorem dX7_answer_103 : decode cX7_answer 103 = .ok (.i2l, 1) := by decide +kernel
theorem dX7_answer_104 : decode cX7_answer 104 = .ok (.lmul, 1) := by decide +kernel
theorem dX7_answer_105 : decode cX7_answer 105 = .ok (.ladd, 1) := by decide +kernel
theorem dX7_answer_106 : decode cX7_answer 106 = .ok (.putfield 244, 3) := by decide +kernel
theorem dX7_answer_109 : decode cX7_answer 109 = .ok (.aload_n 0, 1) := by decide +kernel
theorem dX7_answer_110 : decode cX7_answer 110 = .ok (.iload_n 1, 1) := by decide +kernel
theorem dX7_answer_111 : decode cX7_answer 111 = .ok (.invokevirtual 272, 3) := by decide +kernel
theorem dX7_answer_114 : decode cX7_answer 114 = .ok (.lreturn, 1) := by decide +kernel
theorem dX7_stages_0 : decode cX7_stages 0 = .ok (.aload_n 0, 1) := by decide +kernel
theorem dX7_stages_1 : decode cX7_stages 1 = .ok (.getfield 207, 3) := by decide +kernel
theorem dX7_stages_4 : decode cX7_stages 4 = .ok (.ifCond .eq 7, 3) := by decide +kernel
theorem dX7_stages_7 : decode cX7_stages 7 = .ok (.iconst 1, 1) := by decide +kernel
theorem dX7_stages_8 : decode cX7_stages 8 = .ok (.goto 4, 3) := by decide +kernel
theorem dX7_stages_11 : decode cX7_stages 11 = .ok (.iconst 0, 1) := by decide +kernel
theorem dX7_stages_12 : decode cX7_stages 12 = .ok (.istore_n 1, 1) := by decide +kernel
theorem dX7_stages_13 : decode cX7_stages 13 = .ok (.iconst 0, 1) := by decide +kernel
theorem dX7_stages_14 : decode cX7_stages 14 = .ok (.istore_n 2, 1) := by decide +kernel
theorem dX7_stages_15 : decode cX7_stages 15 = .ok (.iload_n 2, 1) := by decide +kernel
theorem dX7_stages_16 : decode cX7_stages 16 = .ok (.aload_n 0, 1) := by decide +kernel
theorem dX7_stages_17 : decode cX7_stages 17 = .ok (.getfield 205, 3) := by decide +kernel
theorem dX7_stages_20 : decode cX7_stages 20 = .ok (.if_icmp .ge 25, 3) := by decide +kernel
theorem dX7_stages_23 : decode cX7_stages 23 = .ok (.iload_n 1, 1) := by decide +kernel
theorem dX7_stages_24 : decode cX7_stages 24 = .ok (.aload_n 0, 1) := by decide +kernel
theorem dX7_stages_25 : decode cX7_stages 25 = .ok (.iload_n 2, 1) := by decide +kernel
theorem dX7_stages_26 : decode cX7_stages 26 = .ok (.invokevirtual 235, 3) := by decide +kernel
theorem dX7_stages_29 : decode cX7_stages 29 = .ok (.ifCond .eq 7, 3) := by decide +kernel
theorem dX7_stages_32 : decode cX7_stages 32 = .ok (.iconst 0, 1) := by decide +kernel
theorem dX7_stages_33 : decode cX7_stages 33 = .ok (.goto 4, 3) := by decide +kernel
theorem dX7_stages_36 : decode cX7_stages 36 = .ok (.iconst 1, 1) := by decide +kernel
theorem dX7_stages_37 : decode cX7_stages 37 = .ok (.iadd, 1) := by decide +kernel
theorem dX7_stages_38 : decode cX7_stages 38 = .ok (.istore_n 1, 1) := by decide +kernel
theorem dX7_stages_39 : decode cX7_stages 39 = .ok (.iinc 2 1, 3) := by decide +kernel
theorem dX7_stages_42 : decode cX7_stages 42 = .ok (.goto (-27), 3) := by decide +kernel
theorem dX7_stages_45 : decode cX7_stages 45 = .ok (.iload_n 1, 1) := by decide +kernel
theorem dX7_stages_46 : decode cX7_stages 46 = .ok (.ireturn, 1) := by decide +kernel
theorem dX7_amounts_0 : decode cX7_amounts 0 = .ok (.aload_n 0, 1) := by decide +kernel
theorem dX7_amounts_1 : decode cX7_amounts 1 = .ok (.iload_n 2, 1) := by decide +kernel
theorem dX7_amounts_2 : decode cX7_amounts 2 = .ok (.aload_n 0, 1) := by decide +kernel
theorem dX7_amounts_3 : decode cX7_amounts 3 = .ok (.invokevirtual 261, 3) := by decide +kernel
theorem dX7_amounts_6 : decode cX7_amounts 6 = .ok (.invokevirtual 251, 3) := by decide +kernel
theorem dX7_amounts_9 : decode cX7_amounts 9 = .ok (.ifCond .eq 12, 3) := by decide +kernel
theorem dX7_amounts_12 : decode cX7_amounts 12 = .ok (.aload_n 0, 1) := by decide +kernel
theorem dX7_amounts_13 : decode cX7_amounts 13 = .ok (.iload_n 1, 1) := by decide +kernel
theorem dX7_amounts_14 : decode cX7_amounts 14 = .ok (.iconst (-1), 1) := by decide +kernel
theorem dX7_amounts_15 : decode cX7_amounts 15 = .ok (.invokevirtual 258, 3) := by decide +kernel
theorem dX7_amounts_18 : decode cX7_amounts 18 = .ok (.ifCond .ne 5, 3) := by decide +kernel
theorem dX7_amounts_21 : decode cX7_amounts 21 = .ok (.iconst 0, 1) := by decide +kernel
theorem dX7_amounts_22 : decode cX7_amounts 22 = .ok (.ireturn, 1) := by decide +kernel
theorem dX7_amounts_23 : decode cX7_amounts 23 = .ok (.aload_n 0, 1) := by decide +kernel
theorem dX7_amounts_24 : decode cX7_amounts 24 = .ok (.dup, 1) := by decide +kernel
theorem dX7_amounts_25 : decode cX7_amounts 25 = .ok (.getfield 244, 3) := by decide +kernel
theorem dX7_amounts_28 : decode cX7_amounts 28 = .ok (.aload_n 0, 1) := by decide +kernel
theorem dX7_amounts_29 : decode cX7_amounts 29 = .ok (.getfield 248, 3) := by decide +kernel
theorem dX7_amounts_32 : decode cX7_amounts 32 = .ok (.aload_n 0, 1) := by decide +kernel
theorem dX7_amounts_33 : decode cX7_amounts 33 = .ok (.iload_n 1, 1) := by decide +kernel
theorem dX7_amounts_34 : decode cX7_amounts 34 = .ok (.iload_n 2, 1) := by decide +kernel
theorem dX7_amounts_35 : decode cX7_amounts 35 = .ok (.iload_n 3, 1) := by decide +kernel
theorem dX7_amounts_36 : decode cX7_amounts 36 = .ok (.invokevirtual 223, 3) := by decide +kernel
theorem dX7_amounts_39 : decode cX7_amounts 39 = .ok (.i2l, 1) := by decide +kernel
theorem dX7_amounts_40 : decode cX7_amounts 40 = .ok (.lmul, 1) := by decide +kernel
theorem dX7_amounts_41 : decode cX7_amounts 41 = .ok (.ladd, 1) := by decide +kernel
theorem dX7_amounts_42 : decode cX7_amounts 42 = .ok (.putfield 244, 3) := by decide +kernel
theorem dX7_amounts_45 : decode cX7_amounts 45 = .ok (.iconst 1, 1) := by decide +kernel
theorem dX7_amounts_46 : decode cX7_amounts 46 = .ok (.ireturn, 1) := by decide +kernel
theorem dX7_amount_0 : decode cX7_amount 0 = .ok (.aload_n 0, 1) := by decide +kernel
theorem dX7_amount_1 : decode cX7_amount 1 = .ok (.iconst 0, 1) := by decide +kernel
theorem dX7_amount_2 : decode cX7_amount 2 = .ok (.putfield 42, 3) := by decide +kernel
theorem dX7_amount_5 : decode cX7_amount 5 = .ok (.iload 4, 2) := by decide +kernel
theorem dX7_amount_7 : decode cX7_amount 7 = .ok (.iconst 0, 1) := by decide +kernel
theorem dX7_amount_8 : decode cX7_amount 8 = .ok (.iconst 1, 1) := by decide +kernel
theorem dX7_amount_9 : decode cX7_amount 9 = .ok (.invokestatic 176, 3) := by decide +kernel
theorem dX7_amount_12 : decode cX7_amount 12 = .ok (.ifCond .eq 54, 3) := by decide +kernel
theorem dX7_amount_15 : decode cX7_amount 15 = .ok (.iload_n 1, 1) := by decide +kernel
theorem dX7_amount_16 : decode cX7_amount 16 = .ok (.iconst 0, 1) := by decide +kernel
theorem dX7_amount_17 : decode cX7_amount 17 = .ok (.bipush 7, 2) := by decide +kernel
theorem dX7_amount_19 : decode cX7_amount 19 = .ok (.invokestatic 176, 3) := by decide +kernel
theorem dX7_amount_22 : decode cX7_amount 22 = .ok (.ifCond .eq 44, 3) := by decide +kernel
theorem dX7_amount_25 : decode cX7_amount 25 = .ok (.iload_n 2, 1) := by decide +kernel
theorem dX7_amount_26 : decode cX7_amount 26 = .ok (.iconst 0, 1) := by decide +kernel
theorem dX7_amount_27 : decode cX7_amount 27 = .ok (.iconst 3, 1) := by decide +kernel
theorem dX7_amount_28 : decode cX7_amount 28 = .ok (.invokestatic 176, 3) := by decide +kernel
theorem dX7_amount_31 : decode cX7_amount 31 = .ok (.ifCond .eq 35, 3) := by decide +kernel
theorem dX7_amount_34 : decode cX7_amount 34 = .ok (.iload_n 3, 1) := by decide +kernel
theorem dX7_amount_35 : decode cX7_amount 35 = .ok (.iconst 0, 1) := by decide +kernel
theorem dX7_amount_36 : decode cX7_amount 36 = .ok (.aload_n 0, 1) := by decide +kernel
theorem dX7_amount_37 : decode cX7_amount 37 = .ok (.invokevirtual 276, 3) := by decide +kernel
theorem dX7_amount_40 : decode cX7_amount 40 = .ok (.iconst 1, 1) := by decide +kernel
theorem dX7_amount_41 : decode cX7_amount 41 = .ok (.isub, 1) := by decide +kernel
theorem dX7_amount_42 : decode cX7_amount 42 = .ok (.invokestatic 176, 3) := by decide +kernel
theorem dX7_amount_45 : decode cX7_amount 45 = .ok (.ifCond .eq 21, 3) := by decide +kernel
theorem dX7_amount_48 : decode cX7_amount 48 = .ok (.aload_n 0, 1) := by decide +kernel
theorem dX7_amount_49 : decode cX7_amount 49 = .ok (.invokevirtual 255, 3) := by decide +kernel
theorem dX7_amount_52 : decode cX7_amount 52 = .ok (.iconst (-1), 1) := by decide +kernel
theorem dX7_amount_53 : decode cX7_amount 53 = .ok (.if_icmp .ne 13, 3) := by decide +kernel
theorem dX7_amount_56 : decode cX7_amount 56 = .ok (.aload_n 0, 1) := by decide +kernel
theorem dX7_amount_57 : decode cX7_amount 57 = .ok (.iload_n 1, 1) := by decide +kernel
theorem dX7_amount_58 : decode cX7_amount 58 = .ok (.iload_n 2, 1) := by decide +kernel
theorem dX7_amount_59 : decode cX7_amount 59 = .ok (.iload_n 3, 1) := by decide +kernel
theorem dX7_amount_60 : decode cX7_amount 60 = .ok (.invokevirtual 279, 3) := by decide +kernel
theorem dX7_amount_63 : decode cX7_amount 63 = .ok (.ifCond .ne 7, 3) := by decide +kernel
theorem dX7_amount_66 : decode cX7_amount 66 = .ok (.ldc2_w 270, 3) := by decide +kernel
theorem dX7_amount_69 : decode cX7_amount 69 = .ok (.lreturn, 1) := by decide +kernel
theorem dX7_amount_70 : decode cX7_amount 70 = .ok (.aload_n 0, 1) := by decide +kernel
theorem dX7_amount_71 : decode cX7_amount 71 = .ok (.iload 4, 2) := by decide +kernel
theorem dX7_amount_73 : decode cX7_amount 73 = .ok (.invokevirtual 272, 3) := by decide +kernel
theorem dX7_amount_76 : decode cX7_amount 76 = .ok (.lreturn, 1) := by decide +kernel
theorem dX7_idle_0 : decode cX7_idle 0 = .ok (.aload_n 0, 1) := by decide +kernel
theorem dX7_idle_1 : decode cX7_idle 1 = .ok (.iconst 0, 1) := by decide +kernel
theorem dX7_idle_2 : decode cX7_idle 2 = .ok (.putfield 42, 3) := by decide +kernel
theorem dX7_idle_5 : decode cX7_idle 5 = .ok (.aload_n 0, 1) := by decide +kernel
theorem dX7_idle_6 : decode cX7_idle 6 = .ok (.invokevirtual 267, 3) := by decide +kernel
theorem dX7_idle_9 : decode cX7_idle 9 = .ok (.ifCond .ne 5, 3) := by decide +kernel
theorem dX7_idle_12 : decode cX7_idle 12 = .ok (.iconst 0, 1) := by decide +kernel
theorem dX7_idle_13 : decode cX7_idle 13 = .ok (.ireturn, 1) := by decide +kernel
theorem dX7_idle_14 : decode cX7_idle 14 = .ok (.iconst 0, 1) := by decide +kernel
theorem dX7_idle_15 : decode cX7_idle 15 = .ok (.istore_n 1, 1) := by decide +kernel
theorem dX7_idle_16 : decode cX7_idle 16 = .ok (.iconst 0, 1) := by decide +kernel
theorem dX7_idle_17 : decode cX7_idle 17 = .ok (.istore_n 2, 1) := by decide +kernel
theorem dX7_idle_18 : decode cX7_idle 18 = .ok (.iload_n 2, 1) := by decide +kernel
theorem dX7_idle_19 : decode cX7_idle 19 = .ok (.aload_n 0, 1) := by decide +kernel
theorem dX7_idle_20 : decode cX7_idle 20 = .ok (.getfield 205, 3) := by decide +kernel
theorem dX7_idle_23 : decode cX7_idle 23 = .ok (.if_icmp .ge 40, 3) := by decide +kernel
theorem dX7_idle_26 : decode cX7_idle 26 = .ok (.aload_n 0, 1) := by decide +kernel
theorem dX7_idle_27 : decode cX7_idle 27 = .ok (.iload_n 2, 1) := by decide +kernel
theorem dX7_idle_28 : decode cX7_idle 28 = .ok (.invokevirtual 235, 3) := by decide +kernel
theorem dX7_idle_31 : decode cX7_idle 31 = .ok (.ifCond .eq 26, 3) := by decide +kernel
theorem dX7_idle_34 : decode cX7_idle 34 = .ok (.aload_n 0, 1) := by decide +kernel
theorem dX7_idle_35 : decode cX7_idle 35 = .ok (.aload_n 0, 1) := by decide +kernel
theorem dX7_idle_36 : decode cX7_idle 36 = .ok (.invokevirtual 261, 3) := by decide +kernel
theorem dX7_idle_39 : decode cX7_idle 39 = .ok (.iconst 1, 1) := by decide +kernel
theorem dX7_idle_40 : decode cX7_idle 40 = .ok (.iload_n 2, 1) := by decide +kernel
theorem dX7_idle_41 : decode cX7_idle 41 = .ok (.ishl, 1) := by decide +kernel
theorem dX7_idle_42 : decode cX7_idle 42 = .ok (.iconst (-1), 1) := by decide +kernel
theorem dX7_idle_43 : decode cX7_idle 43 = .ok (.ixor, 1) := by decide +kernel
theorem dX7_idle_44 : decode cX7_idle 44 = .ok (.iand, 1) := by decide +kernel
theorem dX7_idle_45 : decode cX7_idle 45 = .ok (.invokevirtual 264, 3) := by decide +kernel
theorem dX7_idle_48 : decode cX7_idle 48 = .ok (.ifCond .eq 9, 3) := by decide +kernel
theorem dX7_idle_51 : decode cX7_idle 51 = .ok (.iload_n 1, 1) := by decide +kernel
theorem dX7_idle_52 : decode cX7_idle 52 = .ok (.iconst 1, 1) := by decide +kernel
theorem dX7_idle_53 : decode cX7_idle 53 = .ok (.iload_n 2, 1) := by decide +kernel
theorem dX7_idle_54 : decode cX7_idle 54 = .ok (.ishl, 1) := by decide +kernel
theorem dX7_idle_55 : decode cX7_idle 55 = .ok (.ior, 1) := by decide +kernel
theorem dX7_idle_56 : decode cX7_idle 56 = .ok (.istore_n 1, 1) := by decide +kernel
theorem dX7_idle_57 : decode cX7_idle 57 = .ok (.iinc 2 1, 3) := by decide +kernel
theorem dX7_idle_60 : decode cX7_idle 60 = .ok (.goto (-42), 3) := by decide +kernel
theorem dX7_idle_63 : decode cX7_idle 63 = .ok (.iload_n 1, 1) := by decide +kernel
theorem dX7_idle_64 : decode cX7_idle 64 = .ok (.ireturn, 1) := by decide +kernel
theorem dX7_facts_0 : decode cX7_facts 0 = .ok (.iconst 0, 1) := by decide +kernel
theorem dX7_facts_1 : decode cX7_facts 1 = .ok (.istore_n 1, 1) := by decide +kernel
theorem dX7_facts_2 : decode cX7_facts 2 = .ok (.iconst 0, 1) := by decide +kernel
theorem dX7_facts_3 : decode cX7_facts 3 = .ok (.istore_n 2, 1) := by decide +kernel
theorem dX7_facts_4 : decode cX7_facts 4 = .ok (.iload_n 2, 1) := by decide +kernel
theorem dX7_facts_5 : decode cX7_facts 5 = .ok (.aload_n 0, 1) := by decide +kernel
theorem dX7_facts_6 : decode cX7_facts 6 = .ok (.getfield 205, 3) := by decide +kernel
theorem dX7_facts_9 : decode cX7_facts 9 = .ok (.if_icmp .ge 27, 3) := by decide +kernel
theorem dX7_facts_12 : decode cX7_facts 12 = .ok (.iload_n 1, 1) := by decide +kernel
theorem dX7_facts_13 : decode cX7_facts 13 = .ok (.aload_n 0, 1) := by decide +kernel
theorem dX7_facts_14 : decode cX7_facts 14 = .ok (.iload_n 2, 1) := by decide +kernel
theorem dX7_facts_15 : decode cX7_facts 15 = .ok (.invokevirtual 235, 3) := by decide +kernel
theorem dX7_facts_18 : decode cX7_facts 18 = .ok (.ifCond .eq 9, 3) := by decide +kernel
theorem dX7_facts_21 : decode cX7_facts 21 = .ok (.iconst 1, 1) := by decide +kernel
theorem dX7_facts_22 : decode cX7_facts 22 = .ok (.iload_n 2, 1) := by decide +kernel
theorem dX7_facts_23 : decode cX7_facts 23 = .ok (.ishl, 1) := by decide +kernel
theorem dX7_facts_24 : decode cX7_facts 24 = .ok (.goto 4, 3) := by decide +kernel
theorem dX7_facts_27 : decode cX7_facts 27 = .ok (.iconst 0, 1) := by decide +kernel
theorem dX7_facts_28 : decode cX7_facts 28 = .ok (.ior, 1) := by decide +kernel
theorem dX7_facts_29 : decode cX7_facts 29 = .ok (.istore_n 1, 1) := by decide +kernel
theorem dX7_facts_30 : decode cX7_facts 30 = .ok (.iinc 2 1, 3) := by decide +kernel
theorem dX7_facts_33 : decode cX7_facts 33 = .ok (.goto (-29), 3) := by decide +kernel
theorem dX7_facts_36 : decode cX7_facts 36 = .ok (.iload_n 1, 1) := by decide +kernel
theorem dX7_facts_37 : decode cX7_facts 37 = .ok (.ireturn, 1) := by decide +kernel
theorem dX7_enough_0 : decode cX7_enough 0 = .ok (.aload_n 0, 1) := by decide +kernel
theorem dX7_enough_1 : decode cX7_enough 1 = .ok (.iconst 0, 1) := by decide +kernel
theorem dX7_enough_2 : decode cX7_enough 2 = .ok (.putfield 42, 3) := by decide +kernel
theorem dX7_enough_5 : decode cX7_enough 5 = .ok (.aload_n 0, 1) := by decide +kernel
theorem dX7_enough_6 : decode cX7_enough 6 = .ok (.invokevirtual 267, 3) := by decide +kernel
theorem dX7_enough_9 : decode cX7_enough 9 = .ok (.ifCond .ne 5, 3) := by decide +kernel
theorem dX7_enough_12 : decode cX7_enough 12 = .ok (.iconst (-1), 1) := by decide +kernel
theorem dX7_enough_13 : decode cX7_enough 13 = .ok (.ireturn, 1) := by decide +kernel
theorem dX7_enough_14 : decode cX7_enough 14 = .ok (.aload_n 0, 1) := by decide +kernel
theorem dX7_enough_15 : decode cX7_enough 15 = .ok (.invokevirtual 282, 3) := by decide +kernel
theorem dX7_enough_18 : decode cX7_enough 18 = .ok (.istore_n 1, 1) := by decide +kernel
theorem dX7_enough_19 : decode cX7_enough 19 = .ok (.aload_n 0, 1) := by decide +kernel
theorem dX7_enough_20 : decode cX7_enough 20 = .ok (.invokevirtual 261, 3) := by decide +kernel
theorem dX7_enough_23 : decode cX7_enough 23 = .ok (.istore_n 2, 1) := by decide +kernel
theorem dX7_enough_24 : decode cX7_enough 24 = .ok (.iload_n 2, 1) := by decide +kernel
theorem dX7_enough_25 : decode cX7_enough 25 = .ok (.ifCond .lt 41, 3) := by decide +kernel
theorem dX7_enough_28 : decode cX7_enough 28 = .ok (.iload_n 2, 1) := by decide +kernel
theorem dX7_enough_29 : decode cX7_enough 29 = .ok (.aload_n 0, 1) := by decide +kernel
theorem dX7_enough_30 : decode cX7_enough 30 = .ok (.invokevirtual 282, 3) := by decide +kernel
theorem dX7_enough_33 : decode cX7_enough 33 = .ok (.iconst (-1), 1) := by decide +kernel
theorem dX7_enough_34 : decode cX7_enough 34 = .ok (.ixor, 1) := by decide +kernel
theorem dX7_enough_35 : decode cX7_enough 35 = .ok (.iand, 1) := by decide +kernel
theorem dX7_enough_36 : decode cX7_enough 36 = .ok (.ifCond .ne 24, 3) := by decide +kernel
theorem dX7_enough_39 : decode cX7_enough 39 = .ok (.iload_n 2, 1) := by decide +kernel
theorem dX7_enough_40 : decode cX7_enough 40 = .ok (.invokestatic 285, 3) := by decide +kernel
theorem dX7_enough_43 : decode cX7_enough 43 = .ok (.iload_n 1, 1) := by decide +kernel
theorem dX7_enough_44 : decode cX7_enough 44 = .ok (.invokestatic 285, 3) := by decide +kernel
theorem dX7_enough_47 : decode cX7_enough 47 = .ok (.if_icmp .gt 13, 3) := by decide +kernel
theorem dX7_enough_50 : decode cX7_enough 50 = .ok (.aload_n 0, 1) := by decide +kernel
theorem dX7_enough_51 : decode cX7_enough 51 = .ok (.iload_n 2, 1) := by decide +kernel
theorem dX7_enough_52 : decode cX7_enough 52 = .ok (.invokevirtual 264, 3) := by decide +kernel
theorem dX7_enough_55 : decode cX7_enough 55 = .ok (.ifCond .eq 5, 3) := by decide +kernel
theorem dX7_enough_58 : decode cX7_enough 58 = .ok (.iload_n 2, 1) := by decide +kernel
theorem dX7_enough_59 : decode cX7_enough 59 = .ok (.istore_n 1, 1) := by decide +kernel
theorem dX7_enough_60 : decode cX7_enough 60 = .ok (.iinc 2 (-1), 3) := by decide +kernel
theorem dX7_enough_63 : decode cX7_enough 63 = .ok (.goto (-39), 3) := by decide +kernel
theorem dX7_enough_66 : decode cX7_enough 66 = .ok (.iload_n 1, 1) := by decide +kernel
theorem dX7_enough_67 : decode cX7_enough 67 = .ok (.ireturn, 1) := by decide +kernel
theorem dX7_lacking_0 : decode cX7_lacking 0 = .ok (.aload_n 0, 1) := by decide +kernel
theorem dX7_lacking_1 : decode cX7_lacking 1 = .ok (.iconst 0, 1) := by decide +kernel
theorem dX7_lacking_2 : decode cX7_lacking 2 = .ok (.putfield 42, 3) := by decide +kernel
theorem dX7_lacking_5 : decode cX7_lacking 5 = .ok (.aload_n 0, 1) := by decide +kernel
theorem dX7_lacking_6 : decode cX7_lacking 6 = .ok (.getfield 207, 3) := by decide +kernel
theorem dX7_lacking_9 : decode cX7_lacking 9 = .ok (.ifCond .eq 22, 3) := by decide +kernel
theorem dX7_lacking_12 : decode cX7_lacking 12 = .ok (.aload_n 0, 1) := by decide +kernel
theorem dX7_lacking_13 : decode cX7_lacking 13 = .ok (.invokevirtual 255, 3) := by decide +kernel
theorem dX7_lacking_16 : decode cX7_lacking 16 = .ok (.iconst (-1), 1) := by decide +kernel
theorem dX7_lacking_17 : decode cX7_lacking 17 = .ok (.if_icmp .ne 14, 3) := by decide +kernel
theorem dX7_lacking_20 : decode cX7_lacking 20 = .ok (.aload_n 0, 1) := by decide +kernel
theorem dX7_lacking_21 : decode cX7_lacking 21 = .ok (.aload_n 0, 1) := by decide +kernel
theorem dX7_lacking_22 : decode cX7_lacking 22 = .ok (.invokevirtual 261, 3) := by decide +kernel
theorem dX7_lacking_25 : decode cX7_lacking 25 = .ok (.invokevirtual 264, 3) := by decide +kernel
theorem dX7_lacking_28 : decode cX7_lacking 28 = .ok (.ifCond .eq 5, 3) := by decide +kernel
theorem dX7_lacking_31 : decode cX7_lacking 31 = .ok (.iconst (-1), 1) := by decide +kernel
theorem dX7_lacking_32 : decode cX7_lacking 32 = .ok (.ireturn, 1) := by decide +kernel
theorem dX7_lacking_33 : decode cX7_lacking 33 = .ok (.iconst 0, 1) := by decide +kernel
theorem dX7_lacking_34 : decode cX7_lacking 34 = .ok (.istore_n 1, 1) := by decide +kernel
theorem dX7_lacking_35 : decode cX7_lacking 35 = .ok (.iload_n 1, 1) := by decide +kernel
theorem dX7_lacking_36 : decode cX7_lacking 36 = .ok (.bipush 8, 2) := by decide +kernel
theorem dX7_lacking_38 : decode cX7_lacking 38 = .ok (.if_icmp .ge 124, 3) := by decide +kernel
theorem dX7_lacking_41 : decode cX7_lacking 41 = .ok (.aload_n 0, 1) := by decide +kernel
theorem dX7_lacking_42 : decode cX7_lacking 42 = .ok (.aload_n 0, 1) := by decide +kernel
theorem dX7_lacking_43 : decode cX7_lacking 43 = .ok (.getfield 20, 3) := by decide +kernel
theorem dX7_lacking_46 : decode cX7_lacking 46 = .ok (.iconst 3, 1) := by decide +kernel
theorem dX7_lacking_47 : decode cX7_lacking 47 = .ok (.iaload, 1) := by decide +kernel
theorem dX7_lacking_48 : decode cX7_lacking 48 = .ok (.aload_n 0, 1) := by decide +kernel
theorem dX7_lacking_49 : decode cX7_lacking 49 = .ok (.invokevirtual 261, 3) := by decide +kernel
theorem dX7_lacking_52 : decode cX7_lacking 52 = .ok (.invokevirtual 251, 3) := by decide +kernel
theorem dX7_lacking_55 : decode cX7_lacking 55 = .ok (.istore_n 2, 1) := by decide +kernel
theorem dX7_lacking_56 : decode cX7_lacking 56 = .ok (.iconst 0, 1) := by decide +kernel
theorem dX7_lacking_57 : decode cX7_lacking 57 = .ok (.istore_n 3, 1) := by decide +kernel
theorem dX7_lacking_58 : decode cX7_lacking 58 = .ok (.iload_n 3, 1) := by decide +kernel
theorem dX7_lacking_59 : decode cX7_lacking 59 = .ok (.bipush 9, 2) := by decide +kernel
theorem dX7_lacking_61 : decode cX7_lacking 61 = .ok (.if_icmp .ge 25, 3) := by decide +kernel
theorem dX7_lacking_64 : decode cX7_lacking 64 = .ok (.aload_n 0, 1) := by decide +kernel
theorem dX7_lacking_65 : decode cX7_lacking 65 = .ok (.getfield 36, 3) := by decide +kernel
theorem dX7_lacking_68 : decode cX7_lacking 68 = .ok (.iload_n 3, 1) := by decide +kernel
theorem dX7_lacking_69 : decode cX7_lacking 69 = .ok (.iload_n 3, 1) := by decide +kernel
theorem dX7_lacking_70 : decode cX7_lacking 70 = .ok (.iload_n 1, 1) := by decide +kernel
theorem dX7_lacking_71 : decode cX7_lacking 71 = .ok (.if_icmp .ne 7, 3) := by decide +kernel
theorem dX7_lacking_74 : decode cX7_lacking 74 = .ok (.lconst 1, 1) := by decide +kernel
theorem dX7_lacking_75 : decode cX7_lacking 75 = .ok (.goto 4, 3) := by decide +kernel
theorem dX7_lacking_78 : decode cX7_lacking 78 = .ok (.lconst 0, 1) := by decide +kernel
theorem dX7_lacking_79 : decode cX7_lacking 79 = .ok (.lastore, 1) := by decide +kernel
theorem dX7_lacking_80 : decode cX7_lacking 80 = .ok (.iinc 3 1, 3) := by decide +kernel
theorem dX7_lacking_83 : decode cX7_lacking 83 = .ok (.goto (-25), 3) := by decide +kernel
theorem dX7_lacking_86 : decode cX7_lacking 86 = .ok (.aload_n 0, 1) := by decide +kernel
theorem dX7_lacking_87 : decode cX7_lacking 87 = .ok (.iload_n 1, 1) := by decide +kernel
theorem dX7_lacking_88 : decode cX7_lacking 88 = .ok (.iconst (-1), 1) := by decide +kernel
theorem dX7_lacking_89 : decode cX7_lacking 89 = .ok (.invokevirtual 258, 3) := by decide +kernel
theorem dX7_lacking_92 : decode cX7_lacking 92 = .ok (.ifCond .eq 6, 3) := by decide +kernel
theorem dX7_lacking_95 : decode cX7_lacking 95 = .ok (.goto 61, 3) := by decide +kernel
theorem dX7_lacking_98 : decode cX7_lacking 98 = .ok (.iconst 0, 1) := by decide +kernel
theorem dX7_lacking_99 : decode cX7_lacking 99 = .ok (.istore_n 3, 1) := by decide +kernel
theorem dX7_lacking_100 : decode cX7_lacking 100 = .ok (.iload_n 3, 1) := by decide +kernel
theorem dX7_lacking_101 : decode cX7_lacking 101 = .ok (.bipush 9, 2) := by decide +kernel
theorem dX7_lacking_103 : decode cX7_lacking 103 = .ok (.if_icmp .ge 25, 3) := by decide +kernel
theorem dX7_lacking_106 : decode cX7_lacking 106 = .ok (.aload_n 0, 1) := by decide +kernel
theorem dX7_lacking_107 : decode cX7_lacking 107 = .ok (.getfield 36, 3) := by decide +kernel
theorem dX7_lacking_110 : decode cX7_lacking 110 = .ok (.iload_n 3, 1) := by decide +kernel
theorem dX7_lacking_111 : decode cX7_lacking 111 = .ok (.iload_n 3, 1) := by decide +kernel
theorem dX7_lacking_112 : decode cX7_lacking 112 = .ok (.iload_n 1, 1) := by decide +kernel
