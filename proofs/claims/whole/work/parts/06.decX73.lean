theorem dX7_lacking_113 : decode cX7_lacking 113 = .ok (.if_icmp .ne 7, 3) := by decide +kernel
theorem dX7_lacking_116 : decode cX7_lacking 116 = .ok (.lconst 1, 1) := by decide +kernel
theorem dX7_lacking_117 : decode cX7_lacking 117 = .ok (.goto 4, 3) := by decide +kernel
theorem dX7_lacking_120 : decode cX7_lacking 120 = .ok (.lconst 0, 1) := by decide +kernel
theorem dX7_lacking_121 : decode cX7_lacking 121 = .ok (.lastore, 1) := by decide +kernel
theorem dX7_lacking_122 : decode cX7_lacking 122 = .ok (.iinc 3 1, 3) := by decide +kernel
theorem dX7_lacking_125 : decode cX7_lacking 125 = .ok (.goto (-25), 3) := by decide +kernel
theorem dX7_lacking_128 : decode cX7_lacking 128 = .ok (.aload_n 0, 1) := by decide +kernel
theorem dX7_lacking_129 : decode cX7_lacking 129 = .ok (.invokevirtual 241, 3) := by decide +kernel
theorem dX7_lacking_132 : decode cX7_lacking 132 = .ok (.ifCond .eq 24, 3) := by decide +kernel
theorem dX7_lacking_135 : decode cX7_lacking 135 = .ok (.aload_n 0, 1) := by decide +kernel
theorem dX7_lacking_136 : decode cX7_lacking 136 = .ok (.aload_n 0, 1) := by decide +kernel
theorem dX7_lacking_137 : decode cX7_lacking 137 = .ok (.getfield 20, 3) := by decide +kernel
theorem dX7_lacking_140 : decode cX7_lacking 140 = .ok (.iconst 1, 1) := by decide +kernel
theorem dX7_lacking_141 : decode cX7_lacking 141 = .ok (.iaload, 1) := by decide +kernel
theorem dX7_lacking_142 : decode cX7_lacking 142 = .ok (.aload_n 0, 1) := by decide +kernel
theorem dX7_lacking_143 : decode cX7_lacking 143 = .ok (.getfield 20, 3) := by decide +kernel
theorem dX7_lacking_146 : decode cX7_lacking 146 = .ok (.iconst 2, 1) := by decide +kernel
theorem dX7_lacking_147 : decode cX7_lacking 147 = .ok (.iaload, 1) := by decide +kernel
theorem dX7_lacking_148 : decode cX7_lacking 148 = .ok (.invokevirtual 258, 3) := by decide +kernel
theorem dX7_lacking_151 : decode cX7_lacking 151 = .ok (.ifCond .eq 5, 3) := by decide +kernel
theorem dX7_lacking_154 : decode cX7_lacking 154 = .ok (.iload_n 1, 1) := by decide +kernel
theorem dX7_lacking_155 : decode cX7_lacking 155 = .ok (.ireturn, 1) := by decide +kernel
theorem dX7_lacking_156 : decode cX7_lacking 156 = .ok (.iinc 1 1, 3) := by decide +kernel
theorem dX7_lacking_159 : decode cX7_lacking 159 = .ok (.goto (-124), 3) := by decide +kernel
theorem dX7_lacking_162 : decode cX7_lacking 162 = .ok (.iconst (-1), 1) := by decide +kernel
theorem dX7_lacking_163 : decode cX7_lacking 163 = .ok (.ireturn, 1) := by decide +kernel
theorem dX7_strange_0 : decode cX7_strange 0 = .ok (.aload_n 0, 1) := by decide +kernel
theorem dX7_strange_1 : decode cX7_strange 1 = .ok (.iconst 0, 1) := by decide +kernel
theorem dX7_strange_2 : decode cX7_strange 2 = .ok (.putfield 42, 3) := by decide +kernel
theorem dX7_strange_5 : decode cX7_strange 5 = .ok (.aload_n 0, 1) := by decide +kernel
theorem dX7_strange_6 : decode cX7_strange 6 = .ok (.getfield 207, 3) := by decide +kernel
theorem dX7_strange_9 : decode cX7_strange 9 = .ok (.ifCond .eq 20, 3) := by decide +kernel
theorem dX7_strange_12 : decode cX7_strange 12 = .ok (.iload_n 1, 1) := by decide +kernel
theorem dX7_strange_13 : decode cX7_strange 13 = .ok (.iconst 0, 1) := by decide +kernel
theorem dX7_strange_14 : decode cX7_strange 14 = .ok (.iconst 2, 1) := by decide +kernel
theorem dX7_strange_15 : decode cX7_strange 15 = .ok (.invokestatic 176, 3) := by decide +kernel
theorem dX7_strange_18 : decode cX7_strange 18 = .ok (.ifCond .eq 11, 3) := by decide +kernel
theorem dX7_strange_21 : decode cX7_strange 21 = .ok (.aload_n 0, 1) := by decide +kernel
theorem dX7_strange_22 : decode cX7_strange 22 = .ok (.invokevirtual 255, 3) := by decide +kernel
theorem dX7_strange_25 : decode cX7_strange 25 = .ok (.iconst (-1), 1) := by decide +kernel
theorem dX7_strange_26 : decode cX7_strange 26 = .ok (.if_icmp .eq 5, 3) := by decide +kernel
theorem dX7_strange_29 : decode cX7_strange 29 = .ok (.iconst (-1), 1) := by decide +kernel
theorem dX7_strange_30 : decode cX7_strange 30 = .ok (.ireturn, 1) := by decide +kernel
theorem dX7_strange_31 : decode cX7_strange 31 = .ok (.iconst 0, 1) := by decide +kernel
theorem dX7_strange_32 : decode cX7_strange 32 = .ok (.istore_n 2, 1) := by decide +kernel
theorem dX7_strange_33 : decode cX7_strange 33 = .ok (.iload_n 2, 1) := by decide +kernel
theorem dX7_strange_34 : decode cX7_strange 34 = .ok (.aload_n 0, 1) := by decide +kernel
theorem dX7_strange_35 : decode cX7_strange 35 = .ok (.invokevirtual 276, 3) := by decide +kernel
theorem dX7_strange_38 : decode cX7_strange 38 = .ok (.if_icmp .ge 92, 3) := by decide +kernel
theorem dX7_strange_41 : decode cX7_strange 41 = .ok (.iconst 0, 1) := by decide +kernel
theorem dX7_strange_42 : decode cX7_strange 42 = .ok (.istore_n 3, 1) := by decide +kernel
theorem dX7_strange_43 : decode cX7_strange 43 = .ok (.iload_n 3, 1) := by decide +kernel
theorem dX7_strange_44 : decode cX7_strange 44 = .ok (.iconst 4, 1) := by decide +kernel
theorem dX7_strange_45 : decode cX7_strange 45 = .ok (.if_icmp .ge 79, 3) := by decide +kernel
theorem dX7_strange_48 : decode cX7_strange 48 = .ok (.iconst 0, 1) := by decide +kernel
theorem dX7_strange_49 : decode cX7_strange 49 = .ok (.istore 4, 2) := by decide +kernel
theorem dX7_strange_51 : decode cX7_strange 51 = .ok (.iload 4, 2) := by decide +kernel
theorem dX7_strange_53 : decode cX7_strange 53 = .ok (.bipush 8, 2) := by decide +kernel
theorem dX7_strange_55 : decode cX7_strange 55 = .ok (.if_icmp .ge 63, 3) := by decide +kernel
theorem dX7_strange_58 : decode cX7_strange 58 = .ok (.aload_n 0, 1) := by decide +kernel
theorem dX7_strange_59 : decode cX7_strange 59 = .ok (.iload 4, 2) := by decide +kernel
theorem dX7_strange_61 : decode cX7_strange 61 = .ok (.iload_n 3, 1) := by decide +kernel
theorem dX7_strange_62 : decode cX7_strange 62 = .ok (.iload_n 2, 1) := by decide +kernel
theorem dX7_strange_63 : decode cX7_strange 63 = .ok (.invokevirtual 279, 3) := by decide +kernel
theorem dX7_strange_66 : decode cX7_strange 66 = .ok (.ifCond .eq 46, 3) := by decide +kernel
theorem dX7_strange_69 : decode cX7_strange 69 = .ok (.aload_n 0, 1) := by decide +kernel
theorem dX7_strange_70 : decode cX7_strange 70 = .ok (.iconst 0, 1) := by decide +kernel
theorem dX7_strange_71 : decode cX7_strange 71 = .ok (.invokevirtual 272, 3) := by decide +kernel
theorem dX7_strange_74 : decode cX7_strange 74 = .ok (.lconst 0, 1) := by decide +kernel
theorem dX7_strange_75 : decode cX7_strange 75 = .ok (.lcmp, 1) := by decide +kernel
theorem dX7_strange_76 : decode cX7_strange 76 = .ok (.ifCond .lt 16, 3) := by decide +kernel
theorem dX7_strange_79 : decode cX7_strange 79 = .ok (.aload_n 0, 1) := by decide +kernel
theorem dX7_strange_80 : decode cX7_strange 80 = .ok (.iconst 1, 1) := by decide +kernel
theorem dX7_strange_81 : decode cX7_strange 81 = .ok (.invokevirtual 272, 3) := by decide +kernel
theorem dX7_strange_84 : decode cX7_strange 84 = .ok (.lconst 1, 1) := by decide +kernel
theorem dX7_strange_85 : decode cX7_strange 85 = .ok (.lcmp, 1) := by decide +kernel
theorem dX7_strange_86 : decode cX7_strange 86 = .ok (.ifCond .ne 6, 3) := by decide +kernel
theorem dX7_strange_89 : decode cX7_strange 89 = .ok (.goto 23, 3) := by decide +kernel
theorem dX7_strange_92 : decode cX7_strange 92 = .ok (.iload_n 1, 1) := by decide +kernel
theorem dX7_strange_93 : decode cX7_strange 93 = .ok (.ifCond .ne 8, 3) := by decide +kernel
theorem dX7_strange_96 : decode cX7_strange 96 = .ok (.iload 4, 2) := by decide +kernel
theorem dX7_strange_98 : decode cX7_strange 98 = .ok (.goto 13, 3) := by decide +kernel
theorem dX7_strange_101 : decode cX7_strange 101 = .ok (.iload_n 1, 1) := by decide +kernel
theorem dX7_strange_102 : decode cX7_strange 102 = .ok (.iconst 1, 1) := by decide +kernel
theorem dX7_strange_103 : decode cX7_strange 103 = .ok (.if_icmp .ne 7, 3) := by decide +kernel
theorem dX7_strange_106 : decode cX7_strange 106 = .ok (.iload_n 3, 1) := by decide +kernel
theorem dX7_strange_107 : decode cX7_strange 107 = .ok (.goto 4, 3) := by decide +kernel
theorem dX7_strange_110 : decode cX7_strange 110 = .ok (.iload_n 2, 1) := by decide +kernel
theorem dX7_strange_111 : decode cX7_strange 111 = .ok (.ireturn, 1) := by decide +kernel
theorem dX7_strange_112 : decode cX7_strange 112 = .ok (.iinc 4 1, 3) := by decide +kernel
theorem dX7_strange_115 : decode cX7_strange 115 = .ok (.goto (-64), 3) := by decide +kernel
theorem dX7_strange_118 : decode cX7_strange 118 = .ok (.iinc 3 1, 3) := by decide +kernel
theorem dX7_strange_121 : decode cX7_strange 121 = .ok (.goto (-78), 3) := by decide +kernel
theorem dX7_strange_124 : decode cX7_strange 124 = .ok (.iinc 2 1, 3) := by decide +kernel
theorem dX7_strange_127 : decode cX7_strange 127 = .ok (.goto (-94), 3) := by decide +kernel
theorem dX7_strange_130 : decode cX7_strange 130 = .ok (.iconst (-1), 1) := by decide +kernel
theorem dX7_strange_131 : decode cX7_strange 131 = .ok (.ireturn, 1) := by decide +kernel
theorem dX7_put_0 : decode cX7_put 0 = .ok (.aload_n 0, 1) := by decide +kernel
theorem dX7_put_1 : decode cX7_put 1 = .ok (.iconst 0, 1) := by decide +kernel
theorem dX7_put_2 : decode cX7_put 2 = .ok (.putfield 42, 3) := by decide +kernel
theorem dX7_put_5 : decode cX7_put 5 = .ok (.iload_n 1, 1) := by decide +kernel
theorem dX7_put_6 : decode cX7_put 6 = .ok (.iconst 0, 1) := by decide +kernel
theorem dX7_put_7 : decode cX7_put 7 = .ok (.aload_n 0, 1) := by decide +kernel
theorem dX7_put_8 : decode cX7_put 8 = .ok (.getfield 205, 3) := by decide +kernel
theorem dX7_put_11 : decode cX7_put 11 = .ok (.iconst 1, 1) := by decide +kernel
theorem dX7_put_12 : decode cX7_put 12 = .ok (.isub, 1) := by decide +kernel
theorem dX7_put_13 : decode cX7_put 13 = .ok (.invokestatic 176, 3) := by decide +kernel
theorem dX7_put_16 : decode cX7_put 16 = .ok (.ifCond .eq 43, 3) := by decide +kernel
theorem dX7_put_19 : decode cX7_put 19 = .ok (.iload_n 2, 1) := by decide +kernel
theorem dX7_put_20 : decode cX7_put 20 = .ok (.aload_n 0, 1) := by decide +kernel
theorem dX7_put_21 : decode cX7_put 21 = .ok (.iload_n 1, 1) := by decide +kernel
theorem dX7_put_22 : decode cX7_put 22 = .ok (.iconst 0, 1) := by decide +kernel
theorem dX7_put_23 : decode cX7_put 23 = .ok (.invokevirtual 214, 3) := by decide +kernel
theorem dX7_put_26 : decode cX7_put 26 = .ok (.iconst 3, 1) := by decide +kernel
theorem dX7_put_27 : decode cX7_put 27 = .ok (.if_icmp .ne 7, 3) := by decide +kernel
theorem dX7_put_30 : decode cX7_put 30 = .ok (.iconst 2, 1) := by decide +kernel
theorem dX7_put_31 : decode cX7_put 31 = .ok (.goto 4, 3) := by decide +kernel
theorem dX7_put_34 : decode cX7_put 34 = .ok (.iconst 0, 1) := by decide +kernel
theorem dX7_put_35 : decode cX7_put 35 = .ok (.aload_n 0, 1) := by decide +kernel
theorem dX7_put_36 : decode cX7_put 36 = .ok (.iload_n 1, 1) := by decide +kernel
theorem dX7_put_37 : decode cX7_put 37 = .ok (.iconst 0, 1) := by decide +kernel
theorem dX7_put_38 : decode cX7_put 38 = .ok (.invokevirtual 214, 3) := by decide +kernel
theorem dX7_put_41 : decode cX7_put 41 = .ok (.iconst 3, 1) := by decide +kernel
theorem dX7_put_42 : decode cX7_put 42 = .ok (.if_icmp .ne 8, 3) := by decide +kernel
theorem dX7_put_45 : decode cX7_put 45 = .ok (.bipush 9, 2) := by decide +kernel
theorem dX7_put_47 : decode cX7_put 47 = .ok (.goto 6, 3) := by decide +kernel
theorem dX7_put_50 : decode cX7_put 50 = .ok (.sipush 999, 3) := by decide +kernel
theorem dX7_put_53 : decode cX7_put 53 = .ok (.invokestatic 176, 3) := by decide +kernel
theorem dX7_put_56 : decode cX7_put 56 = .ok (.ifCond .ne 5, 3) := by decide +kernel
theorem dX7_put_59 : decode cX7_put 59 = .ok (.iconst 0, 1) := by decide +kernel
theorem dX7_put_60 : decode cX7_put 60 = .ok (.ireturn, 1) := by decide +kernel
theorem dX7_put_61 : decode cX7_put 61 = .ok (.aload_n 0, 1) := by decide +kernel
theorem dX7_put_62 : decode cX7_put 62 = .ok (.getfield 211, 3) := by decide +kernel
theorem dX7_put_65 : decode cX7_put 65 = .ok (.bipush 50, 2) := by decide +kernel
theorem dX7_put_67 : decode cX7_put 67 = .ok (.if_icmp .ne 55, 3) := by decide +kernel
theorem dX7_put_70 : decode cX7_put 70 = .ok (.iconst 1, 1) := by decide +kernel
theorem dX7_put_71 : decode cX7_put 71 = .ok (.istore_n 3, 1) := by decide +kernel
theorem dX7_put_72 : decode cX7_put 72 = .ok (.iload_n 3, 1) := by decide +kernel
theorem dX7_put_73 : decode cX7_put 73 = .ok (.bipush 50, 2) := by decide +kernel
theorem dX7_put_75 : decode cX7_put 75 = .ok (.if_icmp .ge 37, 3) := by decide +kernel
theorem dX7_put_78 : decode cX7_put 78 = .ok (.aload_n 0, 1) := by decide +kernel
theorem dX7_put_79 : decode cX7_put 79 = .ok (.getfield 26, 3) := by decide +kernel
theorem dX7_put_82 : decode cX7_put 82 = .ok (.iload_n 3, 1) := by decide +kernel
theorem dX7_put_83 : decode cX7_put 83 = .ok (.iconst 1, 1) := by decide +kernel
theorem dX7_put_84 : decode cX7_put 84 = .ok (.isub, 1) := by decide +kernel
theorem dX7_put_85 : decode cX7_put 85 = .ok (.aload_n 0, 1) := by decide +kernel
theorem dX7_put_86 : decode cX7_put 86 = .ok (.getfield 26, 3) := by decide +kernel
theorem dX7_put_89 : decode cX7_put 89 = .ok (.iload_n 3, 1) := by decide +kernel
theorem dX7_put_90 : decode cX7_put 90 = .ok (.iaload, 1) := by decide +kernel
theorem dX7_put_91 : decode cX7_put 91 = .ok (.iastore, 1) := by decide +kernel
theorem dX7_put_92 : decode cX7_put 92 = .ok (.aload_n 0, 1) := by decide +kernel
theorem dX7_put_93 : decode cX7_put 93 = .ok (.getfield 29, 3) := by decide +kernel
theorem dX7_put_96 : decode cX7_put 96 = .ok (.iload_n 3, 1) := by decide +kernel
theorem dX7_put_97 : decode cX7_put 97 = .ok (.iconst 1, 1) := by decide +kernel
theorem dX7_put_98 : decode cX7_put 98 = .ok (.isub, 1) := by decide +kernel
theorem dX7_put_99 : decode cX7_put 99 = .ok (.aload_n 0, 1) := by decide +kernel
theorem dX7_put_100 : decode cX7_put 100 = .ok (.getfield 29, 3) := by decide +kernel
theorem dX7_put_103 : decode cX7_put 103 = .ok (.iload_n 3, 1) := by decide +kernel
theorem dX7_put_104 : decode cX7_put 104 = .ok (.iaload, 1) := by decide +kernel
theorem dX7_put_105 : decode cX7_put 105 = .ok (.iastore, 1) := by decide +kernel
theorem dX7_put_106 : decode cX7_put 106 = .ok (.iinc 3 1, 3) := by decide +kernel
theorem dX7_put_109 : decode cX7_put 109 = .ok (.goto (-37), 3) := by decide +kernel
theorem dX7_put_112 : decode cX7_put 112 = .ok (.aload_n 0, 1) := by decide +kernel
theorem dX7_put_113 : decode cX7_put 113 = .ok (.dup, 1) := by decide +kernel
theorem dX7_put_114 : decode cX7_put 114 = .ok (.getfield 211, 3) := by decide +kernel
theorem dX7_put_117 : decode cX7_put 117 = .ok (.iconst 1, 1) := by decide +kernel
theorem dX7_put_118 : decode cX7_put 118 = .ok (.isub, 1) := by decide +kernel
theorem dX7_put_119 : decode cX7_put 119 = .ok (.putfield 211, 3) := by decide +kernel
theorem dX7_put_122 : decode cX7_put 122 = .ok (.aload_n 0, 1) := by decide +kernel
theorem dX7_put_123 : decode cX7_put 123 = .ok (.getfield 26, 3) := by decide +kernel
theorem dX7_put_126 : decode cX7_put 126 = .ok (.aload_n 0, 1) := by decide +kernel
theorem dX7_put_127 : decode cX7_put 127 = .ok (.getfield 211, 3) := by decide +kernel
theorem dX7_put_130 : decode cX7_put 130 = .ok (.iload_n 1, 1) := by decide +kernel
theorem dX7_put_131 : decode cX7_put 131 = .ok (.iastore, 1) := by decide +kernel
theorem dX7_put_132 : decode cX7_put 132 = .ok (.aload_n 0, 1) := by decide +kernel
theorem dX7_put_133 : decode cX7_put 133 = .ok (.getfield 29, 3) := by decide +kernel
theorem dX7_put_136 : decode cX7_put 136 = .ok (.aload_n 0, 1) := by decide +kernel
theorem dX7_put_137 : decode cX7_put 137 = .ok (.getfield 211, 3) := by decide +kernel
theorem dX7_put_140 : decode cX7_put 140 = .ok (.aload_n 0, 1) := by decide +kernel
theorem dX7_put_141 : decode cX7_put 141 = .ok (.iload_n 1, 1) := by decide +kernel
theorem dX7_put_142 : decode cX7_put 142 = .ok (.iconst 4, 1) := by decide +kernel
theorem dX7_put_143 : decode cX7_put 143 = .ok (.invokevirtual 214, 3) := by decide +kernel
theorem dX7_put_146 : decode cX7_put 146 = .ok (.iastore, 1) := by decide +kernel
theorem dX7_put_147 : decode cX7_put 147 = .ok (.aload_n 0, 1) := by decide +kernel
theorem dX7_put_148 : decode cX7_put 148 = .ok (.dup, 1) := by decide +kernel
theorem dX7_put_149 : decode cX7_put 149 = .ok (.getfield 211, 3) := by decide +kernel
theorem dX7_put_152 : decode cX7_put 152 = .ok (.iconst 1, 1) := by decide +kernel
theorem dX7_put_153 : decode cX7_put 153 = .ok (.iadd, 1) := by decide +kernel
theorem dX7_put_154 : decode cX7_put 154 = .ok (.putfield 211, 3) := by decide +kernel
theorem dX7_put_157 : decode cX7_put 157 = .ok (.aload_n 0, 1) := by decide +kernel
theorem dX7_put_158 : decode cX7_put 158 = .ok (.getfield 13, 3) := by decide +kernel
theorem dX7_put_161 : decode cX7_put 161 = .ok (.bipush 7, 2) := by decide +kernel
theorem dX7_put_163 : decode cX7_put 163 = .ok (.iload_n 1, 1) := by decide +kernel
theorem dX7_put_164 : decode cX7_put 164 = .ok (.imul, 1) := by decide +kernel
theorem dX7_put_165 : decode cX7_put 165 = .ok (.iconst 4, 1) := by decide +kernel
theorem dX7_put_166 : decode cX7_put 166 = .ok (.iadd, 1) := by decide +kernel
theorem dX7_put_167 : decode cX7_put 167 = .ok (.iload_n 2, 1) := by decide +kernel
theorem dX7_put_168 : decode cX7_put 168 = .ok (.iastore, 1) := by decide +kernel
theorem dX7_put_169 : decode cX7_put 169 = .ok (.iconst 1, 1) := by decide +kernel
theorem dX7_put_170 : decode cX7_put 170 = .ok (.ireturn, 1) := by decide +kernel
theorem dX7_undo_0 : decode cX7_undo 0 = .ok (.aload_n 0, 1) := by decide +kernel
theorem dX7_undo_1 : decode cX7_undo 1 = .ok (.iconst 0, 1) := by decide +kernel
theorem dX7_undo_2 : decode cX7_undo 2 = .ok (.putfield 42, 3) := by decide +kernel
theorem dX7_undo_5 : decode cX7_undo 5 = .ok (.aload_n 0, 1) := by decide +kernel
theorem dX7_undo_6 : decode cX7_undo 6 = .ok (.getfield 211, 3) := by decide +kernel
theorem dX7_undo_9 : decode cX7_undo 9 = .ok (.ifCond .ne 5, 3) := by decide +kernel
theorem dX7_undo_12 : decode cX7_undo 12 = .ok (.iconst (-1), 1) := by decide +kernel
theorem dX7_undo_13 : decode cX7_undo 13 = .ok (.ireturn, 1) := by decide +kernel
theorem dX7_undo_14 : decode cX7_undo 14 = .ok (.aload_n 0, 1) := by decide +kernel
theorem dX7_undo_15 : decode cX7_undo 15 = .ok (.dup, 1) := by decide +kernel
theorem dX7_undo_16 : decode cX7_undo 16 = .ok (.getfield 211, 3) := by decide +kernel
theorem dX7_undo_19 : decode cX7_undo 19 = .ok (.iconst 1, 1) := by decide +kernel
theorem dX7_undo_20 : decode cX7_undo 20 = .ok (.isub, 1) := by decide +kernel
theorem dX7_undo_21 : decode cX7_undo 21 = .ok (.putfield 211, 3) := by decide +kernel
theorem dX7_undo_24 : decode cX7_undo 24 = .ok (.aload_n 0, 1) := by decide +kernel
theorem dX7_undo_25 : decode cX7_undo 25 = .ok (.getfield 13, 3) := by decide +kernel
theorem dX7_undo_28 : decode cX7_undo 28 = .ok (.bipush 7, 2) := by decide +kernel
theorem dX7_undo_30 : decode cX7_undo 30 = .ok (.aload_n 0, 1) := by decide +kernel
theorem dX7_undo_31 : decode cX7_undo 31 = .ok (.getfield 26, 3) := by decide +kernel
theorem dX7_undo_34 : decode cX7_undo 34 = .ok (.aload_n 0, 1) := by decide +kernel
theorem dX7_undo_35 : decode cX7_undo 35 = .ok (.getfield 211, 3) := by decide +kernel
theorem dX7_undo_38 : decode cX7_undo 38 = .ok (.iaload, 1) := by decide +kernel
theorem dX7_undo_39 : decode cX7_undo 39 = .ok (.imul, 1) := by decide +kernel
theorem dX7_undo_40 : decode cX7_undo 40 = .ok (.iconst 4, 1) := by decide +kernel
theorem dX7_undo_41 : decode cX7_undo 41 = .ok (.iadd, 1) := by decide +kernel
theorem dX7_undo_42 : decode cX7_undo 42 = .ok (.aload_n 0, 1) := by decide +kernel
theorem dX7_undo_43 : decode cX7_undo 43 = .ok (.getfield 29, 3) := by decide +kernel
theorem dX7_undo_46 : decode cX7_undo 46 = .ok (.aload_n 0, 1) := by decide +kernel
theorem dX7_undo_47 : decode cX7_undo 47 = .ok (.getfield 211, 3) := by decide +kernel
theorem dX7_undo_50 : decode cX7_undo 50 = .ok (.iaload, 1) := by decide +kernel
theorem dX7_undo_51 : decode cX7_undo 51 = .ok (.iastore, 1) := by decide +kernel
theorem dX7_undo_52 : decode cX7_undo 52 = .ok (.aload_n 0, 1) := by decide +kernel
theorem dX7_undo_53 : decode cX7_undo 53 = .ok (.getfield 26, 3) := by decide +kernel
theorem dX7_undo_56 : decode cX7_undo 56 = .ok (.aload_n 0, 1) := by decide +kernel
theorem dX7_undo_57 : decode cX7_undo 57 = .ok (.getfield 211, 3) := by decide +kernel
theorem dX7_undo_60 : decode cX7_undo 60 = .ok (.iaload, 1) := by decide +kernel
theorem dX7_undo_61 : decode cX7_undo 61 = .ok (.ireturn, 1) := by decide +kernel
theorem dX7_count_0 : decode cX7_count 0 = .ok (.aload_n 0, 1) := by decide +kernel
theorem dX7_count_1 : decode cX7_count 1 = .ok (.iconst 0, 1) := by decide +kernel
theorem dX7_count_2 : decode cX7_count 2 = .ok (.putfield 42, 3) := by decide +kernel
theorem dX7_count_5 : decode cX7_count 5 = .ok (.iconst 0, 1) := by decide +kernel
theorem dX7_count_6 : decode cX7_count 6 = .ok (.istore_n 2, 1) := by decide +kernel
theorem dX7_count_7 : decode cX7_count 7 = .ok (.iload_n 1, 1) := by decide +kernel
theorem dX7_count_8 : decode cX7_count 8 = .ok (.tableswitch 126 0 4 #[36, 41, 49, 54, 121], 36) := by decide +kernel
theorem dX7_count_44 : decode cX7_count 44 = .ok (.aload_n 0, 1) := by decide +kernel
theorem dX7_count_45 : decode cX7_count 45 = .ok (.getfield 46, 3) := by decide +kernel
theorem dX7_count_48 : decode cX7_count 48 = .ok (.ireturn, 1) := by decide +kernel
theorem dX7_count_49 : decode cX7_count 49 = .ok (.aload_n 0, 1) := by decide +kernel
theorem dX7_count_50 : decode cX7_count 50 = .ok (.invokevirtual 282, 3) := by decide +kernel
theorem dX7_count_53 : decode cX7_count 53 = .ok (.invokestatic 285, 3) := by decide +kernel
theorem dX7_count_56 : decode cX7_count 56 = .ok (.ireturn, 1) := by decide +kernel
theorem dX7_count_57 : decode cX7_count 57 = .ok (.aload_n 0, 1) := by decide +kernel
theorem dX7_count_58 : decode cX7_count 58 = .ok (.invokevirtual 276, 3) := by decide +kernel
theorem dX7_count_61 : decode cX7_count 61 = .ok (.ireturn, 1) := by decide +kernel
theorem dX7_count_62 : decode cX7_count 62 = .ok (.aload_n 0, 1) := by decide +kernel
theorem dX7_count_63 : decode cX7_count 63 = .ok (.getfield 207, 3) := by decide +kernel
theorem dX7_count_66 : decode cX7_count 66 = .ok (.ifCond .eq 11, 3) := by decide +kernel
theorem dX7_count_69 : decode cX7_count 69 = .ok (.aload_n 0, 1) := by decide +kernel
theorem dX7_count_70 : decode cX7_count 70 = .ok (.invokevirtual 255, 3) := by decide +kernel
theorem dX7_count_73 : decode cX7_count 73 = .ok (.iconst (-1), 1) := by decide +kernel
theorem dX7_count_74 : decode cX7_count 74 = .ok (.if_icmp .eq 5, 3) := by decide +kernel
theorem dX7_count_77 : decode cX7_count 77 = .ok (.iconst 0, 1) := by decide +kernel
theorem dX7_count_78 : decode cX7_count 78 = .ok (.ireturn, 1) := by decide +kernel
theorem dX7_count_79 : decode cX7_count 79 = .ok (.iconst 0, 1) := by decide +kernel
theorem dX7_count_80 : decode cX7_count 80 = .ok (.istore_n 3, 1) := by decide +kernel
theorem dX7_count_81 : decode cX7_count 81 = .ok (.iload_n 3, 1) := by decide +kernel
theorem dX7_count_82 : decode cX7_count 82 = .ok (.iconst 4, 1) := by decide +kernel
theorem dX7_count_83 : decode cX7_count 83 = .ok (.if_icmp .ge 44, 3) := by decide +kernel
theorem dX7_count_86 : decode cX7_count 86 = .ok (.iconst 0, 1) := by decide +kernel
theorem dX7_count_87 : decode cX7_count 87 = .ok (.istore 4, 2) := by decide +kernel
theorem dX7_count_89 : decode cX7_count 89 = .ok (.iload 4, 2) := by decide +kernel
theorem dX7_count_91 : decode cX7_count 91 = .ok (.bipush 8, 2) := by decide +kernel
theorem dX7_count_93 : decode cX7_count 93 = .ok (.if_icmp .ge 28, 3) := by decide +kernel
theorem dX7_count_96 : decode cX7_count 96 = .ok (.iload_n 2, 1) := by decide +kernel
theorem dX7_count_97 : decode cX7_count 97 = .ok (.aload_n 0, 1) := by decide +kernel
theorem dX7_count_98 : decode cX7_count 98 = .ok (.iload 4, 2) := by decide +kernel
theorem dX7_count_100 : decode cX7_count 100 = .ok (.iload_n 3, 1) := by decide +kernel
theorem dX7_count_101 : decode cX7_count 101 = .ok (.iconst 0, 1) := by decide +kernel
theorem dX7_count_102 : decode cX7_count 102 = .ok (.invokevirtual 279, 3) := by decide +kernel
theorem dX7_count_105 : decode cX7_count 105 = .ok (.ifCond .eq 7, 3) := by decide +kernel
theorem dX7_count_108 : decode cX7_count 108 = .ok (.iconst 1, 1) := by decide +kernel
theorem dX7_count_109 : decode cX7_count 109 = .ok (.goto 4, 3) := by decide +kernel
theorem dX7_count_112 : decode cX7_count 112 = .ok (.iconst 0, 1) := by decide +kernel
theorem dX7_count_113 : decode cX7_count 113 = .ok (.iadd, 1) := by decide +kernel
theorem dX7_count_114 : decode cX7_count 114 = .ok (.istore_n 2, 1) := by decide +kernel
theorem dX7_count_115 : decode cX7_count 115 = .ok (.iinc 4 1, 3) := by decide +kernel
theorem dX7_count_118 : decode cX7_count 118 = .ok (.goto (-29), 3) := by decide +kernel
theorem dX7_count_121 : decode cX7_count 121 = .ok (.iinc 3 1, 3) := by decide +kernel
theorem dX7_count_124 : decode cX7_count 124 = .ok (.goto (-43), 3) := by decide +kernel
theorem dX7_count_127 : decode cX7_count 127 = .ok (.iload_n 2, 1) := by decide +kernel
theorem dX7_count_128 : decode cX7_count 128 = .ok (.ireturn, 1) := by decide +kernel
theorem dX7_count_129 : decode cX7_count 129 = .ok (.aload_n 0, 1) := by decide +kernel
theorem dX7_count_130 : decode cX7_count 130 = .ok (.getfield 211, 3) := by decide +kernel
theorem dX7_count_133 : decode cX7_count 133 = .ok (.ireturn, 1) := by decide +kernel
theorem dX7_count_134 : decode cX7_count 134 = .ok (.iconst (-1), 1) := by decide +kernel
theorem dX7_count_135 : decode cX7_count 135 = .ok (.ireturn, 1) := by decide +kernel
