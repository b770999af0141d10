theorem dX5_init_0 : decode cX5_init 0 = .ok (.aload_n 0, 1) := by decide +kernel
theorem dX5_init_1 : decode cX5_init 1 = .ok (.invokespecial 3, 3) := by decide +kernel
theorem dX5_init_4 : decode cX5_init 4 = .ok (.aload_n 0, 1) := by decide +kernel
theorem dX5_init_5 : decode cX5_init 5 = .ok (.sipush 400, 3) := by decide +kernel
theorem dX5_init_8 : decode cX5_init 8 = .ok (.newarray .int, 2) := by decide +kernel
theorem dX5_init_10 : decode cX5_init 10 = .ok (.putfield 9, 3) := by decide +kernel
theorem dX5_init_13 : decode cX5_init 13 = .ok (.aload_n 0, 1) := by decide +kernel
theorem dX5_init_14 : decode cX5_init 14 = .ok (.iconst 0, 1) := by decide +kernel
theorem dX5_init_15 : decode cX5_init 15 = .ok (.putfield 15, 3) := by decide +kernel
theorem dX5_init_18 : decode cX5_init 18 = .ok (.aload_n 0, 1) := by decide +kernel
theorem dX5_init_19 : decode cX5_init 19 = .ok (.iconst 0, 1) := by decide +kernel
theorem dX5_init_20 : decode cX5_init 20 = .ok (.putfield 19, 3) := by decide +kernel
theorem dX5_init_23 : decode cX5_init 23 = .ok (.aload_n 0, 1) := by decide +kernel
theorem dX5_init_24 : decode cX5_init 24 = .ok (.iconst 0, 1) := by decide +kernel
theorem dX5_init_25 : decode cX5_init 25 = .ok (.putfield 22, 3) := by decide +kernel
theorem dX5_init_28 : decode cX5_init 28 = .ok (.return_, 1) := by decide +kernel
theorem dX5_filledBytes_0 : decode cX5_filledBytes 0 = .ok (.iconst 0, 1) := by decide +kernel
theorem dX5_filledBytes_1 : decode cX5_filledBytes 1 = .ok (.istore_n 1, 1) := by decide +kernel
theorem dX5_filledBytes_2 : decode cX5_filledBytes 2 = .ok (.bipush 24, 2) := by decide +kernel
theorem dX5_filledBytes_4 : decode cX5_filledBytes 4 = .ok (.istore_n 2, 1) := by decide +kernel
theorem dX5_filledBytes_5 : decode cX5_filledBytes 5 = .ok (.iload_n 2, 1) := by decide +kernel
theorem dX5_filledBytes_6 : decode cX5_filledBytes 6 = .ok (.ifCond .lt 22, 3) := by decide +kernel
theorem dX5_filledBytes_9 : decode cX5_filledBytes 9 = .ok (.iload_n 0, 1) := by decide +kernel
theorem dX5_filledBytes_10 : decode cX5_filledBytes 10 = .ok (.iload_n 2, 1) := by decide +kernel
theorem dX5_filledBytes_11 : decode cX5_filledBytes 11 = .ok (.iushr, 1) := by decide +kernel
theorem dX5_filledBytes_12 : decode cX5_filledBytes 12 = .ok (.sipush 255, 3) := by decide +kernel
theorem dX5_filledBytes_15 : decode cX5_filledBytes 15 = .ok (.iand, 1) := by decide +kernel
theorem dX5_filledBytes_16 : decode cX5_filledBytes 16 = .ok (.ifCond .eq 6, 3) := by decide +kernel
theorem dX5_filledBytes_19 : decode cX5_filledBytes 19 = .ok (.iinc 1 1, 3) := by decide +kernel
theorem dX5_filledBytes_22 : decode cX5_filledBytes 22 = .ok (.iinc 2 (-8), 3) := by decide +kernel
theorem dX5_filledBytes_25 : decode cX5_filledBytes 25 = .ok (.goto (-20), 3) := by decide +kernel
theorem dX5_filledBytes_28 : decode cX5_filledBytes 28 = .ok (.iload_n 1, 1) := by decide +kernel
theorem dX5_filledBytes_29 : decode cX5_filledBytes 29 = .ok (.ireturn, 1) := by decide +kernel
theorem dX5_size_0 : decode cX5_size 0 = .ok (.aload_n 0, 1) := by decide +kernel
theorem dX5_size_1 : decode cX5_size 1 = .ok (.getfield 15, 3) := by decide +kernel
theorem dX5_size_4 : decode cX5_size 4 = .ok (.ireturn, 1) := by decide +kernel
theorem dX5_append_0 : decode cX5_append 0 = .ok (.bipush 24, 2) := by decide +kernel
theorem dX5_append_2 : decode cX5_append 2 = .ok (.istore_n 2, 1) := by decide +kernel
theorem dX5_append_3 : decode cX5_append 3 = .ok (.iload_n 2, 1) := by decide +kernel
theorem dX5_append_4 : decode cX5_append 4 = .ok (.ifCond .lt 51, 3) := by decide +kernel
theorem dX5_append_7 : decode cX5_append 7 = .ok (.iload_n 1, 1) := by decide +kernel
theorem dX5_append_8 : decode cX5_append 8 = .ok (.iload_n 2, 1) := by decide +kernel
theorem dX5_append_9 : decode cX5_append 9 = .ok (.iushr, 1) := by decide +kernel
theorem dX5_append_10 : decode cX5_append 10 = .ok (.sipush 255, 3) := by decide +kernel
theorem dX5_append_13 : decode cX5_append 13 = .ok (.iand, 1) := by decide +kernel
theorem dX5_append_14 : decode cX5_append 14 = .ok (.istore_n 3, 1) := by decide +kernel
theorem dX5_append_15 : decode cX5_append 15 = .ok (.iload_n 3, 1) := by decide +kernel
theorem dX5_append_16 : decode cX5_append 16 = .ok (.ifCond .eq 33, 3) := by decide +kernel
theorem dX5_append_19 : decode cX5_append 19 = .ok (.aload_n 0, 1) := by decide +kernel
theorem dX5_append_20 : decode cX5_append 20 = .ok (.getfield 15, 3) := by decide +kernel
theorem dX5_append_23 : decode cX5_append 23 = .ok (.sipush 400, 3) := by decide +kernel
theorem dX5_append_26 : decode cX5_append 26 = .ok (.if_icmp .ge 23, 3) := by decide +kernel
theorem dX5_append_29 : decode cX5_append 29 = .ok (.aload_n 0, 1) := by decide +kernel
theorem dX5_append_30 : decode cX5_append 30 = .ok (.getfield 9, 3) := by decide +kernel
theorem dX5_append_33 : decode cX5_append 33 = .ok (.aload_n 0, 1) := by decide +kernel
theorem dX5_append_34 : decode cX5_append 34 = .ok (.getfield 15, 3) := by decide +kernel
theorem dX5_append_37 : decode cX5_append 37 = .ok (.iload_n 3, 1) := by decide +kernel
theorem dX5_append_38 : decode cX5_append 38 = .ok (.iastore, 1) := by decide +kernel
theorem dX5_append_39 : decode cX5_append 39 = .ok (.aload_n 0, 1) := by decide +kernel
theorem dX5_append_40 : decode cX5_append 40 = .ok (.dup, 1) := by decide +kernel
theorem dX5_append_41 : decode cX5_append 41 = .ok (.getfield 15, 3) := by decide +kernel
theorem dX5_append_44 : decode cX5_append 44 = .ok (.iconst 1, 1) := by decide +kernel
theorem dX5_append_45 : decode cX5_append 45 = .ok (.iadd, 1) := by decide +kernel
theorem dX5_append_46 : decode cX5_append 46 = .ok (.putfield 15, 3) := by decide +kernel
theorem dX5_append_49 : decode cX5_append 49 = .ok (.iinc 2 (-8), 3) := by decide +kernel
theorem dX5_append_52 : decode cX5_append 52 = .ok (.goto (-49), 3) := by decide +kernel
theorem dX5_append_55 : decode cX5_append 55 = .ok (.return_, 1) := by decide +kernel
theorem dX5_cut_0 : decode cX5_cut 0 = .ok (.iload_n 1, 1) := by decide +kernel
theorem dX5_cut_1 : decode cX5_cut 1 = .ok (.ifCond .lt 11, 3) := by decide +kernel
theorem dX5_cut_4 : decode cX5_cut 4 = .ok (.iload_n 1, 1) := by decide +kernel
theorem dX5_cut_5 : decode cX5_cut 5 = .ok (.aload_n 0, 1) := by decide +kernel
theorem dX5_cut_6 : decode cX5_cut 6 = .ok (.getfield 15, 3) := by decide +kernel
theorem dX5_cut_9 : decode cX5_cut 9 = .ok (.if_icmp .le 5, 3) := by decide +kernel
theorem dX5_cut_12 : decode cX5_cut 12 = .ok (.iconst 0, 1) := by decide +kernel
theorem dX5_cut_13 : decode cX5_cut 13 = .ok (.ireturn, 1) := by decide +kernel
theorem dX5_cut_14 : decode cX5_cut 14 = .ok (.aload_n 0, 1) := by decide +kernel
theorem dX5_cut_15 : decode cX5_cut 15 = .ok (.iload_n 1, 1) := by decide +kernel
theorem dX5_cut_16 : decode cX5_cut 16 = .ok (.putfield 15, 3) := by decide +kernel
theorem dX5_cut_19 : decode cX5_cut 19 = .ok (.aload_n 0, 1) := by decide +kernel
theorem dX5_cut_20 : decode cX5_cut 20 = .ok (.invokevirtual 25, 3) := by decide +kernel
theorem dX5_cut_23 : decode cX5_cut 23 = .ok (.iconst 1, 1) := by decide +kernel
theorem dX5_cut_24 : decode cX5_cut 24 = .ok (.ireturn, 1) := by decide +kernel
theorem dX5_rewind_0 : decode cX5_rewind 0 = .ok (.aload_n 0, 1) := by decide +kernel
theorem dX5_rewind_1 : decode cX5_rewind 1 = .ok (.iconst 0, 1) := by decide +kernel
theorem dX5_rewind_2 : decode cX5_rewind 2 = .ok (.putfield 22, 3) := by decide +kernel
theorem dX5_rewind_5 : decode cX5_rewind 5 = .ok (.aload_n 0, 1) := by decide +kernel
theorem dX5_rewind_6 : decode cX5_rewind 6 = .ok (.invokevirtual 28, 3) := by decide +kernel
theorem dX5_rewind_9 : decode cX5_rewind 9 = .ok (.return_, 1) := by decide +kernel
theorem dX5_advance_0 : decode cX5_advance 0 = .ok (.aload_n 0, 1) := by decide +kernel
theorem dX5_advance_1 : decode cX5_advance 1 = .ok (.getfield 22, 3) := by decide +kernel
theorem dX5_advance_4 : decode cX5_advance 4 = .ok (.istore_n 1, 1) := by decide +kernel
theorem dX5_advance_5 : decode cX5_advance 5 = .ok (.iload_n 1, 1) := by decide +kernel
theorem dX5_advance_6 : decode cX5_advance 6 = .ok (.aload_n 0, 1) := by decide +kernel
theorem dX5_advance_7 : decode cX5_advance 7 = .ok (.getfield 15, 3) := by decide +kernel
theorem dX5_advance_10 : decode cX5_advance 10 = .ok (.if_icmp .ge 31, 3) := by decide +kernel
theorem dX5_advance_13 : decode cX5_advance 13 = .ok (.aload_n 0, 1) := by decide +kernel
theorem dX5_advance_14 : decode cX5_advance 14 = .ok (.getfield 9, 3) := by decide +kernel
theorem dX5_advance_17 : decode cX5_advance 17 = .ok (.iload_n 1, 1) := by decide +kernel
theorem dX5_advance_18 : decode cX5_advance 18 = .ok (.iaload, 1) := by decide +kernel
theorem dX5_advance_19 : decode cX5_advance 19 = .ok (.bipush 32, 2) := by decide +kernel
theorem dX5_advance_21 : decode cX5_advance 21 = .ok (.if_icmp .eq 14, 3) := by decide +kernel
theorem dX5_advance_24 : decode cX5_advance 24 = .ok (.aload_n 0, 1) := by decide +kernel
theorem dX5_advance_25 : decode cX5_advance 25 = .ok (.getfield 9, 3) := by decide +kernel
theorem dX5_advance_28 : decode cX5_advance 28 = .ok (.iload_n 1, 1) := by decide +kernel
theorem dX5_advance_29 : decode cX5_advance 29 = .ok (.iaload, 1) := by decide +kernel
theorem dX5_advance_30 : decode cX5_advance 30 = .ok (.bipush 10, 2) := by decide +kernel
theorem dX5_advance_32 : decode cX5_advance 32 = .ok (.if_icmp .ne 9, 3) := by decide +kernel
theorem dX5_advance_35 : decode cX5_advance 35 = .ok (.iinc 1 1, 3) := by decide +kernel
theorem dX5_advance_38 : decode cX5_advance 38 = .ok (.goto (-33), 3) := by decide +kernel
theorem dX5_advance_41 : decode cX5_advance 41 = .ok (.aload_n 0, 1) := by decide +kernel
theorem dX5_advance_42 : decode cX5_advance 42 = .ok (.iload_n 1, 1) := by decide +kernel
theorem dX5_advance_43 : decode cX5_advance 43 = .ok (.putfield 19, 3) := by decide +kernel
theorem dX5_advance_46 : decode cX5_advance 46 = .ok (.iload_n 1, 1) := by decide +kernel
theorem dX5_advance_47 : decode cX5_advance 47 = .ok (.aload_n 0, 1) := by decide +kernel
theorem dX5_advance_48 : decode cX5_advance 48 = .ok (.getfield 15, 3) := by decide +kernel
theorem dX5_advance_51 : decode cX5_advance 51 = .ok (.if_icmp .ge 84, 3) := by decide +kernel
theorem dX5_advance_54 : decode cX5_advance 54 = .ok (.aload_n 0, 1) := by decide +kernel
theorem dX5_advance_55 : decode cX5_advance 55 = .ok (.getfield 9, 3) := by decide +kernel
theorem dX5_advance_58 : decode cX5_advance 58 = .ok (.iload_n 1, 1) := by decide +kernel
theorem dX5_advance_59 : decode cX5_advance 59 = .ok (.iaload, 1) := by decide +kernel
theorem dX5_advance_60 : decode cX5_advance 60 = .ok (.invokestatic 31, 3) := by decide +kernel
theorem dX5_advance_63 : decode cX5_advance 63 = .ok (.istore_n 2, 1) := by decide +kernel
theorem dX5_advance_64 : decode cX5_advance 64 = .ok (.iload_n 2, 1) := by decide +kernel
theorem dX5_advance_65 : decode cX5_advance 65 = .ok (.ifCond .ne 15, 3) := by decide +kernel
theorem dX5_advance_68 : decode cX5_advance 68 = .ok (.aload_n 0, 1) := by decide +kernel
theorem dX5_advance_69 : decode cX5_advance 69 = .ok (.getfield 9, 3) := by decide +kernel
theorem dX5_advance_72 : decode cX5_advance 72 = .ok (.iload_n 1, 1) := by decide +kernel
theorem dX5_advance_73 : decode cX5_advance 73 = .ok (.iaload, 1) := by decide +kernel
theorem dX5_advance_74 : decode cX5_advance 74 = .ok (.invokestatic 35, 3) := by decide +kernel
theorem dX5_advance_77 : decode cX5_advance 77 = .ok (.ifCond .eq 7, 3) := by decide +kernel
theorem dX5_advance_80 : decode cX5_advance 80 = .ok (.iconst 1, 1) := by decide +kernel
theorem dX5_advance_81 : decode cX5_advance 81 = .ok (.goto 4, 3) := by decide +kernel
theorem dX5_advance_84 : decode cX5_advance 84 = .ok (.iconst 0, 1) := by decide +kernel
theorem dX5_advance_85 : decode cX5_advance 85 = .ok (.istore_n 3, 1) := by decide +kernel
theorem dX5_advance_86 : decode cX5_advance 86 = .ok (.iinc 1 1, 3) := by decide +kernel
theorem dX5_advance_89 : decode cX5_advance 89 = .ok (.iload_n 3, 1) := by decide +kernel
theorem dX5_advance_90 : decode cX5_advance 90 = .ok (.ifCond .eq 45, 3) := by decide +kernel
theorem dX5_advance_93 : decode cX5_advance 93 = .ok (.iload_n 1, 1) := by decide +kernel
theorem dX5_advance_94 : decode cX5_advance 94 = .ok (.aload_n 0, 1) := by decide +kernel
theorem dX5_advance_95 : decode cX5_advance 95 = .ok (.getfield 15, 3) := by decide +kernel
theorem dX5_advance_98 : decode cX5_advance 98 = .ok (.if_icmp .ge 37, 3) := by decide +kernel
theorem dX5_advance_101 : decode cX5_advance 101 = .ok (.aload_n 0, 1) := by decide +kernel
theorem dX5_advance_102 : decode cX5_advance 102 = .ok (.getfield 9, 3) := by decide +kernel
theorem dX5_advance_105 : decode cX5_advance 105 = .ok (.iload_n 1, 1) := by decide +kernel
theorem dX5_advance_106 : decode cX5_advance 106 = .ok (.iaload, 1) := by decide +kernel
theorem dX5_advance_107 : decode cX5_advance 107 = .ok (.invokestatic 35, 3) := by decide +kernel
theorem dX5_advance_110 : decode cX5_advance 110 = .ok (.ifCond .ne 19, 3) := by decide +kernel
theorem dX5_advance_113 : decode cX5_advance 113 = .ok (.iload_n 2, 1) := by decide +kernel
theorem dX5_advance_114 : decode cX5_advance 114 = .ok (.ifCond .eq 21, 3) := by decide +kernel
theorem dX5_advance_117 : decode cX5_advance 117 = .ok (.aload_n 0, 1) := by decide +kernel
theorem dX5_advance_118 : decode cX5_advance 118 = .ok (.getfield 9, 3) := by decide +kernel
theorem dX5_advance_121 : decode cX5_advance 121 = .ok (.iload_n 1, 1) := by decide +kernel
theorem dX5_advance_122 : decode cX5_advance 122 = .ok (.iaload, 1) := by decide +kernel
theorem dX5_advance_123 : decode cX5_advance 123 = .ok (.invokestatic 31, 3) := by decide +kernel
theorem dX5_advance_126 : decode cX5_advance 126 = .ok (.ifCond .eq 9, 3) := by decide +kernel
theorem dX5_advance_129 : decode cX5_advance 129 = .ok (.iinc 1 1, 3) := by decide +kernel
theorem dX5_advance_132 : decode cX5_advance 132 = .ok (.goto (-43), 3) := by decide +kernel
theorem dX5_advance_135 : decode cX5_advance 135 = .ok (.aload_n 0, 1) := by decide +kernel
theorem dX5_advance_136 : decode cX5_advance 136 = .ok (.iload_n 1, 1) := by decide +kernel
theorem dX5_advance_137 : decode cX5_advance 137 = .ok (.putfield 22, 3) := by decide +kernel
theorem dX5_advance_140 : decode cX5_advance 140 = .ok (.return_, 1) := by decide +kernel
theorem dX5_isLetter_0 : decode cX5_isLetter 0 = .ok (.iload_n 0, 1) := by decide +kernel
theorem dX5_isLetter_1 : decode cX5_isLetter 1 = .ok (.bipush 97, 2) := by decide +kernel
theorem dX5_isLetter_3 : decode cX5_isLetter 3 = .ok (.if_icmp .lt 13, 3) := by decide +kernel
theorem dX5_isLetter_6 : decode cX5_isLetter 6 = .ok (.iload_n 0, 1) := by decide +kernel
theorem dX5_isLetter_7 : decode cX5_isLetter 7 = .ok (.bipush 122, 2) := by decide +kernel
theorem dX5_isLetter_9 : decode cX5_isLetter 9 = .ok (.if_icmp .gt 7, 3) := by decide +kernel
theorem dX5_isLetter_12 : decode cX5_isLetter 12 = .ok (.iconst 1, 1) := by decide +kernel
theorem dX5_isLetter_13 : decode cX5_isLetter 13 = .ok (.goto 4, 3) := by decide +kernel
theorem dX5_isLetter_16 : decode cX5_isLetter 16 = .ok (.iconst 0, 1) := by decide +kernel
theorem dX5_isLetter_17 : decode cX5_isLetter 17 = .ok (.ireturn, 1) := by decide +kernel
theorem dX5_isDigit_0 : decode cX5_isDigit 0 = .ok (.iload_n 0, 1) := by decide +kernel
theorem dX5_isDigit_1 : decode cX5_isDigit 1 = .ok (.bipush 48, 2) := by decide +kernel
theorem dX5_isDigit_3 : decode cX5_isDigit 3 = .ok (.if_icmp .lt 13, 3) := by decide +kernel
theorem dX5_isDigit_6 : decode cX5_isDigit 6 = .ok (.iload_n 0, 1) := by decide +kernel
theorem dX5_isDigit_7 : decode cX5_isDigit 7 = .ok (.bipush 57, 2) := by decide +kernel
theorem dX5_isDigit_9 : decode cX5_isDigit 9 = .ok (.if_icmp .gt 7, 3) := by decide +kernel
theorem dX5_isDigit_12 : decode cX5_isDigit 12 = .ok (.iconst 1, 1) := by decide +kernel
theorem dX5_isDigit_13 : decode cX5_isDigit 13 = .ok (.goto 4, 3) := by decide +kernel
theorem dX5_isDigit_16 : decode cX5_isDigit 16 = .ok (.iconst 0, 1) := by decide +kernel
theorem dX5_isDigit_17 : decode cX5_isDigit 17 = .ok (.ireturn, 1) := by decide +kernel
theorem dX5_start_0 : decode cX5_start 0 = .ok (.aload_n 0, 1) := by decide +kernel
theorem dX5_start_1 : decode cX5_start 1 = .ok (.getfield 19, 3) := by decide +kernel
theorem dX5_start_4 : decode cX5_start 4 = .ok (.ireturn, 1) := by decide +kernel
theorem dX5_isOver_0 : decode cX5_isOver 0 = .ok (.aload_n 0, 1) := by decide +kernel
theorem dX5_isOver_1 : decode cX5_isOver 1 = .ok (.getfield 19, 3) := by decide +kernel
theorem dX5_isOver_4 : decode cX5_isOver 4 = .ok (.aload_n 0, 1) := by decide +kernel
theorem dX5_isOver_5 : decode cX5_isOver 5 = .ok (.getfield 15, 3) := by decide +kernel
theorem dX5_isOver_8 : decode cX5_isOver 8 = .ok (.if_icmp .lt 7, 3) := by decide +kernel
theorem dX5_isOver_11 : decode cX5_isOver 11 = .ok (.iconst 1, 1) := by decide +kernel
theorem dX5_isOver_12 : decode cX5_isOver 12 = .ok (.goto 4, 3) := by decide +kernel
theorem dX5_isOver_15 : decode cX5_isOver 15 = .ok (.iconst 0, 1) := by decide +kernel
theorem dX5_isOver_16 : decode cX5_isOver 16 = .ok (.ireturn, 1) := by decide +kernel
theorem dX5_take_0 : decode cX5_take 0 = .ok (.aload_n 0, 1) := by decide +kernel
theorem dX5_take_1 : decode cX5_take 1 = .ok (.aload_n 1, 1) := by decide +kernel
theorem dX5_take_2 : decode cX5_take 2 = .ok (.iconst 1, 1) := by decide +kernel
theorem dX5_take_3 : decode cX5_take 3 = .ok (.aload_n 1, 1) := by decide +kernel
theorem dX5_take_4 : decode cX5_take 4 = .ok (.invokevirtual 38, 3) := by decide +kernel
theorem dX5_take_7 : decode cX5_take 7 = .ok (.invokevirtual 43, 3) := by decide +kernel
theorem dX5_take_10 : decode cX5_take 10 = .ok (.iconst (-1), 1) := by decide +kernel
theorem dX5_take_11 : decode cX5_take 11 = .ok (.if_icmp .ne 5, 3) := by decide +kernel
theorem dX5_take_14 : decode cX5_take 14 = .ok (.iconst 0, 1) := by decide +kernel
theorem dX5_take_15 : decode cX5_take 15 = .ok (.ireturn, 1) := by decide +kernel
theorem dX5_take_16 : decode cX5_take 16 = .ok (.aload_n 0, 1) := by decide +kernel
theorem dX5_take_17 : decode cX5_take 17 = .ok (.invokevirtual 28, 3) := by decide +kernel
theorem dX5_take_20 : decode cX5_take 20 = .ok (.iconst 1, 1) := by decide +kernel
theorem dX5_take_21 : decode cX5_take 21 = .ok (.ireturn, 1) := by decide +kernel
theorem dX5_takeName_0 : decode cX5_takeName 0 = .ok (.aload_n 0, 1) := by decide +kernel
theorem dX5_takeName_1 : decode cX5_takeName 1 = .ok (.ldc 47, 2) := by decide +kernel
theorem dX5_takeName_3 : decode cX5_takeName 3 = .ok (.bipush 8, 2) := by decide +kernel
theorem dX5_takeName_5 : decode cX5_takeName 5 = .ok (.iconst 3, 1) := by decide +kernel
theorem dX5_takeName_6 : decode cX5_takeName 6 = .ok (.invokevirtual 43, 3) := by decide +kernel
theorem dX5_takeName_9 : decode cX5_takeName 9 = .ok (.istore_n 2, 1) := by decide +kernel
theorem dX5_takeName_10 : decode cX5_takeName 10 = .ok (.iload_n 2, 1) := by decide +kernel
theorem dX5_takeName_11 : decode cX5_takeName 11 = .ok (.iconst (-1), 1) := by decide +kernel
theorem dX5_takeName_12 : decode cX5_takeName 12 = .ok (.if_icmp .eq 8, 3) := by decide +kernel
theorem dX5_takeName_15 : decode cX5_takeName 15 = .ok (.iload_n 2, 1) := by decide +kernel
theorem dX5_takeName_16 : decode cX5_takeName 16 = .ok (.iload_n 1, 1) := by decide +kernel
theorem dX5_takeName_17 : decode cX5_takeName 17 = .ok (.if_icmp .ne 5, 3) := by decide +kernel
theorem dX5_takeName_20 : decode cX5_takeName 20 = .ok (.iconst (-1), 1) := by decide +kernel
theorem dX5_takeName_21 : decode cX5_takeName 21 = .ok (.ireturn, 1) := by decide +kernel
theorem dX5_takeName_22 : decode cX5_takeName 22 = .ok (.aload_n 0, 1) := by decide +kernel
theorem dX5_takeName_23 : decode cX5_takeName 23 = .ok (.invokevirtual 28, 3) := by decide +kernel
theorem dX5_takeName_26 : decode cX5_takeName 26 = .ok (.iload_n 2, 1) := by decide +kernel
theorem dX5_takeName_27 : decode cX5_takeName 27 = .ok (.ireturn, 1) := by decide +kernel
theorem dX5_takeUnit_0 : decode cX5_takeUnit 0 = .ok (.aload_n 0, 1) := by decide +kernel
theorem dX5_takeUnit_1 : decode cX5_takeUnit 1 = .ok (.ldc 49, 2) := by decide +kernel
theorem dX5_takeUnit_3 : decode cX5_takeUnit 3 = .ok (.iconst 4, 1) := by decide +kernel
theorem dX5_takeUnit_4 : decode cX5_takeUnit 4 = .ok (.iconst 4, 1) := by decide +kernel
theorem dX5_takeUnit_5 : decode cX5_takeUnit 5 = .ok (.invokevirtual 43, 3) := by decide +kernel
theorem dX5_takeUnit_8 : decode cX5_takeUnit 8 = .ok (.istore_n 1, 1) := by decide +kernel
theorem dX5_takeUnit_9 : decode cX5_takeUnit 9 = .ok (.iload_n 1, 1) := by decide +kernel
theorem dX5_takeUnit_10 : decode cX5_takeUnit 10 = .ok (.iconst (-1), 1) := by decide +kernel
theorem dX5_takeUnit_11 : decode cX5_takeUnit 11 = .ok (.if_icmp .eq 7, 3) := by decide +kernel
theorem dX5_takeUnit_14 : decode cX5_takeUnit 14 = .ok (.aload_n 0, 1) := by decide +kernel
theorem dX5_takeUnit_15 : decode cX5_takeUnit 15 = .ok (.invokevirtual 28, 3) := by decide +kernel
theorem dX5_takeUnit_18 : decode cX5_takeUnit 18 = .ok (.iload_n 1, 1) := by decide +kernel
theorem dX5_takeUnit_19 : decode cX5_takeUnit 19 = .ok (.ireturn, 1) := by decide +kernel
theorem dX5_find_0 : decode cX5_find 0 = .ok (.aload_n 0, 1) := by decide +kernel
theorem dX5_find_1 : decode cX5_find 1 = .ok (.getfield 22, 3) := by decide +kernel
theorem dX5_find_4 : decode cX5_find 4 = .ok (.aload_n 0, 1) := by decide +kernel
theorem dX5_find_5 : decode cX5_find 5 = .ok (.getfield 19, 3) := by decide +kernel
theorem dX5_find_8 : decode cX5_find 8 = .ok (.isub, 1) := by decide +kernel
theorem dX5_find_9 : decode cX5_find 9 = .ok (.iload_n 3, 1) := by decide +kernel
theorem dX5_find_10 : decode cX5_find 10 = .ok (.if_icmp .ne 24, 3) := by decide +kernel
theorem dX5_find_13 : decode cX5_find 13 = .ok (.aload_n 0, 1) := by decide +kernel
theorem dX5_find_14 : decode cX5_find 14 = .ok (.getfield 22, 3) := by decide +kernel
theorem dX5_find_17 : decode cX5_find 17 = .ok (.aload_n 0, 1) := by decide +kernel
theorem dX5_find_18 : decode cX5_find 18 = .ok (.getfield 15, 3) := by decide +kernel
theorem dX5_find_21 : decode cX5_find 21 = .ok (.if_icmp .gt 13, 3) := by decide +kernel
theorem dX5_find_24 : decode cX5_find 24 = .ok (.iload_n 2, 1) := by decide +kernel
theorem dX5_find_25 : decode cX5_find 25 = .ok (.iload_n 3, 1) := by decide +kernel
theorem dX5_find_26 : decode cX5_find 26 = .ok (.imul, 1) := by decide +kernel
theorem dX5_find_27 : decode cX5_find 27 = .ok (.aload_n 1, 1) := by decide +kernel
theorem dX5_find_28 : decode cX5_find 28 = .ok (.invokevirtual 38, 3) := by decide +kernel
theorem dX5_find_31 : decode cX5_find 31 = .ok (.if_icmp .le 5, 3) := by decide +kernel
theorem dX5_find_34 : decode cX5_find 34 = .ok (.iconst (-1), 1) := by decide +kernel
theorem dX5_find_35 : decode cX5_find 35 = .ok (.ireturn, 1) := by decide +kernel
theorem dX5_find_36 : decode cX5_find 36 = .ok (.iconst 0, 1) := by decide +kernel
theorem dX5_find_37 : decode cX5_find 37 = .ok (.istore 4, 2) := by decide +kernel
theorem dX5_find_39 : decode cX5_find 39 = .ok (.iload 4, 2) := by decide +kernel
theorem dX5_find_41 : decode cX5_find 41 = .ok (.iload_n 2, 1) := by decide +kernel
theorem dX5_find_42 : decode cX5_find 42 = .ok (.if_icmp .ge 59, 3) := by decide +kernel
theorem dX5_find_45 : decode cX5_find 45 = .ok (.iconst 0, 1) := by decide +kernel
theorem dX5_find_46 : decode cX5_find 46 = .ok (.istore 5, 2) := by decide +kernel
theorem dX5_find_48 : decode cX5_find 48 = .ok (.iload 5, 2) := by decide +kernel
theorem dX5_find_50 : decode cX5_find 50 = .ok (.iload_n 3, 1) := by decide +kernel
theorem dX5_find_51 : decode cX5_find 51 = .ok (.if_icmp .ge 35, 3) := by decide +kernel
theorem dX5_find_54 : decode cX5_find 54 = .ok (.aload_n 0, 1) := by decide +kernel
theorem dX5_find_55 : decode cX5_find 55 = .ok (.getfield 9, 3) := by decide +kernel
theorem dX5_find_58 : decode cX5_find 58 = .ok (.aload_n 0, 1) := by decide +kernel
theorem dX5_find_59 : decode cX5_find 59 = .ok (.getfield 19, 3) := by decide +kernel
theorem dX5_find_62 : decode cX5_find 62 = .ok (.iload 5, 2) := by decide +kernel
theorem dX5_find_64 : decode cX5_find 64 = .ok (.iadd, 1) := by decide +kernel
theorem dX5_find_65 : decode cX5_find 65 = .ok (.iaload, 1) := by decide +kernel
theorem dX5_find_66 : decode cX5_find 66 = .ok (.aload_n 1, 1) := by decide +kernel
theorem dX5_find_67 : decode cX5_find 67 = .ok (.iload 4, 2) := by decide +kernel
theorem dX5_find_69 : decode cX5_find 69 = .ok (.iload_n 3, 1) := by decide +kernel
theorem dX5_find_70 : decode cX5_find 70 = .ok (.imul, 1) := by decide +kernel
theorem dX5_find_71 : decode cX5_find 71 = .ok (.iload 5, 2) := by decide +kernel
theorem dX5_find_73 : decode cX5_find 73 = .ok (.iadd, 1) := by decide +kernel
theorem dX5_find_74 : decode cX5_find 74 = .ok (.invokevirtual 51, 3) := by decide +kernel
theorem dX5_find_77 : decode cX5_find 77 = .ok (.if_icmp .ne 9, 3) := by decide +kernel
theorem dX5_find_80 : decode cX5_find 80 = .ok (.iinc 5 1, 3) := by decide +kernel
theorem dX5_find_83 : decode cX5_find 83 = .ok (.goto (-35), 3) := by decide +kernel
theorem dX5_find_86 : decode cX5_find 86 = .ok (.iload 5, 2) := by decide +kernel
theorem dX5_find_88 : decode cX5_find 88 = .ok (.iload_n 3, 1) := by decide +kernel
theorem dX5_find_89 : decode cX5_find 89 = .ok (.if_icmp .ne 6, 3) := by decide +kernel
theorem dX5_find_92 : decode cX5_find 92 = .ok (.iload 4, 2) := by decide +kernel
theorem dX5_find_94 : decode cX5_find 94 = .ok (.ireturn, 1) := by decide +kernel
theorem dX5_find_95 : decode cX5_find 95 = .ok (.iinc 4 1, 3) := by decide +kernel
theorem dX5_find_98 : decode cX5_find 98 = .ok (.goto (-59), 3) := by decide +kernel
theorem dX5_find_101 : decode cX5_find 101 = .ok (.iconst (-1), 1) := by decide +kernel
theorem dX5_find_102 : decode cX5_find 102 = .ok (.ireturn, 1) := by decide +kernel
theorem dX5_takeNumber_0 : decode cX5_takeNumber 0 = .ok (.aload_n 0, 1) := by decide +kernel
theorem dX5_takeNumber_1 : decode cX5_takeNumber 1 = .ok (.getfield 19, 3) := by decide +kernel
theorem dX5_takeNumber_4 : decode cX5_takeNumber 4 = .ok (.aload_n 0, 1) := by decide +kernel
theorem dX5_takeNumber_5 : decode cX5_takeNumber 5 = .ok (.getfield 22, 3) := by decide +kernel
theorem dX5_takeNumber_8 : decode cX5_takeNumber 8 = .ok (.if_icmp .ge 27, 3) := by decide +kernel
theorem dX5_takeNumber_11 : decode cX5_takeNumber 11 = .ok (.aload_n 0, 1) := by decide +kernel
theorem dX5_takeNumber_12 : decode cX5_takeNumber 12 = .ok (.getfield 22, 3) := by decide +kernel
theorem dX5_takeNumber_15 : decode cX5_takeNumber 15 = .ok (.aload_n 0, 1) := by decide +kernel
theorem dX5_takeNumber_16 : decode cX5_takeNumber 16 = .ok (.getfield 15, 3) := by decide +kernel
theorem dX5_takeNumber_19 : decode cX5_takeNumber 19 = .ok (.if_icmp .gt 16, 3) := by decide +kernel
theorem dX5_takeNumber_22 : decode cX5_takeNumber 22 = .ok (.aload_n 0, 1) := by decide +kernel
theorem dX5_takeNumber_23 : decode cX5_takeNumber 23 = .ok (.getfield 22, 3) := by decide +kernel
theorem dX5_takeNumber_26 : decode cX5_takeNumber 26 = .ok (.aload_n 0, 1) := by decide +kernel
theorem dX5_takeNumber_27 : decode cX5_takeNumber 27 = .ok (.getfield 19, 3) := by decide +kernel
theorem dX5_takeNumber_30 : decode cX5_takeNumber 30 = .ok (.isub, 1) := by decide +kernel
theorem dX5_takeNumber_31 : decode cX5_takeNumber 31 = .ok (.iconst 3, 1) := by decide +kernel
theorem dX5_takeNumber_32 : decode cX5_takeNumber 32 = .ok (.if_icmp .le 5, 3) := by decide +kernel
theorem dX5_takeNumber_35 : decode cX5_takeNumber 35 = .ok (.iconst (-1), 1) := by decide +kernel
theorem dX5_takeNumber_36 : decode cX5_takeNumber 36 = .ok (.ireturn, 1) := by decide +kernel
theorem dX5_takeNumber_37 : decode cX5_takeNumber 37 = .ok (.iconst 0, 1) := by decide +kernel
theorem dX5_takeNumber_38 : decode cX5_takeNumber 38 = .ok (.istore_n 1, 1) := by decide +kernel
theorem dX5_takeNumber_39 : decode cX5_takeNumber 39 = .ok (.aload_n 0, 1) := by decide +kernel
theorem dX5_takeNumber_40 : decode cX5_takeNumber 40 = .ok (.getfield 19, 3) := by decide +kernel
theorem dX5_takeNumber_43 : decode cX5_takeNumber 43 = .ok (.istore_n 2, 1) := by decide +kernel
theorem dX5_takeNumber_44 : decode cX5_takeNumber 44 = .ok (.iload_n 2, 1) := by decide +kernel
theorem dX5_takeNumber_45 : decode cX5_takeNumber 45 = .ok (.aload_n 0, 1) := by decide +kernel
theorem dX5_takeNumber_46 : decode cX5_takeNumber 46 = .ok (.getfield 22, 3) := by decide +kernel
theorem dX5_takeNumber_49 : decode cX5_takeNumber 49 = .ok (.if_icmp .ge 38, 3) := by decide +kernel
theorem dX5_takeNumber_52 : decode cX5_takeNumber 52 = .ok (.aload_n 0, 1) := by decide +kernel
theorem dX5_takeNumber_53 : decode cX5_takeNumber 53 = .ok (.getfield 9, 3) := by decide +kernel
theorem dX5_takeNumber_56 : decode cX5_takeNumber 56 = .ok (.iload_n 2, 1) := by decide +kernel
theorem dX5_takeNumber_57 : decode cX5_takeNumber 57 = .ok (.iaload, 1) := by decide +kernel
theorem dX5_takeNumber_58 : decode cX5_takeNumber 58 = .ok (.invokestatic 31, 3) := by decide +kernel
theorem dX5_takeNumber_61 : decode cX5_takeNumber 61 = .ok (.ifCond .ne 5, 3) := by decide +kernel
theorem dX5_takeNumber_64 : decode cX5_takeNumber 64 = .ok (.iconst (-1), 1) := by decide +kernel
theorem dX5_takeNumber_65 : decode cX5_takeNumber 65 = .ok (.ireturn, 1) := by decide +kernel
theorem dX5_takeNumber_66 : decode cX5_takeNumber 66 = .ok (.iload_n 1, 1) := by decide +kernel
theorem dX5_takeNumber_67 : decode cX5_takeNumber 67 = .ok (.bipush 10, 2) := by decide +kernel
theorem dX5_takeNumber_69 : decode cX5_takeNumber 69 = .ok (.imul, 1) := by decide +kernel
theorem dX5_takeNumber_70 : decode cX5_takeNumber 70 = .ok (.aload_n 0, 1) := by decide +kernel
theorem dX5_takeNumber_71 : decode cX5_takeNumber 71 = .ok (.getfield 9, 3) := by decide +kernel
theorem dX5_takeNumber_74 : decode cX5_takeNumber 74 = .ok (.iload_n 2, 1) := by decide +kernel
theorem dX5_takeNumber_75 : decode cX5_takeNumber 75 = .ok (.iaload, 1) := by decide +kernel
theorem dX5_takeNumber_76 : decode cX5_takeNumber 76 = .ok (.bipush 48, 2) := by decide +kernel
theorem dX5_takeNumber_78 : decode cX5_takeNumber 78 = .ok (.isub, 1) := by decide +kernel
theorem dX5_takeNumber_79 : decode cX5_takeNumber 79 = .ok (.iadd, 1) := by decide +kernel
theorem dX5_takeNumber_80 : decode cX5_takeNumber 80 = .ok (.istore_n 1, 1) := by decide +kernel
theorem dX5_takeNumber_81 : decode cX5_takeNumber 81 = .ok (.iinc 2 1, 3) := by decide +kernel
theorem dX5_takeNumber_84 : decode cX5_takeNumber 84 = .ok (.goto (-40), 3) := by decide +kernel
theorem dX5_takeNumber_87 : decode cX5_takeNumber 87 = .ok (.aload_n 0, 1) := by decide +kernel
theorem dX5_takeNumber_88 : decode cX5_takeNumber 88 = .ok (.invokevirtual 28, 3) := by decide +kernel
theorem dX5_takeNumber_91 : decode cX5_takeNumber 91 = .ok (.iload_n 1, 1) := by decide +kernel
theorem dX5_takeNumber_92 : decode cX5_takeNumber 92 = .ok (.ireturn, 1) := by decide +kernel
