theorem dX4_isSettledBy_27 : decode cX4_isSettledBy 27 = .ok (.if_icmp .ge 46, 3) := by decide +kernel
theorem dX4_isSettledBy_30 : decode cX4_isSettledBy 30 = .ok (.iload_n 2, 1) := by decide +kernel
theorem dX4_isSettledBy_31 : decode cX4_isSettledBy 31 = .ok (.iconst 1, 1) := by decide +kernel
theorem dX4_isSettledBy_32 : decode cX4_isSettledBy 32 = .ok (.iload_n 3, 1) := by decide +kernel
theorem dX4_isSettledBy_33 : decode cX4_isSettledBy 33 = .ok (.ishl, 1) := by decide +kernel
theorem dX4_isSettledBy_34 : decode cX4_isSettledBy 34 = .ok (.iand, 1) := by decide +kernel
theorem dX4_isSettledBy_35 : decode cX4_isSettledBy 35 = .ok (.ifCond .eq 32, 3) := by decide +kernel
theorem dX4_isSettledBy_38 : decode cX4_isSettledBy 38 = .ok (.aload_n 0, 1) := by decide +kernel
theorem dX4_isSettledBy_39 : decode cX4_isSettledBy 39 = .ok (.getfield 24, 3) := by decide +kernel
theorem dX4_isSettledBy_42 : decode cX4_isSettledBy 42 = .ok (.iload_n 3, 1) := by decide +kernel
theorem dX4_isSettledBy_43 : decode cX4_isSettledBy 43 = .ok (.aaload, 1) := by decide +kernel
theorem dX4_isSettledBy_44 : decode cX4_isSettledBy 44 = .ok (.iconst 0, 1) := by decide +kernel
theorem dX4_isSettledBy_45 : decode cX4_isSettledBy 45 = .ok (.aload_n 0, 1) := by decide +kernel
theorem dX4_isSettledBy_46 : decode cX4_isSettledBy 46 = .ok (.getfield 31, 3) := by decide +kernel
theorem dX4_isSettledBy_49 : decode cX4_isSettledBy 49 = .ok (.iconst 0, 1) := by decide +kernel
theorem dX4_isSettledBy_50 : decode cX4_isSettledBy 50 = .ok (.bipush 10, 2) := by decide +kernel
theorem dX4_isSettledBy_52 : decode cX4_isSettledBy 52 = .ok (.invokestatic 124, 3) := by decide +kernel
theorem dX4_isSettledBy_55 : decode cX4_isSettledBy 55 = .ok (.aload_n 0, 1) := by decide +kernel
theorem dX4_isSettledBy_56 : decode cX4_isSettledBy 56 = .ok (.getfield 18, 3) := by decide +kernel
theorem dX4_isSettledBy_59 : decode cX4_isSettledBy 59 = .ok (.aload_n 0, 1) := by decide +kernel
theorem dX4_isSettledBy_60 : decode cX4_isSettledBy 60 = .ok (.getfield 31, 3) := by decide +kernel
theorem dX4_isSettledBy_63 : decode cX4_isSettledBy 63 = .ok (.invokevirtual 130, 3) := by decide +kernel
theorem dX4_isSettledBy_66 : decode cX4_isSettledBy 66 = .ok (.pop, 1) := by decide +kernel
theorem dX4_isSettledBy_67 : decode cX4_isSettledBy 67 = .ok (.iinc 3 1, 3) := by decide +kernel
theorem dX4_isSettledBy_70 : decode cX4_isSettledBy 70 = .ok (.goto (-46), 3) := by decide +kernel
theorem dX4_isSettledBy_73 : decode cX4_isSettledBy 73 = .ok (.aload_n 0, 1) := by decide +kernel
theorem dX4_isSettledBy_74 : decode cX4_isSettledBy 74 = .ok (.getfield 27, 3) := by decide +kernel
theorem dX4_isSettledBy_77 : decode cX4_isSettledBy 77 = .ok (.iconst 0, 1) := by decide +kernel
theorem dX4_isSettledBy_78 : decode cX4_isSettledBy 78 = .ok (.aload_n 0, 1) := by decide +kernel
theorem dX4_isSettledBy_79 : decode cX4_isSettledBy 79 = .ok (.getfield 31, 3) := by decide +kernel
theorem dX4_isSettledBy_82 : decode cX4_isSettledBy 82 = .ok (.iconst 0, 1) := by decide +kernel
theorem dX4_isSettledBy_83 : decode cX4_isSettledBy 83 = .ok (.bipush 10, 2) := by decide +kernel
theorem dX4_isSettledBy_85 : decode cX4_isSettledBy 85 = .ok (.invokestatic 124, 3) := by decide +kernel
theorem dX4_isSettledBy_88 : decode cX4_isSettledBy 88 = .ok (.aload_n 0, 1) := by decide +kernel
theorem dX4_isSettledBy_89 : decode cX4_isSettledBy 89 = .ok (.getfield 18, 3) := by decide +kernel
theorem dX4_isSettledBy_92 : decode cX4_isSettledBy 92 = .ok (.aload_n 0, 1) := by decide +kernel
theorem dX4_isSettledBy_93 : decode cX4_isSettledBy 93 = .ok (.getfield 31, 3) := by decide +kernel
theorem dX4_isSettledBy_96 : decode cX4_isSettledBy 96 = .ok (.invokevirtual 139, 3) := by decide +kernel
theorem dX4_isSettledBy_99 : decode cX4_isSettledBy 99 = .ok (.aload_n 0, 1) := by decide +kernel
theorem dX4_isSettledBy_100 : decode cX4_isSettledBy 100 = .ok (.getfield 31, 3) := by decide +kernel
theorem dX4_isSettledBy_103 : decode cX4_isSettledBy 103 = .ok (.invokestatic 142, 3) := by decide +kernel
theorem dX4_isSettledBy_106 : decode cX4_isSettledBy 106 = .ok (.iconst (-1), 1) := by decide +kernel
theorem dX4_isSettledBy_107 : decode cX4_isSettledBy 107 = .ok (.if_icmp .ne 7, 3) := by decide +kernel
theorem dX4_isSettledBy_110 : decode cX4_isSettledBy 110 = .ok (.iconst 1, 1) := by decide +kernel
theorem dX4_isSettledBy_111 : decode cX4_isSettledBy 111 = .ok (.goto 4, 3) := by decide +kernel
theorem dX4_isSettledBy_114 : decode cX4_isSettledBy 114 = .ok (.iconst 0, 1) := by decide +kernel
theorem dX4_isSettledBy_115 : decode cX4_isSettledBy 115 = .ok (.ireturn, 1) := by decide +kernel
theorem dX5_init_0 : decode cX5_init 0 = .ok (.aload_n 0, 1) := by decide +kernel
theorem dX5_init_1 : decode cX5_init 1 = .ok (.invokespecial 3, 3) := by decide +kernel
theorem dX5_init_4 : decode cX5_init 4 = .ok (.aload_n 0, 1) := by decide +kernel
theorem dX5_init_5 : decode cX5_init 5 = .ok (.sipush 400, 3) := by decide +kernel
theorem dX5_init_8 : decode cX5_init 8 = .ok (.newarray .int, 2) := by decide +kernel
theorem dX5_init_10 : decode cX5_init 10 = .ok (.putfield 9, 3) := by decide +kernel
theorem dX5_init_13 : decode cX5_init 13 = .ok (.aload_n 0, 1) := by decide +kernel
theorem dX5_init_14 : decode cX5_init 14 = .ok (.iconst 0, 1) := by decide +kernel
theorem dX5_init_15 : decode cX5_init 15 = .ok (.putfield 15, 3) := by decide +kernel
theorem dX5_init_18 : decode cX5_init 18 = .ok (.aload_n 0, 1) := by decide +kernel
theorem dX5_init_19 : decode cX5_init 19 = .ok (.iconst 0, 1) := by decide +kernel
theorem dX5_init_20 : decode cX5_init 20 = .ok (.putfield 19, 3) := by decide +kernel
theorem dX5_init_23 : decode cX5_init 23 = .ok (.aload_n 0, 1) := by decide +kernel
theorem dX5_init_24 : decode cX5_init 24 = .ok (.iconst 0, 1) := by decide +kernel
theorem dX5_init_25 : decode cX5_init 25 = .ok (.putfield 22, 3) := by decide +kernel
theorem dX5_init_28 : decode cX5_init 28 = .ok (.return_, 1) := by decide +kernel
theorem dX5_filledBytes_0 : decode cX5_filledBytes 0 = .ok (.iconst 0, 1) := by decide +kernel
theorem dX5_filledBytes_1 : decode cX5_filledBytes 1 = .ok (.istore_n 1, 1) := by decide +kernel
theorem dX5_filledBytes_2 : decode cX5_filledBytes 2 = .ok (.bipush 24, 2) := by decide +kernel
theorem dX5_filledBytes_4 : decode cX5_filledBytes 4 = .ok (.istore_n 2, 1) := by decide +kernel
theorem dX5_filledBytes_5 : decode cX5_filledBytes 5 = .ok (.iload_n 2, 1) := by decide +kernel
theorem dX5_filledBytes_6 : decode cX5_filledBytes 6 = .ok (.ifCond .lt 22, 3) := by decide +kernel
theorem dX5_filledBytes_9 : decode cX5_filledBytes 9 = .ok (.iload_n 0, 1) := by decide +kernel
theorem dX5_filledBytes_10 : decode cX5_filledBytes 10 = .ok (.iload_n 2, 1) := by decide +kernel
theorem dX5_filledBytes_11 : decode cX5_filledBytes 11 = .ok (.iushr, 1) := by decide +kernel
theorem dX5_filledBytes_12 : decode cX5_filledBytes 12 = .ok (.sipush 255, 3) := by decide +kernel
theorem dX5_filledBytes_15 : decode cX5_filledBytes 15 = .ok (.iand, 1) := by decide +kernel
theorem dX5_filledBytes_16 : decode cX5_filledBytes 16 = .ok (.ifCond .eq 6, 3) := by decide +kernel
theorem dX5_filledBytes_19 : decode cX5_filledBytes 19 = .ok (.iinc 1 1, 3) := by decide +kernel
theorem dX5_filledBytes_22 : decode cX5_filledBytes 22 = .ok (.iinc 2 (-8), 3) := by decide +kernel
theorem dX5_filledBytes_25 : decode cX5_filledBytes 25 = .ok (.goto (-20), 3) := by decide +kernel
theorem dX5_filledBytes_28 : decode cX5_filledBytes 28 = .ok (.iload_n 1, 1) := by decide +kernel
theorem dX5_filledBytes_29 : decode cX5_filledBytes 29 = .ok (.ireturn, 1) := by decide +kernel
theorem dX5_size_0 : decode cX5_size 0 = .ok (.aload_n 0, 1) := by decide +kernel
theorem dX5_size_1 : decode cX5_size 1 = .ok (.getfield 15, 3) := by decide +kernel
theorem dX5_size_4 : decode cX5_size 4 = .ok (.ireturn, 1) := by decide +kernel
theorem dX5_append_0 : decode cX5_append 0 = .ok (.bipush 24, 2) := by decide +kernel
theorem dX5_append_2 : decode cX5_append 2 = .ok (.istore_n 2, 1) := by decide +kernel
theorem dX5_append_3 : decode cX5_append 3 = .ok (.iload_n 2, 1) := by decide +kernel
theorem dX5_append_4 : decode cX5_append 4 = .ok (.ifCond .lt 51, 3) := by decide +kernel
theorem dX5_append_7 : decode cX5_append 7 = .ok (.iload_n 1, 1) := by decide +kernel
theorem dX5_append_8 : decode cX5_append 8 = .ok (.iload_n 2, 1) := by decide +kernel
theorem dX5_append_9 : decode cX5_append 9 = .ok (.iushr, 1) := by decide +kernel
theorem dX5_append_10 : decode cX5_append 10 = .ok (.sipush 255, 3) := by decide +kernel
theorem dX5_append_13 : decode cX5_append 13 = .ok (.iand, 1) := by decide +kernel
theorem dX5_append_14 : decode cX5_append 14 = .ok (.istore_n 3, 1) := by decide +kernel
theorem dX5_append_15 : decode cX5_append 15 = .ok (.iload_n 3, 1) := by decide +kernel
theorem dX5_append_16 : decode cX5_append 16 = .ok (.ifCond .eq 33, 3) := by decide +kernel
theorem dX5_append_19 : decode cX5_append 19 = .ok (.aload_n 0, 1) := by decide +kernel
theorem dX5_append_20 : decode cX5_append 20 = .ok (.getfield 15, 3) := by decide +kernel
theorem dX5_append_23 : decode cX5_append 23 = .ok (.sipush 400, 3) := by decide +kernel
theorem dX5_append_26 : decode cX5_append 26 = .ok (.if_icmp .ge 23, 3) := by decide +kernel
theorem dX5_append_29 : decode cX5_append 29 = .ok (.aload_n 0, 1) := by decide +kernel
theorem dX5_append_30 : decode cX5_append 30 = .ok (.getfield 9, 3) := by decide +kernel
theorem dX5_append_33 : decode cX5_append 33 = .ok (.aload_n 0, 1) := by decide +kernel
theorem dX5_append_34 : decode cX5_append 34 = .ok (.getfield 15, 3) := by decide +kernel
theorem dX5_append_37 : decode cX5_append 37 = .ok (.iload_n 3, 1) := by decide +kernel
theorem dX5_append_38 : decode cX5_append 38 = .ok (.iastore, 1) := by decide +kernel
theorem dX5_append_39 : decode cX5_append 39 = .ok (.aload_n 0, 1) := by decide +kernel
theorem dX5_append_40 : decode cX5_append 40 = .ok (.dup, 1) := by decide +kernel
theorem dX5_append_41 : decode cX5_append 41 = .ok (.getfield 15, 3) := by decide +kernel
theorem dX5_append_44 : decode cX5_append 44 = .ok (.iconst 1, 1) := by decide +kernel
theorem dX5_append_45 : decode cX5_append 45 = .ok (.iadd, 1) := by decide +kernel
theorem dX5_append_46 : decode cX5_append 46 = .ok (.putfield 15, 3) := by decide +kernel
theorem dX5_append_49 : decode cX5_append 49 = .ok (.iinc 2 (-8), 3) := by decide +kernel
theorem dX5_append_52 : decode cX5_append 52 = .ok (.goto (-49), 3) := by decide +kernel
theorem dX5_append_55 : decode cX5_append 55 = .ok (.return_, 1) := by decide +kernel
set_option maxRecDepth 20000 in
theorem ggX5_cut_X5_rewind : GoodIn wsX5_cut wsX5_rewind := goodIn_r _ [6, 7, 8, 9, 10, 5, 11, 1, 12, 13, 14, 15, 16, 17, 18, 19, 20, 21, 22, 23] (by decide +kernel) (by decide +kernel)
set_option maxRecDepth 20000 in
theorem gX5_cut_X5_rewind : GoodIn wsX5_cut (wsV RX5 25 RX5 yX5_rewind wsX5_rewind) := goodIn_app (goodIn_of _ (by decide +kernel)) ggX5_cut_X5_rewind
theorem dX5_cut_0 : decode cX5_cut 0 = .ok (.iload_n 1, 1) := by decide +kernel
theorem dX5_cut_1 : decode cX5_cut 1 = .ok (.ifCond .lt 11, 3) := by decide +kernel
theorem dX5_cut_4 : decode cX5_cut 4 = .ok (.iload_n 1, 1) := by decide +kernel
theorem dX5_cut_5 : decode cX5_cut 5 = .ok (.aload_n 0, 1) := by decide +kernel
theorem dX5_cut_6 : decode cX5_cut 6 = .ok (.getfield 15, 3) := by decide +kernel
theorem dX5_cut_9 : decode cX5_cut 9 = .ok (.if_icmp .le 5, 3) := by decide +kernel
theorem dX5_cut_12 : decode cX5_cut 12 = .ok (.iconst 0, 1) := by decide +kernel
theorem dX5_cut_13 : decode cX5_cut 13 = .ok (.ireturn, 1) := by decide +kernel
theorem dX5_cut_14 : decode cX5_cut 14 = .ok (.aload_n 0, 1) := by decide +kernel
theorem dX5_cut_15 : decode cX5_cut 15 = .ok (.iload_n 1, 1) := by decide +kernel
theorem dX5_cut_16 : decode cX5_cut 16 = .ok (.putfield 15, 3) := by decide +kernel
theorem dX5_cut_19 : decode cX5_cut 19 = .ok (.aload_n 0, 1) := by decide +kernel
theorem dX5_cut_20 : decode cX5_cut 20 = .ok (.invokevirtual 25, 3) := by decide +kernel
theorem dX5_cut_23 : decode cX5_cut 23 = .ok (.iconst 1, 1) := by decide +kernel
theorem dX5_cut_24 : decode cX5_cut 24 = .ok (.ireturn, 1) := by decide +kernel
set_option maxRecDepth 20000 in
theorem ggX5_rewind_X5_advance : GoodIn wsX5_rewind wsX5_advance := goodIn_r _ [6, 1, 7, 8, 9, 10, 11, 5, 12, 13, 14, 15, 16, 17, 18, 19] (by decide +kernel) (by decide +kernel)
set_option maxRecDepth 20000 in
theorem gX5_rewind_X5_advance : GoodIn wsX5_rewind (wsV RX5 28 RX5 yX5_advance wsX5_advance) := goodIn_app (goodIn_of _ (by decide +kernel)) ggX5_rewind_X5_advance
theorem dX5_rewind_0 : decode cX5_rewind 0 = .ok (.aload_n 0, 1) := by decide +kernel
theorem dX5_rewind_1 : decode cX5_rewind 1 = .ok (.iconst 0, 1) := by decide +kernel
theorem dX5_rewind_2 : decode cX5_rewind 2 = .ok (.putfield 22, 3) := by decide +kernel
theorem dX5_rewind_5 : decode cX5_rewind 5 = .ok (.aload_n 0, 1) := by decide +kernel
theorem dX5_rewind_6 : decode cX5_rewind 6 = .ok (.invokevirtual 28, 3) := by decide +kernel
theorem dX5_rewind_9 : decode cX5_rewind 9 = .ok (.return_, 1) := by decide +kernel
set_option maxRecDepth 20000 in
theorem ggX5_advance_X5_isDigit : GoodIn wsX5_advance wsX5_isDigit := goodIn_r _ [8] (by decide +kernel) (by decide +kernel)
set_option maxRecDepth 20000 in
theorem gX5_advance_X5_isDigit : GoodIn wsX5_advance (va_wsS RX5 31 yX5_isDigit wsX5_isDigit) := goodIn_app (goodIn_of _ (by decide +kernel)) ggX5_advance_X5_isDigit
set_option maxRecDepth 20000 in
theorem ggX5_advance_X5_isLetter : GoodIn wsX5_advance wsX5_isLetter := goodIn_r _ [11] (by decide +kernel) (by decide +kernel)
set_option maxRecDepth 20000 in
theorem gX5_advance_X5_isLetter : GoodIn wsX5_advance (va_wsS RX5 35 yX5_isLetter wsX5_isLetter) := goodIn_app (goodIn_of _ (by decide +kernel)) ggX5_advance_X5_isLetter
theorem dX5_advance_0 : decode cX5_advance 0 = .ok (.aload_n 0, 1) := by decide +kernel
theorem dX5_advance_1 : decode cX5_advance 1 = .ok (.getfield 22, 3) := by decide +kernel
theorem dX5_advance_4 : decode cX5_advance 4 = .ok (.istore_n 1, 1) := by decide +kernel
theorem dX5_advance_5 : decode cX5_advance 5 = .ok (.iload_n 1, 1) := by decide +kernel
theorem dX5_advance_6 : decode cX5_advance 6 = .ok (.aload_n 0, 1) := by decide +kernel
theorem dX5_advance_7 : decode cX5_advance 7 = .ok (.getfield 15, 3) := by decide +kernel
theorem dX5_advance_10 : decode cX5_advance 10 = .ok (.if_icmp .ge 31, 3) := by decide +kernel
theorem dX5_advance_13 : decode cX5_advance 13 = .ok (.aload_n 0, 1) := by decide +kernel
theorem dX5_advance_14 : decode cX5_advance 14 = .ok (.getfield 9, 3) := by decide +kernel
theorem dX5_advance_17 : decode cX5_advance 17 = .ok (.iload_n 1, 1) := by decide +kernel
theorem dX5_advance_18 : decode cX5_advance 18 = .ok (.iaload, 1) := by decide +kernel
theorem dX5_advance_19 : decode cX5_advance 19 = .ok (.bipush 32, 2) := by decide +kernel
theorem dX5_advance_21 : decode cX5_advance 21 = .ok (.if_icmp .eq 14, 3) := by decide +kernel
theorem dX5_advance_24 : decode cX5_advance 24 = .ok (.aload_n 0, 1) := by decide +kernel
theorem dX5_advance_25 : decode cX5_advance 25 = .ok (.getfield 9, 3) := by decide +kernel
theorem dX5_advance_28 : decode cX5_advance 28 = .ok (.iload_n 1, 1) := by decide +kernel
theorem dX5_advance_29 : decode cX5_advance 29 = .ok (.iaload, 1) := by decide +kernel
theorem dX5_advance_30 : decode cX5_advance 30 = .ok (.bipush 10, 2) := by decide +kernel
theorem dX5_advance_32 : decode cX5_advance 32 = .ok (.if_icmp .ne 9, 3) := by decide +kernel
theorem dX5_advance_35 : decode cX5_advance 35 = .ok (.iinc 1 1, 3) := by decide +kernel
theorem dX5_advance_38 : decode cX5_advance 38 = .ok (.goto (-33), 3) := by decide +kernel
theorem dX5_advance_41 : decode cX5_advance 41 = .ok (.aload_n 0, 1) := by decide +kernel
theorem dX5_advance_42 : decode cX5_advance 42 = .ok (.iload_n 1, 1) := by decide +kernel
theorem dX5_advance_43 : decode cX5_advance 43 = .ok (.putfield 19, 3) := by decide +kernel
theorem dX5_advance_46 : decode cX5_advance 46 = .ok (.iload_n 1, 1) := by decide +kernel
theorem dX5_advance_47 : decode cX5_advance 47 = .ok (.aload_n 0, 1) := by decide +kernel
theorem dX5_advance_48 : decode cX5_advance 48 = .ok (.getfield 15, 3) := by decide +kernel
theorem dX5_advance_51 : decode cX5_advance 51 = .ok (.if_icmp .ge 84, 3) := by decide +kernel
theorem dX5_advance_54 : decode cX5_advance 54 = .ok (.aload_n 0, 1) := by decide +kernel
theorem dX5_advance_55 : decode cX5_advance 55 = .ok (.getfield 9, 3) := by decide +kernel
theorem dX5_advance_58 : decode cX5_advance 58 = .ok (.iload_n 1, 1) := by decide +kernel
theorem dX5_advance_59 : decode cX5_advance 59 = .ok (.iaload, 1) := by decide +kernel
theorem dX5_advance_60 : decode cX5_advance 60 = .ok (.invokestatic 31, 3) := by decide +kernel
theorem dX5_advance_63 : decode cX5_advance 63 = .ok (.istore_n 2, 1) := by decide +kernel
theorem dX5_advance_64 : decode cX5_advance 64 = .ok (.iload_n 2, 1) := by decide +kernel
theorem dX5_advance_65 : decode cX5_advance 65 = .ok (.ifCond .ne 15, 3) := by decide +kernel
theorem dX5_advance_68 : decode cX5_advance 68 = .ok (.aload_n 0, 1) := by decide +kernel
theorem dX5_advance_69 : decode cX5_advance 69 = .ok (.getfield 9, 3) := by decide +kernel
theorem dX5_advance_72 : decode cX5_advance 72 = .ok (.iload_n 1, 1) := by decide +kernel
theorem dX5_advance_73 : decode cX5_advance 73 = .ok (.iaload, 1) := by decide +kernel
theorem dX5_advance_74 : decode cX5_advance 74 = .ok (.invokestatic 35, 3) := by decide +kernel
theorem dX5_advance_77 : decode cX5_advance 77 = .ok (.ifCond .eq 7, 3) := by decide +kernel
theorem dX5_advance_80 : decode cX5_advance 80 = .ok (.iconst 1, 1) := by decide +kernel
theorem dX5_advance_81 : decode cX5_advance 81 = .ok (.goto 4, 3) := by decide +kernel
theorem dX5_advance_84 : decode cX5_advance 84 = .ok (.iconst 0, 1) := by decide +kernel
theorem dX5_advance_85 : decode cX5_advance 85 = .ok (.istore_n 3, 1) := by decide +kernel
theorem dX5_advance_86 : decode cX5_advance 86 = .ok (.iinc 1 1, 3) := by decide +kernel
theorem dX5_advance_89 : decode cX5_advance 89 = .ok (.iload_n 3, 1) := by decide +kernel
theorem dX5_advance_90 : decode cX5_advance 90 = .ok (.ifCond .eq 45, 3) := by decide +kernel
theorem dX5_advance_93 : decode cX5_advance 93 = .ok (.iload_n 1, 1) := by decide +kernel
theorem dX5_advance_94 : decode cX5_advance 94 = .ok (.aload_n 0, 1) := by decide +kernel
theorem dX5_advance_95 : decode cX5_advance 95 = .ok (.getfield 15, 3) := by decide +kernel
theorem dX5_advance_98 : decode cX5_advance 98 = .ok (.if_icmp .ge 37, 3) := by decide +kernel
theorem dX5_advance_101 : decode cX5_advance 101 = .ok (.aload_n 0, 1) := by decide +kernel
theorem dX5_advance_102 : decode cX5_advance 102 = .ok (.getfield 9, 3) := by decide +kernel
theorem dX5_advance_105 : decode cX5_advance 105 = .ok (.iload_n 1, 1) := by decide +kernel
theorem dX5_advance_106 : decode cX5_advance 106 = .ok (.iaload, 1) := by decide +kernel
theorem dX5_advance_107 : decode cX5_advance 107 = .ok (.invokestatic 35, 3) := by decide +kernel
theorem dX5_advance_110 : decode cX5_advance 110 = .ok (.ifCond .ne 19, 3) := by decide +kernel
theorem dX5_advance_113 : decode cX5_advance 113 = .ok (.iload_n 2, 1) := by decide +kernel
theorem dX5_advance_114 : decode cX5_advance 114 = .ok (.ifCond .eq 21, 3) := by decide +kernel
theorem dX5_advance_117 : decode cX5_advance 117 = .ok (.aload_n 0, 1) := by decide +kernel
theorem dX5_advance_118 : decode cX5_advance 118 = .ok (.getfield 9, 3) := by decide +kernel
theorem dX5_advance_121 : decode cX5_advance 121 = .ok (.iload_n 1, 1) := by decide +kernel
theorem dX5_advance_122 : decode cX5_advance 122 = .ok (.iaload, 1) := by decide +kernel
theorem dX5_advance_123 : decode cX5_advance 123 = .ok (.invokestatic 31, 3) := by decide +kernel
theorem dX5_advance_126 : decode cX5_advance 126 = .ok (.ifCond .eq 9, 3) := by decide +kernel
theorem dX5_advance_129 : decode cX5_advance 129 = .ok (.iinc 1 1, 3) := by decide +kernel
theorem dX5_advance_132 : decode cX5_advance 132 = .ok (.goto (-43), 3) := by decide +kernel
theorem dX5_advance_135 : decode cX5_advance 135 = .ok (.aload_n 0, 1) := by decide +kernel
theorem dX5_advance_136 : decode cX5_advance 136 = .ok (.iload_n 1, 1) := by decide +kernel
theorem dX5_advance_137 : decode cX5_advance 137 = .ok (.putfield 22, 3) := by decide +kernel
theorem dX5_advance_140 : decode cX5_advance 140 = .ok (.return_, 1) := by decide +kernel
theorem dX5_isLetter_0 : decode cX5_isLetter 0 = .ok (.iload_n 0, 1) := by decide +kernel
theorem dX5_isLetter_1 : decode cX5_isLetter 1 = .ok (.bipush 97, 2) := by decide +kernel
theorem dX5_isLetter_3 : decode cX5_isLetter 3 = .ok (.if_icmp .lt 13, 3) := by decide +kernel
theorem dX5_isLetter_6 : decode cX5_isLetter 6 = .ok (.iload_n 0, 1) := by decide +kernel
theorem dX5_isLetter_7 : decode cX5_isLetter 7 = .ok (.bipush 122, 2) := by decide +kernel
theorem dX5_isLetter_9 : decode cX5_isLetter 9 = .ok (.if_icmp .gt 7, 3) := by decide +kernel
theorem dX5_isLetter_12 : decode cX5_isLetter 12 = .ok (.iconst 1, 1) := by decide +kernel
theorem dX5_isLetter_13 : decode cX5_isLetter 13 = .ok (.goto 4, 3) := by decide +kernel
theorem dX5_isLetter_16 : decode cX5_isLetter 16 = .ok (.iconst 0, 1) := by decide +kernel
theorem dX5_isLetter_17 : decode cX5_isLetter 17 = .ok (.ireturn, 1) := by decide +kernel
theorem dX5_isDigit_0 : decode cX5_isDigit 0 = .ok (.iload_n 0, 1) := by decide +kernel
theorem dX5_isDigit_1 : decode cX5_isDigit 1 = .ok (.bipush 48, 2) := by decide +kernel
theorem dX5_isDigit_3 : decode cX5_isDigit 3 = .ok (.if_icmp .lt 13, 3) := by decide +kernel
theorem dX5_isDigit_6 : decode cX5_isDigit 6 = .ok (.iload_n 0, 1) := by decide +kernel
theorem dX5_isDigit_7 : decode cX5_isDigit 7 = .ok (.bipush 57, 2) := by decide +kernel
theorem dX5_isDigit_9 : decode cX5_isDigit 9 = .ok (.if_icmp .gt 7, 3) := by decide +kernel
theorem dX5_isDigit_12 : decode cX5_isDigit 12 = .ok (.iconst 1, 1) := by decide +kernel
theorem dX5_isDigit_13 : decode cX5_isDigit 13 = .ok (.goto 4, 3) := by decide +kernel
theorem dX5_isDigit_16 : decode cX5_isDigit 16 = .ok (.iconst 0, 1) := by decide +kernel
theorem dX5_isDigit_17 : decode cX5_isDigit 17 = .ok (.ireturn, 1) := by decide +kernel
theorem dX5_start_0 : decode cX5_start 0 = .ok (.aload_n 0, 1) := by decide +kernel
theorem dX5_start_1 : decode cX5_start 1 = .ok (.getfield 19, 3) := by decide +kernel
theorem dX5_start_4 : decode cX5_start 4 = .ok (.ireturn, 1) := by decide +kernel
theorem dX5_isOver_0 : decode cX5_isOver 0 = .ok (.aload_n 0, 1) := by decide +kernel
theorem dX5_isOver_1 : decode cX5_isOver 1 = .ok (.getfield 19, 3) := by decide +kernel
theorem dX5_isOver_4 : decode cX5_isOver 4 = .ok (.aload_n 0, 1) := by decide +kernel
theorem dX5_isOver_5 : decode cX5_isOver 5 = .ok (.getfield 15, 3) := by decide +kernel
theorem dX5_isOver_8 : decode cX5_isOver 8 = .ok (.if_icmp .lt 7, 3) := by decide +kernel
theorem dX5_isOver_11 : decode cX5_isOver 11 = .ok (.iconst 1, 1) := by decide +kernel
theorem dX5_isOver_12 : decode cX5_isOver 12 = .ok (.goto 4, 3) := by decide +kernel
theorem dX5_isOver_15 : decode cX5_isOver 15 = .ok (.iconst 0, 1) := by decide +kernel
theorem dX5_isOver_16 : decode cX5_isOver 16 = .ok (.ireturn, 1) := by decide +kernel
set_option maxRecDepth 20000 in
theorem ggX5_take_J0_length_8abf5 : GoodIn wsX5_take wsJ0_length_8abf5 := goodIn_r _ [5, 6, 7, 8, 9, 4, 10, 11, 12] (by decide +kernel) (by decide +kernel)
set_option maxRecDepth 20000 in
theorem gX5_take_J0_length_8abf5 : GoodIn wsX5_take (wsV RX5 38 RJ0 yJ0_length_8abf5 wsJ0_length_8abf5) := goodIn_app (goodIn_of _ (by decide +kernel)) ggX5_take_J0_length_8abf5
set_option maxRecDepth 20000 in
theorem ggX5_take_X5_find : GoodIn wsX5_take wsX5_find := goodIn_r _ [17, 18, 19, 20, 21, 1, 2, 3, 4, 5, 6, 7, 8, 9, 10, 11, 12, 22, 23, 24, 25, 26, 27, 28, 29, 30, 31, 32, 33, 34, 35, 36, 37, 38, 39, 40, 41, 42, 43, 44, 45, 46, 47, 48, 49, 50, 51, 52, 53, 54, 55, 56, 57, 58, 69, 70, 71, 72] (by decide +kernel) (by decide +kernel)
set_option maxRecDepth 20000 in
theorem gX5_take_X5_find : GoodIn wsX5_take (wsV RX5 43 RX5 yX5_find wsX5_find) := goodIn_app (goodIn_of _ (by decide +kernel)) ggX5_take_X5_find
set_option maxRecDepth 20000 in
theorem ggX5_take_X5_advance : GoodIn wsX5_take wsX5_advance := goodIn_r _ [62, 18, 20, 21, 19, 63, 64, 16, 65, 66, 67, 68, 69, 70, 71, 72] (by decide +kernel) (by decide +kernel)
set_option maxRecDepth 20000 in
theorem gX5_take_X5_advance : GoodIn wsX5_take (wsV RX5 28 RX5 yX5_advance wsX5_advance) := goodIn_app (goodIn_of _ (by decide +kernel)) ggX5_take_X5_advance
theorem dX5_take_0 : decode cX5_take 0 = .ok (.aload_n 0, 1) := by decide +kernel
theorem dX5_take_1 : decode cX5_take 1 = .ok (.aload_n 1, 1) := by decide +kernel
theorem dX5_take_2 : decode cX5_take 2 = .ok (.iconst 1, 1) := by decide +kernel
theorem dX5_take_3 : decode cX5_take 3 = .ok (.aload_n 1, 1) := by decide +kernel
theorem dX5_take_4 : decode cX5_take 4 = .ok (.invokevirtual 38, 3) := by decide +kernel
theorem dX5_take_7 : decode cX5_take 7 = .ok (.invokevirtual 43, 3) := by decide +kernel
theorem dX5_take_10 : decode cX5_take 10 = .ok (.iconst (-1), 1) := by decide +kernel
theorem dX5_take_11 : decode cX5_take 11 = .ok (.if_icmp .ne 5, 3) := by decide +kernel
theorem dX5_take_14 : decode cX5_take 14 = .ok (.iconst 0, 1) := by decide +kernel
theorem dX5_take_15 : decode cX5_take 15 = .ok (.ireturn, 1) := by decide +kernel
theorem dX5_take_16 : decode cX5_take 16 = .ok (.aload_n 0, 1) := by decide +kernel
theorem dX5_take_17 : decode cX5_take 17 = .ok (.invokevirtual 28, 3) := by decide +kernel
theorem dX5_take_20 : decode cX5_take 20 = .ok (.iconst 1, 1) := by decide +kernel
theorem dX5_take_21 : decode cX5_take 21 = .ok (.ireturn, 1) := by decide +kernel
set_option maxRecDepth 20000 in
theorem ggX5_takeName_X5_find : GoodIn wsX5_takeName wsX5_find := goodIn_r _ [5, 6, 7, 8, 9, 10, 11, 12, 13, 14, 15, 16, 17, 18, 19, 20, 21, 22, 23, 24, 25, 26, 27, 28, 29, 30, 31, 32, 33, 34, 35, 36, 37, 38, 39, 40, 41, 42, 43, 44, 45, 46, 47, 48, 49, 50, 51, 52, 53, 54, 55, 56, 57, 58, 69, 70, 71, 72] (by decide +kernel) (by decide +kernel)
set_option maxRecDepth 20000 in
theorem gX5_takeName_X5_find : GoodIn wsX5_takeName (wsV RX5 43 RX5 yX5_find wsX5_find) := goodIn_app (goodIn_of _ (by decide +kernel)) ggX5_takeName_X5_find
set_option maxRecDepth 20000 in
theorem ggX5_takeName_X5_advance : GoodIn wsX5_takeName wsX5_advance := goodIn_r _ [62, 6, 8, 9, 7, 63, 64, 4, 65, 66, 67, 68, 69, 70, 71, 72] (by decide +kernel) (by decide +kernel)
set_option maxRecDepth 20000 in
theorem gX5_takeName_X5_advance : GoodIn wsX5_takeName (wsV RX5 28 RX5 yX5_advance wsX5_advance) := goodIn_app (goodIn_of _ (by decide +kernel)) ggX5_takeName_X5_advance
theorem dX5_takeName_0 : decode cX5_takeName 0 = .ok (.aload_n 0, 1) := by decide +kernel
theorem dX5_takeName_1 : decode cX5_takeName 1 = .ok (.ldc 47, 2) := by decide +kernel
theorem dX5_takeName_3 : decode cX5_takeName 3 = .ok (.bipush 8, 2) := by decide +kernel
theorem dX5_takeName_5 : decode cX5_takeName 5 = .ok (.iconst 3, 1) := by decide +kernel
theorem dX5_takeName_6 : decode cX5_takeName 6 = .ok (.invokevirtual 43, 3) := by decide +kernel
theorem dX5_takeName_9 : decode cX5_takeName 9 = .ok (.istore_n 2, 1) := by decide +kernel
theorem dX5_takeName_10 : decode cX5_takeName 10 = .ok (.iload_n 2, 1) := by decide +kernel
theorem dX5_takeName_11 : decode cX5_takeName 11 = .ok (.iconst (-1), 1) := by decide +kernel
theorem dX5_takeName_12 : decode cX5_takeName 12 = .ok (.if_icmp .eq 8, 3) := by decide +kernel
theorem dX5_takeName_15 : decode cX5_takeName 15 = .ok (.iload_n 2, 1) := by decide +kernel
theorem dX5_takeName_16 : decode cX5_takeName 16 = .ok (.iload_n 1, 1) := by decide +kernel
theorem dX5_takeName_17 : decode cX5_takeName 17 = .ok (.if_icmp .ne 5, 3) := by decide +kernel
theorem dX5_takeName_20 : decode cX5_takeName 20 = .ok (.iconst (-1), 1) := by decide +kernel
theorem dX5_takeName_21 : decode cX5_takeName 21 = .ok (.ireturn, 1) := by decide +kernel
theorem dX5_takeName_22 : decode cX5_takeName 22 = .ok (.aload_n 0, 1) := by decide +kernel
theorem dX5_takeName_23 : decode cX5_takeName 23 = .ok (.invokevirtual 28, 3) := by decide +kernel
theorem dX5_takeName_26 : decode cX5_takeName 26 = .ok (.iload_n 2, 1) := by decide +kernel
theorem dX5_takeName_27 : decode cX5_takeName 27 = .ok (.ireturn, 1) := by decide +kernel
set_option maxRecDepth 20000 in
theorem ggX5_takeUnit_X5_find : GoodIn wsX5_takeUnit wsX5_find := goodIn_r _ [5, 6, 7, 8, 9, 10, 11, 12, 13, 14, 15, 16, 17, 18, 19, 20, 21, 22, 23, 24, 25, 26, 27, 28, 29, 30, 31, 32, 33, 34, 35, 36, 37, 38, 39, 40, 41, 42, 43, 44, 45, 46, 47, 48, 49, 50, 51, 52, 53, 54, 55, 56, 57, 58, 69, 70, 71, 72] (by decide +kernel) (by decide +kernel)
set_option maxRecDepth 20000 in
theorem gX5_takeUnit_X5_find : GoodIn wsX5_takeUnit (wsV RX5 43 RX5 yX5_find wsX5_find) := goodIn_app (goodIn_of _ (by decide +kernel)) ggX5_takeUnit_X5_find
set_option maxRecDepth 20000 in
theorem ggX5_takeUnit_X5_advance : GoodIn wsX5_takeUnit wsX5_advance := goodIn_r _ [62, 6, 8, 9, 7, 63, 64, 4, 65, 66, 67, 68, 69, 70, 71, 72] (by decide +kernel) (by decide +kernel)
set_option maxRecDepth 20000 in
theorem gX5_takeUnit_X5_advance : GoodIn wsX5_takeUnit (wsV RX5 28 RX5 yX5_advance wsX5_advance) := goodIn_app (goodIn_of _ (by decide +kernel)) ggX5_takeUnit_X5_advance
theorem dX5_takeUnit_0 : decode cX5_takeUnit 0 = .ok (.aload_n 0, 1) := by decide +kernel
theorem dX5_takeUnit_1 : decode cX5_takeUnit 1 = .ok (.ldc 49, 2) := by decide +kernel
theorem dX5_takeUnit_3 : decode cX5_takeUnit 3 = .ok (.iconst 4, 1) := by decide +kernel
theorem dX5_takeUnit_4 : decode cX5_takeUnit 4 = .ok (.iconst 4, 1) := by decide +kernel
theorem dX5_takeUnit_5 : decode cX5_takeUnit 5 = .ok (.invokevirtual 43, 3) := by decide +kernel
theorem dX5_takeUnit_8 : decode cX5_takeUnit 8 = .ok (.istore_n 1, 1) := by decide +kernel
theorem dX5_takeUnit_9 : decode cX5_takeUnit 9 = .ok (.iload_n 1, 1) := by decide +kernel
theorem dX5_takeUnit_10 : decode cX5_takeUnit 10 = .ok (.iconst (-1), 1) := by decide +kernel
theorem dX5_takeUnit_11 : decode cX5_takeUnit 11 = .ok (.if_icmp .eq 7, 3) := by decide +kernel
theorem dX5_takeUnit_14 : decode cX5_takeUnit 14 = .ok (.aload_n 0, 1) := by decide +kernel
theorem dX5_takeUnit_15 : decode cX5_takeUnit 15 = .ok (.invokevirtual 28, 3) := by decide +kernel
theorem dX5_takeUnit_18 : decode cX5_takeUnit 18 = .ok (.iload_n 1, 1) := by decide +kernel
theorem dX5_takeUnit_19 : decode cX5_takeUnit 19 = .ok (.ireturn, 1) := by decide +kernel
set_option maxRecDepth 20000 in
theorem ggX5_find_J0_length_8abf5 : GoodIn wsX5_find wsJ0_length_8abf5 := goodIn_r _ [9, 10, 11, 12, 13, 8, 14, 15, 16] (by decide +kernel) (by decide +kernel)
set_option maxRecDepth 20000 in
theorem gX5_find_J0_length_8abf5 : GoodIn wsX5_find (wsV RX5 38 RJ0 yJ0_length_8abf5 wsJ0_length_8abf5) := goodIn_app (goodIn_of _ (by decide +kernel)) ggX5_find_J0_length_8abf5
set_option maxRecDepth 20000 in
theorem ggX5_find_J0_charAt_5068e : GoodIn wsX5_find wsJ0_charAt_5068e := goodIn_r _ [20, 10, 21, 22, 23, 8, 24, 15, 16, 25, 26, 27, 28, 29, 30, 31, 32, 33, 34, 35, 36, 37, 38, 39, 40, 41, 42, 43, 44, 45, 46, 47, 48, 49, 50, 51, 52, 53] (by decide +kernel) (by decide +kernel)
set_option maxRecDepth 20000 in
theorem gX5_find_J0_charAt_5068e : GoodIn wsX5_find (wsV RX5 51 RJ0 yJ0_charAt_5068e wsJ0_charAt_5068e) := goodIn_app (goodIn_of _ (by decide +kernel)) ggX5_find_J0_charAt_5068e
theorem dX5_find_0 : decode cX5_find 0 = .ok (.aload_n 0, 1) := by decide +kernel
theorem dX5_find_1 : decode cX5_find 1 = .ok (.getfield 22, 3) := by decide +kernel
theorem dX5_find_4 : decode cX5_find 4 = .ok (.aload_n 0, 1) := by decide +kernel
theorem dX5_find_5 : decode cX5_find 5 = .ok (.getfield 19, 3) := by decide +kernel
theorem dX5_find_8 : decode cX5_find 8 = .ok (.isub, 1) := by decide +kernel
theorem dX5_find_9 : decode cX5_find 9 = .ok (.iload_n 3, 1) := by decide +kernel
theorem dX5_find_10 : decode cX5_find 10 = .ok (.if_icmp .ne 24, 3) := by decide +kernel
theorem dX5_find_13 : decode cX5_find 13 = .ok (.aload_n 0, 1) := by decide +kernel
theorem dX5_find_14 : decode cX5_find 14 = .ok (.getfield 22, 3) := by decide +kernel
theorem dX5_find_17 : decode cX5_find 17 = .ok (.aload_n 0, 1) := by decide +kernel
theorem dX5_find_18 : decode cX5_find 18 = .ok (.getfield 15, 3) := by decide +kernel
theorem dX5_find_21 : decode cX5_find 21 = .ok (.if_icmp .gt 13, 3) := by decide +kernel
theorem dX5_find_24 : decode cX5_find 24 = .ok (.iload_n 2, 1) := by decide +kernel
theorem dX5_find_25 : decode cX5_find 25 = .ok (.iload_n 3, 1) := by decide +kernel
theorem dX5_find_26 : decode cX5_find 26 = .ok (.imul, 1) := by decide +kernel
theorem dX5_find_27 : decode cX5_find 27 = .ok (.aload_n 1, 1) := by decide +kernel
theorem dX5_find_28 : decode cX5_find 28 = .ok (.invokevirtual 38, 3) := by decide +kernel
theorem dX5_find_31 : decode cX5_find 31 = .ok (.if_icmp .le 5, 3) := by decide +kernel
theorem dX5_find_34 : decode cX5_find 34 = .ok (.iconst (-1), 1) := by decide +kernel
theorem dX5_find_35 : decode cX5_find 35 = .ok (.ireturn, 1) := by decide +kernel
theorem dX5_find_36 : decode cX5_find 36 = .ok (.iconst 0, 1) := by decide +kernel
theorem dX5_find_37 : decode cX5_find 37 = .ok (.istore 4, 2) := by decide +kernel
theorem dX5_find_39 : decode cX5_find 39 = .ok (.iload 4, 2) := by decide +kernel
theorem dX5_find_41 : decode cX5_find 41 = .ok (.iload_n 2, 1) := by decide +kernel
theorem dX5_find_42 : decode cX5_find 42 = .ok (.if_icmp .ge 59, 3) := by decide +kernel
theorem dX5_find_45 : decode cX5_find 45 = .ok (.iconst 0, 1) := by decide +kernel
theorem dX5_find_46 : decode cX5_find 46 = .ok (.istore 5, 2) := by decide +kernel
theorem dX5_find_48 : decode cX5_find 48 = .ok (.iload 5, 2) := by decide +kernel
theorem dX5_find_50 : decode cX5_find 50 = .ok (.iload_n 3, 1) := by decide +kernel
theorem dX5_find_51 : decode cX5_find 51 = .ok (.if_icmp .ge 35, 3) := by decide +kernel
theorem dX5_find_54 : decode cX5_find 54 = .ok (.aload_n 0, 1) := by decide +kernel
theorem dX5_find_55 : decode cX5_find 55 = .ok (.getfield 9, 3) := by decide +kernel
theorem dX5_find_58 : decode cX5_find 58 = .ok (.aload_n 0, 1) := by decide +kernel
theorem dX5_find_59 : decode cX5_find 59 = .ok (.getfield 19, 3) := by decide +kernel
theorem dX5_find_62 : decode cX5_find 62 = .ok (.iload 5, 2) := by decide +kernel
theorem dX5_find_64 : decode cX5_find 64 = .ok (.iadd, 1) := by decide +kernel
theorem dX5_find_65 : decode cX5_find 65 = .ok (.iaload, 1) := by decide +kernel
theorem dX5_find_66 : decode cX5_find 66 = .ok (.aload_n 1, 1) := by decide +kernel
theorem dX5_find_67 : decode cX5_find 67 = .ok (.iload 4, 2) := by decide +kernel
theorem dX5_find_69 : decode cX5_find 69 = .ok (.iload_n 3, 1) := by decide +kernel
theorem dX5_find_70 : decode cX5_find 70 = .ok (.imul, 1) := by decide +kernel
theorem dX5_find_71 : decode cX5_find 71 = .ok (.iload 5, 2) := by decide +kernel
theorem dX5_find_73 : decode cX5_find 73 = .ok (.iadd, 1) := by decide +kernel
theorem dX5_find_74 : decode cX5_find 74 = .ok (.invokevirtual 51, 3) := by decide +kernel
theorem dX5_find_77 : decode cX5_find 77 = .ok (.if_icmp .ne 9, 3) := by decide +kernel
theorem dX5_find_80 : decode cX5_find 80 = .ok (.iinc 5 1, 3) := by decide +kernel
theorem dX5_find_83 : decode cX5_find 83 = .ok (.goto (-35), 3) := by decide +kernel
theorem dX5_find_86 : decode cX5_find 86 = .ok (.iload 5, 2) := by decide +kernel
theorem dX5_find_88 : decode cX5_find 88 = .ok (.iload_n 3, 1) := by decide +kernel
theorem dX5_find_89 : decode cX5_find 89 = .ok (.if_icmp .ne 6, 3) := by decide +kernel
theorem dX5_find_92 : decode cX5_find 92 = .ok (.iload 4, 2) := by decide +kernel
theorem dX5_find_94 : decode cX5_find 94 = .ok (.ireturn, 1) := by decide +kernel
theorem dX5_find_95 : decode cX5_find 95 = .ok (.iinc 4 1, 3) := by decide +kernel
theorem dX5_find_98 : decode cX5_find 98 = .ok (.goto (-59), 3) := by decide +kernel
theorem dX5_find_101 : decode cX5_find 101 = .ok (.iconst (-1), 1) := by decide +kernel
theorem dX5_find_102 : decode cX5_find 102 = .ok (.ireturn, 1) := by decide +kernel
set_option maxRecDepth 20000 in
theorem ggX5_takeNumber_X5_isDigit : GoodIn wsX5_takeNumber wsX5_isDigit := goodIn_r _ [8] (by decide +kernel) (by decide +kernel)
set_option maxRecDepth 20000 in
theorem gX5_takeNumber_X5_isDigit : GoodIn wsX5_takeNumber (va_wsS RX5 31 yX5_isDigit wsX5_isDigit) := goodIn_app (goodIn_of _ (by decide +kernel)) ggX5_takeNumber_X5_isDigit
set_option maxRecDepth 20000 in
theorem ggX5_takeNumber_X5_advance : GoodIn wsX5_takeNumber wsX5_advance := goodIn_r _ [12, 2, 3, 4, 1, 5, 6, 7, 8, 13, 14, 15, 16, 17, 18, 19] (by decide +kernel) (by decide +kernel)
set_option maxRecDepth 20000 in
theorem gX5_takeNumber_X5_advance : GoodIn wsX5_takeNumber (wsV RX5 28 RX5 yX5_advance wsX5_advance) := goodIn_app (goodIn_of _ (by decide +kernel)) ggX5_takeNumber_X5_advance
theorem dX5_takeNumber_0 : decode cX5_takeNumber 0 = .ok (.aload_n 0, 1) := by decide +kernel
theorem dX5_takeNumber_1 : decode cX5_takeNumber 1 = .ok (.getfield 19, 3) := by decide +kernel
theorem dX5_takeNumber_4 : decode cX5_takeNumber 4 = .ok (.aload_n 0, 1) := by decide +kernel
theorem dX5_takeNumber_5 : decode cX5_takeNumber 5 = .ok (.getfield 22, 3) := by decide +kernel
theorem dX5_takeNumber_8 : decode cX5_takeNumber 8 = .ok (.if_icmp .ge 27, 3) := by decide +kernel
theorem dX5_takeNumber_11 : decode cX5_takeNumber 11 = .ok (.aload_n 0, 1) := by decide +kernel
theorem dX5_takeNumber_12 : decode cX5_takeNumber 12 = .ok (.getfield 22, 3) := by decide +kernel
theorem dX5_takeNumber_15 : decode cX5_takeNumber 15 = .ok (.aload_n 0, 1) := by decide +kernel
theorem dX5_takeNumber_16 : decode cX5_takeNumber 16 = .ok (.getfield 15, 3) := by decide +kernel
theorem dX5_takeNumber_19 : decode cX5_takeNumber 19 = .ok (.if_icmp .gt 16, 3) := by decide +kernel
theorem dX5_takeNumber_22 : decode cX5_takeNumber 22 = .ok (.aload_n 0, 1) := by decide +kernel
theorem dX5_takeNumber_23 : decode cX5_takeNumber 23 = .ok (.getfield 22, 3) := by decide +kernel
theorem dX5_takeNumber_26 : decode cX5_takeNumber 26 = .ok (.aload_n 0, 1) := by decide +kernel
theorem dX5_takeNumber_27 : decode cX5_takeNumber 27 = .ok (.getfield 19, 3) := by decide +kernel
theorem dX5_takeNumber_30 : decode cX5_takeNumber 30 = .ok (.isub, 1) := by decide +kernel
theorem dX5_takeNumber_31 : decode cX5_takeNumber 31 = .ok (.iconst 3, 1) := by decide +kernel
theorem dX5_takeNumber_32 : decode cX5_takeNumber 32 = .ok (.if_icmp .le 5, 3) := by decide +kernel
theorem dX5_takeNumber_35 : decode cX5_takeNumber 35 = .ok (.iconst (-1), 1) := by decide +kernel
theorem dX5_takeNumber_36 : decode cX5_takeNumber 36 = .ok (.ireturn, 1) := by decide +kernel
theorem dX5_takeNumber_37 : decode cX5_takeNumber 37 = .ok (.iconst 0, 1) := by decide +kernel
theorem dX5_takeNumber_38 : decode cX5_takeNumber 38 = .ok (.istore_n 1, 1) := by decide +kernel
theorem dX5_takeNumber_39 : decode cX5_takeNumber 39 = .ok (.aload_n 0, 1) := by decide +kernel
theorem dX5_takeNumber_40 : decode cX5_takeNumber 40 = .ok (.getfield 19, 3) := by decide +kernel
theorem dX5_takeNumber_43 : decode cX5_takeNumber 43 = .ok (.istore_n 2, 1) := by decide +kernel
theorem dX5_takeNumber_44 : decode cX5_takeNumber 44 = .ok (.iload_n 2, 1) := by decide +kernel
theorem dX5_takeNumber_45 : decode cX5_takeNumber 45 = .ok (.aload_n 0, 1) := by decide +kernel
theorem dX5_takeNumber_46 : decode cX5_takeNumber 46 = .ok (.getfield 22, 3) := by decide +kernel
theorem dX5_takeNumber_49 : decode cX5_takeNumber 49 = .ok (.if_icmp .ge 38, 3) := by decide +kernel
theorem dX5_takeNumber_52 : decode cX5_takeNumber 52 = .ok (.aload_n 0, 1) := by decide +kernel
theorem dX5_takeNumber_53 : decode cX5_takeNumber 53 = .ok (.getfield 9, 3) := by decide +kernel
theorem dX5_takeNumber_56 : decode cX5_takeNumber 56 = .ok (.iload_n 2, 1) := by decide +kernel
theorem dX5_takeNumber_57 : decode cX5_takeNumber 57 = .ok (.iaload, 1) := by decide +kernel
theorem dX5_takeNumber_58 : decode cX5_takeNumber 58 = .ok (.invokestatic 31, 3) := by decide +kernel
theorem dX5_takeNumber_61 : decode cX5_takeNumber 61 = .ok (.ifCond .ne 5, 3) := by decide +kernel
theorem dX5_takeNumber_64 : decode cX5_takeNumber 64 = .ok (.iconst (-1), 1) := by decide +kernel
theorem dX5_takeNumber_65 : decode cX5_takeNumber 65 = .ok (.ireturn, 1) := by decide +kernel
theorem dX5_takeNumber_66 : decode cX5_takeNumber 66 = .ok (.iload_n 1, 1) := by decide +kernel
theorem dX5_takeNumber_67 : decode cX5_takeNumber 67 = .ok (.bipush 10, 2) := by decide +kernel
theorem dX5_takeNumber_69 : decode cX5_takeNumber 69 = .ok (.imul, 1) := by decide +kernel
theorem dX5_takeNumber_70 : decode cX5_takeNumber 70 = .ok (.aload_n 0, 1) := by decide +kernel
theorem dX5_takeNumber_71 : decode cX5_takeNumber 71 = .ok (.getfield 9, 3) := by decide +kernel
theorem dX5_takeNumber_74 : decode cX5_takeNumber 74 = .ok (.iload_n 2, 1) := by decide +kernel
theorem dX5_takeNumber_75 : decode cX5_takeNumber 75 = .ok (.iaload, 1) := by decide +kernel
theorem dX5_takeNumber_76 : decode cX5_takeNumber 76 = .ok (.bipush 48, 2) := by decide +kernel
theorem dX5_takeNumber_78 : decode cX5_takeNumber 78 = .ok (.isub, 1) := by decide +kernel
theorem dX5_takeNumber_79 : decode cX5_takeNumber 79 = .ok (.iadd, 1) := by decide +kernel
theorem dX5_takeNumber_80 : decode cX5_takeNumber 80 = .ok (.istore_n 1, 1) := by decide +kernel
theorem dX5_takeNumber_81 : decode cX5_takeNumber 81 = .ok (.iinc 2 1, 3) := by decide +kernel
theorem dX5_takeNumber_84 : decode cX5_takeNumber 84 = .ok (.goto (-40), 3) := by decide +kernel
theorem dX5_takeNumber_87 : decode cX5_takeNumber 87 = .ok (.aload_n 0, 1) := by decide +kernel
theorem dX5_takeNumber_88 : decode cX5_takeNumber 88 = .ok (.invokevirtual 28, 3) := by decide +kernel
theorem dX5_takeNumber_91 : decode cX5_takeNumber 91 = .ok (.iload_n 1, 1) := by decide +kernel
theorem dX5_takeNumber_92 : decode cX5_takeNumber 92 = .ok (.ireturn, 1) := by decide +kernel
set_option maxRecDepth 20000 in
theorem ggX6_init_X5_init : GoodIn wsX6_init wsX5_init := goodIn_r _ [26, 27, 2, 3, 28, 29, 30, 31, 32, 84, 85, 86, 87] (by decide +kernel) (by decide +kernel)
set_option maxRecDepth 20000 in
theorem gX6_init_X5_init_n11 : GoodIn wsX6_init (wsX5_init) := ggX6_init_X5_init
set_option maxRecDepth 20000 in
theorem ggX6_init_X2_init : GoodIn wsX6_init wsX2_init := goodIn_r _ [35, 36, 2, 3, 37, 94] (by decide +kernel) (by decide +kernel)
set_option maxRecDepth 20000 in
theorem gX6_init_X2_init : GoodIn wsX6_init (wsX2_init) := ggX6_init_X2_init
set_option maxRecDepth 20000 in
theorem ggX6_init_X0_init : GoodIn wsX6_init wsX0_init := goodIn_r _ [39, 40, 2, 3, 28, 41, 42, 43, 95, 96, 97] (by decide +kernel) (by decide +kernel)
set_option maxRecDepth 20000 in
theorem gX6_init_X0_init_n27 : GoodIn wsX6_init (wsX0_init) := ggX6_init_X0_init
set_option maxRecDepth 20000 in
theorem ggX6_init_X3_init : GoodIn wsX6_init wsX3_init := goodIn_r _ [45, 46, 2, 3, 47, 28, 48, 49, 50, 51, 52, 53, 98, 99, 100, 101, 102, 103] (by decide +kernel) (by decide +kernel)
set_option maxRecDepth 20000 in
theorem gX6_init_X3_init_n34 : GoodIn wsX6_init (wsX3_init) := ggX6_init_X3_init
set_option maxRecDepth 20000 in
theorem ggX6_init_X4_init : GoodIn wsX6_init wsX4_init := goodIn_r _ [56, 57, 2, 3, 58, 59, 60, 61, 62, 63, 64, 65, 66, 67, 68, 69, 70, 71, 72, 73, 74, 75, 76, 77, 78, 79, 80, 81, 82, 83, 104, 105, 106, 107, 108, 109, 110, 111, 112, 113, 114, 115, 116, 117, 118, 119] (by decide +kernel) (by decide +kernel)
set_option maxRecDepth 20000 in
theorem gX6_init_X4_init : GoodIn wsX6_init (wsX4_init) := ggX6_init_X4_init
theorem dX6_init_0 : decode cX6_init 0 = .ok (.aload_n 0, 1) := by decide +kernel
theorem dX6_init_1 : decode cX6_init 1 = .ok (.invokespecial 3, 3) := by decide +kernel
theorem dX6_init_4 : decode cX6_init 4 = .ok (.aload_n 0, 1) := by decide +kernel
theorem dX6_init_5 : decode cX6_init 5 = .ok (.new 9, 3) := by decide +kernel
theorem dX6_init_8 : decode cX6_init 8 = .ok (.dup, 1) := by decide +kernel
theorem dX6_init_9 : decode cX6_init 9 = .ok (.invokespecial 11, 3) := by decide +kernel
theorem dX6_init_12 : decode cX6_init 12 = .ok (.putfield 12, 3) := by decide +kernel
theorem dX6_init_15 : decode cX6_init 15 = .ok (.aload_n 0, 1) := by decide +kernel
theorem dX6_init_16 : decode cX6_init 16 = .ok (.new 16, 3) := by decide +kernel
theorem dX6_init_19 : decode cX6_init 19 = .ok (.dup, 1) := by decide +kernel
theorem dX6_init_20 : decode cX6_init 20 = .ok (.aload_n 0, 1) := by decide +kernel
theorem dX6_init_21 : decode cX6_init 21 = .ok (.getfield 12, 3) := by decide +kernel
theorem dX6_init_24 : decode cX6_init 24 = .ok (.invokespecial 18, 3) := by decide +kernel
theorem dX6_init_27 : decode cX6_init 27 = .ok (.putfield 21, 3) := by decide +kernel
theorem dX6_init_30 : decode cX6_init 30 = .ok (.aload_n 0, 1) := by decide +kernel
theorem dX6_init_31 : decode cX6_init 31 = .ok (.new 25, 3) := by decide +kernel
theorem dX6_init_34 : decode cX6_init 34 = .ok (.dup, 1) := by decide +kernel
theorem dX6_init_35 : decode cX6_init 35 = .ok (.invokespecial 27, 3) := by decide +kernel
theorem dX6_init_38 : decode cX6_init 38 = .ok (.putfield 28, 3) := by decide +kernel
theorem dX6_init_41 : decode cX6_init 41 = .ok (.aload_n 0, 1) := by decide +kernel
theorem dX6_init_42 : decode cX6_init 42 = .ok (.new 32, 3) := by decide +kernel
theorem dX6_init_45 : decode cX6_init 45 = .ok (.dup, 1) := by decide +kernel
theorem dX6_init_46 : decode cX6_init 46 = .ok (.invokespecial 34, 3) := by decide +kernel
theorem dX6_init_49 : decode cX6_init 49 = .ok (.putfield 35, 3) := by decide +kernel
theorem dX6_init_52 : decode cX6_init 52 = .ok (.aload_n 0, 1) := by decide +kernel
theorem dX6_init_53 : decode cX6_init 53 = .ok (.new 32, 3) := by decide +kernel
theorem dX6_init_56 : decode cX6_init 56 = .ok (.dup, 1) := by decide +kernel
theorem dX6_init_57 : decode cX6_init 57 = .ok (.invokespecial 34, 3) := by decide +kernel
theorem dX6_init_60 : decode cX6_init 60 = .ok (.putfield 39, 3) := by decide +kernel
theorem dX6_init_63 : decode cX6_init 63 = .ok (.aload_n 0, 1) := by decide +kernel
theorem dX6_init_64 : decode cX6_init 64 = .ok (.new 42, 3) := by decide +kernel
theorem dX6_init_67 : decode cX6_init 67 = .ok (.dup, 1) := by decide +kernel
theorem dX6_init_68 : decode cX6_init 68 = .ok (.aload_n 0, 1) := by decide +kernel
theorem dX6_init_69 : decode cX6_init 69 = .ok (.getfield 35, 3) := by decide +kernel
theorem dX6_init_72 : decode cX6_init 72 = .ok (.invokespecial 44, 3) := by decide +kernel
theorem dX6_init_75 : decode cX6_init 75 = .ok (.putfield 47, 3) := by decide +kernel
theorem dX6_init_78 : decode cX6_init 78 = .ok (.return_, 1) := by decide +kernel
set_option maxRecDepth 20000 in
theorem ggX6_feed_X5_filledBytes : GoodIn wsX6_feed wsX5_filledBytes := goodIn_r _ [5] (by decide +kernel) (by decide +kernel)
set_option maxRecDepth 20000 in
theorem gX6_feed_X5_filledBytes : GoodIn wsX6_feed (va_wsS RX6 51 yX5_filledBytes wsX5_filledBytes) := goodIn_app (goodIn_of _ (by decide +kernel)) ggX6_feed_X5_filledBytes
set_option maxRecDepth 20000 in
theorem ggX6_feed_X5_size : GoodIn wsX6_feed wsX5_size := goodIn_r _ [9, 10, 22, 23, 24, 25] (by decide +kernel) (by decide +kernel)
set_option maxRecDepth 20000 in
theorem gX6_feed_X5_size : GoodIn wsX6_feed (wsV RX6 55 RX5 yX5_size wsX5_size) := goodIn_app (goodIn_of _ (by decide +kernel)) ggX6_feed_X5_size
set_option maxRecDepth 20000 in
theorem ggX6_feed_X5_append : GoodIn wsX6_feed wsX5_append := goodIn_r _ [14, 10, 15, 22, 23, 24, 25] (by decide +kernel) (by decide +kernel)
set_option maxRecDepth 20000 in
theorem gX6_feed_X5_append : GoodIn wsX6_feed (wsV RX6 59 RX5 yX5_append wsX5_append) := goodIn_app (goodIn_of _ (by decide +kernel)) ggX6_feed_X5_append
theorem dX6_feed_0 : decode cX6_feed 0 = .ok (.iload_n 1, 1) := by decide +kernel
theorem dX6_feed_1 : decode cX6_feed 1 = .ok (.invokestatic 51, 3) := by decide +kernel
theorem dX6_feed_4 : decode cX6_feed 4 = .ok (.iload_n 2, 1) := by decide +kernel
theorem dX6_feed_5 : decode cX6_feed 5 = .ok (.invokestatic 51, 3) := by decide +kernel
theorem dX6_feed_8 : decode cX6_feed 8 = .ok (.iadd, 1) := by decide +kernel
theorem dX6_feed_9 : decode cX6_feed 9 = .ok (.iload_n 3, 1) := by decide +kernel
theorem dX6_feed_10 : decode cX6_feed 10 = .ok (.invokestatic 51, 3) := by decide +kernel
theorem dX6_feed_13 : decode cX6_feed 13 = .ok (.iadd, 1) := by decide +kernel
theorem dX6_feed_14 : decode cX6_feed 14 = .ok (.iload 4, 2) := by decide +kernel
theorem dX6_feed_16 : decode cX6_feed 16 = .ok (.invokestatic 51, 3) := by decide +kernel
theorem dX6_feed_19 : decode cX6_feed 19 = .ok (.iadd, 1) := by decide +kernel
theorem dX6_feed_20 : decode cX6_feed 20 = .ok (.iload 5, 2) := by decide +kernel
theorem dX6_feed_22 : decode cX6_feed 22 = .ok (.invokestatic 51, 3) := by decide +kernel
theorem dX6_feed_25 : decode cX6_feed 25 = .ok (.iadd, 1) := by decide +kernel
theorem dX6_feed_26 : decode cX6_feed 26 = .ok (.istore 6, 2) := by decide +kernel
theorem dX6_feed_28 : decode cX6_feed 28 = .ok (.aload_n 0, 1) := by decide +kernel
theorem dX6_feed_29 : decode cX6_feed 29 = .ok (.getfield 12, 3) := by decide +kernel
theorem dX6_feed_32 : decode cX6_feed 32 = .ok (.invokevirtual 55, 3) := by decide +kernel
theorem dX6_feed_35 : decode cX6_feed 35 = .ok (.iload 6, 2) := by decide +kernel
theorem dX6_feed_37 : decode cX6_feed 37 = .ok (.iadd, 1) := by decide +kernel
theorem dX6_feed_38 : decode cX6_feed 38 = .ok (.sipush 400, 3) := by decide +kernel
theorem dX6_feed_41 : decode cX6_feed 41 = .ok (.if_icmp .le 5, 3) := by decide +kernel
theorem dX6_feed_44 : decode cX6_feed 44 = .ok (.iconst (-1), 1) := by decide +kernel
theorem dX6_feed_45 : decode cX6_feed 45 = .ok (.ireturn, 1) := by decide +kernel
theorem dX6_feed_46 : decode cX6_feed 46 = .ok (.aload_n 0, 1) := by decide +kernel
theorem dX6_feed_47 : decode cX6_feed 47 = .ok (.getfield 12, 3) := by decide +kernel
theorem dX6_feed_50 : decode cX6_feed 50 = .ok (.iload_n 1, 1) := by decide +kernel
theorem dX6_feed_51 : decode cX6_feed 51 = .ok (.invokevirtual 59, 3) := by decide +kernel
theorem dX6_feed_54 : decode cX6_feed 54 = .ok (.aload_n 0, 1) := by decide +kernel
theorem dX6_feed_55 : decode cX6_feed 55 = .ok (.getfield 12, 3) := by decide +kernel
theorem dX6_feed_58 : decode cX6_feed 58 = .ok (.iload_n 2, 1) := by decide +kernel
theorem dX6_feed_59 : decode cX6_feed 59 = .ok (.invokevirtual 59, 3) := by decide +kernel
theorem dX6_feed_62 : decode cX6_feed 62 = .ok (.aload_n 0, 1) := by decide +kernel
theorem dX6_feed_63 : decode cX6_feed 63 = .ok (.getfield 12, 3) := by decide +kernel
theorem dX6_feed_66 : decode cX6_feed 66 = .ok (.iload_n 3, 1) := by decide +kernel
theorem dX6_feed_67 : decode cX6_feed 67 = .ok (.invokevirtual 59, 3) := by decide +kernel
theorem dX6_feed_70 : decode cX6_feed 70 = .ok (.aload_n 0, 1) := by decide +kernel
theorem dX6_feed_71 : decode cX6_feed 71 = .ok (.getfield 12, 3) := by decide +kernel
theorem dX6_feed_74 : decode cX6_feed 74 = .ok (.iload 4, 2) := by decide +kernel
theorem dX6_feed_76 : decode cX6_feed 76 = .ok (.invokevirtual 59, 3) := by decide +kernel
theorem dX6_feed_79 : decode cX6_feed 79 = .ok (.aload_n 0, 1) := by decide +kernel
theorem dX6_feed_80 : decode cX6_feed 80 = .ok (.getfield 12, 3) := by decide +kernel
theorem dX6_feed_83 : decode cX6_feed 83 = .ok (.iload 5, 2) := by decide +kernel
theorem dX6_feed_85 : decode cX6_feed 85 = .ok (.invokevirtual 59, 3) := by decide +kernel
theorem dX6_feed_88 : decode cX6_feed 88 = .ok (.aload_n 0, 1) := by decide +kernel
theorem dX6_feed_89 : decode cX6_feed 89 = .ok (.getfield 12, 3) := by decide +kernel
theorem dX6_feed_92 : decode cX6_feed 92 = .ok (.invokevirtual 55, 3) := by decide +kernel
theorem dX6_feed_95 : decode cX6_feed 95 = .ok (.ireturn, 1) := by decide +kernel
set_option maxRecDepth 20000 in
theorem ggX6_end_X5_cut : GoodIn wsX6_end wsX5_cut := goodIn_r _ [6, 7, 8, 9, 10, 5, 11, 12, 13, 14, 15, 16, 17, 18, 19, 20, 21, 22, 23, 24, 31, 32, 33, 34] (by decide +kernel) (by decide +kernel)
set_option maxRecDepth 20000 in
theorem gX6_end_X5_cut : GoodIn wsX6_end (wsV RX6 63 RX5 yX5_cut wsX5_cut) := goodIn_app (goodIn_of _ (by decide +kernel)) ggX6_end_X5_cut
theorem dX6_end_0 : decode cX6_end 0 = .ok (.aload_n 0, 1) := by decide +kernel
theorem dX6_end_1 : decode cX6_end 1 = .ok (.getfield 12, 3) := by decide +kernel
theorem dX6_end_4 : decode cX6_end 4 = .ok (.iload_n 1, 1) := by decide +kernel
theorem dX6_end_5 : decode cX6_end 5 = .ok (.invokevirtual 63, 3) := by decide +kernel
theorem dX6_end_8 : decode cX6_end 8 = .ok (.ireturn, 1) := by decide +kernel
set_option maxRecDepth 20000 in
theorem ggX6_fault_X2_read : GoodIn wsX6_fault wsX2_read := goodIn_r _ [7, 8, 9, 10, 11, 12, 13, 14, 15, 16, 17, 18, 19, 20, 21, 22, 23, 24, 25, 26, 27, 28, 29, 30, 31, 32, 33, 34, 35, 36, 37, 38, 39, 40, 41, 42, 43, 44, 45, 46, 47, 48, 49, 50, 51, 52, 53, 54, 55, 56, 57, 58, 59, 60, 61, 62, 63, 64, 65, 66, 67, 68, 69, 70, 71, 72, 73, 74, 75, 76, 77, 78, 79, 80, 81, 82, 83, 84, 85, 86, 87, 88, 89, 90, 91, 92, 93, 94, 95, 96, 6, 97, 98, 99, 100, 101, 102, 103, 104, 105, 106, 107, 108, 109, 110, 111, 112, 113, 114, 115, 116, 117, 118, 119, 120, 121, 122, 123, 124, 125, 126, 127, 128, 129, 130, 131, 132, 133, 134, 135, 136, 137, 138, 139, 140, 141, 142, 143, 144, 145, 146, 147, 148, 149, 150, 151, 152, 153, 154, 155, 156, 157, 158, 159, 160, 167, 168, 169, 170, 171, 172, 173, 174, 175, 176, 177] (by decide +kernel) (by decide +kernel)
set_option maxRecDepth 20000 in
theorem gX6_fault_X2_read : GoodIn wsX6_fault (wsV RX6 67 RX2 yX2_read wsX2_read) := goodIn_app (goodIn_of _ (by decide +kernel)) ggX6_fault_X2_read
theorem dX6_fault_0 : decode cX6_fault 0 = .ok (.aload_n 0, 1) := by decide +kernel
theorem dX6_fault_1 : decode cX6_fault 1 = .ok (.getfield 21, 3) := by decide +kernel
theorem dX6_fault_4 : decode cX6_fault 4 = .ok (.aload_n 0, 1) := by decide +kernel
theorem dX6_fault_5 : decode cX6_fault 5 = .ok (.getfield 39, 3) := by decide +kernel
theorem dX6_fault_8 : decode cX6_fault 8 = .ok (.invokevirtual 67, 3) := by decide +kernel
theorem dX6_fault_11 : decode cX6_fault 11 = .ok (.ireturn, 1) := by decide +kernel
set_option maxRecDepth 20000 in
theorem ggX6_tale_X2_read : GoodIn wsX6_tale wsX2_read := goodIn_r _ [11, 12, 13, 14, 15, 16, 17, 18, 19, 20, 21, 22, 23, 24, 25, 26, 27, 28, 29, 30, 31, 32, 33, 34, 35, 36, 37, 38, 39, 40, 41, 42, 43, 44, 45, 46, 47, 48, 49, 50, 51, 52, 53, 54, 55, 56, 57, 58, 59, 60, 61, 62, 63, 64, 65, 66, 67, 68, 69, 70, 71, 72, 73, 74, 75, 76, 77, 78, 79, 80, 81, 82, 83, 84, 85, 86, 87, 88, 89, 90, 91, 92, 93, 94, 95, 96, 97, 98, 99, 100, 10, 101, 102, 103, 104, 105, 106, 107, 108, 109, 110, 111, 112, 113, 114, 115, 116, 117, 118, 119, 120, 121, 122, 123, 124, 125, 126, 127, 128, 129, 130, 131, 132, 133, 134, 135, 136, 137, 138, 139, 140, 141, 142, 143, 144, 145, 146, 147, 148, 149, 150, 151, 152, 153, 154, 155, 156, 157, 158, 159, 160, 161, 162, 163, 164, 302, 303, 304, 305, 306, 307, 308, 309, 310, 311, 312] (by decide +kernel) (by decide +kernel)
set_option maxRecDepth 20000 in
theorem gX6_tale_X2_read : GoodIn wsX6_tale (wsV RX6 67 RX2 yX2_read wsX2_read) := goodIn_app (goodIn_of _ (by decide +kernel)) ggX6_tale_X2_read
set_option maxRecDepth 20000 in
theorem ggX6_tale_X5_cut : GoodIn wsX6_tale wsX5_cut := goodIn_r _ [168, 32, 169, 23, 24, 25, 26, 27, 28, 29, 30, 31, 33, 34, 35, 36, 37, 38, 39, 40, 309, 310, 311, 312] (by decide +kernel) (by decide +kernel)
set_option maxRecDepth 20000 in
theorem gX6_tale_X5_cut : GoodIn wsX6_tale (wsV RX6 63 RX5 yX5_cut wsX5_cut) := goodIn_app (goodIn_of _ (by decide +kernel)) ggX6_tale_X5_cut
set_option maxRecDepth 20000 in
theorem ggX6_tale_X0_clear : GoodIn wsX6_tale wsX0_clear := goodIn_r _ [174, 175, 313, 314, 315] (by decide +kernel) (by decide +kernel)
set_option maxRecDepth 20000 in
theorem gX6_tale_X0_clear : GoodIn wsX6_tale (wsV RX6 71 RX0 yX0_clear wsX0_clear) := goodIn_app (goodIn_of _ (by decide +kernel)) ggX6_tale_X0_clear
set_option maxRecDepth 20000 in
theorem ggX6_tale_X4_begin : GoodIn wsX6_tale wsX4_begin := goodIn_r _ [180, 181, 182, 183, 184, 179, 185, 186, 187, 188, 189, 190, 191, 192, 193, 194, 195, 196, 197, 198, 199, 200, 201, 202, 203, 204, 16, 205, 18, 206, 207, 208, 209, 139, 210, 211, 212, 213, 214, 215, 216, 217, 218, 219, 220, 221, 222, 223, 224, 225, 226, 227, 228, 229, 230, 231, 232, 233, 234, 21, 118, 235, 236, 237, 238, 239, 240, 241, 242, 243, 244, 245, 246, 247, 248, 249, 250, 251, 252, 253, 254, 255, 256, 257, 258, 259, 260, 261, 20, 262, 263, 264, 265, 266, 267, 268, 269, 270, 271, 272, 273, 274, 275, 276, 277, 278, 279, 280, 281, 282, 283, 284, 285, 286, 287, 288, 289, 290, 291, 292, 293, 294, 295, 316, 317, 318, 319, 320, 321, 322, 323, 324, 325, 326, 327, 328, 329, 303, 304, 305, 306, 307, 308, 330, 331] (by decide +kernel) (by decide +kernel)
set_option maxRecDepth 20000 in
theorem gX6_tale_X4_begin : GoodIn wsX6_tale (wsV RX6 74 RX4 yX4_begin wsX4_begin) := goodIn_app (goodIn_of _ (by decide +kernel)) ggX6_tale_X4_begin
theorem dX6_tale_0 : decode cX6_tale 0 = .ok (.aload_n 0, 1) := by decide +kernel
theorem dX6_tale_1 : decode cX6_tale 1 = .ok (.getfield 21, 3) := by decide +kernel
theorem dX6_tale_4 : decode cX6_tale 4 = .ok (.aload_n 0, 1) := by decide +kernel
theorem dX6_tale_5 : decode cX6_tale 5 = .ok (.getfield 39, 3) := by decide +kernel
theorem dX6_tale_8 : decode cX6_tale 8 = .ok (.invokevirtual 67, 3) := by decide +kernel
theorem dX6_tale_11 : decode cX6_tale 11 = .ok (.iconst (-1), 1) := by decide +kernel
theorem dX6_tale_12 : decode cX6_tale 12 = .ok (.if_icmp .eq 5, 3) := by decide +kernel
theorem dX6_tale_15 : decode cX6_tale 15 = .ok (.iconst 0, 1) := by decide +kernel
theorem dX6_tale_16 : decode cX6_tale 16 = .ok (.ireturn, 1) := by decide +kernel
theorem dX6_tale_17 : decode cX6_tale 17 = .ok (.aload_n 0, 1) := by decide +kernel
theorem dX6_tale_18 : decode cX6_tale 18 = .ok (.getfield 35, 3) := by decide +kernel
theorem dX6_tale_21 : decode cX6_tale 21 = .ok (.astore_n 1, 1) := by decide +kernel
theorem dX6_tale_22 : decode cX6_tale 22 = .ok (.aload_n 0, 1) := by decide +kernel
theorem dX6_tale_23 : decode cX6_tale 23 = .ok (.aload_n 0, 1) := by decide +kernel
theorem dX6_tale_24 : decode cX6_tale 24 = .ok (.getfield 39, 3) := by decide +kernel
theorem dX6_tale_27 : decode cX6_tale 27 = .ok (.putfield 35, 3) := by decide +kernel
theorem dX6_tale_30 : decode cX6_tale 30 = .ok (.aload_n 0, 1) := by decide +kernel
theorem dX6_tale_31 : decode cX6_tale 31 = .ok (.aload_n 1, 1) := by decide +kernel
theorem dX6_tale_32 : decode cX6_tale 32 = .ok (.putfield 39, 3) := by decide +kernel
theorem dX6_tale_35 : decode cX6_tale 35 = .ok (.aload_n 0, 1) := by decide +kernel
theorem dX6_tale_36 : decode cX6_tale 36 = .ok (.getfield 12, 3) := by decide +kernel
theorem dX6_tale_39 : decode cX6_tale 39 = .ok (.iconst 0, 1) := by decide +kernel
theorem dX6_tale_40 : decode cX6_tale 40 = .ok (.invokevirtual 63, 3) := by decide +kernel
theorem dX6_tale_43 : decode cX6_tale 43 = .ok (.pop, 1) := by decide +kernel
theorem dX6_tale_44 : decode cX6_tale 44 = .ok (.aload_n 0, 1) := by decide +kernel
theorem dX6_tale_45 : decode cX6_tale 45 = .ok (.getfield 28, 3) := by decide +kernel
theorem dX6_tale_48 : decode cX6_tale 48 = .ok (.invokevirtual 71, 3) := by decide +kernel
theorem dX6_tale_51 : decode cX6_tale 51 = .ok (.aload_n 0, 1) := by decide +kernel
theorem dX6_tale_52 : decode cX6_tale 52 = .ok (.getfield 47, 3) := by decide +kernel
theorem dX6_tale_55 : decode cX6_tale 55 = .ok (.aload_n 0, 1) := by decide +kernel
theorem dX6_tale_56 : decode cX6_tale 56 = .ok (.getfield 35, 3) := by decide +kernel
theorem dX6_tale_59 : decode cX6_tale 59 = .ok (.invokevirtual 74, 3) := by decide +kernel
theorem dX6_tale_62 : decode cX6_tale 62 = .ok (.iconst 1, 1) := by decide +kernel
theorem dX6_tale_63 : decode cX6_tale 63 = .ok (.ireturn, 1) := by decide +kernel
set_option maxRecDepth 20000 in
theorem ggX6_sentences_X3_size : GoodIn wsX6_sentences wsX3_size := goodIn_r _ [6, 7, 14, 15, 16, 17, 18, 19] (by decide +kernel) (by decide +kernel)
set_option maxRecDepth 20000 in
theorem gX6_sentences_X3_size : GoodIn wsX6_sentences (wsV RX6 77 RX3 yX3_size wsX3_size) := goodIn_app (goodIn_of _ (by decide +kernel)) ggX6_sentences_X3_size
theorem dX6_sentences_0 : decode cX6_sentences 0 = .ok (.aload_n 0, 1) := by decide +kernel
theorem dX6_sentences_1 : decode cX6_sentences 1 = .ok (.getfield 35, 3) := by decide +kernel
theorem dX6_sentences_4 : decode cX6_sentences 4 = .ok (.invokevirtual 77, 3) := by decide +kernel
theorem dX6_sentences_7 : decode cX6_sentences 7 = .ok (.ireturn, 1) := by decide +kernel
set_option maxRecDepth 20000 in
theorem ggX6_sentence_X3_has : GoodIn wsX6_sentence wsX3_has := goodIn_r _ [8, 9, 22, 23, 24, 25, 26, 27] (by decide +kernel) (by decide +kernel)
set_option maxRecDepth 20000 in
theorem gX6_sentence_X3_has : GoodIn wsX6_sentence (wsV RX6 78 RX3 yX3_has wsX3_has) := goodIn_app (goodIn_of _ (by decide +kernel)) ggX6_sentence_X3_has
set_option maxRecDepth 20000 in
theorem ggX6_sentence_X3_part : GoodIn wsX6_sentence wsX3_part := goodIn_r _ [13, 14, 15, 5, 6, 7, 8, 9, 22, 23, 24, 25, 26, 27] (by decide +kernel) (by decide +kernel)
set_option maxRecDepth 20000 in
theorem gX6_sentence_X3_part : GoodIn wsX6_sentence (wsV RX6 84 RX3 yX3_part wsX3_part) := goodIn_app (goodIn_of _ (by decide +kernel)) ggX6_sentence_X3_part
theorem dX6_sentence_0 : decode cX6_sentence 0 = .ok (.aload_n 0, 1) := by decide +kernel
theorem dX6_sentence_1 : decode cX6_sentence 1 = .ok (.getfield 35, 3) := by decide +kernel
theorem dX6_sentence_4 : decode cX6_sentence 4 = .ok (.iload_n 1, 1) := by decide +kernel
theorem dX6_sentence_5 : decode cX6_sentence 5 = .ok (.invokevirtual 78, 3) := by decide +kernel
theorem dX6_sentence_8 : decode cX6_sentence 8 = .ok (.ifCond .eq 13, 3) := by decide +kernel
theorem dX6_sentence_11 : decode cX6_sentence 11 = .ok (.iload_n 2, 1) := by decide +kernel
theorem dX6_sentence_12 : decode cX6_sentence 12 = .ok (.ifCond .lt 9, 3) := by decide +kernel
theorem dX6_sentence_15 : decode cX6_sentence 15 = .ok (.iload_n 2, 1) := by decide +kernel
theorem dX6_sentence_16 : decode cX6_sentence 16 = .ok (.bipush 7, 2) := by decide +kernel
theorem dX6_sentence_18 : decode cX6_sentence 18 = .ok (.if_icmp .lt 11, 3) := by decide +kernel
theorem dX6_sentence_21 : decode cX6_sentence 21 = .ok (.new 81, 3) := by decide +kernel
theorem dX6_sentence_24 : decode cX6_sentence 24 = .ok (.dup, 1) := by decide +kernel
theorem dX6_sentence_25 : decode cX6_sentence 25 = .ok (.invokespecial 83, 3) := by decide +kernel
theorem dX6_sentence_28 : decode cX6_sentence 28 = .ok (.athrow, 1) := by decide +kernel
theorem dX6_sentence_29 : decode cX6_sentence 29 = .ok (.aload_n 0, 1) := by decide +kernel
theorem dX6_sentence_30 : decode cX6_sentence 30 = .ok (.getfield 35, 3) := by decide +kernel
theorem dX6_sentence_33 : decode cX6_sentence 33 = .ok (.iload_n 1, 1) := by decide +kernel
theorem dX6_sentence_34 : decode cX6_sentence 34 = .ok (.iload_n 2, 1) := by decide +kernel
theorem dX6_sentence_35 : decode cX6_sentence 35 = .ok (.invokevirtual 84, 3) := by decide +kernel
theorem dX6_sentence_38 : decode cX6_sentence 38 = .ok (.ireturn, 1) := by decide +kernel
set_option maxRecDepth 20000 in
theorem ggX6_question_X3_asked : GoodIn wsX6_question wsX3_asked := goodIn_r _ [6, 7, 8, 15, 16, 17, 18, 19, 20] (by decide +kernel) (by decide +kernel)
set_option maxRecDepth 20000 in
theorem gX6_question_X3_asked : GoodIn wsX6_question (wsV RX6 88 RX3 yX3_asked wsX3_asked) := goodIn_app (goodIn_of _ (by decide +kernel)) ggX6_question_X3_asked
theorem dX6_question_0 : decode cX6_question 0 = .ok (.aload_n 0, 1) := by decide +kernel
theorem dX6_question_1 : decode cX6_question 1 = .ok (.getfield 35, 3) := by decide +kernel
theorem dX6_question_4 : decode cX6_question 4 = .ok (.iload_n 1, 1) := by decide +kernel
theorem dX6_question_5 : decode cX6_question 5 = .ok (.invokevirtual 88, 3) := by decide +kernel
theorem dX6_question_8 : decode cX6_question 8 = .ok (.ireturn, 1) := by decide +kernel
set_option maxRecDepth 20000 in
theorem ggX6_quarrel_X4_quarrelAt : GoodIn wsX6_quarrel wsX4_quarrelAt := goodIn_r _ [6, 7, 14, 15, 16, 17, 18, 19, 20, 21, 22, 23, 24, 25, 26, 27] (by decide +kernel) (by decide +kernel)
set_option maxRecDepth 20000 in
theorem gX6_quarrel_X4_quarrelAt : GoodIn wsX6_quarrel (wsV RX6 91 RX4 yX4_quarrelAt wsX4_quarrelAt) := goodIn_app (goodIn_of _ (by decide +kernel)) ggX6_quarrel_X4_quarrelAt
theorem dX6_quarrel_0 : decode cX6_quarrel 0 = .ok (.aload_n 0, 1) := by decide +kernel
theorem dX6_quarrel_1 : decode cX6_quarrel 1 = .ok (.getfield 47, 3) := by decide +kernel
theorem dX6_quarrel_4 : decode cX6_quarrel 4 = .ok (.invokevirtual 91, 3) := by decide +kernel
theorem dX6_quarrel_7 : decode cX6_quarrel 7 = .ok (.ireturn, 1) := by decide +kernel
set_option maxRecDepth 20000 in
theorem ggX6_answer_X4_answerPart : GoodIn wsX6_answer wsX4_answerPart := goodIn_r _ [6, 7, 8, 9, 10, 11, 12, 5, 13, 20, 21, 22, 23, 24, 25, 26, 27, 28, 29, 30, 31, 32, 33] (by decide +kernel) (by decide +kernel)
set_option maxRecDepth 20000 in
theorem gX6_answer_X4_answerPart : GoodIn wsX6_answer (wsV RX6 94 RX4 yX4_answerPart wsX4_answerPart) := goodIn_app (goodIn_of _ (by decide +kernel)) ggX6_answer_X4_answerPart
theorem dX6_answer_0 : decode cX6_answer 0 = .ok (.aload_n 0, 1) := by decide +kernel
theorem dX6_answer_1 : decode cX6_answer 1 = .ok (.getfield 47, 3) := by decide +kernel
theorem dX6_answer_4 : decode cX6_answer 4 = .ok (.iload_n 1, 1) := by decide +kernel
theorem dX6_answer_5 : decode cX6_answer 5 = .ok (.invokevirtual 94, 3) := by decide +kernel
theorem dX6_answer_8 : decode cX6_answer 8 = .ok (.lreturn, 1) := by decide +kernel
set_option maxRecDepth 20000 in
theorem ggX6_amount_X4_amountPart : GoodIn wsX6_amount wsX4_amountPart := goodIn_r _ [6, 7, 8, 9, 10, 11, 12, 13, 14, 15, 16, 17, 18, 19, 5, 20, 21, 22, 23, 24, 25, 26, 27, 28, 29, 30, 37, 38, 39, 40, 41, 42, 43, 44, 45, 46, 47, 48, 49, 50, 51, 52, 53, 54, 55, 56] (by decide +kernel) (by decide +kernel)
set_option maxRecDepth 20000 in
theorem gX6_amount_X4_amountPart : GoodIn wsX6_amount (wsV RX6 98 RX4 yX4_amountPart wsX4_amountPart) := goodIn_app (goodIn_of _ (by decide +kernel)) ggX6_amount_X4_amountPart
theorem dX6_amount_0 : decode cX6_amount 0 = .ok (.aload_n 0, 1) := by decide +kernel
theorem dX6_amount_1 : decode cX6_amount 1 = .ok (.getfield 47, 3) := by decide +kernel
theorem dX6_amount_4 : decode cX6_amount 4 = .ok (.iload_n 1, 1) := by decide +kernel
theorem dX6_amount_5 : decode cX6_amount 5 = .ok (.iload_n 2, 1) := by decide +kernel
theorem dX6_amount_6 : decode cX6_amount 6 = .ok (.iload_n 3, 1) := by decide +kernel
theorem dX6_amount_7 : decode cX6_amount 7 = .ok (.iload 4, 2) := by decide +kernel
theorem dX6_amount_9 : decode cX6_amount 9 = .ok (.invokevirtual 98, 3) := by decide +kernel
theorem dX6_amount_12 : decode cX6_amount 12 = .ok (.lreturn, 1) := by decide +kernel
set_option maxRecDepth 20000 in
theorem ggX6_idle_X4_idleFacts : GoodIn wsX6_idle wsX4_idleFacts := goodIn_r _ [6, 7, 8, 9, 10, 11, 5, 12, 13, 14, 15, 16, 17, 18, 19, 20, 21, 22, 23, 24, 25, 26, 27, 28, 29, 30, 31, 32, 33, 34, 35, 36, 37, 38, 39, 40, 41, 42, 43, 44, 45, 46, 47, 48, 49, 50, 51, 52, 53, 54, 55, 56, 57, 58, 59, 60, 61, 62, 63, 64, 65, 66, 67, 68, 69, 70, 71, 72, 73, 74, 75, 76, 77, 78, 79, 80, 81, 82, 83, 84, 85, 86, 87, 88, 89, 96, 97, 98, 99, 100, 101, 102, 103, 104, 105, 106, 107, 108, 109, 110, 111, 112, 113, 114, 115, 116, 117] (by decide +kernel) (by decide +kernel)
set_option maxRecDepth 20000 in
theorem gX6_idle_X4_idleFacts : GoodIn wsX6_idle (wsV RX6 102 RX4 yX4_idleFacts wsX4_idleFacts) := goodIn_app (goodIn_of _ (by decide +kernel)) ggX6_idle_X4_idleFacts
theorem dX6_idle_0 : decode cX6_idle 0 = .ok (.aload_n 0, 1) := by decide +kernel
theorem dX6_idle_1 : decode cX6_idle 1 = .ok (.getfield 47, 3) := by decide +kernel
theorem dX6_idle_4 : decode cX6_idle 4 = .ok (.invokevirtual 102, 3) := by decide +kernel
theorem dX6_idle_7 : decode cX6_idle 7 = .ok (.ireturn, 1) := by decide +kernel
set_option maxRecDepth 20000 in
theorem ggX6_enough_X4_fewestFacts : GoodIn wsX6_enough wsX4_fewestFacts := goodIn_r _ [6, 7, 8, 9, 10, 11, 5, 12, 13, 14, 15, 16, 17, 18, 19, 20, 21, 22, 23, 24, 25, 26, 27, 28, 29, 30, 31, 32, 33, 34, 35, 36, 37, 38, 39, 40, 41, 42, 43, 44, 45, 46, 47, 48, 49, 50, 51, 52, 53, 54, 55, 56, 57, 58, 59, 60, 61, 62, 63, 64, 65, 66, 67, 68, 69, 70, 71, 72, 73, 74, 75, 76, 77, 78, 79, 80, 81, 82, 83, 84, 85, 86, 87, 88, 89, 90, 91, 92, 93, 94, 95, 96, 97, 98, 99, 100, 101, 102, 103, 104, 105, 112, 113, 114, 115, 116, 117, 118, 119, 120, 121, 122, 123, 124, 125, 126, 127, 128, 129, 130, 131, 132, 133] (by decide +kernel) (by decide +kernel)
set_option maxRecDepth 20000 in
theorem gX6_enough_X4_fewestFacts : GoodIn wsX6_enough (wsV RX6 105 RX4 yX4_fewestFacts wsX4_fewestFacts) := goodIn_app (goodIn_of _ (by decide +kernel)) ggX6_enough_X4_fewestFacts
theorem dX6_enough_0 : decode cX6_enough 0 = .ok (.aload_n 0, 1) := by decide +kernel
theorem dX6_enough_1 : decode cX6_enough 1 = .ok (.getfield 47, 3) := by decide +kernel
theorem dX6_enough_4 : decode cX6_enough 4 = .ok (.invokevirtual 105, 3) := by decide +kernel
theorem dX6_enough_7 : decode cX6_enough 7 = .ok (.ireturn, 1) := by decide +kernel
set_option maxRecDepth 20000 in
theorem ggX6_lacking_X4_lackingName : GoodIn wsX6_lacking wsX4_lackingName := goodIn_r _ [6, 7, 8, 9, 10, 11, 12, 13, 14, 15, 16, 17, 18, 19, 20, 21, 22, 23, 24, 25, 26, 5, 27, 28, 29, 30, 31, 32, 33, 34, 35, 36, 37, 38, 39, 40, 41, 42, 43, 44, 45, 46, 47, 48, 49, 50, 51, 58, 59, 60, 61, 62, 63, 64, 65, 66, 67, 68, 69, 70, 71, 72, 73, 74, 75, 76, 77, 78, 79] (by decide +kernel) (by decide +kernel)
set_option maxRecDepth 20000 in
theorem gX6_lacking_X4_lackingName : GoodIn wsX6_lacking (wsV RX6 108 RX4 yX4_lackingName wsX4_lackingName) := goodIn_app (goodIn_of _ (by decide +kernel)) ggX6_lacking_X4_lackingName
theorem dX6_lacking_0 : decode cX6_lacking 0 = .ok (.aload_n 0, 1) := by decide +kernel
theorem dX6_lacking_1 : decode cX6_lacking 1 = .ok (.getfield 47, 3) := by decide +kernel
theorem dX6_lacking_4 : decode cX6_lacking 4 = .ok (.invokevirtual 108, 3) := by decide +kernel
theorem dX6_lacking_7 : decode cX6_lacking 7 = .ok (.ireturn, 1) := by decide +kernel
set_option maxRecDepth 20000 in
theorem ggX6_strange_X4_strangePart : GoodIn wsX6_strange wsX4_strangePart := goodIn_r _ [6, 7, 8, 9, 10, 11, 12, 13, 14, 15, 16, 17, 5, 18, 19, 20, 21, 22, 23, 24, 25, 26, 27, 28, 29, 30, 31, 32, 33, 34, 35, 36, 43, 44, 45, 46, 47, 48, 49, 50, 51, 52, 53, 54, 55, 56, 57, 58, 59, 60, 61, 62] (by decide +kernel) (by decide +kernel)
set_option maxRecDepth 20000 in
theorem gX6_strange_X4_strangePart : GoodIn wsX6_strange (wsV RX6 111 RX4 yX4_strangePart wsX4_strangePart) := goodIn_app (goodIn_of _ (by decide +kernel)) ggX6_strange_X4_strangePart
theorem dX6_strange_0 : decode cX6_strange 0 = .ok (.aload_n 0, 1) := by decide +kernel
theorem dX6_strange_1 : decode cX6_strange 1 = .ok (.getfield 47, 3) := by decide +kernel
theorem dX6_strange_4 : decode cX6_strange 4 = .ok (.iload_n 1, 1) := by decide +kernel
theorem dX6_strange_5 : decode cX6_strange 5 = .ok (.invokevirtual 111, 3) := by decide +kernel
theorem dX6_strange_8 : decode cX6_strange 8 = .ok (.ireturn, 1) := by decide +kernel
set_option maxRecDepth 20000 in
theorem ggX6_put_X3_allows : GoodIn wsX6_put wsX3_allows := goodIn_r _ [8, 9, 10, 11, 7, 12, 13, 14, 15, 16, 17, 18, 154, 155, 156, 157, 158, 159] (by decide +kernel) (by decide +kernel)
set_option maxRecDepth 20000 in
theorem gX6_put_X3_allows : GoodIn wsX6_put (wsV RX6 114 RX3 yX3_allows wsX3_allows) := goodIn_app (goodIn_of _ (by decide +kernel)) ggX6_put_X3_allows
set_option maxRecDepth 20000 in
theorem ggX6_put_X3_part : GoodIn wsX6_put wsX3_part := goodIn_r _ [12, 13, 14, 15, 16, 7, 17, 18, 154, 155, 156, 157, 158, 159] (by decide +kernel) (by decide +kernel)
set_option maxRecDepth 20000 in
theorem gX6_put_X3_part : GoodIn wsX6_put (wsV RX6 84 RX3 yX3_part wsX3_part) := goodIn_app (goodIn_of _ (by decide +kernel)) ggX6_put_X3_part
set_option maxRecDepth 20000 in
theorem ggX6_put_X0_keep : GoodIn wsX6_put wsX0_keep := goodIn_r _ [24, 25, 26, 27, 28, 29, 30, 23, 31, 160, 161, 162] (by decide +kernel) (by decide +kernel)
set_option maxRecDepth 20000 in
theorem gX6_put_X0_keep : GoodIn wsX6_put (wsV RX6 118 RX0 yX0_keep wsX0_keep) := goodIn_app (goodIn_of _ (by decide +kernel)) ggX6_put_X0_keep
set_option maxRecDepth 20000 in
theorem ggX6_put_X3_setNumber : GoodIn wsX6_put wsX3_setNumber := goodIn_r _ [35, 13, 14, 15, 16, 7, 17, 18, 154, 155, 156, 157, 158, 159] (by decide +kernel) (by decide +kernel)
set_option maxRecDepth 20000 in
theorem gX6_put_X3_setNumber : GoodIn wsX6_put (wsV RX6 122 RX3 yX3_setNumber wsX3_setNumber) := goodIn_app (goodIn_of _ (by decide +kernel)) ggX6_put_X3_setNumber
set_option maxRecDepth 20000 in
theorem ggX6_put_X4_solve : GoodIn wsX6_put wsX4_solve := goodIn_r _ [40, 41, 42, 43, 44, 45, 46, 47, 48, 49, 50, 51, 52, 53, 39, 54, 55, 56, 57, 58, 59, 60, 7, 61, 18, 62, 10, 11, 12, 13, 14, 15, 16, 17, 63, 64, 65, 66, 67, 68, 69, 70, 71, 72, 73, 74, 75, 76, 77, 78, 79, 80, 81, 82, 83, 84, 85, 86, 87, 88, 89, 90, 91, 92, 93, 94, 95, 96, 97, 98, 99, 100, 101, 102, 103, 104, 105, 106, 107, 108, 109, 110, 111, 112, 113, 114, 115, 116, 117, 118, 119, 120, 121, 122, 123, 124, 125, 126, 127, 128, 129, 130, 131, 132, 133, 134, 135, 136, 137, 138, 139, 140, 141, 142, 143, 144, 145, 146, 147, 163, 164, 165, 166, 167, 168, 169, 170, 171, 172, 173, 174, 175, 176, 154, 155, 156, 157, 158, 159, 177, 178] (by decide +kernel) (by decide +kernel)
set_option maxRecDepth 20000 in
theorem gX6_put_X4_solve : GoodIn wsX6_put (wsV RX6 125 RX4 yX4_solve wsX4_solve) := goodIn_app (goodIn_of _ (by decide +kernel)) ggX6_put_X4_solve
theorem dX6_put_0 : decode cX6_put 0 = .ok (.aload_n 0, 1) := by decide +kernel
theorem dX6_put_1 : decode cX6_put 1 = .ok (.getfield 35, 3) := by decide +kernel
theorem dX6_put_4 : decode cX6_put 4 = .ok (.iload_n 1, 1) := by decide +kernel
theorem dX6_put_5 : decode cX6_put 5 = .ok (.iload_n 2, 1) := by decide +kernel
theorem dX6_put_6 : decode cX6_put 6 = .ok (.invokevirtual 114, 3) := by decide +kernel
theorem dX6_put_9 : decode cX6_put 9 = .ok (.ifCond .ne 5, 3) := by decide +kernel
theorem dX6_put_12 : decode cX6_put 12 = .ok (.iconst 0, 1) := by decide +kernel
theorem dX6_put_13 : decode cX6_put 13 = .ok (.ireturn, 1) := by decide +kernel
theorem dX6_put_14 : decode cX6_put 14 = .ok (.aload_n 0, 1) := by decide +kernel
theorem dX6_put_15 : decode cX6_put 15 = .ok (.getfield 28, 3) := by decide +kernel
theorem dX6_put_18 : decode cX6_put 18 = .ok (.iload_n 1, 1) := by decide +kernel
theorem dX6_put_19 : decode cX6_put 19 = .ok (.aload_n 0, 1) := by decide +kernel
theorem dX6_put_20 : decode cX6_put 20 = .ok (.getfield 35, 3) := by decide +kernel
theorem dX6_put_23 : decode cX6_put 23 = .ok (.iload_n 1, 1) := by decide +kernel
theorem dX6_put_24 : decode cX6_put 24 = .ok (.iconst 4, 1) := by decide +kernel
theorem dX6_put_25 : decode cX6_put 25 = .ok (.invokevirtual 84, 3) := by decide +kernel
theorem dX6_put_28 : decode cX6_put 28 = .ok (.invokevirtual 118, 3) := by decide +kernel
theorem dX6_put_31 : decode cX6_put 31 = .ok (.aload_n 0, 1) := by decide +kernel
theorem dX6_put_32 : decode cX6_put 32 = .ok (.getfield 35, 3) := by decide +kernel
theorem dX6_put_35 : decode cX6_put 35 = .ok (.iload_n 1, 1) := by decide +kernel
theorem dX6_put_36 : decode cX6_put 36 = .ok (.iload_n 2, 1) := by decide +kernel
theorem dX6_put_37 : decode cX6_put 37 = .ok (.invokevirtual 122, 3) := by decide +kernel
theorem dX6_put_40 : decode cX6_put 40 = .ok (.aload_n 0, 1) := by decide +kernel
theorem dX6_put_41 : decode cX6_put 41 = .ok (.getfield 47, 3) := by decide +kernel
theorem dX6_put_44 : decode cX6_put 44 = .ok (.invokevirtual 125, 3) := by decide +kernel
theorem dX6_put_47 : decode cX6_put 47 = .ok (.iconst 1, 1) := by decide +kernel
theorem dX6_put_48 : decode cX6_put 48 = .ok (.ireturn, 1) := by decide +kernel
set_option maxRecDepth 20000 in
theorem ggX6_undo_X0_size : GoodIn wsX6_undo wsX0_size := goodIn_r _ [8, 9, 156, 157, 158] (by decide +kernel) (by decide +kernel)
set_option maxRecDepth 20000 in
theorem gX6_undo_X0_size : GoodIn wsX6_undo (wsV RX6 128 RX0 yX0_size wsX0_size) := goodIn_app (goodIn_of _ (by decide +kernel)) ggX6_undo_X0_size
set_option maxRecDepth 20000 in
theorem ggX6_undo_X0_lastSentence : GoodIn wsX6_undo wsX0_lastSentence := goodIn_r _ [13, 9, 14, 156, 157, 158] (by decide +kernel) (by decide +kernel)
set_option maxRecDepth 20000 in
theorem gX6_undo_X0_lastSentence : GoodIn wsX6_undo (wsV RX6 129 RX0 yX0_lastSentence wsX0_lastSentence) := goodIn_app (goodIn_of _ (by decide +kernel)) ggX6_undo_X0_lastSentence
set_option maxRecDepth 20000 in
theorem ggX6_undo_X0_lastNumber : GoodIn wsX6_undo wsX0_lastNumber := goodIn_r _ [18, 9, 19, 156, 157, 158] (by decide +kernel) (by decide +kernel)
set_option maxRecDepth 20000 in
theorem gX6_undo_X0_lastNumber : GoodIn wsX6_undo (wsV RX6 132 RX0 yX0_lastNumber wsX0_lastNumber) := goodIn_app (goodIn_of _ (by decide +kernel)) ggX6_undo_X0_lastNumber
set_option maxRecDepth 20000 in
theorem ggX6_undo_X3_setNumber : GoodIn wsX6_undo wsX3_setNumber := goodIn_r _ [24, 25, 26, 27, 28, 23, 29, 30, 159, 160, 161, 162, 163, 164] (by decide +kernel) (by decide +kernel)
set_option maxRecDepth 20000 in
theorem gX6_undo_X3_setNumber : GoodIn wsX6_undo (wsV RX6 122 RX3 yX3_setNumber wsX3_setNumber) := goodIn_app (goodIn_of _ (by decide +kernel)) ggX6_undo_X3_setNumber
set_option maxRecDepth 20000 in
theorem ggX6_undo_X0_dropLast : GoodIn wsX6_undo wsX0_dropLast := goodIn_r _ [34, 9, 156, 157, 158] (by decide +kernel) (by decide +kernel)
set_option maxRecDepth 20000 in
theorem gX6_undo_X0_dropLast : GoodIn wsX6_undo (wsV RX6 135 RX0 yX0_dropLast wsX0_dropLast) := goodIn_app (goodIn_of _ (by decide +kernel)) ggX6_undo_X0_dropLast
set_option maxRecDepth 20000 in
theorem ggX6_undo_X4_solve : GoodIn wsX6_undo wsX4_solve := goodIn_r _ [39, 40, 41, 42, 43, 44, 45, 46, 47, 48, 49, 50, 51, 52, 38, 53, 54, 55, 56, 57, 58, 59, 23, 60, 30, 61, 62, 63, 64, 25, 26, 27, 28, 29, 65, 66, 67, 68, 69, 70, 71, 72, 73, 74, 75, 76, 77, 78, 79, 80, 81, 82, 83, 84, 85, 86, 87, 88, 89, 90, 91, 92, 93, 94, 95, 96, 97, 98, 99, 100, 101, 102, 103, 104, 105, 106, 107, 108, 109, 110, 111, 112, 113, 114, 115, 116, 117, 118, 119, 120, 121, 122, 123, 124, 125, 126, 127, 128, 129, 130, 131, 132, 133, 134, 135, 136, 137, 138, 139, 140, 141, 142, 143, 144, 145, 146, 147, 148, 149, 165, 166, 167, 168, 169, 170, 171, 172, 173, 174, 175, 176, 177, 178, 159, 160, 161, 162, 163, 164, 179, 180] (by decide +kernel) (by decide +kernel)
set_option maxRecDepth 20000 in
theorem gX6_undo_X4_solve : GoodIn wsX6_undo (wsV RX6 125 RX4 yX4_solve wsX4_solve) := goodIn_app (goodIn_of _ (by decide +kernel)) ggX6_undo_X4_solve
theorem dX6_undo_0 : decode cX6_undo 0 = .ok (.aload_n 0, 1) := by decide +kernel
theorem dX6_undo_1 : decode cX6_undo 1 = .ok (.getfield 28, 3) := by decide +kernel
theorem dX6_undo_4 : decode cX6_undo 4 = .ok (.invokevirtual 128, 3) := by decide +kernel
theorem dX6_undo_7 : decode cX6_undo 7 = .ok (.ifCond .ne 5, 3) := by decide +kernel
theorem dX6_undo_10 : decode cX6_undo 10 = .ok (.iconst (-1), 1) := by decide +kernel
theorem dX6_undo_11 : decode cX6_undo 11 = .ok (.ireturn, 1) := by decide +kernel
theorem dX6_undo_12 : decode cX6_undo 12 = .ok (.aload_n 0, 1) := by decide +kernel
theorem dX6_undo_13 : decode cX6_undo 13 = .ok (.getfield 28, 3) := by decide +kernel
theorem dX6_undo_16 : decode cX6_undo 16 = .ok (.invokevirtual 129, 3) := by decide +kernel
theorem dX6_undo_19 : decode cX6_undo 19 = .ok (.istore_n 1, 1) := by decide +kernel
theorem dX6_undo_20 : decode cX6_undo 20 = .ok (.aload_n 0, 1) := by decide +kernel
theorem dX6_undo_21 : decode cX6_undo 21 = .ok (.getfield 35, 3) := by decide +kernel
theorem dX6_undo_24 : decode cX6_undo 24 = .ok (.iload_n 1, 1) := by decide +kernel
theorem dX6_undo_25 : decode cX6_undo 25 = .ok (.aload_n 0, 1) := by decide +kernel
theorem dX6_undo_26 : decode cX6_undo 26 = .ok (.getfield 28, 3) := by decide +kernel
theorem dX6_undo_29 : decode cX6_undo 29 = .ok (.invokevirtual 132, 3) := by decide +kernel
theorem dX6_undo_32 : decode cX6_undo 32 = .ok (.invokevirtual 122, 3) := by decide +kernel
theorem dX6_undo_35 : decode cX6_undo 35 = .ok (.aload_n 0, 1) := by decide +kernel
theorem dX6_undo_36 : decode cX6_undo 36 = .ok (.getfield 28, 3) := by decide +kernel
theorem dX6_undo_39 : decode cX6_undo 39 = .ok (.invokevirtual 135, 3) := by decide +kernel
theorem dX6_undo_42 : decode cX6_undo 42 = .ok (.aload_n 0, 1) := by decide +kernel
theorem dX6_undo_43 : decode cX6_undo 43 = .ok (.getfield 47, 3) := by decide +kernel
theorem dX6_undo_46 : decode cX6_undo 46 = .ok (.invokevirtual 125, 3) := by decide +kernel
theorem dX6_undo_49 : decode cX6_undo 49 = .ok (.iload_n 1, 1) := by decide +kernel
theorem dX6_undo_50 : decode cX6_undo 50 = .ok (.ireturn, 1) := by decide +kernel
set_option maxRecDepth 20000 in
theorem ggX6_count_X5_size : GoodIn wsX6_count wsX5_size := goodIn_r _ [9, 10, 48, 49, 50, 51] (by decide +kernel) (by decide +kernel)
set_option maxRecDepth 20000 in
theorem gX6_count_X5_size : GoodIn wsX6_count (wsV RX6 55 RX5 yX5_size wsX5_size) := goodIn_app (goodIn_of _ (by decide +kernel)) ggX6_count_X5_size
set_option maxRecDepth 20000 in
theorem ggX6_count_X3_facts : GoodIn wsX6_count wsX3_facts := goodIn_r _ [15, 16, 52, 53, 54, 55, 56, 57] (by decide +kernel) (by decide +kernel)
set_option maxRecDepth 20000 in
theorem gX6_count_X3_facts : GoodIn wsX6_count (wsV RX6 138 RX3 yX3_facts wsX3_facts) := goodIn_app (goodIn_of _ (by decide +kernel)) ggX6_count_X3_facts
set_option maxRecDepth 20000 in
theorem ggX6_count_J6_bitCount_0f7a4 : GoodIn wsX6_count wsJ6_bitCount_0f7a4 := goodIn_r _ [20, 21, 22, 23] (by decide +kernel) (by decide +kernel)
set_option maxRecDepth 20000 in
theorem gX6_count_J6_bitCount_0f7a4 : GoodIn wsX6_count (va_wsS RX6 141 yJ6_bitCount_0f7a4 wsJ6_bitCount_0f7a4) := goodIn_app (goodIn_of _ (by decide +kernel)) ggX6_count_J6_bitCount_0f7a4
set_option maxRecDepth 20000 in
theorem ggX6_count_X3_stages : GoodIn wsX6_count wsX3_stages := goodIn_r _ [27, 28, 29, 52, 53, 54, 55, 56, 57] (by decide +kernel) (by decide +kernel)
set_option maxRecDepth 20000 in
theorem gX6_count_X3_stages : GoodIn wsX6_count (wsV RX6 146 RX3 yX3_stages wsX3_stages) := goodIn_app (goodIn_of _ (by decide +kernel)) ggX6_count_X3_stages
set_option maxRecDepth 20000 in
theorem ggX6_count_X4_settledAtFirst : GoodIn wsX6_count wsX4_settledAtFirst := goodIn_r _ [34, 35, 58, 59, 60, 61, 62, 63, 64, 65, 66, 67, 68, 69, 70, 71] (by decide +kernel) (by decide +kernel)
set_option maxRecDepth 20000 in
theorem gX6_count_X4_settledAtFirst : GoodIn wsX6_count (wsV RX6 149 RX4 yX4_settledAtFirst wsX4_settledAtFirst) := goodIn_app (goodIn_of _ (by decide +kernel)) ggX6_count_X4_settledAtFirst
set_option maxRecDepth 20000 in
theorem ggX6_count_X0_size : GoodIn wsX6_count wsX0_size := goodIn_r _ [40, 41, 72, 73, 74] (by decide +kernel) (by decide +kernel)
set_option maxRecDepth 20000 in
theorem gX6_count_X0_size : GoodIn wsX6_count (wsV RX6 128 RX0 yX0_size wsX0_size) := goodIn_app (goodIn_of _ (by decide +kernel)) ggX6_count_X0_size
theorem dX6_count_0 : decode cX6_count 0 = .ok (.iload_n 1, 1) := by decide +kernel
theorem dX6_count_1 : decode cX6_count 1 = .ok (.tableswitch 78 0 4 #[35, 43, 54, 62, 70], 35) := by decide +kernel
theorem dX6_count_36 : decode cX6_count 36 = .ok (.aload_n 0, 1) := by decide +kernel
theorem dX6_count_37 : decode cX6_count 37 = .ok (.getfield 12, 3) := by decide +kernel
theorem dX6_count_40 : decode cX6_count 40 = .ok (.invokevirtual 55, 3) := by decide +kernel
theorem dX6_count_43 : decode cX6_count 43 = .ok (.ireturn, 1) := by decide +kernel
theorem dX6_count_44 : decode cX6_count 44 = .ok (.aload_n 0, 1) := by decide +kernel
theorem dX6_count_45 : decode cX6_count 45 = .ok (.getfield 35, 3) := by decide +kernel
theorem dX6_count_48 : decode cX6_count 48 = .ok (.invokevirtual 138, 3) := by decide +kernel
theorem dX6_count_51 : decode cX6_count 51 = .ok (.invokestatic 141, 3) := by decide +kernel
theorem dX6_count_54 : decode cX6_count 54 = .ok (.ireturn, 1) := by decide +kernel
theorem dX6_count_55 : decode cX6_count 55 = .ok (.aload_n 0, 1) := by decide +kernel
theorem dX6_count_56 : decode cX6_count 56 = .ok (.getfield 35, 3) := by decide +kernel
theorem dX6_count_59 : decode cX6_count 59 = .ok (.invokevirtual 146, 3) := by decide +kernel
theorem dX6_count_62 : decode cX6_count 62 = .ok (.ireturn, 1) := by decide +kernel
theorem dX6_count_63 : decode cX6_count 63 = .ok (.aload_n 0, 1) := by decide +kernel
theorem dX6_count_64 : decode cX6_count 64 = .ok (.getfield 47, 3) := by decide +kernel
theorem dX6_count_67 : decode cX6_count 67 = .ok (.invokevirtual 149, 3) := by decide +kernel
theorem dX6_count_70 : decode cX6_count 70 = .ok (.ireturn, 1) := by decide +kernel
theorem dX6_count_71 : decode cX6_count 71 = .ok (.aload_n 0, 1) := by decide +kernel
theorem dX6_count_72 : decode cX6_count 72 = .ok (.getfield 28, 3) := by decide +kernel
theorem dX6_count_75 : decode cX6_count 75 = .ok (.invokevirtual 128, 3) := by decide +kernel
theorem dX6_count_78 : decode cX6_count 78 = .ok (.ireturn, 1) := by decide +kernel
theorem dX6_count_79 : decode cX6_count 79 = .ok (.iconst (-1), 1) := by decide +kernel
theorem dX6_count_80 : decode cX6_count 80 = .ok (.ireturn, 1) := by decide +kernel
theorem dX7_init_0 : decode cX7_init 0 = .ok (.aload_n 0, 1) := by decide +kernel
theorem dX7_init_1 : decode cX7_init 1 = .ok (.invokespecial 3, 3) := by decide +kernel
theorem dX7_init_4 : decode cX7_init 4 = .ok (.aload_n 0, 1) := by decide +kernel
theorem dX7_init_5 : decode cX7_init 5 = .ok (.sipush 400, 3) := by decide +kernel
theorem dX7_init_8 : decode cX7_init 8 = .ok (.newarray .byte, 2) := by decide +kernel
theorem dX7_init_10 : decode cX7_init 10 = .ok (.putfield 9, 3) := by decide +kernel
theorem dX7_init_13 : decode cX7_init 13 = .ok (.aload_n 0, 1) := by decide +kernel
theorem dX7_init_14 : decode cX7_init 14 = .ok (.bipush 70, 2) := by decide +kernel
theorem dX7_init_16 : decode cX7_init 16 = .ok (.newarray .int, 2) := by decide +kernel
theorem dX7_init_18 : decode cX7_init 18 = .ok (.putfield 13, 3) := by decide +kernel
theorem dX7_init_21 : decode cX7_init 21 = .ok (.aload_n 0, 1) := by decide +kernel
theorem dX7_init_22 : decode cX7_init 22 = .ok (.bipush 70, 2) := by decide +kernel
theorem dX7_init_24 : decode cX7_init 24 = .ok (.newarray .int, 2) := by decide +kernel
theorem dX7_init_26 : decode cX7_init 26 = .ok (.putfield 17, 3) := by decide +kernel
theorem dX7_init_29 : decode cX7_init 29 = .ok (.aload_n 0, 1) := by decide +kernel
theorem dX7_init_30 : decode cX7_init 30 = .ok (.iconst 5, 1) := by decide +kernel
theorem dX7_init_31 : decode cX7_init 31 = .ok (.newarray .int, 2) := by decide +kernel
theorem dX7_init_33 : decode cX7_init 33 = .ok (.putfield 20, 3) := by decide +kernel
theorem dX7_init_36 : decode cX7_init 36 = .ok (.aload_n 0, 1) := by decide +kernel
theorem dX7_init_37 : decode cX7_init 37 = .ok (.iconst 5, 1) := by decide +kernel
theorem dX7_init_38 : decode cX7_init 38 = .ok (.newarray .int, 2) := by decide +kernel
theorem dX7_init_40 : decode cX7_init 40 = .ok (.putfield 23, 3) := by decide +kernel
theorem dX7_init_43 : decode cX7_init 43 = .ok (.aload_n 0, 1) := by decide +kernel
theorem dX7_init_44 : decode cX7_init 44 = .ok (.bipush 50, 2) := by decide +kernel
theorem dX7_init_46 : decode cX7_init 46 = .ok (.newarray .int, 2) := by decide +kernel
theorem dX7_init_48 : decode cX7_init 48 = .ok (.putfield 26, 3) := by decide +kernel
theorem dX7_init_51 : decode cX7_init 51 = .ok (.aload_n 0, 1) := by decide +kernel
theorem dX7_init_52 : decode cX7_init 52 = .ok (.bipush 50, 2) := by decide +kernel
theorem dX7_init_54 : decode cX7_init 54 = .ok (.newarray .int, 2) := by decide +kernel
theorem dX7_init_56 : decode cX7_init 56 = .ok (.putfield 29, 3) := by decide +kernel
theorem dX7_init_59 : decode cX7_init 59 = .ok (.aload_n 0, 1) := by decide +kernel
theorem dX7_init_60 : decode cX7_init 60 = .ok (.bipush 72, 2) := by decide +kernel
theorem dX7_init_62 : decode cX7_init 62 = .ok (.newarray .long, 2) := by decide +kernel
theorem dX7_init_64 : decode cX7_init 64 = .ok (.putfield 32, 3) := by decide +kernel
theorem dX7_init_67 : decode cX7_init 67 = .ok (.aload_n 0, 1) := by decide +kernel
theorem dX7_init_68 : decode cX7_init 68 = .ok (.bipush 9, 2) := by decide +kernel
theorem dX7_init_70 : decode cX7_init 70 = .ok (.newarray .long, 2) := by decide +kernel
theorem dX7_init_72 : decode cX7_init 72 = .ok (.putfield 36, 3) := by decide +kernel
theorem dX7_init_75 : decode cX7_init 75 = .ok (.aload_n 0, 1) := by decide +kernel
theorem dX7_init_76 : decode cX7_init 76 = .ok (.bipush 8, 2) := by decide +kernel
theorem dX7_init_78 : decode cX7_init 78 = .ok (.newarray .int, 2) := by decide +kernel
theorem dX7_init_80 : decode cX7_init 80 = .ok (.putfield 39, 3) := by decide +kernel
theorem dX7_init_83 : decode cX7_init 83 = .ok (.return_, 1) := by decide +kernel
theorem dX7_thrown_0 : decode cX7_thrown 0 = .ok (.aload_n 0, 1) := by decide +kernel
theorem dX7_thrown_1 : decode cX7_thrown 1 = .ok (.getfield 42, 3) := by decide +kernel
theorem dX7_thrown_4 : decode cX7_thrown 4 = .ok (.ireturn, 1) := by decide +kernel
theorem dX7_isIn_0 : decode cX7_isIn 0 = .ok (.iload_n 0, 1) := by decide +kernel
theorem dX7_isIn_1 : decode cX7_isIn 1 = .ok (.iload_n 1, 1) := by decide +kernel
theorem dX7_isIn_2 : decode cX7_isIn 2 = .ok (.if_icmp .lt 12, 3) := by decide +kernel
theorem dX7_isIn_5 : decode cX7_isIn 5 = .ok (.iload_n 0, 1) := by decide +kernel
theorem dX7_isIn_6 : decode cX7_isIn 6 = .ok (.iload_n 2, 1) := by decide +kernel
theorem dX7_isIn_7 : decode cX7_isIn 7 = .ok (.if_icmp .gt 7, 3) := by decide +kernel
theorem dX7_isIn_10 : decode cX7_isIn 10 = .ok (.iconst 1, 1) := by decide +kernel
theorem dX7_isIn_11 : decode cX7_isIn 11 = .ok (.goto 4, 3) := by decide +kernel
theorem dX7_isIn_14 : decode cX7_isIn 14 = .ok (.iconst 0, 1) := by decide +kernel
theorem dX7_isIn_15 : decode cX7_isIn 15 = .ok (.ireturn, 1) := by decide +kernel
theorem dX7_bytesIn_0 : decode cX7_bytesIn 0 = .ok (.iconst 0, 1) := by decide +kernel
theorem dX7_bytesIn_1 : decode cX7_bytesIn 1 = .ok (.istore_n 1, 1) := by decide +kernel
theorem dX7_bytesIn_2 : decode cX7_bytesIn 2 = .ok (.bipush 24, 2) := by decide +kernel
theorem dX7_bytesIn_4 : decode cX7_bytesIn 4 = .ok (.istore_n 2, 1) := by decide +kernel
theorem dX7_bytesIn_5 : decode cX7_bytesIn 5 = .ok (.iload_n 2, 1) := by decide +kernel
theorem dX7_bytesIn_6 : decode cX7_bytesIn 6 = .ok (.ifCond .lt 27, 3) := by decide +kernel
theorem dX7_bytesIn_9 : decode cX7_bytesIn 9 = .ok (.iload_n 1, 1) := by decide +kernel
theorem dX7_bytesIn_10 : decode cX7_bytesIn 10 = .ok (.iload_n 0, 1) := by decide +kernel
theorem dX7_bytesIn_11 : decode cX7_bytesIn 11 = .ok (.iload_n 2, 1) := by decide +kernel
theorem dX7_bytesIn_12 : decode cX7_bytesIn 12 = .ok (.ishr, 1) := by decide +kernel
theorem dX7_bytesIn_13 : decode cX7_bytesIn 13 = .ok (.sipush 255, 3) := by decide +kernel
theorem dX7_bytesIn_16 : decode cX7_bytesIn 16 = .ok (.iand, 1) := by decide +kernel
theorem dX7_bytesIn_17 : decode cX7_bytesIn 17 = .ok (.ifCond .eq 7, 3) := by decide +kernel
theorem dX7_bytesIn_20 : decode cX7_bytesIn 20 = .ok (.iconst 1, 1) := by decide +kernel
theorem dX7_bytesIn_21 : decode cX7_bytesIn 21 = .ok (.goto 4, 3) := by decide +kernel
theorem dX7_bytesIn_24 : decode cX7_bytesIn 24 = .ok (.iconst 0, 1) := by decide +kernel
theorem dX7_bytesIn_25 : decode cX7_bytesIn 25 = .ok (.iadd, 1) := by decide +kernel
theorem dX7_bytesIn_26 : decode cX7_bytesIn 26 = .ok (.istore_n 1, 1) := by decide +kernel
theorem dX7_bytesIn_27 : decode cX7_bytesIn 27 = .ok (.iinc 2 (-8), 3) := by decide +kernel
theorem dX7_bytesIn_30 : decode cX7_bytesIn 30 = .ok (.goto (-25), 3) := by decide +kernel
theorem dX7_bytesIn_33 : decode cX7_bytesIn 33 = .ok (.iload_n 1, 1) := by decide +kernel
theorem dX7_bytesIn_34 : decode cX7_bytesIn 34 = .ok (.ireturn, 1) := by decide +kernel
theorem dX7_put4_0 : decode cX7_put4 0 = .ok (.bipush 24, 2) := by decide +kernel
theorem dX7_put4_2 : decode cX7_put4 2 = .ok (.istore_n 2, 1) := by decide +kernel
theorem dX7_put4_3 : decode cX7_put4 3 = .ok (.iload_n 2, 1) := by decide +kernel
theorem dX7_put4_4 : decode cX7_put4 4 = .ok (.ifCond .lt 45, 3) := by decide +kernel
theorem dX7_put4_7 : decode cX7_put4 7 = .ok (.iload_n 1, 1) := by decide +kernel
theorem dX7_put4_8 : decode cX7_put4 8 = .ok (.iload_n 2, 1) := by decide +kernel
theorem dX7_put4_9 : decode cX7_put4 9 = .ok (.ishr, 1) := by decide +kernel
theorem dX7_put4_10 : decode cX7_put4 10 = .ok (.sipush 255, 3) := by decide +kernel
theorem dX7_put4_13 : decode cX7_put4 13 = .ok (.iand, 1) := by decide +kernel
theorem dX7_put4_14 : decode cX7_put4 14 = .ok (.ifCond .ne 6, 3) := by decide +kernel
theorem dX7_put4_17 : decode cX7_put4 17 = .ok (.goto 26, 3) := by decide +kernel
theorem dX7_put4_20 : decode cX7_put4 20 = .ok (.aload_n 0, 1) := by decide +kernel
theorem dX7_put4_21 : decode cX7_put4 21 = .ok (.getfield 9, 3) := by decide +kernel
theorem dX7_put4_24 : decode cX7_put4 24 = .ok (.aload_n 0, 1) := by decide +kernel
theorem dX7_put4_25 : decode cX7_put4 25 = .ok (.getfield 46, 3) := by decide +kernel
theorem dX7_put4_28 : decode cX7_put4 28 = .ok (.iload_n 1, 1) := by decide +kernel
theorem dX7_put4_29 : decode cX7_put4 29 = .ok (.iload_n 2, 1) := by decide +kernel
theorem dX7_put4_30 : decode cX7_put4 30 = .ok (.ishr, 1) := by decide +kernel
theorem dX7_put4_31 : decode cX7_put4 31 = .ok (.i2b, 1) := by decide +kernel
theorem dX7_put4_32 : decode cX7_put4 32 = .ok (.bastore, 1) := by decide +kernel
theorem dX7_put4_33 : decode cX7_put4 33 = .ok (.aload_n 0, 1) := by decide +kernel
theorem dX7_put4_34 : decode cX7_put4 34 = .ok (.dup, 1) := by decide +kernel
theorem dX7_put4_35 : decode cX7_put4 35 = .ok (.getfield 46, 3) := by decide +kernel
theorem dX7_put4_38 : decode cX7_put4 38 = .ok (.iconst 1, 1) := by decide +kernel
theorem dX7_put4_39 : decode cX7_put4 39 = .ok (.iadd, 1) := by decide +kernel
theorem dX7_put4_40 : decode cX7_put4 40 = .ok (.putfield 46, 3) := by decide +kernel
theorem dX7_put4_43 : decode cX7_put4 43 = .ok (.iinc 2 (-8), 3) := by decide +kernel
theorem dX7_put4_46 : decode cX7_put4 46 = .ok (.goto (-43), 3) := by decide +kernel
theorem dX7_put4_49 : decode cX7_put4 49 = .ok (.return_, 1) := by decide +kernel
set_option maxRecDepth 20000 in
theorem ggX7_feed_X7_bytesIn : GoodIn wsX7_feed wsX7_bytesIn := goodIn_r _ [6] (by decide +kernel) (by decide +kernel)
set_option maxRecDepth 20000 in
theorem gX7_feed_X7_bytesIn : GoodIn wsX7_feed (va_wsS RX7 49 yX7_bytesIn wsX7_bytesIn) := goodIn_app (goodIn_of _ (by decide +kernel)) ggX7_feed_X7_bytesIn
set_option maxRecDepth 20000 in
theorem ggX7_feed_X7_put4 : GoodIn wsX7_feed wsX7_put4 := goodIn_r _ [10, 11, 2, 12, 13, 14, 15, 16, 17, 18, 19, 20, 21, 22, 23, 24, 25, 26, 27, 28, 29, 30, 31, 32, 33, 34, 35, 36, 37, 38] (by decide +kernel) (by decide +kernel)
set_option maxRecDepth 20000 in
theorem gX7_feed_X7_put4 : GoodIn wsX7_feed (wsV RX7 53 RX7 yX7_put4 wsX7_put4) := goodIn_app (goodIn_of _ (by decide +kernel)) ggX7_feed_X7_put4
theorem dX7_feed_0 : decode cX7_feed 0 = .ok (.aload_n 0, 1) := by decide +kernel
theorem dX7_feed_1 : decode cX7_feed 1 = .ok (.iconst 0, 1) := by decide +kernel
theorem dX7_feed_2 : decode cX7_feed 2 = .ok (.putfield 42, 3) := by decide +kernel
theorem dX7_feed_5 : decode cX7_feed 5 = .ok (.aload_n 0, 1) := by decide +kernel
theorem dX7_feed_6 : decode cX7_feed 6 = .ok (.getfield 46, 3) := by decide +kernel
theorem dX7_feed_9 : decode cX7_feed 9 = .ok (.iload_n 1, 1) := by decide +kernel
theorem dX7_feed_10 : decode cX7_feed 10 = .ok (.invokestatic 49, 3) := by decide +kernel
theorem dX7_feed_13 : decode cX7_feed 13 = .ok (.iadd, 1) := by decide +kernel
theorem dX7_feed_14 : decode cX7_feed 14 = .ok (.iload_n 2, 1) := by decide +kernel
theorem dX7_feed_15 : decode cX7_feed 15 = .ok (.invokestatic 49, 3) := by decide +kernel
theorem dX7_feed_18 : decode cX7_feed 18 = .ok (.iadd, 1) := by decide +kernel
theorem dX7_feed_19 : decode cX7_feed 19 = .ok (.iload_n 3, 1) := by decide +kernel
theorem dX7_feed_20 : decode cX7_feed 20 = .ok (.invokestatic 49, 3) := by decide +kernel
theorem dX7_feed_23 : decode cX7_feed 23 = .ok (.iadd, 1) := by decide +kernel
theorem dX7_feed_24 : decode cX7_feed 24 = .ok (.iload 4, 2) := by decide +kernel
theorem dX7_feed_26 : decode cX7_feed 26 = .ok (.invokestatic 49, 3) := by decide +kernel
theorem dX7_feed_29 : decode cX7_feed 29 = .ok (.iadd, 1) := by decide +kernel
theorem dX7_feed_30 : decode cX7_feed 30 = .ok (.iload 5, 2) := by decide +kernel
theorem dX7_feed_32 : decode cX7_feed 32 = .ok (.invokestatic 49, 3) := by decide +kernel
theorem dX7_feed_35 : decode cX7_feed 35 = .ok (.iadd, 1) := by decide +kernel
theorem dX7_feed_36 : decode cX7_feed 36 = .ok (.sipush 400, 3) := by decide +kernel
theorem dX7_feed_39 : decode cX7_feed 39 = .ok (.if_icmp .le 5, 3) := by decide +kernel
theorem dX7_feed_42 : decode cX7_feed 42 = .ok (.iconst (-1), 1) := by decide +kernel
theorem dX7_feed_43 : decode cX7_feed 43 = .ok (.ireturn, 1) := by decide +kernel
theorem dX7_feed_44 : decode cX7_feed 44 = .ok (.aload_n 0, 1) := by decide +kernel
theorem dX7_feed_45 : decode cX7_feed 45 = .ok (.iload_n 1, 1) := by decide +kernel
theorem dX7_feed_46 : decode cX7_feed 46 = .ok (.invokevirtual 53, 3) := by decide +kernel
theorem dX7_feed_49 : decode cX7_feed 49 = .ok (.aload_n 0, 1) := by decide +kernel
theorem dX7_feed_50 : decode cX7_feed 50 = .ok (.iload_n 2, 1) := by decide +kernel
theorem dX7_feed_51 : decode cX7_feed 51 = .ok (.invokevirtual 53, 3) := by decide +kernel
theorem dX7_feed_54 : decode cX7_feed 54 = .ok (.aload_n 0, 1) := by decide +kernel
theorem dX7_feed_55 : decode cX7_feed 55 = .ok (.iload_n 3, 1) := by decide +kernel
theorem dX7_feed_56 : decode cX7_feed 56 = .ok (.invokevirtual 53, 3) := by decide +kernel
theorem dX7_feed_59 : decode cX7_feed 59 = .ok (.aload_n 0, 1) := by decide +kernel
theorem dX7_feed_60 : decode cX7_feed 60 = .ok (.iload 4, 2) := by decide +kernel
theorem dX7_feed_62 : decode cX7_feed 62 = .ok (.invokevirtual 53, 3) := by decide +kernel
theorem dX7_feed_65 : decode cX7_feed 65 = .ok (.aload_n 0, 1) := by decide +kernel
theorem dX7_feed_66 : decode cX7_feed 66 = .ok (.iload 5, 2) := by decide +kernel
theorem dX7_feed_68 : decode cX7_feed 68 = .ok (.invokevirtual 53, 3) := by decide +kernel
theorem dX7_feed_71 : decode cX7_feed 71 = .ok (.aload_n 0, 1) := by decide +kernel
theorem dX7_feed_72 : decode cX7_feed 72 = .ok (.getfield 46, 3) := by decide +kernel
theorem dX7_feed_75 : decode cX7_feed 75 = .ok (.ireturn, 1) := by decide +kernel
theorem dX7_end_0 : decode cX7_end 0 = .ok (.aload_n 0, 1) := by decide +kernel
theorem dX7_end_1 : decode cX7_end 1 = .ok (.iconst 0, 1) := by decide +kernel
theorem dX7_end_2 : decode cX7_end 2 = .ok (.putfield 42, 3) := by decide +kernel
theorem dX7_end_5 : decode cX7_end 5 = .ok (.iload_n 1, 1) := by decide +kernel
theorem dX7_end_6 : decode cX7_end 6 = .ok (.ifCond .lt 11, 3) := by decide +kernel
theorem dX7_end_9 : decode cX7_end 9 = .ok (.iload_n 1, 1) := by decide +kernel
theorem dX7_end_10 : decode cX7_end 10 = .ok (.aload_n 0, 1) := by decide +kernel
theorem dX7_end_11 : decode cX7_end 11 = .ok (.getfield 46, 3) := by decide +kernel
theorem dX7_end_14 : decode cX7_end 14 = .ok (.if_icmp .le 5, 3) := by decide +kernel
theorem dX7_end_17 : decode cX7_end 17 = .ok (.iconst 0, 1) := by decide +kernel
theorem dX7_end_18 : decode cX7_end 18 = .ok (.ireturn, 1) := by decide +kernel
theorem dX7_end_19 : decode cX7_end 19 = .ok (.aload_n 0, 1) := by decide +kernel
theorem dX7_end_20 : decode cX7_end 20 = .ok (.iload_n 1, 1) := by decide +kernel
theorem dX7_end_21 : decode cX7_end 21 = .ok (.putfield 46, 3) := by decide +kernel
theorem dX7_end_24 : decode cX7_end 24 = .ok (.iconst 1, 1) := by decide +kernel
theorem dX7_end_25 : decode cX7_end 25 = .ok (.ireturn, 1) := by decide +kernel
theorem dX7_isSmall_0 : decode cX7_isSmall 0 = .ok (.iload_n 0, 1) := by decide +kernel
theorem dX7_isSmall_1 : decode cX7_isSmall 1 = .ok (.bipush 97, 2) := by decide +kernel
theorem dX7_isSmall_3 : decode cX7_isSmall 3 = .ok (.if_icmp .lt 13, 3) := by decide +kernel
theorem dX7_isSmall_6 : decode cX7_isSmall 6 = .ok (.iload_n 0, 1) := by decide +kernel
theorem dX7_isSmall_7 : decode cX7_isSmall 7 = .ok (.bipush 122, 2) := by decide +kernel
theorem dX7_isSmall_9 : decode cX7_isSmall 9 = .ok (.if_icmp .gt 7, 3) := by decide +kernel
theorem dX7_isSmall_12 : decode cX7_isSmall 12 = .ok (.iconst 1, 1) := by decide +kernel
theorem dX7_isSmall_13 : decode cX7_isSmall 13 = .ok (.goto 4, 3) := by decide +kernel
theorem dX7_isSmall_16 : decode cX7_isSmall 16 = .ok (.iconst 0, 1) := by decide +kernel
theorem dX7_isSmall_17 : decode cX7_isSmall 17 = .ok (.ireturn, 1) := by decide +kernel
theorem dX7_isDigit_0 : decode cX7_isDigit 0 = .ok (.iload_n 0, 1) := by decide +kernel
theorem dX7_isDigit_1 : decode cX7_isDigit 1 = .ok (.bipush 48, 2) := by decide +kernel
theorem dX7_isDigit_3 : decode cX7_isDigit 3 = .ok (.if_icmp .lt 13, 3) := by decide +kernel
theorem dX7_isDigit_6 : decode cX7_isDigit 6 = .ok (.iload_n 0, 1) := by decide +kernel
theorem dX7_isDigit_7 : decode cX7_isDigit 7 = .ok (.bipush 57, 2) := by decide +kernel
theorem dX7_isDigit_9 : decode cX7_isDigit 9 = .ok (.if_icmp .gt 7, 3) := by decide +kernel
theorem dX7_isDigit_12 : decode cX7_isDigit 12 = .ok (.iconst 1, 1) := by decide +kernel
theorem dX7_isDigit_13 : decode cX7_isDigit 13 = .ok (.goto 4, 3) := by decide +kernel
theorem dX7_isDigit_16 : decode cX7_isDigit 16 = .ok (.iconst 0, 1) := by decide +kernel
theorem dX7_isDigit_17 : decode cX7_isDigit 17 = .ok (.ireturn, 1) := by decide +kernel
set_option maxRecDepth 20000 in
theorem ggX7_next_X7_isSmall : GoodIn wsX7_next wsX7_isSmall := goodIn_r _ [8] (by decide +kernel) (by decide +kernel)
set_option maxRecDepth 20000 in
theorem gX7_next_X7_isSmall : GoodIn wsX7_next (va_wsS RX7 63 yX7_isSmall wsX7_isSmall) := goodIn_app (goodIn_of _ (by decide +kernel)) ggX7_next_X7_isSmall
set_option maxRecDepth 20000 in
theorem ggX7_next_X7_isDigit : GoodIn wsX7_next wsX7_isDigit := goodIn_r _ [11] (by decide +kernel) (by decide +kernel)
set_option maxRecDepth 20000 in
theorem gX7_next_X7_isDigit : GoodIn wsX7_next (va_wsS RX7 67 yX7_isDigit wsX7_isDigit) := goodIn_app (goodIn_of _ (by decide +kernel)) ggX7_next_X7_isDigit
theorem dX7_next_0 : decode cX7_next 0 = .ok (.aload_n 0, 1) := by decide +kernel
theorem dX7_next_1 : decode cX7_next 1 = .ok (.aload_n 0, 1) := by decide +kernel
theorem dX7_next_2 : decode cX7_next 2 = .ok (.getfield 57, 3) := by decide +kernel
theorem dX7_next_5 : decode cX7_next 5 = .ok (.putfield 60, 3) := by decide +kernel
theorem dX7_next_8 : decode cX7_next 8 = .ok (.aload_n 0, 1) := by decide +kernel
theorem dX7_next_9 : decode cX7_next 9 = .ok (.getfield 60, 3) := by decide +kernel
theorem dX7_next_12 : decode cX7_next 12 = .ok (.aload_n 0, 1) := by decide +kernel
theorem dX7_next_13 : decode cX7_next 13 = .ok (.getfield 46, 3) := by decide +kernel
theorem dX7_next_16 : decode cX7_next 16 = .ok (.if_icmp .ge 44, 3) := by decide +kernel
theorem dX7_next_19 : decode cX7_next 19 = .ok (.aload_n 0, 1) := by decide +kernel
theorem dX7_next_20 : decode cX7_next 20 = .ok (.getfield 9, 3) := by decide +kernel
theorem dX7_next_23 : decode cX7_next 23 = .ok (.aload_n 0, 1) := by decide +kernel
theorem dX7_next_24 : decode cX7_next 24 = .ok (.getfield 60, 3) := by decide +kernel
theorem dX7_next_27 : decode cX7_next 27 = .ok (.baload, 1) := by decide +kernel
theorem dX7_next_28 : decode cX7_next 28 = .ok (.bipush 32, 2) := by decide +kernel
theorem dX7_next_30 : decode cX7_next 30 = .ok (.if_icmp .eq 17, 3) := by decide +kernel
theorem dX7_next_33 : decode cX7_next 33 = .ok (.aload_n 0, 1) := by decide +kernel
theorem dX7_next_34 : decode cX7_next 34 = .ok (.getfield 9, 3) := by decide +kernel
theorem dX7_next_37 : decode cX7_next 37 = .ok (.aload_n 0, 1) := by decide +kernel
theorem dX7_next_38 : decode cX7_next 38 = .ok (.getfield 60, 3) := by decide +kernel
theorem dX7_next_41 : decode cX7_next 41 = .ok (.baload, 1) := by decide +kernel
theorem dX7_next_42 : decode cX7_next 42 = .ok (.bipush 10, 2) := by decide +kernel
theorem dX7_next_44 : decode cX7_next 44 = .ok (.if_icmp .ne 16, 3) := by decide +kernel
theorem dX7_next_47 : decode cX7_next 47 = .ok (.aload_n 0, 1) := by decide +kernel
theorem dX7_next_48 : decode cX7_next 48 = .ok (.dup, 1) := by decide +kernel
theorem dX7_next_49 : decode cX7_next 49 = .ok (.getfield 60, 3) := by decide +kernel
theorem dX7_next_52 : decode cX7_next 52 = .ok (.iconst 1, 1) := by decide +kernel
theorem dX7_next_53 : decode cX7_next 53 = .ok (.iadd, 1) := by decide +kernel
theorem dX7_next_54 : decode cX7_next 54 = .ok (.putfield 60, 3) := by decide +kernel
theorem dX7_next_57 : decode cX7_next 57 = .ok (.goto (-49), 3) := by decide +kernel
theorem dX7_next_60 : decode cX7_next 60 = .ok (.aload_n 0, 1) := by decide +kernel
theorem dX7_next_61 : decode cX7_next 61 = .ok (.aload_n 0, 1) := by decide +kernel
theorem dX7_next_62 : decode cX7_next 62 = .ok (.getfield 60, 3) := by decide +kernel
theorem dX7_next_65 : decode cX7_next 65 = .ok (.putfield 57, 3) := by decide +kernel
theorem dX7_next_68 : decode cX7_next 68 = .ok (.aload_n 0, 1) := by decide +kernel
theorem dX7_next_69 : decode cX7_next 69 = .ok (.getfield 60, 3) := by decide +kernel
theorem dX7_next_72 : decode cX7_next 72 = .ok (.aload_n 0, 1) := by decide +kernel
theorem dX7_next_73 : decode cX7_next 73 = .ok (.getfield 46, 3) := by decide +kernel
theorem dX7_next_76 : decode cX7_next 76 = .ok (.if_icmp .ne 4, 3) := by decide +kernel
theorem dX7_next_79 : decode cX7_next 79 = .ok (.return_, 1) := by decide +kernel
theorem dX7_next_80 : decode cX7_next 80 = .ok (.aload_n 0, 1) := by decide +kernel
theorem dX7_next_81 : decode cX7_next 81 = .ok (.getfield 9, 3) := by decide +kernel
theorem dX7_next_84 : decode cX7_next 84 = .ok (.aload_n 0, 1) := by decide +kernel
theorem dX7_next_85 : decode cX7_next 85 = .ok (.getfield 60, 3) := by decide +kernel
theorem dX7_next_88 : decode cX7_next 88 = .ok (.baload, 1) := by decide +kernel
theorem dX7_next_89 : decode cX7_next 89 = .ok (.istore_n 1, 1) := by decide +kernel
theorem dX7_next_90 : decode cX7_next 90 = .ok (.aload_n 0, 1) := by decide +kernel
theorem dX7_next_91 : decode cX7_next 91 = .ok (.dup, 1) := by decide +kernel
theorem dX7_next_92 : decode cX7_next 92 = .ok (.getfield 57, 3) := by decide +kernel
theorem dX7_next_95 : decode cX7_next 95 = .ok (.iconst 1, 1) := by decide +kernel
theorem dX7_next_96 : decode cX7_next 96 = .ok (.iadd, 1) := by decide +kernel
theorem dX7_next_97 : decode cX7_next 97 = .ok (.putfield 57, 3) := by decide +kernel
theorem dX7_next_100 : decode cX7_next 100 = .ok (.aload_n 0, 1) := by decide +kernel
theorem dX7_next_101 : decode cX7_next 101 = .ok (.getfield 57, 3) := by decide +kernel
theorem dX7_next_104 : decode cX7_next 104 = .ok (.aload_n 0, 1) := by decide +kernel
theorem dX7_next_105 : decode cX7_next 105 = .ok (.getfield 46, 3) := by decide +kernel
theorem dX7_next_108 : decode cX7_next 108 = .ok (.if_icmp .ge 75, 3) := by decide +kernel
theorem dX7_next_111 : decode cX7_next 111 = .ok (.iload_n 1, 1) := by decide +kernel
theorem dX7_next_112 : decode cX7_next 112 = .ok (.invokestatic 63, 3) := by decide +kernel
theorem dX7_next_115 : decode cX7_next 115 = .ok (.ifCond .eq 18, 3) := by decide +kernel
theorem dX7_next_118 : decode cX7_next 118 = .ok (.aload_n 0, 1) := by decide +kernel
theorem dX7_next_119 : decode cX7_next 119 = .ok (.getfield 9, 3) := by decide +kernel
theorem dX7_next_122 : decode cX7_next 122 = .ok (.aload_n 0, 1) := by decide +kernel
theorem dX7_next_123 : decode cX7_next 123 = .ok (.getfield 57, 3) := by decide +kernel
theorem dX7_next_126 : decode cX7_next 126 = .ok (.baload, 1) := by decide +kernel
theorem dX7_next_127 : decode cX7_next 127 = .ok (.invokestatic 63, 3) := by decide +kernel
theorem dX7_next_130 : decode cX7_next 130 = .ok (.ifCond .ne 40, 3) := by decide +kernel
theorem dX7_next_133 : decode cX7_next 133 = .ok (.iload_n 1, 1) := by decide +kernel
theorem dX7_next_134 : decode cX7_next 134 = .ok (.invokestatic 67, 3) := by decide +kernel
theorem dX7_next_137 : decode cX7_next 137 = .ok (.ifCond .eq 46, 3) := by decide +kernel
theorem dX7_next_140 : decode cX7_next 140 = .ok (.aload_n 0, 1) := by decide +kernel
theorem dX7_next_141 : decode cX7_next 141 = .ok (.getfield 9, 3) := by decide +kernel
theorem dX7_next_144 : decode cX7_next 144 = .ok (.aload_n 0, 1) := by decide +kernel
theorem dX7_next_145 : decode cX7_next 145 = .ok (.getfield 57, 3) := by decide +kernel
theorem dX7_next_148 : decode cX7_next 148 = .ok (.baload, 1) := by decide +kernel
theorem dX7_next_149 : decode cX7_next 149 = .ok (.invokestatic 63, 3) := by decide +kernel
theorem dX7_next_152 : decode cX7_next 152 = .ok (.ifCond .ne 18, 3) := by decide +kernel
theorem dX7_next_155 : decode cX7_next 155 = .ok (.aload_n 0, 1) := by decide +kernel
theorem dX7_next_156 : decode cX7_next 156 = .ok (.getfield 9, 3) := by decide +kernel
theorem dX7_next_159 : decode cX7_next 159 = .ok (.aload_n 0, 1) := by decide +kernel
theorem dX7_next_160 : decode cX7_next 160 = .ok (.getfield 57, 3) := by decide +kernel
theorem dX7_next_163 : decode cX7_next 163 = .ok (.baload, 1) := by decide +kernel
theorem dX7_next_164 : decode cX7_next 164 = .ok (.invokestatic 67, 3) := by decide +kernel
theorem dX7_next_167 : decode cX7_next 167 = .ok (.ifCond .eq 16, 3) := by decide +kernel
theorem dX7_next_170 : decode cX7_next 170 = .ok (.aload_n 0, 1) := by decide +kernel
theorem dX7_next_171 : decode cX7_next 171 = .ok (.dup, 1) := by decide +kernel
theorem dX7_next_172 : decode cX7_next 172 = .ok (.getfield 57, 3) := by decide +kernel
theorem dX7_next_175 : decode cX7_next 175 = .ok (.iconst 1, 1) := by decide +kernel
theorem dX7_next_176 : decode cX7_next 176 = .ok (.iadd, 1) := by decide +kernel
theorem dX7_next_177 : decode cX7_next 177 = .ok (.putfield 57, 3) := by decide +kernel
theorem dX7_next_180 : decode cX7_next 180 = .ok (.goto (-80), 3) := by decide +kernel
theorem dX7_next_183 : decode cX7_next 183 = .ok (.return_, 1) := by decide +kernel
set_option maxRecDepth 20000 in
theorem ggX7_is_J0_length_8abf5 : GoodIn wsX7_is wsJ0_length_8abf5 := goodIn_r _ [8, 9, 10, 11, 12, 7, 13, 14, 15] (by decide +kernel) (by decide +kernel)
set_option maxRecDepth 20000 in
theorem gX7_is_J0_length_8abf5 : GoodIn wsX7_is (wsV RX7 70 RJ0 yJ0_length_8abf5 wsJ0_length_8abf5) := goodIn_app (goodIn_of _ (by decide +kernel)) ggX7_is_J0_length_8abf5
set_option maxRecDepth 20000 in
theorem ggX7_is_J0_charAt_5068e : GoodIn wsX7_is wsJ0_charAt_5068e := goodIn_r _ [19, 9, 20, 21, 22, 7, 23, 14, 15, 24, 25, 26, 27, 28, 29, 30, 31, 32, 33, 34, 35, 36, 37, 38, 39, 40, 41, 42, 43, 44, 45, 46, 47, 48, 49, 50, 51, 52] (by decide +kernel) (by decide +kernel)
set_option maxRecDepth 20000 in
theorem gX7_is_J0_charAt_5068e : GoodIn wsX7_is (wsV RX7 75 RJ0 yJ0_charAt_5068e wsJ0_charAt_5068e) := goodIn_app (goodIn_of _ (by decide +kernel)) ggX7_is_J0_charAt_5068e
theorem dX7_is_0 : decode cX7_is 0 = .ok (.aload_n 0, 1) := by decide +kernel
theorem dX7_is_1 : decode cX7_is 1 = .ok (.getfield 57, 3) := by decide +kernel
theorem dX7_is_4 : decode cX7_is 4 = .ok (.aload_n 0, 1) := by decide +kernel
theorem dX7_is_5 : decode cX7_is 5 = .ok (.getfield 60, 3) := by decide +kernel
theorem dX7_is_8 : decode cX7_is 8 = .ok (.isub, 1) := by decide +kernel
theorem dX7_is_9 : decode cX7_is 9 = .ok (.aload_n 1, 1) := by decide +kernel
theorem dX7_is_10 : decode cX7_is 10 = .ok (.invokevirtual 70, 3) := by decide +kernel
theorem dX7_is_13 : decode cX7_is 13 = .ok (.if_icmp .eq 5, 3) := by decide +kernel
theorem dX7_is_16 : decode cX7_is 16 = .ok (.iconst 0, 1) := by decide +kernel
theorem dX7_is_17 : decode cX7_is 17 = .ok (.ireturn, 1) := by decide +kernel
theorem dX7_is_18 : decode cX7_is 18 = .ok (.iconst 0, 1) := by decide +kernel
theorem dX7_is_19 : decode cX7_is 19 = .ok (.istore_n 2, 1) := by decide +kernel
theorem dX7_is_20 : decode cX7_is 20 = .ok (.iload_n 2, 1) := by decide +kernel
theorem dX7_is_21 : decode cX7_is 21 = .ok (.aload_n 1, 1) := by decide +kernel
theorem dX7_is_22 : decode cX7_is 22 = .ok (.invokevirtual 70, 3) := by decide +kernel
theorem dX7_is_25 : decode cX7_is 25 = .ok (.if_icmp .ge 30, 3) := by decide +kernel
theorem dX7_is_28 : decode cX7_is 28 = .ok (.aload_n 0, 1) := by decide +kernel
theorem dX7_is_29 : decode cX7_is 29 = .ok (.getfield 9, 3) := by decide +kernel
theorem dX7_is_32 : decode cX7_is 32 = .ok (.aload_n 0, 1) := by decide +kernel
theorem dX7_is_33 : decode cX7_is 33 = .ok (.getfield 60, 3) := by decide +kernel
theorem dX7_is_36 : decode cX7_is 36 = .ok (.iload_n 2, 1) := by decide +kernel
theorem dX7_is_37 : decode cX7_is 37 = .ok (.iadd, 1) := by decide +kernel
theorem dX7_is_38 : decode cX7_is 38 = .ok (.baload, 1) := by decide +kernel
theorem dX7_is_39 : decode cX7_is 39 = .ok (.aload_n 1, 1) := by decide +kernel
theorem dX7_is_40 : decode cX7_is 40 = .ok (.iload_n 2, 1) := by decide +kernel
theorem dX7_is_41 : decode cX7_is 41 = .ok (.invokevirtual 75, 3) := by decide +kernel
theorem dX7_is_44 : decode cX7_is 44 = .ok (.if_icmp .eq 5, 3) := by decide +kernel
theorem dX7_is_47 : decode cX7_is 47 = .ok (.iconst 0, 1) := by decide +kernel
theorem dX7_is_48 : decode cX7_is 48 = .ok (.ireturn, 1) := by decide +kernel
theorem dX7_is_49 : decode cX7_is 49 = .ok (.iinc 2 1, 3) := by decide +kernel
theorem dX7_is_52 : decode cX7_is 52 = .ok (.goto (-32), 3) := by decide +kernel
theorem dX7_is_55 : decode cX7_is 55 = .ok (.iconst 1, 1) := by decide +kernel
theorem dX7_is_56 : decode cX7_is 56 = .ok (.ireturn, 1) := by decide +kernel
set_option maxRecDepth 20000 in
theorem ggX7_takes_X7_is : GoodIn wsX7_takes wsX7_is := goodIn_r _ [5, 6, 7, 8, 9, 10, 11, 12, 13, 14, 15, 16, 17, 18, 19, 20, 21, 22, 23, 24, 25, 26, 27, 28, 29, 30, 31, 32, 33, 34, 35, 36, 37, 38, 39, 40, 41, 42, 43, 44, 45, 46, 47, 48, 49, 50, 51, 52, 53, 54, 55, 56, 57, 69, 70, 71, 72, 73, 74, 75, 76, 77, 78, 79, 80, 81, 82, 83, 84, 85, 86, 87, 88, 89, 90, 91, 92, 93, 94, 95] (by decide +kernel) (by decide +kernel)
set_option maxRecDepth 20000 in
theorem gX7_takes_X7_is : GoodIn wsX7_takes (wsV RX7 79 RX7 yX7_is wsX7_is) := goodIn_app (goodIn_of _ (by decide +kernel)) ggX7_takes_X7_is
set_option maxRecDepth 20000 in
theorem ggX7_takes_X7_next : GoodIn wsX7_takes wsX7_next := goodIn_r _ [61, 6, 7, 62, 8, 63, 64, 4, 65, 66, 67, 68, 69, 70, 71, 72, 73, 74, 75, 76, 77, 78, 79, 80, 81, 82, 83, 84, 85, 86, 87, 88, 89, 90, 91, 92, 93, 94, 95] (by decide +kernel) (by decide +kernel)
set_option maxRecDepth 20000 in
theorem gX7_takes_X7_next : GoodIn wsX7_takes (wsV RX7 83 RX7 yX7_next wsX7_next) := goodIn_app (goodIn_of _ (by decide +kernel)) ggX7_takes_X7_next
theorem dX7_takes_0 : decode cX7_takes 0 = .ok (.aload_n 0, 1) := by decide +kernel
theorem dX7_takes_1 : decode cX7_takes 1 = .ok (.aload_n 1, 1) := by decide +kernel
theorem dX7_takes_2 : decode cX7_takes 2 = .ok (.invokevirtual 79, 3) := by decide +kernel
theorem dX7_takes_5 : decode cX7_takes 5 = .ok (.ifCond .ne 5, 3) := by decide +kernel
theorem dX7_takes_8 : decode cX7_takes 8 = .ok (.iconst 0, 1) := by decide +kernel
theorem dX7_takes_9 : decode cX7_takes 9 = .ok (.ireturn, 1) := by decide +kernel
theorem dX7_takes_10 : decode cX7_takes 10 = .ok (.aload_n 0, 1) := by decide +kernel
theorem dX7_takes_11 : decode cX7_takes 11 = .ok (.invokevirtual 83, 3) := by decide +kernel
theorem dX7_takes_14 : decode cX7_takes 14 = .ok (.iconst 1, 1) := by decide +kernel
theorem dX7_takes_15 : decode cX7_takes 15 = .ok (.ireturn, 1) := by decide +kernel
theorem dX7_one_0 : decode cX7_one 0 = .ok (.iload_n 0, 1) := by decide +kernel
theorem dX7_one_1 : decode cX7_one 1 = .ok (.ifCond .eq 7, 3) := by decide +kernel
theorem dX7_one_4 : decode cX7_one 4 = .ok (.iconst 0, 1) := by decide +kernel
theorem dX7_one_5 : decode cX7_one 5 = .ok (.goto 28, 3) := by decide +kernel
theorem dX7_one_8 : decode cX7_one 8 = .ok (.iload_n 1, 1) := by decide +kernel
theorem dX7_one_9 : decode cX7_one 9 = .ok (.ifCond .eq 7, 3) := by decide +kernel
theorem dX7_one_12 : decode cX7_one 12 = .ok (.iconst 1, 1) := by decide +kernel
theorem dX7_one_13 : decode cX7_one 13 = .ok (.goto 20, 3) := by decide +kernel
theorem dX7_one_16 : decode cX7_one 16 = .ok (.iload_n 2, 1) := by decide +kernel
theorem dX7_one_17 : decode cX7_one 17 = .ok (.ifCond .eq 7, 3) := by decide +kernel
theorem dX7_one_20 : decode cX7_one 20 = .ok (.iconst 2, 1) := by decide +kernel
theorem dX7_one_21 : decode cX7_one 21 = .ok (.goto 12, 3) := by decide +kernel
theorem dX7_one_24 : decode cX7_one 24 = .ok (.iload_n 3, 1) := by decide +kernel
theorem dX7_one_25 : decode cX7_one 25 = .ok (.ifCond .eq 7, 3) := by decide +kernel
theorem dX7_one_28 : decode cX7_one 28 = .ok (.iconst 3, 1) := by decide +kernel
theorem dX7_one_29 : decode cX7_one 29 = .ok (.goto 4, 3) := by decide +kernel
theorem dX7_one_32 : decode cX7_one 32 = .ok (.iconst (-1), 1) := by decide +kernel
theorem dX7_one_33 : decode cX7_one 33 = .ok (.ireturn, 1) := by decide +kernel
set_option maxRecDepth 20000 in
theorem ggX7_name_X7_is : GoodIn wsX7_name wsX7_is := goodIn_r _ [5, 6, 7, 8, 9, 10, 11, 12, 13, 14, 15, 16, 17, 18, 19, 20, 21, 22, 23, 24, 25, 26, 27, 28, 29, 30, 31, 32, 33, 34, 35, 36, 37, 38, 39, 40, 41, 42, 43, 44, 45, 46, 47, 48, 49, 50, 51, 52, 53, 54, 55, 56, 57, 61, 62, 63, 64, 65, 66, 67, 68, 69, 70, 71, 72, 73, 74, 75, 76, 77, 78, 79, 80, 81, 82, 83, 84, 85, 86, 87] (by decide +kernel) (by decide +kernel)
set_option maxRecDepth 20000 in
theorem gX7_name_X7_is : GoodIn wsX7_name (wsV RX7 79 RX7 yX7_is wsX7_is) := goodIn_app (goodIn_of _ (by decide +kernel)) ggX7_name_X7_is
set_option maxRecDepth 20000 in
theorem ggX7_name_X7_one : GoodIn wsX7_name wsX7_one := goodIn_r _ [60] (by decide +kernel) (by decide +kernel)
set_option maxRecDepth 20000 in
theorem gX7_name_X7_one : GoodIn wsX7_name (va_wsS RX7 94 yX7_one wsX7_one) := goodIn_app (goodIn_of _ (by decide +kernel)) ggX7_name_X7_one
theorem dX7_name_0 : decode cX7_name 0 = .ok (.aload_n 0, 1) := by decide +kernel
theorem dX7_name_1 : decode cX7_name 1 = .ok (.ldc 86, 2) := by decide +kernel
theorem dX7_name_3 : decode cX7_name 3 = .ok (.invokevirtual 79, 3) := by decide +kernel
theorem dX7_name_6 : decode cX7_name 6 = .ok (.aload_n 0, 1) := by decide +kernel
theorem dX7_name_7 : decode cX7_name 7 = .ok (.ldc 88, 2) := by decide +kernel
theorem dX7_name_9 : decode cX7_name 9 = .ok (.invokevirtual 79, 3) := by decide +kernel
theorem dX7_name_12 : decode cX7_name 12 = .ok (.aload_n 0, 1) := by decide +kernel
theorem dX7_name_13 : decode cX7_name 13 = .ok (.ldc 90, 2) := by decide +kernel
theorem dX7_name_15 : decode cX7_name 15 = .ok (.invokevirtual 79, 3) := by decide +kernel
theorem dX7_name_18 : decode cX7_name 18 = .ok (.aload_n 0, 1) := by decide +kernel
theorem dX7_name_19 : decode cX7_name 19 = .ok (.ldc 92, 2) := by decide +kernel
theorem dX7_name_21 : decode cX7_name 21 = .ok (.invokevirtual 79, 3) := by decide +kernel
theorem dX7_name_24 : decode cX7_name 24 = .ok (.invokestatic 94, 3) := by decide +kernel
theorem dX7_name_27 : decode cX7_name 27 = .ok (.istore_n 1, 1) := by decide +kernel
theorem dX7_name_28 : decode cX7_name 28 = .ok (.iload_n 1, 1) := by decide +kernel
theorem dX7_name_29 : decode cX7_name 29 = .ok (.iconst (-1), 1) := by decide +kernel
theorem dX7_name_30 : decode cX7_name 30 = .ok (.if_icmp .eq 5, 3) := by decide +kernel
theorem dX7_name_33 : decode cX7_name 33 = .ok (.iload_n 1, 1) := by decide +kernel
theorem dX7_name_34 : decode cX7_name 34 = .ok (.ireturn, 1) := by decide +kernel
theorem dX7_name_35 : decode cX7_name 35 = .ok (.aload_n 0, 1) := by decide +kernel
theorem dX7_name_36 : decode cX7_name 36 = .ok (.ldc 98, 2) := by decide +kernel
theorem dX7_name_38 : decode cX7_name 38 = .ok (.invokevirtual 79, 3) := by decide +kernel
theorem dX7_name_41 : decode cX7_name 41 = .ok (.aload_n 0, 1) := by decide +kernel
theorem dX7_name_42 : decode cX7_name 42 = .ok (.ldc 100, 2) := by decide +kernel
theorem dX7_name_44 : decode cX7_name 44 = .ok (.invokevirtual 79, 3) := by decide +kernel
theorem dX7_name_47 : decode cX7_name 47 = .ok (.aload_n 0, 1) := by decide +kernel
theorem dX7_name_48 : decode cX7_name 48 = .ok (.ldc 102, 2) := by decide +kernel
theorem dX7_name_50 : decode cX7_name 50 = .ok (.invokevirtual 79, 3) := by decide +kernel
theorem dX7_name_53 : decode cX7_name 53 = .ok (.aload_n 0, 1) := by decide +kernel
theorem dX7_name_54 : decode cX7_name 54 = .ok (.ldc 104, 2) := by decide +kernel
theorem dX7_name_56 : decode cX7_name 56 = .ok (.invokevirtual 79, 3) := by decide +kernel
theorem dX7_name_59 : decode cX7_name 59 = .ok (.invokestatic 94, 3) := by decide +kernel
theorem dX7_name_62 : decode cX7_name 62 = .ok (.istore_n 1, 1) := by decide +kernel
theorem dX7_name_63 : decode cX7_name 63 = .ok (.iload_n 1, 1) := by decide +kernel
theorem dX7_name_64 : decode cX7_name 64 = .ok (.iconst (-1), 1) := by decide +kernel
theorem dX7_name_65 : decode cX7_name 65 = .ok (.if_icmp .ne 7, 3) := by decide +kernel
theorem dX7_name_68 : decode cX7_name 68 = .ok (.iconst (-1), 1) := by decide +kernel
theorem dX7_name_69 : decode cX7_name 69 = .ok (.goto 6, 3) := by decide +kernel
theorem dX7_name_72 : decode cX7_name 72 = .ok (.iconst 4, 1) := by decide +kernel
theorem dX7_name_73 : decode cX7_name 73 = .ok (.iload_n 1, 1) := by decide +kernel
theorem dX7_name_74 : decode cX7_name 74 = .ok (.iadd, 1) := by decide +kernel
theorem dX7_name_75 : decode cX7_name 75 = .ok (.ireturn, 1) := by decide +kernel
set_option maxRecDepth 20000 in
theorem ggX7_unit_X7_is : GoodIn wsX7_unit wsX7_is := goodIn_r _ [5, 6, 7, 8, 9, 10, 11, 12, 13, 14, 15, 16, 17, 18, 19, 20, 21, 22, 23, 24, 25, 26, 27, 28, 29, 30, 31, 32, 33, 34, 35, 36, 37, 38, 39, 40, 41, 42, 43, 44, 45, 46, 47, 48, 49, 50, 51, 52, 53, 54, 55, 56, 57, 61, 62, 63, 64, 65, 66, 67, 68, 69, 70, 71, 72, 73, 74, 75, 76, 77, 78, 79, 80, 81, 82, 83, 84, 85, 86, 87] (by decide +kernel) (by decide +kernel)
set_option maxRecDepth 20000 in
theorem gX7_unit_X7_is : GoodIn wsX7_unit (wsV RX7 79 RX7 yX7_is wsX7_is) := goodIn_app (goodIn_of _ (by decide +kernel)) ggX7_unit_X7_is
set_option maxRecDepth 20000 in
theorem ggX7_unit_X7_one : GoodIn wsX7_unit wsX7_one := goodIn_r _ [60] (by decide +kernel) (by decide +kernel)
set_option maxRecDepth 20000 in
theorem gX7_unit_X7_one : GoodIn wsX7_unit (va_wsS RX7 94 yX7_one wsX7_one) := goodIn_app (goodIn_of _ (by decide +kernel)) ggX7_unit_X7_one
theorem dX7_unit_0 : decode cX7_unit 0 = .ok (.aload_n 0, 1) := by decide +kernel
theorem dX7_unit_1 : decode cX7_unit 1 = .ok (.ldc 106, 2) := by decide +kernel
theorem dX7_unit_3 : decode cX7_unit 3 = .ok (.invokevirtual 79, 3) := by decide +kernel
theorem dX7_unit_6 : decode cX7_unit 6 = .ok (.aload_n 0, 1) := by decide +kernel
theorem dX7_unit_7 : decode cX7_unit 7 = .ok (.ldc 108, 2) := by decide +kernel
theorem dX7_unit_9 : decode cX7_unit 9 = .ok (.invokevirtual 79, 3) := by decide +kernel
theorem dX7_unit_12 : decode cX7_unit 12 = .ok (.aload_n 0, 1) := by decide +kernel
theorem dX7_unit_13 : decode cX7_unit 13 = .ok (.ldc 110, 2) := by decide +kernel
theorem dX7_unit_15 : decode cX7_unit 15 = .ok (.invokevirtual 79, 3) := by decide +kernel
theorem dX7_unit_18 : decode cX7_unit 18 = .ok (.aload_n 0, 1) := by decide +kernel
theorem dX7_unit_19 : decode cX7_unit 19 = .ok (.ldc 112, 2) := by decide +kernel
theorem dX7_unit_21 : decode cX7_unit 21 = .ok (.invokevirtual 79, 3) := by decide +kernel
theorem dX7_unit_24 : decode cX7_unit 24 = .ok (.invokestatic 94, 3) := by decide +kernel
theorem dX7_unit_27 : decode cX7_unit 27 = .ok (.ireturn, 1) := by decide +kernel
set_option maxRecDepth 20000 in
theorem ggX7_number_X7_isDigit : GoodIn wsX7_number wsX7_isDigit := goodIn_r _ [8] (by decide +kernel) (by decide +kernel)
set_option maxRecDepth 20000 in
theorem gX7_number_X7_isDigit : GoodIn wsX7_number (va_wsS RX7 67 yX7_isDigit wsX7_isDigit) := goodIn_app (goodIn_of _ (by decide +kernel)) ggX7_number_X7_isDigit
theorem dX7_number_0 : decode cX7_number 0 = .ok (.aload_n 0, 1) := by decide +kernel
theorem dX7_number_1 : decode cX7_number 1 = .ok (.getfield 60, 3) := by decide +kernel
theorem dX7_number_4 : decode cX7_number 4 = .ok (.aload_n 0, 1) := by decide +kernel
theorem dX7_number_5 : decode cX7_number 5 = .ok (.getfield 46, 3) := by decide +kernel
theorem dX7_number_8 : decode cX7_number 8 = .ok (.if_icmp .eq 31, 3) := by decide +kernel
theorem dX7_number_11 : decode cX7_number 11 = .ok (.aload_n 0, 1) := by decide +kernel
theorem dX7_number_12 : decode cX7_number 12 = .ok (.getfield 57, 3) := by decide +kernel
theorem dX7_number_15 : decode cX7_number 15 = .ok (.aload_n 0, 1) := by decide +kernel
theorem dX7_number_16 : decode cX7_number 16 = .ok (.getfield 60, 3) := by decide +kernel
theorem dX7_number_19 : decode cX7_number 19 = .ok (.isub, 1) := by decide +kernel
theorem dX7_number_20 : decode cX7_number 20 = .ok (.iconst 3, 1) := by decide +kernel
theorem dX7_number_21 : decode cX7_number 21 = .ok (.if_icmp .gt 18, 3) := by decide +kernel
theorem dX7_number_24 : decode cX7_number 24 = .ok (.aload_n 0, 1) := by decide +kernel
theorem dX7_number_25 : decode cX7_number 25 = .ok (.getfield 9, 3) := by decide +kernel
theorem dX7_number_28 : decode cX7_number 28 = .ok (.aload_n 0, 1) := by decide +kernel
theorem dX7_number_29 : decode cX7_number 29 = .ok (.getfield 60, 3) := by decide +kernel
theorem dX7_number_32 : decode cX7_number 32 = .ok (.baload, 1) := by decide +kernel
theorem dX7_number_33 : decode cX7_number 33 = .ok (.invokestatic 67, 3) := by decide +kernel
theorem dX7_number_36 : decode cX7_number 36 = .ok (.ifCond .ne 5, 3) := by decide +kernel
theorem dX7_number_39 : decode cX7_number 39 = .ok (.iconst (-1), 1) := by decide +kernel
theorem dX7_number_40 : decode cX7_number 40 = .ok (.ireturn, 1) := by decide +kernel
theorem dX7_number_41 : decode cX7_number 41 = .ok (.iconst 0, 1) := by decide +kernel
theorem dX7_number_42 : decode cX7_number 42 = .ok (.istore_n 1, 1) := by decide +kernel
theorem dX7_number_43 : decode cX7_number 43 = .ok (.aload_n 0, 1) := by decide +kernel
theorem dX7_number_44 : decode cX7_number 44 = .ok (.getfield 60, 3) := by decide +kernel
theorem dX7_number_47 : decode cX7_number 47 = .ok (.istore_n 2, 1) := by decide +kernel
theorem dX7_number_48 : decode cX7_number 48 = .ok (.iload_n 2, 1) := by decide +kernel
theorem dX7_number_49 : decode cX7_number 49 = .ok (.aload_n 0, 1) := by decide +kernel
theorem dX7_number_50 : decode cX7_number 50 = .ok (.getfield 57, 3) := by decide +kernel
theorem dX7_number_53 : decode cX7_number 53 = .ok (.if_icmp .ge 38, 3) := by decide +kernel
theorem dX7_number_56 : decode cX7_number 56 = .ok (.aload_n 0, 1) := by decide +kernel
theorem dX7_number_57 : decode cX7_number 57 = .ok (.getfield 9, 3) := by decide +kernel
theorem dX7_number_60 : decode cX7_number 60 = .ok (.iload_n 2, 1) := by decide +kernel
theorem dX7_number_61 : decode cX7_number 61 = .ok (.baload, 1) := by decide +kernel
theorem dX7_number_62 : decode cX7_number 62 = .ok (.invokestatic 67, 3) := by decide +kernel
theorem dX7_number_65 : decode cX7_number 65 = .ok (.ifCond .ne 5, 3) := by decide +kernel
theorem dX7_number_68 : decode cX7_number 68 = .ok (.iconst (-1), 1) := by decide +kernel
theorem dX7_number_69 : decode cX7_number 69 = .ok (.ireturn, 1) := by decide +kernel
theorem dX7_number_70 : decode cX7_number 70 = .ok (.bipush 10, 2) := by decide +kernel
theorem dX7_number_72 : decode cX7_number 72 = .ok (.iload_n 1, 1) := by decide +kernel
theorem dX7_number_73 : decode cX7_number 73 = .ok (.imul, 1) := by decide +kernel
theorem dX7_number_74 : decode cX7_number 74 = .ok (.aload_n 0, 1) := by decide +kernel
theorem dX7_number_75 : decode cX7_number 75 = .ok (.getfield 9, 3) := by decide +kernel
theorem dX7_number_78 : decode cX7_number 78 = .ok (.iload_n 2, 1) := by decide +kernel
theorem dX7_number_79 : decode cX7_number 79 = .ok (.baload, 1) := by decide +kernel
theorem dX7_number_80 : decode cX7_number 80 = .ok (.iadd, 1) := by decide +kernel
theorem dX7_number_81 : decode cX7_number 81 = .ok (.bipush 48, 2) := by decide +kernel
theorem dX7_number_83 : decode cX7_number 83 = .ok (.isub, 1) := by decide +kernel
theorem dX7_number_84 : decode cX7_number 84 = .ok (.istore_n 1, 1) := by decide +kernel
theorem dX7_number_85 : decode cX7_number 85 = .ok (.iinc 2 1, 3) := by decide +kernel
theorem dX7_number_88 : decode cX7_number 88 = .ok (.goto (-40), 3) := by decide +kernel
theorem dX7_number_91 : decode cX7_number 91 = .ok (.iload_n 1, 1) := by decide +kernel
theorem dX7_number_92 : decode cX7_number 92 = .ok (.ireturn, 1) := by decide +kernel
set_option maxRecDepth 20000 in
theorem ggX7_takesName_X7_name : GoodIn wsX7_takesName wsX7_name := goodIn_r _ [7, 8, 9, 10, 6, 11, 12, 13, 14, 15, 16, 17, 18, 19, 20, 21, 22, 23, 24, 25, 26, 27, 28, 29, 30, 31, 32, 33, 34, 35, 36, 37, 38, 39, 40, 41, 42, 43, 44, 45, 46, 47, 48, 49, 50, 51, 52, 53, 54, 55, 56, 57, 58, 59, 60, 61, 62, 63, 64, 65, 66, 78, 79, 80, 81, 82, 83, 84, 85, 86, 87, 88, 89, 90, 91, 92, 93, 94, 95, 96, 97, 98, 99, 100, 101, 102, 103, 104] (by decide +kernel) (by decide +kernel)
set_option maxRecDepth 20000 in
theorem gX7_takesName_X7_name : GoodIn wsX7_takesName (wsV RX7 114 RX7 yX7_name wsX7_name) := goodIn_app (goodIn_of _ (by decide +kernel)) ggX7_takesName_X7_name
set_option maxRecDepth 20000 in
theorem ggX7_takesName_X7_next : GoodIn wsX7_takesName wsX7_next := goodIn_r _ [70, 12, 13, 71, 14, 72, 73, 6, 74, 75, 76, 77, 78, 79, 80, 81, 82, 83, 84, 85, 86, 87, 88, 89, 90, 91, 92, 93, 94, 95, 96, 97, 98, 99, 100, 101, 102, 103, 104] (by decide +kernel) (by decide +kernel)
set_option maxRecDepth 20000 in
theorem gX7_takesName_X7_next : GoodIn wsX7_takesName (wsV RX7 83 RX7 yX7_next wsX7_next) := goodIn_app (goodIn_of _ (by decide +kernel)) ggX7_takesName_X7_next
theorem dX7_takesName_0 : decode cX7_takesName 0 = .ok (.aload_n 0, 1) := by decide +kernel
theorem dX7_takesName_1 : decode cX7_takesName 1 = .ok (.invokevirtual 114, 3) := by decide +kernel
theorem dX7_takesName_4 : decode cX7_takesName 4 = .ok (.istore_n 2, 1) := by decide +kernel
theorem dX7_takesName_5 : decode cX7_takesName 5 = .ok (.iload_n 2, 1) := by decide +kernel
theorem dX7_takesName_6 : decode cX7_takesName 6 = .ok (.iconst (-1), 1) := by decide +kernel
theorem dX7_takesName_7 : decode cX7_takesName 7 = .ok (.if_icmp .eq 15, 3) := by decide +kernel
theorem dX7_takesName_10 : decode cX7_takesName 10 = .ok (.iload_n 1, 1) := by decide +kernel
theorem dX7_takesName_11 : decode cX7_takesName 11 = .ok (.ifCond .eq 13, 3) := by decide +kernel
theorem dX7_takesName_14 : decode cX7_takesName 14 = .ok (.iload_n 2, 1) := by decide +kernel
theorem dX7_takesName_15 : decode cX7_takesName 15 = .ok (.aload_n 0, 1) := by decide +kernel
theorem dX7_takesName_16 : decode cX7_takesName 16 = .ok (.getfield 117, 3) := by decide +kernel
theorem dX7_takesName_19 : decode cX7_takesName 19 = .ok (.if_icmp .ne 5, 3) := by decide +kernel
theorem dX7_takesName_22 : decode cX7_takesName 22 = .ok (.iconst 0, 1) := by decide +kernel
theorem dX7_takesName_23 : decode cX7_takesName 23 = .ok (.ireturn, 1) := by decide +kernel
theorem dX7_takesName_24 : decode cX7_takesName 24 = .ok (.iload_n 1, 1) := by decide +kernel
theorem dX7_takesName_25 : decode cX7_takesName 25 = .ok (.ifCond .eq 11, 3) := by decide +kernel
theorem dX7_takesName_28 : decode cX7_takesName 28 = .ok (.aload_n 0, 1) := by decide +kernel
theorem dX7_takesName_29 : decode cX7_takesName 29 = .ok (.iload_n 2, 1) := by decide +kernel
theorem dX7_takesName_30 : decode cX7_takesName 30 = .ok (.putfield 120, 3) := by decide +kernel
theorem dX7_takesName_33 : decode cX7_takesName 33 = .ok (.goto 8, 3) := by decide +kernel
theorem dX7_takesName_36 : decode cX7_takesName 36 = .ok (.aload_n 0, 1) := by decide +kernel
theorem dX7_takesName_37 : decode cX7_takesName 37 = .ok (.iload_n 2, 1) := by decide +kernel
theorem dX7_takesName_38 : decode cX7_takesName 38 = .ok (.putfield 117, 3) := by decide +kernel
theorem dX7_takesName_41 : decode cX7_takesName 41 = .ok (.aload_n 0, 1) := by decide +kernel
theorem dX7_takesName_42 : decode cX7_takesName 42 = .ok (.invokevirtual 83, 3) := by decide +kernel
theorem dX7_takesName_45 : decode cX7_takesName 45 = .ok (.iconst 1, 1) := by decide +kernel
theorem dX7_takesName_46 : decode cX7_takesName 46 = .ok (.ireturn, 1) := by decide +kernel
set_option maxRecDepth 20000 in
theorem ggX7_takesUnit_X7_unit : GoodIn wsX7_takesUnit wsX7_unit := goodIn_r _ [6, 7, 8, 9, 5, 10, 11, 12, 13, 14, 15, 16, 17, 18, 19, 20, 21, 22, 23, 24, 25, 26, 27, 28, 29, 30, 31, 32, 33, 34, 35, 36, 37, 38, 39, 40, 41, 42, 43, 44, 45, 46, 47, 48, 49, 50, 51, 52, 53, 54, 55, 56, 57, 58, 59, 60, 61, 62, 63, 64, 65, 77, 78, 79, 80, 81, 82, 83, 84, 85, 86, 87, 88, 89, 90, 91, 92, 93, 94, 95, 96, 97, 98, 99, 100, 101, 102, 103] (by decide +kernel) (by decide +kernel)
set_option maxRecDepth 20000 in
theorem gX7_takesUnit_X7_unit : GoodIn wsX7_takesUnit (wsV RX7 123 RX7 yX7_unit wsX7_unit) := goodIn_app (goodIn_of _ (by decide +kernel)) ggX7_takesUnit_X7_unit
set_option maxRecDepth 20000 in
theorem ggX7_takesUnit_X7_next : GoodIn wsX7_takesUnit wsX7_next := goodIn_r _ [69, 11, 12, 70, 13, 71, 72, 5, 73, 74, 75, 76, 77, 78, 79, 80, 81, 82, 83, 84, 85, 86, 87, 88, 89, 90, 91, 92, 93, 94, 95, 96, 97, 98, 99, 100, 101, 102, 103] (by decide +kernel) (by decide +kernel)
set_option maxRecDepth 20000 in
theorem gX7_takesUnit_X7_next : GoodIn wsX7_takesUnit (wsV RX7 83 RX7 yX7_next wsX7_next) := goodIn_app (goodIn_of _ (by decide +kernel)) ggX7_takesUnit_X7_next
theorem dX7_takesUnit_0 : decode cX7_takesUnit 0 = .ok (.aload_n 0, 1) := by decide +kernel
theorem dX7_takesUnit_1 : decode cX7_takesUnit 1 = .ok (.aload_n 0, 1) := by decide +kernel
theorem dX7_takesUnit_2 : decode cX7_takesUnit 2 = .ok (.invokevirtual 123, 3) := by decide +kernel
theorem dX7_takesUnit_5 : decode cX7_takesUnit 5 = .ok (.putfield 126, 3) := by decide +kernel
theorem dX7_takesUnit_8 : decode cX7_takesUnit 8 = .ok (.aload_n 0, 1) := by decide +kernel
theorem dX7_takesUnit_9 : decode cX7_takesUnit 9 = .ok (.getfield 126, 3) := by decide +kernel
theorem dX7_takesUnit_12 : decode cX7_takesUnit 12 = .ok (.iconst (-1), 1) := by decide +kernel
theorem dX7_takesUnit_13 : decode cX7_takesUnit 13 = .ok (.if_icmp .ne 5, 3) := by decide +kernel
theorem dX7_takesUnit_16 : decode cX7_takesUnit 16 = .ok (.iconst 0, 1) := by decide +kernel
theorem dX7_takesUnit_17 : decode cX7_takesUnit 17 = .ok (.ireturn, 1) := by decide +kernel
theorem dX7_takesUnit_18 : decode cX7_takesUnit 18 = .ok (.aload_n 0, 1) := by decide +kernel
theorem dX7_takesUnit_19 : decode cX7_takesUnit 19 = .ok (.invokevirtual 83, 3) := by decide +kernel
theorem dX7_takesUnit_22 : decode cX7_takesUnit 22 = .ok (.iconst 1, 1) := by decide +kernel
theorem dX7_takesUnit_23 : decode cX7_takesUnit 23 = .ok (.ireturn, 1) := by decide +kernel
set_option maxRecDepth 20000 in
theorem ggX7_takesNumber_X7_number : GoodIn wsX7_takesNumber wsX7_number := goodIn_r _ [6, 7, 8, 9, 10, 11, 12, 5, 13, 21, 22, 23, 24, 25, 26, 27, 28, 29, 30, 31, 32, 33, 34, 35, 36, 37, 38, 39, 40, 41, 42, 43, 44, 45, 46, 47] (by decide +kernel) (by decide +kernel)
set_option maxRecDepth 20000 in
theorem gX7_takesNumber_X7_number : GoodIn wsX7_takesNumber (wsV RX7 129 RX7 yX7_number wsX7_number) := goodIn_app (goodIn_of _ (by decide +kernel)) ggX7_takesNumber_X7_number
set_option maxRecDepth 20000 in
theorem ggX7_takesNumber_X7_next : GoodIn wsX7_takesNumber wsX7_next := goodIn_r _ [17, 9, 7, 8, 10, 18, 19, 5, 20, 11, 12, 13, 21, 22, 23, 24, 25, 26, 27, 28, 29, 30, 31, 32, 33, 34, 35, 36, 37, 38, 39, 40, 41, 42, 43, 44, 45, 46, 47] (by decide +kernel) (by decide +kernel)
set_option maxRecDepth 20000 in
theorem gX7_takesNumber_X7_next : GoodIn wsX7_takesNumber (wsV RX7 83 RX7 yX7_next wsX7_next) := goodIn_app (goodIn_of _ (by decide +kernel)) ggX7_takesNumber_X7_next
theorem dX7_takesNumber_0 : decode cX7_takesNumber 0 = .ok (.aload_n 0, 1) := by decide +kernel
theorem dX7_takesNumber_1 : decode cX7_takesNumber 1 = .ok (.aload_n 0, 1) := by decide +kernel
theorem dX7_takesNumber_2 : decode cX7_takesNumber 2 = .ok (.invokevirtual 129, 3) := by decide +kernel
theorem dX7_takesNumber_5 : decode cX7_takesNumber 5 = .ok (.putfield 132, 3) := by decide +kernel
theorem dX7_takesNumber_8 : decode cX7_takesNumber 8 = .ok (.aload_n 0, 1) := by decide +kernel
theorem dX7_takesNumber_9 : decode cX7_takesNumber 9 = .ok (.getfield 132, 3) := by decide +kernel
theorem dX7_takesNumber_12 : decode cX7_takesNumber 12 = .ok (.iconst (-1), 1) := by decide +kernel
theorem dX7_takesNumber_13 : decode cX7_takesNumber 13 = .ok (.if_icmp .ne 5, 3) := by decide +kernel
theorem dX7_takesNumber_16 : decode cX7_takesNumber 16 = .ok (.iconst 0, 1) := by decide +kernel
theorem dX7_takesNumber_17 : decode cX7_takesNumber 17 = .ok (.ireturn, 1) := by decide +kernel
theorem dX7_takesNumber_18 : decode cX7_takesNumber 18 = .ok (.aload_n 0, 1) := by decide +kernel
theorem dX7_takesNumber_19 : decode cX7_takesNumber 19 = .ok (.invokevirtual 83, 3) := by decide +kernel
theorem dX7_takesNumber_22 : decode cX7_takesNumber 22 = .ok (.iconst 1, 1) := by decide +kernel
theorem dX7_takesNumber_23 : decode cX7_takesNumber 23 = .ok (.ireturn, 1) := by decide +kernel
set_option maxRecDepth 20000 in
theorem ggX7_sentence_X7_takesName : GoodIn wsX7_sentence wsX7_takesName := goodIn_r _ [8, 9, 1, 10, 11, 12, 7, 13, 14, 15, 16, 17, 18, 19, 20, 21, 22, 23, 24, 25, 26, 27, 28, 29, 30, 31, 32, 33, 34, 35, 36, 37, 38, 39, 40, 41, 42, 43, 44, 45, 46, 47, 48, 49, 50, 51, 52, 53, 54, 55, 56, 57, 58, 59, 60, 61, 62, 63, 64, 65, 66, 67, 68, 69, 70, 71, 72, 73, 74, 75, 76, 77, 78, 79, 80, 81, 82, 83, 108, 109, 110, 111, 112, 113, 114, 115, 116, 117, 118, 119, 120, 121, 122, 123, 124, 125, 126, 127, 128, 129, 130, 131, 132, 133, 134] (by decide +kernel) (by decide +kernel)
set_option maxRecDepth 20000 in
theorem gX7_sentence_X7_takesName : GoodIn wsX7_sentence (wsV RX7 135 RX7 yX7_takesName wsX7_takesName) := goodIn_app (goodIn_of _ (by decide +kernel)) ggX7_sentence_X7_takesName
set_option maxRecDepth 20000 in
theorem ggX7_sentence_X7_takes : GoodIn wsX7_sentence wsX7_takes := goodIn_r _ [87, 14, 15, 16, 7, 17, 18, 19, 20, 21, 22, 23, 24, 25, 26, 27, 28, 29, 30, 31, 32, 33, 34, 35, 36, 37, 38, 39, 40, 41, 42, 43, 44, 45, 46, 47, 48, 49, 50, 51, 52, 53, 54, 55, 56, 57, 58, 59, 60, 61, 62, 63, 64, 65, 66, 67, 68, 69, 73, 74, 75, 76, 77, 78, 79, 80, 81, 82, 83, 108, 109, 110, 111, 112, 113, 114, 115, 116, 117, 118, 119, 120, 121, 122, 123, 124, 125, 126, 127, 128, 129, 130, 131, 132, 133, 134] (by decide +kernel) (by decide +kernel)
set_option maxRecDepth 20000 in
theorem gX7_sentence_X7_takes : GoodIn wsX7_sentence (wsV RX7 141 RX7 yX7_takes wsX7_takes) := goodIn_app (goodIn_of _ (by decide +kernel)) ggX7_sentence_X7_takes
set_option maxRecDepth 20000 in
theorem ggX7_sentence_X7_takesNumber : GoodIn wsX7_sentence wsX7_takesNumber := goodIn_r _ [91, 3, 92, 93, 94, 7, 95, 19, 77, 18, 20, 81, 82, 83, 73, 74, 75, 76, 78, 79, 80, 108, 109, 110, 111, 112, 113, 114, 115, 116, 117, 118, 119, 120, 121, 122, 123, 124, 125, 126, 127, 128, 129, 130, 131, 132, 133, 134] (by decide +kernel) (by decide +kernel)
set_option maxRecDepth 20000 in
theorem gX7_sentence_X7_takesNumber : GoodIn wsX7_sentence (wsV RX7 149 RX7 yX7_takesNumber wsX7_takesNumber) := goodIn_app (goodIn_of _ (by decide +kernel)) ggX7_sentence_X7_takesNumber
set_option maxRecDepth 20000 in
theorem ggX7_sentence_X7_takesUnit : GoodIn wsX7_sentence wsX7_takesUnit := goodIn_r _ [99, 100, 101, 102, 103, 7, 104, 14, 15, 16, 17, 18, 19, 20, 21, 22, 23, 24, 25, 26, 27, 28, 29, 30, 31, 32, 33, 34, 35, 36, 37, 38, 39, 40, 41, 42, 43, 44, 45, 46, 47, 48, 49, 50, 51, 52, 53, 54, 55, 56, 57, 58, 59, 60, 61, 62, 63, 64, 65, 66, 67, 68, 69, 70, 71, 72, 73, 74, 75, 76, 77, 78, 79, 80, 81, 82, 83, 108, 109, 110, 111, 112, 113, 114, 115, 116, 117, 118, 119, 120, 121, 122, 123, 124, 125, 126, 127, 128, 129, 130, 131, 132, 133, 134] (by decide +kernel) (by decide +kernel)
set_option maxRecDepth 20000 in
theorem gX7_sentence_X7_takesUnit : GoodIn wsX7_sentence (wsV RX7 153 RX7 yX7_takesUnit wsX7_takesUnit) := goodIn_app (goodIn_of _ (by decide +kernel)) ggX7_sentence_X7_takesUnit
set_option maxRecDepth 20000 in
theorem ggX7_sentence_X7_is : GoodIn wsX7_sentence wsX7_is := goodIn_r _ [17, 18, 19, 20, 21, 22, 23, 24, 25, 26, 27, 28, 29, 30, 31, 32, 33, 34, 35, 36, 37, 38, 39, 40, 41, 42, 43, 44, 45, 46, 47, 48, 49, 50, 51, 52, 53, 54, 55, 56, 57, 58, 59, 60, 61, 62, 63, 64, 65, 66, 67, 68, 69, 108, 109, 110, 111, 112, 113, 114, 115, 116, 117, 118, 119, 120, 121, 122, 123, 124, 125, 126, 127, 128, 129, 130, 131, 132, 133, 134] (by decide +kernel) (by decide +kernel)
set_option maxRecDepth 20000 in
theorem gX7_sentence_X7_is : GoodIn wsX7_sentence (wsV RX7 79 RX7 yX7_is wsX7_is) := goodIn_app (goodIn_of _ (by decide +kernel)) ggX7_sentence_X7_is
set_option maxRecDepth 20000 in
theorem ggX7_sentence_X7_next : GoodIn wsX7_sentence wsX7_next := goodIn_r _ [76, 18, 19, 77, 20, 78, 79, 7, 80, 81, 82, 83, 108, 109, 110, 111, 112, 113, 114, 115, 116, 117, 118, 119, 120, 121, 122, 123, 124, 125, 126, 127, 128, 129, 130, 131, 132, 133, 134] (by decide +kernel) (by decide +kernel)
set_option maxRecDepth 20000 in
theorem gX7_sentence_X7_next : GoodIn wsX7_sentence (wsV RX7 83 RX7 yX7_next wsX7_next) := goodIn_app (goodIn_of _ (by decide +kernel)) ggX7_sentence_X7_next
set_option maxRecDepth 20000 in
theorem ggX7_sentence_X7_isIn : GoodIn wsX7_sentence wsX7_isIn := goodIn_r _ [107] (by decide +kernel) (by decide +kernel)
set_option maxRecDepth 20000 in
theorem gX7_sentence_X7_isIn : GoodIn wsX7_sentence (va_wsS RX7 176 yX7_isIn wsX7_isIn) := goodIn_app (goodIn_of _ (by decide +kernel)) ggX7_sentence_X7_isIn
theorem dX7_sentence_0 : decode cX7_sentence 0 = .ok (.aload_n 0, 1) := by decide +kernel
theorem dX7_sentence_1 : decode cX7_sentence 1 = .ok (.iconst (-1), 1) := by decide +kernel
