theorem dX1_init_0 : decode cX1_init 0 = .ok (.aload_n 0, 1) := by decide +kernel
theorem dX1_init_1 : decode cX1_init 1 = .ok (.invokespecial 3, 3) := by decide +kernel
theorem dX1_init_4 : decode cX1_init 4 = .ok (.aload_n 0, 1) := by decide +kernel
theorem dX1_init_5 : decode cX1_init 5 = .ok (.bipush 8, 2) := by decide +kernel
theorem dX1_init_7 : decode cX1_init 7 = .ok (.bipush 10, 2) := by decide +kernel
theorem dX1_init_9 : decode cX1_init 9 = .ok (.multianewarray 9 2, 4) := by decide +kernel
theorem dX1_init_13 : decode cX1_init 13 = .ok (.putfield 11, 3) := by decide +kernel
theorem dX1_init_16 : decode cX1_init 16 = .ok (.aload_n 0, 1) := by decide +kernel
theorem dX1_init_17 : decode cX1_init 17 = .ok (.bipush 8, 2) := by decide +kernel
theorem dX1_init_19 : decode cX1_init 19 = .ok (.newarray .boolean, 2) := by decide +kernel
theorem dX1_init_21 : decode cX1_init 21 = .ok (.putfield 16, 3) := by decide +kernel
theorem dX1_init_24 : decode cX1_init 24 = .ok (.return_, 1) := by decide +kernel
theorem dX1_clear_0 : decode cX1_clear 0 = .ok (.iconst 0, 1) := by decide +kernel
theorem dX1_clear_1 : decode cX1_clear 1 = .ok (.istore_n 1, 1) := by decide +kernel
theorem dX1_clear_2 : decode cX1_clear 2 = .ok (.iload_n 1, 1) := by decide +kernel
theorem dX1_clear_3 : decode cX1_clear 3 = .ok (.bipush 8, 2) := by decide +kernel
theorem dX1_clear_5 : decode cX1_clear 5 = .ok (.if_icmp .ge 16, 3) := by decide +kernel
theorem dX1_clear_8 : decode cX1_clear 8 = .ok (.aload_n 0, 1) := by decide +kernel
theorem dX1_clear_9 : decode cX1_clear 9 = .ok (.getfield 16, 3) := by decide +kernel
theorem dX1_clear_12 : decode cX1_clear 12 = .ok (.iload_n 1, 1) := by decide +kernel
theorem dX1_clear_13 : decode cX1_clear 13 = .ok (.iconst 0, 1) := by decide +kernel
theorem dX1_clear_14 : decode cX1_clear 14 = .ok (.bastore, 1) := by decide +kernel
theorem dX1_clear_15 : decode cX1_clear 15 = .ok (.iinc 1 1, 3) := by decide +kernel
theorem dX1_clear_18 : decode cX1_clear 18 = .ok (.goto (-16), 3) := by decide +kernel
theorem dX1_clear_21 : decode cX1_clear 21 = .ok (.return_, 1) := by decide +kernel
theorem dX1_add_0 : decode cX1_add 0 = .ok (.aload_n 0, 1) := by decide +kernel
theorem dX1_add_1 : decode cX1_add 1 = .ok (.aload_n 1, 1) := by decide +kernel
theorem dX1_add_2 : decode cX1_add 2 = .ok (.invokevirtual 20, 3) := by decide +kernel
theorem dX1_add_5 : decode cX1_add 5 = .ok (.aload_n 1, 1) := by decide +kernel
theorem dX1_add_6 : decode cX1_add 6 = .ok (.invokestatic 24, 3) := by decide +kernel
theorem dX1_add_9 : decode cX1_add 9 = .ok (.istore_n 2, 1) := by decide +kernel
theorem dX1_add_10 : decode cX1_add 10 = .ok (.iload_n 2, 1) := by decide +kernel
theorem dX1_add_11 : decode cX1_add 11 = .ok (.iconst (-1), 1) := by decide +kernel
theorem dX1_add_12 : decode cX1_add 12 = .ok (.if_icmp .ne 18, 3) := by decide +kernel
theorem dX1_add_15 : decode cX1_add 15 = .ok (.aload_n 1, 1) := by decide +kernel
theorem dX1_add_16 : decode cX1_add 16 = .ok (.bipush 9, 2) := by decide +kernel
theorem dX1_add_18 : decode cX1_add 18 = .ok (.laload, 1) := by decide +kernel
theorem dX1_add_19 : decode cX1_add 19 = .ok (.lconst 0, 1) := by decide +kernel
theorem dX1_add_20 : decode cX1_add 20 = .ok (.lcmp, 1) := by decide +kernel
theorem dX1_add_21 : decode cX1_add 21 = .ok (.ifCond .ne 7, 3) := by decide +kernel
theorem dX1_add_24 : decode cX1_add 24 = .ok (.iconst 1, 1) := by decide +kernel
theorem dX1_add_25 : decode cX1_add 25 = .ok (.goto 4, 3) := by decide +kernel
theorem dX1_add_28 : decode cX1_add 28 = .ok (.iconst 0, 1) := by decide +kernel
theorem dX1_add_29 : decode cX1_add 29 = .ok (.ireturn, 1) := by decide +kernel
theorem dX1_add_30 : decode cX1_add 30 = .ok (.aload_n 1, 1) := by decide +kernel
theorem dX1_add_31 : decode cX1_add 31 = .ok (.iload_n 2, 1) := by decide +kernel
theorem dX1_add_32 : decode cX1_add 32 = .ok (.laload, 1) := by decide +kernel
theorem dX1_add_33 : decode cX1_add 33 = .ok (.lconst 0, 1) := by decide +kernel
theorem dX1_add_34 : decode cX1_add 34 = .ok (.lcmp, 1) := by decide +kernel
theorem dX1_add_35 : decode cX1_add 35 = .ok (.ifCond .ge 7, 3) := by decide +kernel
theorem dX1_add_38 : decode cX1_add 38 = .ok (.aload_n 1, 1) := by decide +kernel
theorem dX1_add_39 : decode cX1_add 39 = .ok (.invokestatic 28, 3) := by decide +kernel
theorem dX1_add_42 : decode cX1_add 42 = .ok (.iconst 0, 1) := by decide +kernel
theorem dX1_add_43 : decode cX1_add 43 = .ok (.istore_n 3, 1) := by decide +kernel
theorem dX1_add_44 : decode cX1_add 44 = .ok (.iload_n 3, 1) := by decide +kernel
theorem dX1_add_45 : decode cX1_add 45 = .ok (.bipush 8, 2) := by decide +kernel
theorem dX1_add_47 : decode cX1_add 47 = .ok (.if_icmp .ge 29, 3) := by decide +kernel
theorem dX1_add_50 : decode cX1_add 50 = .ok (.aload_n 0, 1) := by decide +kernel
theorem dX1_add_51 : decode cX1_add 51 = .ok (.getfield 16, 3) := by decide +kernel
theorem dX1_add_54 : decode cX1_add 54 = .ok (.iload_n 3, 1) := by decide +kernel
theorem dX1_add_55 : decode cX1_add 55 = .ok (.baload, 1) := by decide +kernel
theorem dX1_add_56 : decode cX1_add 56 = .ok (.ifCond .eq 14, 3) := by decide +kernel
theorem dX1_add_59 : decode cX1_add 59 = .ok (.aload_n 0, 1) := by decide +kernel
theorem dX1_add_60 : decode cX1_add 60 = .ok (.getfield 11, 3) := by decide +kernel
theorem dX1_add_63 : decode cX1_add 63 = .ok (.iload_n 3, 1) := by decide +kernel
theorem dX1_add_64 : decode cX1_add 64 = .ok (.aaload, 1) := by decide +kernel
theorem dX1_add_65 : decode cX1_add 65 = .ok (.aload_n 1, 1) := by decide +kernel
theorem dX1_add_66 : decode cX1_add 66 = .ok (.iload_n 2, 1) := by decide +kernel
theorem dX1_add_67 : decode cX1_add 67 = .ok (.invokestatic 31, 3) := by decide +kernel
theorem dX1_add_70 : decode cX1_add 70 = .ok (.iinc 3 1, 3) := by decide +kernel
theorem dX1_add_73 : decode cX1_add 73 = .ok (.goto (-29), 3) := by decide +kernel
theorem dX1_add_76 : decode cX1_add 76 = .ok (.aload_n 1, 1) := by decide +kernel
theorem dX1_add_77 : decode cX1_add 77 = .ok (.iconst 0, 1) := by decide +kernel
theorem dX1_add_78 : decode cX1_add 78 = .ok (.aload_n 0, 1) := by decide +kernel
theorem dX1_add_79 : decode cX1_add 79 = .ok (.getfield 11, 3) := by decide +kernel
theorem dX1_add_82 : decode cX1_add 82 = .ok (.iload_n 2, 1) := by decide +kernel
theorem dX1_add_83 : decode cX1_add 83 = .ok (.aaload, 1) := by decide +kernel
theorem dX1_add_84 : decode cX1_add 84 = .ok (.iconst 0, 1) := by decide +kernel
theorem dX1_add_85 : decode cX1_add 85 = .ok (.bipush 10, 2) := by decide +kernel
theorem dX1_add_87 : decode cX1_add 87 = .ok (.invokestatic 35, 3) := by decide +kernel
theorem dX1_add_90 : decode cX1_add 90 = .ok (.aload_n 0, 1) := by decide +kernel
theorem dX1_add_91 : decode cX1_add 91 = .ok (.getfield 16, 3) := by decide +kernel
theorem dX1_add_94 : decode cX1_add 94 = .ok (.iload_n 2, 1) := by decide +kernel
theorem dX1_add_95 : decode cX1_add 95 = .ok (.iconst 1, 1) := by decide +kernel
theorem dX1_add_96 : decode cX1_add 96 = .ok (.bastore, 1) := by decide +kernel
theorem dX1_add_97 : decode cX1_add 97 = .ok (.iconst 1, 1) := by decide +kernel
theorem dX1_add_98 : decode cX1_add 98 = .ok (.ireturn, 1) := by decide +kernel
theorem dX1_reduce_0 : decode cX1_reduce 0 = .ok (.iconst 0, 1) := by decide +kernel
theorem dX1_reduce_1 : decode cX1_reduce 1 = .ok (.istore_n 2, 1) := by decide +kernel
theorem dX1_reduce_2 : decode cX1_reduce 2 = .ok (.iload_n 2, 1) := by decide +kernel
theorem dX1_reduce_3 : decode cX1_reduce 3 = .ok (.bipush 8, 2) := by decide +kernel
theorem dX1_reduce_5 : decode cX1_reduce 5 = .ok (.if_icmp .ge 29, 3) := by decide +kernel
theorem dX1_reduce_8 : decode cX1_reduce 8 = .ok (.aload_n 0, 1) := by decide +kernel
theorem dX1_reduce_9 : decode cX1_reduce 9 = .ok (.getfield 16, 3) := by decide +kernel
theorem dX1_reduce_12 : decode cX1_reduce 12 = .ok (.iload_n 2, 1) := by decide +kernel
theorem dX1_reduce_13 : decode cX1_reduce 13 = .ok (.baload, 1) := by decide +kernel
theorem dX1_reduce_14 : decode cX1_reduce 14 = .ok (.ifCond .eq 14, 3) := by decide +kernel
theorem dX1_reduce_17 : decode cX1_reduce 17 = .ok (.aload_n 1, 1) := by decide +kernel
theorem dX1_reduce_18 : decode cX1_reduce 18 = .ok (.aload_n 0, 1) := by decide +kernel
theorem dX1_reduce_19 : decode cX1_reduce 19 = .ok (.getfield 11, 3) := by decide +kernel
theorem dX1_reduce_22 : decode cX1_reduce 22 = .ok (.iload_n 2, 1) := by decide +kernel
theorem dX1_reduce_23 : decode cX1_reduce 23 = .ok (.aaload, 1) := by decide +kernel
theorem dX1_reduce_24 : decode cX1_reduce 24 = .ok (.iload_n 2, 1) := by decide +kernel
theorem dX1_reduce_25 : decode cX1_reduce 25 = .ok (.invokestatic 31, 3) := by decide +kernel
theorem dX1_reduce_28 : decode cX1_reduce 28 = .ok (.iinc 2 1, 3) := by decide +kernel
theorem dX1_reduce_31 : decode cX1_reduce 31 = .ok (.goto (-29), 3) := by decide +kernel
theorem dX1_reduce_34 : decode cX1_reduce 34 = .ok (.return_, 1) := by decide +kernel
theorem dX1_firstName_0 : decode cX1_firstName 0 = .ok (.iconst 0, 1) := by decide +kernel
theorem dX1_firstName_1 : decode cX1_firstName 1 = .ok (.istore_n 1, 1) := by decide +kernel
theorem dX1_firstName_2 : decode cX1_firstName 2 = .ok (.iload_n 1, 1) := by decide +kernel
theorem dX1_firstName_3 : decode cX1_firstName 3 = .ok (.bipush 8, 2) := by decide +kernel
theorem dX1_firstName_5 : decode cX1_firstName 5 = .ok (.if_icmp .ge 19, 3) := by decide +kernel
theorem dX1_firstName_8 : decode cX1_firstName 8 = .ok (.aload_n 0, 1) := by decide +kernel
theorem dX1_firstName_9 : decode cX1_firstName 9 = .ok (.iload_n 1, 1) := by decide +kernel
theorem dX1_firstName_10 : decode cX1_firstName 10 = .ok (.laload, 1) := by decide +kernel
theorem dX1_firstName_11 : decode cX1_firstName 11 = .ok (.lconst 0, 1) := by decide +kernel
theorem dX1_firstName_12 : decode cX1_firstName 12 = .ok (.lcmp, 1) := by decide +kernel
theorem dX1_firstName_13 : decode cX1_firstName 13 = .ok (.ifCond .eq 5, 3) := by decide +kernel
theorem dX1_firstName_16 : decode cX1_firstName 16 = .ok (.iload_n 1, 1) := by decide +kernel
theorem dX1_firstName_17 : decode cX1_firstName 17 = .ok (.ireturn, 1) := by decide +kernel
theorem dX1_firstName_18 : decode cX1_firstName 18 = .ok (.iinc 1 1, 3) := by decide +kernel
theorem dX1_firstName_21 : decode cX1_firstName 21 = .ok (.goto (-19), 3) := by decide +kernel
theorem dX1_firstName_24 : decode cX1_firstName 24 = .ok (.iconst (-1), 1) := by decide +kernel
theorem dX1_firstName_25 : decode cX1_firstName 25 = .ok (.ireturn, 1) := by decide +kernel
theorem dX1_negate_0 : decode cX1_negate 0 = .ok (.iconst 0, 1) := by decide +kernel
theorem dX1_negate_1 : decode cX1_negate 1 = .ok (.istore_n 1, 1) := by decide +kernel
theorem dX1_negate_2 : decode cX1_negate 2 = .ok (.iload_n 1, 1) := by decide +kernel
theorem dX1_negate_3 : decode cX1_negate 3 = .ok (.bipush 10, 2) := by decide +kernel
theorem dX1_negate_5 : decode cX1_negate 5 = .ok (.if_icmp .ge 16, 3) := by decide +kernel
theorem dX1_negate_8 : decode cX1_negate 8 = .ok (.aload_n 0, 1) := by decide +kernel
theorem dX1_negate_9 : decode cX1_negate 9 = .ok (.iload_n 1, 1) := by decide +kernel
theorem dX1_negate_10 : decode cX1_negate 10 = .ok (.aload_n 0, 1) := by decide +kernel
theorem dX1_negate_11 : decode cX1_negate 11 = .ok (.iload_n 1, 1) := by decide +kernel
theorem dX1_negate_12 : decode cX1_negate 12 = .ok (.laload, 1) := by decide +kernel
theorem dX1_negate_13 : decode cX1_negate 13 = .ok (.lneg, 1) := by decide +kernel
theorem dX1_negate_14 : decode cX1_negate 14 = .ok (.lastore, 1) := by decide +kernel
theorem dX1_negate_15 : decode cX1_negate 15 = .ok (.iinc 1 1, 3) := by decide +kernel
theorem dX1_negate_18 : decode cX1_negate 18 = .ok (.goto (-16), 3) := by decide +kernel
theorem dX1_negate_21 : decode cX1_negate 21 = .ok (.return_, 1) := by decide +kernel
theorem dX1_eliminate_0 : decode cX1_eliminate 0 = .ok (.aload_n 0, 1) := by decide +kernel
theorem dX1_eliminate_1 : decode cX1_eliminate 1 = .ok (.iload_n 2, 1) := by decide +kernel
theorem dX1_eliminate_2 : decode cX1_eliminate 2 = .ok (.laload, 1) := by decide +kernel
theorem dX1_eliminate_3 : decode cX1_eliminate 3 = .ok (.lconst 0, 1) := by decide +kernel
theorem dX1_eliminate_4 : decode cX1_eliminate 4 = .ok (.lcmp, 1) := by decide +kernel
theorem dX1_eliminate_5 : decode cX1_eliminate 5 = .ok (.ifCond .ne 4, 3) := by decide +kernel
theorem dX1_eliminate_8 : decode cX1_eliminate 8 = .ok (.return_, 1) := by decide +kernel
theorem dX1_eliminate_9 : decode cX1_eliminate 9 = .ok (.aload_n 1, 1) := by decide +kernel
theorem dX1_eliminate_10 : decode cX1_eliminate 10 = .ok (.iload_n 2, 1) := by decide +kernel
theorem dX1_eliminate_11 : decode cX1_eliminate 11 = .ok (.laload, 1) := by decide +kernel
theorem dX1_eliminate_12 : decode cX1_eliminate 12 = .ok (.aload_n 0, 1) := by decide +kernel
theorem dX1_eliminate_13 : decode cX1_eliminate 13 = .ok (.iload_n 2, 1) := by decide +kernel
theorem dX1_eliminate_14 : decode cX1_eliminate 14 = .ok (.laload, 1) := by decide +kernel
theorem dX1_eliminate_15 : decode cX1_eliminate 15 = .ok (.invokestatic 41, 3) := by decide +kernel
theorem dX1_eliminate_18 : decode cX1_eliminate 18 = .ok (.lstore_n 3, 1) := by decide +kernel
theorem dX1_eliminate_19 : decode cX1_eliminate 19 = .ok (.lload_n 3, 1) := by decide +kernel
theorem dX1_eliminate_20 : decode cX1_eliminate 20 = .ok (.lconst 0, 1) := by decide +kernel
theorem dX1_eliminate_21 : decode cX1_eliminate 21 = .ok (.lcmp, 1) := by decide +kernel
theorem dX1_eliminate_22 : decode cX1_eliminate 22 = .ok (.ifCond .gt 4, 3) := by decide +kernel
theorem dX1_eliminate_25 : decode cX1_eliminate 25 = .ok (.return_, 1) := by decide +kernel
theorem dX1_eliminate_26 : decode cX1_eliminate 26 = .ok (.aload_n 1, 1) := by decide +kernel
theorem dX1_eliminate_27 : decode cX1_eliminate 27 = .ok (.iload_n 2, 1) := by decide +kernel
theorem dX1_eliminate_28 : decode cX1_eliminate 28 = .ok (.laload, 1) := by decide +kernel
theorem dX1_eliminate_29 : decode cX1_eliminate 29 = .ok (.lload_n 3, 1) := by decide +kernel
theorem dX1_eliminate_30 : decode cX1_eliminate 30 = .ok (.ldiv, 1) := by decide +kernel
theorem dX1_eliminate_31 : decode cX1_eliminate 31 = .ok (.lstore 5, 2) := by decide +kernel
theorem dX1_eliminate_33 : decode cX1_eliminate 33 = .ok (.aload_n 0, 1) := by decide +kernel
theorem dX1_eliminate_34 : decode cX1_eliminate 34 = .ok (.iload_n 2, 1) := by decide +kernel
theorem dX1_eliminate_35 : decode cX1_eliminate 35 = .ok (.laload, 1) := by decide +kernel
theorem dX1_eliminate_36 : decode cX1_eliminate 36 = .ok (.lload_n 3, 1) := by decide +kernel
theorem dX1_eliminate_37 : decode cX1_eliminate 37 = .ok (.ldiv, 1) := by decide +kernel
theorem dX1_eliminate_38 : decode cX1_eliminate 38 = .ok (.lstore 7, 2) := by decide +kernel
theorem dX1_eliminate_40 : decode cX1_eliminate 40 = .ok (.lconst 0, 1) := by decide +kernel
theorem dX1_eliminate_41 : decode cX1_eliminate 41 = .ok (.lstore 9, 2) := by decide +kernel
theorem dX1_eliminate_43 : decode cX1_eliminate 43 = .ok (.iconst 0, 1) := by decide +kernel
theorem dX1_eliminate_44 : decode cX1_eliminate 44 = .ok (.istore 11, 2) := by decide +kernel
theorem dX1_eliminate_46 : decode cX1_eliminate 46 = .ok (.iload 11, 2) := by decide +kernel
theorem dX1_eliminate_48 : decode cX1_eliminate 48 = .ok (.bipush 10, 2) := by decide +kernel
theorem dX1_eliminate_50 : decode cX1_eliminate 50 = .ok (.if_icmp .ge 39, 3) := by decide +kernel
theorem dX1_eliminate_53 : decode cX1_eliminate 53 = .ok (.aload_n 0, 1) := by decide +kernel
theorem dX1_eliminate_54 : decode cX1_eliminate 54 = .ok (.iload 11, 2) := by decide +kernel
theorem dX1_eliminate_56 : decode cX1_eliminate 56 = .ok (.aload_n 0, 1) := by decide +kernel
theorem dX1_eliminate_57 : decode cX1_eliminate 57 = .ok (.iload 11, 2) := by decide +kernel
theorem dX1_eliminate_59 : decode cX1_eliminate 59 = .ok (.laload, 1) := by decide +kernel
theorem dX1_eliminate_60 : decode cX1_eliminate 60 = .ok (.lload 5, 2) := by decide +kernel
theorem dX1_eliminate_62 : decode cX1_eliminate 62 = .ok (.lmul, 1) := by decide +kernel
theorem dX1_eliminate_63 : decode cX1_eliminate 63 = .ok (.aload_n 1, 1) := by decide +kernel
theorem dX1_eliminate_64 : decode cX1_eliminate 64 = .ok (.iload 11, 2) := by decide +kernel
theorem dX1_eliminate_66 : decode cX1_eliminate 66 = .ok (.laload, 1) := by decide +kernel
theorem dX1_eliminate_67 : decode cX1_eliminate 67 = .ok (.lload 7, 2) := by decide +kernel
theorem dX1_eliminate_69 : decode cX1_eliminate 69 = .ok (.lmul, 1) := by decide +kernel
theorem dX1_eliminate_70 : decode cX1_eliminate 70 = .ok (.lsub, 1) := by decide +kernel
theorem dX1_eliminate_71 : decode cX1_eliminate 71 = .ok (.lastore, 1) := by decide +kernel
theorem dX1_eliminate_72 : decode cX1_eliminate 72 = .ok (.lload 9, 2) := by decide +kernel
theorem dX1_eliminate_74 : decode cX1_eliminate 74 = .ok (.aload_n 0, 1) := by decide +kernel
theorem dX1_eliminate_75 : decode cX1_eliminate 75 = .ok (.iload 11, 2) := by decide +kernel
theorem dX1_eliminate_77 : decode cX1_eliminate 77 = .ok (.laload, 1) := by decide +kernel
theorem dX1_eliminate_78 : decode cX1_eliminate 78 = .ok (.invokestatic 41, 3) := by decide +kernel
theorem dX1_eliminate_81 : decode cX1_eliminate 81 = .ok (.lstore 9, 2) := by decide +kernel
theorem dX1_eliminate_83 : decode cX1_eliminate 83 = .ok (.iinc 11 1, 3) := by decide +kernel
theorem dX1_eliminate_86 : decode cX1_eliminate 86 = .ok (.goto (-40), 3) := by decide +kernel
theorem dX1_eliminate_89 : decode cX1_eliminate 89 = .ok (.lload 9, 2) := by decide +kernel
theorem dX1_eliminate_91 : decode cX1_eliminate 91 = .ok (.lconst 1, 1) := by decide +kernel
theorem dX1_eliminate_92 : decode cX1_eliminate 92 = .ok (.lcmp, 1) := by decide +kernel
theorem dX1_eliminate_93 : decode cX1_eliminate 93 = .ok (.ifCond .le 30, 3) := by decide +kernel
theorem dX1_eliminate_96 : decode cX1_eliminate 96 = .ok (.iconst 0, 1) := by decide +kernel
theorem dX1_eliminate_97 : decode cX1_eliminate 97 = .ok (.istore 11, 2) := by decide +kernel
theorem dX1_eliminate_99 : decode cX1_eliminate 99 = .ok (.iload 11, 2) := by decide +kernel
theorem dX1_eliminate_101 : decode cX1_eliminate 101 = .ok (.bipush 10, 2) := by decide +kernel
theorem dX1_eliminate_103 : decode cX1_eliminate 103 = .ok (.if_icmp .ge 20, 3) := by decide +kernel
theorem dX1_eliminate_106 : decode cX1_eliminate 106 = .ok (.aload_n 0, 1) := by decide +kernel
theorem dX1_eliminate_107 : decode cX1_eliminate 107 = .ok (.iload 11, 2) := by decide +kernel
theorem dX1_eliminate_109 : decode cX1_eliminate 109 = .ok (.aload_n 0, 1) := by decide +kernel
theorem dX1_eliminate_110 : decode cX1_eliminate 110 = .ok (.iload 11, 2) := by decide +kernel
theorem dX1_eliminate_112 : decode cX1_eliminate 112 = .ok (.laload, 1) := by decide +kernel
theorem dX1_eliminate_113 : decode cX1_eliminate 113 = .ok (.lload 9, 2) := by decide +kernel
theorem dX1_eliminate_115 : decode cX1_eliminate 115 = .ok (.ldiv, 1) := by decide +kernel
theorem dX1_eliminate_116 : decode cX1_eliminate 116 = .ok (.lastore, 1) := by decide +kernel
theorem dX1_eliminate_117 : decode cX1_eliminate 117 = .ok (.iinc 11 1, 3) := by decide +kernel
theorem dX1_eliminate_120 : decode cX1_eliminate 120 = .ok (.goto (-21), 3) := by decide +kernel
theorem dX1_eliminate_123 : decode cX1_eliminate 123 = .ok (.return_, 1) := by decide +kernel
theorem dX1_gcd_0 : decode cX1_gcd 0 = .ok (.lload_n 0, 1) := by decide +kernel
theorem dX1_gcd_1 : decode cX1_gcd 1 = .ok (.lconst 0, 1) := by decide +kernel
theorem dX1_gcd_2 : decode cX1_gcd 2 = .ok (.lcmp, 1) := by decide +kernel
theorem dX1_gcd_3 : decode cX1_gcd 3 = .ok (.ifCond .ge 8, 3) := by decide +kernel
theorem dX1_gcd_6 : decode cX1_gcd 6 = .ok (.lload_n 0, 1) := by decide +kernel
theorem dX1_gcd_7 : decode cX1_gcd 7 = .ok (.lneg, 1) := by decide +kernel
theorem dX1_gcd_8 : decode cX1_gcd 8 = .ok (.goto 4, 3) := by decide +kernel
theorem dX1_gcd_11 : decode cX1_gcd 11 = .ok (.lload_n 0, 1) := by decide +kernel
theorem dX1_gcd_12 : decode cX1_gcd 12 = .ok (.lstore 4, 2) := by decide +kernel
theorem dX1_gcd_14 : decode cX1_gcd 14 = .ok (.lload_n 2, 1) := by decide +kernel
theorem dX1_gcd_15 : decode cX1_gcd 15 = .ok (.lconst 0, 1) := by decide +kernel
theorem dX1_gcd_16 : decode cX1_gcd 16 = .ok (.lcmp, 1) := by decide +kernel
theorem dX1_gcd_17 : decode cX1_gcd 17 = .ok (.ifCond .ge 8, 3) := by decide +kernel
theorem dX1_gcd_20 : decode cX1_gcd 20 = .ok (.lload_n 2, 1) := by decide +kernel
theorem dX1_gcd_21 : decode cX1_gcd 21 = .ok (.lneg, 1) := by decide +kernel
theorem dX1_gcd_22 : decode cX1_gcd 22 = .ok (.goto 4, 3) := by decide +kernel
theorem dX1_gcd_25 : decode cX1_gcd 25 = .ok (.lload_n 2, 1) := by decide +kernel
theorem dX1_gcd_26 : decode cX1_gcd 26 = .ok (.lstore 6, 2) := by decide +kernel
theorem dX1_gcd_28 : decode cX1_gcd 28 = .ok (.iconst 0, 1) := by decide +kernel
theorem dX1_gcd_29 : decode cX1_gcd 29 = .ok (.istore 8, 2) := by decide +kernel
theorem dX1_gcd_31 : decode cX1_gcd 31 = .ok (.iload 8, 2) := by decide +kernel
theorem dX1_gcd_33 : decode cX1_gcd 33 = .ok (.sipush 200, 3) := by decide +kernel
theorem dX1_gcd_36 : decode cX1_gcd 36 = .ok (.if_icmp .ge 31, 3) := by decide +kernel
theorem dX1_gcd_39 : decode cX1_gcd 39 = .ok (.lload 6, 2) := by decide +kernel
theorem dX1_gcd_41 : decode cX1_gcd 41 = .ok (.lconst 0, 1) := by decide +kernel
theorem dX1_gcd_42 : decode cX1_gcd 42 = .ok (.lcmp, 1) := by decide +kernel
theorem dX1_gcd_43 : decode cX1_gcd 43 = .ok (.ifCond .eq 24, 3) := by decide +kernel
theorem dX1_gcd_46 : decode cX1_gcd 46 = .ok (.lload 4, 2) := by decide +kernel
theorem dX1_gcd_48 : decode cX1_gcd 48 = .ok (.lload 6, 2) := by decide +kernel
theorem dX1_gcd_50 : decode cX1_gcd 50 = .ok (.lrem, 1) := by decide +kernel
theorem dX1_gcd_51 : decode cX1_gcd 51 = .ok (.lstore 9, 2) := by decide +kernel
theorem dX1_gcd_53 : decode cX1_gcd 53 = .ok (.lload 6, 2) := by decide +kernel
theorem dX1_gcd_55 : decode cX1_gcd 55 = .ok (.lstore 4, 2) := by decide +kernel
theorem dX1_gcd_57 : decode cX1_gcd 57 = .ok (.lload 9, 2) := by decide +kernel
theorem dX1_gcd_59 : decode cX1_gcd 59 = .ok (.lstore 6, 2) := by decide +kernel
theorem dX1_gcd_61 : decode cX1_gcd 61 = .ok (.iinc 8 1, 3) := by decide +kernel
theorem dX1_gcd_64 : decode cX1_gcd 64 = .ok (.goto (-33), 3) := by decide +kernel
theorem dX1_gcd_67 : decode cX1_gcd 67 = .ok (.lload 4, 2) := by decide +kernel
theorem dX1_gcd_69 : decode cX1_gcd 69 = .ok (.lreturn, 1) := by decide +kernel
