theorem dX4_lackingName_76 : decode cX4_lackingName 76 = .ok (.invokestatic 67, 3) := by decide +kernel
theorem dX4_lackingName_79 : decode cX4_lackingName 79 = .ok (.aload_n 0, 1) := by decide +kernel
theorem dX4_lackingName_80 : decode cX4_lackingName 80 = .ok (.getfield 34, 3) := by decide +kernel
theorem dX4_lackingName_83 : decode cX4_lackingName 83 = .ok (.iload_n 2, 1) := by decide +kernel
theorem dX4_lackingName_84 : decode cX4_lackingName 84 = .ok (.lconst 1, 1) := by decide +kernel
theorem dX4_lackingName_85 : decode cX4_lackingName 85 = .ok (.lastore, 1) := by decide +kernel
theorem dX4_lackingName_86 : decode cX4_lackingName 86 = .ok (.aload_n 0, 1) := by decide +kernel
theorem dX4_lackingName_87 : decode cX4_lackingName 87 = .ok (.getfield 11, 3) := by decide +kernel
theorem dX4_lackingName_90 : decode cX4_lackingName 90 = .ok (.iload_n 1, 1) := by decide +kernel
theorem dX4_lackingName_91 : decode cX4_lackingName 91 = .ok (.aaload, 1) := by decide +kernel
theorem dX4_lackingName_92 : decode cX4_lackingName 92 = .ok (.aload_n 0, 1) := by decide +kernel
theorem dX4_lackingName_93 : decode cX4_lackingName 93 = .ok (.getfield 34, 3) := by decide +kernel
theorem dX4_lackingName_96 : decode cX4_lackingName 96 = .ok (.invokevirtual 139, 3) := by decide +kernel
theorem dX4_lackingName_99 : decode cX4_lackingName 99 = .ok (.aload_n 0, 1) := by decide +kernel
theorem dX4_lackingName_100 : decode cX4_lackingName 100 = .ok (.getfield 31, 3) := by decide +kernel
theorem dX4_lackingName_103 : decode cX4_lackingName 103 = .ok (.aload_n 0, 1) := by decide +kernel
theorem dX4_lackingName_104 : decode cX4_lackingName 104 = .ok (.getfield 34, 3) := by decide +kernel
theorem dX4_lackingName_107 : decode cX4_lackingName 107 = .ok (.invokestatic 166, 3) := by decide +kernel
theorem dX4_lackingName_110 : decode cX4_lackingName 110 = .ok (.ifCond .eq 5, 3) := by decide +kernel
theorem dX4_lackingName_113 : decode cX4_lackingName 113 = .ok (.iload_n 2, 1) := by decide +kernel
theorem dX4_lackingName_114 : decode cX4_lackingName 114 = .ok (.ireturn, 1) := by decide +kernel
theorem dX4_lackingName_115 : decode cX4_lackingName 115 = .ok (.iinc 2 1, 3) := by decide +kernel
theorem dX4_lackingName_118 : decode cX4_lackingName 118 = .ok (.goto (-53), 3) := by decide +kernel
theorem dX4_lackingName_121 : decode cX4_lackingName 121 = .ok (.iconst (-1), 1) := by decide +kernel
theorem dX4_lackingName_122 : decode cX4_lackingName 122 = .ok (.ireturn, 1) := by decide +kernel
theorem dX4_areAlongside_0 : decode cX4_areAlongside 0 = .ok (.aload_n 0, 1) := by decide +kernel
theorem dX4_areAlongside_1 : decode cX4_areAlongside 1 = .ok (.invokestatic 142, 3) := by decide +kernel
theorem dX4_areAlongside_4 : decode cX4_areAlongside 4 = .ok (.istore_n 2, 1) := by decide +kernel
theorem dX4_areAlongside_5 : decode cX4_areAlongside 5 = .ok (.iload_n 2, 1) := by decide +kernel
theorem dX4_areAlongside_6 : decode cX4_areAlongside 6 = .ok (.iconst (-1), 1) := by decide +kernel
theorem dX4_areAlongside_7 : decode cX4_areAlongside 7 = .ok (.if_icmp .eq 11, 3) := by decide +kernel
theorem dX4_areAlongside_10 : decode cX4_areAlongside 10 = .ok (.aload_n 1, 1) := by decide +kernel
theorem dX4_areAlongside_11 : decode cX4_areAlongside 11 = .ok (.iload_n 2, 1) := by decide +kernel
theorem dX4_areAlongside_12 : decode cX4_areAlongside 12 = .ok (.laload, 1) := by decide +kernel
theorem dX4_areAlongside_13 : decode cX4_areAlongside 13 = .ok (.lconst 0, 1) := by decide +kernel
theorem dX4_areAlongside_14 : decode cX4_areAlongside 14 = .ok (.lcmp, 1) := by decide +kernel
theorem dX4_areAlongside_15 : decode cX4_areAlongside 15 = .ok (.ifCond .ne 5, 3) := by decide +kernel
theorem dX4_areAlongside_18 : decode cX4_areAlongside 18 = .ok (.iconst 0, 1) := by decide +kernel
theorem dX4_areAlongside_19 : decode cX4_areAlongside 19 = .ok (.ireturn, 1) := by decide +kernel
theorem dX4_areAlongside_20 : decode cX4_areAlongside 20 = .ok (.iconst 0, 1) := by decide +kernel
theorem dX4_areAlongside_21 : decode cX4_areAlongside 21 = .ok (.istore_n 3, 1) := by decide +kernel
theorem dX4_areAlongside_22 : decode cX4_areAlongside 22 = .ok (.iload_n 3, 1) := by decide +kernel
theorem dX4_areAlongside_23 : decode cX4_areAlongside 23 = .ok (.bipush 8, 2) := by decide +kernel
theorem dX4_areAlongside_25 : decode cX4_areAlongside 25 = .ok (.if_icmp .ge 29, 3) := by decide +kernel
theorem dX4_areAlongside_28 : decode cX4_areAlongside 28 = .ok (.aload_n 0, 1) := by decide +kernel
theorem dX4_areAlongside_29 : decode cX4_areAlongside 29 = .ok (.iload_n 3, 1) := by decide +kernel
theorem dX4_areAlongside_30 : decode cX4_areAlongside 30 = .ok (.laload, 1) := by decide +kernel
theorem dX4_areAlongside_31 : decode cX4_areAlongside 31 = .ok (.aload_n 1, 1) := by decide +kernel
theorem dX4_areAlongside_32 : decode cX4_areAlongside 32 = .ok (.iload_n 2, 1) := by decide +kernel
theorem dX4_areAlongside_33 : decode cX4_areAlongside 33 = .ok (.laload, 1) := by decide +kernel
theorem dX4_areAlongside_34 : decode cX4_areAlongside 34 = .ok (.lmul, 1) := by decide +kernel
theorem dX4_areAlongside_35 : decode cX4_areAlongside 35 = .ok (.aload_n 1, 1) := by decide +kernel
theorem dX4_areAlongside_36 : decode cX4_areAlongside 36 = .ok (.iload_n 3, 1) := by decide +kernel
theorem dX4_areAlongside_37 : decode cX4_areAlongside 37 = .ok (.laload, 1) := by decide +kernel
theorem dX4_areAlongside_38 : decode cX4_areAlongside 38 = .ok (.aload_n 0, 1) := by decide +kernel
theorem dX4_areAlongside_39 : decode cX4_areAlongside 39 = .ok (.iload_n 2, 1) := by decide +kernel
theorem dX4_areAlongside_40 : decode cX4_areAlongside 40 = .ok (.laload, 1) := by decide +kernel
theorem dX4_areAlongside_41 : decode cX4_areAlongside 41 = .ok (.lmul, 1) := by decide +kernel
theorem dX4_areAlongside_42 : decode cX4_areAlongside 42 = .ok (.lcmp, 1) := by decide +kernel
theorem dX4_areAlongside_43 : decode cX4_areAlongside 43 = .ok (.ifCond .eq 5, 3) := by decide +kernel
theorem dX4_areAlongside_46 : decode cX4_areAlongside 46 = .ok (.iconst 0, 1) := by decide +kernel
theorem dX4_areAlongside_47 : decode cX4_areAlongside 47 = .ok (.ireturn, 1) := by decide +kernel
theorem dX4_areAlongside_48 : decode cX4_areAlongside 48 = .ok (.iinc 3 1, 3) := by decide +kernel
theorem dX4_areAlongside_51 : decode cX4_areAlongside 51 = .ok (.goto (-29), 3) := by decide +kernel
theorem dX4_areAlongside_54 : decode cX4_areAlongside 54 = .ok (.iconst 1, 1) := by decide +kernel
theorem dX4_areAlongside_55 : decode cX4_areAlongside 55 = .ok (.ireturn, 1) := by decide +kernel
theorem dX4_idleFacts_0 : decode cX4_idleFacts 0 = .ok (.aload_n 0, 1) := by decide +kernel
theorem dX4_idleFacts_1 : decode cX4_idleFacts 1 = .ok (.invokevirtual 146, 3) := by decide +kernel
theorem dX4_idleFacts_4 : decode cX4_idleFacts 4 = .ok (.ifCond .ne 5, 3) := by decide +kernel
theorem dX4_idleFacts_7 : decode cX4_idleFacts 7 = .ok (.iconst 0, 1) := by decide +kernel
theorem dX4_idleFacts_8 : decode cX4_idleFacts 8 = .ok (.ireturn, 1) := by decide +kernel
theorem dX4_idleFacts_9 : decode cX4_idleFacts 9 = .ok (.aload_n 0, 1) := by decide +kernel
theorem dX4_idleFacts_10 : decode cX4_idleFacts 10 = .ok (.getfield 54, 3) := by decide +kernel
theorem dX4_idleFacts_13 : decode cX4_idleFacts 13 = .ok (.iconst (-1), 1) := by decide +kernel
theorem dX4_idleFacts_14 : decode cX4_idleFacts 14 = .ok (.if_icmp .ne 67, 3) := by decide +kernel
theorem dX4_idleFacts_17 : decode cX4_idleFacts 17 = .ok (.aload_n 0, 1) := by decide +kernel
theorem dX4_idleFacts_18 : decode cX4_idleFacts 18 = .ok (.iconst 0, 1) := by decide +kernel
theorem dX4_idleFacts_19 : decode cX4_idleFacts 19 = .ok (.putfield 54, 3) := by decide +kernel
theorem dX4_idleFacts_22 : decode cX4_idleFacts 22 = .ok (.iconst 0, 1) := by decide +kernel
theorem dX4_idleFacts_23 : decode cX4_idleFacts 23 = .ok (.istore_n 1, 1) := by decide +kernel
theorem dX4_idleFacts_24 : decode cX4_idleFacts 24 = .ok (.iload_n 1, 1) := by decide +kernel
theorem dX4_idleFacts_25 : decode cX4_idleFacts 25 = .ok (.aload_n 0, 1) := by decide +kernel
theorem dX4_idleFacts_26 : decode cX4_idleFacts 26 = .ok (.getfield 60, 3) := by decide +kernel
theorem dX4_idleFacts_29 : decode cX4_idleFacts 29 = .ok (.invokevirtual 85, 3) := by decide +kernel
theorem dX4_idleFacts_32 : decode cX4_idleFacts 32 = .ok (.if_icmp .ge 49, 3) := by decide +kernel
theorem dX4_idleFacts_35 : decode cX4_idleFacts 35 = .ok (.aload_n 0, 1) := by decide +kernel
theorem dX4_idleFacts_36 : decode cX4_idleFacts 36 = .ok (.iload_n 1, 1) := by decide +kernel
theorem dX4_idleFacts_37 : decode cX4_idleFacts 37 = .ok (.invokevirtual 120, 3) := by decide +kernel
theorem dX4_idleFacts_40 : decode cX4_idleFacts 40 = .ok (.ifCond .eq 35, 3) := by decide +kernel
theorem dX4_idleFacts_43 : decode cX4_idleFacts 43 = .ok (.aload_n 0, 1) := by decide +kernel
theorem dX4_idleFacts_44 : decode cX4_idleFacts 44 = .ok (.aload_n 0, 1) := by decide +kernel
theorem dX4_idleFacts_45 : decode cX4_idleFacts 45 = .ok (.getfield 60, 3) := by decide +kernel
theorem dX4_idleFacts_48 : decode cX4_idleFacts 48 = .ok (.invokevirtual 134, 3) := by decide +kernel
theorem dX4_idleFacts_51 : decode cX4_idleFacts 51 = .ok (.iconst 1, 1) := by decide +kernel
theorem dX4_idleFacts_52 : decode cX4_idleFacts 52 = .ok (.iload_n 1, 1) := by decide +kernel
theorem dX4_idleFacts_53 : decode cX4_idleFacts 53 = .ok (.ishl, 1) := by decide +kernel
theorem dX4_idleFacts_54 : decode cX4_idleFacts 54 = .ok (.iconst (-1), 1) := by decide +kernel
theorem dX4_idleFacts_55 : decode cX4_idleFacts 55 = .ok (.ixor, 1) := by decide +kernel
theorem dX4_idleFacts_56 : decode cX4_idleFacts 56 = .ok (.iand, 1) := by decide +kernel
theorem dX4_idleFacts_57 : decode cX4_idleFacts 57 = .ok (.invokevirtual 170, 3) := by decide +kernel
theorem dX4_idleFacts_60 : decode cX4_idleFacts 60 = .ok (.ifCond .eq 15, 3) := by decide +kernel
theorem dX4_idleFacts_63 : decode cX4_idleFacts 63 = .ok (.aload_n 0, 1) := by decide +kernel
theorem dX4_idleFacts_64 : decode cX4_idleFacts 64 = .ok (.dup, 1) := by decide +kernel
theorem dX4_idleFacts_65 : decode cX4_idleFacts 65 = .ok (.getfield 54, 3) := by decide +kernel
theorem dX4_idleFacts_68 : decode cX4_idleFacts 68 = .ok (.iconst 1, 1) := by decide +kernel
theorem dX4_idleFacts_69 : decode cX4_idleFacts 69 = .ok (.iload_n 1, 1) := by decide +kernel
theorem dX4_idleFacts_70 : decode cX4_idleFacts 70 = .ok (.ishl, 1) := by decide +kernel
theorem dX4_idleFacts_71 : decode cX4_idleFacts 71 = .ok (.ior, 1) := by decide +kernel
theorem dX4_idleFacts_72 : decode cX4_idleFacts 72 = .ok (.putfield 54, 3) := by decide +kernel
theorem dX4_idleFacts_75 : decode cX4_idleFacts 75 = .ok (.iinc 1 1, 3) := by decide +kernel
theorem dX4_idleFacts_78 : decode cX4_idleFacts 78 = .ok (.goto (-54), 3) := by decide +kernel
theorem dX4_idleFacts_81 : decode cX4_idleFacts 81 = .ok (.aload_n 0, 1) := by decide +kernel
theorem dX4_idleFacts_82 : decode cX4_idleFacts 82 = .ok (.getfield 54, 3) := by decide +kernel
theorem dX4_idleFacts_85 : decode cX4_idleFacts 85 = .ok (.ireturn, 1) := by decide +kernel
theorem dX4_fewestFacts_0 : decode cX4_fewestFacts 0 = .ok (.aload_n 0, 1) := by decide +kernel
theorem dX4_fewestFacts_1 : decode cX4_fewestFacts 1 = .ok (.invokevirtual 146, 3) := by decide +kernel
theorem dX4_fewestFacts_4 : decode cX4_fewestFacts 4 = .ok (.ifCond .eq 45, 3) := by decide +kernel
theorem dX4_fewestFacts_7 : decode cX4_fewestFacts 7 = .ok (.aload_n 0, 1) := by decide +kernel
theorem dX4_fewestFacts_8 : decode cX4_fewestFacts 8 = .ok (.getfield 57, 3) := by decide +kernel
theorem dX4_fewestFacts_11 : decode cX4_fewestFacts 11 = .ok (.iconst (-1), 1) := by decide +kernel
theorem dX4_fewestFacts_12 : decode cX4_fewestFacts 12 = .ok (.if_icmp .ne 37, 3) := by decide +kernel
theorem dX4_fewestFacts_15 : decode cX4_fewestFacts 15 = .ok (.aload_n 0, 1) := by decide +kernel
theorem dX4_fewestFacts_16 : decode cX4_fewestFacts 16 = .ok (.aload_n 0, 1) := by decide +kernel
theorem dX4_fewestFacts_17 : decode cX4_fewestFacts 17 = .ok (.aload_n 0, 1) := by decide +kernel
theorem dX4_fewestFacts_18 : decode cX4_fewestFacts 18 = .ok (.getfield 60, 3) := by decide +kernel
theorem dX4_fewestFacts_21 : decode cX4_fewestFacts 21 = .ok (.invokevirtual 134, 3) := by decide +kernel
theorem dX4_fewestFacts_24 : decode cX4_fewestFacts 24 = .ok (.aload_n 0, 1) := by decide +kernel
theorem dX4_fewestFacts_25 : decode cX4_fewestFacts 25 = .ok (.invokevirtual 173, 3) := by decide +kernel
theorem dX4_fewestFacts_28 : decode cX4_fewestFacts 28 = .ok (.iconst (-1), 1) := by decide +kernel
theorem dX4_fewestFacts_29 : decode cX4_fewestFacts 29 = .ok (.ixor, 1) := by decide +kernel
theorem dX4_fewestFacts_30 : decode cX4_fewestFacts 30 = .ok (.iand, 1) := by decide +kernel
theorem dX4_fewestFacts_31 : decode cX4_fewestFacts 31 = .ok (.aload_n 0, 1) := by decide +kernel
theorem dX4_fewestFacts_32 : decode cX4_fewestFacts 32 = .ok (.aload_n 0, 1) := by decide +kernel
theorem dX4_fewestFacts_33 : decode cX4_fewestFacts 33 = .ok (.getfield 60, 3) := by decide +kernel
theorem dX4_fewestFacts_36 : decode cX4_fewestFacts 36 = .ok (.iconst 3, 1) := by decide +kernel
theorem dX4_fewestFacts_37 : decode cX4_fewestFacts 37 = .ok (.invokevirtual 105, 3) := by decide +kernel
theorem dX4_fewestFacts_40 : decode cX4_fewestFacts 40 = .ok (.invokevirtual 176, 3) := by decide +kernel
theorem dX4_fewestFacts_43 : decode cX4_fewestFacts 43 = .ok (.invokevirtual 179, 3) := by decide +kernel
theorem dX4_fewestFacts_46 : decode cX4_fewestFacts 46 = .ok (.putfield 57, 3) := by decide +kernel
theorem dX4_fewestFacts_49 : decode cX4_fewestFacts 49 = .ok (.aload_n 0, 1) := by decide +kernel
theorem dX4_fewestFacts_50 : decode cX4_fewestFacts 50 = .ok (.getfield 57, 3) := by decide +kernel
theorem dX4_fewestFacts_53 : decode cX4_fewestFacts 53 = .ok (.ireturn, 1) := by decide +kernel
theorem dX4_seekFewest_0 : decode cX4_seekFewest 0 = .ok (.iconst 1, 1) := by decide +kernel
theorem dX4_seekFewest_1 : decode cX4_seekFewest 1 = .ok (.istore_n 3, 1) := by decide +kernel
theorem dX4_seekFewest_2 : decode cX4_seekFewest 2 = .ok (.iload_n 3, 1) := by decide +kernel
theorem dX4_seekFewest_3 : decode cX4_seekFewest 3 = .ok (.aload_n 0, 1) := by decide +kernel
theorem dX4_seekFewest_4 : decode cX4_seekFewest 4 = .ok (.getfield 60, 3) := by decide +kernel
theorem dX4_seekFewest_7 : decode cX4_seekFewest 7 = .ok (.invokevirtual 85, 3) := by decide +kernel
theorem dX4_seekFewest_10 : decode cX4_seekFewest 10 = .ok (.if_icmp .gt 62, 3) := by decide +kernel
theorem dX4_seekFewest_13 : decode cX4_seekFewest 13 = .ok (.iconst 1, 1) := by decide +kernel
theorem dX4_seekFewest_14 : decode cX4_seekFewest 14 = .ok (.istore 4, 2) := by decide +kernel
theorem dX4_seekFewest_16 : decode cX4_seekFewest 16 = .ok (.iload 4, 2) := by decide +kernel
theorem dX4_seekFewest_18 : decode cX4_seekFewest 18 = .ok (.iload_n 2, 1) := by decide +kernel
theorem dX4_seekFewest_19 : decode cX4_seekFewest 19 = .ok (.if_icmp .gt 47, 3) := by decide +kernel
theorem dX4_seekFewest_22 : decode cX4_seekFewest 22 = .ok (.iload 4, 2) := by decide +kernel
theorem dX4_seekFewest_24 : decode cX4_seekFewest 24 = .ok (.invokestatic 182, 3) := by decide +kernel
theorem dX4_seekFewest_27 : decode cX4_seekFewest 27 = .ok (.iload_n 3, 1) := by decide +kernel
theorem dX4_seekFewest_28 : decode cX4_seekFewest 28 = .ok (.if_icmp .ne 32, 3) := by decide +kernel
theorem dX4_seekFewest_31 : decode cX4_seekFewest 31 = .ok (.iload 4, 2) := by decide +kernel
theorem dX4_seekFewest_33 : decode cX4_seekFewest 33 = .ok (.iload_n 1, 1) := by decide +kernel
theorem dX4_seekFewest_34 : decode cX4_seekFewest 34 = .ok (.iand, 1) := by decide +kernel
theorem dX4_seekFewest_35 : decode cX4_seekFewest 35 = .ok (.iload_n 1, 1) := by decide +kernel
theorem dX4_seekFewest_36 : decode cX4_seekFewest 36 = .ok (.if_icmp .ne 24, 3) := by decide +kernel
theorem dX4_seekFewest_39 : decode cX4_seekFewest 39 = .ok (.iload 4, 2) := by decide +kernel
theorem dX4_seekFewest_41 : decode cX4_seekFewest 41 = .ok (.iload_n 2, 1) := by decide +kernel
theorem dX4_seekFewest_42 : decode cX4_seekFewest 42 = .ok (.iconst (-1), 1) := by decide +kernel
theorem dX4_seekFewest_43 : decode cX4_seekFewest 43 = .ok (.ixor, 1) := by decide +kernel
theorem dX4_seekFewest_44 : decode cX4_seekFewest 44 = .ok (.iand, 1) := by decide +kernel
theorem dX4_seekFewest_45 : decode cX4_seekFewest 45 = .ok (.ifCond .ne 15, 3) := by decide +kernel
theorem dX4_seekFewest_48 : decode cX4_seekFewest 48 = .ok (.aload_n 0, 1) := by decide +kernel
theorem dX4_seekFewest_49 : decode cX4_seekFewest 49 = .ok (.iload 4, 2) := by decide +kernel
theorem dX4_seekFewest_51 : decode cX4_seekFewest 51 = .ok (.invokevirtual 170, 3) := by decide +kernel
theorem dX4_seekFewest_54 : decode cX4_seekFewest 54 = .ok (.ifCond .eq 6, 3) := by decide +kernel
theorem dX4_seekFewest_57 : decode cX4_seekFewest 57 = .ok (.iload 4, 2) := by decide +kernel
theorem dX4_seekFewest_59 : decode cX4_seekFewest 59 = .ok (.ireturn, 1) := by decide +kernel
theorem dX4_seekFewest_60 : decode cX4_seekFewest 60 = .ok (.iinc 4 1, 3) := by decide +kernel
theorem dX4_seekFewest_63 : decode cX4_seekFewest 63 = .ok (.goto (-47), 3) := by decide +kernel
theorem dX4_seekFewest_66 : decode cX4_seekFewest 66 = .ok (.iinc 3 1, 3) := by decide +kernel
theorem dX4_seekFewest_69 : decode cX4_seekFewest 69 = .ok (.goto (-67), 3) := by decide +kernel
theorem dX4_seekFewest_72 : decode cX4_seekFewest 72 = .ok (.iconst (-1), 1) := by decide +kernel
theorem dX4_seekFewest_73 : decode cX4_seekFewest 73 = .ok (.ireturn, 1) := by decide +kernel
theorem dX4_factsOf_0 : decode cX4_factsOf 0 = .ok (.iconst 0, 1) := by decide +kernel
theorem dX4_factsOf_1 : decode cX4_factsOf 1 = .ok (.istore_n 2, 1) := by decide +kernel
theorem dX4_factsOf_2 : decode cX4_factsOf 2 = .ok (.iconst 0, 1) := by decide +kernel
theorem dX4_factsOf_3 : decode cX4_factsOf 3 = .ok (.istore_n 3, 1) := by decide +kernel
theorem dX4_factsOf_4 : decode cX4_factsOf 4 = .ok (.iload_n 3, 1) := by decide +kernel
theorem dX4_factsOf_5 : decode cX4_factsOf 5 = .ok (.aload_n 0, 1) := by decide +kernel
theorem dX4_factsOf_6 : decode cX4_factsOf 6 = .ok (.getfield 60, 3) := by decide +kernel
theorem dX4_factsOf_9 : decode cX4_factsOf 9 = .ok (.invokevirtual 85, 3) := by decide +kernel
theorem dX4_factsOf_12 : decode cX4_factsOf 12 = .ok (.if_icmp .ge 36, 3) := by decide +kernel
theorem dX4_factsOf_15 : decode cX4_factsOf 15 = .ok (.aload_n 0, 1) := by decide +kernel
theorem dX4_factsOf_16 : decode cX4_factsOf 16 = .ok (.iload_n 3, 1) := by decide +kernel
theorem dX4_factsOf_17 : decode cX4_factsOf 17 = .ok (.invokevirtual 120, 3) := by decide +kernel
theorem dX4_factsOf_20 : decode cX4_factsOf 20 = .ok (.ifCond .eq 22, 3) := by decide +kernel
theorem dX4_factsOf_23 : decode cX4_factsOf 23 = .ok (.aload_n 0, 1) := by decide +kernel
theorem dX4_factsOf_24 : decode cX4_factsOf 24 = .ok (.getfield 60, 3) := by decide +kernel
theorem dX4_factsOf_27 : decode cX4_factsOf 27 = .ok (.iload_n 3, 1) := by decide +kernel
theorem dX4_factsOf_28 : decode cX4_factsOf 28 = .ok (.iconst 3, 1) := by decide +kernel
theorem dX4_factsOf_29 : decode cX4_factsOf 29 = .ok (.invokevirtual 91, 3) := by decide +kernel
theorem dX4_factsOf_32 : decode cX4_factsOf 32 = .ok (.iload_n 1, 1) := by decide +kernel
theorem dX4_factsOf_33 : decode cX4_factsOf 33 = .ok (.if_icmp .ne 9, 3) := by decide +kernel
theorem dX4_factsOf_36 : decode cX4_factsOf 36 = .ok (.iload_n 2, 1) := by decide +kernel
theorem dX4_factsOf_37 : decode cX4_factsOf 37 = .ok (.iconst 1, 1) := by decide +kernel
theorem dX4_factsOf_38 : decode cX4_factsOf 38 = .ok (.iload_n 3, 1) := by decide +kernel
theorem dX4_factsOf_39 : decode cX4_factsOf 39 = .ok (.ishl, 1) := by decide +kernel
theorem dX4_factsOf_40 : decode cX4_factsOf 40 = .ok (.ior, 1) := by decide +kernel
theorem dX4_factsOf_41 : decode cX4_factsOf 41 = .ok (.istore_n 2, 1) := by decide +kernel
theorem dX4_factsOf_42 : decode cX4_factsOf 42 = .ok (.iinc 3 1, 3) := by decide +kernel
theorem dX4_factsOf_45 : decode cX4_factsOf 45 = .ok (.goto (-41), 3) := by decide +kernel
theorem dX4_factsOf_48 : decode cX4_factsOf 48 = .ok (.iload_n 2, 1) := by decide +kernel
theorem dX4_factsOf_49 : decode cX4_factsOf 49 = .ok (.ireturn, 1) := by decide +kernel
theorem dX4_isSettledBy_0 : decode cX4_isSettledBy 0 = .ok (.iload_n 1, 1) := by decide +kernel
theorem dX4_isSettledBy_1 : decode cX4_isSettledBy 1 = .ok (.aload_n 0, 1) := by decide +kernel
theorem dX4_isSettledBy_2 : decode cX4_isSettledBy 2 = .ok (.aload_n 0, 1) := by decide +kernel
theorem dX4_isSettledBy_3 : decode cX4_isSettledBy 3 = .ok (.getfield 60, 3) := by decide +kernel
theorem dX4_isSettledBy_6 : decode cX4_isSettledBy 6 = .ok (.iconst 3, 1) := by decide +kernel
theorem dX4_isSettledBy_7 : decode cX4_isSettledBy 7 = .ok (.invokevirtual 105, 3) := by decide +kernel
theorem dX4_isSettledBy_10 : decode cX4_isSettledBy 10 = .ok (.invokevirtual 176, 3) := by decide +kernel
theorem dX4_isSettledBy_13 : decode cX4_isSettledBy 13 = .ok (.iand, 1) := by decide +kernel
theorem dX4_isSettledBy_14 : decode cX4_isSettledBy 14 = .ok (.istore_n 2, 1) := by decide +kernel
theorem dX4_isSettledBy_15 : decode cX4_isSettledBy 15 = .ok (.aload_n 0, 1) := by decide +kernel
theorem dX4_isSettledBy_16 : decode cX4_isSettledBy 16 = .ok (.getfield 18, 3) := by decide +kernel
theorem dX4_isSettledBy_19 : decode cX4_isSettledBy 19 = .ok (.invokevirtual 117, 3) := by decide +kernel
theorem dX4_isSettledBy_22 : decode cX4_isSettledBy 22 = .ok (.iconst 0, 1) := by decide +kernel
theorem dX4_isSettledBy_23 : decode cX4_isSettledBy 23 = .ok (.istore_n 3, 1) := by decide +kernel
theorem dX4_isSettledBy_24 : decode cX4_isSettledBy 24 = .ok (.iload_n 3, 1) := by decide +kernel
theorem dX4_isSettledBy_25 : decode cX4_isSettledBy 25 = .ok (.bipush 10, 2) := by decide +kernel
theorem dX4_isSettledBy_27 : decode cX4_isSettledBy 27 = .ok (.if_icmp .ge 46, 3) := by decide +kernel
theorem dX4_isSettledBy_30 : decode cX4_isSettledBy 30 = .ok (.iload_n 2, 1) := by decide +kernel
theorem dX4_isSettledBy_31 : decode cX4_isSettledBy 31 = .ok (.iconst 1, 1) := by decide +kernel
theorem dX4_isSettledBy_32 : decode cX4_isSettledBy 32 = .ok (.iload_n 3, 1) := by decide +kernel
theorem dX4_isSettledBy_33 : decode cX4_isSettledBy 33 = .ok (.ishl, 1) := by decide +kernel
theorem dX4_isSettledBy_34 : decode cX4_isSettledBy 34 = .ok (.iand, 1) := by decide +kernel
theorem dX4_isSettledBy_35 : decode cX4_isSettledBy 35 = .ok (.ifCond .eq 32, 3) := by decide +kernel
theorem dX4_isSettledBy_38 : decode cX4_isSettledBy 38 = .ok (.aload_n 0, 1) := by decide +kernel
theorem dX4_isSettledBy_39 : decode cX4_isSettledBy 39 = .ok (.getfield 24, 3) := by decide +kernel
theorem dX4_isSettledBy_42 : decode cX4_isSettledBy 42 = .ok (.iload_n 3, 1) := by decide +kernel
theorem dX4_isSettledBy_43 : decode cX4_isSettledBy 43 = .ok (.aaload, 1) := by decide +kernel
theorem dX4_isSettledBy_44 : decode cX4_isSettledBy 44 = .ok (.iconst 0, 1) := by decide +kernel
theorem dX4_isSettledBy_45 : decode cX4_isSettledBy 45 = .ok (.aload_n 0, 1) := by decide +kernel
theorem dX4_isSettledBy_46 : decode cX4_isSettledBy 46 = .ok (.getfield 31, 3) := by decide +kernel
theorem dX4_isSettledBy_49 : decode cX4_isSettledBy 49 = .ok (.iconst 0, 1) := by decide +kernel
theorem dX4_isSettledBy_50 : decode cX4_isSettledBy 50 = .ok (.bipush 10, 2) := by decide +kernel
theorem dX4_isSettledBy_52 : decode cX4_isSettledBy 52 = .ok (.invokestatic 124, 3) := by decide +kernel
theorem dX4_isSettledBy_55 : decode cX4_isSettledBy 55 = .ok (.aload_n 0, 1) := by decide +kernel
theorem dX4_isSettledBy_56 : decode cX4_isSettledBy 56 = .ok (.getfield 18, 3) := by decide +kernel
theorem dX4_isSettledBy_59 : decode cX4_isSettledBy 59 = .ok (.aload_n 0, 1) := by decide +kernel
theorem dX4_isSettledBy_60 : decode cX4_isSettledBy 60 = .ok (.getfield 31, 3) := by decide +kernel
theorem dX4_isSettledBy_63 : decode cX4_isSettledBy 63 = .ok (.invokevirtual 130, 3) := by decide +kernel
theorem dX4_isSettledBy_66 : decode cX4_isSettledBy 66 = .ok (.pop, 1) := by decide +kernel
theorem dX4_isSettledBy_67 : decode cX4_isSettledBy 67 = .ok (.iinc 3 1, 3) := by decide +kernel
theorem dX4_isSettledBy_70 : decode cX4_isSettledBy 70 = .ok (.goto (-46), 3) := by decide +kernel
theorem dX4_isSettledBy_73 : decode cX4_isSettledBy 73 = .ok (.aload_n 0, 1) := by decide +kernel
theorem dX4_isSettledBy_74 : decode cX4_isSettledBy 74 = .ok (.getfield 27, 3) := by decide +kernel
theorem dX4_isSettledBy_77 : decode cX4_isSettledBy 77 = .ok (.iconst 0, 1) := by decide +kernel
theorem dX4_isSettledBy_78 : decode cX4_isSettledBy 78 = .ok (.aload_n 0, 1) := by decide +kernel
theorem dX4_isSettledBy_79 : decode cX4_isSettledBy 79 = .ok (.getfield 31, 3) := by decide +kernel
theorem dX4_isSettledBy_82 : decode cX4_isSettledBy 82 = .ok (.iconst 0, 1) := by decide +kernel
theorem dX4_isSettledBy_83 : decode cX4_isSettledBy 83 = .ok (.bipush 10, 2) := by decide +kernel
theorem dX4_isSettledBy_85 : decode cX4_isSettledBy 85 = .ok (.invokestatic 124, 3) := by decide +kernel
theorem dX4_isSettledBy_88 : decode cX4_isSettledBy 88 = .ok (.aload_n 0, 1) := by decide +kernel
theorem dX4_isSettledBy_89 : decode cX4_isSettledBy 89 = .ok (.getfield 18, 3) := by decide +kernel
theorem dX4_isSettledBy_92 : decode cX4_isSettledBy 92 = .ok (.aload_n 0, 1) := by decide +kernel
theorem dX4_isSettledBy_93 : decode cX4_isSettledBy 93 = .ok (.getfield 31, 3) := by decide +kernel
theorem dX4_isSettledBy_96 : decode cX4_isSettledBy 96 = .ok (.invokevirtual 139, 3) := by decide +kernel
theorem dX4_isSettledBy_99 : decode cX4_isSettledBy 99 = .ok (.aload_n 0, 1) := by decide +kernel
theorem dX4_isSettledBy_100 : decode cX4_isSettledBy 100 = .ok (.getfield 31, 3) := by decide +kernel
theorem dX4_isSettledBy_103 : decode cX4_isSettledBy 103 = .ok (.invokestatic 142, 3) := by decide +kernel
theorem dX4_isSettledBy_106 : decode cX4_isSettledBy 106 = .ok (.iconst (-1), 1) := by decide +kernel
theorem dX4_isSettledBy_107 : decode cX4_isSettledBy 107 = .ok (.if_icmp .ne 7, 3) := by decide +kernel
theorem dX4_isSettledBy_110 : decode cX4_isSettledBy 110 = .ok (.iconst 1, 1) := by decide +kernel
theorem dX4_isSettledBy_111 : decode cX4_isSettledBy 111 = .ok (.goto 4, 3) := by decide +kernel
theorem dX4_isSettledBy_114 : decode cX4_isSettledBy 114 = .ok (.iconst 0, 1) := by decide +kernel
theorem dX4_isSettledBy_115 : decode cX4_isSettledBy 115 = .ok (.ireturn, 1) := by decide +kernel
