theorem dX6_init_0 : decode cX6_init 0 = .ok (.aload_n 0, 1) := by decide +kernel
theorem dX6_init_1 : decode cX6_init 1 = .ok (.invokespecial 3, 3) := by decide +kernel
theorem dX6_init_4 : decode cX6_init 4 = .ok (.aload_n 0, 1) := by decide +kernel
theorem dX6_init_5 : decode cX6_init 5 = .ok (.new 9, 3) := by decide +kernel
theorem dX6_init_8 : decode cX6_init 8 = .ok (.dup, 1) := by decide +kernel
theorem dX6_init_9 : decode cX6_init 9 = .ok (.invokespecial 11, 3) := by decide +kernel
theorem dX6_init_12 : decode cX6_init 12 = .ok (.putfield 12, 3) := by decide +kernel
theorem dX6_init_15 : decode cX6_init 15 = .ok (.aload_n 0, 1) := by decide +kernel
theorem dX6_init_16 : decode cX6_init 16 = .ok (.new 16, 3) := by decide +kernel
theorem dX6_init_19 : decode cX6_init 19 = .ok (.dup, 1) := by decide +kernel
theorem dX6_init_20 : decode cX6_init 20 = .ok (.aload_n 0, 1) := by decide +kernel
theorem dX6_init_21 : decode cX6_init 21 = .ok (.getfield 12, 3) := by decide +kernel
theorem dX6_init_24 : decode cX6_init 24 = .ok (.invokespecial 18, 3) := by decide +kernel
theorem dX6_init_27 : decode cX6_init 27 = .ok (.putfield 21, 3) := by decide +kernel
theorem dX6_init_30 : decode cX6_init 30 = .ok (.aload_n 0, 1) := by decide +kernel
theorem dX6_init_31 : decode cX6_init 31 = .ok (.new 25, 3) := by decide +kernel
theorem dX6_init_34 : decode cX6_init 34 = .ok (.dup, 1) := by decide +kernel
theorem dX6_init_35 : decode cX6_init 35 = .ok (.invokespecial 27, 3) := by decide +kernel
theorem dX6_init_38 : decode cX6_init 38 = .ok (.putfield 28, 3) := by decide +kernel
theorem dX6_init_41 : decode cX6_init 41 = .ok (.aload_n 0, 1) := by decide +kernel
theorem dX6_init_42 : decode cX6_init 42 = .ok (.new 32, 3) := by decide +kernel
theorem dX6_init_45 : decode cX6_init 45 = .ok (.dup, 1) := by decide +kernel
theorem dX6_init_46 : decode cX6_init 46 = .ok (.invokespecial 34, 3) := by decide +kernel
theorem dX6_init_49 : decode cX6_init 49 = .ok (.putfield 35, 3) := by decide +kernel
theorem dX6_init_52 : decode cX6_init 52 = .ok (.aload_n 0, 1) := by decide +kernel
theorem dX6_init_53 : decode cX6_init 53 = .ok (.new 32, 3) := by decide +kernel
theorem dX6_init_56 : decode cX6_init 56 = .ok (.dup, 1) := by decide +kernel
theorem dX6_init_57 : decode cX6_init 57 = .ok (.invokespecial 34, 3) := by decide +kernel
theorem dX6_init_60 : decode cX6_init 60 = .ok (.putfield 39, 3) := by decide +kernel
theorem dX6_init_63 : decode cX6_init 63 = .ok (.aload_n 0, 1) := by decide +kernel
theorem dX6_init_64 : decode cX6_init 64 = .ok (.new 42, 3) := by decide +kernel
theorem dX6_init_67 : decode cX6_init 67 = .ok (.dup, 1) := by decide +kernel
theorem dX6_init_68 : decode cX6_init 68 = .ok (.aload_n 0, 1) := by decide +kernel
theorem dX6_init_69 : decode cX6_init 69 = .ok (.getfield 35, 3) := by decide +kernel
theorem dX6_init_72 : decode cX6_init 72 = .ok (.invokespecial 44, 3) := by decide +kernel
theorem dX6_init_75 : decode cX6_init 75 = .ok (.putfield 47, 3) := by decide +kernel
theorem dX6_init_78 : decode cX6_init 78 = .ok (.return_, 1) := by decide +kernel
theorem dX6_feed_0 : decode cX6_feed 0 = .ok (.iload_n 1, 1) := by decide +kernel
theorem dX6_feed_1 : decode cX6_feed 1 = .ok (.invokestatic 51, 3) := by decide +kernel
theorem dX6_feed_4 : decode cX6_feed 4 = .ok (.iload_n 2, 1) := by decide +kernel
theorem dX6_feed_5 : decode cX6_feed 5 = .ok (.invokestatic 51, 3) := by decide +kernel
theorem dX6_feed_8 : decode cX6_feed 8 = .ok (.iadd, 1) := by decide +kernel
theorem dX6_feed_9 : decode cX6_feed 9 = .ok (.iload_n 3, 1) := by decide +kernel
theorem dX6_feed_10 : decode cX6_feed 10 = .ok (.invokestatic 51, 3) := by decide +kernel
theorem dX6_feed_13 : decode cX6_feed 13 = .ok (.iadd, 1) := by decide +kernel
theorem dX6_feed_14 : decode cX6_feed 14 = .ok (.iload 4, 2) := by decide +kernel
theorem dX6_feed_16 : decode cX6_feed 16 = .ok (.invokestatic 51, 3) := by decide +kernel
theorem dX6_feed_19 : decode cX6_feed 19 = .ok (.iadd, 1) := by decide +kernel
theorem dX6_feed_20 : decode cX6_feed 20 = .ok (.iload 5, 2) := by decide +kernel
theorem dX6_feed_22 : decode cX6_feed 22 = .ok (.invokestatic 51, 3) := by decide +kernel
theorem dX6_feed_25 : decode cX6_feed 25 = .ok (.iadd, 1) := by decide +kernel
theorem dX6_feed_26 : decode cX6_feed 26 = .ok (.istore 6, 2) := by decide +kernel
theorem dX6_feed_28 : decode cX6_feed 28 = .ok (.aload_n 0, 1) := by decide +kernel
theorem dX6_feed_29 : decode cX6_feed 29 = .ok (.getfield 12, 3) := by decide +kernel
theorem dX6_feed_32 : decode cX6_feed 32 = .ok (.invokevirtual 55, 3) := by decide +kernel
theorem dX6_feed_35 : decode cX6_feed 35 = .ok (.iload 6, 2) := by decide +kernel
theorem dX6_feed_37 : decode cX6_feed 37 = .ok (.iadd, 1) := by decide +kernel
theorem dX6_feed_38 : decode cX6_feed 38 = .ok (.sipush 400, 3) := by decide +kernel
theorem dX6_feed_41 : decode cX6_feed 41 = .ok (.if_icmp .le 5, 3) := by decide +kernel
theorem dX6_feed_44 : decode cX6_feed 44 = .ok (.iconst (-1), 1) := by decide +kernel
theorem dX6_feed_45 : decode cX6_feed 45 = .ok (.ireturn, 1) := by decide +kernel
theorem dX6_feed_46 : decode cX6_feed 46 = .ok (.aload_n 0, 1) := by decide +kernel
theorem dX6_feed_47 : decode cX6_feed 47 = .ok (.getfield 12, 3) := by decide +kernel
theorem dX6_feed_50 : decode cX6_feed 50 = .ok (.iload_n 1, 1) := by decide +kernel
theorem dX6_feed_51 : decode cX6_feed 51 = .ok (.invokevirtual 59, 3) := by decide +kernel
theorem dX6_feed_54 : decode cX6_feed 54 = .ok (.aload_n 0, 1) := by decide +kernel
theorem dX6_feed_55 : decode cX6_feed 55 = .ok (.getfield 12, 3) := by decide +kernel
theorem dX6_feed_58 : decode cX6_feed 58 = .ok (.iload_n 2, 1) := by decide +kernel
theorem dX6_feed_59 : decode cX6_feed 59 = .ok (.invokevirtual 59, 3) := by decide +kernel
theorem dX6_feed_62 : decode cX6_feed 62 = .ok (.aload_n 0, 1) := by decide +kernel
theorem dX6_feed_63 : decode cX6_feed 63 = .ok (.getfield 12, 3) := by decide +kernel
theorem dX6_feed_66 : decode cX6_feed 66 = .ok (.iload_n 3, 1) := by decide +kernel
theorem dX6_feed_67 : decode cX6_feed 67 = .ok (.invokevirtual 59, 3) := by decide +kernel
theorem dX6_feed_70 : decode cX6_feed 70 = .ok (.aload_n 0, 1) := by decide +kernel
theorem dX6_feed_71 : decode cX6_feed 71 = .ok (.getfield 12, 3) := by decide +kernel
theorem dX6_feed_74 : decode cX6_feed 74 = .ok (.iload 4, 2) := by decide +kernel
theorem dX6_feed_76 : decode cX6_feed 76 = .ok (.invokevirtual 59, 3) := by decide +kernel
theorem dX6_feed_79 : decode cX6_feed 79 = .ok (.aload_n 0, 1) := by decide +kernel
theorem dX6_feed_80 : decode cX6_feed 80 = .ok (.getfield 12, 3) := by decide +kernel
theorem dX6_feed_83 : decode cX6_feed 83 = .ok (.iload 5, 2) := by decide +kernel
theorem dX6_feed_85 : decode cX6_feed 85 = .ok (.invokevirtual 59, 3) := by decide +kernel
theorem dX6_feed_88 : decode cX6_feed 88 = .ok (.aload_n 0, 1) := by decide +kernel
theorem dX6_feed_89 : decode cX6_feed 89 = .ok (.getfield 12, 3) := by decide +kernel
theorem dX6_feed_92 : decode cX6_feed 92 = .ok (.invokevirtual 55, 3) := by decide +kernel
theorem dX6_feed_95 : decode cX6_feed 95 = .ok (.ireturn, 1) := by decide +kernel
theorem dX6_end_0 : decode cX6_end 0 = .ok (.aload_n 0, 1) := by decide +kernel
theorem dX6_end_1 : decode cX6_end 1 = .ok (.getfield 12, 3) := by decide +kernel
theorem dX6_end_4 : decode cX6_end 4 = .ok (.iload_n 1, 1) := by decide +kernel
theorem dX6_end_5 : decode cX6_end 5 = .ok (.invokevirtual 63, 3) := by decide +kernel
theorem dX6_end_8 : decode cX6_end 8 = .ok (.ireturn, 1) := by decide +kernel
theorem dX6_fault_0 : decode cX6_fault 0 = .ok (.aload_n 0, 1) := by decide +kernel
theorem dX6_fault_1 : decode cX6_fault 1 = .ok (.getfield 21, 3) := by decide +kernel
theorem dX6_fault_4 : decode cX6_fault 4 = .ok (.aload_n 0, 1) := by decide +kernel
theorem dX6_fault_5 : decode cX6_fault 5 = .ok (.getfield 39, 3) := by decide +kernel
theorem dX6_fault_8 : decode cX6_fault 8 = .ok (.invokevirtual 67, 3) := by decide +kernel
theorem dX6_fault_11 : decode cX6_fault 11 = .ok (.ireturn, 1) := by decide +kernel
theorem dX6_tale_0 : decode cX6_tale 0 = .ok (.aload_n 0, 1) := by decide +kernel
theorem dX6_tale_1 : decode cX6_tale 1 = .ok (.getfield 21, 3) := by decide +kernel
theorem dX6_tale_4 : decode cX6_tale 4 = .ok (.aload_n 0, 1) := by decide +kernel
theorem dX6_tale_5 : decode cX6_tale 5 = .ok (.getfield 39, 3) := by decide +kernel
theorem dX6_tale_8 : decode cX6_tale 8 = .ok (.invokevirtual 67, 3) := by decide +kernel
theorem dX6_tale_11 : decode cX6_tale 11 = .ok (.iconst (-1), 1) := by decide +kernel
theorem dX6_tale_12 : decode cX6_tale 12 = .ok (.if_icmp .eq 5, 3) := by decide +kernel
theorem dX6_tale_15 : decode cX6_tale 15 = .ok (.iconst 0, 1) := by decide +kernel
theorem dX6_tale_16 : decode cX6_tale 16 = .ok (.ireturn, 1) := by decide +kernel
theorem dX6_tale_17 : decode cX6_tale 17 = .ok (.aload_n 0, 1) := by decide +kernel
theorem dX6_tale_18 : decode cX6_tale 18 = .ok (.getfield 35, 3) := by decide +kernel
theorem dX6_tale_21 : decode cX6_tale 21 = .ok (.astore_n 1, 1) := by decide +kernel
theorem dX6_tale_22 : decode cX6_tale 22 = .ok (.aload_n 0, 1) := by decide +kernel
theorem dX6_tale_23 : decode cX6_tale 23 = .ok (.aload_n 0, 1) := by decide +kernel
theorem dX6_tale_24 : decode cX6_tale 24 = .ok (.getfield 39, 3) := by decide +kernel
theorem dX6_tale_27 : decode cX6_tale 27 = .ok (.putfield 35, 3) := by decide +kernel
theorem dX6_tale_30 : decode cX6_tale 30 = .ok (.aload_n 0, 1) := by decide +kernel
theorem dX6_tale_31 : decode cX6_tale 31 = .ok (.aload_n 1, 1) := by decide +kernel
theorem dX6_tale_32 : decode cX6_tale 32 = .ok (.putfield 39, 3) := by decide +kernel
theorem dX6_tale_35 : decode cX6_tale 35 = .ok (.aload_n 0, 1) := by decide +kernel
theorem dX6_tale_36 : decode cX6_tale 36 = .ok (.getfield 12, 3) := by decide +kernel
theorem dX6_tale_39 : decode cX6_tale 39 = .ok (.iconst 0, 1) := by decide +kernel
theorem dX6_tale_40 : decode cX6_tale 40 = .ok (.invokevirtual 63, 3) := by decide +kernel
theorem dX6_tale_43 : decode cX6_tale 43 = .ok (.pop, 1) := by decide +kernel
theorem dX6_tale_44 : decode cX6_tale 44 = .ok (.aload_n 0, 1) := by decide +kernel
theorem dX6_tale_45 : decode cX6_tale 45 = .ok (.getfield 28, 3) := by decide +kernel
theorem dX6_tale_48 : decode cX6_tale 48 = .ok (.invokevirtual 71, 3) := by decide +kernel
theorem dX6_tale_51 : decode cX6_tale 51 = .ok (.aload_n 0, 1) := by decide +kernel
theorem dX6_tale_52 : decode cX6_tale 52 = .ok (.getfield 47, 3) := by decide +kernel
theorem dX6_tale_55 : decode cX6_tale 55 = .ok (.aload_n 0, 1) := by decide +kernel
theorem dX6_tale_56 : decode cX6_tale 56 = .ok (.getfield 35, 3) := by decide +kernel
theorem dX6_tale_59 : decode cX6_tale 59 = .ok (.invokevirtual 74, 3) := by decide +kernel
theorem dX6_tale_62 : decode cX6_tale 62 = .ok (.iconst 1, 1) := by decide +kernel
theorem dX6_tale_63 : decode cX6_tale 63 = .ok (.ireturn, 1) := by decide +kernel
theorem dX6_sentences_0 : decode cX6_sentences 0 = .ok (.aload_n 0, 1) := by decide +kernel
theorem dX6_sentences_1 : decode cX6_sentences 1 = .ok (.getfield 35, 3) := by decide +kernel
theorem dX6_sentences_4 : decode cX6_sentences 4 = .ok (.invokevirtual 77, 3) := by decide +kernel
theorem dX6_sentences_7 : decode cX6_sentences 7 = .ok (.ireturn, 1) := by decide +kernel
theorem dX6_sentence_0 : decode cX6_sentence 0 = .ok (.aload_n 0, 1) := by decide +kernel
theorem dX6_sentence_1 : decode cX6_sentence 1 = .ok (.getfield 35, 3) := by decide +kernel
theorem dX6_sentence_4 : decode cX6_sentence 4 = .ok (.iload_n 1, 1) := by decide +kernel
theorem dX6_sentence_5 : decode cX6_sentence 5 = .ok (.invokevirtual 78, 3) := by decide +kernel
theorem dX6_sentence_8 : decode cX6_sentence 8 = .ok (.ifCond .eq 13, 3) := by decide +kernel
theorem dX6_sentence_11 : decode cX6_sentence 11 = .ok (.iload_n 2, 1) := by decide +kernel
theorem dX6_sentence_12 : decode cX6_sentence 12 = .ok (.ifCond .lt 9, 3) := by decide +kernel
theorem dX6_sentence_15 : decode cX6_sentence 15 = .ok (.iload_n 2, 1) := by decide +kernel
theorem dX6_sentence_16 : decode cX6_sentence 16 = .ok (.bipush 7, 2) := by decide +kernel
theorem dX6_sentence_18 : decode cX6_sentence 18 = .ok (.if_icmp .lt 11, 3) := by decide +kernel
theorem dX6_sentence_21 : decode cX6_sentence 21 = .ok (.new 81, 3) := by decide +kernel
theorem dX6_sentence_24 : decode cX6_sentence 24 = .ok (.dup, 1) := by decide +kernel
theorem dX6_sentence_25 : decode cX6_sentence 25 = .ok (.invokespecial 83, 3) := by decide +kernel
theorem dX6_sentence_28 : decode cX6_sentence 28 = .ok (.athrow, 1) := by decide +kernel
theorem dX6_sentence_29 : decode cX6_sentence 29 = .ok (.aload_n 0, 1) := by decide +kernel
theorem dX6_sentence_30 : decode cX6_sentence 30 = .ok (.getfield 35, 3) := by decide +kernel
theorem dX6_sentence_33 : decode cX6_sentence 33 = .ok (.iload_n 1, 1) := by decide +kernel
theorem dX6_sentence_34 : decode cX6_sentence 34 = .ok (.iload_n 2, 1) := by decide +kernel
theorem dX6_sentence_35 : decode cX6_sentence 35 = .ok (.invokevirtual 84, 3) := by decide +kernel
theorem dX6_sentence_38 : decode cX6_sentence 38 = .ok (.ireturn, 1) := by decide +kernel
theorem dX6_question_0 : decode cX6_question 0 = .ok (.aload_n 0, 1) := by decide +kernel
theorem dX6_question_1 : decode cX6_question 1 = .ok (.getfield 35, 3) := by decide +kernel
theorem dX6_question_4 : decode cX6_question 4 = .ok (.iload_n 1, 1) := by decide +kernel
theorem dX6_question_5 : decode cX6_question 5 = .ok (.invokevirtual 88, 3) := by decide +kernel
theorem dX6_question_8 : decode cX6_question 8 = .ok (.ireturn, 1) := by decide +kernel
theorem dX6_quarrel_0 : decode cX6_quarrel 0 = .ok (.aload_n 0, 1) := by decide +kernel
theorem dX6_quarrel_1 : decode cX6_quarrel 1 = .ok (.getfield 47, 3) := by decide +kernel
theorem dX6_quarrel_4 : decode cX6_quarrel 4 = .ok (.invokevirtual 91, 3) := by decide +kernel
theorem dX6_quarrel_7 : decode cX6_quarrel 7 = .ok (.ireturn, 1) := by decide +kernel
theorem dX6_answer_0 : decode cX6_answer 0 = .ok (.aload_n 0, 1) := by decide +kernel
theorem dX6_answer_1 : decode cX6_answer 1 = .ok (.getfield 47, 3) := by decide +kernel
theorem dX6_answer_4 : decode cX6_answer 4 = .ok (.iload_n 1, 1) := by decide +kernel
theorem dX6_answer_5 : decode cX6_answer 5 = .ok (.invokevirtual 94, 3) := by decide +kernel
theorem dX6_answer_8 : decode cX6_answer 8 = .ok (.lreturn, 1) := by decide +kernel
theorem dX6_amount_0 : decode cX6_amount 0 = .ok (.aload_n 0, 1) := by decide +kernel
theorem dX6_amount_1 : decode cX6_amount 1 = .ok (.getfield 47, 3) := by decide +kernel
theorem dX6_amount_4 : decode cX6_amount 4 = .ok (.iload_n 1, 1) := by decide +kernel
theorem dX6_amount_5 : decode cX6_amount 5 = .ok (.iload_n 2, 1) := by decide +kernel
theorem dX6_amount_6 : decode cX6_amount 6 = .ok (.iload_n 3, 1) := by decide +kernel
theorem dX6_amount_7 : decode cX6_amount 7 = .ok (.iload 4, 2) := by decide +kernel
theorem dX6_amount_9 : decode cX6_amount 9 = .ok (.invokevirtual 98, 3) := by decide +kernel
theorem dX6_amount_12 : decode cX6_amount 12 = .ok (.lreturn, 1) := by decide +kernel
theorem dX6_idle_0 : decode cX6_idle 0 = .ok (.aload_n 0, 1) := by decide +kernel
theorem dX6_idle_1 : decode cX6_idle 1 = .ok (.getfield 47, 3) := by decide +kernel
theorem dX6_idle_4 : decode cX6_idle 4 = .ok (.invokevirtual 102, 3) := by decide +kernel
theorem dX6_idle_7 : decode cX6_idle 7 = .ok (.ireturn, 1) := by decide +kernel
theorem dX6_enough_0 : decode cX6_enough 0 = .ok (.aload_n 0, 1) := by decide +kernel
theorem dX6_enough_1 : decode cX6_enough 1 = .ok (.getfield 47, 3) := by decide +kernel
theorem dX6_enough_4 : decode cX6_enough 4 = .ok (.invokevirtual 105, 3) := by decide +kernel
theorem dX6_enough_7 : decode cX6_enough 7 = .ok (.ireturn, 1) := by decide +kernel
theorem dX6_lacking_0 : decode cX6_lacking 0 = .ok (.aload_n 0, 1) := by decide +kernel
theorem dX6_lacking_1 : decode cX6_lacking 1 = .ok (.getfield 47, 3) := by decide +kernel
theorem dX6_lacking_4 : decode cX6_lacking 4 = .ok (.invokevirtual 108, 3) := by decide +kernel
theorem dX6_lacking_7 : decode cX6_lacking 7 = .ok (.ireturn, 1) := by decide +kernel
theorem dX6_strange_0 : decode cX6_strange 0 = .ok (.aload_n 0, 1) := by decide +kernel
theorem dX6_strange_1 : decode cX6_strange 1 = .ok (.getfield 47, 3) := by decide +kernel
theorem dX6_strange_4 : decode cX6_strange 4 = .ok (.iload_n 1, 1) := by decide +kernel
theorem dX6_strange_5 : decode cX6_strange 5 = .ok (.invokevirtual 111, 3) := by decide +kernel
theorem dX6_strange_8 : decode cX6_strange 8 = .ok (.ireturn, 1) := by decide +kernel
theorem dX6_put_0 : decode cX6_put 0 = .ok (.aload_n 0, 1) := by decide +kernel
theorem dX6_put_1 : decode cX6_put 1 = .ok (.getfield 35, 3) := by decide +kernel
theorem dX6_put_4 : decode cX6_put 4 = .ok (.iload_n 1, 1) := by decide +kernel
theorem dX6_put_5 : decode cX6_put 5 = .ok (.iload_n 2, 1) := by decide +kernel
theorem dX6_put_6 : decode cX6_put 6 = .ok (.invokevirtual 114, 3) := by decide +kernel
theorem dX6_put_9 : decode cX6_put 9 = .ok (.ifCond .ne 5, 3) := by decide +kernel
theorem dX6_put_12 : decode cX6_put 12 = .ok (.iconst 0, 1) := by decide +kernel
theorem dX6_put_13 : decode cX6_put 13 = .ok (.ireturn, 1) := by decide +kernel
theorem dX6_put_14 : decode cX6_put 14 = .ok (.aload_n 0, 1) := by decide +kernel
theorem dX6_put_15 : decode cX6_put 15 = .ok (.getfield 28, 3) := by decide +kernel
theorem dX6_put_18 : decode cX6_put 18 = .ok (.iload_n 1, 1) := by decide +kernel
theorem dX6_put_19 : decode cX6_put 19 = .ok (.aload_n 0, 1) := by decide +kernel
theorem dX6_put_20 : decode cX6_put 20 = .ok (.getfield 35, 3) := by decide +kernel
theorem dX6_put_23 : decode cX6_put 23 = .ok (.iload_n 1, 1) := by decide +kernel
theorem dX6_put_24 : decode cX6_put 24 = .ok (.iconst 4, 1) := by decide +kernel
theorem dX6_put_25 : decode cX6_put 25 = .ok (.invokevirtual 84, 3) := by decide +kernel
theorem dX6_put_28 : decode cX6_put 28 = .ok (.invokevirtual 118, 3) := by decide +kernel
theorem dX6_put_31 : decode cX6_put 31 = .ok (.aload_n 0, 1) := by decide +kernel
theorem dX6_put_32 : decode cX6_put 32 = .ok (.getfield 35, 3) := by decide +kernel
theorem dX6_put_35 : decode cX6_put 35 = .ok (.iload_n 1, 1) := by decide +kernel
theorem dX6_put_36 : decode cX6_put 36 = .ok (.iload_n 2, 1) := by decide +kernel
theorem dX6_put_37 : decode cX6_put 37 = .ok (.invokevirtual 122, 3) := by decide +kernel
theorem dX6_put_40 : decode cX6_put 40 = .ok (.aload_n 0, 1) := by decide +kernel
theorem dX6_put_41 : decode cX6_put 41 = .ok (.getfield 47, 3) := by decide +kernel
theorem dX6_put_44 : decode cX6_put 44 = .ok (.invokevirtual 125, 3) := by decide +kernel
theorem dX6_put_47 : decode cX6_put 47 = .ok (.iconst 1, 1) := by decide +kernel
theorem dX6_put_48 : decode cX6_put 48 = .ok (.ireturn, 1) := by decide +kernel
theorem dX6_undo_0 : decode cX6_undo 0 = .ok (.aload_n 0, 1) := by decide +kernel
theorem dX6_undo_1 : decode cX6_undo 1 = .ok (.getfield 28, 3) := by decide +kernel
theorem dX6_undo_4 : decode cX6_undo 4 = .ok (.invokevirtual 128, 3) := by decide +kernel
theorem dX6_undo_7 : decode cX6_undo 7 = .ok (.ifCond .ne 5, 3) := by decide +kernel
theorem dX6_undo_10 : decode cX6_undo 10 = .ok (.iconst (-1), 1) := by decide +kernel
theorem dX6_undo_11 : decode cX6_undo 11 = .ok (.ireturn, 1) := by decide +kernel
theorem dX6_undo_12 : decode cX6_undo 12 = .ok (.aload_n 0, 1) := by decide +kernel
theorem dX6_undo_13 : decode cX6_undo 13 = .ok (.getfield 28, 3) := by decide +kernel
theorem dX6_undo_16 : decode cX6_undo 16 = .ok (.invokevirtual 129, 3) := by decide +kernel
theorem dX6_undo_19 : decode cX6_undo 19 = .ok (.istore_n 1, 1) := by decide +kernel
theorem dX6_undo_20 : decode cX6_undo 20 = .ok (.aload_n 0, 1) := by decide +kernel
theorem dX6_undo_21 : decode cX6_undo 21 = .ok (.getfield 35, 3) := by decide +kernel
theorem dX6_undo_24 : decode cX6_undo 24 = .ok (.iload_n 1, 1) := by decide +kernel
theorem dX6_undo_25 : decode cX6_undo 25 = .ok (.aload_n 0, 1) := by decide +kernel
theorem dX6_undo_26 : decode cX6_undo 26 = .ok (.getfield 28, 3) := by decide +kernel
theorem dX6_undo_29 : decode cX6_undo 29 = .ok (.invokevirtual 132, 3) := by decide +kernel
theorem dX6_undo_32 : decode cX6_undo 32 = .ok (.invokevirtual 122, 3) := by decide +kernel
theorem dX6_undo_35 : decode cX6_undo 35 = .ok (.aload_n 0, 1) := by decide +kernel
theorem dX6_undo_36 : decode cX6_undo 36 = .ok (.getfield 28, 3) := by decide +kernel
theorem dX6_undo_39 : decode cX6_undo 39 = .ok (.invokevirtual 135, 3) := by decide +kernel
theorem dX6_undo_42 : decode cX6_undo 42 = .ok (.aload_n 0, 1) := by decide +kernel
theorem dX6_undo_43 : decode cX6_undo 43 = .ok (.getfield 47, 3) := by decide +kernel
theorem dX6_undo_46 : decode cX6_undo 46 = .ok (.invokevirtual 125, 3) := by decide +kernel
theorem dX6_undo_49 : decode cX6_undo 49 = .ok (.iload_n 1, 1) := by decide +kernel
theorem dX6_undo_50 : decode cX6_undo 50 = .ok (.ireturn, 1) := by decide +kernel
theorem dX6_count_0 : decode cX6_count 0 = .ok (.iload_n 1, 1) := by decide +kernel
theorem dX6_count_1 : decode cX6_count 1 = .ok (.tableswitch 78 0 4 #[35, 43, 54, 62, 70], 35) := by decide +kernel
theorem dX6_count_36 : decode cX6_count 36 = .ok (.aload_n 0, 1) := by decide +kernel
theorem dX6_count_37 : decode cX6_count 37 = .ok (.getfield 12, 3) := by decide +kernel
theorem dX6_count_40 : decode cX6_count 40 = .ok (.invokevirtual 55, 3) := by decide +kernel
theorem dX6_count_43 : decode cX6_count 43 = .ok (.ireturn, 1) := by decide +kernel
theorem dX6_count_44 : decode cX6_count 44 = .ok (.aload_n 0, 1) := by decide +kernel
theorem dX6_count_45 : decode cX6_count 45 = .ok (.getfield 35, 3) := by decide +kernel
theorem dX6_count_48 : decode cX6_count 48 = .ok (.invokevirtual 138, 3) := by decide +kernel
theorem dX6_count_51 : decode cX6_count 51 = .ok (.invokestatic 141, 3) := by decide +kernel
theorem dX6_count_54 : decode cX6_count 54 = .ok (.ireturn, 1) := by decide +kernel
theorem dX6_count_55 : decode cX6_count 55 = .ok (.aload_n 0, 1) := by decide +kernel
theorem dX6_count_56 : decode cX6_count 56 = .ok (.getfield 35, 3) := by decide +kernel
theorem dX6_count_59 : decode cX6_count 59 = .ok (.invokevirtual 146, 3) := by decide +kernel
theorem dX6_count_62 : decode cX6_count 62 = .ok (.ireturn, 1) := by decide +kernel
theorem dX6_count_63 : decode cX6_count 63 = .ok (.aload_n 0, 1) := by decide +kernel
theorem dX6_count_64 : decode cX6_count 64 = .ok (.getfield 47, 3) := by decide +kernel
theorem dX6_count_67 : decode cX6_count 67 = .ok (.invokevirtual 149, 3) := by decide +kernel
theorem dX6_count_70 : decode cX6_count 70 = .ok (.ireturn, 1) := by decide +kernel
theorem dX6_count_71 : decode cX6_count 71 = .ok (.aload_n 0, 1) := by decide +kernel
theorem dX6_count_72 : decode cX6_count 72 = .ok (.getfield 28, 3) := by decide +kernel
theorem dX6_count_75 : decode cX6_count 75 = .ok (.invokevirtual 128, 3) := by decide +kernel
theorem dX6_count_78 : decode cX6_count 78 = .ok (.ireturn, 1) := by decide +kernel
theorem dX6_count_79 : decode cX6_count 79 = .ok (.iconst (-1), 1) := by decide +kernel
theorem dX6_count_80 : decode cX6_count 80 = .ok (.ireturn, 1) := by decide +kernel
