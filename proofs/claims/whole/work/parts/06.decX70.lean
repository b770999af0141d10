theorem dX7_init_0 : decode cX7_init 0 = .ok (.aload_n 0, 1) := by decide +kernel
theorem dX7_init_1 : decode cX7_init 1 = .ok (.invokespecial 3, 3) := by decide +kernel
theorem dX7_init_4 : decode cX7_init 4 = .ok (.aload_n 0, 1) := by decide +kernel
theorem dX7_init_5 : decode cX7_init 5 = .ok (.sipush 400, 3) := by decide +kernel
theorem dX7_init_8 : decode cX7_init 8 = .ok (.newarray .byte, 2) := by decide +kernel
theorem dX7_init_10 : decode cX7_init 10 = .ok (.putfield 9, 3) := by decide +kernel
theorem dX7_init_13 : decode cX7_init 13 = .ok (.aload_n 0, 1) := by decide +kernel
theorem dX7_init_14 : decode cX7_init 14 = .ok (.bipush 70, 2) := by decide +kernel
theorem dX7_init_16 : decode cX7_init 16 = .ok (.newarray .int, 2) := by decide +kernel
theorem dX7_init_18 : decode cX7_init 18 = .ok (.putfield 13, 3) := by decide +kernel
theorem dX7_init_21 : decode cX7_init 21 = .ok (.aload_n 0, 1) := by decide +kernel
theorem dX7_init_22 : decode cX7_init 22 = .ok (.bipush 70, 2) := by decide +kernel
theorem dX7_init_24 : decode cX7_init 24 = .ok (.newarray .int, 2) := by decide +kernel
theorem dX7_init_26 : decode cX7_init 26 = .ok (.putfield 17, 3) := by decide +kernel
theorem dX7_init_29 : decode cX7_init 29 = .ok (.aload_n 0, 1) := by decide +kernel
theorem dX7_init_30 : decode cX7_init 30 = .ok (.iconst 5, 1) := by decide +kernel
theorem dX7_init_31 : decode cX7_init 31 = .ok (.newarray .int, 2) := by decide +kernel
theorem dX7_init_33 : decode cX7_init 33 = .ok (.putfield 20, 3) := by decide +kernel
theorem dX7_init_36 : decode cX7_init 36 = .ok (.aload_n 0, 1) := by decide +kernel
theorem dX7_init_37 : decode cX7_init 37 = .ok (.iconst 5, 1) := by decide +kernel
theorem dX7_init_38 : decode cX7_init 38 = .ok (.newarray .int, 2) := by decide +kernel
theorem dX7_init_40 : decode cX7_init 40 = .ok (.putfield 23, 3) := by decide +kernel
theorem dX7_init_43 : decode cX7_init 43 = .ok (.aload_n 0, 1) := by decide +kernel
theorem dX7_init_44 : decode cX7_init 44 = .ok (.bipush 50, 2) := by decide +kernel
theorem dX7_init_46 : decode cX7_init 46 = .ok (.newarray .int, 2) := by decide +kernel
theorem dX7_init_48 : decode cX7_init 48 = .ok (.putfield 26, 3) := by decide +kernel
theorem dX7_init_51 : decode cX7_init 51 = .ok (.aload_n 0, 1) := by decide +kernel
theorem dX7_init_52 : decode cX7_init 52 = .ok (.bipush 50, 2) := by decide +kernel
theorem dX7_init_54 : decode cX7_init 54 = .ok (.newarray .int, 2) := by decide +kernel
theorem dX7_init_56 : decode cX7_init 56 = .ok (.putfield 29, 3) := by decide +kernel
theorem dX7_init_59 : decode cX7_init 59 = .ok (.aload_n 0, 1) := by decide +kernel
theorem dX7_init_60 : decode cX7_init 60 = .ok (.bipush 72, 2) := by decide +kernel
theorem dX7_init_62 : decode cX7_init 62 = .ok (.newarray .long, 2) := by decide +kernel
theorem dX7_init_64 : decode cX7_init 64 = .ok (.putfield 32, 3) := by decide +kernel
theorem dX7_init_67 : decode cX7_init 67 = .ok (.aload_n 0, 1) := by decide +kernel
theorem dX7_init_68 : decode cX7_init 68 = .ok (.bipush 9, 2) := by decide +kernel
theorem dX7_init_70 : decode cX7_init 70 = .ok (.newarray .long, 2) := by decide +kernel
theorem dX7_init_72 : decode cX7_init 72 = .ok (.putfield 36, 3) := by decide +kernel
theorem dX7_init_75 : decode cX7_init 75 = .ok (.aload_n 0, 1) := by decide +kernel
theorem dX7_init_76 : decode cX7_init 76 = .ok (.bipush 8, 2) := by decide +kernel
theorem dX7_init_78 : decode cX7_init 78 = .ok (.newarray .int, 2) := by decide +kernel
theorem dX7_init_80 : decode cX7_init 80 = .ok (.putfield 39, 3) := by decide +kernel
theorem dX7_init_83 : decode cX7_init 83 = .ok (.return_, 1) := by decide +kernel
theorem dX7_thrown_0 : decode cX7_thrown 0 = .ok (.aload_n 0, 1) := by decide +kernel
theorem dX7_thrown_1 : decode cX7_thrown 1 = .ok (.getfield 42, 3) := by decide +kernel
theorem dX7_thrown_4 : decode cX7_thrown 4 = .ok (.ireturn, 1) := by decide +kernel
theorem dX7_isIn_0 : decode cX7_isIn 0 = .ok (.iload_n 0, 1) := by decide +kernel
theorem dX7_isIn_1 : decode cX7_isIn 1 = .ok (.iload_n 1, 1) := by decide +kernel
theorem dX7_isIn_2 : decode cX7_isIn 2 = .ok (.if_icmp .lt 12, 3) := by decide +kernel
theorem dX7_isIn_5 : decode cX7_isIn 5 = .ok (.iload_n 0, 1) := by decide +kernel
theorem dX7_isIn_6 : decode cX7_isIn 6 = .ok (.iload_n 2, 1) := by decide +kernel
theorem dX7_isIn_7 : decode cX7_isIn 7 = .ok (.if_icmp .gt 7, 3) := by decide +kernel
theorem dX7_isIn_10 : decode cX7_isIn 10 = .ok (.iconst 1, 1) := by decide +kernel
theorem dX7_isIn_11 : decode cX7_isIn 11 = .ok (.goto 4, 3) := by decide +kernel
theorem dX7_isIn_14 : decode cX7_isIn 14 = .ok (.iconst 0, 1) := by decide +kernel
theorem dX7_isIn_15 : decode cX7_isIn 15 = .ok (.ireturn, 1) := by decide +kernel
theorem dX7_bytesIn_0 : decode cX7_bytesIn 0 = .ok (.iconst 0, 1) := by decide +kernel
theorem dX7_bytesIn_1 : decode cX7_bytesIn 1 = .ok (.istore_n 1, 1) := by decide +kernel
theorem dX7_bytesIn_2 : decode cX7_bytesIn 2 = .ok (.bipush 24, 2) := by decide +kernel
theorem dX7_bytesIn_4 : decode cX7_bytesIn 4 = .ok (.istore_n 2, 1) := by decide +kernel
theorem dX7_bytesIn_5 : decode cX7_bytesIn 5 = .ok (.iload_n 2, 1) := by decide +kernel
theorem dX7_bytesIn_6 : decode cX7_bytesIn 6 = .ok (.ifCond .lt 27, 3) := by decide +kernel
theorem dX7_bytesIn_9 : decode cX7_bytesIn 9 = .ok (.iload_n 1, 1) := by decide +kernel
theorem dX7_bytesIn_10 : decode cX7_bytesIn 10 = .ok (.iload_n 0, 1) := by decide +kernel
theorem dX7_bytesIn_11 : decode cX7_bytesIn 11 = .ok (.iload_n 2, 1) := by decide +kernel
theorem dX7_bytesIn_12 : decode cX7_bytesIn 12 = .ok (.ishr, 1) := by decide +kernel
theorem dX7_bytesIn_13 : decode cX7_bytesIn 13 = .ok (.sipush 255, 3) := by decide +kernel
theorem dX7_bytesIn_16 : decode cX7_bytesIn 16 = .ok (.iand, 1) := by decide +kernel
theorem dX7_bytesIn_17 : decode cX7_bytesIn 17 = .ok (.ifCond .eq 7, 3) := by decide +kernel
theorem dX7_bytesIn_20 : decode cX7_bytesIn 20 = .ok (.iconst 1, 1) := by decide +kernel
theorem dX7_bytesIn_21 : decode cX7_bytesIn 21 = .ok (.goto 4, 3) := by decide +kernel
theorem dX7_bytesIn_24 : decode cX7_bytesIn 24 = .ok (.iconst 0, 1) := by decide +kernel
theorem dX7_bytesIn_25 : decode cX7_bytesIn 25 = .ok (.iadd, 1) := by decide +kernel
theorem dX7_bytesIn_26 : decode cX7_bytesIn 26 = .ok (.istore_n 1, 1) := by decide +kernel
theorem dX7_bytesIn_27 : decode cX7_bytesIn 27 = .ok (.iinc 2 (-8), 3) := by decide +kernel
theorem dX7_bytesIn_30 : decode cX7_bytesIn 30 = .ok (.goto (-25), 3) := by decide +kernel
theorem dX7_bytesIn_33 : decode cX7_bytesIn 33 = .ok (.iload_n 1, 1) := by decide +kernel
theorem dX7_bytesIn_34 : decode cX7_bytesIn 34 = .ok (.ireturn, 1) := by decide +kernel
theorem dX7_put4_0 : decode cX7_put4 0 = .ok (.bipush 24, 2) := by decide +kernel
theorem dX7_put4_2 : decode cX7_put4 2 = .ok (.istore_n 2, 1) := by decide +kernel
theorem dX7_put4_3 : decode cX7_put4 3 = .ok (.iload_n 2, 1) := by decide +kernel
theorem dX7_put4_4 : decode cX7_put4 4 = .ok (.ifCond .lt 45, 3) := by decide +kernel
theorem dX7_put4_7 : decode cX7_put4 7 = .ok (.iload_n 1, 1) := by decide +kernel
theorem dX7_put4_8 : decode cX7_put4 8 = .ok (.iload_n 2, 1) := by decide +kernel
theorem dX7_put4_9 : decode cX7_put4 9 = .ok (.ishr, 1) := by decide +kernel
theorem dX7_put4_10 : decode cX7_put4 10 = .ok (.sipush 255, 3) := by decide +kernel
theorem dX7_put4_13 : decode cX7_put4 13 = .ok (.iand, 1) := by decide +kernel
theorem dX7_put4_14 : decode cX7_put4 14 = .ok (.ifCond .ne 6, 3) := by decide +kernel
theorem dX7_put4_17 : decode cX7_put4 17 = .ok (.goto 26, 3) := by decide +kernel
theorem dX7_put4_20 : decode cX7_put4 20 = .ok (.aload_n 0, 1) := by decide +kernel
theorem dX7_put4_21 : decode cX7_put4 21 = .ok (.getfield 9, 3) := by decide +kernel
theorem dX7_put4_24 : decode cX7_put4 24 = .ok (.aload_n 0, 1) := by decide +kernel
theorem dX7_put4_25 : decode cX7_put4 25 = .ok (.getfield 46, 3) := by decide +kernel
theorem dX7_put4_28 : decode cX7_put4 28 = .ok (.iload_n 1, 1) := by decide +kernel
theorem dX7_put4_29 : decode cX7_put4 29 = .ok (.iload_n 2, 1) := by decide +kernel
theorem dX7_put4_30 : decode cX7_put4 30 = .ok (.ishr, 1) := by decide +kernel
theorem dX7_put4_31 : decode cX7_put4 31 = .ok (.i2b, 1) := by decide +kernel
theorem dX7_put4_32 : decode cX7_put4 32 = .ok (.bastore, 1) := by decide +kernel
theorem dX7_put4_33 : decode cX7_put4 33 = .ok (.aload_n 0, 1) := by decide +kernel
theorem dX7_put4_34 : decode cX7_put4 34 = .ok (.dup, 1) := by decide +kernel
theorem dX7_put4_35 : decode cX7_put4 35 = .ok (.getfield 46, 3) := by decide +kernel
theorem dX7_put4_38 : decode cX7_put4 38 = .ok (.iconst 1, 1) := by decide +kernel
theorem dX7_put4_39 : decode cX7_put4 39 = .ok (.iadd, 1) := by decide +kernel
theorem dX7_put4_40 : decode cX7_put4 40 = .ok (.putfield 46, 3) := by decide +kernel
theorem dX7_put4_43 : decode cX7_put4 43 = .ok (.iinc 2 (-8), 3) := by decide +kernel
theorem dX7_put4_46 : decode cX7_put4 46 = .ok (.goto (-43), 3) := by decide +kernel
theorem dX7_put4_49 : decode cX7_put4 49 = .ok (.return_, 1) := by decide +kernel
theorem dX7_feed_0 : decode cX7_feed 0 = .ok (.aload_n 0, 1) := by decide +kernel
theorem dX7_feed_1 : decode cX7_feed 1 = .ok (.iconst 0, 1) := by decide +kernel
theorem dX7_feed_2 : decode cX7_feed 2 = .ok (.putfield 42, 3) := by decide +kernel
theorem dX7_feed_5 : decode cX7_feed 5 = .ok (.aload_n 0, 1) := by decide +kernel
theorem dX7_feed_6 : decode cX7_feed 6 = .ok (.getfield 46, 3) := by decide +kernel
theorem dX7_feed_9 : decode cX7_feed 9 = .ok (.iload_n 1, 1) := by decide +kernel
theorem dX7_feed_10 : decode cX7_feed 10 = .ok (.invokestatic 49, 3) := by decide +kernel
theorem dX7_feed_13 : decode cX7_feed 13 = .ok (.iadd, 1) := by decide +kernel
theorem dX7_feed_14 : decode cX7_feed 14 = .ok (.iload_n 2, 1) := by decide +kernel
theorem dX7_feed_15 : decode cX7_feed 15 = .ok (.invokestatic 49, 3) := by decide +kernel
theorem dX7_feed_18 : decode cX7_feed 18 = .ok (.iadd, 1) := by decide +kernel
theorem dX7_feed_19 : decode cX7_feed 19 = .ok (.iload_n 3, 1) := by decide +kernel
theorem dX7_feed_20 : decode cX7_feed 20 = .ok (.invokestatic 49, 3) := by decide +kernel
theorem dX7_feed_23 : decode cX7_feed 23 = .ok (.iadd, 1) := by decide +kernel
theorem dX7_feed_24 : decode cX7_feed 24 = .ok (.iload 4, 2) := by decide +kernel
theorem dX7_feed_26 : decode cX7_feed 26 = .ok (.invokestatic 49, 3) := by decide +kernel
theorem dX7_feed_29 : decode cX7_feed 29 = .ok (.iadd, 1) := by decide +kernel
theorem dX7_feed_30 : decode cX7_feed 30 = .ok (.iload 5, 2) := by decide +kernel
theorem dX7_feed_32 : decode cX7_feed 32 = .ok (.invokestatic 49, 3) := by decide +kernel
theorem dX7_feed_35 : decode cX7_feed 35 = .ok (.iadd, 1) := by decide +kernel
theorem dX7_feed_36 : decode cX7_feed 36 = .ok (.sipush 400, 3) := by decide +kernel
theorem dX7_feed_39 : decode cX7_feed 39 = .ok (.if_icmp .le 5, 3) := by decide +kernel
theorem dX7_feed_42 : decode cX7_feed 42 = .ok (.iconst (-1), 1) := by decide +kernel
theorem dX7_feed_43 : decode cX7_feed 43 = .ok (.ireturn, 1) := by decide +kernel
theorem dX7_feed_44 : decode cX7_feed 44 = .ok (.aload_n 0, 1) := by decide +kernel
theorem dX7_feed_45 : decode cX7_feed 45 = .ok (.iload_n 1, 1) := by decide +kernel
theorem dX7_feed_46 : decode cX7_feed 46 = .ok (.invokevirtual 53, 3) := by decide +kernel
theorem dX7_feed_49 : decode cX7_feed 49 = .ok (.aload_n 0, 1) := by decide +kernel
theorem dX7_feed_50 : decode cX7_feed 50 = .ok (.iload_n 2, 1) := by decide +kernel
theorem dX7_feed_51 : decode cX7_feed 51 = .ok (.invokevirtual 53, 3) := by decide +kernel
theorem dX7_feed_54 : decode cX7_feed 54 = .ok (.aload_n 0, 1) := by decide +kernel
theorem dX7_feed_55 : decode cX7_feed 55 = .ok (.iload_n 3, 1) := by decide +kernel
theorem dX7_feed_56 : decode cX7_feed 56 = .ok (.invokevirtual 53, 3) := by decide +kernel
theorem dX7_feed_59 : decode cX7_feed 59 = .ok (.aload_n 0, 1) := by decide +kernel
theorem dX7_feed_60 : decode cX7_feed 60 = .ok (.iload 4, 2) := by decide +kernel
theorem dX7_feed_62 : decode cX7_feed 62 = .ok (.invokevirtual 53, 3) := by decide +kernel
theorem dX7_feed_65 : decode cX7_feed 65 = .ok (.aload_n 0, 1) := by decide +kernel
theorem dX7_feed_66 : decode cX7_feed 66 = .ok (.iload 5, 2) := by decide +kernel
theorem dX7_feed_68 : decode cX7_feed 68 = .ok (.invokevirtual 53, 3) := by decide +kernel
theorem dX7_feed_71 : decode cX7_feed 71 = .ok (.aload_n 0, 1) := by decide +kernel
theorem dX7_feed_72 : decode cX7_feed 72 = .ok (.getfield 46, 3) := by decide +kernel
theorem dX7_feed_75 : decode cX7_feed 75 = .ok (.ireturn, 1) := by decide +kernel
theorem dX7_end_0 : decode cX7_end 0 = .ok (.aload_n 0, 1) := by decide +kernel
theorem dX7_end_1 : decode cX7_end 1 = .ok (.iconst 0, 1) := by decide +kernel
theorem dX7_end_2 : decode cX7_end 2 = .ok (.putfield 42, 3) := by decide +kernel
theorem dX7_end_5 : decode cX7_end 5 = .ok (.iload_n 1, 1) := by decide +kernel
theorem dX7_end_6 : decode cX7_end 6 = .ok (.ifCond .lt 11, 3) := by decide +kernel
theorem dX7_end_9 : decode cX7_end 9 = .ok (.iload_n 1, 1) := by decide +kernel
theorem dX7_end_10 : decode cX7_end 10 = .ok (.aload_n 0, 1) := by decide +kernel
theorem dX7_end_11 : decode cX7_end 11 = .ok (.getfield 46, 3) := by decide +kernel
theorem dX7_end_14 : decode cX7_end 14 = .ok (.if_icmp .le 5, 3) := by decide +kernel
theorem dX7_end_17 : decode cX7_end 17 = .ok (.iconst 0, 1) := by decide +kernel
theorem dX7_end_18 : decode cX7_end 18 = .ok (.ireturn, 1) := by decide +kernel
theorem dX7_end_19 : decode cX7_end 19 = .ok (.aload_n 0, 1) := by decide +kernel
theorem dX7_end_20 : decode cX7_end 20 = .ok (.iload_n 1, 1) := by decide +kernel
theorem dX7_end_21 : decode cX7_end 21 = .ok (.putfield 46, 3) := by decide +kernel
theorem dX7_end_24 : decode cX7_end 24 = .ok (.iconst 1, 1) := by decide +kernel
theorem dX7_end_25 : decode cX7_end 25 = .ok (.ireturn, 1) := by decide +kernel
theorem dX7_isSmall_0 : decode cX7_isSmall 0 = .ok (.iload_n 0, 1) := by decide +kernel
theorem dX7_isSmall_1 : decode cX7_isSmall 1 = .ok (.bipush 97, 2) := by decide +kernel
theorem dX7_isSmall_3 : decode cX7_isSmall 3 = .ok (.if_icmp .lt 13, 3) := by decide +kernel
theorem dX7_isSmall_6 : decode cX7_isSmall 6 = .ok (.iload_n 0, 1) := by decide +kernel
theorem dX7_isSmall_7 : decode cX7_isSmall 7 = .ok (.bipush 122, 2) := by decide +kernel
theorem dX7_isSmall_9 : decode cX7_isSmall 9 = .ok (.if_icmp .gt 7, 3) := by decide +kernel
theorem dX7_isSmall_12 : decode cX7_isSmall 12 = .ok (.iconst 1, 1) := by decide +kernel
theorem dX7_isSmall_13 : decode cX7_isSmall 13 = .ok (.goto 4, 3) := by decide +kernel
theorem dX7_isSmall_16 : decode cX7_isSmall 16 = .ok (.iconst 0, 1) := by decide +kernel
theorem dX7_isSmall_17 : decode cX7_isSmall 17 = .ok (.ireturn, 1) := by decide +kernel
theorem dX7_isDigit_0 : decode cX7_isDigit 0 = .ok (.iload_n 0, 1) := by decide +kernel
theorem dX7_isDigit_1 : decode cX7_isDigit 1 = .ok (.bipush 48, 2) := by decide +kernel
theorem dX7_isDigit_3 : decode cX7_isDigit 3 = .ok (.if_icmp .lt 13, 3) := by decide +kernel
theorem dX7_isDigit_6 : decode cX7_isDigit 6 = .ok (.iload_n 0, 1) := by decide +kernel
theorem dX7_isDigit_7 : decode cX7_isDigit 7 = .ok (.bipush 57, 2) := by decide +kernel
theorem dX7_isDigit_9 : decode cX7_isDigit 9 = .ok (.if_icmp .gt 7, 3) := by decide +kernel
theorem dX7_isDigit_12 : decode cX7_isDigit 12 = .ok (.iconst 1, 1) := by decide +kernel
theorem dX7_isDigit_13 : decode cX7_isDigit 13 = .ok (.goto 4, 3) := by decide +kernel
theorem dX7_isDigit_16 : decode cX7_isDigit 16 = .ok (.iconst 0, 1) := by decide +kernel
theorem dX7_isDigit_17 : decode cX7_isDigit 17 = .ok (.ireturn, 1) := by decide +kernel
theorem dX7_next_0 : decode cX7_next 0 = .ok (.aload_n 0, 1) := by decide +kernel
theorem dX7_next_1 : decode cX7_next 1 = .ok (.aload_n 0, 1) := by decide +kernel
theorem dX7_next_2 : decode cX7_next 2 = .ok (.getfield 57, 3) := by decide +kernel
theorem dX7_next_5 : decode cX7_next 5 = .ok (.putfield 60, 3) := by decide +kernel
theorem dX7_next_8 : decode cX7_next 8 = .ok (.aload_n 0, 1) := by decide +kernel
theorem dX7_next_9 : decode cX7_next 9 = .ok (.getfield 60, 3) := by decide +kernel
theorem dX7_next_12 : decode cX7_next 12 = .ok (.aload_n 0, 1) := by decide +kernel
theorem dX7_next_13 : decode cX7_next 13 = .ok (.getfield 46, 3) := by decide +kernel
theorem dX7_next_16 : decode cX7_next 16 = .ok (.if_icmp .ge 44, 3) := by decide +kernel
theorem dX7_next_19 : decode cX7_next 19 = .ok (.aload_n 0, 1) := by decide +kernel
theorem dX7_next_20 : decode cX7_next 20 = .ok (.getfield 9, 3) := by decide +kernel
theorem dX7_next_23 : decode cX7_next 23 = .ok (.aload_n 0, 1) := by decide +kernel
theorem dX7_next_24 : decode cX7_next 24 = .ok (.getfield 60, 3) := by decide +kernel
theorem dX7_next_27 : decode cX7_next 27 = .ok (.baload, 1) := by decide +kernel
theorem dX7_next_28 : decode cX7_next 28 = .ok (.bipush 32, 2) := by decide +kernel
theorem dX7_next_30 : decode cX7_next 30 = .ok (.if_icmp .eq 17, 3) := by decide +kernel
theorem dX7_next_33 : decode cX7_next 33 = .ok (.aload_n 0, 1) := by decide +kernel
theorem dX7_next_34 : decode cX7_next 34 = .ok (.getfield 9, 3) := by decide +kernel
theorem dX7_next_37 : decode cX7_next 37 = .ok (.aload_n 0, 1) := by decide +kernel
theorem dX7_next_38 : decode cX7_next 38 = .ok (.getfield 60, 3) := by decide +kernel
theorem dX7_next_41 : decode cX7_next 41 = .ok (.baload, 1) := by decide +kernel
theorem dX7_next_42 : decode cX7_next 42 = .ok (.bipush 10, 2) := by decide +kernel
theorem dX7_next_44 : decode cX7_next 44 = .ok (.if_icmp .ne 16, 3) := by decide +kernel
theorem dX7_next_47 : decode cX7_next 47 = .ok (.aload_n 0, 1) := by decide +kernel
theorem dX7_next_48 : decode cX7_next 48 = .ok (.dup, 1) := by decide +kernel
theorem dX7_next_49 : decode cX7_next 49 = .ok (.getfield 60, 3) := by decide +kernel
theorem dX7_next_52 : decode cX7_next 52 = .ok (.iconst 1, 1) := by decide +kernel
theorem dX7_next_53 : decode cX7_next 53 = .ok (.iadd, 1) := by decide +kernel
theorem dX7_next_54 : decode cX7_next 54 = .ok (.putfield 60, 3) := by decide +kernel
theorem dX7_next_57 : decode cX7_next 57 = .ok (.goto (-49), 3) := by decide +kernel
theorem dX7_next_60 : decode cX7_next 60 = .ok (.aload_n 0, 1) := by decide +kernel
theorem dX7_next_61 : decode cX7_next 61 = .ok (.aload_n 0, 1) := by decide +kernel
theorem dX7_next_62 : decode cX7_next 62 = .ok (.getfield 60, 3) := by decide +kernel
theorem dX7_next_65 : decode cX7_next 65 = .ok (.putfield 57, 3) := by decide +kernel
theorem dX7_next_68 : decode cX7_next 68 = .ok (.aload_n 0, 1) := by decide +kernel
theorem dX7_next_69 : decode cX7_next 69 = .ok (.getfield 60, 3) := by decide +kernel
theorem dX7_next_72 : decode cX7_next 72 = .ok (.aload_n 0, 1) := by decide +kernel
theorem dX7_next_73 : decode cX7_next 73 = .ok (.getfield 46, 3) := by decide +kernel
theorem dX7_next_76 : decode cX7_next 76 = .ok (.if_icmp .ne 4, 3) := by decide +kernel
theorem dX7_next_79 : decode cX7_next 79 = .ok (.return_, 1) := by decide +kernel
theorem dX7_next_80 : decode cX7_next 80 = .ok (.aload_n 0, 1) := by decide +kernel
theorem dX7_next_81 : decode cX7_next 81 = .ok (.getfield 9, 3) := by decide +kernel
theorem dX7_next_84 : decode cX7_next 84 = .ok (.aload_n 0, 1) := by decide +kernel
theorem dX7_next_85 : decode cX7_next 85 = .ok (.getfield 60, 3) := by decide +kernel
theorem dX7_next_88 : decode cX7_next 88 = .ok (.baload, 1) := by decide +kernel
theorem dX7_next_89 : decode cX7_next 89 = .ok (.istore_n 1, 1) := by decide +kernel
theorem dX7_next_90 : decode cX7_next 90 = .ok (.aload_n 0, 1) := by decide +kernel
theorem dX7_next_91 : decode cX7_next 91 = .ok (.dup, 1) := by decide +kernel
theorem dX7_next_92 : decode cX7_next 92 = .ok (.getfield 57, 3) := by decide +kernel
theorem dX7_next_95 : decode cX7_next 95 = .ok (.iconst 1, 1) := by decide +kernel
theorem dX7_next_96 : decode cX7_next 96 = .ok (.iadd, 1) := by decide +kernel
theorem dX7_next_97 : decode cX7_next 97 = .ok (.putfield 57, 3) := by decide +kernel
theorem dX7_next_100 : decode cX7_next 100 = .ok (.aload_n 0, 1) := by decide +kernel
theorem dX7_next_101 : decode cX7_next 101 = .ok (.getfield 57, 3) := by decide +kernel
theorem dX7_next_104 : decode cX7_next 104 = .ok (.aload_n 0, 1) := by decide +kernel
theorem dX7_next_105 : decode cX7_next 105 = .ok (.getfield 46, 3) := by decide +kernel
theorem dX7_next_108 : decode cX7_next 108 = .ok (.if_icmp .ge 75, 3) := by decide +kernel
theorem dX7_next_111 : decode cX7_next 111 = .ok (.iload_n 1, 1) := by decide +kernel
theorem dX7_next_112 : decode cX7_next 112 = .ok (.invokestatic 63, 3) := by decide +kernel
theorem dX7_next_115 : decode cX7_next 115 = .ok (.ifCond .eq 18, 3) := by decide +kernel
theorem dX7_next_118 : decode cX7_next 118 = .ok (.aload_n 0, 1) := by decide +kernel
theorem dX7_next_119 : decode cX7_next 119 = .ok (.getfield 9, 3) := by decide +kernel
theorem dX7_next_122 : decode cX7_next 122 = .ok (.aload_n 0, 1) := by decide +kernel
theorem dX7_next_123 : decode cX7_next 123 = .ok (.getfield 57, 3) := by decide +kernel
theorem dX7_next_126 : decode cX7_next 126 = .ok (.baload, 1) := by decide +kernel
theorem dX7_next_127 : decode cX7_next 127 = .ok (.invokestatic 63, 3) := by decide +kernel
theorem dX7_next_130 : decode cX7_next 130 = .ok (.ifCond .ne 40, 3) := by decide +kernel
theorem dX7_next_133 : decode cX7_next 133 = .ok (.iload_n 1, 1) := by decide +kernel
theorem dX7_next_134 : decode cX7_next 134 = .ok (.invokestatic 67, 3) := by decide +kernel
theorem dX7_next_137 : decode cX7_next 137 = .ok (.ifCond .eq 46, 3) := by decide +kernel
theorem dX7_next_140 : decode cX7_next 140 = .ok (.aload_n 0, 1) := by decide +kernel
theorem dX7_next_141 : decode cX7_next 141 = .ok (.getfield 9, 3) := by decide +kernel
theorem dX7_next_144 : decode cX7_next 144 = .ok (.aload_n 0, 1) := by decide +kernel
theorem dX7_next_145 : decode cX7_next 145 = .ok (.getfield 57, 3) := by decide +kernel
theorem dX7_next_148 : decode cX7_next 148 = .ok (.baload, 1) := by decide +kernel
theorem dX7_next_149 : decode cX7_next 149 = .ok (.invokestatic 63, 3) := by decide +kernel
theorem dX7_next_152 : decode cX7_next 152 = .ok (.ifCond .ne 18, 3) := by decide +kernel
theorem dX7_next_155 : decode cX7_next 155 = .ok (.aload_n 0, 1) := by decide +kernel
theorem dX7_next_156 : decode cX7_next 156 = .ok (.getfield 9, 3) := by decide +kernel
theorem dX7_next_159 : decode cX7_next 159 = .ok (.aload_n 0, 1) := by decide +kernel
theorem dX7_next_160 : decode cX7_next 160 = .ok (.getfield 57, 3) := by decide +kernel
theorem dX7_next_163 : decode cX7_next 163 = .ok (.baload, 1) := by decide +kernel
theorem dX7_next_164 : decode cX7_next 164 = .ok (.invokestatic 67, 3) := by decide +kernel
theorem dX7_next_167 : decode cX7_next 167 = .ok (.ifCond .eq 16, 3) := by decide +kernel
theorem dX7_next_170 : decode cX7_next 170 = .ok (.aload_n 0, 1) := by decide +kernel
theorem dX7_next_171 : decode cX7_next 171 = .ok (.dup, 1) := by decide +kernel
theorem dX7_next_172 : decode cX7_next 172 = .ok (.getfield 57, 3) := by decide +kernel
theorem dX7_next_175 : decode cX7_next 175 = .ok (.iconst 1, 1) := by decide +kernel
theorem dX7_next_176 : decode cX7_next 176 = .ok (.iadd, 1) := by decide +kernel
theorem dX7_next_177 : decode cX7_next 177 = .ok (.putfield 57, 3) := by decide +kernel
theorem dX7_next_180 : decode cX7_next 180 = .ok (.goto (-80), 3) := by decide +kernel
theorem dX7_next_183 : decode cX7_next 183 = .ok (.return_, 1) := by decide +kernel
theorem dX7_is_0 : decode cX7_is 0 = .ok (.aload_n 0, 1) := by decide +kernel
theorem dX7_is_1 : decode cX7_is 1 = .ok (.getfield 57, 3) := by decide +kernel
theorem dX7_is_4 : decode cX7_is 4 = .ok (.aload_n 0, 1) := by decide +kernel
theorem dX7_is_5 : decode cX7_is 5 = .ok (.getfield 60, 3) := by decide +kernel
theorem dX7_is_8 : decode cX7_is 8 = .ok (.isub, 1) := by decide +kernel
theorem dX7_is_9 : decode cX7_is 9 = .ok (.aload_n 1, 1) := by decide +kernel
theorem dX7_is_10 : decode cX7_is 10 = .ok (.invokevirtual 70, 3) := by decide +kernel
theorem dX7_is_13 : decode cX7_is 13 = .ok (.if_icmp .eq 5, 3) := by decide +kernel
theorem dX7_is_16 : decode cX7_is 16 = .ok (.iconst 0, 1) := by decide +kernel
theorem dX7_is_17 : decode cX7_is 17 = .ok (.ireturn, 1) := by decide +kernel
theorem dX7_is_18 : decode cX7_is 18 = .ok (.iconst 0, 1) := by decide +kernel
theorem dX7_is_19 : decode cX7_is 19 = .ok (.istore_n 2, 1) := by decide +kernel
theorem dX7_is_20 : decode cX7_is 20 = .ok (.iload_n 2, 1) := by decide +kernel
theorem dX7_is_21 : decode cX7_is 21 = .ok (.aload_n 1, 1) := by decide +kernel
theorem dX7_is_22 : decode cX7_is 22 = .ok (.invokevirtual 70, 3) := by decide +kernel
theorem dX7_is_25 : decode cX7_is 25 = .ok (.if_icmp .ge 30, 3) := by decide +kernel
theorem dX7_is_28 : decode cX7_is 28 = .ok (.aload_n 0, 1) := by decide +kernel
theorem dX7_is_29 : decode cX7_is 29 = .ok (.getfield 9, 3) := by decide +kernel
theorem dX7_is_32 : decode cX7_is 32 = .ok (.aload_n 0, 1) := by decide +kernel
theorem dX7_is_33 : decode cX7_is 33 = .ok (.getfield 60, 3) := by decide +kernel
theorem dX7_is_36 : decode cX7_is 36 = .ok (.iload_n 2, 1) := by decide +kernel
theorem dX7_is_37 : decode cX7_is 37 = .ok (.iadd, 1) := by decide +kernel
theorem dX7_is_38 : decode cX7_is 38 = .ok (.baload, 1) := by decide +kernel
theorem dX7_is_39 : decode cX7_is 39 = .ok (.aload_n 1, 1) := by decide +kernel
theorem dX7_is_40 : decode cX7_is 40 = .ok (.iload_n 2, 1) := by decide +kernel
theorem dX7_is_41 : decode cX7_is 41 = .ok (.invokevirtual 75, 3) := by decide +kernel
theorem dX7_is_44 : decode cX7_is 44 = .ok (.if_icmp .eq 5, 3) := by decide +kernel
theorem dX7_is_47 : decode cX7_is 47 = .ok (.iconst 0, 1) := by decide +kernel
theorem dX7_is_48 : decode cX7_is 48 = .ok (.ireturn, 1) := by decide +kernel
theorem dX7_is_49 : decode cX7_is 49 = .ok (.iinc 2 1, 3) := by decide +kernel
theorem dX7_is_52 : decode cX7_is 52 = .ok (.goto (-32), 3) := by decide +kernel
theorem dX7_is_55 : decode cX7_is 55 = .ok (.iconst 1, 1) := by decide +kernel
theorem dX7_is_56 : decode cX7_is 56 = .ok (.ireturn, 1) := by decide +kernel
theorem dX7_takes_0 : decode cX7_takes 0 = .ok (.aload_n 0, 1) := by decide +kernel
theorem dX7_takes_1 : decode cX7_takes 1 = .ok (.aload_n 1, 1) := by decide +kernel
theorem dX7_takes_2 : decode cX7_takes 2 = .ok (.invokevirtual 79, 3) := by decide +kernel
theorem dX7_takes_5 : decode cX7_takes 5 = .ok (.ifCond .ne 5, 3) := by decide +kernel
theorem dX7_takes_8 : decode cX7_takes 8 = .ok (.iconst 0, 1) := by decide +kernel
theorem dX7_takes_9 : decode cX7_takes 9 = .ok (.ireturn, 1) := by decide +kernel
theorem dX7_takes_10 : decode cX7_takes 10 = .ok (.aload_n 0, 1) := by decide +kernel
theorem dX7_takes_11 : decode cX7_takes 11 = .ok (.invokevirtual 83, 3) := by decide +kernel
theorem dX7_takes_14 : decode cX7_takes 14 = .ok (.iconst 1, 1) := by decide +kernel
theorem dX7_takes_15 : decode cX7_takes 15 = .ok (.ireturn, 1) := by decide +kernel
theorem dX7_one_0 : decode cX7_one 0 = .ok (.iload_n 0, 1) := by decide +kernel
theorem dX7_one_1 : decode cX7_one 1 = .ok (.ifCond .eq 7, 3) := by decide +kernel
theorem dX7_one_4 : decode cX7_one 4 = .ok (.iconst 0, 1) := by decide +kernel
theorem dX7_one_5 : decode cX7_one 5 = .ok (.goto 28, 3) := by decide +kernel
theorem dX7_one_8 : decode cX7_one 8 = .ok (.iload_n 1, 1) := by decide +kernel
theorem dX7_one_9 : decode cX7_one 9 = .ok (.ifCond .eq 7, 3) := by decide +kernel
theorem dX7_one_12 : decode cX7_one 12 = .ok (.iconst 1, 1) := by decide +kernel
theorem dX7_one_13 : decode cX7_one 13 = .ok (.goto 20, 3) := by decide +kernel
theorem dX7_one_16 : decode cX7_one 16 = .ok (.iload_n 2, 1) := by decide +kernel
theorem dX7_one_17 : decode cX7_one 17 = .ok (.ifCond .eq 7, 3) := by decide +kernel
theorem dX7_one_20 : decode cX7_one 20 = .ok (.iconst 2, 1) := by decide +kernel
theorem dX7_one_21 : decode cX7_one 21 = .ok (.goto 12, 3) := by decide +kernel
theorem dX7_one_24 : decode cX7_one 24 = .ok (.iload_n 3, 1) := by decide +kernel
theorem dX7_one_25 : decode cX7_one 25 = .ok (.ifCond .eq 7, 3) := by decide +kernel
theorem dX7_one_28 : decode cX7_one 28 = .ok (.iconst 3, 1) := by decide +kernel
theorem dX7_one_29 : decode cX7_one 29 = .ok (.goto 4, 3) := by decide +kernel
theorem dX7_one_32 : decode cX7_one 32 = .ok (.iconst (-1), 1) := by decide +kernel
theorem dX7_one_33 : decode cX7_one 33 = .ok (.ireturn, 1) := by decide +kernel
theorem dX7_name_0 : decode cX7_name 0 = .ok (.aload_n 0, 1) := by decide +kernel
theorem dX7_name_1 : decode cX7_name 1 = .ok (.ldc 86, 2) := by decide +kernel
theorem dX7_name_3 : decode cX7_name 3 = .ok (.invokevirtual 79, 3) := by decide +kernel
theorem dX7_name_6 : decode cX7_name 6 = .ok (.aload_n 0, 1) := by decide +kernel
theorem dX7_name_7 : decode cX7_name 7 = .ok (.ldc 88, 2) := by decide +kernel
theorem dX7_name_9 : decode cX7_name 9 = .ok (.invokevirtual 79, 3) := by decide +kernel
theorem dX7_name_12 : decode cX7_name 12 = .ok (.aload_n 0, 1) := by decide +kernel
theorem dX7_name_13 : decode cX7_name 13 = .ok (.ldc 90, 2) := by decide +kernel
theorem dX7_name_15 : decode cX7_name 15 = .ok (.invokevirtual 79, 3) := by decide +kernel
theorem dX7_name_18 : decode cX7_name 18 = .ok (.aload_n 0, 1) := by decide +kernel
theorem dX7_name_19 : decode cX7_name 19 = .ok (.ldc 92, 2) := by decide +kernel
theorem dX7_name_21 : decode cX7_name 21 = .ok (.invokevirtual 79, 3) := by decide +kernel
theorem dX7_name_24 : decode cX7_name 24 = .ok (.invokestatic 94, 3) := by decide +kernel
theorem dX7_name_27 : decode cX7_name 27 = .ok (.istore_n 1, 1) := by decide +kernel
theorem dX7_name_28 : decode cX7_name 28 = .ok (.iload_n 1, 1) := by decide +kernel
theorem dX7_name_29 : decode cX7_name 29 = .ok (.iconst (-1), 1) := by decide +kernel
theorem dX7_name_30 : decode cX7_name 30 = .ok (.if_icmp .eq 5, 3) := by decide +kernel
theorem dX7_name_33 : decode cX7_name 33 = .ok (.iload_n 1, 1) := by decide +kernel
theorem dX7_name_34 : decode cX7_name 34 = .ok (.ireturn, 1) := by decide +kernel
theorem dX7_name_35 : decode cX7_name 35 = .ok (.aload_n 0, 1) := by decide +kernel
theorem dX7_name_36 : decode cX7_name 36 = .ok (.ldc 98, 2) := by decide +kernel
theorem dX7_name_38 : decode cX7_name 38 = .ok (.invokevirtual 79, 3) := by decide +kernel
theorem dX7_name_41 : decode cX7_name 41 = .ok (.aload_n 0, 1) := by decide +kernel
theorem dX7_name_42 : decode cX7_name 42 = .ok (.ldc 100, 2) := by decide +kernel
theorem dX7_name_44 : decode cX7_name 44 = .ok (.invokevirtual 79, 3) := by decide +kernel
theorem dX7_name_47 : decode cX7_name 47 = .ok (.aload_n 0, 1) := by decide +kernel
theorem dX7_name_48 : decode cX7_name 48 = .ok (.ldc 102, 2) := by decide +kernel
theorem dX7_name_50 : decode cX7_name 50 = .ok (.invokevirtual 79, 3) := by decide +kernel
theorem dX7_name_53 : decode cX7_name 53 = .ok (.aload_n 0, 1) := by decide +kernel
theorem dX7_name_54 : decode cX7_name 54 = .ok (.ldc 104, 2) := by decide +kernel
theorem dX7_name_56 : decode cX7_name 56 = .ok (.invokevirtual 79, 3) := by decide +kernel
theorem dX7_name_59 : decode cX7_name 59 = .ok (.invokestatic 94, 3) := by decide +kernel
theorem dX7_name_62 : decode cX7_name 62 = .ok (.istore_n 1, 1) := by decide +kernel
theorem dX7_name_63 : decode cX7_name 63 = .ok (.iload_n 1, 1) := by decide +kernel
theorem dX7_name_64 : decode cX7_name 64 = .ok (.iconst (-1), 1) := by decide +kernel
theorem dX7_name_65 : decode cX7_name 65 = .ok (.if_icmp .ne 7, 3) := by decide +kernel
theorem dX7_name_68 : decode cX7_name 68 = .ok (.iconst (-1), 1) := by decide +kernel
theorem dX7_name_69 : decode cX7_name 69 = .ok (.goto 6, 3) := by decide +kernel
theorem dX7_name_72 : decode cX7_name 72 = .ok (.iconst 4, 1) := by decide +kernel
theorem dX7_name_73 : decode cX7_name 73 = .ok (.iload_n 1, 1) := by decide +kernel
theorem dX7_name_74 : decode cX7_name 74 = .ok (.iadd, 1) := by decide +kernel
theorem dX7_name_75 : decode cX7_name 75 = .ok (.ireturn, 1) := by decide +kernel
theorem dX7_unit_0 : decode cX7_unit 0 = .ok (.aload_n 0, 1) := by decide +kernel
theorem dX7_unit_1 : decode cX7_unit 1 = .ok (.ldc 106, 2) := by decide +kernel
theorem dX7_unit_3 : decode cX7_unit 3 = .ok (.invokevirtual 79, 3) := by decide +kernel
theorem dX7_unit_6 : decode cX7_unit 6 = .ok (.aload_n 0, 1) := by decide +kernel
theorem dX7_unit_7 : decode cX7_unit 7 = .ok (.ldc 108, 2) := by decide +kernel
theorem dX7_unit_9 : decode cX7_unit 9 = .ok (.invokevirtual 79, 3) := by decide +kernel
theorem dX7_unit_12 : decode cX7_unit 12 = .ok (.aload_n 0, 1) := by decide +kernel
theorem dX7_unit_13 : decode cX7_unit 13 = .ok (.ldc 110, 2) := by decide +kernel
theorem dX7_unit_15 : decode cX7_unit 15 = .ok (.invokevirtual 79, 3) := by decide +kernel
theorem dX7_unit_18 : decode cX7_unit 18 = .ok (.aload_n 0, 1) := by decide +kernel
theorem dX7_unit_19 : decode cX7_unit 19 = .ok (.ldc 112, 2) := by decide +kernel
theorem dX7_unit_21 : decode cX7_unit 21 = .ok (.invokevirtual 79, 3) := by decide +kernel
theorem dX7_unit_24 : decode cX7_unit 24 = .ok (.invokestatic 94, 3) := by decide +kernel
theorem dX7_unit_27 : decode cX7_unit 27 = .ok (.ireturn, 1) := by decide +kernel
theorem dX7_number_0 : decode cX7_number 0 = .ok (.aload_n 0, 1) := by decide +kernel
theorem dX7_number_1 : decode cX7_number 1 = .ok (.getfield 60, 3) := by decide +kernel
theorem dX7_number_4 : decode cX7_number 4 = .ok (.aload_n 0, 1) := by decide +kernel
theorem dX7_number_5 : decode cX7_number 5 = .ok (.getfield 46, 3) := by decide +kernel
theorem dX7_number_8 : decode cX7_number 8 = .ok (.if_icmp .eq 31, 3) := by decide +kernel
theorem dX7_number_11 : decode cX7_number 11 = .ok (.aload_n 0, 1) := by decide +kernel
theorem dX7_number_12 : decode cX7_number 12 = .ok (.getfield 57, 3) := by decide +kernel
theorem dX7_number_15 : decode cX7_number 15 = .ok (.aload_n 0, 1) := by decide +kernel
theorem dX7_number_16 : decode cX7_number 16 = .ok (.getfield 60, 3) := by decide +kernel
theorem dX7_number_19 : decode cX7_number 19 = .ok (.isub, 1) := by decide +kernel
theorem dX7_number_20 : decode cX7_number 20 = .ok (.iconst 3, 1) := by decide +kernel
theorem dX7_number_21 : decode cX7_number 21 = .ok (.if_icmp .gt 18, 3) := by decide +kernel
theorem dX7_number_24 : decode cX7_number 24 = .ok (.aload_n 0, 1) := by decide +kernel
theorem dX7_number_25 : decode cX7_number 25 = .ok (.getfield 9, 3) := by decide +kernel
theorem dX7_number_28 : decode cX7_number 28 = .ok (.aload_n 0, 1) := by decide +kernel
theorem dX7_number_29 : decode cX7_number 29 = .ok (.getfield 60, 3) := by decide +kernel
theorem dX7_number_32 : decode cX7_number 32 = .ok (.baload, 1) := by decide +kernel
theorem dX7_number_33 : decode cX7_number 33 = .ok (.invokestatic 67, 3) := by decide +kernel
theorem dX7_number_36 : decode cX7_number 36 = .ok (.ifCond .ne 5, 3) := by decide +kernel
theorem dX7_number_39 : decode cX7_number 39 = .ok (.iconst (-1), 1) := by decide +kernel
theorem dX7_number_40 : decode cX7_number 40 = .ok (.ireturn, 1) := by decide +kernel
theorem dX7_number_41 : decode cX7_number 41 = .ok (.iconst 0, 1) := by decide +kernel
theorem dX7_number_42 : decode cX7_number 42 = .ok (.istore_n 1, 1) := by decide +kernel
theorem dX7_number_43 : decode cX7_number 43 = .ok (.aload_n 0, 1) := by decide +kernel
theorem dX7_number_44 : decode cX7_number 44 = .ok (.getfield 60, 3) := by decide +kernel
theorem dX7_number_47 : decode cX7_number 47 = .ok (.istore_n 2, 1) := by decide +kernel
theorem dX7_number_48 : decode cX7_number 48 = .ok (.iload_n 2, 1) := by decide +kernel
theorem dX7_number_49 : decode cX7_number 49 = .ok (.aload_n 0, 1) := by decide +kernel
theorem dX7_number_50 : decode cX7_number 50 = .ok (.getfield 57, 3) := by decide +kernel
theorem dX7_number_53 : decode cX7_number 53 = .ok (.if_icmp .ge 38, 3) := by decide +kernel
theorem dX7_number_56 : decode cX7_number 56 = .ok (.aload_n 0, 1) := by decide +kernel
theorem dX7_number_57 : decode cX7_number 57 = .ok (.getfield 9, 3) := by decide +kernel
theorem dX7_number_60 : decode cX7_number 60 = .ok (.iload_n 2, 1) := by decide +kernel
theorem dX7_number_61 : decode cX7_number 61 = .ok (.baload, 1) := by decide +kernel
theorem dX7_number_62 : decode cX7_number 62 = .ok (.invokestatic 67, 3) := by decide +kernel
theorem dX7_number_65 : decode cX7_number 65 = .ok (.ifCond .ne 5, 3) := by decide +kernel
theorem dX7_number_68 : decode cX7_number 68 = .ok (.iconst (-1), 1) := by decide +kernel
theorem dX7_number_69 : decode cX7_number 69 = .ok (.ireturn, 1) := by decide +kernel
theorem dX7_number_70 : decode cX7_number 70 = .ok (.bipush 10, 2) := by decide +kernel
theorem dX7_number_72 : decode cX7_number 72 = .ok (.iload_n 1, 1) := by decide +kernel
theorem dX7_number_73 : decode cX7_number 73 = .ok (.imul, 1) := by decide +kernel
theorem dX7_number_74 : decode cX7_number 74 = .ok (.aload_n 0, 1) := by decide +kernel
theorem dX7_number_75 : decode cX7_number 75 = .ok (.getfield 9, 3) := by decide +kernel
theorem dX7_number_78 : decode cX7_number 78 = .ok (.iload_n 2, 1) := by decide +kernel
theorem dX7_number_79 : decode cX7_number 79 = .ok (.baload, 1) := by decide +kernel
theorem dX7_number_80 : decode cX7_number 80 = .ok (.iadd, 1) := by decide +kernel
theorem dX7_number_81 : decode cX7_number 81 = .ok (.bipush 48, 2) := by decide +kernel
theorem dX7_number_83 : decode cX7_number 83 = .ok (.isub, 1) := by decide +kernel
theorem dX7_number_84 : decode cX7_number 84 = .ok (.istore_n 1, 1) := by decide +kernel
theorem dX7_number_85 : decode cX7_number 85 = .ok (.iinc 2 1, 3) := by decide +kernel
theorem dX7_number_88 : decode cX7_number 88 = .ok (.goto (-40), 3) := by decide +kernel
theorem dX7_number_91 : decode cX7_number 91 = .ok (.iload_n 1, 1) := by decide +kernel
theorem dX7_number_92 : decode cX7_number 92 = .ok (.ireturn, 1) := by decide +kernel
theorem dX7_takesName_0 : decode cX7_takesName 0 = .ok (.aload_n 0, 1) := by decide +kernel
theorem dX7_takesName_1 : decode cX7_takesName 1 = .ok (.invokevirtual 114, 3) := by decide +kernel
theorem dX7_takesName_4 : decode cX7_takesName 4 = .ok (.istore_n 2, 1) := by decide +kernel
theorem dX7_takesName_5 : decode cX7_takesName 5 = .ok (.iload_n 2, 1) := by decide +kernel
theorem dX7_takesName_6 : decode cX7_takesName 6 = .ok (.iconst (-1), 1) := by decide +kernel
theorem dX7_takesName_7 : decode cX7_takesName 7 = .ok (.if_icmp .eq 15, 3) := by decide +kernel
theorem dX7_takesName_10 : decode cX7_takesName 10 = .ok (.iload_n 1, 1) := by decide +kernel
theorem dX7_takesName_11 : decode cX7_takesName 11 = .ok (.ifCond .eq 13, 3) := by decide +kernel
theorem dX7_takesName_14 : decode cX7_takesName 14 = .ok (.iload_n 2, 1) := by decide +kernel
theorem dX7_takesName_15 : decode cX7_takesName 15 = .ok (.aload_n 0, 1) := by decide +kernel
theorem dX7_takesName_16 : decode cX7_takesName 16 = .ok (.getfield 117, 3) := by decide +kernel
theorem dX7_takesName_19 : decode cX7_takesName 19 = .ok (.if_icmp .ne 5, 3) := by decide +kernel
theorem dX7_takesName_22 : decode cX7_takesName 22 = .ok (.iconst 0, 1) := by decide +kernel
theorem dX7_takesName_23 : decode cX7_takesName 23 = .ok (.ireturn, 1) := by decide +kernel
theorem dX7_takesName_24 : decode cX7_takesName 24 = .ok (.iload_n 1, 1) := by decide +kernel
theorem dX7_takesName_25 : decode cX7_takesName 25 = .ok (.ifCond .eq 11, 3) := by decide +kernel
theorem dX7_takesName_28 : decode cX7_takesName 28 = .ok (.aload_n 0, 1) := by decide +kernel
theorem dX7_takesName_29 : decode cX7_takesName 29 = .ok (.iload_n 2, 1) := by decide +kernel
theorem dX7_takesName_30 : decode cX7_takesName 30 = .ok (.putfield 120, 3) := by decide +kernel
theorem dX7_takesName_33 : decode cX7_takesName 33 = .ok (.goto 8, 3) := by decide +kernel
theorem dX7_takesName_36 : decode cX7_takesName 36 = .ok (.aload_n 0, 1) := by decide +kernel
theorem dX7_takesName_37 : decode cX7_takesName 37 = .ok (.iload_n 2, 1) := by decide +kernel
theorem dX7_takesName_38 : decode cX7_takesName 38 = .ok (.putfield 117, 3) := by decide +kernel
theorem dX7_takesName_41 : decode cX7_takesName 41 = .ok (.aload_n 0, 1) := by decide +kernel
theorem dX7_takesName_42 : decode cX7_takesName 42 = .ok (.invokevirtual 83, 3) := by decide +kernel
theorem dX7_takesName_45 : decode cX7_takesName 45 = .ok (.iconst 1, 1) := by decide +kernel
theorem dX7_takesName_46 : decode cX7_takesName 46 = .ok (.ireturn, 1) := by decide +kernel
theorem dX7_takesUnit_0 : decode cX7_takesUnit 0 = .ok (.aload_n 0, 1) := by decide +kernel
theorem dX7_takesUnit_1 : decode cX7_takesUnit 1 = .ok (.aload_n 0, 1) := by decide +kernel
theorem dX7_takesUnit_2 : decode cX7_takesUnit 2 = .ok (.invokevirtual 123, 3) := by decide +kernel
theorem dX7_takesUnit_5 : decode cX7_takesUnit 5 = .ok (.putfield 126, 3) := by decide +kernel
theorem dX7_takesUnit_8 : decode cX7_takesUnit 8 = .ok (.aload_n 0, 1) := by decide +kernel
theorem dX7_takesUnit_9 : decode cX7_takesUnit 9 = .ok (.getfield 126, 3) := by decide +kernel
theorem dX7_takesUnit_12 : decode cX7_takesUnit 12 = .ok (.iconst (-1), 1) := by decide +kernel
theorem dX7_takesUnit_13 : decode cX7_takesUnit 13 = .ok (.if_icmp .ne 5, 3) := by decide +kernel
theorem dX7_takesUnit_16 : decode cX7_takesUnit 16 = .ok (.iconst 0, 1) := by decide +kernel
theorem dX7_takesUnit_17 : decode cX7_takesUnit 17 = .ok (.ireturn, 1) := by decide +kernel
theorem dX7_takesUnit_18 : decode cX7_takesUnit 18 = .ok (.aload_n 0, 1) := by decide +kernel
theorem dX7_takesUnit_19 : decode cX7_takesUnit 19 = .ok (.invokevirtual 83, 3) := by decide +kernel
theorem dX7_takesUnit_22 : decode cX7_takesUnit 22 = .ok (.iconst 1, 1) := by decide +kernel
theorem dX7_takesUnit_23 : decode cX7_takesUnit 23 = .ok (.ireturn, 1) := by decide +kernel
theorem dX7_takesNumber_0 : decode cX7_takesNumber 0 = .ok (.aload_n 0, 1) := by decide +kernel
theorem dX7_takesNumber_1 : decode cX7_takesNumber 1 = .ok (.aload_n 0, 1) := by decide +kernel
theorem dX7_takesNumber_2 : decode cX7_takesNumber 2 = .ok (.invokevirtual 129, 3) := by decide +kernel
theorem dX7_takesNumber_5 : decode cX7_takesNumber 5 = .ok (.putfield 132, 3) := by decide +kernel
theorem dX7_takesNumber_8 : decode cX7_takesNumber 8 = .ok (.aload_n 0, 1) := by decide +kernel
theorem dX7_takesNumber_9 : decode cX7_takesNumber 9 = .ok (.getfield 132, 3) := by decide +kernel
theorem dX7_takesNumber_12 : decode cX7_takesNumber 12 = .ok (.iconst (-1), 1) := by decide +kernel
theorem dX7_takesNumber_13 : decode cX7_takesNumber 13 = .ok (.if_icmp .ne 5, 3) := by decide +kernel
theorem dX7_takesNumber_16 : decode cX7_takesNumber 16 = .ok (.iconst 0, 1) := by decide +kernel
theorem dX7_takesNumber_17 : decode cX7_takesNumber 17 = .ok (.ireturn, 1) := by decide +kernel
theorem dX7_takesNumber_18 : decode cX7_takesNumber 18 = .ok (.aload_n 0, 1) := by decide +kernel
theorem dX7_takesNumber_19 : decode cX7_takesNumber 19 = .ok (.invokevirtual 83, 3) := by decide +kernel
theorem dX7_takesNumber_22 : decode cX7_takesNumber 22 = .ok (.iconst 1, 1) := by decide +kernel
theorem dX7_takesNumber_23 : decode cX7_takesNumber 23 = .ok (.ireturn, 1) := by decide +kernel
theorem dX7_sentence_0 : decode cX7_sentence 0 = .ok (.aload_n 0, 1) := by decide +kernel
theorem dX7_sentence_1 : decode cX7_sentence 1 = .ok (.iconst (-1), 1) := by decide +kernel
theorem dX7_sentence_2 : decode cX7_sentence 2 = .ok (.putfield 120, 3) := by decide +kernel
theorem dX7_sentence_5 : decode cX7_sentence 5 = .ok (.aload_n 0, 1) := by decide +kernel
theorem dX7_sentence_6 : decode cX7_sentence 6 = .ok (.iconst 0, 1) := by decide +kernel
theorem dX7_sentence_7 : decode cX7_sentence 7 = .ok (.invokevirtual 135, 3) := by decide +kernel
theorem dX7_sentence_10 : decode cX7_sentence 10 = .ok (.ifCond .ne 5, 3) := by decide +kernel
theorem dX7_sentence_13 : decode cX7_sentence 13 = .ok (.iconst 0, 1) := by decide +kernel
theorem dX7_sentence_14 : decode cX7_sentence 14 = .ok (.ireturn, 1) := by decide +kernel
theorem dX7_sentence_15 : decode cX7_sentence 15 = .ok (.aload_n 0, 1) := by decide +kernel
theorem dX7_sentence_16 : decode cX7_sentence 16 = .ok (.ldc 139, 2) := by decide +kernel
theorem dX7_sentence_18 : decode cX7_sentence 18 = .ok (.invokevirtual 141, 3) := by decide +kernel
theorem dX7_sentence_21 : decode cX7_sentence 21 = .ok (.ifCond .eq 54, 3) := by decide +kernel
theorem dX7_sentence_24 : decode cX7_sentence 24 = .ok (.aload_n 0, 1) := by decide +kernel
theorem dX7_sentence_25 : decode cX7_sentence 25 = .ok (.iconst 4, 1) := by decide +kernel
theorem dX7_sentence_26 : decode cX7_sentence 26 = .ok (.putfield 144, 3) := by decide +kernel
theorem dX7_sentence_29 : decode cX7_sentence 29 = .ok (.aload_n 0, 1) := by decide +kernel
theorem dX7_sentence_30 : decode cX7_sentence 30 = .ok (.iconst 1, 1) := by decide +kernel
theorem dX7_sentence_31 : decode cX7_sentence 31 = .ok (.invokevirtual 135, 3) := by decide +kernel
theorem dX7_sentence_34 : decode cX7_sentence 34 = .ok (.ifCond .eq 39, 3) := by decide +kernel
theorem dX7_sentence_37 : decode cX7_sentence 37 = .ok (.aload_n 0, 1) := by decide +kernel
theorem dX7_sentence_38 : decode cX7_sentence 38 = .ok (.ldc 147, 2) := by decide +kernel
theorem dX7_sentence_40 : decode cX7_sentence 40 = .ok (.invokevirtual 141, 3) := by decide +kernel
theorem dX7_sentence_43 : decode cX7_sentence 43 = .ok (.ifCond .eq 30, 3) := by decide +kernel
theorem dX7_sentence_46 : decode cX7_sentence 46 = .ok (.aload_n 0, 1) := by decide +kernel
theorem dX7_sentence_47 : decode cX7_sentence 47 = .ok (.invokevirtual 149, 3) := by decide +kernel
theorem dX7_sentence_50 : decode cX7_sentence 50 = .ok (.ifCond .eq 23, 3) := by decide +kernel
theorem dX7_sentence_53 : decode cX7_sentence 53 = .ok (.aload_n 0, 1) := by decide +kernel
theorem dX7_sentence_54 : decode cX7_sentence 54 = .ok (.invokevirtual 153, 3) := by decide +kernel
theorem dX7_sentence_57 : decode cX7_sentence 57 = .ok (.ifCond .eq 16, 3) := by decide +kernel
theorem dX7_sentence_60 : decode cX7_sentence 60 = .ok (.aload_n 0, 1) := by decide +kernel
theorem dX7_sentence_61 : decode cX7_sentence 61 = .ok (.ldc 156, 2) := by decide +kernel
theorem dX7_sentence_63 : decode cX7_sentence 63 = .ok (.invokevirtual 141, 3) := by decide +kernel
theorem dX7_sentence_66 : decode cX7_sentence 66 = .ok (.ifCond .eq 7, 3) := by decide +kernel
theorem dX7_sentence_69 : decode cX7_sentence 69 = .ok (.iconst 1, 1) := by decide +kernel
theorem dX7_sentence_70 : decode cX7_sentence 70 = .ok (.goto 4, 3) := by decide +kernel
theorem dX7_sentence_73 : decode cX7_sentence 73 = .ok (.iconst 0, 1) := by decide +kernel
theorem dX7_sentence_74 : decode cX7_sentence 74 = .ok (.ireturn, 1) := by decide +kernel
theorem dX7_sentence_75 : decode cX7_sentence 75 = .ok (.aload_n 0, 1) := by decide +kernel
theorem dX7_sentence_76 : decode cX7_sentence 76 = .ok (.ldc 158, 2) := by decide +kernel
theorem dX7_sentence_78 : decode cX7_sentence 78 = .ok (.invokevirtual 141, 3) := by decide +kernel
theorem dX7_sentence_81 : decode cX7_sentence 81 = .ok (.ifCond .eq 54, 3) := by decide +kernel
theorem dX7_sentence_84 : decode cX7_sentence 84 = .ok (.aload_n 0, 1) := by decide +kernel
theorem dX7_sentence_85 : decode cX7_sentence 85 = .ok (.iconst 5, 1) := by decide +kernel
theorem dX7_sentence_86 : decode cX7_sentence 86 = .ok (.putfield 144, 3) := by decide +kernel
theorem dX7_sentence_89 : decode cX7_sentence 89 = .ok (.aload_n 0, 1) := by decide +kernel
theorem dX7_sentence_90 : decode cX7_sentence 90 = .ok (.invokevirtual 149, 3) := by decide +kernel
theorem dX7_sentence_93 : decode cX7_sentence 93 = .ok (.ifCond .eq 40, 3) := by decide +kernel
theorem dX7_sentence_96 : decode cX7_sentence 96 = .ok (.aload_n 0, 1) := by decide +kernel
theorem dX7_sentence_97 : decode cX7_sentence 97 = .ok (.invokevirtual 153, 3) := by decide +kernel
theorem dX7_sentence_100 : decode cX7_sentence 100 = .ok (.ifCond .eq 33, 3) := by decide +kernel
theorem dX7_sentence_103 : decode cX7_sentence 103 = .ok (.aload_n 0, 1) := by decide +kernel
theorem dX7_sentence_104 : decode cX7_sentence 104 = .ok (.ldc 160, 2) := by decide +kernel
theorem dX7_sentence_106 : decode cX7_sentence 106 = .ok (.invokevirtual 141, 3) := by decide +kernel
theorem dX7_sentence_109 : decode cX7_sentence 109 = .ok (.ifCond .eq 24, 3) := by decide +kernel
theorem dX7_sentence_112 : decode cX7_sentence 112 = .ok (.aload_n 0, 1) := by decide +kernel
theorem dX7_sentence_113 : decode cX7_sentence 113 = .ok (.iconst 1, 1) := by decide +kernel
theorem dX7_sentence_114 : decode cX7_sentence 114 = .ok (.invokevirtual 135, 3) := by decide +kernel
theorem dX7_sentence_117 : decode cX7_sentence 117 = .ok (.ifCond .eq 16, 3) := by decide +kernel
theorem dX7_sentence_120 : decode cX7_sentence 120 = .ok (.aload_n 0, 1) := by decide +kernel
theorem dX7_sentence_121 : decode cX7_sentence 121 = .ok (.ldc 156, 2) := by decide +kernel
theorem dX7_sentence_123 : decode cX7_sentence 123 = .ok (.invokevirtual 141, 3) := by decide +kernel
theorem dX7_sentence_126 : decode cX7_sentence 126 = .ok (.ifCond .eq 7, 3) := by decide +kernel
theorem dX7_sentence_129 : decode cX7_sentence 129 = .ok (.iconst 1, 1) := by decide +kernel
theorem dX7_sentence_130 : decode cX7_sentence 130 = .ok (.goto 4, 3) := by decide +kernel
theorem dX7_sentence_133 : decode cX7_sentence 133 = .ok (.iconst 0, 1) := by decide +kernel
theorem dX7_sentence_134 : decode cX7_sentence 134 = .ok (.ireturn, 1) := by decide +kernel
theorem dX7_sentence_135 : decode cX7_sentence 135 = .ok (.aload_n 0, 1) := by decide +kernel
theorem dX7_sentence_136 : decode cX7_sentence 136 = .ok (.ldc 162, 2) := by decide +kernel
theorem dX7_sentence_138 : decode cX7_sentence 138 = .ok (.invokevirtual 79, 3) := by decide +kernel
theorem dX7_sentence_141 : decode cX7_sentence 141 = .ok (.istore_n 1, 1) := by decide +kernel
theorem dX7_sentence_142 : decode cX7_sentence 142 = .ok (.iload_n 1, 1) := by decide +kernel
theorem dX7_sentence_143 : decode cX7_sentence 143 = .ok (.ifCond .ne 12, 3) := by decide +kernel
theorem dX7_sentence_146 : decode cX7_sentence 146 = .ok (.aload_n 0, 1) := by decide +kernel
theorem dX7_sentence_147 : decode cX7_sentence 147 = .ok (.ldc 164, 2) := by decide +kernel
theorem dX7_sentence_149 : decode cX7_sentence 149 = .ok (.invokevirtual 79, 3) := by decide +kernel
theorem dX7_sentence_152 : decode cX7_sentence 152 = .ok (.ifCond .eq 51, 3) := by decide +kernel
theorem dX7_sentence_155 : decode cX7_sentence 155 = .ok (.aload_n 0, 1) := by decide +kernel
theorem dX7_sentence_156 : decode cX7_sentence 156 = .ok (.invokevirtual 83, 3) := by decide +kernel
theorem dX7_sentence_159 : decode cX7_sentence 159 = .ok (.aload_n 0, 1) := by decide +kernel
theorem dX7_sentence_160 : decode cX7_sentence 160 = .ok (.iload_n 1, 1) := by decide +kernel
theorem dX7_sentence_161 : decode cX7_sentence 161 = .ok (.ifCond .eq 8, 3) := by decide +kernel
theorem dX7_sentence_164 : decode cX7_sentence 164 = .ok (.bipush 6, 2) := by decide +kernel
theorem dX7_sentence_166 : decode cX7_sentence 166 = .ok (.goto 5, 3) := by decide +kernel
theorem dX7_sentence_169 : decode cX7_sentence 169 = .ok (.bipush 7, 2) := by decide +kernel
theorem dX7_sentence_171 : decode cX7_sentence 171 = .ok (.putfield 144, 3) := by decide +kernel
theorem dX7_sentence_174 : decode cX7_sentence 174 = .ok (.aload_n 0, 1) := by decide +kernel
theorem dX7_sentence_175 : decode cX7_sentence 175 = .ok (.invokevirtual 149, 3) := by decide +kernel
theorem dX7_sentence_178 : decode cX7_sentence 178 = .ok (.ifCond .eq 23, 3) := by decide +kernel
theorem dX7_sentence_181 : decode cX7_sentence 181 = .ok (.aload_n 0, 1) := by decide +kernel
theorem dX7_sentence_182 : decode cX7_sentence 182 = .ok (.invokevirtual 153, 3) := by decide +kernel
theorem dX7_sentence_185 : decode cX7_sentence 185 = .ok (.ifCond .eq 16, 3) := by decide +kernel
theorem dX7_sentence_188 : decode cX7_sentence 188 = .ok (.aload_n 0, 1) := by decide +kernel
theorem dX7_sentence_189 : decode cX7_sentence 189 = .ok (.ldc 156, 2) := by decide +kernel
theorem dX7_sentence_191 : decode cX7_sentence 191 = .ok (.invokevirtual 141, 3) := by decide +kernel
theorem dX7_sentence_194 : decode cX7_sentence 194 = .ok (.ifCond .eq 7, 3) := by decide +kernel
theorem dX7_sentence_197 : decode cX7_sentence 197 = .ok (.iconst 1, 1) := by decide +kernel
theorem dX7_sentence_198 : decode cX7_sentence 198 = .ok (.goto 4, 3) := by decide +kernel
theorem dX7_sentence_201 : decode cX7_sentence 201 = .ok (.iconst 0, 1) := by decide +kernel
theorem dX7_sentence_202 : decode cX7_sentence 202 = .ok (.ireturn, 1) := by decide +kernel
theorem dX7_sentence_203 : decode cX7_sentence 203 = .ok (.aload_n 0, 1) := by decide +kernel
theorem dX7_sentence_204 : decode cX7_sentence 204 = .ok (.ldc 166, 2) := by decide +kernel
theorem dX7_sentence_206 : decode cX7_sentence 206 = .ok (.invokevirtual 141, 3) := by decide +kernel
theorem dX7_sentence_209 : decode cX7_sentence 209 = .ok (.ifCond .eq 10, 3) := by decide +kernel
theorem dX7_sentence_212 : decode cX7_sentence 212 = .ok (.aload_n 0, 1) := by decide +kernel
theorem dX7_sentence_213 : decode cX7_sentence 213 = .ok (.invokevirtual 149, 3) := by decide +kernel
theorem dX7_sentence_216 : decode cX7_sentence 216 = .ok (.ifCond .ne 5, 3) := by decide +kernel
theorem dX7_sentence_219 : decode cX7_sentence 219 = .ok (.iconst 0, 1) := by decide +kernel
theorem dX7_sentence_220 : decode cX7_sentence 220 = .ok (.ireturn, 1) := by decide +kernel
theorem dX7_sentence_221 : decode cX7_sentence 221 = .ok (.aload_n 0, 1) := by decide +kernel
theorem dX7_sentence_222 : decode cX7_sentence 222 = .ok (.ldc 168, 2) := by decide +kernel
theorem dX7_sentence_224 : decode cX7_sentence 224 = .ok (.invokevirtual 79, 3) := by decide +kernel
theorem dX7_sentence_227 : decode cX7_sentence 227 = .ok (.ifCond .ne 12, 3) := by decide +kernel
theorem dX7_sentence_230 : decode cX7_sentence 230 = .ok (.aload_n 0, 1) := by decide +kernel
theorem dX7_sentence_231 : decode cX7_sentence 231 = .ok (.ldc 170, 2) := by decide +kernel
theorem dX7_sentence_233 : decode cX7_sentence 233 = .ok (.invokevirtual 79, 3) := by decide +kernel
theorem dX7_sentence_236 : decode cX7_sentence 236 = .ok (.ifCond .eq 64, 3) := by decide +kernel
theorem dX7_sentence_239 : decode cX7_sentence 239 = .ok (.aload_n 0, 1) := by decide +kernel
theorem dX7_sentence_240 : decode cX7_sentence 240 = .ok (.aload_n 0, 1) := by decide +kernel
theorem dX7_sentence_241 : decode cX7_sentence 241 = .ok (.ldc 168, 2) := by decide +kernel
theorem dX7_sentence_243 : decode cX7_sentence 243 = .ok (.invokevirtual 79, 3) := by decide +kernel
theorem dX7_sentence_246 : decode cX7_sentence 246 = .ok (.ifCond .eq 7, 3) := by decide +kernel
theorem dX7_sentence_249 : decode cX7_sentence 249 = .ok (.iconst 1, 1) := by decide +kernel
theorem dX7_sentence_250 : decode cX7_sentence 250 = .ok (.goto 4, 3) := by decide +kernel
theorem dX7_sentence_253 : decode cX7_sentence 253 = .ok (.iconst 2, 1) := by decide +kernel
theorem dX7_sentence_254 : decode cX7_sentence 254 = .ok (.putfield 144, 3) := by decide +kernel
theorem dX7_sentence_257 : decode cX7_sentence 257 = .ok (.aload_n 0, 1) := by decide +kernel
theorem dX7_sentence_258 : decode cX7_sentence 258 = .ok (.invokevirtual 83, 3) := by decide +kernel
theorem dX7_sentence_261 : decode cX7_sentence 261 = .ok (.aload_n 0, 1) := by decide +kernel
theorem dX7_sentence_262 : decode cX7_sentence 262 = .ok (.invokevirtual 153, 3) := by decide +kernel
theorem dX7_sentence_265 : decode cX7_sentence 265 = .ok (.ifCond .eq 33, 3) := by decide +kernel
theorem dX7_sentence_268 : decode cX7_sentence 268 = .ok (.aload_n 0, 1) := by decide +kernel
theorem dX7_sentence_269 : decode cX7_sentence 269 = .ok (.ldc 172, 2) := by decide +kernel
theorem dX7_sentence_271 : decode cX7_sentence 271 = .ok (.invokevirtual 141, 3) := by decide +kernel
theorem dX7_sentence_274 : decode cX7_sentence 274 = .ok (.ifCond .eq 24, 3) := by decide +kernel
theorem dX7_sentence_277 : decode cX7_sentence 277 = .ok (.aload_n 0, 1) := by decide +kernel
theorem dX7_sentence_278 : decode cX7_sentence 278 = .ok (.iconst 1, 1) := by decide +kernel
theorem dX7_sentence_279 : decode cX7_sentence 279 = .ok (.invokevirtual 135, 3) := by decide +kernel
theorem dX7_sentence_282 : decode cX7_sentence 282 = .ok (.ifCond .eq 16, 3) := by decide +kernel
theorem dX7_sentence_285 : decode cX7_sentence 285 = .ok (.aload_n 0, 1) := by decide +kernel
theorem dX7_sentence_286 : decode cX7_sentence 286 = .ok (.ldc 156, 2) := by decide +kernel
theorem dX7_sentence_288 : decode cX7_sentence 288 = .ok (.invokevirtual 141, 3) := by decide +kernel
theorem dX7_sentence_291 : decode cX7_sentence 291 = .ok (.ifCond .eq 7, 3) := by decide +kernel
theorem dX7_sentence_294 : decode cX7_sentence 294 = .ok (.iconst 1, 1) := by decide +kernel
theorem dX7_sentence_295 : decode cX7_sentence 295 = .ok (.goto 4, 3) := by decide +kernel
theorem dX7_sentence_298 : decode cX7_sentence 298 = .ok (.iconst 0, 1) := by decide +kernel
theorem dX7_sentence_299 : decode cX7_sentence 299 = .ok (.ireturn, 1) := by decide +kernel
theorem dX7_sentence_300 : decode cX7_sentence 300 = .ok (.aload_n 0, 1) := by decide +kernel
theorem dX7_sentence_301 : decode cX7_sentence 301 = .ok (.ldc 174, 2) := by decide +kernel
theorem dX7_sentence_303 : decode cX7_sentence 303 = .ok (.invokevirtual 79, 3) := by decide +kernel
theorem dX7_sentence_306 : decode cX7_sentence 306 = .ok (.ifCond .eq 84, 3) := by decide +kernel
theorem dX7_sentence_309 : decode cX7_sentence 309 = .ok (.aload_n 0, 1) := by decide +kernel
theorem dX7_sentence_310 : decode cX7_sentence 310 = .ok (.getfield 132, 3) := by decide +kernel
theorem dX7_sentence_313 : decode cX7_sentence 313 = .ok (.iconst 2, 1) := by decide +kernel
theorem dX7_sentence_314 : decode cX7_sentence 314 = .ok (.bipush 9, 2) := by decide +kernel
theorem dX7_sentence_316 : decode cX7_sentence 316 = .ok (.invokestatic 176, 3) := by decide +kernel
theorem dX7_sentence_319 : decode cX7_sentence 319 = .ok (.ifCond .ne 5, 3) := by decide +kernel
theorem dX7_sentence_322 : decode cX7_sentence 322 = .ok (.iconst 0, 1) := by decide +kernel
theorem dX7_sentence_323 : decode cX7_sentence 323 = .ok (.ireturn, 1) := by decide +kernel
theorem dX7_sentence_324 : decode cX7_sentence 324 = .ok (.aload_n 0, 1) := by decide +kernel
theorem dX7_sentence_325 : decode cX7_sentence 325 = .ok (.invokevirtual 83, 3) := by decide +kernel
theorem dX7_sentence_328 : decode cX7_sentence 328 = .ok (.aload_n 0, 1) := by decide +kernel
theorem dX7_sentence_329 : decode cX7_sentence 329 = .ok (.iconst 3, 1) := by decide +kernel
theorem dX7_sentence_330 : decode cX7_sentence 330 = .ok (.putfield 144, 3) := by decide +kernel
theorem dX7_sentence_333 : decode cX7_sentence 333 = .ok (.aload_n 0, 1) := by decide +kernel
theorem dX7_sentence_334 : decode cX7_sentence 334 = .ok (.ldc 180, 2) := by decide +kernel
theorem dX7_sentence_336 : decode cX7_sentence 336 = .ok (.invokevirtual 141, 3) := by decide +kernel
theorem dX7_sentence_339 : decode cX7_sentence 339 = .ok (.ifCond .eq 49, 3) := by decide +kernel
theorem dX7_sentence_342 : decode cX7_sentence 342 = .ok (.aload_n 0, 1) := by decide +kernel
theorem dX7_sentence_343 : decode cX7_sentence 343 = .ok (.ldc 182, 2) := by decide +kernel
theorem dX7_sentence_345 : decode cX7_sentence 345 = .ok (.invokevirtual 141, 3) := by decide +kernel
theorem dX7_sentence_348 : decode cX7_sentence 348 = .ok (.ifCond .eq 40, 3) := by decide +kernel
theorem dX7_sentence_351 : decode cX7_sentence 351 = .ok (.aload_n 0, 1) := by decide +kernel
theorem dX7_sentence_352 : decode cX7_sentence 352 = .ok (.invokevirtual 153, 3) := by decide +kernel
theorem dX7_sentence_355 : decode cX7_sentence 355 = .ok (.ifCond .eq 33, 3) := by decide +kernel
theorem dX7_sentence_358 : decode cX7_sentence 358 = .ok (.aload_n 0, 1) := by decide +kernel
theorem dX7_sentence_359 : decode cX7_sentence 359 = .ok (.ldc 180, 2) := by decide +kernel
theorem dX7_sentence_361 : decode cX7_sentence 361 = .ok (.invokevirtual 141, 3) := by decide +kernel
theorem dX7_sentence_364 : decode cX7_sentence 364 = .ok (.ifCond .eq 24, 3) := by decide +kernel
theorem dX7_sentence_367 : decode cX7_sentence 367 = .ok (.aload_n 0, 1) := by decide +kernel
theorem dX7_sentence_368 : decode cX7_sentence 368 = .ok (.iconst 1, 1) := by decide +kernel
theorem dX7_sentence_369 : decode cX7_sentence 369 = .ok (.invokevirtual 135, 3) := by decide +kernel
theorem dX7_sentence_372 : decode cX7_sentence 372 = .ok (.ifCond .eq 16, 3) := by decide +kernel
theorem dX7_sentence_375 : decode cX7_sentence 375 = .ok (.aload_n 0, 1) := by decide +kernel
theorem dX7_sentence_376 : decode cX7_sentence 376 = .ok (.ldc 156, 2) := by decide +kernel
theorem dX7_sentence_378 : decode cX7_sentence 378 = .ok (.invokevirtual 141, 3) := by decide +kernel
theorem dX7_sentence_381 : decode cX7_sentence 381 = .ok (.ifCond .eq 7, 3) := by decide +kernel
theorem dX7_sentence_384 : decode cX7_sentence 384 = .ok (.iconst 1, 1) := by decide +kernel
theorem dX7_sentence_385 : decode cX7_sentence 385 = .ok (.goto 4, 3) := by decide +kernel
theorem dX7_sentence_388 : decode cX7_sentence 388 = .ok (.iconst 0, 1) := by decide +kernel
theorem dX7_sentence_389 : decode cX7_sentence 389 = .ok (.ireturn, 1) := by decide +kernel
theorem dX7_sentence_390 : decode cX7_sentence 390 = .ok (.aload_n 0, 1) := by decide +kernel
theorem dX7_sentence_391 : decode cX7_sentence 391 = .ok (.iconst 0, 1) := by decide +kernel
theorem dX7_sentence_392 : decode cX7_sentence 392 = .ok (.putfield 144, 3) := by decide +kernel
theorem dX7_sentence_395 : decode cX7_sentence 395 = .ok (.aload_n 0, 1) := by decide +kernel
theorem dX7_sentence_396 : decode cX7_sentence 396 = .ok (.invokevirtual 153, 3) := by decide +kernel
theorem dX7_sentence_399 : decode cX7_sentence 399 = .ok (.ifCond .eq 16, 3) := by decide +kernel
theorem dX7_sentence_402 : decode cX7_sentence 402 = .ok (.aload_n 0, 1) := by decide +kernel
