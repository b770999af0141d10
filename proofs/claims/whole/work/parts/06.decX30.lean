theorem dX3_init_0 : decode cX3_init 0 = .ok (.aload_n 0, 1) := by decide +kernel
theorem dX3_init_1 : decode cX3_init 1 = .ok (.invokespecial 3, 3) := by decide +kernel
theorem dX3_init_4 : decode cX3_init 4 = .ok (.aload_n 0, 1) := by decide +kernel
theorem dX3_init_5 : decode cX3_init 5 = .ok (.bipush 10, 2) := by decide +kernel
theorem dX3_init_7 : decode cX3_init 7 = .ok (.bipush 7, 2) := by decide +kernel
theorem dX3_init_9 : decode cX3_init 9 = .ok (.multianewarray 9 2, 4) := by decide +kernel
theorem dX3_init_13 : decode cX3_init 13 = .ok (.putfield 11, 3) := by decide +kernel
theorem dX3_init_16 : decode cX3_init 16 = .ok (.aload_n 0, 1) := by decide +kernel
theorem dX3_init_17 : decode cX3_init 17 = .ok (.iconst 5, 1) := by decide +kernel
theorem dX3_init_18 : decode cX3_init 18 = .ok (.newarray .int, 2) := by decide +kernel
theorem dX3_init_20 : decode cX3_init 20 = .ok (.putfield 16, 3) := by decide +kernel
theorem dX3_init_23 : decode cX3_init 23 = .ok (.aload_n 0, 1) := by decide +kernel
theorem dX3_init_24 : decode cX3_init 24 = .ok (.iconst 0, 1) := by decide +kernel
theorem dX3_init_25 : decode cX3_init 25 = .ok (.putfield 20, 3) := by decide +kernel
theorem dX3_init_28 : decode cX3_init 28 = .ok (.aload_n 0, 1) := by decide +kernel
theorem dX3_init_29 : decode cX3_init 29 = .ok (.iconst 0, 1) := by decide +kernel
theorem dX3_init_30 : decode cX3_init 30 = .ok (.putfield 24, 3) := by decide +kernel
theorem dX3_init_33 : decode cX3_init 33 = .ok (.aload_n 0, 1) := by decide +kernel
theorem dX3_init_34 : decode cX3_init 34 = .ok (.iconst 0, 1) := by decide +kernel
theorem dX3_init_35 : decode cX3_init 35 = .ok (.putfield 27, 3) := by decide +kernel
theorem dX3_init_38 : decode cX3_init 38 = .ok (.aload_n 0, 1) := by decide +kernel
theorem dX3_init_39 : decode cX3_init 39 = .ok (.iconst 0, 1) := by decide +kernel
theorem dX3_init_40 : decode cX3_init 40 = .ok (.putfield 30, 3) := by decide +kernel
theorem dX3_init_43 : decode cX3_init 43 = .ok (.return_, 1) := by decide +kernel
theorem dX3_clear_0 : decode cX3_clear 0 = .ok (.aload_n 0, 1) := by decide +kernel
theorem dX3_clear_1 : decode cX3_clear 1 = .ok (.iconst 0, 1) := by decide +kernel
theorem dX3_clear_2 : decode cX3_clear 2 = .ok (.putfield 20, 3) := by decide +kernel
theorem dX3_clear_5 : decode cX3_clear 5 = .ok (.aload_n 0, 1) := by decide +kernel
theorem dX3_clear_6 : decode cX3_clear 6 = .ok (.iconst 0, 1) := by decide +kernel
theorem dX3_clear_7 : decode cX3_clear 7 = .ok (.putfield 24, 3) := by decide +kernel
theorem dX3_clear_10 : decode cX3_clear 10 = .ok (.aload_n 0, 1) := by decide +kernel
theorem dX3_clear_11 : decode cX3_clear 11 = .ok (.iconst 0, 1) := by decide +kernel
theorem dX3_clear_12 : decode cX3_clear 12 = .ok (.putfield 27, 3) := by decide +kernel
theorem dX3_clear_15 : decode cX3_clear 15 = .ok (.aload_n 0, 1) := by decide +kernel
theorem dX3_clear_16 : decode cX3_clear 16 = .ok (.iconst 0, 1) := by decide +kernel
theorem dX3_clear_17 : decode cX3_clear 17 = .ok (.putfield 30, 3) := by decide +kernel
theorem dX3_clear_20 : decode cX3_clear 20 = .ok (.return_, 1) := by decide +kernel
theorem dX3_open_0 : decode cX3_open 0 = .ok (.aload_n 0, 1) := by decide +kernel
theorem dX3_open_1 : decode cX3_open 1 = .ok (.iconst 0, 1) := by decide +kernel
theorem dX3_open_2 : decode cX3_open 2 = .ok (.iconst (-1), 1) := by decide +kernel
theorem dX3_open_3 : decode cX3_open 3 = .ok (.invokevirtual 34, 3) := by decide +kernel
theorem dX3_open_6 : decode cX3_open 6 = .ok (.aload_n 0, 1) := by decide +kernel
theorem dX3_open_7 : decode cX3_open 7 = .ok (.iconst 1, 1) := by decide +kernel
theorem dX3_open_8 : decode cX3_open 8 = .ok (.iload_n 1, 1) := by decide +kernel
theorem dX3_open_9 : decode cX3_open 9 = .ok (.invokevirtual 34, 3) := by decide +kernel
theorem dX3_open_12 : decode cX3_open 12 = .ok (.aload_n 0, 1) := by decide +kernel
theorem dX3_open_13 : decode cX3_open 13 = .ok (.iconst 2, 1) := by decide +kernel
theorem dX3_open_14 : decode cX3_open 14 = .ok (.iconst (-1), 1) := by decide +kernel
theorem dX3_open_15 : decode cX3_open 15 = .ok (.invokevirtual 34, 3) := by decide +kernel
theorem dX3_open_18 : decode cX3_open 18 = .ok (.aload_n 0, 1) := by decide +kernel
theorem dX3_open_19 : decode cX3_open 19 = .ok (.iconst 3, 1) := by decide +kernel
theorem dX3_open_20 : decode cX3_open 20 = .ok (.iconst (-1), 1) := by decide +kernel
theorem dX3_open_21 : decode cX3_open 21 = .ok (.invokevirtual 34, 3) := by decide +kernel
theorem dX3_open_24 : decode cX3_open 24 = .ok (.aload_n 0, 1) := by decide +kernel
theorem dX3_open_25 : decode cX3_open 25 = .ok (.iconst 4, 1) := by decide +kernel
theorem dX3_open_26 : decode cX3_open 26 = .ok (.iconst 0, 1) := by decide +kernel
theorem dX3_open_27 : decode cX3_open 27 = .ok (.invokevirtual 34, 3) := by decide +kernel
theorem dX3_open_30 : decode cX3_open 30 = .ok (.aload_n 0, 1) := by decide +kernel
theorem dX3_open_31 : decode cX3_open 31 = .ok (.iconst 5, 1) := by decide +kernel
theorem dX3_open_32 : decode cX3_open 32 = .ok (.aload_n 0, 1) := by decide +kernel
theorem dX3_open_33 : decode cX3_open 33 = .ok (.getfield 24, 3) := by decide +kernel
theorem dX3_open_36 : decode cX3_open 36 = .ok (.invokevirtual 34, 3) := by decide +kernel
theorem dX3_open_39 : decode cX3_open 39 = .ok (.aload_n 0, 1) := by decide +kernel
theorem dX3_open_40 : decode cX3_open 40 = .ok (.bipush 6, 2) := by decide +kernel
theorem dX3_open_42 : decode cX3_open 42 = .ok (.iload_n 2, 1) := by decide +kernel
theorem dX3_open_43 : decode cX3_open 43 = .ok (.invokevirtual 34, 3) := by decide +kernel
theorem dX3_open_46 : decode cX3_open 46 = .ok (.return_, 1) := by decide +kernel
theorem dX3_tell_0 : decode cX3_tell 0 = .ok (.aload_n 0, 1) := by decide +kernel
theorem dX3_tell_1 : decode cX3_tell 1 = .ok (.getfield 20, 3) := by decide +kernel
theorem dX3_tell_4 : decode cX3_tell 4 = .ok (.bipush 10, 2) := by decide +kernel
theorem dX3_tell_6 : decode cX3_tell 6 = .ok (.if_icmp .ge 25, 3) := by decide +kernel
theorem dX3_tell_9 : decode cX3_tell 9 = .ok (.iload_n 1, 1) := by decide +kernel
theorem dX3_tell_10 : decode cX3_tell 10 = .ok (.ifCond .lt 21, 3) := by decide +kernel
theorem dX3_tell_13 : decode cX3_tell 13 = .ok (.iload_n 1, 1) := by decide +kernel
theorem dX3_tell_14 : decode cX3_tell 14 = .ok (.bipush 7, 2) := by decide +kernel
theorem dX3_tell_16 : decode cX3_tell 16 = .ok (.if_icmp .ge 15, 3) := by decide +kernel
theorem dX3_tell_19 : decode cX3_tell 19 = .ok (.aload_n 0, 1) := by decide +kernel
theorem dX3_tell_20 : decode cX3_tell 20 = .ok (.getfield 11, 3) := by decide +kernel
theorem dX3_tell_23 : decode cX3_tell 23 = .ok (.aload_n 0, 1) := by decide +kernel
theorem dX3_tell_24 : decode cX3_tell 24 = .ok (.getfield 20, 3) := by decide +kernel
theorem dX3_tell_27 : decode cX3_tell 27 = .ok (.aaload, 1) := by decide +kernel
theorem dX3_tell_28 : decode cX3_tell 28 = .ok (.iload_n 1, 1) := by decide +kernel
theorem dX3_tell_29 : decode cX3_tell 29 = .ok (.iload_n 2, 1) := by decide +kernel
theorem dX3_tell_30 : decode cX3_tell 30 = .ok (.iastore, 1) := by decide +kernel
theorem dX3_tell_31 : decode cX3_tell 31 = .ok (.return_, 1) := by decide +kernel
theorem dX3_close_0 : decode cX3_close 0 = .ok (.aload_n 0, 1) := by decide +kernel
theorem dX3_close_1 : decode cX3_close 1 = .ok (.getfield 20, 3) := by decide +kernel
theorem dX3_close_4 : decode cX3_close 4 = .ok (.bipush 10, 2) := by decide +kernel
theorem dX3_close_6 : decode cX3_close 6 = .ok (.if_icmp .lt 4, 3) := by decide +kernel
theorem dX3_close_9 : decode cX3_close 9 = .ok (.return_, 1) := by decide +kernel
theorem dX3_close_10 : decode cX3_close 10 = .ok (.aload_n 0, 1) := by decide +kernel
theorem dX3_close_11 : decode cX3_close 11 = .ok (.getfield 11, 3) := by decide +kernel
theorem dX3_close_14 : decode cX3_close 14 = .ok (.aload_n 0, 1) := by decide +kernel
theorem dX3_close_15 : decode cX3_close 15 = .ok (.getfield 20, 3) := by decide +kernel
theorem dX3_close_18 : decode cX3_close 18 = .ok (.aaload, 1) := by decide +kernel
theorem dX3_close_19 : decode cX3_close 19 = .ok (.iconst 0, 1) := by decide +kernel
theorem dX3_close_20 : decode cX3_close 20 = .ok (.iaload, 1) := by decide +kernel
theorem dX3_close_21 : decode cX3_close 21 = .ok (.iconst 4, 1) := by decide +kernel
theorem dX3_close_22 : decode cX3_close 22 = .ok (.if_icmp .gt 21, 3) := by decide +kernel
theorem dX3_close_25 : decode cX3_close 25 = .ok (.aload_n 0, 1) := by decide +kernel
theorem dX3_close_26 : decode cX3_close 26 = .ok (.dup, 1) := by decide +kernel
theorem dX3_close_27 : decode cX3_close 27 = .ok (.getfield 27, 3) := by decide +kernel
theorem dX3_close_30 : decode cX3_close 30 = .ok (.iconst 1, 1) := by decide +kernel
theorem dX3_close_31 : decode cX3_close 31 = .ok (.aload_n 0, 1) := by decide +kernel
theorem dX3_close_32 : decode cX3_close 32 = .ok (.getfield 20, 3) := by decide +kernel
theorem dX3_close_35 : decode cX3_close 35 = .ok (.ishl, 1) := by decide +kernel
theorem dX3_close_36 : decode cX3_close 36 = .ok (.ior, 1) := by decide +kernel
theorem dX3_close_37 : decode cX3_close 37 = .ok (.putfield 27, 3) := by decide +kernel
theorem dX3_close_40 : decode cX3_close 40 = .ok (.goto 13, 3) := by decide +kernel
theorem dX3_close_43 : decode cX3_close 43 = .ok (.aload_n 0, 1) := by decide +kernel
theorem dX3_close_44 : decode cX3_close 44 = .ok (.dup, 1) := by decide +kernel
theorem dX3_close_45 : decode cX3_close 45 = .ok (.getfield 24, 3) := by decide +kernel
theorem dX3_close_48 : decode cX3_close 48 = .ok (.iconst 1, 1) := by decide +kernel
theorem dX3_close_49 : decode cX3_close 49 = .ok (.iadd, 1) := by decide +kernel
theorem dX3_close_50 : decode cX3_close 50 = .ok (.putfield 24, 3) := by decide +kernel
theorem dX3_close_53 : decode cX3_close 53 = .ok (.aload_n 0, 1) := by decide +kernel
theorem dX3_close_54 : decode cX3_close 54 = .ok (.dup, 1) := by decide +kernel
theorem dX3_close_55 : decode cX3_close 55 = .ok (.getfield 20, 3) := by decide +kernel
theorem dX3_close_58 : decode cX3_close 58 = .ok (.iconst 1, 1) := by decide +kernel
theorem dX3_close_59 : decode cX3_close 59 = .ok (.iadd, 1) := by decide +kernel
theorem dX3_close_60 : decode cX3_close 60 = .ok (.putfield 20, 3) := by decide +kernel
theorem dX3_close_63 : decode cX3_close 63 = .ok (.return_, 1) := by decide +kernel
theorem dX3_ask_0 : decode cX3_ask 0 = .ok (.aload_n 0, 1) := by decide +kernel
theorem dX3_ask_1 : decode cX3_ask 1 = .ok (.getfield 16, 3) := by decide +kernel
theorem dX3_ask_4 : decode cX3_ask 4 = .ok (.iconst 0, 1) := by decide +kernel
theorem dX3_ask_5 : decode cX3_ask 5 = .ok (.iload_n 1, 1) := by decide +kernel
theorem dX3_ask_6 : decode cX3_ask 6 = .ok (.iastore, 1) := by decide +kernel
theorem dX3_ask_7 : decode cX3_ask 7 = .ok (.aload_n 0, 1) := by decide +kernel
theorem dX3_ask_8 : decode cX3_ask 8 = .ok (.getfield 16, 3) := by decide +kernel
theorem dX3_ask_11 : decode cX3_ask 11 = .ok (.iconst 1, 1) := by decide +kernel
theorem dX3_ask_12 : decode cX3_ask 12 = .ok (.iload_n 2, 1) := by decide +kernel
theorem dX3_ask_13 : decode cX3_ask 13 = .ok (.iastore, 1) := by decide +kernel
theorem dX3_ask_14 : decode cX3_ask 14 = .ok (.aload_n 0, 1) := by decide +kernel
theorem dX3_ask_15 : decode cX3_ask 15 = .ok (.getfield 16, 3) := by decide +kernel
theorem dX3_ask_18 : decode cX3_ask 18 = .ok (.iconst 2, 1) := by decide +kernel
theorem dX3_ask_19 : decode cX3_ask 19 = .ok (.iload_n 3, 1) := by decide +kernel
theorem dX3_ask_20 : decode cX3_ask 20 = .ok (.iastore, 1) := by decide +kernel
theorem dX3_ask_21 : decode cX3_ask 21 = .ok (.aload_n 0, 1) := by decide +kernel
theorem dX3_ask_22 : decode cX3_ask 22 = .ok (.getfield 16, 3) := by decide +kernel
theorem dX3_ask_25 : decode cX3_ask 25 = .ok (.iconst 3, 1) := by decide +kernel
theorem dX3_ask_26 : decode cX3_ask 26 = .ok (.iload 4, 2) := by decide +kernel
theorem dX3_ask_28 : decode cX3_ask 28 = .ok (.iastore, 1) := by decide +kernel
theorem dX3_ask_29 : decode cX3_ask 29 = .ok (.aload_n 0, 1) := by decide +kernel
theorem dX3_ask_30 : decode cX3_ask 30 = .ok (.getfield 16, 3) := by decide +kernel
theorem dX3_ask_33 : decode cX3_ask 33 = .ok (.iconst 4, 1) := by decide +kernel
theorem dX3_ask_34 : decode cX3_ask 34 = .ok (.iload_n 1, 1) := by decide +kernel
theorem dX3_ask_35 : decode cX3_ask 35 = .ok (.iconst 2, 1) := by decide +kernel
theorem dX3_ask_36 : decode cX3_ask 36 = .ok (.if_icmp .ne 7, 3) := by decide +kernel
theorem dX3_ask_39 : decode cX3_ask 39 = .ok (.iconst 0, 1) := by decide +kernel
theorem dX3_ask_40 : decode cX3_ask 40 = .ok (.goto 7, 3) := by decide +kernel
theorem dX3_ask_43 : decode cX3_ask 43 = .ok (.aload_n 0, 1) := by decide +kernel
theorem dX3_ask_44 : decode cX3_ask 44 = .ok (.getfield 24, 3) := by decide +kernel
theorem dX3_ask_47 : decode cX3_ask 47 = .ok (.iastore, 1) := by decide +kernel
theorem dX3_ask_48 : decode cX3_ask 48 = .ok (.aload_n 0, 1) := by decide +kernel
theorem dX3_ask_49 : decode cX3_ask 49 = .ok (.iconst 1, 1) := by decide +kernel
theorem dX3_ask_50 : decode cX3_ask 50 = .ok (.putfield 30, 3) := by decide +kernel
theorem dX3_ask_53 : decode cX3_ask 53 = .ok (.return_, 1) := by decide +kernel
theorem dX3_size_0 : decode cX3_size 0 = .ok (.aload_n 0, 1) := by decide +kernel
theorem dX3_size_1 : decode cX3_size 1 = .ok (.getfield 20, 3) := by decide +kernel
theorem dX3_size_4 : decode cX3_size 4 = .ok (.ireturn, 1) := by decide +kernel
theorem dX3_facts_0 : decode cX3_facts 0 = .ok (.aload_n 0, 1) := by decide +kernel
theorem dX3_facts_1 : decode cX3_facts 1 = .ok (.getfield 27, 3) := by decide +kernel
theorem dX3_facts_4 : decode cX3_facts 4 = .ok (.ireturn, 1) := by decide +kernel
theorem dX3_stages_0 : decode cX3_stages 0 = .ok (.aload_n 0, 1) := by decide +kernel
theorem dX3_stages_1 : decode cX3_stages 1 = .ok (.getfield 30, 3) := by decide +kernel
theorem dX3_stages_4 : decode cX3_stages 4 = .ok (.ifCond .eq 12, 3) := by decide +kernel
theorem dX3_stages_7 : decode cX3_stages 7 = .ok (.aload_n 0, 1) := by decide +kernel
theorem dX3_stages_8 : decode cX3_stages 8 = .ok (.getfield 24, 3) := by decide +kernel
theorem dX3_stages_11 : decode cX3_stages 11 = .ok (.iconst 1, 1) := by decide +kernel
theorem dX3_stages_12 : decode cX3_stages 12 = .ok (.iadd, 1) := by decide +kernel
theorem dX3_stages_13 : decode cX3_stages 13 = .ok (.goto 4, 3) := by decide +kernel
theorem dX3_stages_16 : decode cX3_stages 16 = .ok (.iconst 0, 1) := by decide +kernel
theorem dX3_stages_17 : decode cX3_stages 17 = .ok (.ireturn, 1) := by decide +kernel
theorem dX3_has_0 : decode cX3_has 0 = .ok (.iload_n 1, 1) := by decide +kernel
theorem dX3_has_1 : decode cX3_has 1 = .ok (.ifCond .lt 24, 3) := by decide +kernel
theorem dX3_has_4 : decode cX3_has 4 = .ok (.iload_n 1, 1) := by decide +kernel
theorem dX3_has_5 : decode cX3_has 5 = .ok (.aload_n 0, 1) := by decide +kernel
theorem dX3_has_6 : decode cX3_has 6 = .ok (.getfield 20, 3) := by decide +kernel
theorem dX3_has_9 : decode cX3_has 9 = .ok (.if_icmp .ge 16, 3) := by decide +kernel
theorem dX3_has_12 : decode cX3_has 12 = .ok (.aload_n 0, 1) := by decide +kernel
theorem dX3_has_13 : decode cX3_has 13 = .ok (.getfield 20, 3) := by decide +kernel
theorem dX3_has_16 : decode cX3_has 16 = .ok (.bipush 10, 2) := by decide +kernel
theorem dX3_has_18 : decode cX3_has 18 = .ok (.if_icmp .gt 7, 3) := by decide +kernel
theorem dX3_has_21 : decode cX3_has 21 = .ok (.iconst 1, 1) := by decide +kernel
theorem dX3_has_22 : decode cX3_has 22 = .ok (.goto 4, 3) := by decide +kernel
theorem dX3_has_25 : decode cX3_has 25 = .ok (.iconst 0, 1) := by decide +kernel
theorem dX3_has_26 : decode cX3_has 26 = .ok (.ireturn, 1) := by decide +kernel
theorem dX3_part_0 : decode cX3_part 0 = .ok (.aload_n 0, 1) := by decide +kernel
theorem dX3_part_1 : decode cX3_part 1 = .ok (.iload_n 1, 1) := by decide +kernel
theorem dX3_part_2 : decode cX3_part 2 = .ok (.invokevirtual 38, 3) := by decide +kernel
theorem dX3_part_5 : decode cX3_part 5 = .ok (.ifCond .eq 24, 3) := by decide +kernel
theorem dX3_part_8 : decode cX3_part 8 = .ok (.iload_n 2, 1) := by decide +kernel
theorem dX3_part_9 : decode cX3_part 9 = .ok (.ifCond .lt 20, 3) := by decide +kernel
theorem dX3_part_12 : decode cX3_part 12 = .ok (.iload_n 2, 1) := by decide +kernel
theorem dX3_part_13 : decode cX3_part 13 = .ok (.bipush 7, 2) := by decide +kernel
theorem dX3_part_15 : decode cX3_part 15 = .ok (.if_icmp .ge 14, 3) := by decide +kernel
theorem dX3_part_18 : decode cX3_part 18 = .ok (.aload_n 0, 1) := by decide +kernel
theorem dX3_part_19 : decode cX3_part 19 = .ok (.getfield 11, 3) := by decide +kernel
theorem dX3_part_22 : decode cX3_part 22 = .ok (.iload_n 1, 1) := by decide +kernel
theorem dX3_part_23 : decode cX3_part 23 = .ok (.aaload, 1) := by decide +kernel
theorem dX3_part_24 : decode cX3_part 24 = .ok (.iload_n 2, 1) := by decide +kernel
theorem dX3_part_25 : decode cX3_part 25 = .ok (.iaload, 1) := by decide +kernel
theorem dX3_part_26 : decode cX3_part 26 = .ok (.goto 4, 3) := by decide +kernel
theorem dX3_part_29 : decode cX3_part 29 = .ok (.iconst (-1), 1) := by decide +kernel
theorem dX3_part_30 : decode cX3_part 30 = .ok (.ireturn, 1) := by decide +kernel
theorem dX3_asked_0 : decode cX3_asked 0 = .ok (.aload_n 0, 1) := by decide +kernel
theorem dX3_asked_1 : decode cX3_asked 1 = .ok (.getfield 30, 3) := by decide +kernel
theorem dX3_asked_4 : decode cX3_asked 4 = .ok (.ifCond .eq 21, 3) := by decide +kernel
theorem dX3_asked_7 : decode cX3_asked 7 = .ok (.iload_n 1, 1) := by decide +kernel
theorem dX3_asked_8 : decode cX3_asked 8 = .ok (.ifCond .lt 17, 3) := by decide +kernel
theorem dX3_asked_11 : decode cX3_asked 11 = .ok (.iload_n 1, 1) := by decide +kernel
theorem dX3_asked_12 : decode cX3_asked 12 = .ok (.iconst 5, 1) := by decide +kernel
theorem dX3_asked_13 : decode cX3_asked 13 = .ok (.if_icmp .ge 12, 3) := by decide +kernel
theorem dX3_asked_16 : decode cX3_asked 16 = .ok (.aload_n 0, 1) := by decide +kernel
theorem dX3_asked_17 : decode cX3_asked 17 = .ok (.getfield 16, 3) := by decide +kernel
theorem dX3_asked_20 : decode cX3_asked 20 = .ok (.iload_n 1, 1) := by decide +kernel
theorem dX3_asked_21 : decode cX3_asked 21 = .ok (.iaload, 1) := by decide +kernel
theorem dX3_asked_22 : decode cX3_asked 22 = .ok (.goto 4, 3) := by decide +kernel
theorem dX3_asked_25 : decode cX3_asked 25 = .ok (.iconst (-1), 1) := by decide +kernel
theorem dX3_asked_26 : decode cX3_asked 26 = .ok (.ireturn, 1) := by decide +kernel
theorem dX3_allows_0 : decode cX3_allows 0 = .ok (.aload_n 0, 1) := by decide +kernel
theorem dX3_allows_1 : decode cX3_allows 1 = .ok (.iload_n 1, 1) := by decide +kernel
theorem dX3_allows_2 : decode cX3_allows 2 = .ok (.iconst 0, 1) := by decide +kernel
theorem dX3_allows_3 : decode cX3_allows 3 = .ok (.invokevirtual 42, 3) := by decide +kernel
theorem dX3_allows_6 : decode cX3_allows 6 = .ok (.iconst 3, 1) := by decide +kernel
theorem dX3_allows_7 : decode cX3_allows 7 = .ok (.if_icmp .ne 20, 3) := by decide +kernel
theorem dX3_allows_10 : decode cX3_allows 10 = .ok (.iload_n 2, 1) := by decide +kernel
theorem dX3_allows_11 : decode cX3_allows 11 = .ok (.iconst 2, 1) := by decide +kernel
theorem dX3_allows_12 : decode cX3_allows 12 = .ok (.if_icmp .lt 13, 3) := by decide +kernel
theorem dX3_allows_15 : decode cX3_allows 15 = .ok (.iload_n 2, 1) := by decide +kernel
theorem dX3_allows_16 : decode cX3_allows 16 = .ok (.bipush 9, 2) := by decide +kernel
theorem dX3_allows_18 : decode cX3_allows 18 = .ok (.if_icmp .gt 7, 3) := by decide +kernel
theorem dX3_allows_21 : decode cX3_allows 21 = .ok (.iconst 1, 1) := by decide +kernel
theorem dX3_allows_22 : decode cX3_allows 22 = .ok (.goto 4, 3) := by decide +kernel
theorem dX3_allows_25 : decode cX3_allows 25 = .ok (.iconst 0, 1) := by decide +kernel
theorem dX3_allows_26 : decode cX3_allows 26 = .ok (.ireturn, 1) := by decide +kernel
theorem dX3_allows_27 : decode cX3_allows 27 = .ok (.aload_n 0, 1) := by decide +kernel
theorem dX3_allows_28 : decode cX3_allows 28 = .ok (.iload_n 1, 1) := by decide +kernel
theorem dX3_allows_29 : decode cX3_allows 29 = .ok (.invokevirtual 38, 3) := by decide +kernel
theorem dX3_allows_32 : decode cX3_allows 32 = .ok (.ifCond .eq 18, 3) := by decide +kernel
theorem dX3_allows_35 : decode cX3_allows 35 = .ok (.iload_n 2, 1) := by decide +kernel
theorem dX3_allows_36 : decode cX3_allows 36 = .ok (.ifCond .lt 14, 3) := by decide +kernel
theorem dX3_allows_39 : decode cX3_allows 39 = .ok (.iload_n 2, 1) := by decide +kernel
theorem dX3_allows_40 : decode cX3_allows 40 = .ok (.sipush 999, 3) := by decide +kernel
theorem dX3_allows_43 : decode cX3_allows 43 = .ok (.if_icmp .gt 7, 3) := by decide +kernel
theorem dX3_allows_46 : decode cX3_allows 46 = .ok (.iconst 1, 1) := by decide +kernel
theorem dX3_allows_47 : decode cX3_allows 47 = .ok (.goto 4, 3) := by decide +kernel
theorem dX3_allows_50 : decode cX3_allows 50 = .ok (.iconst 0, 1) := by decide +kernel
theorem dX3_allows_51 : decode cX3_allows 51 = .ok (.ireturn, 1) := by decide +kernel
theorem dX3_setNumber_0 : decode cX3_setNumber 0 = .ok (.aload_n 0, 1) := by decide +kernel
theorem dX3_setNumber_1 : decode cX3_setNumber 1 = .ok (.iload_n 1, 1) := by decide +kernel
theorem dX3_setNumber_2 : decode cX3_setNumber 2 = .ok (.invokevirtual 38, 3) := by decide +kernel
theorem dX3_setNumber_5 : decode cX3_setNumber 5 = .ok (.ifCond .eq 12, 3) := by decide +kernel
theorem dX3_setNumber_8 : decode cX3_setNumber 8 = .ok (.aload_n 0, 1) := by decide +kernel
theorem dX3_setNumber_9 : decode cX3_setNumber 9 = .ok (.getfield 11, 3) := by decide +kernel
theorem dX3_setNumber_12 : decode cX3_setNumber 12 = .ok (.iload_n 1, 1) := by decide +kernel
theorem dX3_setNumber_13 : decode cX3_setNumber 13 = .ok (.aaload, 1) := by decide +kernel
theorem dX3_setNumber_14 : decode cX3_setNumber 14 = .ok (.iconst 4, 1) := by decide +kernel
theorem dX3_setNumber_15 : decode cX3_setNumber 15 = .ok (.iload_n 2, 1) := by decide +kernel
theorem dX3_setNumber_16 : decode cX3_setNumber 16 = .ok (.iastore, 1) := by decide +kernel
theorem dX3_setNumber_17 : decode cX3_setNumber 17 = .ok (.return_, 1) := by decide +kernel
theorem dX3_gain_0 : decode cX3_gain 0 = .ok (.lconst 0, 1) := by decide +kernel
theorem dX3_gain_1 : decode cX3_gain 1 = .ok (.lstore 4, 2) := by decide +kernel
theorem dX3_gain_3 : decode cX3_gain 3 = .ok (.iconst 0, 1) := by decide +kernel
theorem dX3_gain_4 : decode cX3_gain 4 = .ok (.istore 6, 2) := by decide +kernel
theorem dX3_gain_6 : decode cX3_gain 6 = .ok (.iload 6, 2) := by decide +kernel
theorem dX3_gain_8 : decode cX3_gain 8 = .ok (.aload_n 0, 1) := by decide +kernel
theorem dX3_gain_9 : decode cX3_gain 9 = .ok (.getfield 20, 3) := by decide +kernel
theorem dX3_gain_12 : decode cX3_gain 12 = .ok (.if_icmp .ge 53, 3) := by decide +kernel
theorem dX3_gain_15 : decode cX3_gain 15 = .ok (.iload 6, 2) := by decide +kernel
theorem dX3_gain_17 : decode cX3_gain 17 = .ok (.bipush 10, 2) := by decide +kernel
theorem dX3_gain_19 : decode cX3_gain 19 = .ok (.if_icmp .ge 46, 3) := by decide +kernel
theorem dX3_gain_22 : decode cX3_gain 22 = .ok (.aload_n 0, 1) := by decide +kernel
theorem dX3_gain_23 : decode cX3_gain 23 = .ok (.getfield 11, 3) := by decide +kernel
theorem dX3_gain_26 : decode cX3_gain 26 = .ok (.iload 6, 2) := by decide +kernel
theorem dX3_gain_28 : decode cX3_gain 28 = .ok (.aaload, 1) := by decide +kernel
theorem dX3_gain_29 : decode cX3_gain 29 = .ok (.astore 7, 2) := by decide +kernel
theorem dX3_gain_31 : decode cX3_gain 31 = .ok (.aload 7, 2) := by decide +kernel
theorem dX3_gain_33 : decode cX3_gain 33 = .ok (.iconst 3, 1) := by decide +kernel
theorem dX3_gain_34 : decode cX3_gain 34 = .ok (.iaload, 1) := by decide +kernel
theorem dX3_gain_35 : decode cX3_gain 35 = .ok (.iload_n 2, 1) := by decide +kernel
theorem dX3_gain_36 : decode cX3_gain 36 = .ok (.if_icmp .ne 23, 3) := by decide +kernel
theorem dX3_gain_39 : decode cX3_gain 39 = .ok (.aload 7, 2) := by decide +kernel
theorem dX3_gain_41 : decode cX3_gain 41 = .ok (.iconst 5, 1) := by decide +kernel
theorem dX3_gain_42 : decode cX3_gain 42 = .ok (.iaload, 1) := by decide +kernel
theorem dX3_gain_43 : decode cX3_gain 43 = .ok (.iload_n 3, 1) := by decide +kernel
theorem dX3_gain_44 : decode cX3_gain 44 = .ok (.if_icmp .ge 15, 3) := by decide +kernel
theorem dX3_gain_47 : decode cX3_gain 47 = .ok (.lload 4, 2) := by decide +kernel
theorem dX3_gain_49 : decode cX3_gain 49 = .ok (.aload 7, 2) := by decide +kernel
theorem dX3_gain_51 : decode cX3_gain 51 = .ok (.iload_n 1, 1) := by decide +kernel
theorem dX3_gain_52 : decode cX3_gain 52 = .ok (.invokestatic 46, 3) := by decide +kernel
theorem dX3_gain_55 : decode cX3_gain 55 = .ok (.i2l, 1) := by decide +kernel
theorem dX3_gain_56 : decode cX3_gain 56 = .ok (.ladd, 1) := by decide +kernel
theorem dX3_gain_57 : decode cX3_gain 57 = .ok (.lstore 4, 2) := by decide +kernel
theorem dX3_gain_59 : decode cX3_gain 59 = .ok (.iinc 6 1, 3) := by decide +kernel
theorem dX3_gain_62 : decode cX3_gain 62 = .ok (.goto (-56), 3) := by decide +kernel
theorem dX3_gain_65 : decode cX3_gain 65 = .ok (.lload 4, 2) := by decide +kernel
theorem dX3_gain_67 : decode cX3_gain 67 = .ok (.lreturn, 1) := by decide +kernel
theorem dX3_gainBy_0 : decode cX3_gainBy 0 = .ok (.aload_n 0, 1) := by decide +kernel
theorem dX3_gainBy_1 : decode cX3_gainBy 1 = .ok (.iconst 4, 1) := by decide +kernel
theorem dX3_gainBy_2 : decode cX3_gainBy 2 = .ok (.iaload, 1) := by decide +kernel
theorem dX3_gainBy_3 : decode cX3_gainBy 3 = .ok (.istore_n 2, 1) := by decide +kernel
theorem dX3_gainBy_4 : decode cX3_gainBy 4 = .ok (.aload_n 0, 1) := by decide +kernel
theorem dX3_gainBy_5 : decode cX3_gainBy 5 = .ok (.iconst 1, 1) := by decide +kernel
theorem dX3_gainBy_6 : decode cX3_gainBy 6 = .ok (.iaload, 1) := by decide +kernel
theorem dX3_gainBy_7 : decode cX3_gainBy 7 = .ok (.iload_n 1, 1) := by decide +kernel
theorem dX3_gainBy_8 : decode cX3_gainBy 8 = .ok (.if_icmp .ne 7, 3) := by decide +kernel
theorem dX3_gainBy_11 : decode cX3_gainBy 11 = .ok (.iconst 1, 1) := by decide +kernel
theorem dX3_gainBy_12 : decode cX3_gainBy 12 = .ok (.goto 4, 3) := by decide +kernel
theorem dX3_gainBy_15 : decode cX3_gainBy 15 = .ok (.iconst 0, 1) := by decide +kernel
theorem dX3_gainBy_16 : decode cX3_gainBy 16 = .ok (.istore_n 3, 1) := by decide +kernel
theorem dX3_gainBy_17 : decode cX3_gainBy 17 = .ok (.aload_n 0, 1) := by decide +kernel
theorem dX3_gainBy_18 : decode cX3_gainBy 18 = .ok (.iconst 0, 1) := by decide +kernel
theorem dX3_gainBy_19 : decode cX3_gainBy 19 = .ok (.iaload, 1) := by decide +kernel
theorem dX3_gainBy_20 : decode cX3_gainBy 20 = .ok (.tableswitch 69 5 7 #[28, 48, 58], 28) := by decide +kernel
theorem dX3_gainBy_48 : decode cX3_gainBy 48 = .ok (.iload_n 3, 1) := by decide +kernel
theorem dX3_gainBy_49 : decode cX3_gainBy 49 = .ok (.ifCond .eq 6, 3) := by decide +kernel
theorem dX3_gainBy_52 : decode cX3_gainBy 52 = .ok (.iload_n 2, 1) := by decide +kernel
theorem dX3_gainBy_53 : decode cX3_gainBy 53 = .ok (.ineg, 1) := by decide +kernel
theorem dX3_gainBy_54 : decode cX3_gainBy 54 = .ok (.ireturn, 1) := by decide +kernel
theorem dX3_gainBy_55 : decode cX3_gainBy 55 = .ok (.aload_n 0, 1) := by decide +kernel
theorem dX3_gainBy_56 : decode cX3_gainBy 56 = .ok (.iconst 2, 1) := by decide +kernel
theorem dX3_gainBy_57 : decode cX3_gainBy 57 = .ok (.iaload, 1) := by decide +kernel
theorem dX3_gainBy_58 : decode cX3_gainBy 58 = .ok (.iload_n 1, 1) := by decide +kernel
theorem dX3_gainBy_59 : decode cX3_gainBy 59 = .ok (.if_icmp .ne 7, 3) := by decide +kernel
theorem dX3_gainBy_62 : decode cX3_gainBy 62 = .ok (.iload_n 2, 1) := by decide +kernel
theorem dX3_gainBy_63 : decode cX3_gainBy 63 = .ok (.goto 4, 3) := by decide +kernel
theorem dX3_gainBy_66 : decode cX3_gainBy 66 = .ok (.iconst 0, 1) := by decide +kernel
theorem dX3_gainBy_67 : decode cX3_gainBy 67 = .ok (.ireturn, 1) := by decide +kernel
theorem dX3_gainBy_68 : decode cX3_gainBy 68 = .ok (.iload_n 3, 1) := by decide +kernel
theorem dX3_gainBy_69 : decode cX3_gainBy 69 = .ok (.ifCond .eq 7, 3) := by decide +kernel
theorem dX3_gainBy_72 : decode cX3_gainBy 72 = .ok (.iload_n 2, 1) := by decide +kernel
theorem dX3_gainBy_73 : decode cX3_gainBy 73 = .ok (.goto 4, 3) := by decide +kernel
theorem dX3_gainBy_76 : decode cX3_gainBy 76 = .ok (.iconst 0, 1) := by decide +kernel
theorem dX3_gainBy_77 : decode cX3_gainBy 77 = .ok (.ireturn, 1) := by decide +kernel
theorem dX3_gainBy_78 : decode cX3_gainBy 78 = .ok (.iload_n 3, 1) := by decide +kernel
theorem dX3_gainBy_79 : decode cX3_gainBy 79 = .ok (.ifCond .eq 8, 3) := by decide +kernel
theorem dX3_gainBy_82 : decode cX3_gainBy 82 = .ok (.iload_n 2, 1) := by decide +kernel
theorem dX3_gainBy_83 : decode cX3_gainBy 83 = .ok (.ineg, 1) := by decide +kernel
theorem dX3_gainBy_84 : decode cX3_gainBy 84 = .ok (.goto 4, 3) := by decide +kernel
theorem dX3_gainBy_87 : decode cX3_gainBy 87 = .ok (.iconst 0, 1) := by decide +kernel
theorem dX3_gainBy_88 : decode cX3_gainBy 88 = .ok (.ireturn, 1) := by decide +kernel
theorem dX3_gainBy_89 : decode cX3_gainBy 89 = .ok (.iconst 0, 1) := by decide +kernel
theorem dX3_gainBy_90 : decode cX3_gainBy 90 = .ok (.ireturn, 1) := by decide +kernel
