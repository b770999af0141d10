theorem dX3_open_26 : decode cX3_open 26 = .ok (.iconst 0, 1) := by decide +kernel
theorem dX3_open_27 : decode cX3_open 27 = .ok (.invokevirtual 34, 3) := by decide +kernel
theorem dX3_open_30 : decode cX3_open 30 = .ok (.aload_n 0, 1) := by decide +kernel
theorem dX3_open_31 : decode cX3_open 31 = .ok (.iconst 5, 1) := by decide +kernel
theorem dX3_open_32 : decode cX3_open 32 = .ok (.aload_n 0, 1) := by decide +kernel
theorem dX3_open_33 : decode cX3_open 33 = .ok (.getfield 24, 3) := by decide +kernel
theorem dX3_open_36 : decode cX3_open 36 = .ok (.invokevirtual 34, 3) := by decide +kernel
theorem dX3_open_39 : decode cX3_open 39 = .ok (.aload_n 0, 1) := by decide +kernel
theorem dX3_open_40 : decode cX3_open 40 = .ok (.bipush 6, 2) := by decide +kernel
theorem dX3_open_42 : decode cX3_open 42 = .ok (.iload_n 2, 1) := by decide +kernel
theorem dX3_open_43 : decode cX3_open 43 = .ok (.invokevirtual 34, 3) := by decide +kernel
theorem dX3_open_46 : decode cX3_open 46 = .ok (.return_, 1) := by decide +kernel
theorem dX3_tell_0 : decode cX3_tell 0 = .ok (.aload_n 0, 1) := by decide +kernel
theorem dX3_tell_1 : decode cX3_tell 1 = .ok (.getfield 20, 3) := by decide +kernel
theorem dX3_tell_4 : decode cX3_tell 4 = .ok (.bipush 10, 2) := by decide +kernel
theorem dX3_tell_6 : decode cX3_tell 6 = .ok (.if_icmp .ge 25, 3) := by decide +kernel
theorem dX3_tell_9 : decode cX3_tell 9 = .ok (.iload_n 1, 1) := by decide +kernel
theorem dX3_tell_10 : decode cX3_tell 10 = .ok (.ifCond .lt 21, 3) := by decide +kernel
theorem dX3_tell_13 : decode cX3_tell 13 = .ok (.iload_n 1, 1) := by decide +kernel
theorem dX3_tell_14 : decode cX3_tell 14 = .ok (.bipush 7, 2) := by decide +kernel
theorem dX3_tell_16 : decode cX3_tell 16 = .ok (.if_icmp .ge 15, 3) := by decide +kernel
theorem dX3_tell_19 : decode cX3_tell 19 = .ok (.aload_n 0, 1) := by decide +kernel
theorem dX3_tell_20 : decode cX3_tell 20 = .ok (.getfield 11, 3) := by decide +kernel
theorem dX3_tell_23 : decode cX3_tell 23 = .ok (.aload_n 0, 1) := by decide +kernel
theorem dX3_tell_24 : decode cX3_tell 24 = .ok (.getfield 20, 3) := by decide +kernel
theorem dX3_tell_27 : decode cX3_tell 27 = .ok (.aaload, 1) := by decide +kernel
theorem dX3_tell_28 : decode cX3_tell 28 = .ok (.iload_n 1, 1) := by decide +kernel
theorem dX3_tell_29 : decode cX3_tell 29 = .ok (.iload_n 2, 1) := by decide +kernel
theorem dX3_tell_30 : decode cX3_tell 30 = .ok (.iastore, 1) := by decide +kernel
theorem dX3_tell_31 : decode cX3_tell 31 = .ok (.return_, 1) := by decide +kernel
theorem dX3_close_0 : decode cX3_close 0 = .ok (.aload_n 0, 1) := by decide +kernel
theorem dX3_close_1 : decode cX3_close 1 = .ok (.getfield 20, 3) := by decide +kernel
theorem dX3_close_4 : decode cX3_close 4 = .ok (.bipush 10, 2) := by decide +kernel
theorem dX3_close_6 : decode cX3_close 6 = .ok (.if_icmp .lt 4, 3) := by decide +kernel
theorem dX3_close_9 : decode cX3_close 9 = .ok (.return_, 1) := by decide +kernel
theorem dX3_close_10 : decode cX3_close 10 = .ok (.aload_n 0, 1) := by decide +kernel
theorem dX3_close_11 : decode cX3_close 11 = .ok (.getfield 11, 3) := by decide +kernel
theorem dX3_close_14 : decode cX3_close 14 = .ok (.aload_n 0, 1) := by decide +kernel
theorem dX3_close_15 : decode cX3_close 15 = .ok (.getfield 20, 3) := by decide +kernel
theorem dX3_close_18 : decode cX3_close 18 = .ok (.aaload, 1) := by decide +kernel
theorem dX3_close_19 : decode cX3_close 19 = .ok (.iconst 0, 1) := by decide +kernel
theorem dX3_close_20 : decode cX3_close 20 = .ok (.iaload, 1) := by decide +kernel
theorem dX3_close_21 : decode cX3_close 21 = .ok (.iconst 4, 1) := by decide +kernel
theorem dX3_close_22 : decode cX3_close 22 = .ok (.if_icmp .gt 21, 3) := by decide +kernel
theorem dX3_close_25 : decode cX3_close 25 = .ok (.aload_n 0, 1) := by decide +kernel
theorem dX3_close_26 : decode cX3_close 26 = .ok (.dup, 1) := by decide +kernel
theorem dX3_close_27 : decode cX3_close 27 = .ok (.getfield 27, 3) := by decide +kernel
theorem dX3_close_30 : decode cX3_close 30 = .ok (.iconst 1, 1) := by decide +kernel
theorem dX3_close_31 : decode cX3_close 31 = .ok (.aload_n 0, 1) := by decide +kernel
theorem dX3_close_32 : decode cX3_close 32 = .ok (.getfield 20, 3) := by decide +kernel
theorem dX3_close_35 : decode cX3_close 35 = .ok (.ishl, 1) := by decide +kernel
theorem dX3_close_36 : decode cX3_close 36 = .ok (.ior, 1) := by decide +kernel
theorem dX3_close_37 : decode cX3_close 37 = .ok (.putfield 27, 3) := by decide +kernel
theorem dX3_close_40 : decode cX3_close 40 = .ok (.goto 13, 3) := by decide +kernel
theorem dX3_close_43 : decode cX3_close 43 = .ok (.aload_n 0, 1) := by decide +kernel
theorem dX3_close_44 : decode cX3_close 44 = .ok (.dup, 1) := by decide +kernel
theorem dX3_close_45 : decode cX3_close 45 = .ok (.getfield 24, 3) := by decide +kernel
theorem dX3_close_48 : decode cX3_close 48 = .ok (.iconst 1, 1) := by decide +kernel
theorem dX3_close_49 : decode cX3_close 49 = .ok (.iadd, 1) := by decide +kernel
theorem dX3_close_50 : decode cX3_close 50 = .ok (.putfield 24, 3) := by decide +kernel
theorem dX3_close_53 : decode cX3_close 53 = .ok (.aload_n 0, 1) := by decide +kernel
theorem dX3_close_54 : decode cX3_close 54 = .ok (.dup, 1) := by decide +kernel
theorem dX3_close_55 : decode cX3_close 55 = .ok (.getfield 20, 3) := by decide +kernel
theorem dX3_close_58 : decode cX3_close 58 = .ok (.iconst 1, 1) := by decide +kernel
theorem dX3_close_59 : decode cX3_close 59 = .ok (.iadd, 1) := by decide +kernel
theorem dX3_close_60 : decode cX3_close 60 = .ok (.putfield 20, 3) := by decide +kernel
theorem dX3_close_63 : decode cX3_close 63 = .ok (.return_, 1) := by decide +kernel
theorem dX3_ask_0 : decode cX3_ask 0 = .ok (.aload_n 0, 1) := by decide +kernel
theorem dX3_ask_1 : decode cX3_ask 1 = .ok (.getfield 16, 3) := by decide +kernel
theorem dX3_ask_4 : decode cX3_ask 4 = .ok (.iconst 0, 1) := by decide +kernel
theorem dX3_ask_5 : decode cX3_ask 5 = .ok (.iload_n 1, 1) := by decide +kernel
theorem dX3_ask_6 : decode cX3_ask 6 = .ok (.iastore, 1) := by decide +kernel
theorem dX3_ask_7 : decode cX3_ask 7 = .ok (.aload_n 0, 1) := by decide +kernel
theorem dX3_ask_8 : decode cX3_ask 8 = .ok (.getfield 16, 3) := by decide +kernel
theorem dX3_ask_11 : decode cX3_ask 11 = .ok (.iconst 1, 1) := by decide +kernel
theorem dX3_ask_12 : decode cX3_ask 12 = .ok (.iload_n 2, 1) := by decide +kernel
theorem dX3_ask_13 : decode cX3_ask 13 = .ok (.iastore, 1) := by decide +kernel
theorem dX3_ask_14 : decode cX3_ask 14 = .ok (.aload_n 0, 1) := by decide +kernel
theorem dX3_ask_15 : decode cX3_ask 15 = .ok (.getfield 16, 3) := by decide +kernel
theorem dX3_ask_18 : decode cX3_ask 18 = .ok (.iconst 2, 1) := by decide +kernel
theorem dX3_ask_19 : decode cX3_ask 19 = .ok (.iload_n 3, 1) := by decide +kernel
theorem dX3_ask_20 : decode cX3_ask 20 = .ok (.iastore, 1) := by decide +kernel
theorem dX3_ask_21 : decode cX3_ask 21 = .ok (.aload_n 0, 1) := by decide +kernel
theorem dX3_ask_22 : decode cX3_ask 22 = .ok (.getfield 16, 3) := by decide +kernel
theorem dX3_ask_25 : decode cX3_ask 25 = .ok (.iconst 3, 1) := by decide +kernel
theorem dX3_ask_26 : decode cX3_ask 26 = .ok (.iload 4, 2) := by decide +kernel
theorem dX3_ask_28 : decode cX3_ask 28 = .ok (.iastore, 1) := by decide +kernel
theorem dX3_ask_29 : decode cX3_ask 29 = .ok (.aload_n 0, 1) := by decide +kernel
theorem dX3_ask_30 : decode cX3_ask 30 = .ok (.getfield 16, 3) := by decide +kernel
theorem dX3_ask_33 : decode cX3_ask 33 = .ok (.iconst 4, 1) := by decide +kernel
theorem dX3_ask_34 : decode cX3_ask 34 = .ok (.iload_n 1, 1) := by decide +kernel
theorem dX3_ask_35 : decode cX3_ask 35 = .ok (.iconst 2, 1) := by decide +kernel
theorem dX3_ask_36 : decode cX3_ask 36 = .ok (.if_icmp .ne 7, 3) := by decide +kernel
theorem dX3_ask_39 : decode cX3_ask 39 = .ok (.iconst 0, 1) := by decide +kernel
theorem dX3_ask_40 : decode cX3_ask 40 = .ok (.goto 7, 3) := by decide +kernel
theorem dX3_ask_43 : decode cX3_ask 43 = .ok (.aload_n 0, 1) := by decide +kernel
theorem dX3_ask_44 : decode cX3_ask 44 = .ok (.getfield 24, 3) := by decide +kernel
theorem dX3_ask_47 : decode cX3_ask 47 = .ok (.iastore, 1) := by decide +kernel
theorem dX3_ask_48 : decode cX3_ask 48 = .ok (.aload_n 0, 1) := by decide +kernel
theorem dX3_ask_49 : decode cX3_ask 49 = .ok (.iconst 1, 1) := by decide +kernel
theorem dX3_ask_50 : decode cX3_ask 50 = .ok (.putfield 30, 3) := by decide +kernel
theorem dX3_ask_53 : decode cX3_ask 53 = .ok (.return_, 1) := by decide +kernel
theorem dX3_size_0 : decode cX3_size 0 = .ok (.aload_n 0, 1) := by decide +kernel
theorem dX3_size_1 : decode cX3_size 1 = .ok (.getfield 20, 3) := by decide +kernel
theorem dX3_size_4 : decode cX3_size 4 = .ok (.ireturn, 1) := by decide +kernel
theorem dX3_facts_0 : decode cX3_facts 0 = .ok (.aload_n 0, 1) := by decide +kernel
theorem dX3_facts_1 : decode cX3_facts 1 = .ok (.getfield 27, 3) := by decide +kernel
theorem dX3_facts_4 : decode cX3_facts 4 = .ok (.ireturn, 1) := by decide +kernel
theorem dX3_stages_0 : decode cX3_stages 0 = .ok (.aload_n 0, 1) := by decide +kernel
theorem dX3_stages_1 : decode cX3_stages 1 = .ok (.getfield 30, 3) := by decide +kernel
theorem dX3_stages_4 : decode cX3_stages 4 = .ok (.ifCond .eq 12, 3) := by decide +kernel
theorem dX3_stages_7 : decode cX3_stages 7 = .ok (.aload_n 0, 1) := by decide +kernel
theorem dX3_stages_8 : decode cX3_stages 8 = .ok (.getfield 24, 3) := by decide +kernel
theorem dX3_stages_11 : decode cX3_stages 11 = .ok (.iconst 1, 1) := by decide +kernel
theorem dX3_stages_12 : decode cX3_stages 12 = .ok (.iadd, 1) := by decide +kernel
theorem dX3_stages_13 : decode cX3_stages 13 = .ok (.goto 4, 3) := by decide +kernel
theorem dX3_stages_16 : decode cX3_stages 16 = .ok (.iconst 0, 1) := by decide +kernel
theorem dX3_stages_17 : decode cX3_stages 17 = .ok (.ireturn, 1) := by decide +kernel
theorem dX3_has_0 : decode cX3_has 0 = .ok (.iload_n 1, 1) := by decide +kernel
theorem dX3_has_1 : decode cX3_has 1 = .ok (.ifCond .lt 24, 3) := by decide +kernel
theorem dX3_has_4 : decode cX3_has 4 = .ok (.iload_n 1, 1) := by decide +kernel
theorem dX3_has_5 : decode cX3_has 5 = .ok (.aload_n 0, 1) := by decide +kernel
theorem dX3_has_6 : decode cX3_has 6 = .ok (.getfield 20, 3) := by decide +kernel
theorem dX3_has_9 : decode cX3_has 9 = .ok (.if_icmp .ge 16, 3) := by decide +kernel
theorem dX3_has_12 : decode cX3_has 12 = .ok (.aload_n 0, 1) := by decide +kernel
theorem dX3_has_13 : decode cX3_has 13 = .ok (.getfield 20, 3) := by decide +kernel
theorem dX3_has_16 : decode cX3_has 16 = .ok (.bipush 10, 2) := by decide +kernel
theorem dX3_has_18 : decode cX3_has 18 = .ok (.if_icmp .gt 7, 3) := by decide +kernel
theorem dX3_has_21 : decode cX3_has 21 = .ok (.iconst 1, 1) := by decide +kernel
theorem dX3_has_22 : decode cX3_has 22 = .ok (.goto 4, 3) := by decide +kernel
theorem dX3_has_25 : decode cX3_has 25 = .ok (.iconst 0, 1) := by decide +kernel
theorem dX3_has_26 : decode cX3_has 26 = .ok (.ireturn, 1) := by decide +kernel
set_option maxRecDepth 20000 in
theorem ggX3_part_X3_has : GoodIn wsX3_part wsX3_has := goodIn_r _ [6, 7, 8, 9, 10, 11, 12, 13] (by decide +kernel) (by decide +kernel)
set_option maxRecDepth 20000 in
theorem gX3_part_X3_has : GoodIn wsX3_part (wsV RX3 38 RX3 yX3_has wsX3_has) := goodIn_app (goodIn_of _ (by decide +kernel)) ggX3_part_X3_has
theorem dX3_part_0 : decode cX3_part 0 = .ok (.aload_n 0, 1) := by decide +kernel
theorem dX3_part_1 : decode cX3_part 1 = .ok (.iload_n 1, 1) := by decide +kernel
theorem dX3_part_2 : decode cX3_part 2 = .ok (.invokevirtual 38, 3) := by decide +kernel
theorem dX3_part_5 : decode cX3_part 5 = .ok (.ifCond .eq 24, 3) := by decide +kernel
theorem dX3_part_8 : decode cX3_part 8 = .ok (.iload_n 2, 1) := by decide +kernel
theorem dX3_part_9 : decode cX3_part 9 = .ok (.ifCond .lt 20, 3) := by decide +kernel
theorem dX3_part_12 : decode cX3_part 12 = .ok (.iload_n 2, 1) := by decide +kernel
theorem dX3_part_13 : decode cX3_part 13 = .ok (.bipush 7, 2) := by decide +kernel
theorem dX3_part_15 : decode cX3_part 15 = .ok (.if_icmp .ge 14, 3) := by decide +kernel
theorem dX3_part_18 : decode cX3_part 18 = .ok (.aload_n 0, 1) := by decide +kernel
theorem dX3_part_19 : decode cX3_part 19 = .ok (.getfield 11, 3) := by decide +kernel
theorem dX3_part_22 : decode cX3_part 22 = .ok (.iload_n 1, 1) := by decide +kernel
theorem dX3_part_23 : decode cX3_part 23 = .ok (.aaload, 1) := by decide +kernel
theorem dX3_part_24 : decode cX3_part 24 = .ok (.iload_n 2, 1) := by decide +kernel
theorem dX3_part_25 : decode cX3_part 25 = .ok (.iaload, 1) := by decide +kernel
theorem dX3_part_26 : decode cX3_part 26 = .ok (.goto 4, 3) := by decide +kernel
theorem dX3_part_29 : decode cX3_part 29 = .ok (.iconst (-1), 1) := by decide +kernel
theorem dX3_part_30 : decode cX3_part 30 = .ok (.ireturn, 1) := by decide +kernel
theorem dX3_asked_0 : decode cX3_asked 0 = .ok (.aload_n 0, 1) := by decide +kernel
theorem dX3_asked_1 : decode cX3_asked 1 = .ok (.getfield 30, 3) := by decide +kernel
theorem dX3_asked_4 : decode cX3_asked 4 = .ok (.ifCond .eq 21, 3) := by decide +kernel
theorem dX3_asked_7 : decode cX3_asked 7 = .ok (.iload_n 1, 1) := by decide +kernel
theorem dX3_asked_8 : decode cX3_asked 8 = .ok (.ifCond .lt 17, 3) := by decide +kernel
theorem dX3_asked_11 : decode cX3_asked 11 = .ok (.iload_n 1, 1) := by decide +kernel
theorem dX3_asked_12 : decode cX3_asked 12 = .ok (.iconst 5, 1) := by decide +kernel
theorem dX3_asked_13 : decode cX3_asked 13 = .ok (.if_icmp .ge 12, 3) := by decide +kernel
theorem dX3_asked_16 : decode cX3_asked 16 = .ok (.aload_n 0, 1) := by decide +kernel
theorem dX3_asked_17 : decode cX3_asked 17 = .ok (.getfield 16, 3) := by decide +kernel
theorem dX3_asked_20 : decode cX3_asked 20 = .ok (.iload_n 1, 1) := by decide +kernel
theorem dX3_asked_21 : decode cX3_asked 21 = .ok (.iaload, 1) := by decide +kernel
theorem dX3_asked_22 : decode cX3_asked 22 = .ok (.goto 4, 3) := by decide +kernel
theorem dX3_asked_25 : decode cX3_asked 25 = .ok (.iconst (-1), 1) := by decide +kernel
theorem dX3_asked_26 : decode cX3_asked 26 = .ok (.ireturn, 1) := by decide +kernel
set_option maxRecDepth 20000 in
theorem ggX3_allows_X3_part : GoodIn wsX3_allows wsX3_part := goodIn_r _ [5, 6, 7, 8, 9, 4, 10, 11, 12, 13, 14, 15, 16, 17] (by decide +kernel) (by decide +kernel)
set_option maxRecDepth 20000 in
theorem gX3_allows_X3_part : GoodIn wsX3_allows (wsV RX3 42 RX3 yX3_part wsX3_part) := goodIn_app (goodIn_of _ (by decide +kernel)) ggX3_allows_X3_part
set_option maxRecDepth 20000 in
theorem ggX3_allows_X3_has : GoodIn wsX3_allows wsX3_has := goodIn_r _ [10, 11, 12, 13, 14, 15, 16, 17] (by decide +kernel) (by decide +kernel)
set_option maxRecDepth 20000 in
theorem gX3_allows_X3_has : GoodIn wsX3_allows (wsV RX3 38 RX3 yX3_has wsX3_has) := goodIn_app (goodIn_of _ (by decide +kernel)) ggX3_allows_X3_has
theorem dX3_allows_0 : decode cX3_allows 0 = .ok (.aload_n 0, 1) := by decide +kernel
theorem dX3_allows_1 : decode cX3_allows 1 = .ok (.iload_n 1, 1) := by decide +kernel
theorem dX3_allows_2 : decode cX3_allows 2 = .ok (.iconst 0, 1) := by decide +kernel
theorem dX3_allows_3 : decode cX3_allows 3 = .ok (.invokevirtual 42, 3) := by decide +kernel
theorem dX3_allows_6 : decode cX3_allows 6 = .ok (.iconst 3, 1) := by decide +kernel
theorem dX3_allows_7 : decode cX3_allows 7 = .ok (.if_icmp .ne 20, 3) := by decide +kernel
theorem dX3_allows_10 : decode cX3_allows 10 = .ok (.iload_n 2, 1) := by decide +kernel
theorem dX3_allows_11 : decode cX3_allows 11 = .ok (.iconst 2, 1) := by decide +kernel
theorem dX3_allows_12 : decode cX3_allows 12 = .ok (.if_icmp .lt 13, 3) := by decide +kernel
theorem dX3_allows_15 : decode cX3_allows 15 = .ok (.iload_n 2, 1) := by decide +kernel
theorem dX3_allows_16 : decode cX3_allows 16 = .ok (.bipush 9, 2) := by decide +kernel
theorem dX3_allows_18 : decode cX3_allows 18 = .ok (.if_icmp .gt 7, 3) := by decide +kernel
theorem dX3_allows_21 : decode cX3_allows 21 = .ok (.iconst 1, 1) := by decide +kernel
theorem dX3_allows_22 : decode cX3_allows 22 = .ok (.goto 4, 3) := by decide +kernel
theorem dX3_allows_25 : decode cX3_allows 25 = .ok (.iconst 0, 1) := by decide +kernel
theorem dX3_allows_26 : decode cX3_allows 26 = .ok (.ireturn, 1) := by decide +kernel
theorem dX3_allows_27 : decode cX3_allows 27 = .ok (.aload_n 0, 1) := by decide +kernel
theorem dX3_allows_28 : decode cX3_allows 28 = .ok (.iload_n 1, 1) := by decide +kernel
theorem dX3_allows_29 : decode cX3_allows 29 = .ok (.invokevirtual 38, 3) := by decide +kernel
theorem dX3_allows_32 : decode cX3_allows 32 = .ok (.ifCond .eq 18, 3) := by decide +kernel
theorem dX3_allows_35 : decode cX3_allows 35 = .ok (.iload_n 2, 1) := by decide +kernel
theorem dX3_allows_36 : decode cX3_allows 36 = .ok (.ifCond .lt 14, 3) := by decide +kernel
theorem dX3_allows_39 : decode cX3_allows 39 = .ok (.iload_n 2, 1) := by decide +kernel
theorem dX3_allows_40 : decode cX3_allows 40 = .ok (.sipush 999, 3) := by decide +kernel
theorem dX3_allows_43 : decode cX3_allows 43 = .ok (.if_icmp .gt 7, 3) := by decide +kernel
theorem dX3_allows_46 : decode cX3_allows 46 = .ok (.iconst 1, 1) := by decide +kernel
theorem dX3_allows_47 : decode cX3_allows 47 = .ok (.goto 4, 3) := by decide +kernel
theorem dX3_allows_50 : decode cX3_allows 50 = .ok (.iconst 0, 1) := by decide +kernel
theorem dX3_allows_51 : decode cX3_allows 51 = .ok (.ireturn, 1) := by decide +kernel
set_option maxRecDepth 20000 in
theorem ggX3_setNumber_X3_has : GoodIn wsX3_setNumber wsX3_has := goodIn_r _ [6, 7, 8, 9, 10, 11, 12, 13] (by decide +kernel) (by decide +kernel)
set_option maxRecDepth 20000 in
theorem gX3_setNumber_X3_has : GoodIn wsX3_setNumber (wsV RX3 38 RX3 yX3_has wsX3_has) := goodIn_app (goodIn_of _ (by decide +kernel)) ggX3_setNumber_X3_has
theorem dX3_setNumber_0 : decode cX3_setNumber 0 = .ok (.aload_n 0, 1) := by decide +kernel
theorem dX3_setNumber_1 : decode cX3_setNumber 1 = .ok (.iload_n 1, 1) := by decide +kernel
theorem dX3_setNumber_2 : decode cX3_setNumber 2 = .ok (.invokevirtual 38, 3) := by decide +kernel
theorem dX3_setNumber_5 : decode cX3_setNumber 5 = .ok (.ifCond .eq 12, 3) := by decide +kernel
theorem dX3_setNumber_8 : decode cX3_setNumber 8 = .ok (.aload_n 0, 1) := by decide +kernel
theorem dX3_setNumber_9 : decode cX3_setNumber 9 = .ok (.getfield 11, 3) := by decide +kernel
theorem dX3_setNumber_12 : decode cX3_setNumber 12 = .ok (.iload_n 1, 1) := by decide +kernel
theorem dX3_setNumber_13 : decode cX3_setNumber 13 = .ok (.aaload, 1) := by decide +kernel
theorem dX3_setNumber_14 : decode cX3_setNumber 14 = .ok (.iconst 4, 1) := by decide +kernel
theorem dX3_setNumber_15 : decode cX3_setNumber 15 = .ok (.iload_n 2, 1) := by decide +kernel
theorem dX3_setNumber_16 : decode cX3_setNumber 16 = .ok (.iastore, 1) := by decide +kernel
theorem dX3_setNumber_17 : decode cX3_setNumber 17 = .ok (.return_, 1) := by decide +kernel
set_option maxRecDepth 20000 in
theorem ggX3_gain_X3_gainBy : GoodIn wsX3_gain wsX3_gainBy := goodIn_r _ [6] (by decide +kernel) (by decide +kernel)
set_option maxRecDepth 20000 in
theorem gX3_gain_X3_gainBy : GoodIn wsX3_gain (va_wsS RX3 46 yX3_gainBy wsX3_gainBy) := goodIn_app (goodIn_of _ (by decide +kernel)) ggX3_gain_X3_gainBy
theorem dX3_gain_0 : decode cX3_gain 0 = .ok (.lconst 0, 1) := by decide +kernel
theorem dX3_gain_1 : decode cX3_gain 1 = .ok (.lstore 4, 2) := by decide +kernel
theorem dX3_gain_3 : decode cX3_gain 3 = .ok (.iconst 0, 1) := by decide +kernel
theorem dX3_gain_4 : decode cX3_gain 4 = .ok (.istore 6, 2) := by decide +kernel
theorem dX3_gain_6 : decode cX3_gain 6 = .ok (.iload 6, 2) := by decide +kernel
theorem dX3_gain_8 : decode cX3_gain 8 = .ok (.aload_n 0, 1) := by decide +kernel
theorem dX3_gain_9 : decode cX3_gain 9 = .ok (.getfield 20, 3) := by decide +kernel
theorem dX3_gain_12 : decode cX3_gain 12 = .ok (.if_icmp .ge 53, 3) := by decide +kernel
theorem dX3_gain_15 : decode cX3_gain 15 = .ok (.iload 6, 2) := by decide +kernel
theorem dX3_gain_17 : decode cX3_gain 17 = .ok (.bipush 10, 2) := by decide +kernel
theorem dX3_gain_19 : decode cX3_gain 19 = .ok (.if_icmp .ge 46, 3) := by decide +kernel
theorem dX3_gain_22 : decode cX3_gain 22 = .ok (.aload_n 0, 1) := by decide +kernel
theorem dX3_gain_23 : decode cX3_gain 23 = .ok (.getfield 11, 3) := by decide +kernel
theorem dX3_gain_26 : decode cX3_gain 26 = .ok (.iload 6, 2) := by decide +kernel
theorem dX3_gain_28 : decode cX3_gain 28 = .ok (.aaload, 1) := by decide +kernel
theorem dX3_gain_29 : decode cX3_gain 29 = .ok (.astore 7, 2) := by decide +kernel
theorem dX3_gain_31 : decode cX3_gain 31 = .ok (.aload 7, 2) := by decide +kernel
theorem dX3_gain_33 : decode cX3_gain 33 = .ok (.iconst 3, 1) := by decide +kernel
theorem dX3_gain_34 : decode cX3_gain 34 = .ok (.iaload, 1) := by decide +kernel
theorem dX3_gain_35 : decode cX3_gain 35 = .ok (.iload_n 2, 1) := by decide +kernel
theorem dX3_gain_36 : decode cX3_gain 36 = .ok (.if_icmp .ne 23, 3) := by decide +kernel
theorem dX3_gain_39 : decode cX3_gain 39 = .ok (.aload 7, 2) := by decide +kernel
theorem dX3_gain_41 : decode cX3_gain 41 = .ok (.iconst 5, 1) := by decide +kernel
theorem dX3_gain_42 : decode cX3_gain 42 = .ok (.iaload, 1) := by decide +kernel
theorem dX3_gain_43 : decode cX3_gain 43 = .ok (.iload_n 3, 1) := by decide +kernel
theorem dX3_gain_44 : decode cX3_gain 44 = .ok (.if_icmp .ge 15, 3) := by decide +kernel
theorem dX3_gain_47 : decode cX3_gain 47 = .ok (.lload 4, 2) := by decide +kernel
theorem dX3_gain_49 : decode cX3_gain 49 = .ok (.aload 7, 2) := by decide +kernel
theorem dX3_gain_51 : decode cX3_gain 51 = .ok (.iload_n 1, 1) := by decide +kernel
theorem dX3_gain_52 : decode cX3_gain 52 = .ok (.invokestatic 46, 3) := by decide +kernel
theorem dX3_gain_55 : decode cX3_gain 55 = .ok (.i2l, 1) := by decide +kernel
theorem dX3_gain_56 : decode cX3_gain 56 = .ok (.ladd, 1) := by decide +kernel
theorem dX3_gain_57 : decode cX3_gain 57 = .ok (.lstore 4, 2) := by decide +kernel
theorem dX3_gain_59 : decode cX3_gain 59 = .ok (.iinc 6 1, 3) := by decide +kernel
theorem dX3_gain_62 : decode cX3_gain 62 = .ok (.goto (-56), 3) := by decide +kernel
theorem dX3_gain_65 : decode cX3_gain 65 = .ok (.lload 4, 2) := by decide +kernel
theorem dX3_gain_67 : decode cX3_gain 67 = .ok (.lreturn, 1) := by decide +kernel
theorem dX3_gainBy_0 : decode cX3_gainBy 0 = .ok (.aload_n 0, 1) := by decide +kernel
theorem dX3_gainBy_1 : decode cX3_gainBy 1 = .ok (.iconst 4, 1) := by decide +kernel
theorem dX3_gainBy_2 : decode cX3_gainBy 2 = .ok (.iaload, 1) := by decide +kernel
theorem dX3_gainBy_3 : decode cX3_gainBy 3 = .ok (.istore_n 2, 1) := by decide +kernel
theorem dX3_gainBy_4 : decode cX3_gainBy 4 = .ok (.aload_n 0, 1) := by decide +kernel
theorem dX3_gainBy_5 : decode cX3_gainBy 5 = .ok (.iconst 1, 1) := by decide +kernel
theorem dX3_gainBy_6 : decode cX3_gainBy 6 = .ok (.iaload, 1) := by decide +kernel
theorem dX3_gainBy_7 : decode cX3_gainBy 7 = .ok (.iload_n 1, 1) := by decide +kernel
theorem dX3_gainBy_8 : decode cX3_gainBy 8 = .ok (.if_icmp .ne 7, 3) := by decide +kernel
theorem dX3_gainBy_11 : decode cX3_gainBy 11 = .ok (.iconst 1, 1) := by decide +kernel
theorem dX3_gainBy_12 : decode cX3_gainBy 12 = .ok (.goto 4, 3) := by decide +kernel
theorem dX3_gainBy_15 : decode cX3_gainBy 15 = .ok (.iconst 0, 1) := by decide +kernel
theorem dX3_gainBy_16 : decode cX3_gainBy 16 = .ok (.istore_n 3, 1) := by decide +kernel
theorem dX3_gainBy_17 : decode cX3_gainBy 17 = .ok (.aload_n 0, 1) := by decide +kernel
theorem dX3_gainBy_18 : decode cX3_gainBy 18 = .ok (.iconst 0, 1) := by decide +kernel
theorem dX3_gainBy_19 : decode cX3_gainBy 19 = .ok (.iaload, 1) := by decide +kernel
theorem dX3_gainBy_20 : decode cX3_gainBy 20 = .ok (.tableswitch 69 5 7 #[28, 48, 58], 28) := by decide +kernel
theorem dX3_gainBy_48 : decode cX3_gainBy 48 = .ok (.iload_n 3, 1) := by decide +kernel
theorem dX3_gainBy_49 : decode cX3_gainBy 49 = .ok (.ifCond .eq 6, 3) := by decide +kernel
theorem dX3_gainBy_52 : decode cX3_gainBy 52 = .ok (.iload_n 2, 1) := by decide +kernel
theorem dX3_gainBy_53 : decode cX3_gainBy 53 = .ok (.ineg, 1) := by decide +kernel
theorem dX3_gainBy_54 : decode cX3_gainBy 54 = .ok (.ireturn, 1) := by decide +kernel
theorem dX3_gainBy_55 : decode cX3_gainBy 55 = .ok (.aload_n 0, 1) := by decide +kernel
theorem dX3_gainBy_56 : decode cX3_gainBy 56 = .ok (.iconst 2, 1) := by decide +kernel
theorem dX3_gainBy_57 : decode cX3_gainBy 57 = .ok (.iaload, 1) := by decide +kernel
theorem dX3_gainBy_58 : decode cX3_gainBy 58 = .ok (.iload_n 1, 1) := by decide +kernel
theorem dX3_gainBy_59 : decode cX3_gainBy 59 = .ok (.if_icmp .ne 7, 3) := by decide +kernel
theorem dX3_gainBy_62 : decode cX3_gainBy 62 = .ok (.iload_n 2, 1) := by decide +kernel
theorem dX3_gainBy_63 : decode cX3_gainBy 63 = .ok (.goto 4, 3) := by decide +kernel
theorem dX3_gainBy_66 : decode cX3_gainBy 66 = .ok (.iconst 0, 1) := by decide +kernel
theorem dX3_gainBy_67 : decode cX3_gainBy 67 = .ok (.ireturn, 1) := by decide +kernel
theorem dX3_gainBy_68 : decode cX3_gainBy 68 = .ok (.iload_n 3, 1) := by decide +kernel
theorem dX3_gainBy_69 : decode cX3_gainBy 69 = .ok (.ifCond .eq 7, 3) := by decide +kernel
theorem dX3_gainBy_72 : decode cX3_gainBy 72 = .ok (.iload_n 2, 1) := by decide +kernel
theorem dX3_gainBy_73 : decode cX3_gainBy 73 = .ok (.goto 4, 3) := by decide +kernel
theorem dX3_gainBy_76 : decode cX3_gainBy 76 = .ok (.iconst 0, 1) := by decide +kernel
theorem dX3_gainBy_77 : decode cX3_gainBy 77 = .ok (.ireturn, 1) := by decide +kernel
theorem dX3_gainBy_78 : decode cX3_gainBy 78 = .ok (.iload_n 3, 1) := by decide +kernel
theorem dX3_gainBy_79 : decode cX3_gainBy 79 = .ok (.ifCond .eq 8, 3) := by decide +kernel
theorem dX3_gainBy_82 : decode cX3_gainBy 82 = .ok (.iload_n 2, 1) := by decide +kernel
theorem dX3_gainBy_83 : decode cX3_gainBy 83 = .ok (.ineg, 1) := by decide +kernel
theorem dX3_gainBy_84 : decode cX3_gainBy 84 = .ok (.goto 4, 3) := by decide +kernel
theorem dX3_gainBy_87 : decode cX3_gainBy 87 = .ok (.iconst 0, 1) := by decide +kernel
theorem dX3_gainBy_88 : decode cX3_gainBy 88 = .ok (.ireturn, 1) := by decide +kernel
theorem dX3_gainBy_89 : decode cX3_gainBy 89 = .ok (.iconst 0, 1) := by decide +kernel
theorem dX3_gainBy_90 : decode cX3_gainBy 90 = .ok (.ireturn, 1) := by decide +kernel
set_option maxRecDepth 20000 in
theorem ggX4_init_X1_init : GoodIn wsX4_init wsX1_init := goodIn_r _ [24, 25, 2, 3, 26, 10, 27, 28, 29, 44, 45] (by decide +kernel) (by decide +kernel)
set_option maxRecDepth 20000 in
theorem gX4_init_X1_init_n17 : GoodIn wsX4_init (wsX1_init) := ggX4_init_X1_init
theorem dX4_init_0 : decode cX4_init 0 = .ok (.aload_n 0, 1) := by decide +kernel
theorem dX4_init_1 : decode cX4_init 1 = .ok (.invokespecial 3, 3) := by decide +kernel
theorem dX4_init_4 : decode cX4_init 4 = .ok (.aload_n 0, 1) := by decide +kernel
theorem dX4_init_5 : decode cX4_init 5 = .ok (.iconst 4, 1) := by decide +kernel
theorem dX4_init_6 : decode cX4_init 6 = .ok (.anewarray 9, 3) := by decide +kernel
theorem dX4_init_9 : decode cX4_init 9 = .ok (.putfield 11, 3) := by decide +kernel
theorem dX4_init_12 : decode cX4_init 12 = .ok (.aload_n 0, 1) := by decide +kernel
theorem dX4_init_13 : decode cX4_init 13 = .ok (.new 9, 3) := by decide +kernel
theorem dX4_init_16 : decode cX4_init 16 = .ok (.dup, 1) := by decide +kernel
theorem dX4_init_17 : decode cX4_init 17 = .ok (.invokespecial 17, 3) := by decide +kernel
theorem dX4_init_20 : decode cX4_init 20 = .ok (.putfield 18, 3) := by decide +kernel
theorem dX4_init_23 : decode cX4_init 23 = .ok (.aload_n 0, 1) := by decide +kernel
theorem dX4_init_24 : decode cX4_init 24 = .ok (.bipush 10, 2) := by decide +kernel
theorem dX4_init_26 : decode cX4_init 26 = .ok (.bipush 10, 2) := by decide +kernel
theorem dX4_init_28 : decode cX4_init 28 = .ok (.multianewarray 22 2, 4) := by decide +kernel
theorem dX4_init_32 : decode cX4_init 32 = .ok (.putfield 24, 3) := by decide +kernel
theorem dX4_init_35 : decode cX4_init 35 = .ok (.aload_n 0, 1) := by decide +kernel
theorem dX4_init_36 : decode cX4_init 36 = .ok (.bipush 10, 2) := by decide +kernel
theorem dX4_init_38 : decode cX4_init 38 = .ok (.newarray .long, 2) := by decide +kernel
theorem dX4_init_40 : decode cX4_init 40 = .ok (.putfield 27, 3) := by decide +kernel
theorem dX4_init_43 : decode cX4_init 43 = .ok (.aload_n 0, 1) := by decide +kernel
theorem dX4_init_44 : decode cX4_init 44 = .ok (.bipush 10, 2) := by decide +kernel
theorem dX4_init_46 : decode cX4_init 46 = .ok (.newarray .long, 2) := by decide +kernel
theorem dX4_init_48 : decode cX4_init 48 = .ok (.putfield 31, 3) := by decide +kernel
theorem dX4_init_51 : decode cX4_init 51 = .ok (.aload_n 0, 1) := by decide +kernel
theorem dX4_init_52 : decode cX4_init 52 = .ok (.bipush 10, 2) := by decide +kernel
theorem dX4_init_54 : decode cX4_init 54 = .ok (.newarray .long, 2) := by decide +kernel
theorem dX4_init_56 : decode cX4_init 56 = .ok (.putfield 34, 3) := by decide +kernel
theorem dX4_init_59 : decode cX4_init 59 = .ok (.aload_n 0, 1) := by decide +kernel
theorem dX4_init_60 : decode cX4_init 60 = .ok (.bipush 32, 2) := by decide +kernel
theorem dX4_init_62 : decode cX4_init 62 = .ok (.newarray .long, 2) := by decide +kernel
theorem dX4_init_64 : decode cX4_init 64 = .ok (.putfield 37, 3) := by decide +kernel
theorem dX4_init_67 : decode cX4_init 67 = .ok (.aload_n 0, 1) := by decide +kernel
theorem dX4_init_68 : decode cX4_init 68 = .ok (.bipush 32, 2) := by decide +kernel
theorem dX4_init_70 : decode cX4_init 70 = .ok (.newarray .long, 2) := by decide +kernel
theorem dX4_init_72 : decode cX4_init 72 = .ok (.putfield 40, 3) := by decide +kernel
theorem dX4_init_75 : decode cX4_init 75 = .ok (.aload_n 0, 1) := by decide +kernel
theorem dX4_init_76 : decode cX4_init 76 = .ok (.iconst (-1), 1) := by decide +kernel
theorem dX4_init_77 : decode cX4_init 77 = .ok (.putfield 43, 3) := by decide +kernel
theorem dX4_init_80 : decode cX4_init 80 = .ok (.aload_n 0, 1) := by decide +kernel
theorem dX4_init_81 : decode cX4_init 81 = .ok (.lconst 0, 1) := by decide +kernel
theorem dX4_init_82 : decode cX4_init 82 = .ok (.putfield 47, 3) := by decide +kernel
theorem dX4_init_85 : decode cX4_init 85 = .ok (.aload_n 0, 1) := by decide +kernel
theorem dX4_init_86 : decode cX4_init 86 = .ok (.lconst 0, 1) := by decide +kernel
theorem dX4_init_87 : decode cX4_init 87 = .ok (.putfield 51, 3) := by decide +kernel
theorem dX4_init_90 : decode cX4_init 90 = .ok (.aload_n 0, 1) := by decide +kernel
theorem dX4_init_91 : decode cX4_init 91 = .ok (.iconst (-1), 1) := by decide +kernel
theorem dX4_init_92 : decode cX4_init 92 = .ok (.putfield 54, 3) := by decide +kernel
theorem dX4_init_95 : decode cX4_init 95 = .ok (.aload_n 0, 1) := by decide +kernel
theorem dX4_init_96 : decode cX4_init 96 = .ok (.iconst (-1), 1) := by decide +kernel
theorem dX4_init_97 : decode cX4_init 97 = .ok (.putfield 57, 3) := by decide +kernel
theorem dX4_init_100 : decode cX4_init 100 = .ok (.iconst 0, 1) := by decide +kernel
theorem dX4_init_101 : decode cX4_init 101 = .ok (.istore_n 2, 1) := by decide +kernel
theorem dX4_init_102 : decode cX4_init 102 = .ok (.iload_n 2, 1) := by decide +kernel
theorem dX4_init_103 : decode cX4_init 103 = .ok (.iconst 4, 1) := by decide +kernel
theorem dX4_init_104 : decode cX4_init 104 = .ok (.if_icmp .ge 22, 3) := by decide +kernel
theorem dX4_init_107 : decode cX4_init 107 = .ok (.aload_n 0, 1) := by decide +kernel
theorem dX4_init_108 : decode cX4_init 108 = .ok (.getfield 11, 3) := by decide +kernel
theorem dX4_init_111 : decode cX4_init 111 = .ok (.iload_n 2, 1) := by decide +kernel
theorem dX4_init_112 : decode cX4_init 112 = .ok (.new 9, 3) := by decide +kernel
theorem dX4_init_115 : decode cX4_init 115 = .ok (.dup, 1) := by decide +kernel
theorem dX4_init_116 : decode cX4_init 116 = .ok (.invokespecial 17, 3) := by decide +kernel
theorem dX4_init_119 : decode cX4_init 119 = .ok (.aastore, 1) := by decide +kernel
theorem dX4_init_120 : decode cX4_init 120 = .ok (.iinc 2 1, 3) := by decide +kernel
theorem dX4_init_123 : decode cX4_init 123 = .ok (.goto (-21), 3) := by decide +kernel
theorem dX4_init_126 : decode cX4_init 126 = .ok (.aload_n 0, 1) := by decide +kernel
theorem dX4_init_127 : decode cX4_init 127 = .ok (.aload_n 1, 1) := by decide +kernel
theorem dX4_init_128 : decode cX4_init 128 = .ok (.putfield 60, 3) := by decide +kernel
theorem dX4_init_131 : decode cX4_init 131 = .ok (.return_, 1) := by decide +kernel
set_option maxRecDepth 20000 in
theorem ggX4_begin_X4_solve : GoodIn wsX4_begin wsX4_solve := goodIn_r _ [6, 7, 8, 9, 10, 11, 12, 13, 14, 15, 16, 17, 18, 19, 5, 20, 1, 21, 22, 23, 24, 25, 26, 27, 28, 29, 30, 31, 32, 33, 34, 35, 36, 37, 38, 39, 40, 41, 42, 43, 44, 45, 46, 47, 48, 49, 50, 51, 52, 53, 54, 55, 56, 57, 58, 59, 60, 61, 62, 63, 64, 65, 66, 67, 68, 69, 70, 71, 72, 73, 74, 75, 76, 77, 78, 79, 80, 81, 82, 83, 84, 85, 86, 87, 88, 89, 90, 91, 92, 93, 94, 95, 96, 97, 98, 99, 100, 101, 102, 103, 104, 105, 106, 107, 108, 109, 110, 111, 112, 113, 114, 115, 116, 117, 118, 119, 120, 121, 122, 123, 124, 125, 126, 127, 128, 129, 130, 131, 132, 133, 134, 135, 136, 137, 138, 139, 140, 141, 142, 143, 144] (by decide +kernel) (by decide +kernel)
set_option maxRecDepth 20000 in
theorem gX4_begin_X4_solve : GoodIn wsX4_begin (wsV RX4 64 RX4 yX4_solve wsX4_solve) := goodIn_app (goodIn_of _ (by decide +kernel)) ggX4_begin_X4_solve
theorem dX4_begin_0 : decode cX4_begin 0 = .ok (.aload_n 0, 1) := by decide +kernel
theorem dX4_begin_1 : decode cX4_begin 1 = .ok (.aload_n 1, 1) := by decide +kernel
theorem dX4_begin_2 : decode cX4_begin 2 = .ok (.putfield 60, 3) := by decide +kernel
theorem dX4_begin_5 : decode cX4_begin 5 = .ok (.aload_n 0, 1) := by decide +kernel
theorem dX4_begin_6 : decode cX4_begin 6 = .ok (.invokevirtual 64, 3) := by decide +kernel
theorem dX4_begin_9 : decode cX4_begin 9 = .ok (.return_, 1) := by decide +kernel
set_option maxRecDepth 20000 in
theorem ggX4_solve_J7_fill_d0a16 : GoodIn wsX4_solve wsJ7_fill_d0a16 := goodIn_r _ [10] (by decide +kernel) (by decide +kernel)
set_option maxRecDepth 20000 in
theorem gX4_solve_J7_fill_d0a16 : GoodIn wsX4_solve (va_wsS RX4 67 yJ7_fill_d0a16 wsJ7_fill_d0a16) := goodIn_app (goodIn_of _ (by decide +kernel)) ggX4_solve_J7_fill_d0a16
set_option maxRecDepth 20000 in
theorem ggX4_solve_X4_makeLaws : GoodIn wsX4_solve wsX4_makeLaws := goodIn_r _ [15, 16, 17, 18, 19, 20, 21, 22, 23, 24, 25, 26, 27, 28, 29, 30, 31, 32, 33, 7, 8, 9, 10, 34, 35, 14, 36, 37, 38, 39, 40, 41, 42, 43, 44, 45, 46, 47, 48, 49, 50, 51, 52, 53, 54, 55, 56, 57, 58, 59, 119, 120, 121, 122, 123, 124, 125, 126, 127, 128, 129, 130, 131, 132, 133, 134, 135, 136, 137, 138] (by decide +kernel) (by decide +kernel)
set_option maxRecDepth 20000 in
theorem gX4_solve_X4_makeLaws : GoodIn wsX4_solve (wsV RX4 73 RX4 yX4_makeLaws wsX4_makeLaws) := goodIn_app (goodIn_of _ (by decide +kernel)) ggX4_solve_X4_makeLaws
set_option maxRecDepth 20000 in
theorem ggX4_solve_X4_addFacts : GoodIn wsX4_solve wsX4_addFacts := goodIn_r _ [63, 64, 16, 1, 17, 65, 66, 67, 68, 69, 70, 71, 72, 73, 74, 75, 19, 20, 21, 22, 23, 24, 25, 26, 27, 28, 29, 30, 31, 32, 33, 76, 77, 78, 14, 79, 80, 81, 82, 83, 84, 85, 86, 87, 88, 89, 90, 91, 92, 93, 94, 95, 96, 97, 98, 99, 100, 101, 102, 103, 104, 105, 106, 119, 120, 121, 122, 123, 124, 125, 126, 127, 128, 129, 130, 131, 132, 139, 140, 133, 134, 135, 136, 137, 138] (by decide +kernel) (by decide +kernel)
set_option maxRecDepth 20000 in
theorem gX4_solve_X4_addFacts : GoodIn wsX4_solve (wsV RX4 76 RX4 yX4_addFacts wsX4_addFacts) := goodIn_app (goodIn_of _ (by decide +kernel)) ggX4_solve_X4_addFacts
set_option maxRecDepth 20000 in
theorem ggX4_solve_X4_settleAmounts : GoodIn wsX4_solve wsX4_settleAmounts := goodIn_r _ [110, 65, 111, 64, 112, 6, 57, 58, 14, 59, 7, 8, 9, 10, 113, 92, 93, 73, 94, 75, 89, 95, 96, 97, 98, 99, 100, 114, 102, 103, 119, 120, 121, 122, 123, 124, 125, 126, 127, 128, 129, 130, 131, 132, 139, 140] (by decide +kernel) (by decide +kernel)
set_option maxRecDepth 20000 in
theorem gX4_solve_X4_settleAmounts : GoodIn wsX4_solve (wsV RX4 79 RX4 yX4_settleAmounts wsX4_settleAmounts) := goodIn_app (goodIn_of _ (by decide +kernel)) ggX4_solve_X4_settleAmounts
set_option maxRecDepth 20000 in
theorem ggX4_solve_X4_settleAnswer : GoodIn wsX4_solve wsX4_settleAnswer := goodIn_r _ [118, 16, 18, 65, 66, 67, 68, 69, 64, 2, 3, 51, 52, 53, 22, 54, 55, 56, 113, 92, 93, 73, 94, 75, 89, 95, 96, 97, 98, 99, 100, 114, 102, 103, 119, 120, 121, 122, 123, 124, 125, 126, 127, 128, 129, 130, 131, 132, 133, 134, 135, 136, 137, 138, 139, 140] (by decide +kernel) (by decide +kernel)
set_option maxRecDepth 20000 in
theorem gX4_solve_X4_settleAnswer : GoodIn wsX4_solve (wsV RX4 82 RX4 yX4_settleAnswer wsX4_settleAnswer) := goodIn_app (goodIn_of _ (by decide +kernel)) ggX4_solve_X4_settleAnswer
theorem dX4_solve_0 : decode cX4_solve 0 = .ok (.aload_n 0, 1) := by decide +kernel
theorem dX4_solve_1 : decode cX4_solve 1 = .ok (.iconst (-1), 1) := by decide +kernel
theorem dX4_solve_2 : decode cX4_solve 2 = .ok (.putfield 43, 3) := by decide +kernel
theorem dX4_solve_5 : decode cX4_solve 5 = .ok (.aload_n 0, 1) := by decide +kernel
theorem dX4_solve_6 : decode cX4_solve 6 = .ok (.lconst 0, 1) := by decide +kernel
theorem dX4_solve_7 : decode cX4_solve 7 = .ok (.putfield 47, 3) := by decide +kernel
theorem dX4_solve_10 : decode cX4_solve 10 = .ok (.aload_n 0, 1) := by decide +kernel
theorem dX4_solve_11 : decode cX4_solve 11 = .ok (.lconst 0, 1) := by decide +kernel
theorem dX4_solve_12 : decode cX4_solve 12 = .ok (.putfield 51, 3) := by decide +kernel
theorem dX4_solve_15 : decode cX4_solve 15 = .ok (.aload_n 0, 1) := by decide +kernel
theorem dX4_solve_16 : decode cX4_solve 16 = .ok (.iconst (-1), 1) := by decide +kernel
theorem dX4_solve_17 : decode cX4_solve 17 = .ok (.putfield 54, 3) := by decide +kernel
theorem dX4_solve_20 : decode cX4_solve 20 = .ok (.aload_n 0, 1) := by decide +kernel
theorem dX4_solve_21 : decode cX4_solve 21 = .ok (.iconst (-1), 1) := by decide +kernel
theorem dX4_solve_22 : decode cX4_solve 22 = .ok (.putfield 57, 3) := by decide +kernel
theorem dX4_solve_25 : decode cX4_solve 25 = .ok (.aload_n 0, 1) := by decide +kernel
theorem dX4_solve_26 : decode cX4_solve 26 = .ok (.getfield 40, 3) := by decide +kernel
theorem dX4_solve_29 : decode cX4_solve 29 = .ok (.lconst 0, 1) := by decide +kernel
theorem dX4_solve_30 : decode cX4_solve 30 = .ok (.invokestatic 67, 3) := by decide +kernel
theorem dX4_solve_33 : decode cX4_solve 33 = .ok (.aload_n 0, 1) := by decide +kernel
theorem dX4_solve_34 : decode cX4_solve 34 = .ok (.invokevirtual 73, 3) := by decide +kernel
theorem dX4_solve_37 : decode cX4_solve 37 = .ok (.aload_n 0, 1) := by decide +kernel
theorem dX4_solve_38 : decode cX4_solve 38 = .ok (.invokevirtual 76, 3) := by decide +kernel
theorem dX4_solve_41 : decode cX4_solve 41 = .ok (.aload_n 0, 1) := by decide +kernel
theorem dX4_solve_42 : decode cX4_solve 42 = .ok (.getfield 43, 3) := by decide +kernel
theorem dX4_solve_45 : decode cX4_solve 45 = .ok (.iconst (-1), 1) := by decide +kernel
theorem dX4_solve_46 : decode cX4_solve 46 = .ok (.if_icmp .ne 11, 3) := by decide +kernel
theorem dX4_solve_49 : decode cX4_solve 49 = .ok (.aload_n 0, 1) := by decide +kernel
theorem dX4_solve_50 : decode cX4_solve 50 = .ok (.invokevirtual 79, 3) := by decide +kernel
theorem dX4_solve_53 : decode cX4_solve 53 = .ok (.aload_n 0, 1) := by decide +kernel
theorem dX4_solve_54 : decode cX4_solve 54 = .ok (.invokevirtual 82, 3) := by decide +kernel
theorem dX4_solve_57 : decode cX4_solve 57 = .ok (.return_, 1) := by decide +kernel
set_option maxRecDepth 20000 in
theorem ggX4_makeLaws_X3_size : GoodIn wsX4_makeLaws wsX3_size := goodIn_r _ [8, 9, 64, 65, 66, 67, 68, 69] (by decide +kernel) (by decide +kernel)
set_option maxRecDepth 20000 in
theorem gX4_makeLaws_X3_size : GoodIn wsX4_makeLaws (wsV RX4 85 RX3 yX3_size wsX3_size) := goodIn_app (goodIn_of _ (by decide +kernel)) ggX4_makeLaws_X3_size
set_option maxRecDepth 20000 in
theorem ggX4_makeLaws_X3_part : GoodIn wsX4_makeLaws wsX3_part := goodIn_r _ [13, 14, 15, 16, 17, 7, 18, 9, 64, 65, 66, 67, 68, 69] (by decide +kernel) (by decide +kernel)
set_option maxRecDepth 20000 in
theorem gX4_makeLaws_X3_part : GoodIn wsX4_makeLaws (wsV RX4 91 RX3 yX3_part wsX3_part) := goodIn_app (goodIn_of _ (by decide +kernel)) ggX4_makeLaws_X3_part
set_option maxRecDepth 20000 in
theorem ggX4_makeLaws_J7_fill_d0a16 : GoodIn wsX4_makeLaws wsJ7_fill_d0a16 := goodIn_r _ [22] (by decide +kernel) (by decide +kernel)
set_option maxRecDepth 20000 in
theorem gX4_makeLaws_J7_fill_d0a16 : GoodIn wsX4_makeLaws (va_wsS RX4 67 yJ7_fill_d0a16 wsJ7_fill_d0a16) := goodIn_app (goodIn_of _ (by decide +kernel)) ggX4_makeLaws_J7_fill_d0a16
set_option maxRecDepth 20000 in
theorem ggX4_makeLaws_X4_madeBy : GoodIn wsX4_makeLaws wsX4_madeBy := goodIn_r _ [26] (by decide +kernel) (by decide +kernel)
set_option maxRecDepth 20000 in
theorem gX4_makeLaws_X4_madeBy : GoodIn wsX4_makeLaws (va_wsS RX4 95 yX4_madeBy wsX4_madeBy) := goodIn_app (goodIn_of _ (by decide +kernel)) ggX4_makeLaws_X4_madeBy
set_option maxRecDepth 20000 in
theorem ggX4_makeLaws_X4_weigh : GoodIn wsX4_makeLaws wsX4_weigh := goodIn_r _ [30, 1, 31, 32, 33, 7, 34, 9, 14, 35, 36, 37, 50, 51, 52, 53, 54, 55, 56, 57, 58, 59, 60, 61, 62, 63, 64, 65, 66, 67, 68, 69] (by decide +kernel) (by decide +kernel)
set_option maxRecDepth 20000 in
theorem gX4_makeLaws_X4_weigh : GoodIn wsX4_makeLaws (wsV RX4 98 RX4 yX4_weigh wsX4_weigh) := goodIn_app (goodIn_of _ (by decide +kernel)) ggX4_makeLaws_X4_weigh
set_option maxRecDepth 20000 in
theorem ggX4_makeLaws_X4_secondWeight : GoodIn wsX4_makeLaws wsX4_secondWeight := goodIn_r _ [40] (by decide +kernel) (by decide +kernel)
set_option maxRecDepth 20000 in
theorem gX4_makeLaws_X4_secondWeight : GoodIn wsX4_makeLaws (va_wsS RX4 102 yX4_secondWeight wsX4_secondWeight) := goodIn_app (goodIn_of _ (by decide +kernel)) ggX4_makeLaws_X4_secondWeight
set_option maxRecDepth 20000 in
theorem ggX4_makeLaws_X3_asked : GoodIn wsX4_makeLaws wsX3_asked := goodIn_r _ [44, 45, 46, 64, 65, 66, 67, 68, 69] (by decide +kernel) (by decide +kernel)
set_option maxRecDepth 20000 in
theorem gX4_makeLaws_X3_asked : GoodIn wsX4_makeLaws (wsV RX4 105 RX3 yX3_asked wsX3_asked) := goodIn_app (goodIn_of _ (by decide +kernel)) ggX4_makeLaws_X3_asked
set_option maxRecDepth 20000 in
theorem ggX4_makeLaws_X4_startSought : GoodIn wsX4_makeLaws wsX4_startSought := goodIn_r _ [49, 19, 20, 21, 22] (by decide +kernel) (by decide +kernel)
set_option maxRecDepth 20000 in
theorem gX4_makeLaws_X4_startSought : GoodIn wsX4_makeLaws (va_wsS RX4 109 yX4_startSought wsX4_startSought) := goodIn_app (goodIn_of _ (by decide +kernel)) ggX4_makeLaws_X4_startSought
theorem dX4_makeLaws_0 : decode cX4_makeLaws 0 = .ok (.iconst 0, 1) := by decide +kernel
theorem dX4_makeLaws_1 : decode cX4_makeLaws 1 = .ok (.istore_n 1, 1) := by decide +kernel
theorem dX4_makeLaws_2 : decode cX4_makeLaws 2 = .ok (.iload_n 1, 1) := by decide +kernel
theorem dX4_makeLaws_3 : decode cX4_makeLaws 3 = .ok (.aload_n 0, 1) := by decide +kernel
theorem dX4_makeLaws_4 : decode cX4_makeLaws 4 = .ok (.getfield 60, 3) := by decide +kernel
theorem dX4_makeLaws_7 : decode cX4_makeLaws 7 = .ok (.invokevirtual 85, 3) := by decide +kernel
theorem dX4_makeLaws_10 : decode cX4_makeLaws 10 = .ok (.if_icmp .ge 126, 3) := by decide +kernel
theorem dX4_makeLaws_13 : decode cX4_makeLaws 13 = .ok (.iload_n 1, 1) := by decide +kernel
theorem dX4_makeLaws_14 : decode cX4_makeLaws 14 = .ok (.bipush 10, 2) := by decide +kernel
theorem dX4_makeLaws_16 : decode cX4_makeLaws 16 = .ok (.if_icmp .ge 120, 3) := by decide +kernel
theorem dX4_makeLaws_19 : decode cX4_makeLaws 19 = .ok (.aload_n 0, 1) := by decide +kernel
theorem dX4_makeLaws_20 : decode cX4_makeLaws 20 = .ok (.getfield 60, 3) := by decide +kernel
theorem dX4_makeLaws_23 : decode cX4_makeLaws 23 = .ok (.iload_n 1, 1) := by decide +kernel
theorem dX4_makeLaws_24 : decode cX4_makeLaws 24 = .ok (.iconst 0, 1) := by decide +kernel
theorem dX4_makeLaws_25 : decode cX4_makeLaws 25 = .ok (.invokevirtual 91, 3) := by decide +kernel
theorem dX4_makeLaws_28 : decode cX4_makeLaws 28 = .ok (.istore_n 2, 1) := by decide +kernel
theorem dX4_makeLaws_29 : decode cX4_makeLaws 29 = .ok (.aload_n 0, 1) := by decide +kernel
theorem dX4_makeLaws_30 : decode cX4_makeLaws 30 = .ok (.getfield 60, 3) := by decide +kernel
theorem dX4_makeLaws_33 : decode cX4_makeLaws 33 = .ok (.iload_n 1, 1) := by decide +kernel
theorem dX4_makeLaws_34 : decode cX4_makeLaws 34 = .ok (.iconst 3, 1) := by decide +kernel
theorem dX4_makeLaws_35 : decode cX4_makeLaws 35 = .ok (.invokevirtual 91, 3) := by decide +kernel
theorem dX4_makeLaws_38 : decode cX4_makeLaws 38 = .ok (.istore_n 3, 1) := by decide +kernel
theorem dX4_makeLaws_39 : decode cX4_makeLaws 39 = .ok (.aload_n 0, 1) := by decide +kernel
theorem dX4_makeLaws_40 : decode cX4_makeLaws 40 = .ok (.getfield 60, 3) := by decide +kernel
theorem dX4_makeLaws_43 : decode cX4_makeLaws 43 = .ok (.iload_n 1, 1) := by decide +kernel
theorem dX4_makeLaws_44 : decode cX4_makeLaws 44 = .ok (.iconst 4, 1) := by decide +kernel
theorem dX4_makeLaws_45 : decode cX4_makeLaws 45 = .ok (.invokevirtual 91, 3) := by decide +kernel
theorem dX4_makeLaws_48 : decode cX4_makeLaws 48 = .ok (.istore 4, 2) := by decide +kernel
theorem dX4_makeLaws_50 : decode cX4_makeLaws 50 = .ok (.aload_n 0, 1) := by decide +kernel
theorem dX4_makeLaws_51 : decode cX4_makeLaws 51 = .ok (.getfield 60, 3) := by decide +kernel
theorem dX4_makeLaws_54 : decode cX4_makeLaws 54 = .ok (.iload_n 1, 1) := by decide +kernel
theorem dX4_makeLaws_55 : decode cX4_makeLaws 55 = .ok (.iconst 5, 1) := by decide +kernel
theorem dX4_makeLaws_56 : decode cX4_makeLaws 56 = .ok (.invokevirtual 91, 3) := by decide +kernel
theorem dX4_makeLaws_59 : decode cX4_makeLaws 59 = .ok (.istore 5, 2) := by decide +kernel
theorem dX4_makeLaws_61 : decode cX4_makeLaws 61 = .ok (.aload_n 0, 1) := by decide +kernel
theorem dX4_makeLaws_62 : decode cX4_makeLaws 62 = .ok (.getfield 24, 3) := by decide +kernel
theorem dX4_makeLaws_65 : decode cX4_makeLaws 65 = .ok (.iload_n 1, 1) := by decide +kernel
theorem dX4_makeLaws_66 : decode cX4_makeLaws 66 = .ok (.aaload, 1) := by decide +kernel
theorem dX4_makeLaws_67 : decode cX4_makeLaws 67 = .ok (.astore 6, 2) := by decide +kernel
theorem dX4_makeLaws_69 : decode cX4_makeLaws 69 = .ok (.aload 6, 2) := by decide +kernel
theorem dX4_makeLaws_71 : decode cX4_makeLaws 71 = .ok (.lconst 0, 1) := by decide +kernel
theorem dX4_makeLaws_72 : decode cX4_makeLaws 72 = .ok (.invokestatic 67, 3) := by decide +kernel
theorem dX4_makeLaws_75 : decode cX4_makeLaws 75 = .ok (.aload 6, 2) := by decide +kernel
theorem dX4_makeLaws_77 : decode cX4_makeLaws 77 = .ok (.bipush 9, 2) := by decide +kernel
theorem dX4_makeLaws_79 : decode cX4_makeLaws 79 = .ok (.iload_n 2, 1) := by decide +kernel
theorem dX4_makeLaws_80 : decode cX4_makeLaws 80 = .ok (.iload 4, 2) := by decide +kernel
theorem dX4_makeLaws_82 : decode cX4_makeLaws 82 = .ok (.invokestatic 95, 3) := by decide +kernel
theorem dX4_makeLaws_85 : decode cX4_makeLaws 85 = .ok (.i2l, 1) := by decide +kernel
theorem dX4_makeLaws_86 : decode cX4_makeLaws 86 = .ok (.lastore, 1) := by decide +kernel
theorem dX4_makeLaws_87 : decode cX4_makeLaws 87 = .ok (.aload_n 0, 1) := by decide +kernel
theorem dX4_makeLaws_88 : decode cX4_makeLaws 88 = .ok (.aload 6, 2) := by decide +kernel
theorem dX4_makeLaws_90 : decode cX4_makeLaws 90 = .ok (.iconst 1, 1) := by decide +kernel
theorem dX4_makeLaws_91 : decode cX4_makeLaws 91 = .ok (.aload_n 0, 1) := by decide +kernel
theorem dX4_makeLaws_92 : decode cX4_makeLaws 92 = .ok (.getfield 60, 3) := by decide +kernel
theorem dX4_makeLaws_95 : decode cX4_makeLaws 95 = .ok (.iload_n 1, 1) := by decide +kernel
theorem dX4_makeLaws_96 : decode cX4_makeLaws 96 = .ok (.iconst 1, 1) := by decide +kernel
theorem dX4_makeLaws_97 : decode cX4_makeLaws 97 = .ok (.invokevirtual 91, 3) := by decide +kernel
theorem dX4_makeLaws_100 : decode cX4_makeLaws 100 = .ok (.iload_n 3, 1) := by decide +kernel
theorem dX4_makeLaws_101 : decode cX4_makeLaws 101 = .ok (.iload 5, 2) := by decide +kernel
theorem dX4_makeLaws_103 : decode cX4_makeLaws 103 = .ok (.invokevirtual 98, 3) := by decide +kernel
theorem dX4_makeLaws_106 : decode cX4_makeLaws 106 = .ok (.aload_n 0, 1) := by decide +kernel
theorem dX4_makeLaws_107 : decode cX4_makeLaws 107 = .ok (.aload 6, 2) := by decide +kernel
theorem dX4_makeLaws_109 : decode cX4_makeLaws 109 = .ok (.iload_n 2, 1) := by decide +kernel
theorem dX4_makeLaws_110 : decode cX4_makeLaws 110 = .ok (.iload 4, 2) := by decide +kernel
theorem dX4_makeLaws_112 : decode cX4_makeLaws 112 = .ok (.invokestatic 102, 3) := by decide +kernel
theorem dX4_makeLaws_115 : decode cX4_makeLaws 115 = .ok (.aload_n 0, 1) := by decide +kernel
theorem dX4_makeLaws_116 : decode cX4_makeLaws 116 = .ok (.getfield 60, 3) := by decide +kernel
theorem dX4_makeLaws_119 : decode cX4_makeLaws 119 = .ok (.iload_n 1, 1) := by decide +kernel
theorem dX4_makeLaws_120 : decode cX4_makeLaws 120 = .ok (.iconst 2, 1) := by decide +kernel
theorem dX4_makeLaws_121 : decode cX4_makeLaws 121 = .ok (.invokevirtual 91, 3) := by decide +kernel
theorem dX4_makeLaws_124 : decode cX4_makeLaws 124 = .ok (.iload_n 3, 1) := by decide +kernel
theorem dX4_makeLaws_125 : decode cX4_makeLaws 125 = .ok (.iload 5, 2) := by decide +kernel
theorem dX4_makeLaws_127 : decode cX4_makeLaws 127 = .ok (.invokevirtual 98, 3) := by decide +kernel
theorem dX4_makeLaws_130 : decode cX4_makeLaws 130 = .ok (.iinc 1 1, 3) := by decide +kernel
theorem dX4_makeLaws_133 : decode cX4_makeLaws 133 = .ok (.goto (-131), 3) := by decide +kernel
theorem dX4_makeLaws_136 : decode cX4_makeLaws 136 = .ok (.aload_n 0, 1) := by decide +kernel
theorem dX4_makeLaws_137 : decode cX4_makeLaws 137 = .ok (.getfield 60, 3) := by decide +kernel
theorem dX4_makeLaws_140 : decode cX4_makeLaws 140 = .ok (.iconst 3, 1) := by decide +kernel
theorem dX4_makeLaws_141 : decode cX4_makeLaws 141 = .ok (.invokevirtual 105, 3) := by decide +kernel
theorem dX4_makeLaws_144 : decode cX4_makeLaws 144 = .ok (.istore_n 1, 1) := by decide +kernel
theorem dX4_makeLaws_145 : decode cX4_makeLaws 145 = .ok (.aload_n 0, 1) := by decide +kernel
theorem dX4_makeLaws_146 : decode cX4_makeLaws 146 = .ok (.getfield 60, 3) := by decide +kernel
theorem dX4_makeLaws_149 : decode cX4_makeLaws 149 = .ok (.iconst 4, 1) := by decide +kernel
theorem dX4_makeLaws_150 : decode cX4_makeLaws 150 = .ok (.invokevirtual 105, 3) := by decide +kernel
theorem dX4_makeLaws_153 : decode cX4_makeLaws 153 = .ok (.istore_n 2, 1) := by decide +kernel
theorem dX4_makeLaws_154 : decode cX4_makeLaws 154 = .ok (.aload_n 0, 1) := by decide +kernel
theorem dX4_makeLaws_155 : decode cX4_makeLaws 155 = .ok (.getfield 27, 3) := by decide +kernel
theorem dX4_makeLaws_158 : decode cX4_makeLaws 158 = .ok (.invokestatic 109, 3) := by decide +kernel
theorem dX4_makeLaws_161 : decode cX4_makeLaws 161 = .ok (.aload_n 0, 1) := by decide +kernel
theorem dX4_makeLaws_162 : decode cX4_makeLaws 162 = .ok (.aload_n 0, 1) := by decide +kernel
theorem dX4_makeLaws_163 : decode cX4_makeLaws 163 = .ok (.getfield 27, 3) := by decide +kernel
theorem dX4_makeLaws_166 : decode cX4_makeLaws 166 = .ok (.iconst (-1), 1) := by decide +kernel
theorem dX4_makeLaws_167 : decode cX4_makeLaws 167 = .ok (.aload_n 0, 1) := by decide +kernel
theorem dX4_makeLaws_168 : decode cX4_makeLaws 168 = .ok (.getfield 60, 3) := by decide +kernel
theorem dX4_makeLaws_171 : decode cX4_makeLaws 171 = .ok (.iconst 1, 1) := by decide +kernel
theorem dX4_makeLaws_172 : decode cX4_makeLaws 172 = .ok (.invokevirtual 105, 3) := by decide +kernel
theorem dX4_makeLaws_175 : decode cX4_makeLaws 175 = .ok (.iload_n 1, 1) := by decide +kernel
theorem dX4_makeLaws_176 : decode cX4_makeLaws 176 = .ok (.iload_n 2, 1) := by decide +kernel
theorem dX4_makeLaws_177 : decode cX4_makeLaws 177 = .ok (.invokevirtual 98, 3) := by decide +kernel
theorem dX4_makeLaws_180 : decode cX4_makeLaws 180 = .ok (.aload_n 0, 1) := by decide +kernel
theorem dX4_makeLaws_181 : decode cX4_makeLaws 181 = .ok (.aload_n 0, 1) := by decide +kernel
theorem dX4_makeLaws_182 : decode cX4_makeLaws 182 = .ok (.getfield 27, 3) := by decide +kernel
theorem dX4_makeLaws_185 : decode cX4_makeLaws 185 = .ok (.iconst (-1), 1) := by decide +kernel
theorem dX4_makeLaws_186 : decode cX4_makeLaws 186 = .ok (.aload_n 0, 1) := by decide +kernel
theorem dX4_makeLaws_187 : decode cX4_makeLaws 187 = .ok (.getfield 60, 3) := by decide +kernel
theorem dX4_makeLaws_190 : decode cX4_makeLaws 190 = .ok (.iconst 2, 1) := by decide +kernel
theorem dX4_makeLaws_191 : decode cX4_makeLaws 191 = .ok (.invokevirtual 105, 3) := by decide +kernel
theorem dX4_makeLaws_194 : decode cX4_makeLaws 194 = .ok (.iload_n 1, 1) := by decide +kernel
theorem dX4_makeLaws_195 : decode cX4_makeLaws 195 = .ok (.iload_n 2, 1) := by decide +kernel
theorem dX4_makeLaws_196 : decode cX4_makeLaws 196 = .ok (.invokevirtual 98, 3) := by decide +kernel
theorem dX4_makeLaws_199 : decode cX4_makeLaws 199 = .ok (.return_, 1) := by decide +kernel
theorem dX4_madeBy_0 : decode cX4_madeBy 0 = .ok (.iload_n 0, 1) := by decide +kernel
theorem dX4_madeBy_1 : decode cX4_madeBy 1 = .ok (.iconst 3, 1) := by decide +kernel
theorem dX4_madeBy_2 : decode cX4_madeBy 2 = .ok (.if_icmp .ne 5, 3) := by decide +kernel
theorem dX4_madeBy_5 : decode cX4_madeBy 5 = .ok (.iconst 0, 1) := by decide +kernel
theorem dX4_madeBy_6 : decode cX4_madeBy 6 = .ok (.ireturn, 1) := by decide +kernel
theorem dX4_madeBy_7 : decode cX4_madeBy 7 = .ok (.iload_n 0, 1) := by decide +kernel
theorem dX4_madeBy_8 : decode cX4_madeBy 8 = .ok (.iconst 2, 1) := by decide +kernel
theorem dX4_madeBy_9 : decode cX4_madeBy 9 = .ok (.if_icmp .ne 8, 3) := by decide +kernel
theorem dX4_madeBy_12 : decode cX4_madeBy 12 = .ok (.iload_n 1, 1) := by decide +kernel
theorem dX4_madeBy_13 : decode cX4_madeBy 13 = .ok (.ineg, 1) := by decide +kernel
theorem dX4_madeBy_14 : decode cX4_madeBy 14 = .ok (.goto 4, 3) := by decide +kernel
theorem dX4_madeBy_17 : decode cX4_madeBy 17 = .ok (.iload_n 1, 1) := by decide +kernel
theorem dX4_madeBy_18 : decode cX4_madeBy 18 = .ok (.ireturn, 1) := by decide +kernel
theorem dX4_secondWeight_0 : decode cX4_secondWeight 0 = .ok (.iload_n 0, 1) := by decide +kernel
theorem dX4_secondWeight_1 : decode cX4_secondWeight 1 = .ok (.iconst 3, 1) := by decide +kernel
theorem dX4_secondWeight_2 : decode cX4_secondWeight 2 = .ok (.if_icmp .ne 6, 3) := by decide +kernel
theorem dX4_secondWeight_5 : decode cX4_secondWeight 5 = .ok (.iload_n 1, 1) := by decide +kernel
theorem dX4_secondWeight_6 : decode cX4_secondWeight 6 = .ok (.ineg, 1) := by decide +kernel
theorem dX4_secondWeight_7 : decode cX4_secondWeight 7 = .ok (.ireturn, 1) := by decide +kernel
theorem dX4_secondWeight_8 : decode cX4_secondWeight 8 = .ok (.iload_n 0, 1) := by decide +kernel
theorem dX4_secondWeight_9 : decode cX4_secondWeight 9 = .ok (.iconst 4, 1) := by decide +kernel
theorem dX4_secondWeight_10 : decode cX4_secondWeight 10 = .ok (.if_icmp .ne 7, 3) := by decide +kernel
theorem dX4_secondWeight_13 : decode cX4_secondWeight 13 = .ok (.iconst 1, 1) := by decide +kernel
theorem dX4_secondWeight_14 : decode cX4_secondWeight 14 = .ok (.goto 4, 3) := by decide +kernel
theorem dX4_secondWeight_17 : decode cX4_secondWeight 17 = .ok (.iconst (-1), 1) := by decide +kernel
theorem dX4_secondWeight_18 : decode cX4_secondWeight 18 = .ok (.ireturn, 1) := by decide +kernel
set_option maxRecDepth 20000 in
theorem ggX4_startSought_J7_fill_d0a16 : GoodIn wsX4_startSought wsJ7_fill_d0a16 := goodIn_r _ [4] (by decide +kernel) (by decide +kernel)
set_option maxRecDepth 20000 in
theorem gX4_startSought_J7_fill_d0a16 : GoodIn wsX4_startSought (va_wsS RX4 67 yJ7_fill_d0a16 wsJ7_fill_d0a16) := goodIn_app (goodIn_of _ (by decide +kernel)) ggX4_startSought_J7_fill_d0a16
theorem dX4_startSought_0 : decode cX4_startSought 0 = .ok (.aload_n 0, 1) := by decide +kernel
theorem dX4_startSought_1 : decode cX4_startSought 1 = .ok (.lconst 0, 1) := by decide +kernel
theorem dX4_startSought_2 : decode cX4_startSought 2 = .ok (.invokestatic 67, 3) := by decide +kernel
theorem dX4_startSought_5 : decode cX4_startSought 5 = .ok (.aload_n 0, 1) := by decide +kernel
theorem dX4_startSought_6 : decode cX4_startSought 6 = .ok (.bipush 8, 2) := by decide +kernel
theorem dX4_startSought_8 : decode cX4_startSought 8 = .ok (.lconst 1, 1) := by decide +kernel
theorem dX4_startSought_9 : decode cX4_startSought 9 = .ok (.lastore, 1) := by decide +kernel
theorem dX4_startSought_10 : decode cX4_startSought 10 = .ok (.return_, 1) := by decide +kernel
set_option maxRecDepth 20000 in
theorem ggX4_weigh_X3_gain : GoodIn wsX4_weigh wsX3_gain := goodIn_r _ [6, 7, 8, 9, 10, 5, 11, 26, 27, 28, 29, 30, 31] (by decide +kernel) (by decide +kernel)
set_option maxRecDepth 20000 in
theorem gX4_weigh_X3_gain : GoodIn wsX4_weigh (wsV RX4 113 RX3 yX3_gain wsX3_gain) := goodIn_app (goodIn_of _ (by decide +kernel)) ggX4_weigh_X3_gain
theorem dX4_weigh_0 : decode cX4_weigh 0 = .ok (.iload_n 3, 1) := by decide +kernel
theorem dX4_weigh_1 : decode cX4_weigh 1 = .ok (.ifCond .lt 39, 3) := by decide +kernel
theorem dX4_weigh_4 : decode cX4_weigh 4 = .ok (.iload_n 3, 1) := by decide +kernel
theorem dX4_weigh_5 : decode cX4_weigh 5 = .ok (.bipush 8, 2) := by decide +kernel
theorem dX4_weigh_7 : decode cX4_weigh 7 = .ok (.if_icmp .ge 33, 3) := by decide +kernel
theorem dX4_weigh_10 : decode cX4_weigh 10 = .ok (.aload_n 1, 1) := by decide +kernel
theorem dX4_weigh_11 : decode cX4_weigh 11 = .ok (.iload_n 3, 1) := by decide +kernel
theorem dX4_weigh_12 : decode cX4_weigh 12 = .ok (.dup2, 1) := by decide +kernel
theorem dX4_weigh_13 : decode cX4_weigh 13 = .ok (.laload, 1) := by decide +kernel
theorem dX4_weigh_14 : decode cX4_weigh 14 = .ok (.iload_n 2, 1) := by decide +kernel
theorem dX4_weigh_15 : decode cX4_weigh 15 = .ok (.i2l, 1) := by decide +kernel
theorem dX4_weigh_16 : decode cX4_weigh 16 = .ok (.ladd, 1) := by decide +kernel
theorem dX4_weigh_17 : decode cX4_weigh 17 = .ok (.lastore, 1) := by decide +kernel
theorem dX4_weigh_18 : decode cX4_weigh 18 = .ok (.aload_n 1, 1) := by decide +kernel
theorem dX4_weigh_19 : decode cX4_weigh 19 = .ok (.bipush 9, 2) := by decide +kernel
theorem dX4_weigh_21 : decode cX4_weigh 21 = .ok (.dup2, 1) := by decide +kernel
theorem dX4_weigh_22 : decode cX4_weigh 22 = .ok (.laload, 1) := by decide +kernel
theorem dX4_weigh_23 : decode cX4_weigh 23 = .ok (.iload_n 2, 1) := by decide +kernel
theorem dX4_weigh_24 : decode cX4_weigh 24 = .ok (.i2l, 1) := by decide +kernel
theorem dX4_weigh_25 : decode cX4_weigh 25 = .ok (.aload_n 0, 1) := by decide +kernel
theorem dX4_weigh_26 : decode cX4_weigh 26 = .ok (.getfield 60, 3) := by decide +kernel
theorem dX4_weigh_29 : decode cX4_weigh 29 = .ok (.iload_n 3, 1) := by decide +kernel
theorem dX4_weigh_30 : decode cX4_weigh 30 = .ok (.iload 4, 2) := by decide +kernel
theorem dX4_weigh_32 : decode cX4_weigh 32 = .ok (.iload 5, 2) := by decide +kernel
theorem dX4_weigh_34 : decode cX4_weigh 34 = .ok (.invokevirtual 113, 3) := by decide +kernel
theorem dX4_weigh_37 : decode cX4_weigh 37 = .ok (.lmul, 1) := by decide +kernel
theorem dX4_weigh_38 : decode cX4_weigh 38 = .ok (.lsub, 1) := by decide +kernel
theorem dX4_weigh_39 : decode cX4_weigh 39 = .ok (.lastore, 1) := by decide +kernel
theorem dX4_weigh_40 : decode cX4_weigh 40 = .ok (.return_, 1) := by decide +kernel
set_option maxRecDepth 20000 in
theorem ggX4_addFacts_X1_clear : GoodIn wsX4_addFacts wsX1_clear := goodIn_r _ [14, 15, 77, 78] (by decide +kernel) (by decide +kernel)
set_option maxRecDepth 20000 in
theorem gX4_addFacts_X1_clear : GoodIn wsX4_addFacts (wsV RX4 117 RX1 yX1_clear wsX1_clear) := goodIn_app (goodIn_of _ (by decide +kernel)) ggX4_addFacts_X1_clear
set_option maxRecDepth 20000 in
theorem ggX4_addFacts_X3_size : GoodIn wsX4_addFacts wsX3_size := goodIn_r _ [20, 21, 79, 80, 81, 82, 83, 84] (by decide +kernel) (by decide +kernel)
set_option maxRecDepth 20000 in
theorem gX4_addFacts_X3_size : GoodIn wsX4_addFacts (wsV RX4 85 RX3 yX3_size wsX3_size) := goodIn_app (goodIn_of _ (by decide +kernel)) ggX4_addFacts_X3_size
set_option maxRecDepth 20000 in
theorem ggX4_addFacts_X3_part : GoodIn wsX4_addFacts wsX3_part := goodIn_r _ [25, 26, 27, 28, 29, 19, 30, 21, 79, 80, 81, 82, 83, 84] (by decide +kernel) (by decide +kernel)
set_option maxRecDepth 20000 in
theorem gX4_addFacts_X3_part : GoodIn wsX4_addFacts (wsV RX4 91 RX3 yX3_part wsX3_part) := goodIn_app (goodIn_of _ (by decide +kernel)) ggX4_addFacts_X3_part
set_option maxRecDepth 20000 in
theorem ggX4_addFacts_X4_isFact : GoodIn wsX4_addFacts wsX4_isFact := goodIn_r _ [35, 2, 36, 37, 38, 19, 39, 40, 63, 64, 65, 66, 67, 68, 69, 70, 71, 72, 73, 74, 75, 76, 79, 80, 81, 82, 83, 84] (by decide +kernel) (by decide +kernel)
set_option maxRecDepth 20000 in
theorem gX4_addFacts_X4_isFact : GoodIn wsX4_addFacts (wsV RX4 120 RX4 yX4_isFact wsX4_isFact) := goodIn_app (goodIn_of _ (by decide +kernel)) ggX4_addFacts_X4_isFact
set_option maxRecDepth 20000 in
theorem ggX4_addFacts_X1_add : GoodIn wsX4_addFacts wsX1_add := goodIn_r _ [44, 15, 45, 46, 7, 8, 9, 47, 48, 49, 13, 50, 51, 52, 53, 54, 55, 56, 57, 58, 59, 60, 61, 62, 77, 78] (by decide +kernel) (by decide +kernel)
set_option maxRecDepth 20000 in
theorem gX4_addFacts_X1_add : GoodIn wsX4_addFacts (wsV RX4 130 RX1 yX1_add wsX1_add) := goodIn_app (goodIn_of _ (by decide +kernel)) ggX4_addFacts_X1_add
theorem dX4_addFacts_0 : decode cX4_addFacts 0 = .ok (.iconst 0, 1) := by decide +kernel
theorem dX4_addFacts_1 : decode cX4_addFacts 1 = .ok (.istore_n 1, 1) := by decide +kernel
theorem dX4_addFacts_2 : decode cX4_addFacts 2 = .ok (.iload_n 1, 1) := by decide +kernel
theorem dX4_addFacts_3 : decode cX4_addFacts 3 = .ok (.iconst 4, 1) := by decide +kernel
theorem dX4_addFacts_4 : decode cX4_addFacts 4 = .ok (.if_icmp .ge 18, 3) := by decide +kernel
theorem dX4_addFacts_7 : decode cX4_addFacts 7 = .ok (.aload_n 0, 1) := by decide +kernel
theorem dX4_addFacts_8 : decode cX4_addFacts 8 = .ok (.getfield 11, 3) := by decide +kernel
theorem dX4_addFacts_11 : decode cX4_addFacts 11 = .ok (.iload_n 1, 1) := by decide +kernel
theorem dX4_addFacts_12 : decode cX4_addFacts 12 = .ok (.aaload, 1) := by decide +kernel
theorem dX4_addFacts_13 : decode cX4_addFacts 13 = .ok (.invokevirtual 117, 3) := by decide +kernel
theorem dX4_addFacts_16 : decode cX4_addFacts 16 = .ok (.iinc 1 1, 3) := by decide +kernel
theorem dX4_addFacts_19 : decode cX4_addFacts 19 = .ok (.goto (-17), 3) := by decide +kernel
theorem dX4_addFacts_22 : decode cX4_addFacts 22 = .ok (.iconst 0, 1) := by decide +kernel
theorem dX4_addFacts_23 : decode cX4_addFacts 23 = .ok (.istore_n 1, 1) := by decide +kernel
theorem dX4_addFacts_24 : decode cX4_addFacts 24 = .ok (.iload_n 1, 1) := by decide +kernel
theorem dX4_addFacts_25 : decode cX4_addFacts 25 = .ok (.aload_n 0, 1) := by decide +kernel
theorem dX4_addFacts_26 : decode cX4_addFacts 26 = .ok (.getfield 60, 3) := by decide +kernel
theorem dX4_addFacts_29 : decode cX4_addFacts 29 = .ok (.invokevirtual 85, 3) := by decide +kernel
theorem dX4_addFacts_32 : decode cX4_addFacts 32 = .ok (.if_icmp .ge 88, 3) := by decide +kernel
theorem dX4_addFacts_35 : decode cX4_addFacts 35 = .ok (.iload_n 1, 1) := by decide +kernel
theorem dX4_addFacts_36 : decode cX4_addFacts 36 = .ok (.bipush 10, 2) := by decide +kernel
theorem dX4_addFacts_38 : decode cX4_addFacts 38 = .ok (.if_icmp .ge 82, 3) := by decide +kernel
theorem dX4_addFacts_41 : decode cX4_addFacts 41 = .ok (.aload_n 0, 1) := by decide +kernel
theorem dX4_addFacts_42 : decode cX4_addFacts 42 = .ok (.getfield 43, 3) := by decide +kernel
theorem dX4_addFacts_45 : decode cX4_addFacts 45 = .ok (.iconst (-1), 1) := by decide +kernel
theorem dX4_addFacts_46 : decode cX4_addFacts 46 = .ok (.if_icmp .ne 74, 3) := by decide +kernel
theorem dX4_addFacts_49 : decode cX4_addFacts 49 = .ok (.aload_n 0, 1) := by decide +kernel
theorem dX4_addFacts_50 : decode cX4_addFacts 50 = .ok (.getfield 60, 3) := by decide +kernel
theorem dX4_addFacts_53 : decode cX4_addFacts 53 = .ok (.iload_n 1, 1) := by decide +kernel
theorem dX4_addFacts_54 : decode cX4_addFacts 54 = .ok (.iconst 3, 1) := by decide +kernel
theorem dX4_addFacts_55 : decode cX4_addFacts 55 = .ok (.invokevirtual 91, 3) := by decide +kernel
theorem dX4_addFacts_58 : decode cX4_addFacts 58 = .ok (.istore_n 2, 1) := by decide +kernel
theorem dX4_addFacts_59 : decode cX4_addFacts 59 = .ok (.aload_n 0, 1) := by decide +kernel
theorem dX4_addFacts_60 : decode cX4_addFacts 60 = .ok (.iload_n 1, 1) := by decide +kernel
theorem dX4_addFacts_61 : decode cX4_addFacts 61 = .ok (.invokevirtual 120, 3) := by decide +kernel
theorem dX4_addFacts_64 : decode cX4_addFacts 64 = .ok (.ifCond .eq 50, 3) := by decide +kernel
theorem dX4_addFacts_67 : decode cX4_addFacts 67 = .ok (.iload_n 2, 1) := by decide +kernel
theorem dX4_addFacts_68 : decode cX4_addFacts 68 = .ok (.ifCond .lt 46, 3) := by decide +kernel
theorem dX4_addFacts_71 : decode cX4_addFacts 71 = .ok (.iload_n 2, 1) := by decide +kernel
theorem dX4_addFacts_72 : decode cX4_addFacts 72 = .ok (.iconst 4, 1) := by decide +kernel
theorem dX4_addFacts_73 : decode cX4_addFacts 73 = .ok (.if_icmp .ge 41, 3) := by decide +kernel
theorem dX4_addFacts_76 : decode cX4_addFacts 76 = .ok (.aload_n 0, 1) := by decide +kernel
theorem dX4_addFacts_77 : decode cX4_addFacts 77 = .ok (.getfield 24, 3) := by decide +kernel
theorem dX4_addFacts_80 : decode cX4_addFacts 80 = .ok (.iload_n 1, 1) := by decide +kernel
theorem dX4_addFacts_81 : decode cX4_addFacts 81 = .ok (.aaload, 1) := by decide +kernel
theorem dX4_addFacts_82 : decode cX4_addFacts 82 = .ok (.iconst 0, 1) := by decide +kernel
theorem dX4_addFacts_83 : decode cX4_addFacts 83 = .ok (.aload_n 0, 1) := by decide +kernel
theorem dX4_addFacts_84 : decode cX4_addFacts 84 = .ok (.getfield 31, 3) := by decide +kernel
theorem dX4_addFacts_87 : decode cX4_addFacts 87 = .ok (.iconst 0, 1) := by decide +kernel
theorem dX4_addFacts_88 : decode cX4_addFacts 88 = .ok (.bipush 10, 2) := by decide +kernel
theorem dX4_addFacts_90 : decode cX4_addFacts 90 = .ok (.invokestatic 124, 3) := by decide +kernel
theorem dX4_addFacts_93 : decode cX4_addFacts 93 = .ok (.aload_n 0, 1) := by decide +kernel
theorem dX4_addFacts_94 : decode cX4_addFacts 94 = .ok (.getfield 11, 3) := by decide +kernel
theorem dX4_addFacts_97 : decode cX4_addFacts 97 = .ok (.iload_n 2, 1) := by decide +kernel
theorem dX4_addFacts_98 : decode cX4_addFacts 98 = .ok (.aaload, 1) := by decide +kernel
theorem dX4_addFacts_99 : decode cX4_addFacts 99 = .ok (.aload_n 0, 1) := by decide +kernel
theorem dX4_addFacts_100 : decode cX4_addFacts 100 = .ok (.getfield 31, 3) := by decide +kernel
theorem dX4_addFacts_103 : decode cX4_addFacts 103 = .ok (.invokevirtual 130, 3) := by decide +kernel
theorem dX4_addFacts_106 : decode cX4_addFacts 106 = .ok (.ifCond .ne 8, 3) := by decide +kernel
theorem dX4_addFacts_109 : decode cX4_addFacts 109 = .ok (.aload_n 0, 1) := by decide +kernel
theorem dX4_addFacts_110 : decode cX4_addFacts 110 = .ok (.iload_n 1, 1) := by decide +kernel
theorem dX4_addFacts_111 : decode cX4_addFacts 111 = .ok (.putfield 43, 3) := by decide +kernel
theorem dX4_addFacts_114 : decode cX4_addFacts 114 = .ok (.iinc 1 1, 3) := by decide +kernel
theorem dX4_addFacts_117 : decode cX4_addFacts 117 = .ok (.goto (-93), 3) := by decide +kernel
theorem dX4_addFacts_120 : decode cX4_addFacts 120 = .ok (.return_, 1) := by decide +kernel
set_option maxRecDepth 20000 in
theorem ggX4_isFact_X3_facts : GoodIn wsX4_isFact wsX3_facts := goodIn_r _ [6, 7, 22, 23, 24, 25, 26, 27] (by decide +kernel) (by decide +kernel)
set_option maxRecDepth 20000 in
theorem gX4_isFact_X3_facts : GoodIn wsX4_isFact (wsV RX4 134 RX3 yX3_facts wsX3_facts) := goodIn_app (goodIn_of _ (by decide +kernel)) ggX4_isFact_X3_facts
theorem dX4_isFact_0 : decode cX4_isFact 0 = .ok (.aload_n 0, 1) := by decide +kernel
theorem dX4_isFact_1 : decode cX4_isFact 1 = .ok (.getfield 60, 3) := by decide +kernel
theorem dX4_isFact_4 : decode cX4_isFact 4 = .ok (.invokevirtual 134, 3) := by decide +kernel
theorem dX4_isFact_7 : decode cX4_isFact 7 = .ok (.iconst 1, 1) := by decide +kernel
theorem dX4_isFact_8 : decode cX4_isFact 8 = .ok (.iload_n 1, 1) := by decide +kernel
theorem dX4_isFact_9 : decode cX4_isFact 9 = .ok (.ishl, 1) := by decide +kernel
theorem dX4_isFact_10 : decode cX4_isFact 10 = .ok (.iand, 1) := by decide +kernel
theorem dX4_isFact_11 : decode cX4_isFact 11 = .ok (.ifCond .eq 7, 3) := by decide +kernel
theorem dX4_isFact_14 : decode cX4_isFact 14 = .ok (.iconst 1, 1) := by decide +kernel
theorem dX4_isFact_15 : decode cX4_isFact 15 = .ok (.goto 4, 3) := by decide +kernel
theorem dX4_isFact_18 : decode cX4_isFact 18 = .ok (.iconst 0, 1) := by decide +kernel
theorem dX4_isFact_19 : decode cX4_isFact 19 = .ok (.ireturn, 1) := by decide +kernel
set_option maxRecDepth 20000 in
theorem ggX4_settleAmounts_X4_startSought : GoodIn wsX4_settleAmounts wsX4_startSought := goodIn_r _ [9, 10, 11, 12, 13] (by decide +kernel) (by decide +kernel)
set_option maxRecDepth 20000 in
theorem gX4_settleAmounts_X4_startSought : GoodIn wsX4_settleAmounts (va_wsS RX4 109 yX4_startSought wsX4_startSought) := goodIn_app (goodIn_of _ (by decide +kernel)) ggX4_settleAmounts_X4_startSought
set_option maxRecDepth 20000 in
theorem ggX4_settleAmounts_X1_reduce : GoodIn wsX4_settleAmounts wsX1_reduce := goodIn_r _ [18, 19, 20, 21, 22, 17, 23, 24, 25, 26, 44, 45] (by decide +kernel) (by decide +kernel)
set_option maxRecDepth 20000 in
theorem gX4_settleAmounts_X1_reduce : GoodIn wsX4_settleAmounts (wsV RX4 139 RX1 yX1_reduce wsX1_reduce) := goodIn_app (goodIn_of _ (by decide +kernel)) ggX4_settleAmounts_X1_reduce
set_option maxRecDepth 20000 in
theorem ggX4_settleAmounts_X1_firstName : GoodIn wsX4_settleAmounts wsX1_firstName := goodIn_r _ [29] (by decide +kernel) (by decide +kernel)
set_option maxRecDepth 20000 in
theorem gX4_settleAmounts_X1_firstName : GoodIn wsX4_settleAmounts (va_wsS RX4 142 yX1_firstName wsX1_firstName) := goodIn_app (goodIn_of _ (by decide +kernel)) ggX4_settleAmounts_X1_firstName
theorem dX4_settleAmounts_0 : decode cX4_settleAmounts 0 = .ok (.iconst 0, 1) := by decide +kernel
theorem dX4_settleAmounts_1 : decode cX4_settleAmounts 1 = .ok (.istore_n 1, 1) := by decide +kernel
theorem dX4_settleAmounts_2 : decode cX4_settleAmounts 2 = .ok (.iload_n 1, 1) := by decide +kernel
theorem dX4_settleAmounts_3 : decode cX4_settleAmounts 3 = .ok (.iconst 4, 1) := by decide +kernel
theorem dX4_settleAmounts_4 : decode cX4_settleAmounts 4 = .ok (.if_icmp .ge 99, 3) := by decide +kernel
theorem dX4_settleAmounts_7 : decode cX4_settleAmounts 7 = .ok (.iconst 0, 1) := by decide +kernel
theorem dX4_settleAmounts_8 : decode cX4_settleAmounts 8 = .ok (.istore_n 2, 1) := by decide +kernel
theorem dX4_settleAmounts_9 : decode cX4_settleAmounts 9 = .ok (.iload_n 2, 1) := by decide +kernel
theorem dX4_settleAmounts_10 : decode cX4_settleAmounts 10 = .ok (.bipush 8, 2) := by decide +kernel
theorem dX4_settleAmounts_12 : decode cX4_settleAmounts 12 = .ok (.if_icmp .ge 85, 3) := by decide +kernel
theorem dX4_settleAmounts_15 : decode cX4_settleAmounts 15 = .ok (.aload_n 0, 1) := by decide +kernel
theorem dX4_settleAmounts_16 : decode cX4_settleAmounts 16 = .ok (.getfield 31, 3) := by decide +kernel
theorem dX4_settleAmounts_19 : decode cX4_settleAmounts 19 = .ok (.invokestatic 109, 3) := by decide +kernel
theorem dX4_settleAmounts_22 : decode cX4_settleAmounts 22 = .ok (.aload_n 0, 1) := by decide +kernel
theorem dX4_settleAmounts_23 : decode cX4_settleAmounts 23 = .ok (.getfield 31, 3) := by decide +kernel
theorem dX4_settleAmounts_26 : decode cX4_settleAmounts 26 = .ok (.iload_n 2, 1) := by decide +kernel
theorem dX4_settleAmounts_27 : decode cX4_settleAmounts 27 = .ok (.ldc2_w 137, 3) := by decide +kernel
theorem dX4_settleAmounts_30 : decode cX4_settleAmounts 30 = .ok (.lastore, 1) := by decide +kernel
theorem dX4_settleAmounts_31 : decode cX4_settleAmounts 31 = .ok (.aload_n 0, 1) := by decide +kernel
theorem dX4_settleAmounts_32 : decode cX4_settleAmounts 32 = .ok (.getfield 11, 3) := by decide +kernel
theorem dX4_settleAmounts_35 : decode cX4_settleAmounts 35 = .ok (.iload_n 1, 1) := by decide +kernel
theorem dX4_settleAmounts_36 : decode cX4_settleAmounts 36 = .ok (.aaload, 1) := by decide +kernel
theorem dX4_settleAmounts_37 : decode cX4_settleAmounts 37 = .ok (.aload_n 0, 1) := by decide +kernel
theorem dX4_settleAmounts_38 : decode cX4_settleAmounts 38 = .ok (.getfield 31, 3) := by decide +kernel
theorem dX4_settleAmounts_41 : decode cX4_settleAmounts 41 = .ok (.invokevirtual 139, 3) := by decide +kernel
theorem dX4_settleAmounts_44 : decode cX4_settleAmounts 44 = .ok (.aload_n 0, 1) := by decide +kernel
theorem dX4_settleAmounts_45 : decode cX4_settleAmounts 45 = .ok (.getfield 31, 3) := by decide +kernel
theorem dX4_settleAmounts_48 : decode cX4_settleAmounts 48 = .ok (.invokestatic 142, 3) := by decide +kernel
theorem dX4_settleAmounts_51 : decode cX4_settleAmounts 51 = .ok (.iconst (-1), 1) := by decide +kernel
theorem dX4_settleAmounts_52 : decode cX4_settleAmounts 52 = .ok (.if_icmp .ne 39, 3) := by decide +kernel
theorem dX4_settleAmounts_55 : decode cX4_settleAmounts 55 = .ok (.aload_n 0, 1) := by decide +kernel
theorem dX4_settleAmounts_56 : decode cX4_settleAmounts 56 = .ok (.getfield 37, 3) := by decide +kernel
theorem dX4_settleAmounts_59 : decode cX4_settleAmounts 59 = .ok (.iload_n 1, 1) := by decide +kernel
theorem dX4_settleAmounts_60 : decode cX4_settleAmounts 60 = .ok (.bipush 8, 2) := by decide +kernel
theorem dX4_settleAmounts_62 : decode cX4_settleAmounts 62 = .ok (.imul, 1) := by decide +kernel
theorem dX4_settleAmounts_63 : decode cX4_settleAmounts 63 = .ok (.iload_n 2, 1) := by decide +kernel
theorem dX4_settleAmounts_64 : decode cX4_settleAmounts 64 = .ok (.iadd, 1) := by decide +kernel
theorem dX4_settleAmounts_65 : decode cX4_settleAmounts 65 = .ok (.aload_n 0, 1) := by decide +kernel
theorem dX4_settleAmounts_66 : decode cX4_settleAmounts 66 = .ok (.getfield 31, 3) := by decide +kernel
theorem dX4_settleAmounts_69 : decode cX4_settleAmounts 69 = .ok (.bipush 9, 2) := by decide +kernel
theorem dX4_settleAmounts_71 : decode cX4_settleAmounts 71 = .ok (.laload, 1) := by decide +kernel
theorem dX4_settleAmounts_72 : decode cX4_settleAmounts 72 = .ok (.lastore, 1) := by decide +kernel
theorem dX4_settleAmounts_73 : decode cX4_settleAmounts 73 = .ok (.aload_n 0, 1) := by decide +kernel
theorem dX4_settleAmounts_74 : decode cX4_settleAmounts 74 = .ok (.getfield 40, 3) := by decide +kernel
theorem dX4_settleAmounts_77 : decode cX4_settleAmounts 77 = .ok (.iload_n 1, 1) := by decide +kernel
theorem dX4_settleAmounts_78 : decode cX4_settleAmounts 78 = .ok (.bipush 8, 2) := by decide +kernel
theorem dX4_settleAmounts_80 : decode cX4_settleAmounts 80 = .ok (.imul, 1) := by decide +kernel
theorem dX4_settleAmounts_81 : decode cX4_settleAmounts 81 = .ok (.iload_n 2, 1) := by decide +kernel
theorem dX4_settleAmounts_82 : decode cX4_settleAmounts 82 = .ok (.iadd, 1) := by decide +kernel
theorem dX4_settleAmounts_83 : decode cX4_settleAmounts 83 = .ok (.aload_n 0, 1) := by decide +kernel
theorem dX4_settleAmounts_84 : decode cX4_settleAmounts 84 = .ok (.getfield 31, 3) := by decide +kernel
theorem dX4_settleAmounts_87 : decode cX4_settleAmounts 87 = .ok (.bipush 8, 2) := by decide +kernel
theorem dX4_settleAmounts_89 : decode cX4_settleAmounts 89 = .ok (.laload, 1) := by decide +kernel
theorem dX4_settleAmounts_90 : decode cX4_settleAmounts 90 = .ok (.lastore, 1) := by decide +kernel
theorem dX4_settleAmounts_91 : decode cX4_settleAmounts 91 = .ok (.iinc 2 1, 3) := by decide +kernel
theorem dX4_settleAmounts_94 : decode cX4_settleAmounts 94 = .ok (.goto (-85), 3) := by decide +kernel
theorem dX4_settleAmounts_97 : decode cX4_settleAmounts 97 = .ok (.iinc 1 1, 3) := by decide +kernel
theorem dX4_settleAmounts_100 : decode cX4_settleAmounts 100 = .ok (.goto (-98), 3) := by decide +kernel
theorem dX4_settleAmounts_103 : decode cX4_settleAmounts 103 = .ok (.return_, 1) := by decide +kernel
set_option maxRecDepth 20000 in
theorem ggX4_settleAnswer_X3_asked : GoodIn wsX4_settleAnswer wsX3_asked := goodIn_r _ [15, 16, 17, 48, 49, 50, 51, 52, 53] (by decide +kernel) (by decide +kernel)
set_option maxRecDepth 20000 in
theorem gX4_settleAnswer_X3_asked : GoodIn wsX4_settleAnswer (wsV RX4 105 RX3 yX3_asked wsX3_asked) := goodIn_app (goodIn_of _ (by decide +kernel)) ggX4_settleAnswer_X3_asked
set_option maxRecDepth 20000 in
theorem ggX4_settleAnswer_X1_reduce : GoodIn wsX4_settleAnswer wsX1_reduce := goodIn_r _ [22, 23, 24, 25, 26, 21, 27, 28, 29, 30, 54, 55] (by decide +kernel) (by decide +kernel)
set_option maxRecDepth 20000 in
theorem gX4_settleAnswer_X1_reduce : GoodIn wsX4_settleAnswer (wsV RX4 139 RX1 yX1_reduce wsX1_reduce) := goodIn_app (goodIn_of _ (by decide +kernel)) ggX4_settleAnswer_X1_reduce
set_option maxRecDepth 20000 in
theorem ggX4_settleAnswer_X1_firstName : GoodIn wsX4_settleAnswer wsX1_firstName := goodIn_r _ [33] (by decide +kernel) (by decide +kernel)
set_option maxRecDepth 20000 in
theorem gX4_settleAnswer_X1_firstName : GoodIn wsX4_settleAnswer (va_wsS RX4 142 yX1_firstName wsX1_firstName) := goodIn_app (goodIn_of _ (by decide +kernel)) ggX4_settleAnswer_X1_firstName
theorem dX4_settleAnswer_0 : decode cX4_settleAnswer 0 = .ok (.aload_n 0, 1) := by decide +kernel
theorem dX4_settleAnswer_1 : decode cX4_settleAnswer 1 = .ok (.getfield 60, 3) := by decide +kernel
theorem dX4_settleAnswer_4 : decode cX4_settleAnswer 4 = .ok (.iconst 3, 1) := by decide +kernel
theorem dX4_settleAnswer_5 : decode cX4_settleAnswer 5 = .ok (.invokevirtual 105, 3) := by decide +kernel
theorem dX4_settleAnswer_8 : decode cX4_settleAnswer 8 = .ok (.istore_n 1, 1) := by decide +kernel
theorem dX4_settleAnswer_9 : decode cX4_settleAnswer 9 = .ok (.iload_n 1, 1) := by decide +kernel
theorem dX4_settleAnswer_10 : decode cX4_settleAnswer 10 = .ok (.ifCond .lt 8, 3) := by decide +kernel
theorem dX4_settleAnswer_13 : decode cX4_settleAnswer 13 = .ok (.iload_n 1, 1) := by decide +kernel
theorem dX4_settleAnswer_14 : decode cX4_settleAnswer 14 = .ok (.iconst 4, 1) := by decide +kernel
theorem dX4_settleAnswer_15 : decode cX4_settleAnswer 15 = .ok (.if_icmp .lt 4, 3) := by decide +kernel
theorem dX4_settleAnswer_18 : decode cX4_settleAnswer 18 = .ok (.return_, 1) := by decide +kernel
theorem dX4_settleAnswer_19 : decode cX4_settleAnswer 19 = .ok (.aload_n 0, 1) := by decide +kernel
theorem dX4_settleAnswer_20 : decode cX4_settleAnswer 20 = .ok (.getfield 27, 3) := by decide +kernel
theorem dX4_settleAnswer_23 : decode cX4_settleAnswer 23 = .ok (.iconst 0, 1) := by decide +kernel
theorem dX4_settleAnswer_24 : decode cX4_settleAnswer 24 = .ok (.aload_n 0, 1) := by decide +kernel
theorem dX4_settleAnswer_25 : decode cX4_settleAnswer 25 = .ok (.getfield 31, 3) := by decide +kernel
theorem dX4_settleAnswer_28 : decode cX4_settleAnswer 28 = .ok (.iconst 0, 1) := by decide +kernel
theorem dX4_settleAnswer_29 : decode cX4_settleAnswer 29 = .ok (.bipush 10, 2) := by decide +kernel
theorem dX4_settleAnswer_31 : decode cX4_settleAnswer 31 = .ok (.invokestatic 124, 3) := by decide +kernel
theorem dX4_settleAnswer_34 : decode cX4_settleAnswer 34 = .ok (.aload_n 0, 1) := by decide +kernel
theorem dX4_settleAnswer_35 : decode cX4_settleAnswer 35 = .ok (.getfield 11, 3) := by decide +kernel
theorem dX4_settleAnswer_38 : decode cX4_settleAnswer 38 = .ok (.iload_n 1, 1) := by decide +kernel
theorem dX4_settleAnswer_39 : decode cX4_settleAnswer 39 = .ok (.aaload, 1) := by decide +kernel
theorem dX4_settleAnswer_40 : decode cX4_settleAnswer 40 = .ok (.aload_n 0, 1) := by decide +kernel
theorem dX4_settleAnswer_41 : decode cX4_settleAnswer 41 = .ok (.getfield 31, 3) := by decide +kernel
theorem dX4_settleAnswer_44 : decode cX4_settleAnswer 44 = .ok (.invokevirtual 139, 3) := by decide +kernel
theorem dX4_settleAnswer_47 : decode cX4_settleAnswer 47 = .ok (.aload_n 0, 1) := by decide +kernel
theorem dX4_settleAnswer_48 : decode cX4_settleAnswer 48 = .ok (.getfield 31, 3) := by decide +kernel
theorem dX4_settleAnswer_51 : decode cX4_settleAnswer 51 = .ok (.invokestatic 142, 3) := by decide +kernel
theorem dX4_settleAnswer_54 : decode cX4_settleAnswer 54 = .ok (.iconst (-1), 1) := by decide +kernel
theorem dX4_settleAnswer_55 : decode cX4_settleAnswer 55 = .ok (.if_icmp .ne 25, 3) := by decide +kernel
theorem dX4_settleAnswer_58 : decode cX4_settleAnswer 58 = .ok (.aload_n 0, 1) := by decide +kernel
theorem dX4_settleAnswer_59 : decode cX4_settleAnswer 59 = .ok (.aload_n 0, 1) := by decide +kernel
theorem dX4_settleAnswer_60 : decode cX4_settleAnswer 60 = .ok (.getfield 31, 3) := by decide +kernel
theorem dX4_settleAnswer_63 : decode cX4_settleAnswer 63 = .ok (.bipush 9, 2) := by decide +kernel
theorem dX4_settleAnswer_65 : decode cX4_settleAnswer 65 = .ok (.laload, 1) := by decide +kernel
theorem dX4_settleAnswer_66 : decode cX4_settleAnswer 66 = .ok (.putfield 47, 3) := by decide +kernel
theorem dX4_settleAnswer_69 : decode cX4_settleAnswer 69 = .ok (.aload_n 0, 1) := by decide +kernel
theorem dX4_settleAnswer_70 : decode cX4_settleAnswer 70 = .ok (.aload_n 0, 1) := by decide +kernel
theorem dX4_settleAnswer_71 : decode cX4_settleAnswer 71 = .ok (.getfield 31, 3) := by decide +kernel
theorem dX4_settleAnswer_74 : decode cX4_settleAnswer 74 = .ok (.bipush 8, 2) := by decide +kernel
theorem dX4_settleAnswer_76 : decode cX4_settleAnswer 76 = .ok (.laload, 1) := by decide +kernel
theorem dX4_settleAnswer_77 : decode cX4_settleAnswer 77 = .ok (.putfield 51, 3) := by decide +kernel
theorem dX4_settleAnswer_80 : decode cX4_settleAnswer 80 = .ok (.return_, 1) := by decide +kernel
theorem dX4_quarrelAt_0 : decode cX4_quarrelAt 0 = .ok (.aload_n 0, 1) := by decide +kernel
theorem dX4_quarrelAt_1 : decode cX4_quarrelAt 1 = .ok (.getfield 43, 3) := by decide +kernel
theorem dX4_quarrelAt_4 : decode cX4_quarrelAt 4 = .ok (.ireturn, 1) := by decide +kernel
theorem dX4_hasAnswer_0 : decode cX4_hasAnswer 0 = .ok (.aload_n 0, 1) := by decide +kernel
theorem dX4_hasAnswer_1 : decode cX4_hasAnswer 1 = .ok (.getfield 51, 3) := by decide +kernel
theorem dX4_hasAnswer_4 : decode cX4_hasAnswer 4 = .ok (.lconst 0, 1) := by decide +kernel
theorem dX4_hasAnswer_5 : decode cX4_hasAnswer 5 = .ok (.lcmp, 1) := by decide +kernel
theorem dX4_hasAnswer_6 : decode cX4_hasAnswer 6 = .ok (.ifCond .eq 7, 3) := by decide +kernel
theorem dX4_hasAnswer_9 : decode cX4_hasAnswer 9 = .ok (.iconst 1, 1) := by decide +kernel
theorem dX4_hasAnswer_10 : decode cX4_hasAnswer 10 = .ok (.goto 4, 3) := by decide +kernel
theorem dX4_hasAnswer_13 : decode cX4_hasAnswer 13 = .ok (.iconst 0, 1) := by decide +kernel
theorem dX4_hasAnswer_14 : decode cX4_hasAnswer 14 = .ok (.ireturn, 1) := by decide +kernel
set_option maxRecDepth 20000 in
theorem ggX4_answerPart_X4_hasAnswer : GoodIn wsX4_answerPart wsX4_hasAnswer := goodIn_r _ [8, 3, 9, 10, 11, 12, 13, 14, 15, 16, 17, 18, 19, 20, 21, 22] (by decide +kernel) (by decide +kernel)
set_option maxRecDepth 20000 in
theorem gX4_answerPart_X4_hasAnswer : GoodIn wsX4_answerPart (wsV RX4 146 RX4 yX4_hasAnswer wsX4_hasAnswer) := goodIn_app (goodIn_of _ (by decide +kernel)) ggX4_answerPart_X4_hasAnswer
theorem dX4_answerPart_0 : decode cX4_answerPart 0 = .ok (.aload_n 0, 1) := by decide +kernel
theorem dX4_answerPart_1 : decode cX4_answerPart 1 = .ok (.invokevirtual 146, 3) := by decide +kernel
theorem dX4_answerPart_4 : decode cX4_answerPart 4 = .ok (.ifCond .ne 7, 3) := by decide +kernel
theorem dX4_answerPart_7 : decode cX4_answerPart 7 = .ok (.ldc2_w 150, 3) := by decide +kernel
theorem dX4_answerPart_10 : decode cX4_answerPart 10 = .ok (.lreturn, 1) := by decide +kernel
theorem dX4_answerPart_11 : decode cX4_answerPart 11 = .ok (.iload_n 1, 1) := by decide +kernel
theorem dX4_answerPart_12 : decode cX4_answerPart 12 = .ok (.ifCond .ne 8, 3) := by decide +kernel
theorem dX4_answerPart_15 : decode cX4_answerPart 15 = .ok (.aload_n 0, 1) := by decide +kernel
theorem dX4_answerPart_16 : decode cX4_answerPart 16 = .ok (.getfield 47, 3) := by decide +kernel
theorem dX4_answerPart_19 : decode cX4_answerPart 19 = .ok (.lreturn, 1) := by decide +kernel
theorem dX4_answerPart_20 : decode cX4_answerPart 20 = .ok (.iload_n 1, 1) := by decide +kernel
theorem dX4_answerPart_21 : decode cX4_answerPart 21 = .ok (.iconst 1, 1) := by decide +kernel
theorem dX4_answerPart_22 : decode cX4_answerPart 22 = .ok (.if_icmp .ne 10, 3) := by decide +kernel
theorem dX4_answerPart_25 : decode cX4_answerPart 25 = .ok (.aload_n 0, 1) := by decide +kernel
theorem dX4_answerPart_26 : decode cX4_answerPart 26 = .ok (.getfield 51, 3) := by decide +kernel
theorem dX4_answerPart_29 : decode cX4_answerPart 29 = .ok (.goto 6, 3) := by decide +kernel
theorem dX4_answerPart_32 : decode cX4_answerPart 32 = .ok (.ldc2_w 150, 3) := by decide +kernel
theorem dX4_answerPart_35 : decode cX4_answerPart 35 = .ok (.lreturn, 1) := by decide +kernel
set_option maxRecDepth 20000 in
theorem ggX4_amountPart_X3_stages : GoodIn wsX4_amountPart wsX3_stages := goodIn_r _ [8, 9, 10, 40, 41, 42, 43, 44, 45] (by decide +kernel) (by decide +kernel)
set_option maxRecDepth 20000 in
theorem gX4_amountPart_X3_stages : GoodIn wsX4_amountPart (wsV RX4 152 RX3 yX3_stages wsX3_stages) := goodIn_app (goodIn_of _ (by decide +kernel)) ggX4_amountPart_X3_stages
set_option maxRecDepth 20000 in
theorem ggX4_amountPart_X4_topAt : GoodIn wsX4_amountPart wsX4_topAt := goodIn_r _ [15, 16, 3, 1, 17, 18, 19, 7, 20, 21, 22, 23, 24, 25, 26, 27, 28, 29, 30, 31, 32, 33, 34, 35, 36, 37, 38, 39, 40, 41, 42, 43, 44, 45] (by decide +kernel) (by decide +kernel)
set_option maxRecDepth 20000 in
theorem gX4_amountPart_X4_topAt : GoodIn wsX4_amountPart (wsV RX4 155 RX4 yX4_topAt wsX4_topAt) := goodIn_app (goodIn_of _ (by decide +kernel)) ggX4_amountPart_X4_topAt
theorem dX4_amountPart_0 : decode cX4_amountPart 0 = .ok (.iload_n 1, 1) := by decide +kernel
theorem dX4_amountPart_1 : decode cX4_amountPart 1 = .ok (.ifCond .lt 33, 3) := by decide +kernel
theorem dX4_amountPart_4 : decode cX4_amountPart 4 = .ok (.iload_n 1, 1) := by decide +kernel
theorem dX4_amountPart_5 : decode cX4_amountPart 5 = .ok (.bipush 8, 2) := by decide +kernel
theorem dX4_amountPart_7 : decode cX4_amountPart 7 = .ok (.if_icmp .ge 27, 3) := by decide +kernel
theorem dX4_amountPart_10 : decode cX4_amountPart 10 = .ok (.iload_n 2, 1) := by decide +kernel
theorem dX4_amountPart_11 : decode cX4_amountPart 11 = .ok (.ifCond .lt 23, 3) := by decide +kernel
theorem dX4_amountPart_14 : decode cX4_amountPart 14 = .ok (.iload_n 2, 1) := by decide +kernel
theorem dX4_amountPart_15 : decode cX4_amountPart 15 = .ok (.iconst 4, 1) := by decide +kernel
theorem dX4_amountPart_16 : decode cX4_amountPart 16 = .ok (.if_icmp .ge 18, 3) := by decide +kernel
theorem dX4_amountPart_19 : decode cX4_amountPart 19 = .ok (.iload_n 3, 1) := by decide +kernel
theorem dX4_amountPart_20 : decode cX4_amountPart 20 = .ok (.ifCond .lt 14, 3) := by decide +kernel
theorem dX4_amountPart_23 : decode cX4_amountPart 23 = .ok (.iload_n 3, 1) := by decide +kernel
theorem dX4_amountPart_24 : decode cX4_amountPart 24 = .ok (.aload_n 0, 1) := by decide +kernel
theorem dX4_amountPart_25 : decode cX4_amountPart 25 = .ok (.getfield 60, 3) := by decide +kernel
theorem dX4_amountPart_28 : decode cX4_amountPart 28 = .ok (.invokevirtual 152, 3) := by decide +kernel
theorem dX4_amountPart_31 : decode cX4_amountPart 31 = .ok (.if_icmp .lt 7, 3) := by decide +kernel
theorem dX4_amountPart_34 : decode cX4_amountPart 34 = .ok (.ldc2_w 150, 3) := by decide +kernel
theorem dX4_amountPart_37 : decode cX4_amountPart 37 = .ok (.lreturn, 1) := by decide +kernel
theorem dX4_amountPart_38 : decode cX4_amountPart 38 = .ok (.aload_n 0, 1) := by decide +kernel
theorem dX4_amountPart_39 : decode cX4_amountPart 39 = .ok (.getfield 40, 3) := by decide +kernel
theorem dX4_amountPart_42 : decode cX4_amountPart 42 = .ok (.iload_n 2, 1) := by decide +kernel
theorem dX4_amountPart_43 : decode cX4_amountPart 43 = .ok (.bipush 8, 2) := by decide +kernel
theorem dX4_amountPart_45 : decode cX4_amountPart 45 = .ok (.imul, 1) := by decide +kernel
theorem dX4_amountPart_46 : decode cX4_amountPart 46 = .ok (.iload_n 1, 1) := by decide +kernel
theorem dX4_amountPart_47 : decode cX4_amountPart 47 = .ok (.iadd, 1) := by decide +kernel
theorem dX4_amountPart_48 : decode cX4_amountPart 48 = .ok (.laload, 1) := by decide +kernel
theorem dX4_amountPart_49 : decode cX4_amountPart 49 = .ok (.lstore 5, 2) := by decide +kernel
theorem dX4_amountPart_51 : decode cX4_amountPart 51 = .ok (.lload 5, 2) := by decide +kernel
theorem dX4_amountPart_53 : decode cX4_amountPart 53 = .ok (.lconst 0, 1) := by decide +kernel
theorem dX4_amountPart_54 : decode cX4_amountPart 54 = .ok (.lcmp, 1) := by decide +kernel
theorem dX4_amountPart_55 : decode cX4_amountPart 55 = .ok (.ifCond .ne 7, 3) := by decide +kernel
theorem dX4_amountPart_58 : decode cX4_amountPart 58 = .ok (.ldc2_w 150, 3) := by decide +kernel
theorem dX4_amountPart_61 : decode cX4_amountPart 61 = .ok (.lreturn, 1) := by decide +kernel
theorem dX4_amountPart_62 : decode cX4_amountPart 62 = .ok (.iload 4, 2) := by decide +kernel
theorem dX4_amountPart_64 : decode cX4_amountPart 64 = .ok (.ifCond .ne 11, 3) := by decide +kernel
theorem dX4_amountPart_67 : decode cX4_amountPart 67 = .ok (.aload_n 0, 1) := by decide +kernel
theorem dX4_amountPart_68 : decode cX4_amountPart 68 = .ok (.iload_n 1, 1) := by decide +kernel
theorem dX4_amountPart_69 : decode cX4_amountPart 69 = .ok (.iload_n 2, 1) := by decide +kernel
theorem dX4_amountPart_70 : decode cX4_amountPart 70 = .ok (.iload_n 3, 1) := by decide +kernel
theorem dX4_amountPart_71 : decode cX4_amountPart 71 = .ok (.invokevirtual 155, 3) := by decide +kernel
theorem dX4_amountPart_74 : decode cX4_amountPart 74 = .ok (.lreturn, 1) := by decide +kernel
theorem dX4_amountPart_75 : decode cX4_amountPart 75 = .ok (.iload 4, 2) := by decide +kernel
theorem dX4_amountPart_77 : decode cX4_amountPart 77 = .ok (.iconst 1, 1) := by decide +kernel
theorem dX4_amountPart_78 : decode cX4_amountPart 78 = .ok (.if_icmp .ne 8, 3) := by decide +kernel
theorem dX4_amountPart_81 : decode cX4_amountPart 81 = .ok (.lload 5, 2) := by decide +kernel
theorem dX4_amountPart_83 : decode cX4_amountPart 83 = .ok (.goto 6, 3) := by decide +kernel
theorem dX4_amountPart_86 : decode cX4_amountPart 86 = .ok (.ldc2_w 150, 3) := by decide +kernel
theorem dX4_amountPart_89 : decode cX4_amountPart 89 = .ok (.lreturn, 1) := by decide +kernel
set_option maxRecDepth 20000 in
theorem ggX4_topAt_X3_gain : GoodIn wsX4_topAt wsX3_gain := goodIn_r _ [8, 9, 10, 11, 12, 7, 13, 28, 29, 30, 31, 32, 33] (by decide +kernel) (by decide +kernel)
set_option maxRecDepth 20000 in
theorem gX4_topAt_X3_gain : GoodIn wsX4_topAt (wsV RX4 113 RX3 yX3_gain wsX3_gain) := goodIn_app (goodIn_of _ (by decide +kernel)) ggX4_topAt_X3_gain
theorem dX4_topAt_0 : decode cX4_topAt 0 = .ok (.iload_n 2, 1) := by decide +kernel
theorem dX4_topAt_1 : decode cX4_topAt 1 = .ok (.bipush 8, 2) := by decide +kernel
theorem dX4_topAt_3 : decode cX4_topAt 3 = .ok (.imul, 1) := by decide +kernel
theorem dX4_topAt_4 : decode cX4_topAt 4 = .ok (.iload_n 1, 1) := by decide +kernel
theorem dX4_topAt_5 : decode cX4_topAt 5 = .ok (.iadd, 1) := by decide +kernel
theorem dX4_topAt_6 : decode cX4_topAt 6 = .ok (.istore 4, 2) := by decide +kernel
theorem dX4_topAt_8 : decode cX4_topAt 8 = .ok (.aload_n 0, 1) := by decide +kernel
theorem dX4_topAt_9 : decode cX4_topAt 9 = .ok (.getfield 37, 3) := by decide +kernel
theorem dX4_topAt_12 : decode cX4_topAt 12 = .ok (.iload 4, 2) := by decide +kernel
theorem dX4_topAt_14 : decode cX4_topAt 14 = .ok (.laload, 1) := by decide +kernel
theorem dX4_topAt_15 : decode cX4_topAt 15 = .ok (.aload_n 0, 1) := by decide +kernel
theorem dX4_topAt_16 : decode cX4_topAt 16 = .ok (.getfield 40, 3) := by decide +kernel
theorem dX4_topAt_19 : decode cX4_topAt 19 = .ok (.iload 4, 2) := by decide +kernel
theorem dX4_topAt_21 : decode cX4_topAt 21 = .ok (.laload, 1) := by decide +kernel
theorem dX4_topAt_22 : decode cX4_topAt 22 = .ok (.aload_n 0, 1) := by decide +kernel
theorem dX4_topAt_23 : decode cX4_topAt 23 = .ok (.getfield 60, 3) := by decide +kernel
theorem dX4_topAt_26 : decode cX4_topAt 26 = .ok (.iload_n 1, 1) := by decide +kernel
theorem dX4_topAt_27 : decode cX4_topAt 27 = .ok (.iload_n 2, 1) := by decide +kernel
theorem dX4_topAt_28 : decode cX4_topAt 28 = .ok (.iload_n 3, 1) := by decide +kernel
theorem dX4_topAt_29 : decode cX4_topAt 29 = .ok (.invokevirtual 113, 3) := by decide +kernel
theorem dX4_topAt_32 : decode cX4_topAt 32 = .ok (.lmul, 1) := by decide +kernel
theorem dX4_topAt_33 : decode cX4_topAt 33 = .ok (.ladd, 1) := by decide +kernel
theorem dX4_topAt_34 : decode cX4_topAt 34 = .ok (.lreturn, 1) := by decide +kernel
theorem dX4_settledAtFirst_0 : decode cX4_settledAtFirst 0 = .ok (.iconst 0, 1) := by decide +kernel
theorem dX4_settledAtFirst_1 : decode cX4_settledAtFirst 1 = .ok (.istore_n 1, 1) := by decide +kernel
theorem dX4_settledAtFirst_2 : decode cX4_settledAtFirst 2 = .ok (.iconst 0, 1) := by decide +kernel
theorem dX4_settledAtFirst_3 : decode cX4_settledAtFirst 3 = .ok (.istore_n 2, 1) := by decide +kernel
theorem dX4_settledAtFirst_4 : decode cX4_settledAtFirst 4 = .ok (.iload_n 2, 1) := by decide +kernel
theorem dX4_settledAtFirst_5 : decode cX4_settledAtFirst 5 = .ok (.bipush 32, 2) := by decide +kernel
theorem dX4_settledAtFirst_7 : decode cX4_settledAtFirst 7 = .ok (.if_icmp .ge 23, 3) := by decide +kernel
theorem dX4_settledAtFirst_10 : decode cX4_settledAtFirst 10 = .ok (.aload_n 0, 1) := by decide +kernel
theorem dX4_settledAtFirst_11 : decode cX4_settledAtFirst 11 = .ok (.getfield 40, 3) := by decide +kernel
theorem dX4_settledAtFirst_14 : decode cX4_settledAtFirst 14 = .ok (.iload_n 2, 1) := by decide +kernel
theorem dX4_settledAtFirst_15 : decode cX4_settledAtFirst 15 = .ok (.laload, 1) := by decide +kernel
theorem dX4_settledAtFirst_16 : decode cX4_settledAtFirst 16 = .ok (.lconst 0, 1) := by decide +kernel
theorem dX4_settledAtFirst_17 : decode cX4_settledAtFirst 17 = .ok (.lcmp, 1) := by decide +kernel
theorem dX4_settledAtFirst_18 : decode cX4_settledAtFirst 18 = .ok (.ifCond .eq 6, 3) := by decide +kernel
theorem dX4_settledAtFirst_21 : decode cX4_settledAtFirst 21 = .ok (.iinc 1 1, 3) := by decide +kernel
theorem dX4_settledAtFirst_24 : decode cX4_settledAtFirst 24 = .ok (.iinc 2 1, 3) := by decide +kernel
theorem dX4_settledAtFirst_27 : decode cX4_settledAtFirst 27 = .ok (.goto (-23), 3) := by decide +kernel
theorem dX4_settledAtFirst_30 : decode cX4_settledAtFirst 30 = .ok (.iload_n 1, 1) := by decide +kernel
theorem dX4_settledAtFirst_31 : decode cX4_settledAtFirst 31 = .ok (.ireturn, 1) := by decide +kernel
set_option maxRecDepth 20000 in
theorem ggX4_strangePart_X3_stages : GoodIn wsX4_strangePart wsX3_stages := goodIn_r _ [6, 7, 8, 46, 47, 48, 49, 50, 51] (by decide +kernel) (by decide +kernel)
set_option maxRecDepth 20000 in
theorem gX4_strangePart_X3_stages : GoodIn wsX4_strangePart (wsV RX4 152 RX3 yX3_stages wsX3_stages) := goodIn_app (goodIn_of _ (by decide +kernel)) ggX4_strangePart_X3_stages
set_option maxRecDepth 20000 in
theorem ggX4_strangePart_X4_isStrange : GoodIn wsX4_strangePart wsX4_isStrange := goodIn_r _ [13, 14, 15, 16, 17, 12, 18, 19, 1, 20, 21, 22, 5, 23, 24, 25, 26, 27, 28, 32, 33, 34, 35, 36, 37, 38, 39, 40, 41, 42, 43, 44, 45, 46, 47, 48, 49, 50, 51] (by decide +kernel) (by decide +kernel)
set_option maxRecDepth 20000 in
theorem gX4_strangePart_X4_isStrange : GoodIn wsX4_strangePart (wsV RX4 158 RX4 yX4_isStrange wsX4_isStrange) := goodIn_app (goodIn_of _ (by decide +kernel)) ggX4_strangePart_X4_isStrange
set_option maxRecDepth 20000 in
theorem ggX4_strangePart_X4_choose : GoodIn wsX4_strangePart wsX4_choose := goodIn_r _ [31] (by decide +kernel) (by decide +kernel)
set_option maxRecDepth 20000 in
theorem gX4_strangePart_X4_choose : GoodIn wsX4_strangePart (va_wsS RX4 162 yX4_choose wsX4_choose) := goodIn_app (goodIn_of _ (by decide +kernel)) ggX4_strangePart_X4_choose
theorem dX4_strangePart_0 : decode cX4_strangePart 0 = .ok (.iconst 0, 1) := by decide +kernel
theorem dX4_strangePart_1 : decode cX4_strangePart 1 = .ok (.istore_n 2, 1) := by decide +kernel
theorem dX4_strangePart_2 : decode cX4_strangePart 2 = .ok (.iload_n 2, 1) := by decide +kernel
theorem dX4_strangePart_3 : decode cX4_strangePart 3 = .ok (.aload_n 0, 1) := by decide +kernel
theorem dX4_strangePart_4 : decode cX4_strangePart 4 = .ok (.getfield 60, 3) := by decide +kernel
theorem dX4_strangePart_7 : decode cX4_strangePart 7 = .ok (.invokevirtual 152, 3) := by decide +kernel
theorem dX4_strangePart_10 : decode cX4_strangePart 10 = .ok (.if_icmp .ge 58, 3) := by decide +kernel
theorem dX4_strangePart_13 : decode cX4_strangePart 13 = .ok (.iconst 0, 1) := by decide +kernel
theorem dX4_strangePart_14 : decode cX4_strangePart 14 = .ok (.istore_n 3, 1) := by decide +kernel
theorem dX4_strangePart_15 : decode cX4_strangePart 15 = .ok (.iload_n 3, 1) := by decide +kernel
theorem dX4_strangePart_16 : decode cX4_strangePart 16 = .ok (.iconst 4, 1) := by decide +kernel
theorem dX4_strangePart_17 : decode cX4_strangePart 17 = .ok (.if_icmp .ge 45, 3) := by decide +kernel
theorem dX4_strangePart_20 : decode cX4_strangePart 20 = .ok (.iconst 0, 1) := by decide +kernel
theorem dX4_strangePart_21 : decode cX4_strangePart 21 = .ok (.istore 4, 2) := by decide +kernel
theorem dX4_strangePart_23 : decode cX4_strangePart 23 = .ok (.iload 4, 2) := by decide +kernel
theorem dX4_strangePart_25 : decode cX4_strangePart 25 = .ok (.bipush 8, 2) := by decide +kernel
theorem dX4_strangePart_27 : decode cX4_strangePart 27 = .ok (.if_icmp .ge 29, 3) := by decide +kernel
theorem dX4_strangePart_30 : decode cX4_strangePart 30 = .ok (.aload_n 0, 1) := by decide +kernel
theorem dX4_strangePart_31 : decode cX4_strangePart 31 = .ok (.iload 4, 2) := by decide +kernel
theorem dX4_strangePart_33 : decode cX4_strangePart 33 = .ok (.iload_n 3, 1) := by decide +kernel
theorem dX4_strangePart_34 : decode cX4_strangePart 34 = .ok (.iload_n 2, 1) := by decide +kernel
theorem dX4_strangePart_35 : decode cX4_strangePart 35 = .ok (.invokevirtual 158, 3) := by decide +kernel
theorem dX4_strangePart_38 : decode cX4_strangePart 38 = .ok (.ifCond .eq 12, 3) := by decide +kernel
theorem dX4_strangePart_41 : decode cX4_strangePart 41 = .ok (.iload_n 1, 1) := by decide +kernel
theorem dX4_strangePart_42 : decode cX4_strangePart 42 = .ok (.iload 4, 2) := by decide +kernel
theorem dX4_strangePart_44 : decode cX4_strangePart 44 = .ok (.iload_n 3, 1) := by decide +kernel
theorem dX4_strangePart_45 : decode cX4_strangePart 45 = .ok (.iload_n 2, 1) := by decide +kernel
theorem dX4_strangePart_46 : decode cX4_strangePart 46 = .ok (.invokestatic 162, 3) := by decide +kernel
theorem dX4_strangePart_49 : decode cX4_strangePart 49 = .ok (.ireturn, 1) := by decide +kernel
theorem dX4_strangePart_50 : decode cX4_strangePart 50 = .ok (.iinc 4 1, 3) := by decide +kernel
theorem dX4_strangePart_53 : decode cX4_strangePart 53 = .ok (.goto (-30), 3) := by decide +kernel
theorem dX4_strangePart_56 : decode cX4_strangePart 56 = .ok (.iinc 3 1, 3) := by decide +kernel
theorem dX4_strangePart_59 : decode cX4_strangePart 59 = .ok (.goto (-44), 3) := by decide +kernel
theorem dX4_strangePart_62 : decode cX4_strangePart 62 = .ok (.iinc 2 1, 3) := by decide +kernel
theorem dX4_strangePart_65 : decode cX4_strangePart 65 = .ok (.goto (-63), 3) := by decide +kernel
theorem dX4_strangePart_68 : decode cX4_strangePart 68 = .ok (.iconst (-1), 1) := by decide +kernel
theorem dX4_strangePart_69 : decode cX4_strangePart 69 = .ok (.ireturn, 1) := by decide +kernel
set_option maxRecDepth 20000 in
theorem ggX4_isStrange_X4_topAt : GoodIn wsX4_isStrange wsX4_topAt := goodIn_r _ [6, 7, 1, 8, 9, 10, 11, 12, 13, 14, 15, 16, 17, 18, 19, 20, 21, 22, 23, 24, 25, 26, 27, 28, 29, 30, 31, 32, 33, 34, 35, 36, 37, 38] (by decide +kernel) (by decide +kernel)
set_option maxRecDepth 20000 in
theorem gX4_isStrange_X4_topAt : GoodIn wsX4_isStrange (wsV RX4 155 RX4 yX4_topAt wsX4_topAt) := goodIn_app (goodIn_of _ (by decide +kernel)) ggX4_isStrange_X4_topAt
theorem dX4_isStrange_0 : decode cX4_isStrange 0 = .ok (.aload_n 0, 1) := by decide +kernel
theorem dX4_isStrange_1 : decode cX4_isStrange 1 = .ok (.getfield 40, 3) := by decide +kernel
theorem dX4_isStrange_4 : decode cX4_isStrange 4 = .ok (.iload_n 2, 1) := by decide +kernel
theorem dX4_isStrange_5 : decode cX4_isStrange 5 = .ok (.bipush 8, 2) := by decide +kernel
theorem dX4_isStrange_7 : decode cX4_isStrange 7 = .ok (.imul, 1) := by decide +kernel
theorem dX4_isStrange_8 : decode cX4_isStrange 8 = .ok (.iload_n 1, 1) := by decide +kernel
theorem dX4_isStrange_9 : decode cX4_isStrange 9 = .ok (.iadd, 1) := by decide +kernel
theorem dX4_isStrange_10 : decode cX4_isStrange 10 = .ok (.laload, 1) := by decide +kernel
theorem dX4_isStrange_11 : decode cX4_isStrange 11 = .ok (.lstore 4, 2) := by decide +kernel
theorem dX4_isStrange_13 : decode cX4_isStrange 13 = .ok (.lload 4, 2) := by decide +kernel
theorem dX4_isStrange_15 : decode cX4_isStrange 15 = .ok (.lconst 0, 1) := by decide +kernel
theorem dX4_isStrange_16 : decode cX4_isStrange 16 = .ok (.lcmp, 1) := by decide +kernel
theorem dX4_isStrange_17 : decode cX4_isStrange 17 = .ok (.ifCond .eq 26, 3) := by decide +kernel
theorem dX4_isStrange_20 : decode cX4_isStrange 20 = .ok (.lload 4, 2) := by decide +kernel
theorem dX4_isStrange_22 : decode cX4_isStrange 22 = .ok (.lconst 1, 1) := by decide +kernel
theorem dX4_isStrange_23 : decode cX4_isStrange 23 = .ok (.lcmp, 1) := by decide +kernel
theorem dX4_isStrange_24 : decode cX4_isStrange 24 = .ok (.ifCond .ne 15, 3) := by decide +kernel
theorem dX4_isStrange_27 : decode cX4_isStrange 27 = .ok (.aload_n 0, 1) := by decide +kernel
theorem dX4_isStrange_28 : decode cX4_isStrange 28 = .ok (.iload_n 1, 1) := by decide +kernel
theorem dX4_isStrange_29 : decode cX4_isStrange 29 = .ok (.iload_n 2, 1) := by decide +kernel
theorem dX4_isStrange_30 : decode cX4_isStrange 30 = .ok (.iload_n 3, 1) := by decide +kernel
theorem dX4_isStrange_31 : decode cX4_isStrange 31 = .ok (.invokevirtual 155, 3) := by decide +kernel
theorem dX4_isStrange_34 : decode cX4_isStrange 34 = .ok (.lconst 0, 1) := by decide +kernel
theorem dX4_isStrange_35 : decode cX4_isStrange 35 = .ok (.lcmp, 1) := by decide +kernel
theorem dX4_isStrange_36 : decode cX4_isStrange 36 = .ok (.ifCond .ge 7, 3) := by decide +kernel
theorem dX4_isStrange_39 : decode cX4_isStrange 39 = .ok (.iconst 1, 1) := by decide +kernel
theorem dX4_isStrange_40 : decode cX4_isStrange 40 = .ok (.goto 4, 3) := by decide +kernel
theorem dX4_isStrange_43 : decode cX4_isStrange 43 = .ok (.iconst 0, 1) := by decide +kernel
theorem dX4_isStrange_44 : decode cX4_isStrange 44 = .ok (.ireturn, 1) := by decide +kernel
theorem dX4_choose_0 : decode cX4_choose 0 = .ok (.iload_n 0, 1) := by decide +kernel
theorem dX4_choose_1 : decode cX4_choose 1 = .ok (.tableswitch 33 0 2 #[27, 29, 31], 27) := by decide +kernel
theorem dX4_choose_28 : decode cX4_choose 28 = .ok (.iload_n 1, 1) := by decide +kernel
theorem dX4_choose_29 : decode cX4_choose 29 = .ok (.ireturn, 1) := by decide +kernel
theorem dX4_choose_30 : decode cX4_choose 30 = .ok (.iload_n 2, 1) := by decide +kernel
theorem dX4_choose_31 : decode cX4_choose 31 = .ok (.ireturn, 1) := by decide +kernel
theorem dX4_choose_32 : decode cX4_choose 32 = .ok (.iload_n 3, 1) := by decide +kernel
theorem dX4_choose_33 : decode cX4_choose 33 = .ok (.ireturn, 1) := by decide +kernel
theorem dX4_choose_34 : decode cX4_choose 34 = .ok (.iconst (-1), 1) := by decide +kernel
theorem dX4_choose_35 : decode cX4_choose 35 = .ok (.ireturn, 1) := by decide +kernel
set_option maxRecDepth 20000 in
theorem ggX4_lackingName_X3_asked : GoodIn wsX4_lackingName wsX3_asked := goodIn_r _ [15, 16, 17, 61, 62, 63, 64, 65, 66] (by decide +kernel) (by decide +kernel)
set_option maxRecDepth 20000 in
theorem gX4_lackingName_X3_asked : GoodIn wsX4_lackingName (wsV RX4 105 RX3 yX3_asked wsX3_asked) := goodIn_app (goodIn_of _ (by decide +kernel)) ggX4_lackingName_X3_asked
set_option maxRecDepth 20000 in
theorem ggX4_lackingName_X4_hasAnswer : GoodIn wsX4_lackingName wsX4_hasAnswer := goodIn_r _ [22, 23, 47, 48, 49, 50, 51, 52, 53, 54, 55, 56, 57, 58, 59, 60] (by decide +kernel) (by decide +kernel)
set_option maxRecDepth 20000 in
theorem gX4_lackingName_X4_hasAnswer : GoodIn wsX4_lackingName (wsV RX4 146 RX4 yX4_hasAnswer wsX4_hasAnswer) := goodIn_app (goodIn_of _ (by decide +kernel)) ggX4_lackingName_X4_hasAnswer
set_option maxRecDepth 20000 in
theorem ggX4_lackingName_X1_reduce : GoodIn wsX4_lackingName wsX1_reduce := goodIn_r _ [28, 29, 30, 31, 32, 27, 33, 34, 35, 36, 67, 68] (by decide +kernel) (by decide +kernel)
set_option maxRecDepth 20000 in
theorem gX4_lackingName_X1_reduce : GoodIn wsX4_lackingName (wsV RX4 139 RX1 yX1_reduce wsX1_reduce) := goodIn_app (goodIn_of _ (by decide +kernel)) ggX4_lackingName_X1_reduce
set_option maxRecDepth 20000 in
theorem ggX4_lackingName_J7_fill_d0a16 : GoodIn wsX4_lackingName wsJ7_fill_d0a16 := goodIn_r _ [40] (by decide +kernel) (by decide +kernel)
set_option maxRecDepth 20000 in
theorem gX4_lackingName_J7_fill_d0a16 : GoodIn wsX4_lackingName (va_wsS RX4 67 yJ7_fill_d0a16 wsJ7_fill_d0a16) := goodIn_app (goodIn_of _ (by decide +kernel)) ggX4_lackingName_J7_fill_d0a16
set_option maxRecDepth 20000 in
theorem ggX4_lackingName_X4_areAlongside : GoodIn wsX4_lackingName wsX4_areAlongside := goodIn_r _ [43, 44, 45, 27, 46] (by decide +kernel) (by decide +kernel)
set_option maxRecDepth 20000 in
theorem gX4_lackingName_X4_areAlongside : GoodIn wsX4_lackingName (va_wsS RX4 166 yX4_areAlongside wsX4_areAlongside) := goodIn_app (goodIn_of _ (by decide +kernel)) ggX4_lackingName_X4_areAlongside
theorem dX4_lackingName_0 : decode cX4_lackingName 0 = .ok (.aload_n 0, 1) := by decide +kernel
theorem dX4_lackingName_1 : decode cX4_lackingName 1 = .ok (.getfield 60, 3) := by decide +kernel
theorem dX4_lackingName_4 : decode cX4_lackingName 4 = .ok (.iconst 3, 1) := by decide +kernel
theorem dX4_lackingName_5 : decode cX4_lackingName 5 = .ok (.invokevirtual 105, 3) := by decide +kernel
theorem dX4_lackingName_8 : decode cX4_lackingName 8 = .ok (.istore_n 1, 1) := by decide +kernel
theorem dX4_lackingName_9 : decode cX4_lackingName 9 = .ok (.aload_n 0, 1) := by decide +kernel
theorem dX4_lackingName_10 : decode cX4_lackingName 10 = .ok (.invokevirtual 146, 3) := by decide +kernel
theorem dX4_lackingName_13 : decode cX4_lackingName 13 = .ok (.ifCond .ne 20, 3) := by decide +kernel
theorem dX4_lackingName_16 : decode cX4_lackingName 16 = .ok (.aload_n 0, 1) := by decide +kernel
theorem dX4_lackingName_17 : decode cX4_lackingName 17 = .ok (.getfield 43, 3) := by decide +kernel
theorem dX4_lackingName_20 : decode cX4_lackingName 20 = .ok (.iconst (-1), 1) := by decide +kernel
theorem dX4_lackingName_21 : decode cX4_lackingName 21 = .ok (.if_icmp .ne 12, 3) := by decide +kernel
theorem dX4_lackingName_24 : decode cX4_lackingName 24 = .ok (.iload_n 1, 1) := by decide +kernel
theorem dX4_lackingName_25 : decode cX4_lackingName 25 = .ok (.ifCond .lt 8, 3) := by decide +kernel
theorem dX4_lackingName_28 : decode cX4_lackingName 28 = .ok (.iload_n 1, 1) := by decide +kernel
theorem dX4_lackingName_29 : decode cX4_lackingName 29 = .ok (.iconst 4, 1) := by decide +kernel
theorem dX4_lackingName_30 : decode cX4_lackingName 30 = .ok (.if_icmp .lt 5, 3) := by decide +kernel
theorem dX4_lackingName_33 : decode cX4_lackingName 33 = .ok (.iconst (-1), 1) := by decide +kernel
theorem dX4_lackingName_34 : decode cX4_lackingName 34 = .ok (.ireturn, 1) := by decide +kernel
theorem dX4_lackingName_35 : decode cX4_lackingName 35 = .ok (.aload_n 0, 1) := by decide +kernel
theorem dX4_lackingName_36 : decode cX4_lackingName 36 = .ok (.getfield 27, 3) := by decide +kernel
theorem dX4_lackingName_39 : decode cX4_lackingName 39 = .ok (.iconst 0, 1) := by decide +kernel
theorem dX4_lackingName_40 : decode cX4_lackingName 40 = .ok (.aload_n 0, 1) := by decide +kernel
theorem dX4_lackingName_41 : decode cX4_lackingName 41 = .ok (.getfield 31, 3) := by decide +kernel
theorem dX4_lackingName_44 : decode cX4_lackingName 44 = .ok (.iconst 0, 1) := by decide +kernel
theorem dX4_lackingName_45 : decode cX4_lackingName 45 = .ok (.bipush 10, 2) := by decide +kernel
theorem dX4_lackingName_47 : decode cX4_lackingName 47 = .ok (.invokestatic 124, 3) := by decide +kernel
theorem dX4_lackingName_50 : decode cX4_lackingName 50 = .ok (.aload_n 0, 1) := by decide +kernel
theorem dX4_lackingName_51 : decode cX4_lackingName 51 = .ok (.getfield 11, 3) := by decide +kernel
theorem dX4_lackingName_54 : decode cX4_lackingName 54 = .ok (.iload_n 1, 1) := by decide +kernel
theorem dX4_lackingName_55 : decode cX4_lackingName 55 = .ok (.aaload, 1) := by decide +kernel
theorem dX4_lackingName_56 : decode cX4_lackingName 56 = .ok (.aload_n 0, 1) := by decide +kernel
theorem dX4_lackingName_57 : decode cX4_lackingName 57 = .ok (.getfield 31, 3) := by decide +kernel
theorem dX4_lackingName_60 : decode cX4_lackingName 60 = .ok (.invokevirtual 139, 3) := by decide +kernel
theorem dX4_lackingName_63 : decode cX4_lackingName 63 = .ok (.iconst 0, 1) := by decide +kernel
theorem dX4_lackingName_64 : decode cX4_lackingName 64 = .ok (.istore_n 2, 1) := by decide +kernel
theorem dX4_lackingName_65 : decode cX4_lackingName 65 = .ok (.iload_n 2, 1) := by decide +kernel
theorem dX4_lackingName_66 : decode cX4_lackingName 66 = .ok (.bipush 8, 2) := by decide +kernel
theorem dX4_lackingName_68 : decode cX4_lackingName 68 = .ok (.if_icmp .ge 53, 3) := by decide +kernel
theorem dX4_lackingName_71 : decode cX4_lackingName 71 = .ok (.aload_n 0, 1) := by decide +kernel
theorem dX4_lackingName_72 : decode cX4_lackingName 72 = .ok (.getfield 34, 3) := by decide +kernel
theorem dX4_lackingName_75 : decode cX4_lackingName 75 = .ok (.lconst 0, 1) := by decide +kernel
theorem dX4_lackingName_76 : decode cX4_lackingName 76 = .ok (.invokestatic 67, 3) := by decide +kernel
theorem dX4_lackingName_79 : decode cX4_lackingName 79 = .ok (.aload_n 0, 1) := by decide +kernel
theorem dX4_lackingName_80 : decode cX4_lackingName 80 = .ok (.getfield 34, 3) := by decide +kernel
theorem dX4_lackingName_83 : decode cX4_lackingName 83 = .ok (.iload_n 2, 1) := by decide +kernel
theorem dX4_lackingName_84 : decode cX4_lackingName 84 = .ok (.lconst 1, 1) := by decide +kernel
theorem dX4_lackingName_85 : decode cX4_lackingName 85 = .ok (.lastore, 1) := by decide +kernel
theorem dX4_lackingName_86 : decode cX4_lackingName 86 = .ok (.aload_n 0, 1) := by decide +kernel
theorem dX4_lackingName_87 : decode cX4_lackingName 87 = .ok (.getfield 11, 3) := by decide +kernel
theorem dX4_lackingName_90 : decode cX4_lackingName 90 = .ok (.iload_n 1, 1) := by decide +kernel
theorem dX4_lackingName_91 : decode cX4_lackingName 91 = .ok (.aaload, 1) := by decide +kernel
theorem dX4_lackingName_92 : decode cX4_lackingName 92 = .ok (.aload_n 0, 1) := by decide +kernel
theorem dX4_lackingName_93 : decode cX4_lackingName 93 = .ok (.getfield 34, 3) := by decide +kernel
theorem dX4_lackingName_96 : decode cX4_lackingName 96 = .ok (.invokevirtual 139, 3) := by decide +kernel
theorem dX4_lackingName_99 : decode cX4_lackingName 99 = .ok (.aload_n 0, 1) := by decide +kernel
theorem dX4_lackingName_100 : decode cX4_lackingName 100 = .ok (.getfield 31, 3) := by decide +kernel
theorem dX4_lackingName_103 : decode cX4_lackingName 103 = .ok (.aload_n 0, 1) := by decide +kernel
theorem dX4_lackingName_104 : decode cX4_lackingName 104 = .ok (.getfield 34, 3) := by decide +kernel
theorem dX4_lackingName_107 : decode cX4_lackingName 107 = .ok (.invokestatic 166, 3) := by decide +kernel
theorem dX4_lackingName_110 : decode cX4_lackingName 110 = .ok (.ifCond .eq 5, 3) := by decide +kernel
theorem dX4_lackingName_113 : decode cX4_lackingName 113 = .ok (.iload_n 2, 1) := by decide +kernel
theorem dX4_lackingName_114 : decode cX4_lackingName 114 = .ok (.ireturn, 1) := by decide +kernel
theorem dX4_lackingName_115 : decode cX4_lackingName 115 = .ok (.iinc 2 1, 3) := by decide +kernel
theorem dX4_lackingName_118 : decode cX4_lackingName 118 = .ok (.goto (-53), 3) := by decide +kernel
theorem dX4_lackingName_121 : decode cX4_lackingName 121 = .ok (.iconst (-1), 1) := by decide +kernel
theorem dX4_lackingName_122 : decode cX4_lackingName 122 = .ok (.ireturn, 1) := by decide +kernel
set_option maxRecDepth 20000 in
theorem ggX4_areAlongside_X1_firstName : GoodIn wsX4_areAlongside wsX1_firstName := goodIn_r _ [4] (by decide +kernel) (by decide +kernel)
set_option maxRecDepth 20000 in
theorem gX4_areAlongside_X1_firstName : GoodIn wsX4_areAlongside (va_wsS RX4 142 yX1_firstName wsX1_firstName) := goodIn_app (goodIn_of _ (by decide +kernel)) ggX4_areAlongside_X1_firstName
theorem dX4_areAlongside_0 : decode cX4_areAlongside 0 = .ok (.aload_n 0, 1) := by decide +kernel
theorem dX4_areAlongside_1 : decode cX4_areAlongside 1 = .ok (.invokestatic 142, 3) := by decide +kernel
theorem dX4_areAlongside_4 : decode cX4_areAlongside 4 = .ok (.istore_n 2, 1) := by decide +kernel
theorem dX4_areAlongside_5 : decode cX4_areAlongside 5 = .ok (.iload_n 2, 1) := by decide +kernel
theorem dX4_areAlongside_6 : decode cX4_areAlongside 6 = .ok (.iconst (-1), 1) := by decide +kernel
theorem dX4_areAlongside_7 : decode cX4_areAlongside 7 = .ok (.if_icmp .eq 11, 3) := by decide +kernel
theorem dX4_areAlongside_10 : decode cX4_areAlongside 10 = .ok (.aload_n 1, 1) := by decide +kernel
theorem dX4_areAlongside_11 : decode cX4_areAlongside 11 = .ok (.iload_n 2, 1) := by decide +kernel
theorem dX4_areAlongside_12 : decode cX4_areAlongside 12 = .ok (.laload, 1) := by decide +kernel
theorem dX4_areAlongside_13 : decode cX4_areAlongside 13 = .ok (.lconst 0, 1) := by decide +kernel
theorem dX4_areAlongside_14 : decode cX4_areAlongside 14 = .ok (.lcmp, 1) := by decide +kernel
theorem dX4_areAlongside_15 : decode cX4_areAlongside 15 = .ok (.ifCond .ne 5, 3) := by decide +kernel
theorem dX4_areAlongside_18 : decode cX4_areAlongside 18 = .ok (.iconst 0, 1) := by decide +kernel
theorem dX4_areAlongside_19 : decode cX4_areAlongside 19 = .ok (.ireturn, 1) := by decide +kernel
theorem dX4_areAlongside_20 : decode cX4_areAlongside 20 = .ok (.iconst 0, 1) := by decide +kernel
theorem dX4_areAlongside_21 : decode cX4_areAlongside 21 = .ok (.istore_n 3, 1) := by decide +kernel
theorem dX4_areAlongside_22 : decode cX4_areAlongside 22 = .ok (.iload_n 3, 1) := by decide +kernel
theorem dX4_areAlongside_23 : decode cX4_areAlongside 23 = .ok (.bipush 8, 2) := by decide +kernel
theorem dX4_areAlongside_25 : decode cX4_areAlongside 25 = .ok (.if_icmp .ge 29, 3) := by decide +kernel
theorem dX4_areAlongside_28 : decode cX4_areAlongside 28 = .ok (.aload_n 0, 1) := by decide +kernel
theorem dX4_areAlongside_29 : decode cX4_areAlongside 29 = .ok (.iload_n 3, 1) := by decide +kernel
theorem dX4_areAlongside_30 : decode cX4_areAlongside 30 = .ok (.laload, 1) := by decide +kernel
theorem dX4_areAlongside_31 : decode cX4_areAlongside 31 = .ok (.aload_n 1, 1) := by decide +kernel
theorem dX4_areAlongside_32 : decode cX4_areAlongside 32 = .ok (.iload_n 2, 1) := by decide +kernel
theorem dX4_areAlongside_33 : decode cX4_areAlongside 33 = .ok (.laload, 1) := by decide +kernel
theorem dX4_areAlongside_34 : decode cX4_areAlongside 34 = .ok (.lmul, 1) := by decide +kernel
theorem dX4_areAlongside_35 : decode cX4_areAlongside 35 = .ok (.aload_n 1, 1) := by decide +kernel
theorem dX4_areAlongside_36 : decode cX4_areAlongside 36 = .ok (.iload_n 3, 1) := by decide +kernel
theorem dX4_areAlongside_37 : decode cX4_areAlongside 37 = .ok (.laload, 1) := by decide +kernel
theorem dX4_areAlongside_38 : decode cX4_areAlongside 38 = .ok (.aload_n 0, 1) := by decide +kernel
theorem dX4_areAlongside_39 : decode cX4_areAlongside 39 = .ok (.iload_n 2, 1) := by decide +kernel
theorem dX4_areAlongside_40 : decode cX4_areAlongside 40 = .ok (.laload, 1) := by decide +kernel
theorem dX4_areAlongside_41 : decode cX4_areAlongside 41 = .ok (.lmul, 1) := by decide +kernel
theorem dX4_areAlongside_42 : decode cX4_areAlongside 42 = .ok (.lcmp, 1) := by decide +kernel
theorem dX4_areAlongside_43 : decode cX4_areAlongside 43 = .ok (.ifCond .eq 5, 3) := by decide +kernel
theorem dX4_areAlongside_46 : decode cX4_areAlongside 46 = .ok (.iconst 0, 1) := by decide +kernel
theorem dX4_areAlongside_47 : decode cX4_areAlongside 47 = .ok (.ireturn, 1) := by decide +kernel
theorem dX4_areAlongside_48 : decode cX4_areAlongside 48 = .ok (.iinc 3 1, 3) := by decide +kernel
theorem dX4_areAlongside_51 : decode cX4_areAlongside 51 = .ok (.goto (-29), 3) := by decide +kernel
theorem dX4_areAlongside_54 : decode cX4_areAlongside 54 = .ok (.iconst 1, 1) := by decide +kernel
theorem dX4_areAlongside_55 : decode cX4_areAlongside 55 = .ok (.ireturn, 1) := by decide +kernel
set_option maxRecDepth 20000 in
theorem ggX4_idleFacts_X4_hasAnswer : GoodIn wsX4_idleFacts wsX4_hasAnswer := goodIn_r _ [7, 8, 85, 86, 87, 88, 89, 90, 91, 92, 93, 94, 95, 96, 97, 98] (by decide +kernel) (by decide +kernel)
set_option maxRecDepth 20000 in
theorem gX4_idleFacts_X4_hasAnswer : GoodIn wsX4_idleFacts (wsV RX4 146 RX4 yX4_hasAnswer wsX4_hasAnswer) := goodIn_app (goodIn_of _ (by decide +kernel)) ggX4_idleFacts_X4_hasAnswer
set_option maxRecDepth 20000 in
theorem ggX4_idleFacts_X3_size : GoodIn wsX4_idleFacts wsX3_size := goodIn_r _ [13, 14, 99, 100, 101, 102, 103, 104] (by decide +kernel) (by decide +kernel)
set_option maxRecDepth 20000 in
theorem gX4_idleFacts_X3_size : GoodIn wsX4_idleFacts (wsV RX4 85 RX3 yX3_size wsX3_size) := goodIn_app (goodIn_of _ (by decide +kernel)) ggX4_idleFacts_X3_size
set_option maxRecDepth 20000 in
theorem ggX4_idleFacts_X4_isFact : GoodIn wsX4_idleFacts wsX4_isFact := goodIn_r _ [18, 2, 19, 20, 21, 12, 22, 23, 85, 86, 87, 88, 89, 90, 91, 92, 93, 94, 95, 96, 97, 98, 99, 100, 101, 102, 103, 104] (by decide +kernel) (by decide +kernel)
set_option maxRecDepth 20000 in
theorem gX4_idleFacts_X4_isFact : GoodIn wsX4_idleFacts (wsV RX4 120 RX4 yX4_isFact wsX4_isFact) := goodIn_app (goodIn_of _ (by decide +kernel)) ggX4_idleFacts_X4_isFact
set_option maxRecDepth 20000 in
theorem ggX4_idleFacts_X3_facts : GoodIn wsX4_idleFacts wsX3_facts := goodIn_r _ [22, 23, 99, 100, 101, 102, 103, 104] (by decide +kernel) (by decide +kernel)
set_option maxRecDepth 20000 in
theorem gX4_idleFacts_X3_facts : GoodIn wsX4_idleFacts (wsV RX4 134 RX3 yX3_facts wsX3_facts) := goodIn_app (goodIn_of _ (by decide +kernel)) ggX4_idleFacts_X3_facts
set_option maxRecDepth 20000 in
theorem ggX4_idleFacts_X4_isSettledBy : GoodIn wsX4_idleFacts wsX4_isSettledBy := goodIn_r _ [27, 2, 28, 29, 30, 31, 32, 33, 34, 35, 36, 37, 38, 12, 39, 40, 41, 42, 43, 44, 6, 45, 9, 10, 11, 13, 14, 15, 16, 17, 18, 19, 20, 21, 22, 23, 46, 47, 48, 49, 50, 51, 52, 53, 54, 55, 56, 57, 58, 59, 60, 61, 62, 63, 64, 65, 66, 67, 68, 69, 70, 71, 72, 73, 74, 75, 76, 77, 78, 79, 80, 81, 82, 83, 84, 85, 86, 87, 88, 89, 90, 91, 92, 93, 94, 95, 96, 97, 98, 99, 100, 101, 102, 103, 104, 105, 106] (by decide +kernel) (by decide +kernel)
set_option maxRecDepth 20000 in
theorem gX4_idleFacts_X4_isSettledBy : GoodIn wsX4_idleFacts (wsV RX4 170 RX4 yX4_isSettledBy wsX4_isSettledBy) := goodIn_app (goodIn_of _ (by decide +kernel)) ggX4_idleFacts_X4_isSettledBy
theorem dX4_idleFacts_0 : decode cX4_idleFacts 0 = .ok (.aload_n 0, 1) := by decide +kernel
theorem dX4_idleFacts_1 : decode cX4_idleFacts 1 = .ok (.invokevirtual 146, 3) := by decide +kernel
theorem dX4_idleFacts_4 : decode cX4_idleFacts 4 = .ok (.ifCond .ne 5, 3) := by decide +kernel
theorem dX4_idleFacts_7 : decode cX4_idleFacts 7 = .ok (.iconst 0, 1) := by decide +kernel
theorem dX4_idleFacts_8 : decode cX4_idleFacts 8 = .ok (.ireturn, 1) := by decide +kernel
theorem dX4_idleFacts_9 : decode cX4_idleFacts 9 = .ok (.aload_n 0, 1) := by decide +kernel
theorem dX4_idleFacts_10 : decode cX4_idleFacts 10 = .ok (.getfield 54, 3) := by decide +kernel
theorem dX4_idleFacts_13 : decode cX4_idleFacts 13 = .ok (.iconst (-1), 1) := by decide +kernel
theorem dX4_idleFacts_14 : decode cX4_idleFacts 14 = .ok (.if_icmp .ne 67, 3) := by decide +kernel
theorem dX4_idleFacts_17 : decode cX4_idleFacts 17 = .ok (.aload_n 0, 1) := by decide +kernel
theorem dX4_idleFacts_18 : decode cX4_idleFacts 18 = .ok (.iconst 0, 1) := by decide +kernel
theorem dX4_idleFacts_19 : decode cX4_idleFacts 19 = .ok (.putfield 54, 3) := by decide +kernel
theorem dX4_idleFacts_22 : decode cX4_idleFacts 22 = .ok (.iconst 0, 1) := by decide +kernel
theorem dX4_idleFacts_23 : decode cX4_idleFacts 23 = .ok (.istore_n 1, 1) := by decide +kernel
theorem dX4_idleFacts_24 : decode cX4_idleFacts 24 = .ok (.iload_n 1, 1) := by decide +kernel
theorem dX4_idleFacts_25 : decode cX4_idleFacts 25 = .ok (.aload_n 0, 1) := by decide +kernel
theorem dX4_idleFacts_26 : decode cX4_idleFacts 26 = .ok (.getfield 60, 3) := by decide +kernel
theorem dX4_idleFacts_29 : decode cX4_idleFacts 29 = .ok (.invokevirtual 85, 3) := by decide +kernel
theorem dX4_idleFacts_32 : decode cX4_idleFacts 32 = .ok (.if_icmp .ge 49, 3) := by decide +kernel
theorem dX4_idleFacts_35 : decode cX4_idleFacts 35 = .ok (.aload_n 0, 1) := by decide +kernel
theorem dX4_idleFacts_36 : decode cX4_idleFacts 36 = .ok (.iload_n 1, 1) := by decide +kernel
theorem dX4_idleFacts_37 : decode cX4_idleFacts 37 = .ok (.invokevirtual 120, 3) := by decide +kernel
theorem dX4_idleFacts_40 : decode cX4_idleFacts 40 = .ok (.ifCond .eq 35, 3) := by decide +kernel
theorem dX4_idleFacts_43 : decode cX4_idleFacts 43 = .ok (.aload_n 0, 1) := by decide +kernel
theorem dX4_idleFacts_44 : decode cX4_idleFacts 44 = .ok (.aload_n 0, 1) := by decide +kernel
theorem dX4_idleFacts_45 : decode cX4_idleFacts 45 = .ok (.getfield 60, 3) := by decide +kernel
theorem dX4_idleFacts_48 : decode cX4_idleFacts 48 = .ok (.invokevirtual 134, 3) := by decide +kernel
theorem dX4_idleFacts_51 : decode cX4_idleFacts 51 = .ok (.iconst 1, 1) := by decide +kernel
theorem dX4_idleFacts_52 : decode cX4_idleFacts 52 = .ok (.iload_n 1, 1) := by decide +kernel
theorem dX4_idleFacts_53 : decode cX4_idleFacts 53 = .ok (.ishl, 1) := by decide +kernel
theorem dX4_idleFacts_54 : decode cX4_idleFacts 54 = .ok (.iconst (-1), 1) := by decide +kernel
theorem dX4_idleFacts_55 : decode cX4_idleFacts 55 = .ok (.ixor, 1) := by decide +kernel
theorem dX4_idleFacts_56 : decode cX4_idleFacts 56 = .ok (.iand, 1) := by decide +kernel
theorem dX4_idleFacts_57 : decode cX4_idleFacts 57 = .ok (.invokevirtual 170, 3) := by decide +kernel
theorem dX4_idleFacts_60 : decode cX4_idleFacts 60 = .ok (.ifCond .eq 15, 3) := by decide +kernel
theorem dX4_idleFacts_63 : decode cX4_idleFacts 63 = .ok (.aload_n 0, 1) := by decide +kernel
theorem dX4_idleFacts_64 : decode cX4_idleFacts 64 = .ok (.dup, 1) := by decide +kernel
theorem dX4_idleFacts_65 : decode cX4_idleFacts 65 = .ok (.getfield 54, 3) := by decide +kernel
theorem dX4_idleFacts_68 : decode cX4_idleFacts 68 = .ok (.iconst 1, 1) := by decide +kernel
theorem dX4_idleFacts_69 : decode cX4_idleFacts 69 = .ok (.iload_n 1, 1) := by decide +kernel
theorem dX4_idleFacts_70 : decode cX4_idleFacts 70 = .ok (.ishl, 1) := by decide +kernel
theorem dX4_idleFacts_71 : decode cX4_idleFacts 71 = .ok (.ior, 1) := by decide +kernel
theorem dX4_idleFacts_72 : decode cX4_idleFacts 72 = .ok (.putfield 54, 3) := by decide +kernel
theorem dX4_idleFacts_75 : decode cX4_idleFacts 75 = .ok (.iinc 1 1, 3) := by decide +kernel
theorem dX4_idleFacts_78 : decode cX4_idleFacts 78 = .ok (.goto (-54), 3) := by decide +kernel
theorem dX4_idleFacts_81 : decode cX4_idleFacts 81 = .ok (.aload_n 0, 1) := by decide +kernel
theorem dX4_idleFacts_82 : decode cX4_idleFacts 82 = .ok (.getfield 54, 3) := by decide +kernel
theorem dX4_idleFacts_85 : decode cX4_idleFacts 85 = .ok (.ireturn, 1) := by decide +kernel
set_option maxRecDepth 20000 in
theorem ggX4_fewestFacts_X4_hasAnswer : GoodIn wsX4_fewestFacts wsX4_hasAnswer := goodIn_r _ [7, 8, 101, 102, 103, 104, 105, 106, 107, 108, 109, 110, 111, 112, 113, 114] (by decide +kernel) (by decide +kernel)
set_option maxRecDepth 20000 in
theorem gX4_fewestFacts_X4_hasAnswer : GoodIn wsX4_fewestFacts (wsV RX4 146 RX4 yX4_hasAnswer wsX4_hasAnswer) := goodIn_app (goodIn_of _ (by decide +kernel)) ggX4_fewestFacts_X4_hasAnswer
set_option maxRecDepth 20000 in
theorem ggX4_fewestFacts_X3_facts : GoodIn wsX4_fewestFacts wsX3_facts := goodIn_r _ [13, 14, 115, 116, 117, 118, 119, 120] (by decide +kernel) (by decide +kernel)
set_option maxRecDepth 20000 in
theorem gX4_fewestFacts_X3_facts : GoodIn wsX4_fewestFacts (wsV RX4 134 RX3 yX3_facts wsX3_facts) := goodIn_app (goodIn_of _ (by decide +kernel)) ggX4_fewestFacts_X3_facts
set_option maxRecDepth 20000 in
theorem ggX4_fewestFacts_X4_idleFacts : GoodIn wsX4_fewestFacts wsX4_idleFacts := goodIn_r _ [18, 19, 2, 3, 4, 5, 6, 7, 8, 20, 21, 22, 12, 23, 24, 25, 26, 27, 28, 9, 10, 11, 13, 14, 29, 30, 31, 32, 33, 34, 35, 36, 37, 38, 39, 40, 41, 42, 43, 44, 45, 46, 47, 48, 49, 50, 51, 52, 53, 54, 55, 56, 57, 58, 59, 60, 61, 62, 63, 64, 65, 66, 67, 68, 69, 70, 71, 72, 73, 74, 75, 76, 77, 78, 79, 80, 81, 82, 83, 84, 85, 86, 87, 88, 89, 101, 102, 103, 104, 105, 106, 107, 108, 109, 110, 111, 112, 113, 114, 115, 116, 117, 118, 119, 120, 121, 122] (by decide +kernel) (by decide +kernel)
set_option maxRecDepth 20000 in
theorem gX4_fewestFacts_X4_idleFacts : GoodIn wsX4_fewestFacts (wsV RX4 173 RX4 yX4_idleFacts wsX4_idleFacts) := goodIn_app (goodIn_of _ (by decide +kernel)) ggX4_fewestFacts_X4_idleFacts
set_option maxRecDepth 20000 in
theorem ggX4_fewestFacts_X3_asked : GoodIn wsX4_fewestFacts wsX3_asked := goodIn_r _ [44, 45, 46, 115, 116, 117, 118, 119, 120] (by decide +kernel) (by decide +kernel)
set_option maxRecDepth 20000 in
theorem gX4_fewestFacts_X3_asked : GoodIn wsX4_fewestFacts (wsV RX4 105 RX3 yX3_asked wsX3_asked) := goodIn_app (goodIn_of _ (by decide +kernel)) ggX4_fewestFacts_X3_asked
set_option maxRecDepth 20000 in
theorem ggX4_fewestFacts_X4_factsOf : GoodIn wsX4_fewestFacts wsX4_factsOf := goodIn_r _ [50, 2, 20, 21, 22, 12, 23, 24, 25, 26, 27, 6, 28, 9, 10, 11, 13, 14, 51, 52, 53, 54, 55, 56, 57, 58, 59, 101, 102, 103, 104, 105, 106, 107, 108, 109, 110, 111, 112, 113, 114, 115, 116, 117, 118, 119, 120] (by decide +kernel) (by decide +kernel)
set_option maxRecDepth 20000 in
theorem gX4_fewestFacts_X4_factsOf : GoodIn wsX4_fewestFacts (wsV RX4 176 RX4 yX4_factsOf wsX4_factsOf) := goodIn_app (goodIn_of _ (by decide +kernel)) ggX4_fewestFacts_X4_factsOf
set_option maxRecDepth 20000 in
theorem ggX4_fewestFacts_X4_seekFewest : GoodIn wsX4_fewestFacts wsX4_seekFewest := goodIn_r _ [93, 2, 20, 21, 22, 12, 23, 24, 94, 95, 96, 97, 98, 99, 100, 29, 30, 31, 6, 32, 33, 34, 35, 36, 37, 38, 39, 40, 41, 42, 43, 44, 45, 46, 47, 48, 49, 50, 25, 26, 27, 28, 9, 10, 11, 13, 14, 51, 52, 53, 54, 55, 56, 57, 58, 59, 60, 61, 62, 63, 64, 65, 66, 67, 68, 69, 70, 71, 72, 73, 74, 75, 76, 77, 78, 79, 80, 81, 82, 83, 84, 85, 86, 87, 88, 89, 101, 102, 103, 104, 105, 106, 107, 108, 109, 110, 111, 112, 113, 114, 115, 116, 117, 118, 119, 120, 121, 122] (by decide +kernel) (by decide +kernel)
set_option maxRecDepth 20000 in
theorem gX4_fewestFacts_X4_seekFewest : GoodIn wsX4_fewestFacts (wsV RX4 179 RX4 yX4_seekFewest wsX4_seekFewest) := goodIn_app (goodIn_of _ (by decide +kernel)) ggX4_fewestFacts_X4_seekFewest
theorem dX4_fewestFacts_0 : decode cX4_fewestFacts 0 = .ok (.aload_n 0, 1) := by decide +kernel
theorem dX4_fewestFacts_1 : decode cX4_fewestFacts 1 = .ok (.invokevirtual 146, 3) := by decide +kernel
theorem dX4_fewestFacts_4 : decode cX4_fewestFacts 4 = .ok (.ifCond .eq 45, 3) := by decide +kernel
theorem dX4_fewestFacts_7 : decode cX4_fewestFacts 7 = .ok (.aload_n 0, 1) := by decide +kernel
theorem dX4_fewestFacts_8 : decode cX4_fewestFacts 8 = .ok (.getfield 57, 3) := by decide +kernel
theorem dX4_fewestFacts_11 : decode cX4_fewestFacts 11 = .ok (.iconst (-1), 1) := by decide +kernel
theorem dX4_fewestFacts_12 : decode cX4_fewestFacts 12 = .ok (.if_icmp .ne 37, 3) := by decide +kernel
theorem dX4_fewestFacts_15 : decode cX4_fewestFacts 15 = .ok (.aload_n 0, 1) := by decide +kernel
theorem dX4_fewestFacts_16 : decode cX4_fewestFacts 16 = .ok (.aload_n 0, 1) := by decide +kernel
theorem dX4_fewestFacts_17 : decode cX4_fewestFacts 17 = .ok (.aload_n 0, 1) := by decide +kernel
theorem dX4_fewestFacts_18 : decode cX4_fewestFacts 18 = .ok (.getfield 60, 3) := by decide +kernel
theorem dX4_fewestFacts_21 : decode cX4_fewestFacts 21 = .ok (.invokevirtual 134, 3) := by decide +kernel
theorem dX4_fewestFacts_24 : decode cX4_fewestFacts 24 = .ok (.aload_n 0, 1) := by decide +kernel
theorem dX4_fewestFacts_25 : decode cX4_fewestFacts 25 = .ok (.invokevirtual 173, 3) := by decide +kernel
theorem dX4_fewestFacts_28 : decode cX4_fewestFacts 28 = .ok (.iconst (-1), 1) := by decide +kernel
theorem dX4_fewestFacts_29 : decode cX4_fewestFacts 29 = .ok (.ixor, 1) := by decide +kernel
theorem dX4_fewestFacts_30 : decode cX4_fewestFacts 30 = .ok (.iand, 1) := by decide +kernel
theorem dX4_fewestFacts_31 : decode cX4_fewestFacts 31 = .ok (.aload_n 0, 1) := by decide +kernel
theorem dX4_fewestFacts_32 : decode cX4_fewestFacts 32 = .ok (.aload_n 0, 1) := by decide +kernel
theorem dX4_fewestFacts_33 : decode cX4_fewestFacts 33 = .ok (.getfield 60, 3) := by decide +kernel
theorem dX4_fewestFacts_36 : decode cX4_fewestFacts 36 = .ok (.iconst 3, 1) := by decide +kernel
theorem dX4_fewestFacts_37 : decode cX4_fewestFacts 37 = .ok (.invokevirtual 105, 3) := by decide +kernel
theorem dX4_fewestFacts_40 : decode cX4_fewestFacts 40 = .ok (.invokevirtual 176, 3) := by decide +kernel
theorem dX4_fewestFacts_43 : decode cX4_fewestFacts 43 = .ok (.invokevirtual 179, 3) := by decide +kernel
theorem dX4_fewestFacts_46 : decode cX4_fewestFacts 46 = .ok (.putfield 57, 3) := by decide +kernel
theorem dX4_fewestFacts_49 : decode cX4_fewestFacts 49 = .ok (.aload_n 0, 1) := by decide +kernel
theorem dX4_fewestFacts_50 : decode cX4_fewestFacts 50 = .ok (.getfield 57, 3) := by decide +kernel
theorem dX4_fewestFacts_53 : decode cX4_fewestFacts 53 = .ok (.ireturn, 1) := by decide +kernel
set_option maxRecDepth 20000 in
theorem ggX4_seekFewest_X3_size : GoodIn wsX4_seekFewest wsX3_size := goodIn_r _ [6, 7, 100, 101, 102, 103, 104, 105] (by decide +kernel) (by decide +kernel)
set_option maxRecDepth 20000 in
theorem gX4_seekFewest_X3_size : GoodIn wsX4_seekFewest (wsV RX4 85 RX3 yX3_size wsX3_size) := goodIn_app (goodIn_of _ (by decide +kernel)) ggX4_seekFewest_X3_size
set_option maxRecDepth 20000 in
theorem ggX4_seekFewest_J6_bitCount_0f7a4 : GoodIn wsX4_seekFewest wsJ6_bitCount_0f7a4 := goodIn_r _ [11, 12, 13, 14] (by decide +kernel) (by decide +kernel)
set_option maxRecDepth 20000 in
theorem gX4_seekFewest_J6_bitCount_0f7a4 : GoodIn wsX4_seekFewest (va_wsS RX4 182 yJ6_bitCount_0f7a4 wsJ6_bitCount_0f7a4) := goodIn_app (goodIn_of _ (by decide +kernel)) ggX4_seekFewest_J6_bitCount_0f7a4
set_option maxRecDepth 20000 in
theorem ggX4_seekFewest_X4_isSettledBy : GoodIn wsX4_seekFewest wsX4_isSettledBy := goodIn_r _ [19, 1, 20, 21, 22, 23, 24, 25, 26, 27, 28, 29, 30, 5, 31, 32, 33, 34, 35, 36, 18, 37, 2, 3, 4, 6, 7, 38, 39, 40, 41, 42, 43, 44, 45, 46, 47, 48, 49, 50, 51, 52, 53, 54, 55, 56, 57, 58, 59, 60, 61, 62, 63, 64, 65, 66, 67, 68, 69, 70, 71, 72, 73, 74, 75, 76, 77, 78, 79, 80, 81, 82, 83, 84, 85, 86, 87, 88, 89, 90, 91, 92, 93, 94, 95, 96, 97, 98, 99, 100, 101, 102, 103, 104, 105, 106, 107] (by decide +kernel) (by decide +kernel)
set_option maxRecDepth 20000 in
theorem gX4_seekFewest_X4_isSettledBy : GoodIn wsX4_seekFewest (wsV RX4 170 RX4 yX4_isSettledBy wsX4_isSettledBy) := goodIn_app (goodIn_of _ (by decide +kernel)) ggX4_seekFewest_X4_isSettledBy
theorem dX4_seekFewest_0 : decode cX4_seekFewest 0 = .ok (.iconst 1, 1) := by decide +kernel
theorem dX4_seekFewest_1 : decode cX4_seekFewest 1 = .ok (.istore_n 3, 1) := by decide +kernel
theorem dX4_seekFewest_2 : decode cX4_seekFewest 2 = .ok (.iload_n 3, 1) := by decide +kernel
theorem dX4_seekFewest_3 : decode cX4_seekFewest 3 = .ok (.aload_n 0, 1) := by decide +kernel
theorem dX4_seekFewest_4 : decode cX4_seekFewest 4 = .ok (.getfield 60, 3) := by decide +kernel
theorem dX4_seekFewest_7 : decode cX4_seekFewest 7 = .ok (.invokevirtual 85, 3) := by decide +kernel
theorem dX4_seekFewest_10 : decode cX4_seekFewest 10 = .ok (.if_icmp .gt 62, 3) := by decide +kernel
theorem dX4_seekFewest_13 : decode cX4_seekFewest 13 = .ok (.iconst 1, 1) := by decide +kernel
theorem dX4_seekFewest_14 : decode cX4_seekFewest 14 = .ok (.istore 4, 2) := by decide +kernel
theorem dX4_seekFewest_16 : decode cX4_seekFewest 16 = .ok (.iload 4, 2) := by decide +kernel
theorem dX4_seekFewest_18 : decode cX4_seekFewest 18 = .ok (.iload_n 2, 1) := by decide +kernel
theorem dX4_seekFewest_19 : decode cX4_seekFewest 19 = .ok (.if_icmp .gt 47, 3) := by decide +kernel
theorem dX4_seekFewest_22 : decode cX4_seekFewest 22 = .ok (.iload 4, 2) := by decide +kernel
theorem dX4_seekFewest_24 : decode cX4_seekFewest 24 = .ok (.invokestatic 182, 3) := by decide +kernel
theorem dX4_seekFewest_27 : decode cX4_seekFewest 27 = .ok (.iload_n 3, 1) := by decide +kernel
theorem dX4_seekFewest_28 : decode cX4_seekFewest 28 = .ok (.if_icmp .ne 32, 3) := by decide +kernel
theorem dX4_seekFewest_31 : decode cX4_seekFewest 31 = .ok (.iload 4, 2) := by decide +kernel
theorem dX4_seekFewest_33 : decode cX4_seekFewest 33 = .ok (.iload_n 1, 1) := by decide +kernel
theorem dX4_seekFewest_34 : decode cX4_seekFewest 34 = .ok (.iand, 1) := by decide +kernel
theorem dX4_seekFewest_35 : decode cX4_seekFewest 35 = .ok (.iload_n 1, 1) := by decide +kernel
theorem dX4_seekFewest_36 : decode cX4_seekFewest 36 = .ok (.if_icmp .ne 24, 3) := by decide +kernel
theorem dX4_seekFewest_39 : decode cX4_seekFewest 39 = .ok (.iload 4, 2) := by decide +kernel
theorem dX4_seekFewest_41 : decode cX4_seekFewest 41 = .ok (.iload_n 2, 1) := by decide +kernel
theorem dX4_seekFewest_42 : decode cX4_seekFewest 42 = .ok (.iconst (-1), 1) := by decide +kernel
theorem dX4_seekFewest_43 : decode cX4_seekFewest 43 = .ok (.ixor, 1) := by decide +kernel
theorem dX4_seekFewest_44 : decode cX4_seekFewest 44 = .ok (.iand, 1) := by decide +kernel
theorem dX4_seekFewest_45 : decode cX4_seekFewest 45 = .ok (.ifCond .ne 15, 3) := by decide +kernel
theorem dX4_seekFewest_48 : decode cX4_seekFewest 48 = .ok (.aload_n 0, 1) := by decide +kernel
theorem dX4_seekFewest_49 : decode cX4_seekFewest 49 = .ok (.iload 4, 2) := by decide +kernel
theorem dX4_seekFewest_51 : decode cX4_seekFewest 51 = .ok (.invokevirtual 170, 3) := by decide +kernel
theorem dX4_seekFewest_54 : decode cX4_seekFewest 54 = .ok (.ifCond .eq 6, 3) := by decide +kernel
theorem dX4_seekFewest_57 : decode cX4_seekFewest 57 = .ok (.iload 4, 2) := by decide +kernel
theorem dX4_seekFewest_59 : decode cX4_seekFewest 59 = .ok (.ireturn, 1) := by decide +kernel
theorem dX4_seekFewest_60 : decode cX4_seekFewest 60 = .ok (.iinc 4 1, 3) := by decide +kernel
theorem dX4_seekFewest_63 : decode cX4_seekFewest 63 = .ok (.goto (-47), 3) := by decide +kernel
theorem dX4_seekFewest_66 : decode cX4_seekFewest 66 = .ok (.iinc 3 1, 3) := by decide +kernel
theorem dX4_seekFewest_69 : decode cX4_seekFewest 69 = .ok (.goto (-67), 3) := by decide +kernel
theorem dX4_seekFewest_72 : decode cX4_seekFewest 72 = .ok (.iconst (-1), 1) := by decide +kernel
theorem dX4_seekFewest_73 : decode cX4_seekFewest 73 = .ok (.ireturn, 1) := by decide +kernel
set_option maxRecDepth 20000 in
theorem ggX4_factsOf_X3_size : GoodIn wsX4_factsOf wsX3_size := goodIn_r _ [6, 7, 41, 42, 43, 44, 45, 46] (by decide +kernel) (by decide +kernel)
set_option maxRecDepth 20000 in
theorem gX4_factsOf_X3_size : GoodIn wsX4_factsOf (wsV RX4 85 RX3 yX3_size wsX3_size) := goodIn_app (goodIn_of _ (by decide +kernel)) ggX4_factsOf_X3_size
set_option maxRecDepth 20000 in
theorem ggX4_factsOf_X4_isFact : GoodIn wsX4_factsOf wsX4_isFact := goodIn_r _ [12, 1, 13, 14, 15, 5, 16, 17, 27, 28, 29, 30, 31, 32, 33, 34, 35, 36, 37, 38, 39, 40, 41, 42, 43, 44, 45, 46] (by decide +kernel) (by decide +kernel)
set_option maxRecDepth 20000 in
theorem gX4_factsOf_X4_isFact : GoodIn wsX4_factsOf (wsV RX4 120 RX4 yX4_isFact wsX4_isFact) := goodIn_app (goodIn_of _ (by decide +kernel)) ggX4_factsOf_X4_isFact
set_option maxRecDepth 20000 in
theorem ggX4_factsOf_X3_part : GoodIn wsX4_factsOf wsX3_part := goodIn_r _ [21, 22, 23, 24, 25, 5, 26, 7, 41, 42, 43, 44, 45, 46] (by decide +kernel) (by decide +kernel)
set_option maxRecDepth 20000 in
theorem gX4_factsOf_X3_part : GoodIn wsX4_factsOf (wsV RX4 91 RX3 yX3_part wsX3_part) := goodIn_app (goodIn_of _ (by decide +kernel)) ggX4_factsOf_X3_part
theorem dX4_factsOf_0 : decode cX4_factsOf 0 = .ok (.iconst 0, 1) := by decide +kernel
theorem dX4_factsOf_1 : decode cX4_factsOf 1 = .ok (.istore_n 2, 1) := by decide +kernel
theorem dX4_factsOf_2 : decode cX4_factsOf 2 = .ok (.iconst 0, 1) := by decide +kernel
theorem dX4_factsOf_3 : decode cX4_factsOf 3 = .ok (.istore_n 3, 1) := by decide +kernel
theorem dX4_factsOf_4 : decode cX4_factsOf 4 = .ok (.iload_n 3, 1) := by decide +kernel
theorem dX4_factsOf_5 : decode cX4_factsOf 5 = .ok (.aload_n 0, 1) := by decide +kernel
theorem dX4_factsOf_6 : decode cX4_factsOf 6 = .ok (.getfield 60, 3) := by decide +kernel
theorem dX4_factsOf_9 : decode cX4_factsOf 9 = .ok (.invokevirtual 85, 3) := by decide +kernel
theorem dX4_factsOf_12 : decode cX4_factsOf 12 = .ok (.if_icmp .ge 36, 3) := by decide +kernel
theorem dX4_factsOf_15 : decode cX4_factsOf 15 = .ok (.aload_n 0, 1) := by decide +kernel
theorem dX4_factsOf_16 : decode cX4_factsOf 16 = .ok (.iload_n 3, 1) := by decide +kernel
theorem dX4_factsOf_17 : decode cX4_factsOf 17 = .ok (.invokevirtual 120, 3) := by decide +kernel
theorem dX4_factsOf_20 : decode cX4_factsOf 20 = .ok (.ifCond .eq 22, 3) := by decide +kernel
theorem dX4_factsOf_23 : decode cX4_factsOf 23 = .ok (.aload_n 0, 1) := by decide +kernel
theorem dX4_factsOf_24 : decode cX4_factsOf 24 = .ok (.getfield 60, 3) := by decide +kernel
theorem dX4_factsOf_27 : decode cX4_factsOf 27 = .ok (.iload_n 3, 1) := by decide +kernel
theorem dX4_factsOf_28 : decode cX4_factsOf 28 = .ok (.iconst 3, 1) := by decide +kernel
theorem dX4_factsOf_29 : decode cX4_factsOf 29 = .ok (.invokevirtual 91, 3) := by decide +kernel
theorem dX4_factsOf_32 : decode cX4_factsOf 32 = .ok (.iload_n 1, 1) := by decide +kernel
theorem dX4_factsOf_33 : decode cX4_factsOf 33 = .ok (.if_icmp .ne 9, 3) := by decide +kernel
theorem dX4_factsOf_36 : decode cX4_factsOf 36 = .ok (.iload_n 2, 1) := by decide +kernel
theorem dX4_factsOf_37 : decode cX4_factsOf 37 = .ok (.iconst 1, 1) := by decide +kernel
theorem dX4_factsOf_38 : decode cX4_factsOf 38 = .ok (.iload_n 3, 1) := by decide +kernel
theorem dX4_factsOf_39 : decode cX4_factsOf 39 = .ok (.ishl, 1) := by decide +kernel
theorem dX4_factsOf_40 : decode cX4_factsOf 40 = .ok (.ior, 1) := by decide +kernel
theorem dX4_factsOf_41 : decode cX4_factsOf 41 = .ok (.istore_n 2, 1) := by decide +kernel
theorem dX4_factsOf_42 : decode cX4_factsOf 42 = .ok (.iinc 3 1, 3) := by decide +kernel
theorem dX4_factsOf_45 : decode cX4_factsOf 45 = .ok (.goto (-41), 3) := by decide +kernel
theorem dX4_factsOf_48 : decode cX4_factsOf 48 = .ok (.iload_n 2, 1) := by decide +kernel
theorem dX4_factsOf_49 : decode cX4_factsOf 49 = .ok (.ireturn, 1) := by decide +kernel
set_option maxRecDepth 20000 in
theorem ggX4_isSettledBy_X3_asked : GoodIn wsX4_isSettledBy wsX3_asked := goodIn_r _ [14, 15, 16, 89, 90, 91, 92, 93, 94] (by decide +kernel) (by decide +kernel)
set_option maxRecDepth 20000 in
theorem gX4_isSettledBy_X3_asked : GoodIn wsX4_isSettledBy (wsV RX4 105 RX3 yX3_asked wsX3_asked) := goodIn_app (goodIn_of _ (by decide +kernel)) ggX4_isSettledBy_X3_asked
set_option maxRecDepth 20000 in
theorem ggX4_isSettledBy_X4_factsOf : GoodIn wsX4_isSettledBy wsX4_factsOf := goodIn_r _ [21, 1, 22, 23, 24, 13, 25, 26, 27, 28, 29, 20, 30, 31, 32, 33, 34, 35, 36, 37, 38, 39, 40, 41, 42, 43, 44, 75, 76, 77, 78, 79, 80, 81, 82, 83, 84, 85, 86, 87, 88, 89, 90, 91, 92, 93, 94] (by decide +kernel) (by decide +kernel)
set_option maxRecDepth 20000 in
theorem gX4_isSettledBy_X4_factsOf : GoodIn wsX4_isSettledBy (wsV RX4 176 RX4 yX4_factsOf wsX4_factsOf) := goodIn_app (goodIn_of _ (by decide +kernel)) ggX4_isSettledBy_X4_factsOf
set_option maxRecDepth 20000 in
theorem ggX4_isSettledBy_X1_clear : GoodIn wsX4_isSettledBy wsX1_clear := goodIn_r _ [49, 50, 95, 96] (by decide +kernel) (by decide +kernel)
set_option maxRecDepth 20000 in
theorem gX4_isSettledBy_X1_clear : GoodIn wsX4_isSettledBy (wsV RX4 117 RX1 yX1_clear wsX1_clear) := goodIn_app (goodIn_of _ (by decide +kernel)) ggX4_isSettledBy_X1_clear
set_option maxRecDepth 20000 in
theorem ggX4_isSettledBy_X1_add : GoodIn wsX4_isSettledBy wsX1_add := goodIn_r _ [54, 50, 55, 56, 6, 7, 8, 57, 58, 59, 48, 60, 61, 62, 63, 64, 65, 66, 67, 68, 69, 70, 71, 72, 95, 96] (by decide +kernel) (by decide +kernel)
set_option maxRecDepth 20000 in
theorem gX4_isSettledBy_X1_add : GoodIn wsX4_isSettledBy (wsV RX4 130 RX1 yX1_add wsX1_add) := goodIn_app (goodIn_of _ (by decide +kernel)) ggX4_isSettledBy_X1_add
set_option maxRecDepth 20000 in
theorem ggX4_isSettledBy_X1_reduce : GoodIn wsX4_isSettledBy wsX1_reduce := goodIn_r _ [60, 50, 55, 61, 62, 48, 63, 64, 65, 66, 95, 96] (by decide +kernel) (by decide +kernel)
set_option maxRecDepth 20000 in
theorem gX4_isSettledBy_X1_reduce : GoodIn wsX4_isSettledBy (wsV RX4 139 RX1 yX1_reduce wsX1_reduce) := goodIn_app (goodIn_of _ (by decide +kernel)) ggX4_isSettledBy_X1_reduce
set_option maxRecDepth 20000 in
theorem ggX4_isSettledBy_X1_firstName : GoodIn wsX4_isSettledBy wsX1_firstName := goodIn_r _ [69] (by decide +kernel) (by decide +kernel)
set_option maxRecDepth 20000 in
theorem gX4_isSettledBy_X1_firstName : GoodIn wsX4_isSettledBy (va_wsS RX4 142 yX1_firstName wsX1_firstName) := goodIn_app (goodIn_of _ (by decide +kernel)) ggX4_isSettledBy_X1_firstName
theorem dX4_isSettledBy_0 : decode cX4_isSettledBy 0 = .ok (.iload_n 1, 1) := by decide +kernel
theorem dX4_isSettledBy_1 : decode cX4_isSettledBy 1 = .ok (.aload_n 0, 1) := by decide +kernel
theorem dX4_isSettledBy_2 : decode cX4_isSettledBy 2 = .ok (.aload_n 0, 1) := by decide +kernel
theorem dX4_isSettledBy_3 : decode cX4_isSettledBy 3 = .ok (.getfield 60, 3) := by decide +kernel
theorem dX4_isSettledBy_6 : decode cX4_isSettledBy 6 = .ok (.iconst 3, 1) := by decide +kernel
theorem dX4_isSettledBy_7 : decode cX4_isSettledBy 7 = .ok (.invokevirtual 105, 3) := by decide +kernel
theorem dX4_isSettledBy_10 : decode cX4_isSettledBy 10 = .ok (.invokevirtual 176, 3) := by decide +kernel
theorem dX4_isSettledBy_13 : decode cX4_isSettledBy 13 = .ok (.iand, 1) := by decide +kernel
theorem dX4_isSettledBy_14 : decode cX4_isSettledBy 14 = .ok (.istore_n 2, 1) := by decide +kernel
theorem dX4_isSettledBy_15 : decode cX4_isSettledBy 15 = .ok (.aload_n 0, 1) := by decide +kernel
theorem dX4_isSettledBy_16 : decode cX4_isSettledBy 16 = .ok (.getfield 18, 3) := by decide +kernel
theorem dX4_isSettledBy_19 : decode cX4_isSettledBy 19 = .ok (.invokevirtual 117, 3) := by decide +kernel
theorem dX4_isSettledBy_22 : decode cX4_isSettledBy 22 = .ok (.iconst 0, 1) := by decide +kernel
theorem dX4_isSettledBy_23 : decode cX4_isSettledBy 23 = .ok (.istore_n 3, 1) := by decide +kernel
theorem dX4_isSettledBy_24 : decode cX4_isSettledBy 24 = .ok (.iload_n 3, 1) := by decide +kernel
theorem dX4_isSettledBy_25 : decode cX4_isSettledBy 25 = .ok (.bipush 10, 2) := by decide +kernel
