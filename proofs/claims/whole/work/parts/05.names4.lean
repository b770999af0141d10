theorem dX7_stages_15 : decode cX7_stages 15 = .ok (.iload_n 2, 1) := by decide +kernel
theorem dX7_stages_16 : decode cX7_stages 16 = .ok (.aload_n 0, 1) := by decide +kernel
theorem dX7_stages_17 : decode cX7_stages 17 = .ok (.getfield 205, 3) := by decide +kernel
theorem dX7_stages_20 : decode cX7_stages 20 = .ok (.if_icmp .ge 25, 3) := by decide +kernel
theorem dX7_stages_23 : decode cX7_stages 23 = .ok (.iload_n 1, 1) := by decide +kernel
theorem dX7_stages_24 : decode cX7_stages 24 = .ok (.aload_n 0, 1) := by decide +kernel
theorem dX7_stages_25 : decode cX7_stages 25 = .ok (.iload_n 2, 1) := by decide +kernel
theorem dX7_stages_26 : decode cX7_stages 26 = .ok (.invokevirtual 235, 3) := by decide +kernel
theorem dX7_stages_29 : decode cX7_stages 29 = .ok (.ifCond .eq 7, 3) := by decide +kernel
theorem dX7_stages_32 : decode cX7_stages 32 = .ok (.iconst 0, 1) := by decide +kernel
theorem dX7_stages_33 : decode cX7_stages 33 = .ok (.goto 4, 3) := by decide +kernel
theorem dX7_stages_36 : decode cX7_stages 36 = .ok (.iconst 1, 1) := by decide +kernel
theorem dX7_stages_37 : decode cX7_stages 37 = .ok (.iadd, 1) := by decide +kernel
theorem dX7_stages_38 : decode cX7_stages 38 = .ok (.istore_n 1, 1) := by decide +kernel
theorem dX7_stages_39 : decode cX7_stages 39 = .ok (.iinc 2 1, 3) := by decide +kernel
theorem dX7_stages_42 : decode cX7_stages 42 = .ok (.goto (-27), 3) := by decide +kernel
theorem dX7_stages_45 : decode cX7_stages 45 = .ok (.iload_n 1, 1) := by decide +kernel
theorem dX7_stages_46 : decode cX7_stages 46 = .ok (.ireturn, 1) := by decide +kernel
set_option maxRecDepth 20000 in
theorem ggX7_amounts_X7_all : GoodIn wsX7_amounts wsX7_all := goodIn_r _ [7, 8, 50, 51, 52, 53, 54, 55, 56, 57, 58, 59, 60, 61, 62, 63, 64, 65, 66, 67, 68, 69, 70, 71, 72, 73, 74, 75, 76] (by decide +kernel) (by decide +kernel)
set_option maxRecDepth 20000 in
theorem gX7_amounts_X7_all : GoodIn wsX7_amounts (wsV RX7 261 RX7 yX7_all wsX7_all) := goodIn_app (goodIn_of _ (by decide +kernel)) ggX7_amounts_X7_all
set_option maxRecDepth 20000 in
theorem ggX7_amounts_X7_gather : GoodIn wsX7_amounts wsX7_gather := goodIn_r _ [12, 13, 8, 14, 15, 16, 6, 17, 18, 19, 20, 21, 22, 23, 24, 25, 26, 27, 28, 29, 30, 31, 32, 33, 34, 35, 36, 37, 38, 39, 40, 41, 42, 43, 44, 45, 50, 51, 52, 53, 54, 55, 56, 57, 58, 59, 60, 61, 62, 63, 64, 65, 66, 67, 68, 69, 70, 71, 72, 73, 74, 75, 76] (by decide +kernel) (by decide +kernel)
set_option maxRecDepth 20000 in
theorem gX7_amounts_X7_gather : GoodIn wsX7_amounts (wsV RX7 251 RX7 yX7_gather wsX7_gather) := goodIn_app (goodIn_of _ (by decide +kernel)) ggX7_amounts_X7_gather
set_option maxRecDepth 20000 in
theorem ggX7_amounts_X7_settles : GoodIn wsX7_amounts wsX7_settles := goodIn_r _ [49, 27, 1, 2, 13, 37, 38, 39, 40, 6, 41, 42, 43, 44, 45, 50, 51, 52, 53, 54, 55, 56, 57, 58, 59, 60, 61, 62, 63, 64, 65, 66, 67, 68, 69, 70, 71, 72, 73, 74, 75, 76] (by decide +kernel) (by decide +kernel)
set_option maxRecDepth 20000 in
theorem gX7_amounts_X7_settles : GoodIn wsX7_amounts (wsV RX7 258 RX7 yX7_settles wsX7_settles) := goodIn_app (goodIn_of _ (by decide +kernel)) ggX7_amounts_X7_settles
set_option maxRecDepth 20000 in
theorem ggX7_amounts_X7_more : GoodIn wsX7_amounts wsX7_more := goodIn_r _ [32, 8, 18, 19, 20, 6, 21, 22, 50, 51, 52, 53, 54, 55, 56, 57, 58, 59, 60, 61, 62, 63, 64, 65, 66, 67, 68, 69, 70, 71, 72, 73, 74, 75, 76] (by decide +kernel) (by decide +kernel)
set_option maxRecDepth 20000 in
theorem gX7_amounts_X7_more : GoodIn wsX7_amounts (wsV RX7 223 RX7 yX7_more wsX7_more) := goodIn_app (goodIn_of _ (by decide +kernel)) ggX7_amounts_X7_more
theorem dX7_amounts_0 : decode cX7_amounts 0 = .ok (.aload_n 0, 1) := by decide +kernel
theorem dX7_amounts_1 : decode cX7_amounts 1 = .ok (.iload_n 2, 1) := by decide +kernel
theorem dX7_amounts_2 : decode cX7_amounts 2 = .ok (.aload_n 0, 1) := by decide +kernel
theorem dX7_amounts_3 : decode cX7_amounts 3 = .ok (.invokevirtual 261, 3) := by decide +kernel
theorem dX7_amounts_6 : decode cX7_amounts 6 = .ok (.invokevirtual 251, 3) := by decide +kernel
theorem dX7_amounts_9 : decode cX7_amounts 9 = .ok (.ifCond .eq 12, 3) := by decide +kernel
theorem dX7_amounts_12 : decode cX7_amounts 12 = .ok (.aload_n 0, 1) := by decide +kernel
theorem dX7_amounts_13 : decode cX7_amounts 13 = .ok (.iload_n 1, 1) := by decide +kernel
theorem dX7_amounts_14 : decode cX7_amounts 14 = .ok (.iconst (-1), 1) := by decide +kernel
theorem dX7_amounts_15 : decode cX7_amounts 15 = .ok (.invokevirtual 258, 3) := by decide +kernel
theorem dX7_amounts_18 : decode cX7_amounts 18 = .ok (.ifCond .ne 5, 3) := by decide +kernel
theorem dX7_amounts_21 : decode cX7_amounts 21 = .ok (.iconst 0, 1) := by decide +kernel
theorem dX7_amounts_22 : decode cX7_amounts 22 = .ok (.ireturn, 1) := by decide +kernel
theorem dX7_amounts_23 : decode cX7_amounts 23 = .ok (.aload_n 0, 1) := by decide +kernel
theorem dX7_amounts_24 : decode cX7_amounts 24 = .ok (.dup, 1) := by decide +kernel
theorem dX7_amounts_25 : decode cX7_amounts 25 = .ok (.getfield 244, 3) := by decide +kernel
theorem dX7_amounts_28 : decode cX7_amounts 28 = .ok (.aload_n 0, 1) := by decide +kernel
theorem dX7_amounts_29 : decode cX7_amounts 29 = .ok (.getfield 248, 3) := by decide +kernel
theorem dX7_amounts_32 : decode cX7_amounts 32 = .ok (.aload_n 0, 1) := by decide +kernel
theorem dX7_amounts_33 : decode cX7_amounts 33 = .ok (.iload_n 1, 1) := by decide +kernel
theorem dX7_amounts_34 : decode cX7_amounts 34 = .ok (.iload_n 2, 1) := by decide +kernel
theorem dX7_amounts_35 : decode cX7_amounts 35 = .ok (.iload_n 3, 1) := by decide +kernel
theorem dX7_amounts_36 : decode cX7_amounts 36 = .ok (.invokevirtual 223, 3) := by decide +kernel
theorem dX7_amounts_39 : decode cX7_amounts 39 = .ok (.i2l, 1) := by decide +kernel
theorem dX7_amounts_40 : decode cX7_amounts 40 = .ok (.lmul, 1) := by decide +kernel
theorem dX7_amounts_41 : decode cX7_amounts 41 = .ok (.ladd, 1) := by decide +kernel
theorem dX7_amounts_42 : decode cX7_amounts 42 = .ok (.putfield 244, 3) := by decide +kernel
theorem dX7_amounts_45 : decode cX7_amounts 45 = .ok (.iconst 1, 1) := by decide +kernel
theorem dX7_amounts_46 : decode cX7_amounts 46 = .ok (.ireturn, 1) := by decide +kernel
set_option maxRecDepth 20000 in
theorem ggX7_amount_X7_isIn : GoodIn wsX7_amount wsX7_isIn := goodIn_r _ [6] (by decide +kernel) (by decide +kernel)
set_option maxRecDepth 20000 in
theorem gX7_amount_X7_isIn : GoodIn wsX7_amount (va_wsS RX7 176 yX7_isIn wsX7_isIn) := goodIn_app (goodIn_of _ (by decide +kernel)) ggX7_amount_X7_isIn
set_option maxRecDepth 20000 in
theorem ggX7_amount_X7_stages : GoodIn wsX7_amount wsX7_stages := goodIn_r _ [10, 11, 12, 13, 14, 15, 5, 16, 17, 18, 19, 20, 21, 72, 73, 74, 75, 76, 77, 78, 79, 80, 81, 82, 83, 84, 85, 86, 87, 88, 89, 90, 91, 92, 93, 94, 95, 96, 97, 98] (by decide +kernel) (by decide +kernel)
set_option maxRecDepth 20000 in
theorem gX7_amount_X7_stages : GoodIn wsX7_amount (wsV RX7 276 RX7 yX7_stages wsX7_stages) := goodIn_app (goodIn_of _ (by decide +kernel)) ggX7_amount_X7_stages
set_option maxRecDepth 20000 in
theorem ggX7_amount_X7_quarrelAt : GoodIn wsX7_amount wsX7_quarrelAt := goodIn_r _ [25, 12, 13, 14, 15, 5, 16, 17, 18, 19, 20, 21, 26, 27, 28, 29, 30, 31, 32, 33, 34, 35, 36, 37, 38, 39, 40, 41, 42, 43, 44, 45, 46, 47, 48, 49, 50, 51, 52, 53, 72, 73, 74, 75, 76, 77, 78, 79, 80, 81, 82, 83, 84, 85, 86, 87, 88, 89, 90, 91, 92, 93, 94, 95, 96, 97, 98] (by decide +kernel) (by decide +kernel)
set_option maxRecDepth 20000 in
theorem gX7_amount_X7_quarrelAt : GoodIn wsX7_amount (wsV RX7 255 RX7 yX7_quarrelAt wsX7_quarrelAt) := goodIn_app (goodIn_of _ (by decide +kernel)) ggX7_amount_X7_quarrelAt
set_option maxRecDepth 20000 in
theorem ggX7_amount_X7_amounts : GoodIn wsX7_amount wsX7_amounts := goodIn_r _ [57, 58, 59, 60, 61, 62, 5, 63, 12, 26, 27, 28, 29, 30, 13, 14, 15, 16, 17, 18, 19, 20, 21, 31, 32, 33, 34, 35, 36, 37, 38, 39, 40, 41, 42, 43, 44, 45, 46, 47, 48, 49, 50, 51, 52, 53, 64, 65, 66, 67, 72, 73, 74, 75, 76, 77, 78, 79, 80, 81, 82, 83, 84, 85, 86, 87, 88, 89, 90, 91, 92, 93, 94, 95, 96, 97, 98] (by decide +kernel) (by decide +kernel)
set_option maxRecDepth 20000 in
theorem gX7_amount_X7_amounts : GoodIn wsX7_amount (wsV RX7 279 RX7 yX7_amounts wsX7_amounts) := goodIn_app (goodIn_of _ (by decide +kernel)) ggX7_amount_X7_amounts
set_option maxRecDepth 20000 in
theorem ggX7_amount_X7_part : GoodIn wsX7_amount wsX7_part := goodIn_r _ [71, 58, 59, 47, 48, 5, 49, 50, 51, 52, 53, 72, 73, 74, 75, 76, 77, 78, 79, 80, 81, 82, 83, 84, 85, 86, 87, 88, 89, 90, 91, 92, 93, 94, 95, 96, 97, 98] (by decide +kernel) (by decide +kernel)
set_option maxRecDepth 20000 in
theorem gX7_amount_X7_part : GoodIn wsX7_amount (wsV RX7 272 RX7 yX7_part wsX7_part) := goodIn_app (goodIn_of _ (by decide +kernel)) ggX7_amount_X7_part
theorem dX7_amount_0 : decode cX7_amount 0 = .ok (.aload_n 0, 1) := by decide +kernel
theorem dX7_amount_1 : decode cX7_amount 1 = .ok (.iconst 0, 1) := by decide +kernel
theorem dX7_amount_2 : decode cX7_amount 2 = .ok (.putfield 42, 3) := by decide +kernel
theorem dX7_amount_5 : decode cX7_amount 5 = .ok (.iload 4, 2) := by decide +kernel
theorem dX7_amount_7 : decode cX7_amount 7 = .ok (.iconst 0, 1) := by decide +kernel
theorem dX7_amount_8 : decode cX7_amount 8 = .ok (.iconst 1, 1) := by decide +kernel
theorem dX7_amount_9 : decode cX7_amount 9 = .ok (.invokestatic 176, 3) := by decide +kernel
theorem dX7_amount_12 : decode cX7_amount 12 = .ok (.ifCond .eq 54, 3) := by decide +kernel
theorem dX7_amount_15 : decode cX7_amount 15 = .ok (.iload_n 1, 1) := by decide +kernel
theorem dX7_amount_16 : decode cX7_amount 16 = .ok (.iconst 0, 1) := by decide +kernel
theorem dX7_amount_17 : decode cX7_amount 17 = .ok (.bipush 7, 2) := by decide +kernel
theorem dX7_amount_19 : decode cX7_amount 19 = .ok (.invokestatic 176, 3) := by decide +kernel
theorem dX7_amount_22 : decode cX7_amount 22 = .ok (.ifCond .eq 44, 3) := by decide +kernel
theorem dX7_amount_25 : decode cX7_amount 25 = .ok (.iload_n 2, 1) := by decide +kernel
theorem dX7_amount_26 : decode cX7_amount 26 = .ok (.iconst 0, 1) := by decide +kernel
theorem dX7_amount_27 : decode cX7_amount 27 = .ok (.iconst 3, 1) := by decide +kernel
theorem dX7_amount_28 : decode cX7_amount 28 = .ok (.invokestatic 176, 3) := by decide +kernel
theorem dX7_amount_31 : decode cX7_amount 31 = .ok (.ifCond .eq 35, 3) := by decide +kernel
theorem dX7_amount_34 : decode cX7_amount 34 = .ok (.iload_n 3, 1) := by decide +kernel
theorem dX7_amount_35 : decode cX7_amount 35 = .ok (.iconst 0, 1) := by decide +kernel
theorem dX7_amount_36 : decode cX7_amount 36 = .ok (.aload_n 0, 1) := by decide +kernel
theorem dX7_amount_37 : decode cX7_amount 37 = .ok (.invokevirtual 276, 3) := by decide +kernel
theorem dX7_amount_40 : decode cX7_amount 40 = .ok (.iconst 1, 1) := by decide +kernel
theorem dX7_amount_41 : decode cX7_amount 41 = .ok (.isub, 1) := by decide +kernel
theorem dX7_amount_42 : decode cX7_amount 42 = .ok (.invokestatic 176, 3) := by decide +kernel
theorem dX7_amount_45 : decode cX7_amount 45 = .ok (.ifCond .eq 21, 3) := by decide +kernel
theorem dX7_amount_48 : decode cX7_amount 48 = .ok (.aload_n 0, 1) := by decide +kernel
theorem dX7_amount_49 : decode cX7_amount 49 = .ok (.invokevirtual 255, 3) := by decide +kernel
theorem dX7_amount_52 : decode cX7_amount 52 = .ok (.iconst (-1), 1) := by decide +kernel
theorem dX7_amount_53 : decode cX7_amount 53 = .ok (.if_icmp .ne 13, 3) := by decide +kernel
theorem dX7_amount_56 : decode cX7_amount 56 = .ok (.aload_n 0, 1) := by decide +kernel
theorem dX7_amount_57 : decode cX7_amount 57 = .ok (.iload_n 1, 1) := by decide +kernel
theorem dX7_amount_58 : decode cX7_amount 58 = .ok (.iload_n 2, 1) := by decide +kernel
theorem dX7_amount_59 : decode cX7_amount 59 = .ok (.iload_n 3, 1) := by decide +kernel
theorem dX7_amount_60 : decode cX7_amount 60 = .ok (.invokevirtual 279, 3) := by decide +kernel
theorem dX7_amount_63 : decode cX7_amount 63 = .ok (.ifCond .ne 7, 3) := by decide +kernel
theorem dX7_amount_66 : decode cX7_amount 66 = .ok (.ldc2_w 270, 3) := by decide +kernel
theorem dX7_amount_69 : decode cX7_amount 69 = .ok (.lreturn, 1) := by decide +kernel
theorem dX7_amount_70 : decode cX7_amount 70 = .ok (.aload_n 0, 1) := by decide +kernel
theorem dX7_amount_71 : decode cX7_amount 71 = .ok (.iload 4, 2) := by decide +kernel
theorem dX7_amount_73 : decode cX7_amount 73 = .ok (.invokevirtual 272, 3) := by decide +kernel
theorem dX7_amount_76 : decode cX7_amount 76 = .ok (.lreturn, 1) := by decide +kernel
set_option maxRecDepth 20000 in
theorem ggX7_idle_X7_hasAnswer : GoodIn wsX7_idle wsX7_hasAnswer := goodIn_r _ [7, 8, 9, 10, 11, 6, 12, 2, 13, 14, 15, 16, 17, 18, 19, 20, 21, 22, 23, 24, 25, 26, 27, 28, 29, 30, 31, 32, 33, 34, 35, 36, 37, 38, 39, 40, 41, 42, 43, 44, 45, 46, 47, 48, 49, 50, 51, 52, 53, 54, 55, 56, 57, 58, 59, 60, 61, 62, 63, 64, 65, 66, 67, 68, 69, 70, 71, 72, 73, 74, 75, 76, 77, 78, 79, 80, 81, 82, 83, 84, 85, 86, 87, 88, 89, 90, 91] (by decide +kernel) (by decide +kernel)
set_option maxRecDepth 20000 in
theorem gX7_idle_X7_hasAnswer : GoodIn wsX7_idle (wsV RX7 267 RX7 yX7_hasAnswer wsX7_hasAnswer) := goodIn_app (goodIn_of _ (by decide +kernel)) ggX7_idle_X7_hasAnswer
set_option maxRecDepth 20000 in
theorem ggX7_idle_X7_isFact : GoodIn wsX7_idle wsX7_isFact := goodIn_r _ [16, 17, 18, 19, 6, 20, 21, 65, 66, 67, 68, 69, 70, 71, 72, 73, 74, 75, 76, 77, 78, 79, 80, 81, 82, 83, 84, 85, 86, 87, 88, 89, 90, 91] (by decide +kernel) (by decide +kernel)
set_option maxRecDepth 20000 in
theorem gX7_idle_X7_isFact : GoodIn wsX7_idle (wsV RX7 235 RX7 yX7_isFact wsX7_isFact) := goodIn_app (goodIn_of _ (by decide +kernel)) ggX7_idle_X7_isFact
set_option maxRecDepth 20000 in
theorem ggX7_idle_X7_all : GoodIn wsX7_idle wsX7_all := goodIn_r _ [53, 2, 65, 66, 67, 68, 69, 70, 71, 72, 73, 74, 75, 76, 77, 78, 79, 80, 81, 82, 83, 84, 85, 86, 87, 88, 89, 90, 91] (by decide +kernel) (by decide +kernel)
set_option maxRecDepth 20000 in
theorem gX7_idle_X7_all : GoodIn wsX7_idle (wsV RX7 261 RX7 yX7_all wsX7_all) := goodIn_app (goodIn_of _ (by decide +kernel)) ggX7_idle_X7_all
set_option maxRecDepth 20000 in
theorem ggX7_idle_X7_answersBy : GoodIn wsX7_idle wsX7_answersBy := goodIn_r _ [57, 58, 22, 23, 24, 6, 25, 26, 2, 13, 14, 15, 16, 17, 18, 19, 20, 21, 27, 28, 29, 30, 31, 32, 33, 34, 35, 36, 37, 38, 39, 40, 41, 42, 43, 44, 45, 46, 47, 48, 49, 59, 60, 61, 62, 63, 64, 65, 66, 67, 68, 69, 70, 71, 72, 73, 74, 75, 76, 77, 78, 79, 80, 81, 82, 83, 84, 85, 86, 87, 88, 89, 90, 91] (by decide +kernel) (by decide +kernel)
set_option maxRecDepth 20000 in
theorem gX7_idle_X7_answersBy : GoodIn wsX7_idle (wsV RX7 264 RX7 yX7_answersBy wsX7_answersBy) := goodIn_app (goodIn_of _ (by decide +kernel)) ggX7_idle_X7_answersBy
theorem dX7_idle_0 : decode cX7_idle 0 = .ok (.aload_n 0, 1) := by decide +kernel
theorem dX7_idle_1 : decode cX7_idle 1 = .ok (.iconst 0, 1) := by decide +kernel
theorem dX7_idle_2 : decode cX7_idle 2 = .ok (.putfield 42, 3) := by decide +kernel
theorem dX7_idle_5 : decode cX7_idle 5 = .ok (.aload_n 0, 1) := by decide +kernel
theorem dX7_idle_6 : decode cX7_idle 6 = .ok (.invokevirtual 267, 3) := by decide +kernel
theorem dX7_idle_9 : decode cX7_idle 9 = .ok (.ifCond .ne 5, 3) := by decide +kernel
theorem dX7_idle_12 : decode cX7_idle 12 = .ok (.iconst 0, 1) := by decide +kernel
theorem dX7_idle_13 : decode cX7_idle 13 = .ok (.ireturn, 1) := by decide +kernel
theorem dX7_idle_14 : decode cX7_idle 14 = .ok (.iconst 0, 1) := by decide +kernel
theorem dX7_idle_15 : decode cX7_idle 15 = .ok (.istore_n 1, 1) := by decide +kernel
theorem dX7_idle_16 : decode cX7_idle 16 = .ok (.iconst 0, 1) := by decide +kernel
theorem dX7_idle_17 : decode cX7_idle 17 = .ok (.istore_n 2, 1) := by decide +kernel
theorem dX7_idle_18 : decode cX7_idle 18 = .ok (.iload_n 2, 1) := by decide +kernel
theorem dX7_idle_19 : decode cX7_idle 19 = .ok (.aload_n 0, 1) := by decide +kernel
theorem dX7_idle_20 : decode cX7_idle 20 = .ok (.getfield 205, 3) := by decide +kernel
theorem dX7_idle_23 : decode cX7_idle 23 = .ok (.if_icmp .ge 40, 3) := by decide +kernel
theorem dX7_idle_26 : decode cX7_idle 26 = .ok (.aload_n 0, 1) := by decide +kernel
theorem dX7_idle_27 : decode cX7_idle 27 = .ok (.iload_n 2, 1) := by decide +kernel
theorem dX7_idle_28 : decode cX7_idle 28 = .ok (.invokevirtual 235, 3) := by decide +kernel
theorem dX7_idle_31 : decode cX7_idle 31 = .ok (.ifCond .eq 26, 3) := by decide +kernel
theorem dX7_idle_34 : decode cX7_idle 34 = .ok (.aload_n 0, 1) := by decide +kernel
theorem dX7_idle_35 : decode cX7_idle 35 = .ok (.aload_n 0, 1) := by decide +kernel
theorem dX7_idle_36 : decode cX7_idle 36 = .ok (.invokevirtual 261, 3) := by decide +kernel
theorem dX7_idle_39 : decode cX7_idle 39 = .ok (.iconst 1, 1) := by decide +kernel
theorem dX7_idle_40 : decode cX7_idle 40 = .ok (.iload_n 2, 1) := by decide +kernel
theorem dX7_idle_41 : decode cX7_idle 41 = .ok (.ishl, 1) := by decide +kernel
theorem dX7_idle_42 : decode cX7_idle 42 = .ok (.iconst (-1), 1) := by decide +kernel
theorem dX7_idle_43 : decode cX7_idle 43 = .ok (.ixor, 1) := by decide +kernel
theorem dX7_idle_44 : decode cX7_idle 44 = .ok (.iand, 1) := by decide +kernel
theorem dX7_idle_45 : decode cX7_idle 45 = .ok (.invokevirtual 264, 3) := by decide +kernel
theorem dX7_idle_48 : decode cX7_idle 48 = .ok (.ifCond .eq 9, 3) := by decide +kernel
theorem dX7_idle_51 : decode cX7_idle 51 = .ok (.iload_n 1, 1) := by decide +kernel
theorem dX7_idle_52 : decode cX7_idle 52 = .ok (.iconst 1, 1) := by decide +kernel
theorem dX7_idle_53 : decode cX7_idle 53 = .ok (.iload_n 2, 1) := by decide +kernel
theorem dX7_idle_54 : decode cX7_idle 54 = .ok (.ishl, 1) := by decide +kernel
theorem dX7_idle_55 : decode cX7_idle 55 = .ok (.ior, 1) := by decide +kernel
theorem dX7_idle_56 : decode cX7_idle 56 = .ok (.istore_n 1, 1) := by decide +kernel
theorem dX7_idle_57 : decode cX7_idle 57 = .ok (.iinc 2 1, 3) := by decide +kernel
theorem dX7_idle_60 : decode cX7_idle 60 = .ok (.goto (-42), 3) := by decide +kernel
theorem dX7_idle_63 : decode cX7_idle 63 = .ok (.iload_n 1, 1) := by decide +kernel
theorem dX7_idle_64 : decode cX7_idle 64 = .ok (.ireturn, 1) := by decide +kernel
set_option maxRecDepth 20000 in
theorem ggX7_facts_X7_isFact : GoodIn wsX7_facts wsX7_isFact := goodIn_r _ [6, 7, 8, 9, 5, 10, 11, 12, 13, 14, 15, 16, 17, 18, 19, 20, 21, 22, 23, 24, 25, 26, 27, 28, 29, 30, 31, 32, 33, 34, 35, 36, 37, 38] (by decide +kernel) (by decide +kernel)
set_option maxRecDepth 20000 in
theorem gX7_facts_X7_isFact : GoodIn wsX7_facts (wsV RX7 235 RX7 yX7_isFact wsX7_isFact) := goodIn_app (goodIn_of _ (by decide +kernel)) ggX7_facts_X7_isFact
theorem dX7_facts_0 : decode cX7_facts 0 = .ok (.iconst 0, 1) := by decide +kernel
theorem dX7_facts_1 : decode cX7_facts 1 = .ok (.istore_n 1, 1) := by decide +kernel
theorem dX7_facts_2 : decode cX7_facts 2 = .ok (.iconst 0, 1) := by decide +kernel
theorem dX7_facts_3 : decode cX7_facts 3 = .ok (.istore_n 2, 1) := by decide +kernel
theorem dX7_facts_4 : decode cX7_facts 4 = .ok (.iload_n 2, 1) := by decide +kernel
theorem dX7_facts_5 : decode cX7_facts 5 = .ok (.aload_n 0, 1) := by decide +kernel
theorem dX7_facts_6 : decode cX7_facts 6 = .ok (.getfield 205, 3) := by decide +kernel
theorem dX7_facts_9 : decode cX7_facts 9 = .ok (.if_icmp .ge 27, 3) := by decide +kernel
theorem dX7_facts_12 : decode cX7_facts 12 = .ok (.iload_n 1, 1) := by decide +kernel
theorem dX7_facts_13 : decode cX7_facts 13 = .ok (.aload_n 0, 1) := by decide +kernel
theorem dX7_facts_14 : decode cX7_facts 14 = .ok (.iload_n 2, 1) := by decide +kernel
theorem dX7_facts_15 : decode cX7_facts 15 = .ok (.invokevirtual 235, 3) := by decide +kernel
theorem dX7_facts_18 : decode cX7_facts 18 = .ok (.ifCond .eq 9, 3) := by decide +kernel
theorem dX7_facts_21 : decode cX7_facts 21 = .ok (.iconst 1, 1) := by decide +kernel
theorem dX7_facts_22 : decode cX7_facts 22 = .ok (.iload_n 2, 1) := by decide +kernel
theorem dX7_facts_23 : decode cX7_facts 23 = .ok (.ishl, 1) := by decide +kernel
theorem dX7_facts_24 : decode cX7_facts 24 = .ok (.goto 4, 3) := by decide +kernel
theorem dX7_facts_27 : decode cX7_facts 27 = .ok (.iconst 0, 1) := by decide +kernel
theorem dX7_facts_28 : decode cX7_facts 28 = .ok (.ior, 1) := by decide +kernel
theorem dX7_facts_29 : decode cX7_facts 29 = .ok (.istore_n 1, 1) := by decide +kernel
theorem dX7_facts_30 : decode cX7_facts 30 = .ok (.iinc 2 1, 3) := by decide +kernel
theorem dX7_facts_33 : decode cX7_facts 33 = .ok (.goto (-29), 3) := by decide +kernel
theorem dX7_facts_36 : decode cX7_facts 36 = .ok (.iload_n 1, 1) := by decide +kernel
theorem dX7_facts_37 : decode cX7_facts 37 = .ok (.ireturn, 1) := by decide +kernel
set_option maxRecDepth 20000 in
theorem ggX7_enough_X7_hasAnswer : GoodIn wsX7_enough wsX7_hasAnswer := goodIn_r _ [6, 7, 8, 9, 10, 5, 11, 12, 13, 14, 15, 16, 17, 18, 19, 20, 21, 22, 23, 24, 25, 26, 27, 28, 29, 30, 31, 32, 33, 34, 35, 36, 37, 38, 39, 40, 41, 42, 43, 44, 45, 46, 47, 48, 49, 50, 51, 52, 53, 54, 55, 56, 57, 58, 59, 60, 61, 62, 63, 64, 76, 77, 78, 79, 80, 81, 82, 83, 84, 85, 86, 87, 88, 89, 90, 91, 92, 93, 94, 95, 96, 97, 98, 99, 100, 101, 102] (by decide +kernel) (by decide +kernel)
set_option maxRecDepth 20000 in
theorem gX7_enough_X7_hasAnswer : GoodIn wsX7_enough (wsV RX7 267 RX7 yX7_hasAnswer wsX7_hasAnswer) := goodIn_app (goodIn_of _ (by decide +kernel)) ggX7_enough_X7_hasAnswer
set_option maxRecDepth 20000 in
theorem ggX7_enough_X7_facts : GoodIn wsX7_enough wsX7_facts := goodIn_r _ [68, 12, 13, 14, 15, 5, 16, 17, 18, 19, 20, 21, 76, 77, 78, 79, 80, 81, 82, 83, 84, 85, 86, 87, 88, 89, 90, 91, 92, 93, 94, 95, 96, 97, 98, 99, 100, 101, 102] (by decide +kernel) (by decide +kernel)
set_option maxRecDepth 20000 in
theorem gX7_enough_X7_facts : GoodIn wsX7_enough (wsV RX7 282 RX7 yX7_facts wsX7_facts) := goodIn_app (goodIn_of _ (by decide +kernel)) ggX7_enough_X7_facts
set_option maxRecDepth 20000 in
theorem ggX7_enough_X7_all : GoodIn wsX7_enough wsX7_all := goodIn_r _ [53, 12, 76, 77, 78, 79, 80, 81, 82, 83, 84, 85, 86, 87, 88, 89, 90, 91, 92, 93, 94, 95, 96, 97, 98, 99, 100, 101, 102] (by decide +kernel) (by decide +kernel)
set_option maxRecDepth 20000 in
theorem gX7_enough_X7_all : GoodIn wsX7_enough (wsV RX7 261 RX7 yX7_all wsX7_all) := goodIn_app (goodIn_of _ (by decide +kernel)) ggX7_enough_X7_all
set_option maxRecDepth 20000 in
theorem ggX7_enough_J6_bitCount_0f7a4 : GoodIn wsX7_enough wsJ6_bitCount_0f7a4 := goodIn_r _ [72, 73, 74, 75] (by decide +kernel) (by decide +kernel)
set_option maxRecDepth 20000 in
theorem gX7_enough_J6_bitCount_0f7a4 : GoodIn wsX7_enough (va_wsS RX7 285 yJ6_bitCount_0f7a4 wsJ6_bitCount_0f7a4) := goodIn_app (goodIn_of _ (by decide +kernel)) ggX7_enough_J6_bitCount_0f7a4
set_option maxRecDepth 20000 in
theorem ggX7_enough_X7_answersBy : GoodIn wsX7_enough wsX7_answersBy := goodIn_r _ [57, 58, 22, 23, 24, 5, 25, 26, 12, 13, 14, 15, 16, 17, 18, 19, 20, 21, 27, 28, 29, 30, 31, 32, 33, 34, 35, 36, 37, 38, 39, 40, 41, 42, 43, 44, 45, 46, 47, 48, 49, 59, 60, 61, 62, 63, 64, 76, 77, 78, 79, 80, 81, 82, 83, 84, 85, 86, 87, 88, 89, 90, 91, 92, 93, 94, 95, 96, 97, 98, 99, 100, 101, 102] (by decide +kernel) (by decide +kernel)
set_option maxRecDepth 20000 in
theorem gX7_enough_X7_answersBy : GoodIn wsX7_enough (wsV RX7 264 RX7 yX7_answersBy wsX7_answersBy) := goodIn_app (goodIn_of _ (by decide +kernel)) ggX7_enough_X7_answersBy
theorem dX7_enough_0 : decode cX7_enough 0 = .ok (.aload_n 0, 1) := by decide +kernel
theorem dX7_enough_1 : decode cX7_enough 1 = .ok (.iconst 0, 1) := by decide +kernel
theorem dX7_enough_2 : decode cX7_enough 2 = .ok (.putfield 42, 3) := by decide +kernel
theorem dX7_enough_5 : decode cX7_enough 5 = .ok (.aload_n 0, 1) := by decide +kernel
theorem dX7_enough_6 : decode cX7_enough 6 = .ok (.invokevirtual 267, 3) := by decide +kernel
theorem dX7_enough_9 : decode cX7_enough 9 = .ok (.ifCond .ne 5, 3) := by decide +kernel
theorem dX7_enough_12 : decode cX7_enough 12 = .ok (.iconst (-1), 1) := by decide +kernel
theorem dX7_enough_13 : decode cX7_enough 13 = .ok (.ireturn, 1) := by decide +kernel
theorem dX7_enough_14 : decode cX7_enough 14 = .ok (.aload_n 0, 1) := by decide +kernel
theorem dX7_enough_15 : decode cX7_enough 15 = .ok (.invokevirtual 282, 3) := by decide +kernel
theorem dX7_enough_18 : decode cX7_enough 18 = .ok (.istore_n 1, 1) := by decide +kernel
theorem dX7_enough_19 : decode cX7_enough 19 = .ok (.aload_n 0, 1) := by decide +kernel
theorem dX7_enough_20 : decode cX7_enough 20 = .ok (.invokevirtual 261, 3) := by decide +kernel
theorem dX7_enough_23 : decode cX7_enough 23 = .ok (.istore_n 2, 1) := by decide +kernel
theorem dX7_enough_24 : decode cX7_enough 24 = .ok (.iload_n 2, 1) := by decide +kernel
theorem dX7_enough_25 : decode cX7_enough 25 = .ok (.ifCond .lt 41, 3) := by decide +kernel
theorem dX7_enough_28 : decode cX7_enough 28 = .ok (.iload_n 2, 1) := by decide +kernel
theorem dX7_enough_29 : decode cX7_enough 29 = .ok (.aload_n 0, 1) := by decide +kernel
theorem dX7_enough_30 : decode cX7_enough 30 = .ok (.invokevirtual 282, 3) := by decide +kernel
theorem dX7_enough_33 : decode cX7_enough 33 = .ok (.iconst (-1), 1) := by decide +kernel
theorem dX7_enough_34 : decode cX7_enough 34 = .ok (.ixor, 1) := by decide +kernel
theorem dX7_enough_35 : decode cX7_enough 35 = .ok (.iand, 1) := by decide +kernel
theorem dX7_enough_36 : decode cX7_enough 36 = .ok (.ifCond .ne 24, 3) := by decide +kernel
theorem dX7_enough_39 : decode cX7_enough 39 = .ok (.iload_n 2, 1) := by decide +kernel
theorem dX7_enough_40 : decode cX7_enough 40 = .ok (.invokestatic 285, 3) := by decide +kernel
theorem dX7_enough_43 : decode cX7_enough 43 = .ok (.iload_n 1, 1) := by decide +kernel
theorem dX7_enough_44 : decode cX7_enough 44 = .ok (.invokestatic 285, 3) := by decide +kernel
theorem dX7_enough_47 : decode cX7_enough 47 = .ok (.if_icmp .gt 13, 3) := by decide +kernel
theorem dX7_enough_50 : decode cX7_enough 50 = .ok (.aload_n 0, 1) := by decide +kernel
theorem dX7_enough_51 : decode cX7_enough 51 = .ok (.iload_n 2, 1) := by decide +kernel
theorem dX7_enough_52 : decode cX7_enough 52 = .ok (.invokevirtual 264, 3) := by decide +kernel
theorem dX7_enough_55 : decode cX7_enough 55 = .ok (.ifCond .eq 5, 3) := by decide +kernel
theorem dX7_enough_58 : decode cX7_enough 58 = .ok (.iload_n 2, 1) := by decide +kernel
theorem dX7_enough_59 : decode cX7_enough 59 = .ok (.istore_n 1, 1) := by decide +kernel
theorem dX7_enough_60 : decode cX7_enough 60 = .ok (.iinc 2 (-1), 3) := by decide +kernel
theorem dX7_enough_63 : decode cX7_enough 63 = .ok (.goto (-39), 3) := by decide +kernel
theorem dX7_enough_66 : decode cX7_enough 66 = .ok (.iload_n 1, 1) := by decide +kernel
theorem dX7_enough_67 : decode cX7_enough 67 = .ok (.ireturn, 1) := by decide +kernel
set_option maxRecDepth 20000 in
theorem ggX7_lacking_X7_quarrelAt : GoodIn wsX7_lacking wsX7_quarrelAt := goodIn_r _ [9, 10, 11, 12, 13, 8, 14, 15, 16, 17, 18, 19, 20, 21, 22, 23, 24, 25, 26, 27, 28, 4, 29, 30, 31, 32, 33, 34, 35, 36, 37, 38, 39, 40, 41, 42, 43, 44, 45, 46, 61, 62, 63, 64, 65, 66, 67, 68, 69, 70, 71, 72, 73, 74, 75, 76, 77, 78, 79, 80, 81, 82, 83, 84, 85, 86, 87] (by decide +kernel) (by decide +kernel)
set_option maxRecDepth 20000 in
theorem gX7_lacking_X7_quarrelAt : GoodIn wsX7_lacking (wsV RX7 255 RX7 yX7_quarrelAt wsX7_quarrelAt) := goodIn_app (goodIn_of _ (by decide +kernel)) ggX7_lacking_X7_quarrelAt
set_option maxRecDepth 20000 in
theorem ggX7_lacking_X7_all : GoodIn wsX7_lacking wsX7_all := goodIn_r _ [50, 10, 61, 62, 63, 64, 65, 66, 67, 68, 69, 70, 71, 72, 73, 74, 75, 76, 77, 78, 79, 80, 81, 82, 83, 84, 85, 86, 87] (by decide +kernel) (by decide +kernel)
set_option maxRecDepth 20000 in
theorem gX7_lacking_X7_all : GoodIn wsX7_lacking (wsV RX7 261 RX7 yX7_all wsX7_all) := goodIn_app (goodIn_of _ (by decide +kernel)) ggX7_lacking_X7_all
set_option maxRecDepth 20000 in
theorem ggX7_lacking_X7_answersBy : GoodIn wsX7_lacking wsX7_answersBy := goodIn_r _ [54, 3, 20, 21, 22, 8, 23, 24, 10, 11, 12, 13, 14, 15, 16, 17, 18, 19, 25, 26, 27, 28, 4, 29, 30, 31, 32, 33, 34, 35, 36, 37, 38, 39, 40, 41, 42, 43, 44, 45, 46, 55, 56, 57, 58, 59, 60, 61, 62, 63, 64, 65, 66, 67, 68, 69, 70, 71, 72, 73, 74, 75, 76, 77, 78, 79, 80, 81, 82, 83, 84, 85, 86, 87] (by decide +kernel) (by decide +kernel)
set_option maxRecDepth 20000 in
theorem gX7_lacking_X7_answersBy : GoodIn wsX7_lacking (wsV RX7 264 RX7 yX7_answersBy wsX7_answersBy) := goodIn_app (goodIn_of _ (by decide +kernel)) ggX7_lacking_X7_answersBy
set_option maxRecDepth 20000 in
theorem ggX7_lacking_X7_gather : GoodIn wsX7_lacking wsX7_gather := goodIn_r _ [23, 24, 10, 11, 12, 13, 8, 14, 15, 16, 17, 18, 19, 25, 26, 27, 28, 4, 29, 30, 31, 32, 33, 34, 35, 36, 37, 38, 39, 40, 41, 42, 43, 44, 45, 46, 61, 62, 63, 64, 65, 66, 67, 68, 69, 70, 71, 72, 73, 74, 75, 76, 77, 78, 79, 80, 81, 82, 83, 84, 85, 86, 87] (by decide +kernel) (by decide +kernel)
set_option maxRecDepth 20000 in
theorem gX7_lacking_X7_gather : GoodIn wsX7_lacking (wsV RX7 251 RX7 yX7_gather wsX7_gather) := goodIn_app (goodIn_of _ (by decide +kernel)) ggX7_lacking_X7_gather
set_option maxRecDepth 20000 in
theorem ggX7_lacking_X7_settles : GoodIn wsX7_lacking wsX7_settles := goodIn_r _ [58, 4, 59, 60, 24, 38, 39, 40, 41, 8, 42, 43, 44, 45, 46, 61, 62, 63, 64, 65, 66, 67, 68, 69, 70, 71, 72, 73, 74, 75, 76, 77, 78, 79, 80, 81, 82, 83, 84, 85, 86, 87] (by decide +kernel) (by decide +kernel)
set_option maxRecDepth 20000 in
theorem gX7_lacking_X7_settles : GoodIn wsX7_lacking (wsV RX7 258 RX7 yX7_settles wsX7_settles) := goodIn_app (goodIn_of _ (by decide +kernel)) ggX7_lacking_X7_settles
set_option maxRecDepth 20000 in
theorem ggX7_lacking_X7_adds : GoodIn wsX7_lacking wsX7_adds := goodIn_r _ [37, 24, 4, 38, 39, 40, 41, 8, 42, 43, 44, 45, 46, 61, 62, 63, 64, 65, 66, 67, 68, 69, 70, 71, 72, 73, 74, 75, 76, 77, 78, 79, 80, 81, 82, 83, 84, 85, 86, 87] (by decide +kernel) (by decide +kernel)
set_option maxRecDepth 20000 in
theorem gX7_lacking_X7_adds : GoodIn wsX7_lacking (wsV RX7 241 RX7 yX7_adds wsX7_adds) := goodIn_app (goodIn_of _ (by decide +kernel)) ggX7_lacking_X7_adds
theorem dX7_lacking_0 : decode cX7_lacking 0 = .ok (.aload_n 0, 1) := by decide +kernel
theorem dX7_lacking_1 : decode cX7_lacking 1 = .ok (.iconst 0, 1) := by decide +kernel
theorem dX7_lacking_2 : decode cX7_lacking 2 = .ok (.putfield 42, 3) := by decide +kernel
theorem dX7_lacking_5 : decode cX7_lacking 5 = .ok (.aload_n 0, 1) := by decide +kernel
theorem dX7_lacking_6 : decode cX7_lacking 6 = .ok (.getfield 207, 3) := by decide +kernel
theorem dX7_lacking_9 : decode cX7_lacking 9 = .ok (.ifCond .eq 22, 3) := by decide +kernel
theorem dX7_lacking_12 : decode cX7_lacking 12 = .ok (.aload_n 0, 1) := by decide +kernel
theorem dX7_lacking_13 : decode cX7_lacking 13 = .ok (.invokevirtual 255, 3) := by decide +kernel
theorem dX7_lacking_16 : decode cX7_lacking 16 = .ok (.iconst (-1), 1) := by decide +kernel
theorem dX7_lacking_17 : decode cX7_lacking 17 = .ok (.if_icmp .ne 14, 3) := by decide +kernel
theorem dX7_lacking_20 : decode cX7_lacking 20 = .ok (.aload_n 0, 1) := by decide +kernel
theorem dX7_lacking_21 : decode cX7_lacking 21 = .ok (.aload_n 0, 1) := by decide +kernel
theorem dX7_lacking_22 : decode cX7_lacking 22 = .ok (.invokevirtual 261, 3) := by decide +kernel
theorem dX7_lacking_25 : decode cX7_lacking 25 = .ok (.invokevirtual 264, 3) := by decide +kernel
theorem dX7_lacking_28 : decode cX7_lacking 28 = .ok (.ifCond .eq 5, 3) := by decide +kernel
theorem dX7_lacking_31 : decode cX7_lacking 31 = .ok (.iconst (-1), 1) := by decide +kernel
theorem dX7_lacking_32 : decode cX7_lacking 32 = .ok (.ireturn, 1) := by decide +kernel
theorem dX7_lacking_33 : decode cX7_lacking 33 = .ok (.iconst 0, 1) := by decide +kernel
theorem dX7_lacking_34 : decode cX7_lacking 34 = .ok (.istore_n 1, 1) := by decide +kernel
theorem dX7_lacking_35 : decode cX7_lacking 35 = .ok (.iload_n 1, 1) := by decide +kernel
theorem dX7_lacking_36 : decode cX7_lacking 36 = .ok (.bipush 8, 2) := by decide +kernel
theorem dX7_lacking_38 : decode cX7_lacking 38 = .ok (.if_icmp .ge 124, 3) := by decide +kernel
theorem dX7_lacking_41 : decode cX7_lacking 41 = .ok (.aload_n 0, 1) := by decide +kernel
theorem dX7_lacking_42 : decode cX7_lacking 42 = .ok (.aload_n 0, 1) := by decide +kernel
theorem dX7_lacking_43 : decode cX7_lacking 43 = .ok (.getfield 20, 3) := by decide +kernel
theorem dX7_lacking_46 : decode cX7_lacking 46 = .ok (.iconst 3, 1) := by decide +kernel
theorem dX7_lacking_47 : decode cX7_lacking 47 = .ok (.iaload, 1) := by decide +kernel
theorem dX7_lacking_48 : decode cX7_lacking 48 = .ok (.aload_n 0, 1) := by decide +kernel
theorem dX7_lacking_49 : decode cX7_lacking 49 = .ok (.invokevirtual 261, 3) := by decide +kernel
theorem dX7_lacking_52 : decode cX7_lacking 52 = .ok (.invokevirtual 251, 3) := by decide +kernel
theorem dX7_lacking_55 : decode cX7_lacking 55 = .ok (.istore_n 2, 1) := by decide +kernel
theorem dX7_lacking_56 : decode cX7_lacking 56 = .ok (.iconst 0, 1) := by decide +kernel
theorem dX7_lacking_57 : decode cX7_lacking 57 = .ok (.istore_n 3, 1) := by decide +kernel
theorem dX7_lacking_58 : decode cX7_lacking 58 = .ok (.iload_n 3, 1) := by decide +kernel
theorem dX7_lacking_59 : decode cX7_lacking 59 = .ok (.bipush 9, 2) := by decide +kernel
theorem dX7_lacking_61 : decode cX7_lacking 61 = .ok (.if_icmp .ge 25, 3) := by decide +kernel
theorem dX7_lacking_64 : decode cX7_lacking 64 = .ok (.aload_n 0, 1) := by decide +kernel
theorem dX7_lacking_65 : decode cX7_lacking 65 = .ok (.getfield 36, 3) := by decide +kernel
theorem dX7_lacking_68 : decode cX7_lacking 68 = .ok (.iload_n 3, 1) := by decide +kernel
theorem dX7_lacking_69 : decode cX7_lacking 69 = .ok (.iload_n 3, 1) := by decide +kernel
theorem dX7_lacking_70 : decode cX7_lacking 70 = .ok (.iload_n 1, 1) := by decide +kernel
theorem dX7_lacking_71 : decode cX7_lacking 71 = .ok (.if_icmp .ne 7, 3) := by decide +kernel
theorem dX7_lacking_74 : decode cX7_lacking 74 = .ok (.lconst 1, 1) := by decide +kernel
theorem dX7_lacking_75 : decode cX7_lacking 75 = .ok (.goto 4, 3) := by decide +kernel
theorem dX7_lacking_78 : decode cX7_lacking 78 = .ok (.lconst 0, 1) := by decide +kernel
theorem dX7_lacking_79 : decode cX7_lacking 79 = .ok (.lastore, 1) := by decide +kernel
theorem dX7_lacking_80 : decode cX7_lacking 80 = .ok (.iinc 3 1, 3) := by decide +kernel
theorem dX7_lacking_83 : decode cX7_lacking 83 = .ok (.goto (-25), 3) := by decide +kernel
theorem dX7_lacking_86 : decode cX7_lacking 86 = .ok (.aload_n 0, 1) := by decide +kernel
theorem dX7_lacking_87 : decode cX7_lacking 87 = .ok (.iload_n 1, 1) := by decide +kernel
theorem dX7_lacking_88 : decode cX7_lacking 88 = .ok (.iconst (-1), 1) := by decide +kernel
theorem dX7_lacking_89 : decode cX7_lacking 89 = .ok (.invokevirtual 258, 3) := by decide +kernel
theorem dX7_lacking_92 : decode cX7_lacking 92 = .ok (.ifCond .eq 6, 3) := by decide +kernel
theorem dX7_lacking_95 : decode cX7_lacking 95 = .ok (.goto 61, 3) := by decide +kernel
theorem dX7_lacking_98 : decode cX7_lacking 98 = .ok (.iconst 0, 1) := by decide +kernel
theorem dX7_lacking_99 : decode cX7_lacking 99 = .ok (.istore_n 3, 1) := by decide +kernel
theorem dX7_lacking_100 : decode cX7_lacking 100 = .ok (.iload_n 3, 1) := by decide +kernel
theorem dX7_lacking_101 : decode cX7_lacking 101 = .ok (.bipush 9, 2) := by decide +kernel
theorem dX7_lacking_103 : decode cX7_lacking 103 = .ok (.if_icmp .ge 25, 3) := by decide +kernel
theorem dX7_lacking_106 : decode cX7_lacking 106 = .ok (.aload_n 0, 1) := by decide +kernel
theorem dX7_lacking_107 : decode cX7_lacking 107 = .ok (.getfield 36, 3) := by decide +kernel
theorem dX7_lacking_110 : decode cX7_lacking 110 = .ok (.iload_n 3, 1) := by decide +kernel
theorem dX7_lacking_111 : decode cX7_lacking 111 = .ok (.iload_n 3, 1) := by decide +kernel
theorem dX7_lacking_112 : decode cX7_lacking 112 = .ok (.iload_n 1, 1) := by decide +kernel
theorem dX7_lacking_113 : decode cX7_lacking 113 = .ok (.if_icmp .ne 7, 3) := by decide +kernel
theorem dX7_lacking_116 : decode cX7_lacking 116 = .ok (.lconst 1, 1) := by decide +kernel
theorem dX7_lacking_117 : decode cX7_lacking 117 = .ok (.goto 4, 3) := by decide +kernel
theorem dX7_lacking_120 : decode cX7_lacking 120 = .ok (.lconst 0, 1) := by decide +kernel
theorem dX7_lacking_121 : decode cX7_lacking 121 = .ok (.lastore, 1) := by decide +kernel
theorem dX7_lacking_122 : decode cX7_lacking 122 = .ok (.iinc 3 1, 3) := by decide +kernel
theorem dX7_lacking_125 : decode cX7_lacking 125 = .ok (.goto (-25), 3) := by decide +kernel
theorem dX7_lacking_128 : decode cX7_lacking 128 = .ok (.aload_n 0, 1) := by decide +kernel
theorem dX7_lacking_129 : decode cX7_lacking 129 = .ok (.invokevirtual 241, 3) := by decide +kernel
theorem dX7_lacking_132 : decode cX7_lacking 132 = .ok (.ifCond .eq 24, 3) := by decide +kernel
theorem dX7_lacking_135 : decode cX7_lacking 135 = .ok (.aload_n 0, 1) := by decide +kernel
theorem dX7_lacking_136 : decode cX7_lacking 136 = .ok (.aload_n 0, 1) := by decide +kernel
theorem dX7_lacking_137 : decode cX7_lacking 137 = .ok (.getfield 20, 3) := by decide +kernel
theorem dX7_lacking_140 : decode cX7_lacking 140 = .ok (.iconst 1, 1) := by decide +kernel
theorem dX7_lacking_141 : decode cX7_lacking 141 = .ok (.iaload, 1) := by decide +kernel
theorem dX7_lacking_142 : decode cX7_lacking 142 = .ok (.aload_n 0, 1) := by decide +kernel
theorem dX7_lacking_143 : decode cX7_lacking 143 = .ok (.getfield 20, 3) := by decide +kernel
theorem dX7_lacking_146 : decode cX7_lacking 146 = .ok (.iconst 2, 1) := by decide +kernel
theorem dX7_lacking_147 : decode cX7_lacking 147 = .ok (.iaload, 1) := by decide +kernel
theorem dX7_lacking_148 : decode cX7_lacking 148 = .ok (.invokevirtual 258, 3) := by decide +kernel
theorem dX7_lacking_151 : decode cX7_lacking 151 = .ok (.ifCond .eq 5, 3) := by decide +kernel
theorem dX7_lacking_154 : decode cX7_lacking 154 = .ok (.iload_n 1, 1) := by decide +kernel
theorem dX7_lacking_155 : decode cX7_lacking 155 = .ok (.ireturn, 1) := by decide +kernel
theorem dX7_lacking_156 : decode cX7_lacking 156 = .ok (.iinc 1 1, 3) := by decide +kernel
theorem dX7_lacking_159 : decode cX7_lacking 159 = .ok (.goto (-124), 3) := by decide +kernel
theorem dX7_lacking_162 : decode cX7_lacking 162 = .ok (.iconst (-1), 1) := by decide +kernel
theorem dX7_lacking_163 : decode cX7_lacking 163 = .ok (.ireturn, 1) := by decide +kernel
set_option maxRecDepth 20000 in
theorem ggX7_strange_X7_isIn : GoodIn wsX7_strange wsX7_isIn := goodIn_r _ [6] (by decide +kernel) (by decide +kernel)
set_option maxRecDepth 20000 in
theorem gX7_strange_X7_isIn : GoodIn wsX7_strange (va_wsS RX7 176 yX7_isIn wsX7_isIn) := goodIn_app (goodIn_of _ (by decide +kernel)) ggX7_strange_X7_isIn
set_option maxRecDepth 20000 in
theorem ggX7_strange_X7_quarrelAt : GoodIn wsX7_strange wsX7_quarrelAt := goodIn_r _ [10, 11, 12, 13, 14, 5, 15, 16, 17, 18, 19, 20, 21, 22, 23, 24, 25, 26, 27, 28, 29, 30, 31, 32, 33, 34, 35, 36, 37, 38, 39, 40, 41, 42, 43, 44, 45, 46, 47, 48, 71, 72, 73, 74, 75, 76, 77, 78, 79, 80, 81, 82, 83, 84, 85, 86, 87, 88, 89, 90, 91, 92, 93, 94, 95, 96, 97] (by decide +kernel) (by decide +kernel)
set_option maxRecDepth 20000 in
theorem gX7_strange_X7_quarrelAt : GoodIn wsX7_strange (wsV RX7 255 RX7 yX7_quarrelAt wsX7_quarrelAt) := goodIn_app (goodIn_of _ (by decide +kernel)) ggX7_strange_X7_quarrelAt
set_option maxRecDepth 20000 in
theorem ggX7_strange_X7_stages : GoodIn wsX7_strange wsX7_stages := goodIn_r _ [52, 2, 11, 12, 13, 14, 5, 15, 16, 17, 18, 19, 20, 71, 72, 73, 74, 75, 76, 77, 78, 79, 80, 81, 82, 83, 84, 85, 86, 87, 88, 89, 90, 91, 92, 93, 94, 95, 96, 97] (by decide +kernel) (by decide +kernel)
set_option maxRecDepth 20000 in
theorem gX7_strange_X7_stages : GoodIn wsX7_strange (wsV RX7 276 RX7 yX7_stages wsX7_stages) := goodIn_app (goodIn_of _ (by decide +kernel)) ggX7_strange_X7_stages
set_option maxRecDepth 20000 in
theorem ggX7_strange_X7_amounts : GoodIn wsX7_strange wsX7_amounts := goodIn_r _ [56, 57, 58, 59, 60, 61, 5, 62, 11, 21, 22, 23, 24, 25, 12, 13, 14, 15, 16, 17, 18, 19, 20, 26, 27, 28, 29, 30, 31, 32, 33, 34, 35, 36, 37, 38, 39, 40, 41, 42, 43, 44, 45, 46, 47, 48, 63, 64, 65, 66, 71, 72, 73, 74, 75, 76, 77, 78, 79, 80, 81, 82, 83, 84, 85, 86, 87, 88, 89, 90, 91, 92, 93, 94, 95, 96, 97] (by decide +kernel) (by decide +kernel)
set_option maxRecDepth 20000 in
theorem gX7_strange_X7_amounts : GoodIn wsX7_strange (wsV RX7 279 RX7 yX7_amounts wsX7_amounts) := goodIn_app (goodIn_of _ (by decide +kernel)) ggX7_strange_X7_amounts
set_option maxRecDepth 20000 in
theorem ggX7_strange_X7_part : GoodIn wsX7_strange wsX7_part := goodIn_r _ [70, 57, 58, 42, 43, 5, 44, 45, 46, 47, 48, 71, 72, 73, 74, 75, 76, 77, 78, 79, 80, 81, 82, 83, 84, 85, 86, 87, 88, 89, 90, 91, 92, 93, 94, 95, 96, 97] (by decide +kernel) (by decide +kernel)
set_option maxRecDepth 20000 in
theorem gX7_strange_X7_part : GoodIn wsX7_strange (wsV RX7 272 RX7 yX7_part wsX7_part) := goodIn_app (goodIn_of _ (by decide +kernel)) ggX7_strange_X7_part
theorem dX7_strange_0 : decode cX7_strange 0 = .ok (.aload_n 0, 1) := by decide +kernel
theorem dX7_strange_1 : decode cX7_strange 1 = .ok (.iconst 0, 1) := by decide +kernel
theorem dX7_strange_2 : decode cX7_strange 2 = .ok (.putfield 42, 3) := by decide +kernel
theorem dX7_strange_5 : decode cX7_strange 5 = .ok (.aload_n 0, 1) := by decide +kernel
theorem dX7_strange_6 : decode cX7_strange 6 = .ok (.getfield 207, 3) := by decide +kernel
theorem dX7_strange_9 : decode cX7_strange 9 = .ok (.ifCond .eq 20, 3) := by decide +kernel
theorem dX7_strange_12 : decode cX7_strange 12 = .ok (.iload_n 1, 1) := by decide +kernel
theorem dX7_strange_13 : decode cX7_strange 13 = .ok (.iconst 0, 1) := by decide +kernel
theorem dX7_strange_14 : decode cX7_strange 14 = .ok (.iconst 2, 1) := by decide +kernel
theorem dX7_strange_15 : decode cX7_strange 15 = .ok (.invokestatic 176, 3) := by decide +kernel
theorem dX7_strange_18 : decode cX7_strange 18 = .ok (.ifCond .eq 11, 3) := by decide +kernel
theorem dX7_strange_21 : decode cX7_strange 21 = .ok (.aload_n 0, 1) := by decide +kernel
theorem dX7_strange_22 : decode cX7_strange 22 = .ok (.invokevirtual 255, 3) := by decide +kernel
theorem dX7_strange_25 : decode cX7_strange 25 = .ok (.iconst (-1), 1) := by decide +kernel
theorem dX7_strange_26 : decode cX7_strange 26 = .ok (.if_icmp .eq 5, 3) := by decide +kernel
theorem dX7_strange_29 : decode cX7_strange 29 = .ok (.iconst (-1), 1) := by decide +kernel
theorem dX7_strange_30 : decode cX7_strange 30 = .ok (.ireturn, 1) := by decide +kernel
theorem dX7_strange_31 : decode cX7_strange 31 = .ok (.iconst 0, 1) := by decide +kernel
theorem dX7_strange_32 : decode cX7_strange 32 = .ok (.istore_n 2, 1) := by decide +kernel
theorem dX7_strange_33 : decode cX7_strange 33 = .ok (.iload_n 2, 1) := by decide +kernel
theorem dX7_strange_34 : decode cX7_strange 34 = .ok (.aload_n 0, 1) := by decide +kernel
theorem dX7_strange_35 : decode cX7_strange 35 = .ok (.invokevirtual 276, 3) := by decide +kernel
theorem dX7_strange_38 : decode cX7_strange 38 = .ok (.if_icmp .ge 92, 3) := by decide +kernel
theorem dX7_strange_41 : decode cX7_strange 41 = .ok (.iconst 0, 1) := by decide +kernel
theorem dX7_strange_42 : decode cX7_strange 42 = .ok (.istore_n 3, 1) := by decide +kernel
theorem dX7_strange_43 : decode cX7_strange 43 = .ok (.iload_n 3, 1) := by decide +kernel
theorem dX7_strange_44 : decode cX7_strange 44 = .ok (.iconst 4, 1) := by decide +kernel
theorem dX7_strange_45 : decode cX7_strange 45 = .ok (.if_icmp .ge 79, 3) := by decide +kernel
theorem dX7_strange_48 : decode cX7_strange 48 = .ok (.iconst 0, 1) := by decide +kernel
theorem dX7_strange_49 : decode cX7_strange 49 = .ok (.istore 4, 2) := by decide +kernel
theorem dX7_strange_51 : decode cX7_strange 51 = .ok (.iload 4, 2) := by decide +kernel
theorem dX7_strange_53 : decode cX7_strange 53 = .ok (.bipush 8, 2) := by decide +kernel
theorem dX7_strange_55 : decode cX7_strange 55 = .ok (.if_icmp .ge 63, 3) := by decide +kernel
theorem dX7_strange_58 : decode cX7_strange 58 = .ok (.aload_n 0, 1) := by decide +kernel
theorem dX7_strange_59 : decode cX7_strange 59 = .ok (.iload 4, 2) := by decide +kernel
theorem dX7_strange_61 : decode cX7_strange 61 = .ok (.iload_n 3, 1) := by decide +kernel
theorem dX7_strange_62 : decode cX7_strange 62 = .ok (.iload_n 2, 1) := by decide +kernel
theorem dX7_strange_63 : decode cX7_strange 63 = .ok (.invokevirtual 279, 3) := by decide +kernel
theorem dX7_strange_66 : decode cX7_strange 66 = .ok (.ifCond .eq 46, 3) := by decide +kernel
theorem dX7_strange_69 : decode cX7_strange 69 = .ok (.aload_n 0, 1) := by decide +kernel
theorem dX7_strange_70 : decode cX7_strange 70 = .ok (.iconst 0, 1) := by decide +kernel
theorem dX7_strange_71 : decode cX7_strange 71 = .ok (.invokevirtual 272, 3) := by decide +kernel
theorem dX7_strange_74 : decode cX7_strange 74 = .ok (.lconst 0, 1) := by decide +kernel
theorem dX7_strange_75 : decode cX7_strange 75 = .ok (.lcmp, 1) := by decide +kernel
theorem dX7_strange_76 : decode cX7_strange 76 = .ok (.ifCond .lt 16, 3) := by decide +kernel
theorem dX7_strange_79 : decode cX7_strange 79 = .ok (.aload_n 0, 1) := by decide +kernel
theorem dX7_strange_80 : decode cX7_strange 80 = .ok (.iconst 1, 1) := by decide +kernel
theorem dX7_strange_81 : decode cX7_strange 81 = .ok (.invokevirtual 272, 3) := by decide +kernel
theorem dX7_strange_84 : decode cX7_strange 84 = .ok (.lconst 1, 1) := by decide +kernel
theorem dX7_strange_85 : decode cX7_strange 85 = .ok (.lcmp, 1) := by decide +kernel
theorem dX7_strange_86 : decode cX7_strange 86 = .ok (.ifCond .ne 6, 3) := by decide +kernel
theorem dX7_strange_89 : decode cX7_strange 89 = .ok (.goto 23, 3) := by decide +kernel
theorem dX7_strange_92 : decode cX7_strange 92 = .ok (.iload_n 1, 1) := by decide +kernel
theorem dX7_strange_93 : decode cX7_strange 93 = .ok (.ifCond .ne 8, 3) := by decide +kernel
theorem dX7_strange_96 : decode cX7_strange 96 = .ok (.iload 4, 2) := by decide +kernel
theorem dX7_strange_98 : decode cX7_strange 98 = .ok (.goto 13, 3) := by decide +kernel
theorem dX7_strange_101 : decode cX7_strange 101 = .ok (.iload_n 1, 1) := by decide +kernel
theorem dX7_strange_102 : decode cX7_strange 102 = .ok (.iconst 1, 1) := by decide +kernel
theorem dX7_strange_103 : decode cX7_strange 103 = .ok (.if_icmp .ne 7, 3) := by decide +kernel
theorem dX7_strange_106 : decode cX7_strange 106 = .ok (.iload_n 3, 1) := by decide +kernel
theorem dX7_strange_107 : decode cX7_strange 107 = .ok (.goto 4, 3) := by decide +kernel
theorem dX7_strange_110 : decode cX7_strange 110 = .ok (.iload_n 2, 1) := by decide +kernel
theorem dX7_strange_111 : decode cX7_strange 111 = .ok (.ireturn, 1) := by decide +kernel
theorem dX7_strange_112 : decode cX7_strange 112 = .ok (.iinc 4 1, 3) := by decide +kernel
theorem dX7_strange_115 : decode cX7_strange 115 = .ok (.goto (-64), 3) := by decide +kernel
theorem dX7_strange_118 : decode cX7_strange 118 = .ok (.iinc 3 1, 3) := by decide +kernel
theorem dX7_strange_121 : decode cX7_strange 121 = .ok (.goto (-78), 3) := by decide +kernel
theorem dX7_strange_124 : decode cX7_strange 124 = .ok (.iinc 2 1, 3) := by decide +kernel
theorem dX7_strange_127 : decode cX7_strange 127 = .ok (.goto (-94), 3) := by decide +kernel
theorem dX7_strange_130 : decode cX7_strange 130 = .ok (.iconst (-1), 1) := by decide +kernel
theorem dX7_strange_131 : decode cX7_strange 131 = .ok (.ireturn, 1) := by decide +kernel
set_option maxRecDepth 20000 in
theorem ggX7_put_X7_isIn : GoodIn wsX7_put wsX7_isIn := goodIn_r _ [10] (by decide +kernel) (by decide +kernel)
set_option maxRecDepth 20000 in
theorem gX7_put_X7_isIn : GoodIn wsX7_put (va_wsS RX7 176 yX7_isIn wsX7_isIn) := goodIn_app (goodIn_of _ (by decide +kernel)) ggX7_put_X7_isIn
set_option maxRecDepth 20000 in
theorem ggX7_put_X7_of : GoodIn wsX7_put wsX7_of := goodIn_r _ [14, 6, 15, 16, 17, 18, 19, 20, 21, 22, 23, 24, 25, 26, 27, 28, 29, 30, 31, 32, 33, 34, 35, 36, 37, 38, 39, 40, 41] (by decide +kernel) (by decide +kernel)
set_option maxRecDepth 20000 in
theorem gX7_put_X7_of : GoodIn wsX7_put (wsV RX7 214 RX7 yX7_of wsX7_of) := goodIn_app (goodIn_of _ (by decide +kernel)) ggX7_put_X7_of
theorem dX7_put_0 : decode cX7_put 0 = .ok (.aload_n 0, 1) := by decide +kernel
theorem dX7_put_1 : decode cX7_put 1 = .ok (.iconst 0, 1) := by decide +kernel
theorem dX7_put_2 : decode cX7_put 2 = .ok (.putfield 42, 3) := by decide +kernel
theorem dX7_put_5 : decode cX7_put 5 = .ok (.iload_n 1, 1) := by decide +kernel
theorem dX7_put_6 : decode cX7_put 6 = .ok (.iconst 0, 1) := by decide +kernel
theorem dX7_put_7 : decode cX7_put 7 = .ok (.aload_n 0, 1) := by decide +kernel
theorem dX7_put_8 : decode cX7_put 8 = .ok (.getfield 205, 3) := by decide +kernel
theorem dX7_put_11 : decode cX7_put 11 = .ok (.iconst 1, 1) := by decide +kernel
theorem dX7_put_12 : decode cX7_put 12 = .ok (.isub, 1) := by decide +kernel
theorem dX7_put_13 : decode cX7_put 13 = .ok (.invokestatic 176, 3) := by decide +kernel
theorem dX7_put_16 : decode cX7_put 16 = .ok (.ifCond .eq 43, 3) := by decide +kernel
theorem dX7_put_19 : decode cX7_put 19 = .ok (.iload_n 2, 1) := by decide +kernel
theorem dX7_put_20 : decode cX7_put 20 = .ok (.aload_n 0, 1) := by decide +kernel
theorem dX7_put_21 : decode cX7_put 21 = .ok (.iload_n 1, 1) := by decide +kernel
theorem dX7_put_22 : decode cX7_put 22 = .ok (.iconst 0, 1) := by decide +kernel
theorem dX7_put_23 : decode cX7_put 23 = .ok (.invokevirtual 214, 3) := by decide +kernel
theorem dX7_put_26 : decode cX7_put 26 = .ok (.iconst 3, 1) := by decide +kernel
theorem dX7_put_27 : decode cX7_put 27 = .ok (.if_icmp .ne 7, 3) := by decide +kernel
theorem dX7_put_30 : decode cX7_put 30 = .ok (.iconst 2, 1) := by decide +kernel
theorem dX7_put_31 : decode cX7_put 31 = .ok (.goto 4, 3) := by decide +kernel
theorem dX7_put_34 : decode cX7_put 34 = .ok (.iconst 0, 1) := by decide +kernel
theorem dX7_put_35 : decode cX7_put 35 = .ok (.aload_n 0, 1) := by decide +kernel
theorem dX7_put_36 : decode cX7_put 36 = .ok (.iload_n 1, 1) := by decide +kernel
theorem dX7_put_37 : decode cX7_put 37 = .ok (.iconst 0, 1) := by decide +kernel
theorem dX7_put_38 : decode cX7_put 38 = .ok (.invokevirtual 214, 3) := by decide +kernel
theorem dX7_put_41 : decode cX7_put 41 = .ok (.iconst 3, 1) := by decide +kernel
theorem dX7_put_42 : decode cX7_put 42 = .ok (.if_icmp .ne 8, 3) := by decide +kernel
theorem dX7_put_45 : decode cX7_put 45 = .ok (.bipush 9, 2) := by decide +kernel
theorem dX7_put_47 : decode cX7_put 47 = .ok (.goto 6, 3) := by decide +kernel
theorem dX7_put_50 : decode cX7_put 50 = .ok (.sipush 999, 3) := by decide +kernel
theorem dX7_put_53 : decode cX7_put 53 = .ok (.invokestatic 176, 3) := by decide +kernel
theorem dX7_put_56 : decode cX7_put 56 = .ok (.ifCond .ne 5, 3) := by decide +kernel
theorem dX7_put_59 : decode cX7_put 59 = .ok (.iconst 0, 1) := by decide +kernel
theorem dX7_put_60 : decode cX7_put 60 = .ok (.ireturn, 1) := by decide +kernel
theorem dX7_put_61 : decode cX7_put 61 = .ok (.aload_n 0, 1) := by decide +kernel
theorem dX7_put_62 : decode cX7_put 62 = .ok (.getfield 211, 3) := by decide +kernel
theorem dX7_put_65 : decode cX7_put 65 = .ok (.bipush 50, 2) := by decide +kernel
theorem dX7_put_67 : decode cX7_put 67 = .ok (.if_icmp .ne 55, 3) := by decide +kernel
theorem dX7_put_70 : decode cX7_put 70 = .ok (.iconst 1, 1) := by decide +kernel
theorem dX7_put_71 : decode cX7_put 71 = .ok (.istore_n 3, 1) := by decide +kernel
theorem dX7_put_72 : decode cX7_put 72 = .ok (.iload_n 3, 1) := by decide +kernel
theorem dX7_put_73 : decode cX7_put 73 = .ok (.bipush 50, 2) := by decide +kernel
theorem dX7_put_75 : decode cX7_put 75 = .ok (.if_icmp .ge 37, 3) := by decide +kernel
theorem dX7_put_78 : decode cX7_put 78 = .ok (.aload_n 0, 1) := by decide +kernel
theorem dX7_put_79 : decode cX7_put 79 = .ok (.getfield 26, 3) := by decide +kernel
theorem dX7_put_82 : decode cX7_put 82 = .ok (.iload_n 3, 1) := by decide +kernel
theorem dX7_put_83 : decode cX7_put 83 = .ok (.iconst 1, 1) := by decide +kernel
theorem dX7_put_84 : decode cX7_put 84 = .ok (.isub, 1) := by decide +kernel
theorem dX7_put_85 : decode cX7_put 85 = .ok (.aload_n 0, 1) := by decide +kernel
theorem dX7_put_86 : decode cX7_put 86 = .ok (.getfield 26, 3) := by decide +kernel
theorem dX7_put_89 : decode cX7_put 89 = .ok (.iload_n 3, 1) := by decide +kernel
theorem dX7_put_90 : decode cX7_put 90 = .ok (.iaload, 1) := by decide +kernel
theorem dX7_put_91 : decode cX7_put 91 = .ok (.iastore, 1) := by decide +kernel
theorem dX7_put_92 : decode cX7_put 92 = .ok (.aload_n 0, 1) := by decide +kernel
theorem dX7_put_93 : decode cX7_put 93 = .ok (.getfield 29, 3) := by decide +kernel
theorem dX7_put_96 : decode cX7_put 96 = .ok (.iload_n 3, 1) := by decide +kernel
theorem dX7_put_97 : decode cX7_put 97 = .ok (.iconst 1, 1) := by decide +kernel
theorem dX7_put_98 : decode cX7_put 98 = .ok (.isub, 1) := by decide +kernel
theorem dX7_put_99 : decode cX7_put 99 = .ok (.aload_n 0, 1) := by decide +kernel
theorem dX7_put_100 : decode cX7_put 100 = .ok (.getfield 29, 3) := by decide +kernel
theorem dX7_put_103 : decode cX7_put 103 = .ok (.iload_n 3, 1) := by decide +kernel
theorem dX7_put_104 : decode cX7_put 104 = .ok (.iaload, 1) := by decide +kernel
theorem dX7_put_105 : decode cX7_put 105 = .ok (.iastore, 1) := by decide +kernel
theorem dX7_put_106 : decode cX7_put 106 = .ok (.iinc 3 1, 3) := by decide +kernel
theorem dX7_put_109 : decode cX7_put 109 = .ok (.goto (-37), 3) := by decide +kernel
theorem dX7_put_112 : decode cX7_put 112 = .ok (.aload_n 0, 1) := by decide +kernel
theorem dX7_put_113 : decode cX7_put 113 = .ok (.dup, 1) := by decide +kernel
theorem dX7_put_114 : decode cX7_put 114 = .ok (.getfield 211, 3) := by decide +kernel
theorem dX7_put_117 : decode cX7_put 117 = .ok (.iconst 1, 1) := by decide +kernel
theorem dX7_put_118 : decode cX7_put 118 = .ok (.isub, 1) := by decide +kernel
theorem dX7_put_119 : decode cX7_put 119 = .ok (.putfield 211, 3) := by decide +kernel
theorem dX7_put_122 : decode cX7_put 122 = .ok (.aload_n 0, 1) := by decide +kernel
theorem dX7_put_123 : decode cX7_put 123 = .ok (.getfield 26, 3) := by decide +kernel
theorem dX7_put_126 : decode cX7_put 126 = .ok (.aload_n 0, 1) := by decide +kernel
theorem dX7_put_127 : decode cX7_put 127 = .ok (.getfield 211, 3) := by decide +kernel
theorem dX7_put_130 : decode cX7_put 130 = .ok (.iload_n 1, 1) := by decide +kernel
theorem dX7_put_131 : decode cX7_put 131 = .ok (.iastore, 1) := by decide +kernel
theorem dX7_put_132 : decode cX7_put 132 = .ok (.aload_n 0, 1) := by decide +kernel
theorem dX7_put_133 : decode cX7_put 133 = .ok (.getfield 29, 3) := by decide +kernel
theorem dX7_put_136 : decode cX7_put 136 = .ok (.aload_n 0, 1) := by decide +kernel
theorem dX7_put_137 : decode cX7_put 137 = .ok (.getfield 211, 3) := by decide +kernel
theorem dX7_put_140 : decode cX7_put 140 = .ok (.aload_n 0, 1) := by decide +kernel
theorem dX7_put_141 : decode cX7_put 141 = .ok (.iload_n 1, 1) := by decide +kernel
theorem dX7_put_142 : decode cX7_put 142 = .ok (.iconst 4, 1) := by decide +kernel
theorem dX7_put_143 : decode cX7_put 143 = .ok (.invokevirtual 214, 3) := by decide +kernel
theorem dX7_put_146 : decode cX7_put 146 = .ok (.iastore, 1) := by decide +kernel
theorem dX7_put_147 : decode cX7_put 147 = .ok (.aload_n 0, 1) := by decide +kernel
theorem dX7_put_148 : decode cX7_put 148 = .ok (.dup, 1) := by decide +kernel
theorem dX7_put_149 : decode cX7_put 149 = .ok (.getfield 211, 3) := by decide +kernel
theorem dX7_put_152 : decode cX7_put 152 = .ok (.iconst 1, 1) := by decide +kernel
theorem dX7_put_153 : decode cX7_put 153 = .ok (.iadd, 1) := by decide +kernel
theorem dX7_put_154 : decode cX7_put 154 = .ok (.putfield 211, 3) := by decide +kernel
theorem dX7_put_157 : decode cX7_put 157 = .ok (.aload_n 0, 1) := by decide +kernel
theorem dX7_put_158 : decode cX7_put 158 = .ok (.getfield 13, 3) := by decide +kernel
theorem dX7_put_161 : decode cX7_put 161 = .ok (.bipush 7, 2) := by decide +kernel
theorem dX7_put_163 : decode cX7_put 163 = .ok (.iload_n 1, 1) := by decide +kernel
theorem dX7_put_164 : decode cX7_put 164 = .ok (.imul, 1) := by decide +kernel
theorem dX7_put_165 : decode cX7_put 165 = .ok (.iconst 4, 1) := by decide +kernel
theorem dX7_put_166 : decode cX7_put 166 = .ok (.iadd, 1) := by decide +kernel
theorem dX7_put_167 : decode cX7_put 167 = .ok (.iload_n 2, 1) := by decide +kernel
theorem dX7_put_168 : decode cX7_put 168 = .ok (.iastore, 1) := by decide +kernel
theorem dX7_put_169 : decode cX7_put 169 = .ok (.iconst 1, 1) := by decide +kernel
theorem dX7_put_170 : decode cX7_put 170 = .ok (.ireturn, 1) := by decide +kernel
theorem dX7_undo_0 : decode cX7_undo 0 = .ok (.aload_n 0, 1) := by decide +kernel
theorem dX7_undo_1 : decode cX7_undo 1 = .ok (.iconst 0, 1) := by decide +kernel
theorem dX7_undo_2 : decode cX7_undo 2 = .ok (.putfield 42, 3) := by decide +kernel
theorem dX7_undo_5 : decode cX7_undo 5 = .ok (.aload_n 0, 1) := by decide +kernel
theorem dX7_undo_6 : decode cX7_undo 6 = .ok (.getfield 211, 3) := by decide +kernel
theorem dX7_undo_9 : decode cX7_undo 9 = .ok (.ifCond .ne 5, 3) := by decide +kernel
theorem dX7_undo_12 : decode cX7_undo 12 = .ok (.iconst (-1), 1) := by decide +kernel
theorem dX7_undo_13 : decode cX7_undo 13 = .ok (.ireturn, 1) := by decide +kernel
theorem dX7_undo_14 : decode cX7_undo 14 = .ok (.aload_n 0, 1) := by decide +kernel
theorem dX7_undo_15 : decode cX7_undo 15 = .ok (.dup, 1) := by decide +kernel
theorem dX7_undo_16 : decode cX7_undo 16 = .ok (.getfield 211, 3) := by decide +kernel
theorem dX7_undo_19 : decode cX7_undo 19 = .ok (.iconst 1, 1) := by decide +kernel
theorem dX7_undo_20 : decode cX7_undo 20 = .ok (.isub, 1) := by decide +kernel
theorem dX7_undo_21 : decode cX7_undo 21 = .ok (.putfield 211, 3) := by decide +kernel
theorem dX7_undo_24 : decode cX7_undo 24 = .ok (.aload_n 0, 1) := by decide +kernel
theorem dX7_undo_25 : decode cX7_undo 25 = .ok (.getfield 13, 3) := by decide +kernel
theorem dX7_undo_28 : decode cX7_undo 28 = .ok (.bipush 7, 2) := by decide +kernel
theorem dX7_undo_30 : decode cX7_undo 30 = .ok (.aload_n 0, 1) := by decide +kernel
theorem dX7_undo_31 : decode cX7_undo 31 = .ok (.getfield 26, 3) := by decide +kernel
theorem dX7_undo_34 : decode cX7_undo 34 = .ok (.aload_n 0, 1) := by decide +kernel
theorem dX7_undo_35 : decode cX7_undo 35 = .ok (.getfield 211, 3) := by decide +kernel
theorem dX7_undo_38 : decode cX7_undo 38 = .ok (.iaload, 1) := by decide +kernel
theorem dX7_undo_39 : decode cX7_undo 39 = .ok (.imul, 1) := by decide +kernel
theorem dX7_undo_40 : decode cX7_undo 40 = .ok (.iconst 4, 1) := by decide +kernel
theorem dX7_undo_41 : decode cX7_undo 41 = .ok (.iadd, 1) := by decide +kernel
theorem dX7_undo_42 : decode cX7_undo 42 = .ok (.aload_n 0, 1) := by decide +kernel
theorem dX7_undo_43 : decode cX7_undo 43 = .ok (.getfield 29, 3) := by decide +kernel
theorem dX7_undo_46 : decode cX7_undo 46 = .ok (.aload_n 0, 1) := by decide +kernel
theorem dX7_undo_47 : decode cX7_undo 47 = .ok (.getfield 211, 3) := by decide +kernel
theorem dX7_undo_50 : decode cX7_undo 50 = .ok (.iaload, 1) := by decide +kernel
theorem dX7_undo_51 : decode cX7_undo 51 = .ok (.iastore, 1) := by decide +kernel
theorem dX7_undo_52 : decode cX7_undo 52 = .ok (.aload_n 0, 1) := by decide +kernel
theorem dX7_undo_53 : decode cX7_undo 53 = .ok (.getfield 26, 3) := by decide +kernel
theorem dX7_undo_56 : decode cX7_undo 56 = .ok (.aload_n 0, 1) := by decide +kernel
theorem dX7_undo_57 : decode cX7_undo 57 = .ok (.getfield 211, 3) := by decide +kernel
theorem dX7_undo_60 : decode cX7_undo 60 = .ok (.iaload, 1) := by decide +kernel
theorem dX7_undo_61 : decode cX7_undo 61 = .ok (.ireturn, 1) := by decide +kernel
set_option maxRecDepth 20000 in
theorem ggX7_count_X7_facts : GoodIn wsX7_count wsX7_facts := goodIn_r _ [9, 10, 11, 12, 13, 8, 14, 15, 16, 17, 18, 19, 77, 78, 79, 80, 81, 82, 83, 84, 85, 86, 87, 88, 89, 90, 91, 92, 93, 94, 95, 96, 97, 98, 99, 100, 101, 102, 103] (by decide +kernel) (by decide +kernel)
set_option maxRecDepth 20000 in
theorem gX7_count_X7_facts : GoodIn wsX7_count (wsV RX7 282 RX7 yX7_facts wsX7_facts) := goodIn_app (goodIn_of _ (by decide +kernel)) ggX7_count_X7_facts
set_option maxRecDepth 20000 in
theorem ggX7_count_J6_bitCount_0f7a4 : GoodIn wsX7_count wsJ6_bitCount_0f7a4 := goodIn_r _ [23, 24, 25, 26] (by decide +kernel) (by decide +kernel)
set_option maxRecDepth 20000 in
theorem gX7_count_J6_bitCount_0f7a4 : GoodIn wsX7_count (va_wsS RX7 285 yJ6_bitCount_0f7a4 wsJ6_bitCount_0f7a4) := goodIn_app (goodIn_of _ (by decide +kernel)) ggX7_count_J6_bitCount_0f7a4
set_option maxRecDepth 20000 in
theorem ggX7_count_X7_stages : GoodIn wsX7_count wsX7_stages := goodIn_r _ [30, 3, 10, 11, 12, 13, 8, 14, 15, 16, 17, 18, 19, 77, 78, 79, 80, 81, 82, 83, 84, 85, 86, 87, 88, 89, 90, 91, 92, 93, 94, 95, 96, 97, 98, 99, 100, 101, 102, 103] (by decide +kernel) (by decide +kernel)
set_option maxRecDepth 20000 in
theorem gX7_count_X7_stages : GoodIn wsX7_count (wsV RX7 276 RX7 yX7_stages wsX7_stages) := goodIn_app (goodIn_of _ (by decide +kernel)) ggX7_count_X7_stages
set_option maxRecDepth 20000 in
theorem ggX7_count_X7_quarrelAt : GoodIn wsX7_count wsX7_quarrelAt := goodIn_r _ [34, 10, 11, 12, 13, 8, 14, 15, 16, 17, 18, 19, 35, 36, 37, 38, 39, 40, 41, 42, 43, 44, 45, 46, 47, 48, 49, 50, 51, 52, 53, 54, 55, 56, 57, 58, 59, 60, 61, 62, 77, 78, 79, 80, 81, 82, 83, 84, 85, 86, 87, 88, 89, 90, 91, 92, 93, 94, 95, 96, 97, 98, 99, 100, 101, 102, 103] (by decide +kernel) (by decide +kernel)
set_option maxRecDepth 20000 in
theorem gX7_count_X7_quarrelAt : GoodIn wsX7_count (wsV RX7 255 RX7 yX7_quarrelAt wsX7_quarrelAt) := goodIn_app (goodIn_of _ (by decide +kernel)) ggX7_count_X7_quarrelAt
set_option maxRecDepth 20000 in
theorem ggX7_count_X7_amounts : GoodIn wsX7_count wsX7_amounts := goodIn_r _ [66, 67, 68, 69, 70, 71, 8, 72, 10, 35, 36, 37, 38, 39, 11, 12, 13, 14, 15, 16, 17, 18, 19, 40, 41, 42, 43, 44, 45, 46, 47, 48, 49, 50, 51, 52, 53, 54, 55, 56, 57, 58, 59, 60, 61, 62, 73, 74, 75, 76, 77, 78, 79, 80, 81, 82, 83, 84, 85, 86, 87, 88, 89, 90, 91, 92, 93, 94, 95, 96, 97, 98, 99, 100, 101, 102, 103] (by decide +kernel) (by decide +kernel)
set_option maxRecDepth 20000 in
theorem gX7_count_X7_amounts : GoodIn wsX7_count (wsV RX7 279 RX7 yX7_amounts wsX7_amounts) := goodIn_app (goodIn_of _ (by decide +kernel)) ggX7_count_X7_amounts
theorem dX7_count_0 : decode cX7_count 0 = .ok (.aload_n 0, 1) := by decide +kernel
theorem dX7_count_1 : decode cX7_count 1 = .ok (.iconst 0, 1) := by decide +kernel
theorem dX7_count_2 : decode cX7_count 2 = .ok (.putfield 42, 3) := by decide +kernel
theorem dX7_count_5 : decode cX7_count 5 = .ok (.iconst 0, 1) := by decide +kernel
theorem dX7_count_6 : decode cX7_count 6 = .ok (.istore_n 2, 1) := by decide +kernel
theorem dX7_count_7 : decode cX7_count 7 = .ok (.iload_n 1, 1) := by decide +kernel
theorem dX7_count_8 : decode cX7_count 8 = .ok (.tableswitch 126 0 4 #[36, 41, 49, 54, 121], 36) := by decide +kernel
theorem dX7_count_44 : decode cX7_count 44 = .ok (.aload_n 0, 1) := by decide +kernel
theorem dX7_count_45 : decode cX7_count 45 = .ok (.getfield 46, 3) := by decide +kernel
theorem dX7_count_48 : decode cX7_count 48 = .ok (.ireturn, 1) := by decide +kernel
theorem dX7_count_49 : decode cX7_count 49 = .ok (.aload_n 0, 1) := by decide +kernel
theorem dX7_count_50 : decode cX7_count 50 = .ok (.invokevirtual 282, 3) := by decide +kernel
theorem dX7_count_53 : decode cX7_count 53 = .ok (.invokestatic 285, 3) := by decide +kernel
theorem dX7_count_56 : decode cX7_count 56 = .ok (.ireturn, 1) := by decide +kernel
theorem dX7_count_57 : decode cX7_count 57 = .ok (.aload_n 0, 1) := by decide +kernel
theorem dX7_count_58 : decode cX7_count 58 = .ok (.invokevirtual 276, 3) := by decide +kernel
theorem dX7_count_61 : decode cX7_count 61 = .ok (.ireturn, 1) := by decide +kernel
theorem dX7_count_62 : decode cX7_count 62 = .ok (.aload_n 0, 1) := by decide +kernel
theorem dX7_count_63 : decode cX7_count 63 = .ok (.getfield 207, 3) := by decide +kernel
theorem dX7_count_66 : decode cX7_count 66 = .ok (.ifCond .eq 11, 3) := by decide +kernel
theorem dX7_count_69 : decode cX7_count 69 = .ok (.aload_n 0, 1) := by decide +kernel
theorem dX7_count_70 : decode cX7_count 70 = .ok (.invokevirtual 255, 3) := by decide +kernel
theorem dX7_count_73 : decode cX7_count 73 = .ok (.iconst (-1), 1) := by decide +kernel
theorem dX7_count_74 : decode cX7_count 74 = .ok (.if_icmp .eq 5, 3) := by decide +kernel
theorem dX7_count_77 : decode cX7_count 77 = .ok (.iconst 0, 1) := by decide +kernel
theorem dX7_count_78 : decode cX7_count 78 = .ok (.ireturn, 1) := by decide +kernel
theorem dX7_count_79 : decode cX7_count 79 = .ok (.iconst 0, 1) := by decide +kernel
theorem dX7_count_80 : decode cX7_count 80 = .ok (.istore_n 3, 1) := by decide +kernel
theorem dX7_count_81 : decode cX7_count 81 = .ok (.iload_n 3, 1) := by decide +kernel
theorem dX7_count_82 : decode cX7_count 82 = .ok (.iconst 4, 1) := by decide +kernel
theorem dX7_count_83 : decode cX7_count 83 = .ok (.if_icmp .ge 44, 3) := by decide +kernel
theorem dX7_count_86 : decode cX7_count 86 = .ok (.iconst 0, 1) := by decide +kernel
theorem dX7_count_87 : decode cX7_count 87 = .ok (.istore 4, 2) := by decide +kernel
theorem dX7_count_89 : decode cX7_count 89 = .ok (.iload 4, 2) := by decide +kernel
theorem dX7_count_91 : decode cX7_count 91 = .ok (.bipush 8, 2) := by decide +kernel
theorem dX7_count_93 : decode cX7_count 93 = .ok (.if_icmp .ge 28, 3) := by decide +kernel
theorem dX7_count_96 : decode cX7_count 96 = .ok (.iload_n 2, 1) := by decide +kernel
theorem dX7_count_97 : decode cX7_count 97 = .ok (.aload_n 0, 1) := by decide +kernel
theorem dX7_count_98 : decode cX7_count 98 = .ok (.iload 4, 2) := by decide +kernel
theorem dX7_count_100 : decode cX7_count 100 = .ok (.iload_n 3, 1) := by decide +kernel
theorem dX7_count_101 : decode cX7_count 101 = .ok (.iconst 0, 1) := by decide +kernel
theorem dX7_count_102 : decode cX7_count 102 = .ok (.invokevirtual 279, 3) := by decide +kernel
theorem dX7_count_105 : decode cX7_count 105 = .ok (.ifCond .eq 7, 3) := by decide +kernel
theorem dX7_count_108 : decode cX7_count 108 = .ok (.iconst 1, 1) := by decide +kernel
theorem dX7_count_109 : decode cX7_count 109 = .ok (.goto 4, 3) := by decide +kernel
theorem dX7_count_112 : decode cX7_count 112 = .ok (.iconst 0, 1) := by decide +kernel
theorem dX7_count_113 : decode cX7_count 113 = .ok (.iadd, 1) := by decide +kernel
theorem dX7_count_114 : decode cX7_count 114 = .ok (.istore_n 2, 1) := by decide +kernel
theorem dX7_count_115 : decode cX7_count 115 = .ok (.iinc 4 1, 3) := by decide +kernel
theorem dX7_count_118 : decode cX7_count 118 = .ok (.goto (-29), 3) := by decide +kernel
theorem dX7_count_121 : decode cX7_count 121 = .ok (.iinc 3 1, 3) := by decide +kernel
theorem dX7_count_124 : decode cX7_count 124 = .ok (.goto (-43), 3) := by decide +kernel
theorem dX7_count_127 : decode cX7_count 127 = .ok (.iload_n 2, 1) := by decide +kernel
theorem dX7_count_128 : decode cX7_count 128 = .ok (.ireturn, 1) := by decide +kernel
theorem dX7_count_129 : decode cX7_count 129 = .ok (.aload_n 0, 1) := by decide +kernel
theorem dX7_count_130 : decode cX7_count 130 = .ok (.getfield 211, 3) := by decide +kernel
theorem dX7_count_133 : decode cX7_count 133 = .ok (.ireturn, 1) := by decide +kernel
theorem dX7_count_134 : decode cX7_count 134 = .ok (.iconst (-1), 1) := by decide +kernel
theorem dX7_count_135 : decode cX7_count 135 = .ok (.ireturn, 1) := by decide +kernel
theorem dJ6_bitCount_0f7a4_0 : decode cJ6_bitCount_0f7a4 0 = .ok (.iload_n 0, 1) := by decide +kernel
theorem dJ6_bitCount_0f7a4_1 : decode cJ6_bitCount_0f7a4 1 = .ok (.iload_n 0, 1) := by decide +kernel
theorem dJ6_bitCount_0f7a4_2 : decode cJ6_bitCount_0f7a4 2 = .ok (.iconst 1, 1) := by decide +kernel
theorem dJ6_bitCount_0f7a4_3 : decode cJ6_bitCount_0f7a4 3 = .ok (.iushr, 1) := by decide +kernel
theorem dJ6_bitCount_0f7a4_4 : decode cJ6_bitCount_0f7a4 4 = .ok (.ldc_w 265, 3) := by decide +kernel
theorem dJ6_bitCount_0f7a4_7 : decode cJ6_bitCount_0f7a4 7 = .ok (.iand, 1) := by decide +kernel
theorem dJ6_bitCount_0f7a4_8 : decode cJ6_bitCount_0f7a4 8 = .ok (.isub, 1) := by decide +kernel
theorem dJ6_bitCount_0f7a4_9 : decode cJ6_bitCount_0f7a4 9 = .ok (.istore_n 0, 1) := by decide +kernel
theorem dJ6_bitCount_0f7a4_10 : decode cJ6_bitCount_0f7a4 10 = .ok (.iload_n 0, 1) := by decide +kernel
theorem dJ6_bitCount_0f7a4_11 : decode cJ6_bitCount_0f7a4 11 = .ok (.ldc_w 266, 3) := by decide +kernel
theorem dJ6_bitCount_0f7a4_14 : decode cJ6_bitCount_0f7a4 14 = .ok (.iand, 1) := by decide +kernel
theorem dJ6_bitCount_0f7a4_15 : decode cJ6_bitCount_0f7a4 15 = .ok (.iload_n 0, 1) := by decide +kernel
theorem dJ6_bitCount_0f7a4_16 : decode cJ6_bitCount_0f7a4 16 = .ok (.iconst 2, 1) := by decide +kernel
theorem dJ6_bitCount_0f7a4_17 : decode cJ6_bitCount_0f7a4 17 = .ok (.iushr, 1) := by decide +kernel
theorem dJ6_bitCount_0f7a4_18 : decode cJ6_bitCount_0f7a4 18 = .ok (.ldc_w 266, 3) := by decide +kernel
theorem dJ6_bitCount_0f7a4_21 : decode cJ6_bitCount_0f7a4 21 = .ok (.iand, 1) := by decide +kernel
theorem dJ6_bitCount_0f7a4_22 : decode cJ6_bitCount_0f7a4 22 = .ok (.iadd, 1) := by decide +kernel
theorem dJ6_bitCount_0f7a4_23 : decode cJ6_bitCount_0f7a4 23 = .ok (.istore_n 0, 1) := by decide +kernel
theorem dJ6_bitCount_0f7a4_24 : decode cJ6_bitCount_0f7a4 24 = .ok (.iload_n 0, 1) := by decide +kernel
theorem dJ6_bitCount_0f7a4_25 : decode cJ6_bitCount_0f7a4 25 = .ok (.iload_n 0, 1) := by decide +kernel
theorem dJ6_bitCount_0f7a4_26 : decode cJ6_bitCount_0f7a4 26 = .ok (.iconst 4, 1) := by decide +kernel
theorem dJ6_bitCount_0f7a4_27 : decode cJ6_bitCount_0f7a4 27 = .ok (.iushr, 1) := by decide +kernel
theorem dJ6_bitCount_0f7a4_28 : decode cJ6_bitCount_0f7a4 28 = .ok (.iadd, 1) := by decide +kernel
theorem dJ6_bitCount_0f7a4_29 : decode cJ6_bitCount_0f7a4 29 = .ok (.ldc_w 267, 3) := by decide +kernel
theorem dJ6_bitCount_0f7a4_32 : decode cJ6_bitCount_0f7a4 32 = .ok (.iand, 1) := by decide +kernel
theorem dJ6_bitCount_0f7a4_33 : decode cJ6_bitCount_0f7a4 33 = .ok (.istore_n 0, 1) := by decide +kernel
theorem dJ6_bitCount_0f7a4_34 : decode cJ6_bitCount_0f7a4 34 = .ok (.iload_n 0, 1) := by decide +kernel
theorem dJ6_bitCount_0f7a4_35 : decode cJ6_bitCount_0f7a4 35 = .ok (.iload_n 0, 1) := by decide +kernel
theorem dJ6_bitCount_0f7a4_36 : decode cJ6_bitCount_0f7a4 36 = .ok (.bipush 8, 2) := by decide +kernel
theorem dJ6_bitCount_0f7a4_38 : decode cJ6_bitCount_0f7a4 38 = .ok (.iushr, 1) := by decide +kernel
theorem dJ6_bitCount_0f7a4_39 : decode cJ6_bitCount_0f7a4 39 = .ok (.iadd, 1) := by decide +kernel
theorem dJ6_bitCount_0f7a4_40 : decode cJ6_bitCount_0f7a4 40 = .ok (.istore_n 0, 1) := by decide +kernel
theorem dJ6_bitCount_0f7a4_41 : decode cJ6_bitCount_0f7a4 41 = .ok (.iload_n 0, 1) := by decide +kernel
theorem dJ6_bitCount_0f7a4_42 : decode cJ6_bitCount_0f7a4 42 = .ok (.iload_n 0, 1) := by decide +kernel
theorem dJ6_bitCount_0f7a4_43 : decode cJ6_bitCount_0f7a4 43 = .ok (.bipush 16, 2) := by decide +kernel
theorem dJ6_bitCount_0f7a4_45 : decode cJ6_bitCount_0f7a4 45 = .ok (.iushr, 1) := by decide +kernel
theorem dJ6_bitCount_0f7a4_46 : decode cJ6_bitCount_0f7a4 46 = .ok (.iadd, 1) := by decide +kernel
theorem dJ6_bitCount_0f7a4_47 : decode cJ6_bitCount_0f7a4 47 = .ok (.istore_n 0, 1) := by decide +kernel
theorem dJ6_bitCount_0f7a4_48 : decode cJ6_bitCount_0f7a4 48 = .ok (.iload_n 0, 1) := by decide +kernel
theorem dJ6_bitCount_0f7a4_49 : decode cJ6_bitCount_0f7a4 49 = .ok (.bipush 63, 2) := by decide +kernel
theorem dJ6_bitCount_0f7a4_51 : decode cJ6_bitCount_0f7a4 51 = .ok (.iand, 1) := by decide +kernel
theorem dJ6_bitCount_0f7a4_52 : decode cJ6_bitCount_0f7a4 52 = .ok (.ireturn, 1) := by decide +kernel
theorem dJ9_abs_067f4_0 : decode cJ9_abs_067f4 0 = .ok (.lload_n 0, 1) := by decide +kernel
theorem dJ9_abs_067f4_1 : decode cJ9_abs_067f4 1 = .ok (.lconst 0, 1) := by decide +kernel
theorem dJ9_abs_067f4_2 : decode cJ9_abs_067f4 2 = .ok (.lcmp, 1) := by decide +kernel
theorem dJ9_abs_067f4_3 : decode cJ9_abs_067f4 3 = .ok (.ifCond .ge 8, 3) := by decide +kernel
theorem dJ9_abs_067f4_6 : decode cJ9_abs_067f4 6 = .ok (.lload_n 0, 1) := by decide +kernel
theorem dJ9_abs_067f4_7 : decode cJ9_abs_067f4 7 = .ok (.lneg, 1) := by decide +kernel
theorem dJ9_abs_067f4_8 : decode cJ9_abs_067f4 8 = .ok (.goto 4, 3) := by decide +kernel
theorem dJ9_abs_067f4_11 : decode cJ9_abs_067f4 11 = .ok (.lload_n 0, 1) := by decide +kernel
theorem dJ9_abs_067f4_12 : decode cJ9_abs_067f4 12 = .ok (.lreturn, 1) := by decide +kernel
set_option maxRecDepth 20000 in
theorem ggJ0_length_8abf5_J0_coder_7d493 : GoodIn wsJ0_length_8abf5 wsJ0_coder_7d493 := goodIn_r _ [6, 7, 8] (by decide +kernel) (by decide +kernel)
set_option maxRecDepth 20000 in
theorem gJ0_length_8abf5_J0_coder_7d493 : GoodIn wsJ0_length_8abf5 (wsV RJ0 335 RJ0 yJ0_coder_7d493 wsJ0_coder_7d493) := goodIn_app (goodIn_of _ (by decide +kernel)) ggJ0_length_8abf5_J0_coder_7d493
theorem dJ0_length_8abf5_0 : decode cJ0_length_8abf5 0 = .ok (.aload_n 0, 1) := by decide +kernel
theorem dJ0_length_8abf5_1 : decode cJ0_length_8abf5 1 = .ok (.getfield 9, 3) := by decide +kernel
theorem dJ0_length_8abf5_4 : decode cJ0_length_8abf5 4 = .ok (.arraylength, 1) := by decide +kernel
theorem dJ0_length_8abf5_5 : decode cJ0_length_8abf5 5 = .ok (.aload_n 0, 1) := by decide +kernel
theorem dJ0_length_8abf5_6 : decode cJ0_length_8abf5 6 = .ok (.invokevirtual 335, 3) := by decide +kernel
theorem dJ0_length_8abf5_9 : decode cJ0_length_8abf5 9 = .ok (.ishr, 1) := by decide +kernel
theorem dJ0_length_8abf5_10 : decode cJ0_length_8abf5 10 = .ok (.ireturn, 1) := by decide +kernel
set_option maxRecDepth 20000 in
theorem ggJ0_charAt_5068e_J0_isLatin1_aae02 : GoodIn wsJ0_charAt_5068e wsJ0_isLatin1_aae02 := goodIn_r _ [6, 7, 8] (by decide +kernel) (by decide +kernel)
set_option maxRecDepth 20000 in
theorem gJ0_charAt_5068e_J0_isLatin1_aae02 : GoodIn wsJ0_charAt_5068e (wsV RJ0 492 RJ0 yJ0_isLatin1_aae02 wsJ0_isLatin1_aae02) := goodIn_app (goodIn_of _ (by decide +kernel)) ggJ0_charAt_5068e_J0_isLatin1_aae02
set_option maxRecDepth 20000 in
theorem ggJ0_charAt_5068e_J1_charAt_3b067 : GoodIn wsJ0_charAt_5068e wsJ1_charAt_3b067 := goodIn_r _ [12, 13, 14, 5, 15, 16, 17, 18, 19, 20] (by decide +kernel) (by decide +kernel)
set_option maxRecDepth 20000 in
theorem gJ0_charAt_5068e_J1_charAt_3b067 : GoodIn wsJ0_charAt_5068e (va_wsS RJ0 495 yJ1_charAt_3b067 wsJ1_charAt_3b067) := goodIn_app (goodIn_of _ (by decide +kernel)) ggJ0_charAt_5068e_J1_charAt_3b067
set_option maxRecDepth 20000 in
theorem ggJ0_charAt_5068e_J2_charAt_3b067 : GoodIn wsJ0_charAt_5068e wsJ2_charAt_3b067 := goodIn_r _ [24, 25, 26, 23, 27, 28, 29, 30, 31, 14, 5, 15, 16, 17, 18, 19, 20, 32, 33, 34, 35, 36, 37] (by decide +kernel) (by decide +kernel)
set_option maxRecDepth 20000 in
theorem gJ0_charAt_5068e_J2_charAt_3b067 : GoodIn wsJ0_charAt_5068e (va_wsS RJ0 498 yJ2_charAt_3b067 wsJ2_charAt_3b067) := goodIn_app (goodIn_of _ (by decide +kernel)) ggJ0_charAt_5068e_J2_charAt_3b067
theorem dJ0_charAt_5068e_0 : decode cJ0_charAt_5068e 0 = .ok (.aload_n 0, 1) := by decide +kernel
theorem dJ0_charAt_5068e_1 : decode cJ0_charAt_5068e 1 = .ok (.invokevirtual 492, 3) := by decide +kernel
theorem dJ0_charAt_5068e_4 : decode cJ0_charAt_5068e 4 = .ok (.ifCond .eq 12, 3) := by decide +kernel
theorem dJ0_charAt_5068e_7 : decode cJ0_charAt_5068e 7 = .ok (.aload_n 0, 1) := by decide +kernel
theorem dJ0_charAt_5068e_8 : decode cJ0_charAt_5068e 8 = .ok (.getfield 9, 3) := by decide +kernel
theorem dJ0_charAt_5068e_11 : decode cJ0_charAt_5068e 11 = .ok (.iload_n 1, 1) := by decide +kernel
theorem dJ0_charAt_5068e_12 : decode cJ0_charAt_5068e 12 = .ok (.invokestatic 495, 3) := by decide +kernel
theorem dJ0_charAt_5068e_15 : decode cJ0_charAt_5068e 15 = .ok (.ireturn, 1) := by decide +kernel
theorem dJ0_charAt_5068e_16 : decode cJ0_charAt_5068e 16 = .ok (.aload_n 0, 1) := by decide +kernel
theorem dJ0_charAt_5068e_17 : decode cJ0_charAt_5068e 17 = .ok (.getfield 9, 3) := by decide +kernel
theorem dJ0_charAt_5068e_20 : decode cJ0_charAt_5068e 20 = .ok (.iload_n 1, 1) := by decide +kernel
theorem dJ0_charAt_5068e_21 : decode cJ0_charAt_5068e 21 = .ok (.invokestatic 498, 3) := by decide +kernel
theorem dJ0_charAt_5068e_24 : decode cJ0_charAt_5068e 24 = .ok (.ireturn, 1) := by decide +kernel
theorem dJ0_coder_7d493_0 : decode cJ0_coder_7d493 0 = .ok (.getstatic 38, 3) := by decide +kernel
theorem dJ0_coder_7d493_3 : decode cJ0_coder_7d493 3 = .ok (.ifCond .eq 10, 3) := by decide +kernel
theorem dJ0_coder_7d493_6 : decode cJ0_coder_7d493 6 = .ok (.aload_n 0, 1) := by decide +kernel
theorem dJ0_coder_7d493_7 : decode cJ0_coder_7d493 7 = .ok (.getfield 15, 3) := by decide +kernel
theorem dJ0_coder_7d493_10 : decode cJ0_coder_7d493 10 = .ok (.goto 4, 3) := by decide +kernel
theorem dJ0_coder_7d493_13 : decode cJ0_coder_7d493 13 = .ok (.iconst 1, 1) := by decide +kernel
theorem dJ0_coder_7d493_14 : decode cJ0_coder_7d493 14 = .ok (.ireturn, 1) := by decide +kernel
theorem dJ0_isLatin1_aae02_0 : decode cJ0_isLatin1_aae02 0 = .ok (.getstatic 38, 3) := by decide +kernel
theorem dJ0_isLatin1_aae02_3 : decode cJ0_isLatin1_aae02 3 = .ok (.ifCond .eq 14, 3) := by decide +kernel
theorem dJ0_isLatin1_aae02_6 : decode cJ0_isLatin1_aae02 6 = .ok (.aload_n 0, 1) := by decide +kernel
theorem dJ0_isLatin1_aae02_7 : decode cJ0_isLatin1_aae02 7 = .ok (.getfield 15, 3) := by decide +kernel
theorem dJ0_isLatin1_aae02_10 : decode cJ0_isLatin1_aae02 10 = .ok (.ifCond .ne 7, 3) := by decide +kernel
theorem dJ0_isLatin1_aae02_13 : decode cJ0_isLatin1_aae02 13 = .ok (.iconst 1, 1) := by decide +kernel
theorem dJ0_isLatin1_aae02_14 : decode cJ0_isLatin1_aae02 14 = .ok (.goto 4, 3) := by decide +kernel
theorem dJ0_isLatin1_aae02_17 : decode cJ0_isLatin1_aae02 17 = .ok (.iconst 0, 1) := by decide +kernel
theorem dJ0_isLatin1_aae02_18 : decode cJ0_isLatin1_aae02 18 = .ok (.ireturn, 1) := by decide +kernel
set_option maxRecDepth 20000 in
theorem ggJ0_checkIndex_df160_J3_checkIndex_8e157 : GoodIn wsJ0_checkIndex_df160 wsJ3_checkIndex_8e157 := goodIn_r _ [5] (by decide +kernel) (by decide +kernel)
set_option maxRecDepth 20000 in
theorem gJ0_checkIndex_df160_J3_checkIndex_8e157 : GoodIn wsJ0_checkIndex_df160 (va_wsS RJ0 1059 yJ3_checkIndex_8e157 wsJ3_checkIndex_8e157) := goodIn_app (goodIn_of _ (by decide +kernel)) ggJ0_checkIndex_df160_J3_checkIndex_8e157
theorem dJ0_checkIndex_df160_0 : decode cJ0_checkIndex_df160 0 = .ok (.iload_n 0, 1) := by decide +kernel
theorem dJ0_checkIndex_df160_1 : decode cJ0_checkIndex_df160 1 = .ok (.iload_n 1, 1) := by decide +kernel
theorem dJ0_checkIndex_df160_2 : decode cJ0_checkIndex_df160 2 = .ok (.getstatic 1053, 3) := by decide +kernel
theorem dJ0_checkIndex_df160_5 : decode cJ0_checkIndex_df160 5 = .ok (.invokestatic 1059, 3) := by decide +kernel
theorem dJ0_checkIndex_df160_8 : decode cJ0_checkIndex_df160 8 = .ok (.pop, 1) := by decide +kernel
theorem dJ0_checkIndex_df160_9 : decode cJ0_checkIndex_df160 9 = .ok (.return_, 1) := by decide +kernel
set_option maxRecDepth 20000 in
theorem ggJ1_charAt_3b067_J0_checkIndex_df160 : GoodIn wsJ1_charAt_3b067 wsJ0_checkIndex_df160 := goodIn_r _ [4, 5, 6, 7, 8, 9] (by decide +kernel) (by decide +kernel)
set_option maxRecDepth 20000 in
theorem gJ1_charAt_3b067_J0_checkIndex_df160 : GoodIn wsJ1_charAt_3b067 (va_wsS RJ1 9 yJ0_checkIndex_df160 wsJ0_checkIndex_df160) := goodIn_app (goodIn_of _ (by decide +kernel)) ggJ1_charAt_3b067_J0_checkIndex_df160
theorem dJ1_charAt_3b067_0 : decode cJ1_charAt_3b067 0 = .ok (.iload_n 1, 1) := by decide +kernel
theorem dJ1_charAt_3b067_1 : decode cJ1_charAt_3b067 1 = .ok (.aload_n 0, 1) := by decide +kernel
theorem dJ1_charAt_3b067_2 : decode cJ1_charAt_3b067 2 = .ok (.arraylength, 1) := by decide +kernel
theorem dJ1_charAt_3b067_3 : decode cJ1_charAt_3b067 3 = .ok (.invokestatic 9, 3) := by decide +kernel
theorem dJ1_charAt_3b067_6 : decode cJ1_charAt_3b067 6 = .ok (.aload_n 0, 1) := by decide +kernel
theorem dJ1_charAt_3b067_7 : decode cJ1_charAt_3b067 7 = .ok (.iload_n 1, 1) := by decide +kernel
theorem dJ1_charAt_3b067_8 : decode cJ1_charAt_3b067 8 = .ok (.baload, 1) := by decide +kernel
theorem dJ1_charAt_3b067_9 : decode cJ1_charAt_3b067 9 = .ok (.sipush 255, 3) := by decide +kernel
theorem dJ1_charAt_3b067_12 : decode cJ1_charAt_3b067 12 = .ok (.iand, 1) := by decide +kernel
theorem dJ1_charAt_3b067_13 : decode cJ1_charAt_3b067 13 = .ok (.i2c, 1) := by decide +kernel
theorem dJ1_charAt_3b067_14 : decode cJ1_charAt_3b067 14 = .ok (.ireturn, 1) := by decide +kernel
set_option maxRecDepth 20000 in
theorem ggJ2_getChar_3b067_J2_length_9d52b : GoodIn wsJ2_getChar_3b067 wsJ2_length_9d52b := goodIn_r _ [7] (by decide +kernel) (by decide +kernel)
set_option maxRecDepth 20000 in
theorem gJ2_getChar_3b067_J2_length_9d52b : GoodIn wsJ2_getChar_3b067 (va_wsS RJ2 48 yJ2_length_9d52b wsJ2_length_9d52b) := goodIn_app (goodIn_of _ (by decide +kernel)) ggJ2_getChar_3b067_J2_length_9d52b
theorem dJ2_getChar_3b067_0 : decode cJ2_getChar_3b067 0 = .ok (.getstatic 44, 3) := by decide +kernel
theorem dJ2_getChar_3b067_3 : decode cJ2_getChar_3b067 3 = .ok (.ifCond .ne 25, 3) := by decide +kernel
theorem dJ2_getChar_3b067_6 : decode cJ2_getChar_3b067 6 = .ok (.iload_n 1, 1) := by decide +kernel
theorem dJ2_getChar_3b067_7 : decode cJ2_getChar_3b067 7 = .ok (.ifCond .lt 11, 3) := by decide +kernel
theorem dJ2_getChar_3b067_10 : decode cJ2_getChar_3b067 10 = .ok (.iload_n 1, 1) := by decide +kernel
theorem dJ2_getChar_3b067_11 : decode cJ2_getChar_3b067 11 = .ok (.aload_n 0, 1) := by decide +kernel
theorem dJ2_getChar_3b067_12 : decode cJ2_getChar_3b067 12 = .ok (.invokestatic 48, 3) := by decide +kernel
theorem dJ2_getChar_3b067_15 : decode cJ2_getChar_3b067 15 = .ok (.if_icmp .lt 13, 3) := by decide +kernel
theorem dJ2_getChar_3b067_18 : decode cJ2_getChar_3b067 18 = .ok (.new 52, 3) := by decide +kernel
theorem dJ2_getChar_3b067_21 : decode cJ2_getChar_3b067 21 = .ok (.dup, 1) := by decide +kernel
theorem dJ2_getChar_3b067_22 : decode cJ2_getChar_3b067 22 = .ok (.ldc 54, 2) := by decide +kernel
theorem dJ2_getChar_3b067_24 : decode cJ2_getChar_3b067 24 = .ok (.invokespecial 56, 3) := by decide +kernel
theorem dJ2_getChar_3b067_27 : decode cJ2_getChar_3b067 27 = .ok (.athrow, 1) := by decide +kernel
theorem dJ2_getChar_3b067_28 : decode cJ2_getChar_3b067 28 = .ok (.iload_n 1, 1) := by decide +kernel
theorem dJ2_getChar_3b067_29 : decode cJ2_getChar_3b067 29 = .ok (.iconst 1, 1) := by decide +kernel
theorem dJ2_getChar_3b067_30 : decode cJ2_getChar_3b067 30 = .ok (.ishl, 1) := by decide +kernel
theorem dJ2_getChar_3b067_31 : decode cJ2_getChar_3b067 31 = .ok (.istore_n 1, 1) := by decide +kernel
theorem dJ2_getChar_3b067_32 : decode cJ2_getChar_3b067 32 = .ok (.aload_n 0, 1) := by decide +kernel
theorem dJ2_getChar_3b067_33 : decode cJ2_getChar_3b067 33 = .ok (.iload_n 1, 1) := by decide +kernel
theorem dJ2_getChar_3b067_34 : decode cJ2_getChar_3b067 34 = .ok (.iinc 1 1, 3) := by decide +kernel
theorem dJ2_getChar_3b067_37 : decode cJ2_getChar_3b067 37 = .ok (.baload, 1) := by decide +kernel
theorem dJ2_getChar_3b067_38 : decode cJ2_getChar_3b067 38 = .ok (.sipush 255, 3) := by decide +kernel
theorem dJ2_getChar_3b067_41 : decode cJ2_getChar_3b067 41 = .ok (.iand, 1) := by decide +kernel
theorem dJ2_getChar_3b067_42 : decode cJ2_getChar_3b067 42 = .ok (.getstatic 59, 3) := by decide +kernel
theorem dJ2_getChar_3b067_45 : decode cJ2_getChar_3b067 45 = .ok (.ishl, 1) := by decide +kernel
theorem dJ2_getChar_3b067_46 : decode cJ2_getChar_3b067 46 = .ok (.aload_n 0, 1) := by decide +kernel
theorem dJ2_getChar_3b067_47 : decode cJ2_getChar_3b067 47 = .ok (.iload_n 1, 1) := by decide +kernel
theorem dJ2_getChar_3b067_48 : decode cJ2_getChar_3b067 48 = .ok (.baload, 1) := by decide +kernel
theorem dJ2_getChar_3b067_49 : decode cJ2_getChar_3b067 49 = .ok (.sipush 255, 3) := by decide +kernel
theorem dJ2_getChar_3b067_52 : decode cJ2_getChar_3b067 52 = .ok (.iand, 1) := by decide +kernel
theorem dJ2_getChar_3b067_53 : decode cJ2_getChar_3b067 53 = .ok (.getstatic 63, 3) := by decide +kernel
theorem dJ2_getChar_3b067_56 : decode cJ2_getChar_3b067 56 = .ok (.ishl, 1) := by decide +kernel
theorem dJ2_getChar_3b067_57 : decode cJ2_getChar_3b067 57 = .ok (.ior, 1) := by decide +kernel
theorem dJ2_getChar_3b067_58 : decode cJ2_getChar_3b067 58 = .ok (.i2c, 1) := by decide +kernel
theorem dJ2_getChar_3b067_59 : decode cJ2_getChar_3b067 59 = .ok (.ireturn, 1) := by decide +kernel
theorem dJ2_length_9d52b_0 : decode cJ2_length_9d52b 0 = .ok (.aload_n 0, 1) := by decide +kernel
theorem dJ2_length_9d52b_1 : decode cJ2_length_9d52b 1 = .ok (.arraylength, 1) := by decide +kernel
theorem dJ2_length_9d52b_2 : decode cJ2_length_9d52b 2 = .ok (.iconst 1, 1) := by decide +kernel
theorem dJ2_length_9d52b_3 : decode cJ2_length_9d52b 3 = .ok (.ishr, 1) := by decide +kernel
theorem dJ2_length_9d52b_4 : decode cJ2_length_9d52b 4 = .ok (.ireturn, 1) := by decide +kernel
set_option maxRecDepth 20000 in
theorem ggJ2_charAt_3b067_J2_checkIndex_2214a : GoodIn wsJ2_charAt_3b067 wsJ2_checkIndex_2214a := goodIn_r _ [4, 5, 6, 3, 7, 8, 9, 10, 11, 12, 13, 14, 15, 16] (by decide +kernel) (by decide +kernel)
set_option maxRecDepth 20000 in
theorem gJ2_charAt_3b067_J2_checkIndex_2214a : GoodIn wsJ2_charAt_3b067 (va_wsS RJ2 67 yJ2_checkIndex_2214a wsJ2_checkIndex_2214a) := goodIn_app (goodIn_of _ (by decide +kernel)) ggJ2_charAt_3b067_J2_checkIndex_2214a
set_option maxRecDepth 20000 in
theorem ggJ2_charAt_3b067_J2_getChar_3b067 : GoodIn wsJ2_charAt_3b067 wsJ2_getChar_3b067 := goodIn_r _ [19, 20, 21, 22, 5, 6, 3, 7] (by decide +kernel) (by decide +kernel)
set_option maxRecDepth 20000 in
theorem gJ2_charAt_3b067_J2_getChar_3b067 : GoodIn wsJ2_charAt_3b067 (va_wsS RJ2 71 yJ2_getChar_3b067 wsJ2_getChar_3b067) := goodIn_app (goodIn_of _ (by decide +kernel)) ggJ2_charAt_3b067_J2_getChar_3b067
theorem dJ2_charAt_3b067_0 : decode cJ2_charAt_3b067 0 = .ok (.iload_n 1, 1) := by decide +kernel
theorem dJ2_charAt_3b067_1 : decode cJ2_charAt_3b067 1 = .ok (.aload_n 0, 1) := by decide +kernel
theorem dJ2_charAt_3b067_2 : decode cJ2_charAt_3b067 2 = .ok (.invokestatic 67, 3) := by decide +kernel
theorem dJ2_charAt_3b067_5 : decode cJ2_charAt_3b067 5 = .ok (.aload_n 0, 1) := by decide +kernel
theorem dJ2_charAt_3b067_6 : decode cJ2_charAt_3b067 6 = .ok (.iload_n 1, 1) := by decide +kernel
theorem dJ2_charAt_3b067_7 : decode cJ2_charAt_3b067 7 = .ok (.invokestatic 71, 3) := by decide +kernel
theorem dJ2_charAt_3b067_10 : decode cJ2_charAt_3b067 10 = .ok (.ireturn, 1) := by decide +kernel
set_option maxRecDepth 20000 in
theorem ggJ2_checkIndex_2214a_J2_length_9d52b : GoodIn wsJ2_checkIndex_2214a wsJ2_length_9d52b := goodIn_r _ [4] (by decide +kernel) (by decide +kernel)
set_option maxRecDepth 20000 in
theorem gJ2_checkIndex_2214a_J2_length_9d52b : GoodIn wsJ2_checkIndex_2214a (va_wsS RJ2 48 yJ2_length_9d52b wsJ2_length_9d52b) := goodIn_app (goodIn_of _ (by decide +kernel)) ggJ2_checkIndex_2214a_J2_length_9d52b
set_option maxRecDepth 20000 in
theorem ggJ2_checkIndex_2214a_J0_checkIndex_df160 : GoodIn wsJ2_checkIndex_2214a wsJ0_checkIndex_df160 := goodIn_r _ [8, 9, 10, 11, 12, 13] (by decide +kernel) (by decide +kernel)
set_option maxRecDepth 20000 in
theorem gJ2_checkIndex_2214a_J0_checkIndex_df160 : GoodIn wsJ2_checkIndex_2214a (va_wsS RJ2 414 yJ0_checkIndex_df160 wsJ0_checkIndex_df160) := goodIn_app (goodIn_of _ (by decide +kernel)) ggJ2_checkIndex_2214a_J0_checkIndex_df160
theorem dJ2_checkIndex_2214a_0 : decode cJ2_checkIndex_2214a 0 = .ok (.iload_n 0, 1) := by decide +kernel
theorem dJ2_checkIndex_2214a_1 : decode cJ2_checkIndex_2214a 1 = .ok (.aload_n 1, 1) := by decide +kernel
theorem dJ2_checkIndex_2214a_2 : decode cJ2_checkIndex_2214a 2 = .ok (.invokestatic 48, 3) := by decide +kernel
theorem dJ2_checkIndex_2214a_5 : decode cJ2_checkIndex_2214a 5 = .ok (.invokestatic 414, 3) := by decide +kernel
theorem dJ2_checkIndex_2214a_8 : decode cJ2_checkIndex_2214a 8 = .ok (.return_, 1) := by decide +kernel
theorem dJ7_fill_d0a16_0 : decode cJ7_fill_d0a16 0 = .ok (.iconst 0, 1) := by decide +kernel
theorem dJ7_fill_d0a16_1 : decode cJ7_fill_d0a16 1 = .ok (.istore_n 3, 1) := by decide +kernel
theorem dJ7_fill_d0a16_2 : decode cJ7_fill_d0a16 2 = .ok (.aload_n 0, 1) := by decide +kernel
theorem dJ7_fill_d0a16_3 : decode cJ7_fill_d0a16 3 = .ok (.arraylength, 1) := by decide +kernel
theorem dJ7_fill_d0a16_4 : decode cJ7_fill_d0a16 4 = .ok (.istore 4, 2) := by decide +kernel
theorem dJ7_fill_d0a16_6 : decode cJ7_fill_d0a16 6 = .ok (.iload_n 3, 1) := by decide +kernel
theorem dJ7_fill_d0a16_7 : decode cJ7_fill_d0a16 7 = .ok (.iload 4, 2) := by decide +kernel
theorem dJ7_fill_d0a16_9 : decode cJ7_fill_d0a16 9 = .ok (.if_icmp .ge 13, 3) := by decide +kernel
theorem dJ7_fill_d0a16_12 : decode cJ7_fill_d0a16 12 = .ok (.aload_n 0, 1) := by decide +kernel
theorem dJ7_fill_d0a16_13 : decode cJ7_fill_d0a16 13 = .ok (.iload_n 3, 1) := by decide +kernel
theorem dJ7_fill_d0a16_14 : decode cJ7_fill_d0a16 14 = .ok (.lload_n 1, 1) := by decide +kernel
theorem dJ7_fill_d0a16_15 : decode cJ7_fill_d0a16 15 = .ok (.lastore, 1) := by decide +kernel
theorem dJ7_fill_d0a16_16 : decode cJ7_fill_d0a16 16 = .ok (.iinc 3 1, 3) := by decide +kernel
theorem dJ7_fill_d0a16_19 : decode cJ7_fill_d0a16 19 = .ok (.goto (-13), 3) := by decide +kernel
theorem dJ7_fill_d0a16_22 : decode cJ7_fill_d0a16 22 = .ok (.return_, 1) := by decide +kernel
theorem dJ3_checkIndex_8e157_0 : decode cJ3_checkIndex_8e157 0 = .ok (.iload_n 0, 1) := by decide +kernel
theorem dJ3_checkIndex_8e157_1 : decode cJ3_checkIndex_8e157 1 = .ok (.ifCond .lt 8, 3) := by decide +kernel
theorem dJ3_checkIndex_8e157_4 : decode cJ3_checkIndex_8e157 4 = .ok (.iload_n 0, 1) := by decide +kernel
theorem dJ3_checkIndex_8e157_5 : decode cJ3_checkIndex_8e157 5 = .ok (.iload_n 1, 1) := by decide +kernel
theorem dJ3_checkIndex_8e157_6 : decode cJ3_checkIndex_8e157 6 = .ok (.if_icmp .lt 10, 3) := by decide +kernel
theorem dJ3_checkIndex_8e157_9 : decode cJ3_checkIndex_8e157 9 = .ok (.aload_n 2, 1) := by decide +kernel
theorem dJ3_checkIndex_8e157_10 : decode cJ3_checkIndex_8e157 10 = .ok (.iload_n 0, 1) := by decide +kernel
theorem dJ3_checkIndex_8e157_11 : decode cJ3_checkIndex_8e157 11 = .ok (.iload_n 1, 1) := by decide +kernel
theorem dJ3_checkIndex_8e157_12 : decode cJ3_checkIndex_8e157 12 = .ok (.invokestatic 95, 3) := by decide +kernel
theorem dJ3_checkIndex_8e157_15 : decode cJ3_checkIndex_8e157 15 = .ok (.athrow, 1) := by decide +kernel
theorem dJ3_checkIndex_8e157_16 : decode cJ3_checkIndex_8e157 16 = .ok (.iload_n 0, 1) := by decide +kernel
theorem dJ3_checkIndex_8e157_17 : decode cJ3_checkIndex_8e157 17 = .ok (.ireturn, 1) := by decide +kernel
set_option maxRecDepth 20000 in
theorem ggL_sentence_X6_sentence : GoodIn wsL_sentence wsX6_sentence := goodIn_ca (goodIn_r _ [6, 7, 8, 9, 10, 11, 12, 13, 14, 15, 16, 17, 18, 19, 20, 21, 22, 23, 24, 25, 26, 27, 28, 29, 30, 31, 32, 33] (by decide +kernel) (by decide +kernel)) (goodIn_sub (fun _ h => List.mem_cons_of_mem _ (List.mem_append_right _ h)) (by decide +kernel))
set_option maxRecDepth 20000 in
theorem gL_sentence_X6_sentence : GoodIn wsL_sentence (wsV RL 7 RX6 yX6_sentence wsX6_sentence) := goodIn_app (goodIn_of _ (by decide +kernel)) ggL_sentence_X6_sentence
theorem dL_sentence_0 : decode cL_sentence 0 = .ok (.aload_n 3, 1) := by decide +kernel
theorem dL_sentence_1 : decode cL_sentence 1 = .ok (.iconst 0, 1) := by decide +kernel
theorem dL_sentence_2 : decode cL_sentence 2 = .ok (.aload_n 0, 1) := by decide +kernel
theorem dL_sentence_3 : decode cL_sentence 3 = .ok (.iload_n 1, 1) := by decide +kernel
theorem dL_sentence_4 : decode cL_sentence 4 = .ok (.iload_n 2, 1) := by decide +kernel
theorem dL_sentence_5 : decode cL_sentence 5 = .ok (.invokevirtual 7, 3) := by decide +kernel
theorem dL_sentence_8 : decode cL_sentence 8 = .ok (.i2l, 1) := by decide +kernel
theorem dL_sentence_9 : decode cL_sentence 9 = .ok (.lastore, 1) := by decide +kernel
theorem dL_sentence_10 : decode cL_sentence 10 = .ok (.goto 7, 3) := by decide +kernel
theorem dL_sentence_13 : decode cL_sentence 13 = .ok (.astore 4, 2) := by decide +kernel
theorem dL_sentence_15 : decode cL_sentence 15 = .ok (.iconst 1, 1) := by decide +kernel
theorem dL_sentence_16 : decode cL_sentence 16 = .ok (.ireturn, 1) := by decide +kernel
theorem dL_sentence_17 : decode cL_sentence 17 = .ok (.iconst 0, 1) := by decide +kernel
theorem dL_sentence_18 : decode cL_sentence 18 = .ok (.ireturn, 1) := by decide +kernel
set_option maxRecDepth 20000 in
theorem ggL_law_X6_init : GoodIn wsL_law wsX6_init := goodIn_r _ [9, 10, 11, 12, 13, 14, 15, 16, 17, 18, 19, 20, 21, 22, 23, 24, 25, 26, 27, 28, 29, 30, 31, 32, 33, 34, 35, 36, 37, 38, 39, 40, 41, 42, 43, 44, 45, 46, 47, 48, 49, 50, 51, 52, 53, 54, 55, 56, 57, 58, 59, 60, 61, 62, 63, 64, 65, 66, 67, 68, 69, 70, 71, 72, 6, 73, 74, 75, 76, 77, 78, 79, 80, 81, 82, 83, 84, 85, 86, 87, 88, 89, 90, 91, 827, 828, 829, 830, 794, 795, 796, 797, 798, 799, 831, 832, 833, 834, 835, 836, 837, 838, 839, 840, 841, 842, 843, 844, 845, 846, 847, 848, 849, 850, 851, 852, 853, 854, 855, 856] (by decide +kernel) (by decide +kernel)
set_option maxRecDepth 20000 in
theorem gL_law_X6_init : GoodIn wsL_law (wsX6_init) := ggL_law_X6_init
set_option maxRecDepth 20000 in
theorem ggL_law_X7_init : GoodIn wsL_law wsX7_init := goodIn_r _ [94, 95, 11, 12, 96, 97, 37, 98, 99, 100, 101, 102, 103, 6, 104, 105, 106, 800, 801, 802, 803, 804, 805, 806, 807, 808, 809, 810, 811, 812, 813, 814, 815, 816, 817, 818, 819, 820, 821, 822, 823, 824, 825, 826] (by decide +kernel) (by decide +kernel)
set_option maxRecDepth 20000 in
theorem gL_law_X7_init : GoodIn wsL_law (wsX7_init) := ggL_law_X7_init
set_option maxRecDepth 20000 in
theorem ggL_law_X6_feed : GoodIn wsL_law wsX6_feed := goodIn_r _ [110, 16, 111, 112, 15, 113, 114, 115, 116, 117, 39, 118, 119, 120, 121, 38, 794, 795, 796, 797, 798, 799, 827, 828, 829, 830] (by decide +kernel) (by decide +kernel)
set_option maxRecDepth 20000 in
theorem gL_law_X6_feed : GoodIn wsL_law (wsV RL 19 RX6 yX6_feed wsX6_feed) := goodIn_app (goodIn_of _ (by decide +kernel)) ggL_law_X6_feed
set_option maxRecDepth 20000 in
theorem ggL_law_X7_feed : GoodIn wsL_law wsX7_feed := goodIn_r _ [125, 126, 127, 128, 129, 5, 130, 131, 132, 133, 134, 97, 800, 801, 802, 803, 804, 805, 806, 807, 808, 809, 810, 811, 812, 813, 814, 815, 816, 817, 818, 819, 820, 821, 822, 823, 824, 825, 826] (by decide +kernel) (by decide +kernel)
set_option maxRecDepth 20000 in
theorem gL_law_X7_feed : GoodIn wsL_law (wsV RL 23 RX7 yX7_feed wsX7_feed) := goodIn_app (goodIn_of _ (by decide +kernel)) ggL_law_X7_feed
set_option maxRecDepth 20000 in
theorem ggL_law_X6_end : GoodIn wsL_law wsX6_end := goodIn_r _ [138, 16, 139, 140, 141, 15, 142, 39, 143, 144, 145, 146, 41, 147, 148, 149, 150, 38, 40, 151, 152, 153, 154, 155, 156, 794, 795, 796, 797, 798, 799, 827, 828, 829, 830] (by decide +kernel) (by decide +kernel)
set_option maxRecDepth 20000 in
theorem gL_law_X6_end : GoodIn wsL_law (wsV RL 24 RX6 yX6_end wsX6_end) := goodIn_app (goodIn_of _ (by decide +kernel)) ggL_law_X6_end
set_option maxRecDepth 20000 in
theorem ggL_law_X7_end : GoodIn wsL_law wsX7_end := goodIn_r _ [160, 126, 127, 800, 801, 802, 803, 804, 805, 806, 807, 808, 809, 810, 811, 812, 813, 814, 815, 816, 817, 818, 819, 820, 821, 822, 823, 824, 825, 826] (by decide +kernel) (by decide +kernel)
set_option maxRecDepth 20000 in
theorem gL_law_X7_end : GoodIn wsL_law (wsV RL 28 RX7 yX7_end wsX7_end) := goodIn_app (goodIn_of _ (by decide +kernel)) ggL_law_X7_end
set_option maxRecDepth 20000 in
theorem ggL_law_X6_fault : GoodIn wsL_law wsX6_fault := goodIn_r _ [164, 20, 29, 165, 166, 167, 19, 168, 46, 169, 170, 171, 27, 172, 59, 60, 61, 62, 173, 144, 145, 15, 146, 41, 147, 148, 149, 150, 39, 38, 40, 151, 152, 153, 154, 155, 156, 174, 175, 176, 177, 178, 179, 180, 181, 182, 183, 184, 185, 186, 187, 188, 189, 190, 191, 192, 193, 194, 195, 196, 197, 198, 199, 200, 201, 202, 203, 204, 205, 206, 207, 208, 209, 210, 211, 212, 213, 214, 215, 216, 217, 218, 219, 220, 221, 222, 223, 224, 225, 226, 227, 228, 229, 230, 231, 232, 233, 234, 235, 236, 237, 238, 239, 240, 241, 242, 243, 244, 245, 246, 247, 248, 249, 250, 58, 251, 252, 253, 254, 255, 256, 257, 258, 259, 260, 261, 262, 263, 264, 265, 266, 267, 268, 269, 270, 57, 271, 272, 273, 274, 275, 276, 277, 278, 279, 280, 281, 282, 283, 284, 285, 286, 287, 288, 289, 290, 291, 292, 293, 294, 295, 794, 795, 796, 797, 798, 799, 831, 835, 836, 837, 838, 839, 840, 827, 828, 829, 830] (by decide +kernel) (by decide +kernel)
set_option maxRecDepth 20000 in
theorem gL_law_X6_fault : GoodIn wsL_law (wsV RL 29 RX6 yX6_fault wsX6_fault) := goodIn_app (goodIn_of _ (by decide +kernel)) ggL_law_X6_fault
set_option maxRecDepth 20000 in
theorem ggL_law_X7_fault : GoodIn wsL_law wsX7_fault := goodIn_r _ [299, 126, 300, 301, 302, 5, 303, 304, 305, 306, 307, 37, 308, 309, 310, 311, 312, 99, 313, 314, 315, 316, 127, 97, 317, 318, 319, 320, 321, 322, 323, 324, 325, 326, 327, 179, 180, 181, 182, 183, 184, 185, 186, 187, 188, 189, 328, 195, 196, 197, 198, 199, 200, 201, 202, 203, 204, 205, 206, 207, 208, 209, 210, 211, 212, 213, 214, 215, 216, 217, 218, 219, 220, 221, 222, 223, 224, 225, 226, 227, 228, 229, 230, 329, 330, 331, 332, 333, 334, 335, 336, 337, 338, 339, 340, 341, 342, 343, 344, 345, 346, 347, 348, 349, 350, 351, 352, 353, 354, 355, 356, 357, 358, 359, 360, 361, 362, 363, 364, 365, 366, 367, 368, 369, 370, 101, 800, 801, 802, 803, 804, 805, 806, 807, 808, 809, 810, 811, 812, 813, 814, 815, 816, 817, 818, 819, 820, 821, 822, 823, 824, 825, 826] (by decide +kernel) (by decide +kernel)
set_option maxRecDepth 20000 in
theorem gL_law_X7_fault : GoodIn wsL_law (wsV RL 33 RX7 yX7_fault wsX7_fault) := goodIn_app (goodIn_of _ (by decide +kernel)) ggL_law_X7_fault
set_option maxRecDepth 20000 in
theorem ggL_law_X6_tale : GoodIn wsL_law wsX6_tale := goodIn_r _ [374, 20, 29, 28, 16, 24, 33, 165, 166, 167, 19, 168, 46, 169, 170, 171, 27, 172, 59, 60, 61, 62, 173, 144, 145, 15, 146, 41, 147, 148, 149, 150, 39, 38, 40, 151, 152, 153, 154, 155, 156, 174, 175, 176, 177, 178, 179, 180, 181, 182, 183, 184, 185, 186, 187, 188, 189, 190, 191, 192, 193, 194, 195, 196, 197, 198, 199, 200, 201, 202, 203, 204, 205, 206, 207, 208, 209, 210, 211, 212, 213, 214, 215, 216, 217, 218, 219, 220, 221, 222, 223, 224, 225, 226, 227, 228, 229, 230, 231, 232, 233, 234, 235, 236, 237, 238, 239, 240, 241, 242, 243, 244, 245, 246, 247, 248, 249, 250, 58, 251, 252, 253, 254, 255, 256, 257, 258, 259, 260, 261, 262, 263, 264, 265, 266, 267, 268, 269, 270, 57, 271, 272, 273, 274, 275, 276, 277, 278, 279, 280, 281, 282, 283, 284, 285, 286, 287, 288, 289, 290, 291, 292, 293, 294, 295, 139, 140, 141, 142, 143, 375, 376, 377, 23, 378, 52, 379, 380, 381, 32, 382, 84, 383, 384, 385, 386, 79, 80, 81, 82, 83, 78, 387, 388, 389, 390, 391, 392, 393, 394, 73, 74, 395, 396, 397, 398, 399, 400, 401, 402, 403, 404, 405, 406, 407, 408, 409, 410, 411, 412, 413, 414, 415, 416, 417, 418, 419, 420, 421, 422, 423, 424, 425, 426, 427, 428, 429, 430, 431, 432, 433, 434, 68, 75, 435, 436, 437, 438, 439, 440, 441, 70, 442, 91, 443, 444, 445, 446, 447, 448, 449, 450, 451, 452, 453, 454, 89, 455, 456, 457, 458, 459, 460, 461, 462, 463, 464, 465, 466, 467, 468, 469, 470, 471, 472, 473, 474, 475, 476, 77, 477, 478, 479, 480, 481, 482, 794, 795, 796, 797, 798, 799, 831, 835, 836, 837, 838, 839, 840, 827, 828, 829, 830, 832, 833, 834, 841, 842, 843, 844, 845, 846, 847, 848, 849, 850, 851, 852, 853, 854, 855, 856] (by decide +kernel) (by decide +kernel)
set_option maxRecDepth 20000 in
theorem gL_law_X6_tale : GoodIn wsL_law (wsV RL 34 RX6 yX6_tale wsX6_tale) := goodIn_app (goodIn_of _ (by decide +kernel)) ggL_law_X6_tale
set_option maxRecDepth 20000 in
theorem ggL_law_X7_tale : GoodIn wsL_law wsX7_tale := goodIn_r _ [486, 126, 305, 487, 98, 99, 100, 101, 488, 489, 127, 300, 301, 302, 5, 303, 304, 306, 307, 37, 308, 309, 310, 311, 312, 313, 314, 315, 316, 97, 317, 318, 319, 320, 321, 322, 323, 324, 325, 326, 327, 179, 180, 181, 182, 183, 184, 185, 186, 187, 188, 189, 328, 195, 196, 197, 198, 199, 200, 201, 202, 203, 204, 205, 206, 207, 208, 209, 210, 211, 212, 213, 214, 215, 216, 217, 218, 219, 220, 221, 222, 223, 224, 225, 226, 227, 228, 229, 230, 329, 330, 331, 332, 333, 334, 335, 336, 337, 338, 339, 340, 341, 342, 343, 344, 345, 346, 347, 348, 349, 350, 351, 352, 353, 354, 355, 356, 357, 358, 359, 360, 361, 362, 363, 364, 365, 366, 367, 368, 369, 370, 800, 801, 802, 803, 804, 805, 806, 807, 808, 809, 810, 811, 812, 813, 814, 815, 816, 817, 818, 819, 820, 821, 822, 823, 824, 825, 826] (by decide +kernel) (by decide +kernel)
set_option maxRecDepth 20000 in
theorem gL_law_X7_tale : GoodIn wsL_law (wsV RL 38 RX7 yX7_tale wsX7_tale) := goodIn_app (goodIn_of _ (by decide +kernel)) ggL_law_X7_tale
set_option maxRecDepth 20000 in
theorem ggL_law_X6_sentences : GoodIn wsL_law wsX6_sentences := goodIn_r _ [493, 28, 494, 396, 397, 27, 398, 59, 794, 795, 796, 797, 798, 799, 835, 836, 837, 838, 839, 840] (by decide +kernel) (by decide +kernel)
set_option maxRecDepth 20000 in
theorem gL_law_X6_sentences : GoodIn wsL_law (wsV RL 39 RX6 yX6_sentences wsX6_sentences) := goodIn_app (goodIn_of _ (by decide +kernel)) ggL_law_X6_sentences
set_option maxRecDepth 20000 in
theorem ggL_law_X7_sentences : GoodIn wsL_law wsX7_sentences := goodIn_r _ [498, 126, 487, 800, 801, 802, 803, 804, 805, 806, 807, 808, 809, 810, 811, 812, 813, 814, 815, 816, 817, 818, 819, 820, 821, 822, 823, 824, 825, 826] (by decide +kernel) (by decide +kernel)
set_option maxRecDepth 20000 in
theorem gL_law_X7_sentences : GoodIn wsL_law (wsV RL 42 RX7 yX7_sentences wsX7_sentences) := goodIn_app (goodIn_of _ (by decide +kernel)) ggL_law_X7_sentences
set_option maxRecDepth 20000 in
theorem ggL_law_L_sentence : GoodIn wsL_law wsL_sentence := goodIn_ca (goodIn_r _ [502, 503, 504, 505, 506, 2, 507, 508, 509, 28, 510, 404, 405, 27, 406, 59, 511, 400, 401, 402, 57, 403, 794, 795, 796, 797, 798, 799, 835, 836, 837, 838, 839, 840] (by decide +kernel) (by decide +kernel)) (goodIn_sub (fun _ h => List.mem_append_right _ h) (by decide +kernel))
set_option maxRecDepth 20000 in
theorem gL_law_L_sentence : GoodIn wsL_law (va_wsS RL 43 yL_sentence wsL_sentence) := goodIn_app (goodIn_of _ (by decide +kernel)) ggL_law_L_sentence
set_option maxRecDepth 20000 in
theorem ggL_law_X7_sentence_ : GoodIn wsL_law wsX7_sentence_ := goodIn_r _ [515, 487, 126, 364, 365, 5, 366, 516, 517, 518, 519, 98, 800, 801, 802, 803, 804, 805, 806, 807, 808, 809, 810, 811, 812, 813, 814, 815, 816, 817, 818, 819, 820, 821, 822, 823, 824, 825, 826] (by decide +kernel) (by decide +kernel)
set_option maxRecDepth 20000 in
theorem gL_law_X7_sentence_ : GoodIn wsL_law (wsV RL 48 RX7 yX7_sentence_ wsX7_sentence_) := goodIn_app (goodIn_of _ (by decide +kernel)) ggL_law_X7_sentence_
set_option maxRecDepth 20000 in
theorem ggL_law_X7_thrown : GoodIn wsL_law wsX7_thrown := goodIn_r _ [523, 126, 800, 801, 802, 803, 804, 805, 806, 807, 808, 809, 810, 811, 812, 813, 814, 815, 816, 817, 818, 819, 820, 821, 822, 823, 824, 825, 826] (by decide +kernel) (by decide +kernel)
set_option maxRecDepth 20000 in
theorem gL_law_X7_thrown : GoodIn wsL_law (wsV RL 49 RX7 yX7_thrown wsX7_thrown) := goodIn_app (goodIn_of _ (by decide +kernel)) ggL_law_X7_thrown
set_option maxRecDepth 20000 in
theorem ggL_law_X6_question : GoodIn wsL_law wsX6_question := goodIn_r _ [527, 28, 528, 425, 426, 27, 427, 62, 58, 794, 795, 796, 797, 798, 799, 835, 836, 837, 838, 839, 840] (by decide +kernel) (by decide +kernel)
set_option maxRecDepth 20000 in
theorem gL_law_X6_question : GoodIn wsL_law (wsV RL 52 RX6 yX6_question wsX6_question) := goodIn_app (goodIn_of _ (by decide +kernel)) ggL_law_X6_question
set_option maxRecDepth 20000 in
theorem ggL_law_X7_question : GoodIn wsL_law wsX7_question := goodIn_r _ [532, 126, 488, 100, 364, 365, 5, 366, 800, 801, 802, 803, 804, 805, 806, 807, 808, 809, 810, 811, 812, 813, 814, 815, 816, 817, 818, 819, 820, 821, 822, 823, 824, 825, 826] (by decide +kernel) (by decide +kernel)
set_option maxRecDepth 20000 in
theorem gL_law_X7_question : GoodIn wsL_law (wsV RL 56 RX7 yX7_question wsX7_question) := goodIn_app (goodIn_of _ (by decide +kernel)) ggL_law_X7_question
set_option maxRecDepth 20000 in
theorem ggL_law_X6_quarrel : GoodIn wsL_law wsX6_quarrel := goodIn_r _ [536, 33, 537, 538, 539, 32, 540, 79, 794, 795, 796, 797, 798, 799, 841, 842, 843, 844, 845, 846, 847, 848, 849, 850, 851, 852, 853, 854] (by decide +kernel) (by decide +kernel)
set_option maxRecDepth 20000 in
theorem gL_law_X6_quarrel : GoodIn wsL_law (wsV RL 57 RX6 yX6_quarrel wsX6_quarrel) := goodIn_app (goodIn_of _ (by decide +kernel)) ggL_law_X6_quarrel
set_option maxRecDepth 20000 in
theorem ggL_law_X7_quarrel : GoodIn wsL_law wsX7_quarrel := goodIn_r _ [544, 126, 545, 546, 547, 5, 548, 487, 549, 550, 551, 552, 516, 517, 518, 519, 98, 553, 554, 555, 556, 557, 558, 559, 560, 561, 105, 562, 563, 564, 565, 566, 567, 568, 569, 570, 106, 104, 571, 572, 573, 574, 575, 576, 577, 800, 801, 802, 803, 804, 805, 806, 807, 808, 809, 810, 811, 812, 813, 814, 815, 816, 817, 818, 819, 820, 821, 822, 823, 824, 825, 826] (by decide +kernel) (by decide +kernel)
set_option maxRecDepth 20000 in
theorem gL_law_X7_quarrel : GoodIn wsL_law (wsV RL 60 RX7 yX7_quarrel wsX7_quarrel) := goodIn_app (goodIn_of _ (by decide +kernel)) ggL_law_X7_quarrel
set_option maxRecDepth 20000 in
theorem ggL_law_X6_answer : GoodIn wsL_law wsX6_answer := goodIn_r _ [581, 33, 582, 583, 584, 32, 585, 586, 80, 81, 587, 588, 589, 590, 794, 795, 796, 797, 798, 799, 841, 842, 843, 844, 845, 846, 847, 848, 849, 850, 851, 852, 853, 854] (by decide +kernel) (by decide +kernel)
set_option maxRecDepth 20000 in
theorem gL_law_X6_answer : GoodIn wsL_law (wsV RL 61 RX6 yX6_answer wsX6_answer) := goodIn_app (goodIn_of _ (by decide +kernel)) ggL_law_X6_answer
set_option maxRecDepth 20000 in
theorem ggL_law_X7_answer : GoodIn wsL_law wsX7_answer := goodIn_r _ [594, 126, 595, 596, 597, 100, 364, 365, 5, 366, 598, 599, 600, 601, 488, 545, 546, 547, 548, 487, 549, 550, 551, 552, 516, 517, 518, 519, 98, 553, 554, 555, 556, 557, 558, 559, 560, 561, 105, 562, 563, 564, 565, 566, 567, 568, 569, 570, 106, 104, 571, 572, 573, 574, 575, 576, 577, 602, 603, 604, 605, 606, 607, 608, 609, 610, 611, 612, 613, 614, 615, 616, 617, 800, 801, 802, 803, 804, 805, 806, 807, 808, 809, 810, 811, 812, 813, 814, 815, 816, 817, 818, 819, 820, 821, 822, 823, 824, 825, 826] (by decide +kernel) (by decide +kernel)
set_option maxRecDepth 20000 in
theorem gL_law_X7_answer : GoodIn wsL_law (wsV RL 65 RX7 yX7_answer wsX7_answer) := goodIn_app (goodIn_of _ (by decide +kernel)) ggL_law_X7_answer
set_option maxRecDepth 20000 in
theorem ggL_law_X6_amount : GoodIn wsL_law wsX6_amount := goodIn_r _ [621, 33, 622, 623, 624, 32, 625, 84, 586, 78, 626, 627, 628, 27, 629, 62, 60, 630, 631, 632, 633, 77, 414, 415, 416, 417, 59, 57, 418, 419, 420, 794, 795, 796, 797, 798, 799, 841, 842, 843, 844, 845, 846, 847, 848, 849, 850, 851, 852, 853, 854, 835, 836, 837, 838, 839, 840] (by decide +kernel) (by decide +kernel)
set_option maxRecDepth 20000 in
theorem gL_law_X6_amount : GoodIn wsL_law (wsV RL 66 RX6 yX6_amount wsX6_amount) := goodIn_app (goodIn_of _ (by decide +kernel)) ggL_law_X6_amount
set_option maxRecDepth 20000 in
theorem ggL_law_X7_amount : GoodIn wsL_law wsX7_amount := goodIn_r _ [637, 126, 595, 364, 365, 5, 366, 638, 639, 640, 641, 488, 487, 549, 550, 551, 552, 516, 517, 518, 519, 98, 545, 546, 547, 548, 553, 554, 555, 556, 557, 558, 559, 560, 561, 105, 562, 563, 564, 565, 566, 567, 568, 569, 570, 106, 104, 571, 572, 573, 574, 575, 576, 577, 642, 643, 644, 645, 596, 597, 602, 603, 604, 605, 610, 611, 612, 613, 614, 615, 616, 617, 800, 801, 802, 803, 804, 805, 806, 807, 808, 809, 810, 811, 812, 813, 814, 815, 816, 817, 818, 819, 820, 821, 822, 823, 824, 825, 826] (by decide +kernel) (by decide +kernel)
set_option maxRecDepth 20000 in
theorem gL_law_X7_amount : GoodIn wsL_law (wsV RL 70 RX7 yX7_amount wsX7_amount) := goodIn_app (goodIn_of _ (by decide +kernel)) ggL_law_X7_amount
set_option maxRecDepth 20000 in
theorem ggL_law_X6_idle : GoodIn wsL_law wsX6_idle := goodIn_r _ [649, 33, 650, 651, 652, 32, 653, 82, 84, 587, 588, 589, 590, 81, 395, 396, 397, 27, 398, 59, 443, 444, 445, 446, 447, 448, 449, 450, 61, 654, 655, 656, 657, 71, 73, 75, 435, 436, 437, 438, 74, 424, 425, 426, 427, 62, 58, 658, 659, 660, 661, 399, 400, 401, 402, 57, 403, 404, 405, 406, 439, 440, 441, 70, 442, 91, 451, 452, 453, 454, 89, 455, 456, 457, 458, 459, 460, 461, 462, 463, 464, 465, 466, 467, 468, 469, 470, 471, 477, 478, 794, 795, 796, 797, 798, 799, 841, 842, 843, 844, 845, 846, 847, 848, 849, 850, 851, 852, 853, 854, 835, 836, 837, 838, 839, 840, 855, 856] (by decide +kernel) (by decide +kernel)
set_option maxRecDepth 20000 in
theorem gL_law_X6_idle : GoodIn wsL_law (wsV RL 71 RX6 yX6_idle wsX6_idle) := goodIn_app (goodIn_of _ (by decide +kernel)) ggL_law_X6_idle
set_option maxRecDepth 20000 in
theorem ggL_law_X7_idle : GoodIn wsL_law wsX7_idle := goodIn_r _ [665, 126, 487, 598, 599, 600, 5, 601, 488, 545, 546, 547, 548, 549, 550, 551, 552, 516, 517, 518, 519, 98, 553, 554, 555, 556, 557, 558, 559, 560, 561, 105, 562, 563, 564, 565, 566, 567, 568, 569, 570, 106, 104, 571, 572, 573, 574, 575, 576, 577, 602, 603, 604, 605, 606, 607, 608, 609, 100, 610, 611, 612, 613, 596, 597, 800, 801, 802, 803, 804, 805, 806, 807, 808, 809, 810, 811, 812, 813, 814, 815, 816, 817, 818, 819, 820, 821, 822, 823, 824, 825, 826] (by decide +kernel) (by decide +kernel)
set_option maxRecDepth 20000 in
theorem gL_law_X7_idle : GoodIn wsL_law (wsV RL 74 RX7 yX7_idle wsX7_idle) := goodIn_app (goodIn_of _ (by decide +kernel)) ggL_law_X7_idle
set_option maxRecDepth 20000 in
theorem ggL_law_X6_enough : GoodIn wsL_law wsX6_enough := goodIn_r _ [669, 33, 670, 671, 672, 32, 673, 83, 84, 587, 588, 589, 590, 81, 447, 448, 449, 27, 450, 61, 674, 651, 652, 653, 82, 395, 396, 397, 398, 59, 443, 444, 445, 446, 654, 655, 656, 657, 71, 73, 75, 435, 436, 437, 438, 74, 424, 425, 426, 427, 62, 58, 658, 659, 660, 661, 399, 400, 401, 402, 57, 403, 404, 405, 406, 439, 440, 441, 70, 442, 91, 451, 452, 453, 454, 89, 455, 456, 457, 458, 459, 460, 461, 462, 463, 464, 465, 466, 467, 468, 469, 470, 471, 477, 478, 675, 676, 677, 678, 679, 680, 681, 682, 683, 684, 685, 794, 795, 796, 797, 798, 799, 841, 842, 843, 844, 845, 846, 847, 848, 849, 850, 851, 852, 853, 854, 835, 836, 837, 838, 839, 840, 855, 856] (by decide +kernel) (by decide +kernel)
set_option maxRecDepth 20000 in
theorem gL_law_X6_enough : GoodIn wsL_law (wsV RL 75 RX6 yX6_enough wsX6_enough) := goodIn_app (goodIn_of _ (by decide +kernel)) ggL_law_X6_enough
set_option maxRecDepth 20000 in
theorem ggL_law_X7_enough : GoodIn wsL_law wsX7_enough := goodIn_r _ [689, 126, 598, 599, 600, 5, 601, 488, 545, 546, 547, 548, 487, 549, 550, 551, 552, 516, 517, 518, 519, 98, 553, 554, 555, 556, 557, 558, 559, 560, 561, 105, 562, 563, 564, 565, 566, 567, 568, 569, 570, 106, 104, 571, 572, 573, 574, 575, 576, 577, 602, 603, 604, 605, 606, 607, 608, 609, 100, 610, 611, 612, 613, 596, 597, 690, 691, 692, 693, 694, 680, 681, 682, 683, 684, 685, 800, 801, 802, 803, 804, 805, 806, 807, 808, 809, 810, 811, 812, 813, 814, 815, 816, 817, 818, 819, 820, 821, 822, 823, 824, 825, 826] (by decide +kernel) (by decide +kernel)
set_option maxRecDepth 20000 in
theorem gL_law_X7_enough : GoodIn wsL_law (wsV RL 78 RX7 yX7_enough wsX7_enough) := goodIn_app (goodIn_of _ (by decide +kernel)) ggL_law_X7_enough
set_option maxRecDepth 20000 in
theorem ggL_law_X6_lacking : GoodIn wsL_law wsX6_lacking := goodIn_r _ [698, 33, 699, 700, 701, 32, 702, 84, 79, 74, 75, 435, 436, 437, 438, 68, 76, 424, 425, 426, 27, 427, 62, 58, 587, 588, 589, 590, 81, 477, 457, 458, 70, 459, 91, 89, 460, 461, 462, 463, 464, 465, 387, 388, 389, 390, 703, 704, 705, 478, 467, 468, 794, 795, 796, 797, 798, 799, 841, 842, 843, 844, 845, 846, 847, 848, 849, 850, 851, 852, 853, 854, 835, 836, 837, 838, 839, 840, 855, 856] (by decide +kernel) (by decide +kernel)
set_option maxRecDepth 20000 in
theorem gL_law_X6_lacking : GoodIn wsL_law (wsV RL 79 RX6 yX6_lacking wsX6_lacking) := goodIn_app (goodIn_of _ (by decide +kernel)) ggL_law_X6_lacking
set_option maxRecDepth 20000 in
theorem ggL_law_X7_lacking : GoodIn wsL_law wsX7_lacking := goodIn_r _ [709, 126, 488, 100, 105, 545, 546, 547, 5, 548, 487, 549, 550, 551, 552, 516, 517, 518, 519, 98, 553, 554, 555, 556, 557, 558, 559, 560, 561, 562, 563, 564, 565, 566, 567, 568, 569, 570, 106, 104, 571, 572, 573, 574, 575, 576, 577, 602, 603, 604, 605, 606, 607, 608, 609, 610, 611, 612, 613, 596, 597, 800, 801, 802, 803, 804, 805, 806, 807, 808, 809, 810, 811, 812, 813, 814, 815, 816, 817, 818, 819, 820, 821, 822, 823, 824, 825, 826] (by decide +kernel) (by decide +kernel)
set_option maxRecDepth 20000 in
theorem gL_law_X7_lacking : GoodIn wsL_law (wsV RL 82 RX7 yX7_lacking wsX7_lacking) := goodIn_app (goodIn_of _ (by decide +kernel)) ggL_law_X7_lacking
set_option maxRecDepth 20000 in
theorem ggL_law_X6_strange : GoodIn wsL_law wsX6_strange := goodIn_r _ [713, 33, 714, 715, 716, 32, 717, 84, 626, 627, 628, 27, 629, 62, 60, 718, 719, 720, 721, 78, 630, 631, 632, 633, 77, 414, 415, 416, 417, 59, 57, 418, 419, 420, 722, 723, 724, 794, 795, 796, 797, 798, 799, 841, 842, 843, 844, 845, 846, 847, 848, 849, 850, 851, 852, 853, 854, 835, 836, 837, 838, 839, 840] (by decide +kernel) (by decide +kernel)
set_option maxRecDepth 20000 in
theorem gL_law_X6_strange : GoodIn wsL_law (wsV RL 83 RX6 yX6_strange wsX6_strange) := goodIn_app (goodIn_of _ (by decide +kernel)) ggL_law_X6_strange
set_option maxRecDepth 20000 in
theorem ggL_law_X7_strange : GoodIn wsL_law wsX7_strange := goodIn_r _ [728, 126, 488, 364, 365, 5, 366, 545, 546, 547, 548, 487, 549, 550, 551, 552, 516, 517, 518, 519, 98, 553, 554, 555, 556, 557, 558, 559, 560, 561, 105, 562, 563, 564, 565, 566, 567, 568, 569, 570, 106, 104, 571, 572, 573, 574, 575, 576, 577, 638, 639, 640, 641, 642, 643, 644, 645, 596, 597, 602, 603, 604, 605, 610, 611, 612, 613, 614, 615, 616, 617, 800, 801, 802, 803, 804, 805, 806, 807, 808, 809, 810, 811, 812, 813, 814, 815, 816, 817, 818, 819, 820, 821, 822, 823, 824, 825, 826] (by decide +kernel) (by decide +kernel)
set_option maxRecDepth 20000 in
theorem gL_law_X7_strange : GoodIn wsL_law (wsV RL 86 RX7 yX7_strange wsX7_strange) := goodIn_app (goodIn_of _ (by decide +kernel)) ggL_law_X7_strange
set_option maxRecDepth 20000 in
theorem ggL_law_X6_put : GoodIn wsL_law wsX6_put := goodIn_r _ [732, 28, 24, 33, 733, 734, 735, 27, 736, 737, 400, 401, 402, 57, 403, 404, 405, 406, 59, 511, 738, 739, 740, 23, 741, 52, 50, 51, 742, 743, 744, 745, 746, 747, 748, 749, 750, 384, 385, 32, 386, 79, 80, 81, 82, 83, 78, 387, 388, 389, 390, 391, 392, 393, 394, 84, 73, 74, 395, 396, 397, 398, 399, 407, 408, 409, 410, 411, 412, 413, 414, 415, 416, 417, 418, 419, 420, 421, 422, 423, 424, 425, 426, 427, 62, 58, 428, 429, 430, 431, 432, 433, 434, 68, 75, 435, 436, 437, 438, 439, 440, 441, 70, 442, 91, 443, 444, 445, 446, 447, 448, 449, 450, 61, 451, 452, 453, 454, 89, 455, 456, 457, 458, 459, 460, 461, 462, 463, 464, 465, 466, 467, 468, 469, 470, 471, 472, 473, 474, 475, 476, 77, 477, 478, 479, 480, 481, 482, 794, 795, 796, 797, 798, 799, 835, 836, 837, 838, 839, 840, 832, 833, 834, 841, 842, 843, 844, 845, 846, 847, 848, 849, 850, 851, 852, 853, 854, 855, 856] (by decide +kernel) (by decide +kernel)
set_option maxRecDepth 20000 in
theorem gL_law_X6_put : GoodIn wsL_law (wsV RL 87 RX6 yX6_put wsX6_put) := goodIn_app (goodIn_of _ (by decide +kernel)) ggL_law_X6_put
set_option maxRecDepth 20000 in
theorem ggL_law_X7_put : GoodIn wsL_law wsX7_put := goodIn_r _ [754, 126, 487, 489, 102, 103, 98, 364, 365, 5, 366, 516, 517, 518, 519, 800, 801, 802, 803, 804, 805, 806, 807, 808, 809, 810, 811, 812, 813, 814, 815, 816, 817, 818, 819, 820, 821, 822, 823, 824, 825, 826] (by decide +kernel) (by decide +kernel)
set_option maxRecDepth 20000 in
theorem gL_law_X7_put : GoodIn wsL_law (wsV RL 91 RX7 yX7_put wsX7_put) := goodIn_app (goodIn_of _ (by decide +kernel)) ggL_law_X7_put
set_option maxRecDepth 20000 in
theorem ggL_law_X6_undo : GoodIn wsL_law wsX6_undo := goodIn_r _ [758, 24, 28, 33, 759, 760, 761, 23, 762, 52, 763, 764, 765, 766, 50, 767, 768, 769, 770, 51, 746, 747, 748, 27, 749, 57, 403, 404, 405, 406, 59, 771, 772, 773, 774, 750, 384, 385, 32, 386, 79, 80, 81, 82, 83, 78, 387, 388, 389, 390, 391, 392, 393, 394, 84, 73, 74, 395, 396, 397, 398, 399, 400, 401, 402, 407, 408, 409, 410, 411, 412, 413, 414, 415, 416, 417, 418, 419, 420, 421, 422, 423, 424, 425, 426, 427, 62, 58, 428, 429, 430, 431, 432, 433, 434, 68, 75, 435, 436, 437, 438, 439, 440, 441, 70, 442, 91, 443, 444, 445, 446, 447, 448, 449, 450, 61, 451, 452, 453, 454, 89, 455, 456, 457, 458, 459, 460, 461, 462, 463, 464, 465, 466, 467, 468, 469, 470, 471, 472, 473, 474, 475, 476, 77, 477, 478, 479, 480, 481, 482, 794, 795, 796, 797, 798, 799, 832, 833, 834, 835, 836, 837, 838, 839, 840, 841, 842, 843, 844, 845, 846, 847, 848, 849, 850, 851, 852, 853, 854, 855, 856] (by decide +kernel) (by decide +kernel)
set_option maxRecDepth 20000 in
theorem gL_law_X6_undo : GoodIn wsL_law (wsV RL 92 RX6 yX6_undo wsX6_undo) := goodIn_app (goodIn_of _ (by decide +kernel)) ggL_law_X6_undo
set_option maxRecDepth 20000 in
theorem ggL_law_X7_undo : GoodIn wsL_law wsX7_undo := goodIn_r _ [778, 126, 489, 98, 102, 103, 800, 801, 802, 803, 804, 805, 806, 807, 808, 809, 810, 811, 812, 813, 814, 815, 816, 817, 818, 819, 820, 821, 822, 823, 824, 825, 826] (by decide +kernel) (by decide +kernel)
set_option maxRecDepth 20000 in
theorem gL_law_X7_undo : GoodIn wsL_law (wsV RL 95 RX7 yX7_undo wsX7_undo) := goodIn_app (goodIn_of _ (by decide +kernel)) ggL_law_X7_undo
set_option maxRecDepth 20000 in
theorem ggL_law_X6_count : GoodIn wsL_law wsX6_count := goodIn_r _ [782, 16, 28, 33, 24, 114, 115, 116, 15, 117, 39, 783, 448, 449, 27, 450, 61, 784, 680, 681, 682, 683, 684, 685, 785, 627, 628, 629, 62, 60, 786, 787, 788, 32, 789, 78, 759, 760, 761, 23, 762, 52, 794, 795, 796, 797, 798, 799, 827, 828, 829, 830, 835, 836, 837, 838, 839, 840, 841, 842, 843, 844, 845, 846, 847, 848, 849, 850, 851, 852, 853, 854, 832, 833, 834] (by decide +kernel) (by decide +kernel)
set_option maxRecDepth 20000 in
theorem gL_law_X6_count : GoodIn wsL_law (wsV RL 96 RX6 yX6_count wsX6_count) := goodIn_app (goodIn_of _ (by decide +kernel)) ggL_law_X6_count
set_option maxRecDepth 20000 in
theorem ggL_law_X7_count : GoodIn wsL_law wsX7_count := goodIn_r _ [793, 126, 127, 488, 489, 690, 691, 692, 5, 693, 487, 549, 550, 551, 552, 516, 517, 518, 519, 98, 694, 680, 681, 682, 683, 684, 685, 638, 639, 640, 641, 545, 546, 547, 548, 553, 554, 555, 556, 557, 558, 559, 560, 561, 105, 562, 563, 564, 565, 566, 567, 568, 569, 570, 106, 104, 571, 572, 573, 574, 575, 576, 577, 642, 643, 644, 645, 596, 597, 602, 603, 604, 605, 610, 611, 612, 613, 800, 801, 802, 803, 804, 805, 806, 807, 808, 809, 810, 811, 812, 813, 814, 815, 816, 817, 818, 819, 820, 821, 822, 823, 824, 825, 826] (by decide +kernel) (by decide +kernel)
set_option maxRecDepth 20000 in
theorem gL_law_X7_count : GoodIn wsL_law (wsV RL 99 RX7 yX7_count wsX7_count) := goodIn_app (goodIn_of _ (by decide +kernel)) ggL_law_X7_count
theorem dL_law_0 : decode cL_law 0 = .ok (.new 8, 3) := by decide +kernel
theorem dL_law_3 : decode cL_law 3 = .ok (.dup, 1) := by decide +kernel
theorem dL_law_4 : decode cL_law 4 = .ok (.invokespecial 15, 3) := by decide +kernel
theorem dL_law_7 : decode cL_law 7 = .ok (.astore_n 1, 1) := by decide +kernel
theorem dL_law_8 : decode cL_law 8 = .ok (.new 16, 3) := by decide +kernel
theorem dL_law_11 : decode cL_law 11 = .ok (.dup, 1) := by decide +kernel
theorem dL_law_12 : decode cL_law 12 = .ok (.invokespecial 18, 3) := by decide +kernel
theorem dL_law_15 : decode cL_law 15 = .ok (.astore_n 2, 1) := by decide +kernel
theorem dL_law_16 : decode cL_law 16 = .ok (.iconst 1, 1) := by decide +kernel
theorem dL_law_17 : decode cL_law 17 = .ok (.newarray .long, 2) := by decide +kernel
theorem dL_law_19 : decode cL_law 19 = .ok (.astore_n 3, 1) := by decide +kernel
theorem dL_law_20 : decode cL_law 20 = .ok (.iconst 0, 1) := by decide +kernel
theorem dL_law_21 : decode cL_law 21 = .ok (.istore 4, 2) := by decide +kernel
theorem dL_law_23 : decode cL_law 23 = .ok (.iload 4, 2) := by decide +kernel
theorem dL_law_25 : decode cL_law 25 = .ok (.aload_n 0, 1) := by decide +kernel
theorem dL_law_26 : decode cL_law 26 = .ok (.arraylength, 1) := by decide +kernel
theorem dL_law_27 : decode cL_law 27 = .ok (.bipush 6, 2) := by decide +kernel
theorem dL_law_29 : decode cL_law 29 = .ok (.isub, 1) := by decide +kernel
theorem dL_law_30 : decode cL_law 30 = .ok (.if_icmp .gt 570, 3) := by decide +kernel
theorem dL_law_33 : decode cL_law 33 = .ok (.aload_n 0, 1) := by decide +kernel
theorem dL_law_34 : decode cL_law 34 = .ok (.iload 4, 2) := by decide +kernel
theorem dL_law_36 : decode cL_law 36 = .ok (.iaload, 1) := by decide +kernel
theorem dL_law_37 : decode cL_law 37 = .ok (.bipush 31, 2) := by decide +kernel
theorem dL_law_39 : decode cL_law 39 = .ok (.iand, 1) := by decide +kernel
theorem dL_law_40 : decode cL_law 40 = .ok (.tableswitch 554 0 16 #[84, 157, 182, 195, 208, 221, 289, 314, 327, 353, 415, 428, 441, 454, 479, 516, 529], 84) := by decide +kernel
theorem dL_law_124 : decode cL_law 124 = .ok (.aload_n 1, 1) := by decide +kernel
theorem dL_law_125 : decode cL_law 125 = .ok (.aload_n 0, 1) := by decide +kernel
theorem dL_law_126 : decode cL_law 126 = .ok (.iload 4, 2) := by decide +kernel
theorem dL_law_128 : decode cL_law 128 = .ok (.iconst 1, 1) := by decide +kernel
theorem dL_law_129 : decode cL_law 129 = .ok (.iadd, 1) := by decide +kernel
theorem dL_law_130 : decode cL_law 130 = .ok (.iaload, 1) := by decide +kernel
theorem dL_law_131 : decode cL_law 131 = .ok (.aload_n 0, 1) := by decide +kernel
theorem dL_law_132 : decode cL_law 132 = .ok (.iload 4, 2) := by decide +kernel
theorem dL_law_134 : decode cL_law 134 = .ok (.iconst 2, 1) := by decide +kernel
theorem dL_law_135 : decode cL_law 135 = .ok (.iadd, 1) := by decide +kernel
theorem dL_law_136 : decode cL_law 136 = .ok (.iaload, 1) := by decide +kernel
theorem dL_law_137 : decode cL_law 137 = .ok (.aload_n 0, 1) := by decide +kernel
theorem dL_law_138 : decode cL_law 138 = .ok (.iload 4, 2) := by decide +kernel
theorem dL_law_140 : decode cL_law 140 = .ok (.iconst 3, 1) := by decide +kernel
theorem dL_law_141 : decode cL_law 141 = .ok (.iadd, 1) := by decide +kernel
theorem dL_law_142 : decode cL_law 142 = .ok (.iaload, 1) := by decide +kernel
theorem dL_law_143 : decode cL_law 143 = .ok (.aload_n 0, 1) := by decide +kernel
theorem dL_law_144 : decode cL_law 144 = .ok (.iload 4, 2) := by decide +kernel
theorem dL_law_146 : decode cL_law 146 = .ok (.iconst 4, 1) := by decide +kernel
theorem dL_law_147 : decode cL_law 147 = .ok (.iadd, 1) := by decide +kernel
theorem dL_law_148 : decode cL_law 148 = .ok (.iaload, 1) := by decide +kernel
theorem dL_law_149 : decode cL_law 149 = .ok (.aload_n 0, 1) := by decide +kernel
theorem dL_law_150 : decode cL_law 150 = .ok (.iload 4, 2) := by decide +kernel
theorem dL_law_152 : decode cL_law 152 = .ok (.iconst 5, 1) := by decide +kernel
theorem dL_law_153 : decode cL_law 153 = .ok (.iadd, 1) := by decide +kernel
theorem dL_law_154 : decode cL_law 154 = .ok (.iaload, 1) := by decide +kernel
theorem dL_law_155 : decode cL_law 155 = .ok (.invokevirtual 19, 3) := by decide +kernel
theorem dL_law_158 : decode cL_law 158 = .ok (.aload_n 2, 1) := by decide +kernel
theorem dL_law_159 : decode cL_law 159 = .ok (.aload_n 0, 1) := by decide +kernel
theorem dL_law_160 : decode cL_law 160 = .ok (.iload 4, 2) := by decide +kernel
theorem dL_law_162 : decode cL_law 162 = .ok (.iconst 1, 1) := by decide +kernel
theorem dL_law_163 : decode cL_law 163 = .ok (.iadd, 1) := by decide +kernel
theorem dL_law_164 : decode cL_law 164 = .ok (.iaload, 1) := by decide +kernel
theorem dL_law_165 : decode cL_law 165 = .ok (.aload_n 0, 1) := by decide +kernel
theorem dL_law_166 : decode cL_law 166 = .ok (.iload 4, 2) := by decide +kernel
theorem dL_law_168 : decode cL_law 168 = .ok (.iconst 2, 1) := by decide +kernel
theorem dL_law_169 : decode cL_law 169 = .ok (.iadd, 1) := by decide +kernel
theorem dL_law_170 : decode cL_law 170 = .ok (.iaload, 1) := by decide +kernel
theorem dL_law_171 : decode cL_law 171 = .ok (.aload_n 0, 1) := by decide +kernel
theorem dL_law_172 : decode cL_law 172 = .ok (.iload 4, 2) := by decide +kernel
theorem dL_law_174 : decode cL_law 174 = .ok (.iconst 3, 1) := by decide +kernel
theorem dL_law_175 : decode cL_law 175 = .ok (.iadd, 1) := by decide +kernel
theorem dL_law_176 : decode cL_law 176 = .ok (.iaload, 1) := by decide +kernel
theorem dL_law_177 : decode cL_law 177 = .ok (.aload_n 0, 1) := by decide +kernel
theorem dL_law_178 : decode cL_law 178 = .ok (.iload 4, 2) := by decide +kernel
theorem dL_law_180 : decode cL_law 180 = .ok (.iconst 4, 1) := by decide +kernel
theorem dL_law_181 : decode cL_law 181 = .ok (.iadd, 1) := by decide +kernel
theorem dL_law_182 : decode cL_law 182 = .ok (.iaload, 1) := by decide +kernel
theorem dL_law_183 : decode cL_law 183 = .ok (.aload_n 0, 1) := by decide +kernel
theorem dL_law_184 : decode cL_law 184 = .ok (.iload 4, 2) := by decide +kernel
theorem dL_law_186 : decode cL_law 186 = .ok (.iconst 5, 1) := by decide +kernel
theorem dL_law_187 : decode cL_law 187 = .ok (.iadd, 1) := by decide +kernel
theorem dL_law_188 : decode cL_law 188 = .ok (.iaload, 1) := by decide +kernel
theorem dL_law_189 : decode cL_law 189 = .ok (.invokevirtual 23, 3) := by decide +kernel
theorem dL_law_192 : decode cL_law 192 = .ok (.if_icmp .eq 402, 3) := by decide +kernel
theorem dL_law_195 : decode cL_law 195 = .ok (.iconst 0, 1) := by decide +kernel
theorem dL_law_196 : decode cL_law 196 = .ok (.ireturn, 1) := by decide +kernel
theorem dL_law_197 : decode cL_law 197 = .ok (.aload_n 1, 1) := by decide +kernel
theorem dL_law_198 : decode cL_law 198 = .ok (.aload_n 0, 1) := by decide +kernel
theorem dL_law_199 : decode cL_law 199 = .ok (.iload 4, 2) := by decide +kernel
theorem dL_law_201 : decode cL_law 201 = .ok (.iconst 1, 1) := by decide +kernel
theorem dL_law_202 : decode cL_law 202 = .ok (.iadd, 1) := by decide +kernel
theorem dL_law_203 : decode cL_law 203 = .ok (.iaload, 1) := by decide +kernel
theorem dL_law_204 : decode cL_law 204 = .ok (.invokevirtual 24, 3) := by decide +kernel
theorem dL_law_207 : decode cL_law 207 = .ok (.aload_n 2, 1) := by decide +kernel
theorem dL_law_208 : decode cL_law 208 = .ok (.aload_n 0, 1) := by decide +kernel
theorem dL_law_209 : decode cL_law 209 = .ok (.iload 4, 2) := by decide +kernel
theorem dL_law_211 : decode cL_law 211 = .ok (.iconst 1, 1) := by decide +kernel
theorem dL_law_212 : decode cL_law 212 = .ok (.iadd, 1) := by decide +kernel
theorem dL_law_213 : decode cL_law 213 = .ok (.iaload, 1) := by decide +kernel
theorem dL_law_214 : decode cL_law 214 = .ok (.invokevirtual 28, 3) := by decide +kernel
theorem dL_law_217 : decode cL_law 217 = .ok (.if_icmp .eq 377, 3) := by decide +kernel
theorem dL_law_220 : decode cL_law 220 = .ok (.iconst 0, 1) := by decide +kernel
theorem dL_law_221 : decode cL_law 221 = .ok (.ireturn, 1) := by decide +kernel
theorem dL_law_222 : decode cL_law 222 = .ok (.aload_n 1, 1) := by decide +kernel
theorem dL_law_223 : decode cL_law 223 = .ok (.invokevirtual 29, 3) := by decide +kernel
theorem dL_law_226 : decode cL_law 226 = .ok (.aload_n 2, 1) := by decide +kernel
theorem dL_law_227 : decode cL_law 227 = .ok (.invokevirtual 33, 3) := by decide +kernel
theorem dL_law_230 : decode cL_law 230 = .ok (.if_icmp .eq 364, 3) := by decide +kernel
theorem dL_law_233 : decode cL_law 233 = .ok (.iconst 0, 1) := by decide +kernel
theorem dL_law_234 : decode cL_law 234 = .ok (.ireturn, 1) := by decide +kernel
theorem dL_law_235 : decode cL_law 235 = .ok (.aload_n 1, 1) := by decide +kernel
theorem dL_law_236 : decode cL_law 236 = .ok (.invokevirtual 34, 3) := by decide +kernel
theorem dL_law_239 : decode cL_law 239 = .ok (.aload_n 2, 1) := by decide +kernel
theorem dL_law_240 : decode cL_law 240 = .ok (.invokevirtual 38, 3) := by decide +kernel
theorem dL_law_243 : decode cL_law 243 = .ok (.if_icmp .eq 351, 3) := by decide +kernel
theorem dL_law_246 : decode cL_law 246 = .ok (.iconst 0, 1) := by decide +kernel
theorem dL_law_247 : decode cL_law 247 = .ok (.ireturn, 1) := by decide +kernel
theorem dL_law_248 : decode cL_law 248 = .ok (.aload_n 1, 1) := by decide +kernel
theorem dL_law_249 : decode cL_law 249 = .ok (.invokevirtual 39, 3) := by decide +kernel
theorem dL_law_252 : decode cL_law 252 = .ok (.aload_n 2, 1) := by decide +kernel
theorem dL_law_253 : decode cL_law 253 = .ok (.invokevirtual 42, 3) := by decide +kernel
theorem dL_law_256 : decode cL_law 256 = .ok (.if_icmp .eq 338, 3) := by decide +kernel
theorem dL_law_259 : decode cL_law 259 = .ok (.iconst 0, 1) := by decide +kernel
theorem dL_law_260 : decode cL_law 260 = .ok (.ireturn, 1) := by decide +kernel
theorem dL_law_261 : decode cL_law 261 = .ok (.aload_n 1, 1) := by decide +kernel
theorem dL_law_262 : decode cL_law 262 = .ok (.aload_n 0, 1) := by decide +kernel
theorem dL_law_263 : decode cL_law 263 = .ok (.iload 4, 2) := by decide +kernel
theorem dL_law_265 : decode cL_law 265 = .ok (.iconst 1, 1) := by decide +kernel
theorem dL_law_266 : decode cL_law 266 = .ok (.iadd, 1) := by decide +kernel
theorem dL_law_267 : decode cL_law 267 = .ok (.iaload, 1) := by decide +kernel
theorem dL_law_268 : decode cL_law 268 = .ok (.aload_n 0, 1) := by decide +kernel
theorem dL_law_269 : decode cL_law 269 = .ok (.iload 4, 2) := by decide +kernel
theorem dL_law_271 : decode cL_law 271 = .ok (.iconst 2, 1) := by decide +kernel
theorem dL_law_272 : decode cL_law 272 = .ok (.iadd, 1) := by decide +kernel
theorem dL_law_273 : decode cL_law 273 = .ok (.iaload, 1) := by decide +kernel
theorem dL_law_274 : decode cL_law 274 = .ok (.aload_n 3, 1) := by decide +kernel
theorem dL_law_275 : decode cL_law 275 = .ok (.invokestatic 43, 3) := by decide +kernel
theorem dL_law_278 : decode cL_law 278 = .ok (.istore 5, 2) := by decide +kernel
theorem dL_law_280 : decode cL_law 280 = .ok (.aload_n 2, 1) := by decide +kernel
theorem dL_law_281 : decode cL_law 281 = .ok (.aload_n 0, 1) := by decide +kernel
theorem dL_law_282 : decode cL_law 282 = .ok (.iload 4, 2) := by decide +kernel
theorem dL_law_284 : decode cL_law 284 = .ok (.iconst 1, 1) := by decide +kernel
theorem dL_law_285 : decode cL_law 285 = .ok (.iadd, 1) := by decide +kernel
theorem dL_law_286 : decode cL_law 286 = .ok (.iaload, 1) := by decide +kernel
theorem dL_law_287 : decode cL_law 287 = .ok (.aload_n 0, 1) := by decide +kernel
theorem dL_law_288 : decode cL_law 288 = .ok (.iload 4, 2) := by decide +kernel
theorem dL_law_290 : decode cL_law 290 = .ok (.iconst 2, 1) := by decide +kernel
theorem dL_law_291 : decode cL_law 291 = .ok (.iadd, 1) := by decide +kernel
theorem dL_law_292 : decode cL_law 292 = .ok (.iaload, 1) := by decide +kernel
theorem dL_law_293 : decode cL_law 293 = .ok (.invokevirtual 48, 3) := by decide +kernel
theorem dL_law_296 : decode cL_law 296 = .ok (.istore 6, 2) := by decide +kernel
theorem dL_law_298 : decode cL_law 298 = .ok (.aload_n 2, 1) := by decide +kernel
theorem dL_law_299 : decode cL_law 299 = .ok (.invokevirtual 49, 3) := by decide +kernel
theorem dL_law_302 : decode cL_law 302 = .ok (.iload 5, 2) := by decide +kernel
theorem dL_law_304 : decode cL_law 304 = .ok (.if_icmp .eq 5, 3) := by decide +kernel
theorem dL_law_307 : decode cL_law 307 = .ok (.iconst 0, 1) := by decide +kernel
theorem dL_law_308 : decode cL_law 308 = .ok (.ireturn, 1) := by decide +kernel
theorem dL_law_309 : decode cL_law 309 = .ok (.iload 5, 2) := by decide +kernel
theorem dL_law_311 : decode cL_law 311 = .ok (.ifCond .ne 15, 3) := by decide +kernel
theorem dL_law_314 : decode cL_law 314 = .ok (.aload_n 3, 1) := by decide +kernel
theorem dL_law_315 : decode cL_law 315 = .ok (.iconst 0, 1) := by decide +kernel
theorem dL_law_316 : decode cL_law 316 = .ok (.laload, 1) := by decide +kernel
theorem dL_law_317 : decode cL_law 317 = .ok (.iload 6, 2) := by decide +kernel
theorem dL_law_319 : decode cL_law 319 = .ok (.i2l, 1) := by decide +kernel
theorem dL_law_320 : decode cL_law 320 = .ok (.lcmp, 1) := by decide +kernel
theorem dL_law_321 : decode cL_law 321 = .ok (.ifCond .eq 5, 3) := by decide +kernel
theorem dL_law_324 : decode cL_law 324 = .ok (.iconst 0, 1) := by decide +kernel
theorem dL_law_325 : decode cL_law 325 = .ok (.ireturn, 1) := by decide +kernel
theorem dL_law_326 : decode cL_law 326 = .ok (.goto 268, 3) := by decide +kernel
theorem dL_law_329 : decode cL_law 329 = .ok (.aload_n 1, 1) := by decide +kernel
theorem dL_law_330 : decode cL_law 330 = .ok (.aload_n 0, 1) := by decide +kernel
theorem dL_law_331 : decode cL_law 331 = .ok (.iload 4, 2) := by decide +kernel
theorem dL_law_333 : decode cL_law 333 = .ok (.iconst 1, 1) := by decide +kernel
theorem dL_law_334 : decode cL_law 334 = .ok (.iadd, 1) := by decide +kernel
theorem dL_law_335 : decode cL_law 335 = .ok (.iaload, 1) := by decide +kernel
theorem dL_law_336 : decode cL_law 336 = .ok (.invokevirtual 52, 3) := by decide +kernel
theorem dL_law_339 : decode cL_law 339 = .ok (.aload_n 2, 1) := by decide +kernel
theorem dL_law_340 : decode cL_law 340 = .ok (.aload_n 0, 1) := by decide +kernel
theorem dL_law_341 : decode cL_law 341 = .ok (.iload 4, 2) := by decide +kernel
theorem dL_law_343 : decode cL_law 343 = .ok (.iconst 1, 1) := by decide +kernel
theorem dL_law_344 : decode cL_law 344 = .ok (.iadd, 1) := by decide +kernel
theorem dL_law_345 : decode cL_law 345 = .ok (.iaload, 1) := by decide +kernel
theorem dL_law_346 : decode cL_law 346 = .ok (.invokevirtual 56, 3) := by decide +kernel
theorem dL_law_349 : decode cL_law 349 = .ok (.if_icmp .eq 245, 3) := by decide +kernel
theorem dL_law_352 : decode cL_law 352 = .ok (.iconst 0, 1) := by decide +kernel
theorem dL_law_353 : decode cL_law 353 = .ok (.ireturn, 1) := by decide +kernel
theorem dL_law_354 : decode cL_law 354 = .ok (.aload_n 1, 1) := by decide +kernel
theorem dL_law_355 : decode cL_law 355 = .ok (.invokevirtual 57, 3) := by decide +kernel
theorem dL_law_358 : decode cL_law 358 = .ok (.aload_n 2, 1) := by decide +kernel
theorem dL_law_359 : decode cL_law 359 = .ok (.invokevirtual 60, 3) := by decide +kernel
theorem dL_law_362 : decode cL_law 362 = .ok (.if_icmp .eq 232, 3) := by decide +kernel
theorem dL_law_365 : decode cL_law 365 = .ok (.iconst 0, 1) := by decide +kernel
theorem dL_law_366 : decode cL_law 366 = .ok (.ireturn, 1) := by decide +kernel
theorem dL_law_367 : decode cL_law 367 = .ok (.aload_n 1, 1) := by decide +kernel
theorem dL_law_368 : decode cL_law 368 = .ok (.aload_n 0, 1) := by decide +kernel
theorem dL_law_369 : decode cL_law 369 = .ok (.iload 4, 2) := by decide +kernel
theorem dL_law_371 : decode cL_law 371 = .ok (.iconst 1, 1) := by decide +kernel
theorem dL_law_372 : decode cL_law 372 = .ok (.iadd, 1) := by decide +kernel
theorem dL_law_373 : decode cL_law 373 = .ok (.iaload, 1) := by decide +kernel
theorem dL_law_374 : decode cL_law 374 = .ok (.invokevirtual 61, 3) := by decide +kernel
theorem dL_law_377 : decode cL_law 377 = .ok (.aload_n 2, 1) := by decide +kernel
theorem dL_law_378 : decode cL_law 378 = .ok (.aload_n 0, 1) := by decide +kernel
theorem dL_law_379 : decode cL_law 379 = .ok (.iload 4, 2) := by decide +kernel
theorem dL_law_381 : decode cL_law 381 = .ok (.iconst 1, 1) := by decide +kernel
theorem dL_law_382 : decode cL_law 382 = .ok (.iadd, 1) := by decide +kernel
theorem dL_law_383 : decode cL_law 383 = .ok (.iaload, 1) := by decide +kernel
theorem dL_law_384 : decode cL_law 384 = .ok (.invokevirtual 65, 3) := by decide +kernel
theorem dL_law_387 : decode cL_law 387 = .ok (.lcmp, 1) := by decide +kernel
theorem dL_law_388 : decode cL_law 388 = .ok (.ifCond .eq 206, 3) := by decide +kernel
theorem dL_law_391 : decode cL_law 391 = .ok (.iconst 0, 1) := by decide +kernel
theorem dL_law_392 : decode cL_law 392 = .ok (.ireturn, 1) := by decide +kernel
theorem dL_law_393 : decode cL_law 393 = .ok (.aload_n 1, 1) := by decide +kernel
theorem dL_law_394 : decode cL_law 394 = .ok (.aload_n 0, 1) := by decide +kernel
theorem dL_law_395 : decode cL_law 395 = .ok (.iload 4, 2) := by decide +kernel
theorem dL_law_397 : decode cL_law 397 = .ok (.iconst 1, 1) := by decide +kernel
theorem dL_law_398 : decode cL_law 398 = .ok (.iadd, 1) := by decide +kernel
theorem dL_law_399 : decode cL_law 399 = .ok (.iaload, 1) := by decide +kernel
theorem dL_law_400 : decode cL_law 400 = .ok (.aload_n 0, 1) := by decide +kernel
theorem dL_law_401 : decode cL_law 401 = .ok (.iload 4, 2) := by decide +kernel
theorem dL_law_403 : decode cL_law 403 = .ok (.iconst 2, 1) := by decide +kernel
theorem dL_law_404 : decode cL_law 404 = .ok (.iadd, 1) := by decide +kernel
theorem dL_law_405 : decode cL_law 405 = .ok (.iaload, 1) := by decide +kernel
theorem dL_law_406 : decode cL_law 406 = .ok (.aload_n 0, 1) := by decide +kernel
theorem dL_law_407 : decode cL_law 407 = .ok (.iload 4, 2) := by decide +kernel
theorem dL_law_409 : decode cL_law 409 = .ok (.iconst 3, 1) := by decide +kernel
theorem dL_law_410 : decode cL_law 410 = .ok (.iadd, 1) := by decide +kernel
theorem dL_law_411 : decode cL_law 411 = .ok (.iaload, 1) := by decide +kernel
theorem dL_law_412 : decode cL_law 412 = .ok (.aload_n 0, 1) := by decide +kernel
theorem dL_law_413 : decode cL_law 413 = .ok (.iload 4, 2) := by decide +kernel
theorem dL_law_415 : decode cL_law 415 = .ok (.iconst 4, 1) := by decide +kernel
theorem dL_law_416 : decode cL_law 416 = .ok (.iadd, 1) := by decide +kernel
theorem dL_law_417 : decode cL_law 417 = .ok (.iaload, 1) := by decide +kernel
theorem dL_law_418 : decode cL_law 418 = .ok (.invokevirtual 66, 3) := by decide +kernel
theorem dL_law_421 : decode cL_law 421 = .ok (.aload_n 2, 1) := by decide +kernel
theorem dL_law_422 : decode cL_law 422 = .ok (.aload_n 0, 1) := by decide +kernel
theorem dL_law_423 : decode cL_law 423 = .ok (.iload 4, 2) := by decide +kernel
theorem dL_law_425 : decode cL_law 425 = .ok (.iconst 1, 1) := by decide +kernel
theorem dL_law_426 : decode cL_law 426 = .ok (.iadd, 1) := by decide +kernel
theorem dL_law_427 : decode cL_law 427 = .ok (.iaload, 1) := by decide +kernel
theorem dL_law_428 : decode cL_law 428 = .ok (.aload_n 0, 1) := by decide +kernel
theorem dL_law_429 : decode cL_law 429 = .ok (.iload 4, 2) := by decide +kernel
theorem dL_law_431 : decode cL_law 431 = .ok (.iconst 2, 1) := by decide +kernel
theorem dL_law_432 : decode cL_law 432 = .ok (.iadd, 1) := by decide +kernel
theorem dL_law_433 : decode cL_law 433 = .ok (.iaload, 1) := by decide +kernel
theorem dL_law_434 : decode cL_law 434 = .ok (.aload_n 0, 1) := by decide +kernel
theorem dL_law_435 : decode cL_law 435 = .ok (.iload 4, 2) := by decide +kernel
theorem dL_law_437 : decode cL_law 437 = .ok (.iconst 3, 1) := by decide +kernel
theorem dL_law_438 : decode cL_law 438 = .ok (.iadd, 1) := by decide +kernel
theorem dL_law_439 : decode cL_law 439 = .ok (.iaload, 1) := by decide +kernel
theorem dL_law_440 : decode cL_law 440 = .ok (.aload_n 0, 1) := by decide +kernel
theorem dL_law_441 : decode cL_law 441 = .ok (.iload 4, 2) := by decide +kernel
theorem dL_law_443 : decode cL_law 443 = .ok (.iconst 4, 1) := by decide +kernel
theorem dL_law_444 : decode cL_law 444 = .ok (.iadd, 1) := by decide +kernel
theorem dL_law_445 : decode cL_law 445 = .ok (.iaload, 1) := by decide +kernel
theorem dL_law_446 : decode cL_law 446 = .ok (.invokevirtual 70, 3) := by decide +kernel
theorem dL_law_449 : decode cL_law 449 = .ok (.lcmp, 1) := by decide +kernel
theorem dL_law_450 : decode cL_law 450 = .ok (.ifCond .eq 144, 3) := by decide +kernel
theorem dL_law_453 : decode cL_law 453 = .ok (.iconst 0, 1) := by decide +kernel
theorem dL_law_454 : decode cL_law 454 = .ok (.ireturn, 1) := by decide +kernel
theorem dL_law_455 : decode cL_law 455 = .ok (.aload_n 1, 1) := by decide +kernel
theorem dL_law_456 : decode cL_law 456 = .ok (.invokevirtual 71, 3) := by decide +kernel
theorem dL_law_459 : decode cL_law 459 = .ok (.aload_n 2, 1) := by decide +kernel
theorem dL_law_460 : decode cL_law 460 = .ok (.invokevirtual 74, 3) := by decide +kernel
theorem dL_law_463 : decode cL_law 463 = .ok (.if_icmp .eq 131, 3) := by decide +kernel
theorem dL_law_466 : decode cL_law 466 = .ok (.iconst 0, 1) := by decide +kernel
theorem dL_law_467 : decode cL_law 467 = .ok (.ireturn, 1) := by decide +kernel
theorem dL_law_468 : decode cL_law 468 = .ok (.aload_n 1, 1) := by decide +kernel
theorem dL_law_469 : decode cL_law 469 = .ok (.invokevirtual 75, 3) := by decide +kernel
theorem dL_law_472 : decode cL_law 472 = .ok (.aload_n 2, 1) := by decide +kernel
theorem dL_law_473 : decode cL_law 473 = .ok (.invokevirtual 78, 3) := by decide +kernel
theorem dL_law_476 : decode cL_law 476 = .ok (.if_icmp .eq 118, 3) := by decide +kernel
theorem dL_law_479 : decode cL_law 479 = .ok (.iconst 0, 1) := by decide +kernel
theorem dL_law_480 : decode cL_law 480 = .ok (.ireturn, 1) := by decide +kernel
theorem dL_law_481 : decode cL_law 481 = .ok (.aload_n 1, 1) := by decide +kernel
theorem dL_law_482 : decode cL_law 482 = .ok (.invokevirtual 79, 3) := by decide +kernel
theorem dL_law_485 : decode cL_law 485 = .ok (.aload_n 2, 1) := by decide +kernel
theorem dL_law_486 : decode cL_law 486 = .ok (.invokevirtual 82, 3) := by decide +kernel
theorem dL_law_489 : decode cL_law 489 = .ok (.if_icmp .eq 105, 3) := by decide +kernel
theorem dL_law_492 : decode cL_law 492 = .ok (.iconst 0, 1) := by decide +kernel
theorem dL_law_493 : decode cL_law 493 = .ok (.ireturn, 1) := by decide +kernel
theorem dL_law_494 : decode cL_law 494 = .ok (.aload_n 1, 1) := by decide +kernel
theorem dL_law_495 : decode cL_law 495 = .ok (.aload_n 0, 1) := by decide +kernel
theorem dL_law_496 : decode cL_law 496 = .ok (.iload 4, 2) := by decide +kernel
theorem dL_law_498 : decode cL_law 498 = .ok (.iconst 1, 1) := by decide +kernel
theorem dL_law_499 : decode cL_law 499 = .ok (.iadd, 1) := by decide +kernel
theorem dL_law_500 : decode cL_law 500 = .ok (.iaload, 1) := by decide +kernel
theorem dL_law_501 : decode cL_law 501 = .ok (.invokevirtual 83, 3) := by decide +kernel
theorem dL_law_504 : decode cL_law 504 = .ok (.aload_n 2, 1) := by decide +kernel
theorem dL_law_505 : decode cL_law 505 = .ok (.aload_n 0, 1) := by decide +kernel
theorem dL_law_506 : decode cL_law 506 = .ok (.iload 4, 2) := by decide +kernel
theorem dL_law_508 : decode cL_law 508 = .ok (.iconst 1, 1) := by decide +kernel
theorem dL_law_509 : decode cL_law 509 = .ok (.iadd, 1) := by decide +kernel
theorem dL_law_510 : decode cL_law 510 = .ok (.iaload, 1) := by decide +kernel
theorem dL_law_511 : decode cL_law 511 = .ok (.invokevirtual 86, 3) := by decide +kernel
theorem dL_law_514 : decode cL_law 514 = .ok (.if_icmp .eq 80, 3) := by decide +kernel
theorem dL_law_517 : decode cL_law 517 = .ok (.iconst 0, 1) := by decide +kernel
theorem dL_law_518 : decode cL_law 518 = .ok (.ireturn, 1) := by decide +kernel
theorem dL_law_519 : decode cL_law 519 = .ok (.aload_n 1, 1) := by decide +kernel
theorem dL_law_520 : decode cL_law 520 = .ok (.aload_n 0, 1) := by decide +kernel
theorem dL_law_521 : decode cL_law 521 = .ok (.iload 4, 2) := by decide +kernel
theorem dL_law_523 : decode cL_law 523 = .ok (.iconst 1, 1) := by decide +kernel
theorem dL_law_524 : decode cL_law 524 = .ok (.iadd, 1) := by decide +kernel
theorem dL_law_525 : decode cL_law 525 = .ok (.iaload, 1) := by decide +kernel
theorem dL_law_526 : decode cL_law 526 = .ok (.aload_n 0, 1) := by decide +kernel
theorem dL_law_527 : decode cL_law 527 = .ok (.iload 4, 2) := by decide +kernel
theorem dL_law_529 : decode cL_law 529 = .ok (.iconst 2, 1) := by decide +kernel
theorem dL_law_530 : decode cL_law 530 = .ok (.iadd, 1) := by decide +kernel
theorem dL_law_531 : decode cL_law 531 = .ok (.iaload, 1) := by decide +kernel
theorem dL_law_532 : decode cL_law 532 = .ok (.invokevirtual 87, 3) := by decide +kernel
theorem dL_law_535 : decode cL_law 535 = .ok (.aload_n 2, 1) := by decide +kernel
theorem dL_law_536 : decode cL_law 536 = .ok (.aload_n 0, 1) := by decide +kernel
theorem dL_law_537 : decode cL_law 537 = .ok (.iload 4, 2) := by decide +kernel
theorem dL_law_539 : decode cL_law 539 = .ok (.iconst 1, 1) := by decide +kernel
theorem dL_law_540 : decode cL_law 540 = .ok (.iadd, 1) := by decide +kernel
theorem dL_law_541 : decode cL_law 541 = .ok (.iaload, 1) := by decide +kernel
theorem dL_law_542 : decode cL_law 542 = .ok (.aload_n 0, 1) := by decide +kernel
theorem dL_law_543 : decode cL_law 543 = .ok (.iload 4, 2) := by decide +kernel
theorem dL_law_545 : decode cL_law 545 = .ok (.iconst 2, 1) := by decide +kernel
theorem dL_law_546 : decode cL_law 546 = .ok (.iadd, 1) := by decide +kernel
theorem dL_law_547 : decode cL_law 547 = .ok (.iaload, 1) := by decide +kernel
theorem dL_law_548 : decode cL_law 548 = .ok (.invokevirtual 91, 3) := by decide +kernel
theorem dL_law_551 : decode cL_law 551 = .ok (.if_icmp .eq 43, 3) := by decide +kernel
theorem dL_law_554 : decode cL_law 554 = .ok (.iconst 0, 1) := by decide +kernel
theorem dL_law_555 : decode cL_law 555 = .ok (.ireturn, 1) := by decide +kernel
theorem dL_law_556 : decode cL_law 556 = .ok (.aload_n 1, 1) := by decide +kernel
theorem dL_law_557 : decode cL_law 557 = .ok (.invokevirtual 92, 3) := by decide +kernel
theorem dL_law_560 : decode cL_law 560 = .ok (.aload_n 2, 1) := by decide +kernel
theorem dL_law_561 : decode cL_law 561 = .ok (.invokevirtual 95, 3) := by decide +kernel
theorem dL_law_564 : decode cL_law 564 = .ok (.if_icmp .eq 30, 3) := by decide +kernel
theorem dL_law_567 : decode cL_law 567 = .ok (.iconst 0, 1) := by decide +kernel
theorem dL_law_568 : decode cL_law 568 = .ok (.ireturn, 1) := by decide +kernel
theorem dL_law_569 : decode cL_law 569 = .ok (.aload_n 1, 1) := by decide +kernel
theorem dL_law_570 : decode cL_law 570 = .ok (.aload_n 0, 1) := by decide +kernel
theorem dL_law_571 : decode cL_law 571 = .ok (.iload 4, 2) := by decide +kernel
theorem dL_law_573 : decode cL_law 573 = .ok (.iconst 1, 1) := by decide +kernel
theorem dL_law_574 : decode cL_law 574 = .ok (.iadd, 1) := by decide +kernel
theorem dL_law_575 : decode cL_law 575 = .ok (.iaload, 1) := by decide +kernel
theorem dL_law_576 : decode cL_law 576 = .ok (.invokevirtual 96, 3) := by decide +kernel
theorem dL_law_579 : decode cL_law 579 = .ok (.aload_n 2, 1) := by decide +kernel
theorem dL_law_580 : decode cL_law 580 = .ok (.aload_n 0, 1) := by decide +kernel
theorem dL_law_581 : decode cL_law 581 = .ok (.iload 4, 2) := by decide +kernel
theorem dL_law_583 : decode cL_law 583 = .ok (.iconst 1, 1) := by decide +kernel
theorem dL_law_584 : decode cL_law 584 = .ok (.iadd, 1) := by decide +kernel
theorem dL_law_585 : decode cL_law 585 = .ok (.iaload, 1) := by decide +kernel
theorem dL_law_586 : decode cL_law 586 = .ok (.invokevirtual 99, 3) := by decide +kernel
theorem dL_law_589 : decode cL_law 589 = .ok (.if_icmp .eq 5, 3) := by decide +kernel
theorem dL_law_592 : decode cL_law 592 = .ok (.iconst 0, 1) := by decide +kernel
theorem dL_law_593 : decode cL_law 593 = .ok (.ireturn, 1) := by decide +kernel
theorem dL_law_594 : decode cL_law 594 = .ok (.iinc 4 6, 3) := by decide +kernel
theorem dL_law_597 : decode cL_law 597 = .ok (.goto (-574), 3) := by decide +kernel
theorem dL_law_600 : decode cL_law 600 = .ok (.iconst 1, 1) := by decide +kernel
theorem dL_law_601 : decode cL_law 601 = .ok (.ireturn, 1) := by decide +kernel
