theorem dX0_childrenOf_44 : decode cX0_childrenOf 44 = .ok (.goto (-40), 3) := by decide +kernel
theorem dX0_childrenOf_47 : decode cX0_childrenOf 47 = .ok (.iload_n 2, 1) := by decide +kernel
theorem dX0_childrenOf_48 : decode cX0_childrenOf 48 = .ok (.ireturn, 1) := by decide +kernel
set_option maxRecDepth 20000 in
theorem ggX0_choose_X0_bestCandidate : GoodIn wsX0_choose wsX0_bestCandidate := goodIn_r _ [7, 8, 9, 10, 6, 11, 12, 13, 14, 15, 16, 17, 18, 19, 20, 21, 22, 23, 24, 25, 26, 27, 28, 29, 30, 31, 32, 33, 34, 35, 36, 65, 66, 67, 68, 69, 70, 71, 72, 73, 74, 75, 76, 77, 78, 79, 80, 81, 82, 83, 84] (by decide +kernel) (by decide +kernel)
set_option maxRecDepth 20000 in
theorem gX0_choose_X0_bestCandidate : GoodIn wsX0_choose (wsV RX0 153 RX0 yX0_bestCandidate wsX0_bestCandidate) := goodIn_app (goodIn_of _ (by decide +kernel)) ggX0_choose_X0_bestCandidate
set_option maxRecDepth 20000 in
theorem ggX0_choose_X0_isNode : GoodIn wsX0_choose wsX0_isNode := goodIn_r _ [39] (by decide +kernel) (by decide +kernel)
set_option maxRecDepth 20000 in
theorem gX0_choose_X0_isNode : GoodIn wsX0_choose (va_wsS RX0 121 yX0_isNode wsX0_isNode) := goodIn_app (goodIn_of _ (by decide +kernel)) ggX0_choose_X0_isNode
set_option maxRecDepth 20000 in
theorem ggX0_choose_X0_loseParent : GoodIn wsX0_choose wsX0_loseParent := goodIn_r _ [43, 30, 2, 44, 45, 46, 6, 47, 48, 49, 50, 51, 65, 66, 67, 68, 69, 70, 71, 72, 73, 74, 75, 76, 77, 78, 79, 80, 81, 82, 83, 84] (by decide +kernel) (by decide +kernel)
set_option maxRecDepth 20000 in
theorem gX0_choose_X0_loseParent : GoodIn wsX0_choose (wsV RX0 156 RX0 yX0_loseParent wsX0_loseParent) := goodIn_app (goodIn_of _ (by decide +kernel)) ggX0_choose_X0_loseParent
set_option maxRecDepth 20000 in
theorem ggX0_choose_X0_keepsParent : GoodIn wsX0_choose wsX0_keepsParent := goodIn_r _ [55, 2, 56, 37, 38, 6, 39, 14, 15, 16, 17, 12, 8, 9, 10, 11, 13, 18, 19, 20, 21, 22, 23, 24, 25, 26, 27, 28, 29, 30, 31, 32, 33, 34, 35, 36, 65, 66, 67, 68, 69, 70, 71, 72, 73, 74, 75, 76, 77, 78, 79, 80, 81, 82, 83, 84] (by decide +kernel) (by decide +kernel)
set_option maxRecDepth 20000 in
theorem gX0_choose_X0_keepsParent : GoodIn wsX0_choose (wsV RX0 159 RX0 yX0_keepsParent wsX0_keepsParent) := goodIn_app (goodIn_of _ (by decide +kernel)) ggX0_choose_X0_keepsParent
set_option maxRecDepth 20000 in
theorem ggX0_choose_X0_follow : GoodIn wsX0_choose wsX0_follow := goodIn_r _ [60, 30, 2, 31, 61, 62, 63, 64, 24, 22, 25, 23, 8, 9, 10, 6, 11, 12, 13, 33, 34, 35, 36, 44, 45, 46, 47, 48, 49, 50, 51, 65, 66, 67, 68, 69, 70, 71, 72, 73, 74, 75, 76, 77, 78, 79, 80, 81, 82, 83, 84] (by decide +kernel) (by decide +kernel)
set_option maxRecDepth 20000 in
theorem gX0_choose_X0_follow : GoodIn wsX0_choose (wsV RX0 163 RX0 yX0_follow wsX0_follow) := goodIn_app (goodIn_of _ (by decide +kernel)) ggX0_choose_X0_follow
theorem dX0_choose_0 : decode cX0_choose 0 = .ok (.aload_n 0, 1) := by decide +kernel
theorem dX0_choose_1 : decode cX0_choose 1 = .ok (.getfield 42, 3) := by decide +kernel
theorem dX0_choose_4 : decode cX0_choose 4 = .ok (.iload_n 1, 1) := by decide +kernel
theorem dX0_choose_5 : decode cX0_choose 5 = .ok (.baload, 1) := by decide +kernel
theorem dX0_choose_6 : decode cX0_choose 6 = .ok (.ifCond .eq 4, 3) := by decide +kernel
theorem dX0_choose_9 : decode cX0_choose 9 = .ok (.return_, 1) := by decide +kernel
theorem dX0_choose_10 : decode cX0_choose 10 = .ok (.aload_n 0, 1) := by decide +kernel
theorem dX0_choose_11 : decode cX0_choose 11 = .ok (.iload_n 1, 1) := by decide +kernel
theorem dX0_choose_12 : decode cX0_choose 12 = .ok (.invokevirtual 153, 3) := by decide +kernel
theorem dX0_choose_15 : decode cX0_choose 15 = .ok (.istore_n 2, 1) := by decide +kernel
theorem dX0_choose_16 : decode cX0_choose 16 = .ok (.iload_n 2, 1) := by decide +kernel
theorem dX0_choose_17 : decode cX0_choose 17 = .ok (.invokestatic 121, 3) := by decide +kernel
theorem dX0_choose_20 : decode cX0_choose 20 = .ok (.ifCond .ne 11, 3) := by decide +kernel
theorem dX0_choose_23 : decode cX0_choose 23 = .ok (.aload_n 0, 1) := by decide +kernel
theorem dX0_choose_24 : decode cX0_choose 24 = .ok (.iload_n 1, 1) := by decide +kernel
theorem dX0_choose_25 : decode cX0_choose 25 = .ok (.invokevirtual 156, 3) := by decide +kernel
theorem dX0_choose_28 : decode cX0_choose 28 = .ok (.goto 32, 3) := by decide +kernel
theorem dX0_choose_31 : decode cX0_choose 31 = .ok (.aload_n 0, 1) := by decide +kernel
theorem dX0_choose_32 : decode cX0_choose 32 = .ok (.iload_n 1, 1) := by decide +kernel
theorem dX0_choose_33 : decode cX0_choose 33 = .ok (.iload_n 2, 1) := by decide +kernel
theorem dX0_choose_34 : decode cX0_choose 34 = .ok (.invokevirtual 159, 3) := by decide +kernel
theorem dX0_choose_37 : decode cX0_choose 37 = .ok (.ifCond .eq 17, 3) := by decide +kernel
theorem dX0_choose_40 : decode cX0_choose 40 = .ok (.aload_n 0, 1) := by decide +kernel
theorem dX0_choose_41 : decode cX0_choose 41 = .ok (.iload_n 1, 1) := by decide +kernel
theorem dX0_choose_42 : decode cX0_choose 42 = .ok (.aload_n 0, 1) := by decide +kernel
theorem dX0_choose_43 : decode cX0_choose 43 = .ok (.getfield 62, 3) := by decide +kernel
theorem dX0_choose_46 : decode cX0_choose 46 = .ok (.iload_n 1, 1) := by decide +kernel
theorem dX0_choose_47 : decode cX0_choose 47 = .ok (.iaload, 1) := by decide +kernel
theorem dX0_choose_48 : decode cX0_choose 48 = .ok (.invokevirtual 163, 3) := by decide +kernel
theorem dX0_choose_51 : decode cX0_choose 51 = .ok (.goto 9, 3) := by decide +kernel
theorem dX0_choose_54 : decode cX0_choose 54 = .ok (.aload_n 0, 1) := by decide +kernel
theorem dX0_choose_55 : decode cX0_choose 55 = .ok (.iload_n 1, 1) := by decide +kernel
theorem dX0_choose_56 : decode cX0_choose 56 = .ok (.iload_n 2, 1) := by decide +kernel
theorem dX0_choose_57 : decode cX0_choose 57 = .ok (.invokevirtual 163, 3) := by decide +kernel
theorem dX0_choose_60 : decode cX0_choose 60 = .ok (.return_, 1) := by decide +kernel
set_option maxRecDepth 20000 in
theorem ggX0_keepsParent_X0_isNode : GoodIn wsX0_keepsParent wsX0_isNode := goodIn_r _ [6] (by decide +kernel) (by decide +kernel)
set_option maxRecDepth 20000 in
theorem gX0_keepsParent_X0_isNode : GoodIn wsX0_keepsParent (va_wsS RX0 121 yX0_isNode wsX0_isNode) := goodIn_app (goodIn_of _ (by decide +kernel)) ggX0_keepsParent_X0_isNode
set_option maxRecDepth 20000 in
theorem ggX0_keepsParent_X0_isCandidate : GoodIn wsX0_keepsParent wsX0_isCandidate := goodIn_r _ [10, 11, 12, 13, 14, 5, 15, 16, 17, 18, 19, 20, 21, 22, 23, 24, 25, 26, 27, 28, 29, 30, 31, 32, 33, 34, 35, 36, 37, 38, 39, 40, 41, 42, 43, 44, 45, 46, 47, 48, 49, 50, 51, 52, 53, 54, 55] (by decide +kernel) (by decide +kernel)
set_option maxRecDepth 20000 in
theorem gX0_keepsParent_X0_isCandidate : GoodIn wsX0_keepsParent (wsV RX0 166 RX0 yX0_isCandidate wsX0_isCandidate) := goodIn_app (goodIn_of _ (by decide +kernel)) ggX0_keepsParent_X0_isCandidate
set_option maxRecDepth 20000 in
theorem ggX0_keepsParent_X0_rankBy : GoodIn wsX0_keepsParent wsX0_rankBy := goodIn_r _ [15, 11, 16, 36, 37, 38, 39, 40, 41, 42, 43, 44, 45, 46, 47, 48, 49, 50, 51, 52, 53, 54, 55] (by decide +kernel) (by decide +kernel)
set_option maxRecDepth 20000 in
theorem gX0_keepsParent_X0_rankBy : GoodIn wsX0_keepsParent (wsV RX0 169 RX0 yX0_rankBy wsX0_rankBy) := goodIn_app (goodIn_of _ (by decide +kernel)) ggX0_keepsParent_X0_rankBy
theorem dX0_keepsParent_0 : decode cX0_keepsParent 0 = .ok (.aload_n 0, 1) := by decide +kernel
theorem dX0_keepsParent_1 : decode cX0_keepsParent 1 = .ok (.getfield 62, 3) := by decide +kernel
theorem dX0_keepsParent_4 : decode cX0_keepsParent 4 = .ok (.iload_n 1, 1) := by decide +kernel
theorem dX0_keepsParent_5 : decode cX0_keepsParent 5 = .ok (.iaload, 1) := by decide +kernel
theorem dX0_keepsParent_6 : decode cX0_keepsParent 6 = .ok (.istore_n 3, 1) := by decide +kernel
theorem dX0_keepsParent_7 : decode cX0_keepsParent 7 = .ok (.iload_n 3, 1) := by decide +kernel
theorem dX0_keepsParent_8 : decode cX0_keepsParent 8 = .ok (.invokestatic 121, 3) := by decide +kernel
theorem dX0_keepsParent_11 : decode cX0_keepsParent 11 = .ok (.ifCond .eq 12, 3) := by decide +kernel
theorem dX0_keepsParent_14 : decode cX0_keepsParent 14 = .ok (.aload_n 0, 1) := by decide +kernel
theorem dX0_keepsParent_15 : decode cX0_keepsParent 15 = .ok (.iload_n 1, 1) := by decide +kernel
theorem dX0_keepsParent_16 : decode cX0_keepsParent 16 = .ok (.iload_n 3, 1) := by decide +kernel
theorem dX0_keepsParent_17 : decode cX0_keepsParent 17 = .ok (.invokevirtual 166, 3) := by decide +kernel
theorem dX0_keepsParent_20 : decode cX0_keepsParent 20 = .ok (.ifCond .ne 5, 3) := by decide +kernel
theorem dX0_keepsParent_23 : decode cX0_keepsParent 23 = .ok (.iconst 0, 1) := by decide +kernel
theorem dX0_keepsParent_24 : decode cX0_keepsParent 24 = .ok (.ireturn, 1) := by decide +kernel
theorem dX0_keepsParent_25 : decode cX0_keepsParent 25 = .ok (.aload_n 0, 1) := by decide +kernel
theorem dX0_keepsParent_26 : decode cX0_keepsParent 26 = .ok (.iload_n 1, 1) := by decide +kernel
theorem dX0_keepsParent_27 : decode cX0_keepsParent 27 = .ok (.iload_n 3, 1) := by decide +kernel
theorem dX0_keepsParent_28 : decode cX0_keepsParent 28 = .ok (.invokevirtual 169, 3) := by decide +kernel
theorem dX0_keepsParent_31 : decode cX0_keepsParent 31 = .ok (.aload_n 0, 1) := by decide +kernel
theorem dX0_keepsParent_32 : decode cX0_keepsParent 32 = .ok (.iload_n 1, 1) := by decide +kernel
theorem dX0_keepsParent_33 : decode cX0_keepsParent 33 = .ok (.iload_n 2, 1) := by decide +kernel
theorem dX0_keepsParent_34 : decode cX0_keepsParent 34 = .ok (.invokevirtual 169, 3) := by decide +kernel
theorem dX0_keepsParent_37 : decode cX0_keepsParent 37 = .ok (.isub, 1) := by decide +kernel
theorem dX0_keepsParent_38 : decode cX0_keepsParent 38 = .ok (.istore 4, 2) := by decide +kernel
theorem dX0_keepsParent_40 : decode cX0_keepsParent 40 = .ok (.iload 4, 2) := by decide +kernel
theorem dX0_keepsParent_42 : decode cX0_keepsParent 42 = .ok (.aload_n 0, 1) := by decide +kernel
theorem dX0_keepsParent_43 : decode cX0_keepsParent 43 = .ok (.getfield 9, 3) := by decide +kernel
theorem dX0_keepsParent_46 : decode cX0_keepsParent 46 = .ok (.if_icmp .lt 9, 3) := by decide +kernel
theorem dX0_keepsParent_49 : decode cX0_keepsParent 49 = .ok (.iload 4, 2) := by decide +kernel
theorem dX0_keepsParent_51 : decode cX0_keepsParent 51 = .ok (.iconst 1, 1) := by decide +kernel
theorem dX0_keepsParent_52 : decode cX0_keepsParent 52 = .ok (.if_icmp .ge 7, 3) := by decide +kernel
theorem dX0_keepsParent_55 : decode cX0_keepsParent 55 = .ok (.iconst 1, 1) := by decide +kernel
theorem dX0_keepsParent_56 : decode cX0_keepsParent 56 = .ok (.goto 4, 3) := by decide +kernel
theorem dX0_keepsParent_59 : decode cX0_keepsParent 59 = .ok (.iconst 0, 1) := by decide +kernel
theorem dX0_keepsParent_60 : decode cX0_keepsParent 60 = .ok (.ireturn, 1) := by decide +kernel
set_option maxRecDepth 20000 in
theorem ggX0_bestCandidate_X0_rankBy : GoodIn wsX0_bestCandidate wsX0_rankBy := goodIn_r _ [5, 6, 7, 31, 32, 33, 34, 35, 36, 37, 38, 39, 40, 41, 42, 43, 44, 45, 46, 47, 48, 49, 50] (by decide +kernel) (by decide +kernel)
set_option maxRecDepth 20000 in
theorem gX0_bestCandidate_X0_rankBy : GoodIn wsX0_bestCandidate (wsV RX0 169 RX0 yX0_rankBy wsX0_rankBy) := goodIn_app (goodIn_of _ (by decide +kernel)) ggX0_bestCandidate_X0_rankBy
set_option maxRecDepth 20000 in
theorem ggX0_bestCandidate_X0_isCandidate : GoodIn wsX0_bestCandidate wsX0_isCandidate := goodIn_r _ [11, 6, 1, 2, 3, 4, 5, 7, 12, 13, 14, 15, 16, 17, 18, 19, 20, 21, 22, 23, 24, 25, 26, 27, 28, 29, 30, 31, 32, 33, 34, 35, 36, 37, 38, 39, 40, 41, 42, 43, 44, 45, 46, 47, 48, 49, 50] (by decide +kernel) (by decide +kernel)
set_option maxRecDepth 20000 in
theorem gX0_bestCandidate_X0_isCandidate : GoodIn wsX0_bestCandidate (wsV RX0 166 RX0 yX0_isCandidate wsX0_isCandidate) := goodIn_app (goodIn_of _ (by decide +kernel)) ggX0_bestCandidate_X0_isCandidate
theorem dX0_bestCandidate_0 : decode cX0_bestCandidate 0 = .ok (.iconst (-1), 1) := by decide +kernel
theorem dX0_bestCandidate_1 : decode cX0_bestCandidate 1 = .ok (.istore_n 2, 1) := by decide +kernel
theorem dX0_bestCandidate_2 : decode cX0_bestCandidate 2 = .ok (.sipush 10000, 3) := by decide +kernel
theorem dX0_bestCandidate_5 : decode cX0_bestCandidate 5 = .ok (.istore_n 3, 1) := by decide +kernel
theorem dX0_bestCandidate_6 : decode cX0_bestCandidate 6 = .ok (.iconst 0, 1) := by decide +kernel
theorem dX0_bestCandidate_7 : decode cX0_bestCandidate 7 = .ok (.istore 4, 2) := by decide +kernel
theorem dX0_bestCandidate_9 : decode cX0_bestCandidate 9 = .ok (.iload 4, 2) := by decide +kernel
theorem dX0_bestCandidate_11 : decode cX0_bestCandidate 11 = .ok (.bipush 10, 2) := by decide +kernel
theorem dX0_bestCandidate_13 : decode cX0_bestCandidate 13 = .ok (.if_icmp .ge 40, 3) := by decide +kernel
theorem dX0_bestCandidate_16 : decode cX0_bestCandidate 16 = .ok (.aload_n 0, 1) := by decide +kernel
theorem dX0_bestCandidate_17 : decode cX0_bestCandidate 17 = .ok (.iload_n 1, 1) := by decide +kernel
theorem dX0_bestCandidate_18 : decode cX0_bestCandidate 18 = .ok (.iload 4, 2) := by decide +kernel
theorem dX0_bestCandidate_20 : decode cX0_bestCandidate 20 = .ok (.invokevirtual 169, 3) := by decide +kernel
theorem dX0_bestCandidate_23 : decode cX0_bestCandidate 23 = .ok (.istore 5, 2) := by decide +kernel
theorem dX0_bestCandidate_25 : decode cX0_bestCandidate 25 = .ok (.iload 5, 2) := by decide +kernel
theorem dX0_bestCandidate_27 : decode cX0_bestCandidate 27 = .ok (.iload_n 3, 1) := by decide +kernel
theorem dX0_bestCandidate_28 : decode cX0_bestCandidate 28 = .ok (.if_icmp .ge 19, 3) := by decide +kernel
theorem dX0_bestCandidate_31 : decode cX0_bestCandidate 31 = .ok (.aload_n 0, 1) := by decide +kernel
theorem dX0_bestCandidate_32 : decode cX0_bestCandidate 32 = .ok (.iload_n 1, 1) := by decide +kernel
theorem dX0_bestCandidate_33 : decode cX0_bestCandidate 33 = .ok (.iload 4, 2) := by decide +kernel
theorem dX0_bestCandidate_35 : decode cX0_bestCandidate 35 = .ok (.invokevirtual 166, 3) := by decide +kernel
theorem dX0_bestCandidate_38 : decode cX0_bestCandidate 38 = .ok (.ifCond .eq 9, 3) := by decide +kernel
theorem dX0_bestCandidate_41 : decode cX0_bestCandidate 41 = .ok (.iload 4, 2) := by decide +kernel
theorem dX0_bestCandidate_43 : decode cX0_bestCandidate 43 = .ok (.istore_n 2, 1) := by decide +kernel
theorem dX0_bestCandidate_44 : decode cX0_bestCandidate 44 = .ok (.iload 5, 2) := by decide +kernel
theorem dX0_bestCandidate_46 : decode cX0_bestCandidate 46 = .ok (.istore_n 3, 1) := by decide +kernel
theorem dX0_bestCandidate_47 : decode cX0_bestCandidate 47 = .ok (.iinc 4 1, 3) := by decide +kernel
theorem dX0_bestCandidate_50 : decode cX0_bestCandidate 50 = .ok (.goto (-41), 3) := by decide +kernel
theorem dX0_bestCandidate_53 : decode cX0_bestCandidate 53 = .ok (.iload_n 2, 1) := by decide +kernel
theorem dX0_bestCandidate_54 : decode cX0_bestCandidate 54 = .ok (.ireturn, 1) := by decide +kernel
set_option maxRecDepth 20000 in
theorem ggX0_isCandidate_X0_rankBy : GoodIn wsX0_isCandidate wsX0_rankBy := goodIn_r _ [6, 1, 7, 27, 28, 29, 30, 31, 32, 33, 34, 35, 36, 37, 38, 39, 40, 41, 42, 43, 44, 45, 46] (by decide +kernel) (by decide +kernel)
set_option maxRecDepth 20000 in
theorem gX0_isCandidate_X0_rankBy : GoodIn wsX0_isCandidate (wsV RX0 169 RX0 yX0_rankBy wsX0_rankBy) := goodIn_app (goodIn_of _ (by decide +kernel)) ggX0_isCandidate_X0_rankBy
set_option maxRecDepth 20000 in
theorem ggX0_isCandidate_X0_isOutdated : GoodIn wsX0_isCandidate wsX0_isOutdated := goodIn_r _ [11, 12, 13, 14, 15, 27, 28, 29, 30, 31, 32, 33, 34, 35, 36, 37, 38, 39, 40, 41, 42, 43, 44, 45, 46] (by decide +kernel) (by decide +kernel)
set_option maxRecDepth 20000 in
theorem gX0_isCandidate_X0_isOutdated : GoodIn wsX0_isCandidate (wsV RX0 172 RX0 yX0_isOutdated wsX0_isOutdated) := goodIn_app (goodIn_of _ (by decide +kernel)) ggX0_isCandidate_X0_isOutdated
set_option maxRecDepth 20000 in
theorem ggX0_isCandidate_X0_isTooDeep : GoodIn wsX0_isCandidate wsX0_isTooDeep := goodIn_r _ [19, 20, 1, 21, 22, 23, 24, 25, 5, 26, 12, 14, 13, 15, 2, 3, 4, 6, 7, 27, 28, 29, 30, 31, 32, 33, 34, 35, 36, 37, 38, 39, 40, 41, 42, 43, 44, 45, 46] (by decide +kernel) (by decide +kernel)
set_option maxRecDepth 20000 in
theorem gX0_isCandidate_X0_isTooDeep : GoodIn wsX0_isCandidate (wsV RX0 175 RX0 yX0_isTooDeep wsX0_isTooDeep) := goodIn_app (goodIn_of _ (by decide +kernel)) ggX0_isCandidate_X0_isTooDeep
theorem dX0_isCandidate_0 : decode cX0_isCandidate 0 = .ok (.aload_n 0, 1) := by decide +kernel
theorem dX0_isCandidate_1 : decode cX0_isCandidate 1 = .ok (.getfield 39, 3) := by decide +kernel
theorem dX0_isCandidate_4 : decode cX0_isCandidate 4 = .ok (.iload_n 1, 1) := by decide +kernel
theorem dX0_isCandidate_5 : decode cX0_isCandidate 5 = .ok (.aaload, 1) := by decide +kernel
theorem dX0_isCandidate_6 : decode cX0_isCandidate 6 = .ok (.iload_n 2, 1) := by decide +kernel
theorem dX0_isCandidate_7 : decode cX0_isCandidate 7 = .ok (.iaload, 1) := by decide +kernel
theorem dX0_isCandidate_8 : decode cX0_isCandidate 8 = .ok (.istore_n 3, 1) := by decide +kernel
theorem dX0_isCandidate_9 : decode cX0_isCandidate 9 = .ok (.iload_n 3, 1) := by decide +kernel
theorem dX0_isCandidate_10 : decode cX0_isCandidate 10 = .ok (.iconst (-1), 1) := by decide +kernel
theorem dX0_isCandidate_11 : decode cX0_isCandidate 11 = .ok (.if_icmp .eq 22, 3) := by decide +kernel
theorem dX0_isCandidate_14 : decode cX0_isCandidate 14 = .ok (.iload_n 3, 1) := by decide +kernel
theorem dX0_isCandidate_15 : decode cX0_isCandidate 15 = .ok (.sipush 10000, 3) := by decide +kernel
theorem dX0_isCandidate_18 : decode cX0_isCandidate 18 = .ok (.if_icmp .ge 15, 3) := by decide +kernel
theorem dX0_isCandidate_21 : decode cX0_isCandidate 21 = .ok (.aload_n 0, 1) := by decide +kernel
theorem dX0_isCandidate_22 : decode cX0_isCandidate 22 = .ok (.iload_n 1, 1) := by decide +kernel
theorem dX0_isCandidate_23 : decode cX0_isCandidate 23 = .ok (.iload_n 2, 1) := by decide +kernel
theorem dX0_isCandidate_24 : decode cX0_isCandidate 24 = .ok (.invokevirtual 169, 3) := by decide +kernel
theorem dX0_isCandidate_27 : decode cX0_isCandidate 27 = .ok (.sipush 10000, 3) := by decide +kernel
theorem dX0_isCandidate_30 : decode cX0_isCandidate 30 = .ok (.if_icmp .lt 5, 3) := by decide +kernel
theorem dX0_isCandidate_33 : decode cX0_isCandidate 33 = .ok (.iconst 0, 1) := by decide +kernel
theorem dX0_isCandidate_34 : decode cX0_isCandidate 34 = .ok (.ireturn, 1) := by decide +kernel
theorem dX0_isCandidate_35 : decode cX0_isCandidate 35 = .ok (.aload_n 0, 1) := by decide +kernel
theorem dX0_isCandidate_36 : decode cX0_isCandidate 36 = .ok (.iload_n 1, 1) := by decide +kernel
theorem dX0_isCandidate_37 : decode cX0_isCandidate 37 = .ok (.iload_n 2, 1) := by decide +kernel
theorem dX0_isCandidate_38 : decode cX0_isCandidate 38 = .ok (.invokevirtual 172, 3) := by decide +kernel
theorem dX0_isCandidate_41 : decode cX0_isCandidate 41 = .ok (.ifCond .ne 16, 3) := by decide +kernel
theorem dX0_isCandidate_44 : decode cX0_isCandidate 44 = .ok (.aload_n 0, 1) := by decide +kernel
theorem dX0_isCandidate_45 : decode cX0_isCandidate 45 = .ok (.iload_n 1, 1) := by decide +kernel
theorem dX0_isCandidate_46 : decode cX0_isCandidate 46 = .ok (.iload_n 2, 1) := by decide +kernel
theorem dX0_isCandidate_47 : decode cX0_isCandidate 47 = .ok (.invokevirtual 175, 3) := by decide +kernel
theorem dX0_isCandidate_50 : decode cX0_isCandidate 50 = .ok (.ifCond .ne 7, 3) := by decide +kernel
theorem dX0_isCandidate_53 : decode cX0_isCandidate 53 = .ok (.iconst 1, 1) := by decide +kernel
theorem dX0_isCandidate_54 : decode cX0_isCandidate 54 = .ok (.goto 4, 3) := by decide +kernel
theorem dX0_isCandidate_57 : decode cX0_isCandidate 57 = .ok (.iconst 0, 1) := by decide +kernel
theorem dX0_isCandidate_58 : decode cX0_isCandidate 58 = .ok (.ireturn, 1) := by decide +kernel
theorem dX0_rankBy_0 : decode cX0_rankBy 0 = .ok (.aload_n 0, 1) := by decide +kernel
theorem dX0_rankBy_1 : decode cX0_rankBy 1 = .ok (.getfield 39, 3) := by decide +kernel
theorem dX0_rankBy_4 : decode cX0_rankBy 4 = .ok (.iload_n 1, 1) := by decide +kernel
theorem dX0_rankBy_5 : decode cX0_rankBy 5 = .ok (.aaload, 1) := by decide +kernel
theorem dX0_rankBy_6 : decode cX0_rankBy 6 = .ok (.iload_n 2, 1) := by decide +kernel
theorem dX0_rankBy_7 : decode cX0_rankBy 7 = .ok (.iaload, 1) := by decide +kernel
theorem dX0_rankBy_8 : decode cX0_rankBy 8 = .ok (.aload_n 0, 1) := by decide +kernel
theorem dX0_rankBy_9 : decode cX0_rankBy 9 = .ok (.getfield 30, 3) := by decide +kernel
theorem dX0_rankBy_12 : decode cX0_rankBy 12 = .ok (.iload_n 1, 1) := by decide +kernel
theorem dX0_rankBy_13 : decode cX0_rankBy 13 = .ok (.aaload, 1) := by decide +kernel
theorem dX0_rankBy_14 : decode cX0_rankBy 14 = .ok (.iload_n 2, 1) := by decide +kernel
theorem dX0_rankBy_15 : decode cX0_rankBy 15 = .ok (.iaload, 1) := by decide +kernel
theorem dX0_rankBy_16 : decode cX0_rankBy 16 = .ok (.iadd, 1) := by decide +kernel
theorem dX0_rankBy_17 : decode cX0_rankBy 17 = .ok (.ireturn, 1) := by decide +kernel
theorem dX0_isOutdated_0 : decode cX0_isOutdated 0 = .ok (.aload_n 0, 1) := by decide +kernel
theorem dX0_isOutdated_1 : decode cX0_isOutdated 1 = .ok (.getfield 33, 3) := by decide +kernel
theorem dX0_isOutdated_4 : decode cX0_isOutdated 4 = .ok (.iload_n 1, 1) := by decide +kernel
theorem dX0_isOutdated_5 : decode cX0_isOutdated 5 = .ok (.aaload, 1) := by decide +kernel
theorem dX0_isOutdated_6 : decode cX0_isOutdated 6 = .ok (.iload_n 2, 1) := by decide +kernel
theorem dX0_isOutdated_7 : decode cX0_isOutdated 7 = .ok (.iaload, 1) := by decide +kernel
theorem dX0_isOutdated_8 : decode cX0_isOutdated 8 = .ok (.istore_n 3, 1) := by decide +kernel
theorem dX0_isOutdated_9 : decode cX0_isOutdated 9 = .ok (.aload_n 0, 1) := by decide +kernel
theorem dX0_isOutdated_10 : decode cX0_isOutdated 10 = .ok (.getfield 36, 3) := by decide +kernel
theorem dX0_isOutdated_13 : decode cX0_isOutdated 13 = .ok (.iload_n 1, 1) := by decide +kernel
theorem dX0_isOutdated_14 : decode cX0_isOutdated 14 = .ok (.aaload, 1) := by decide +kernel
theorem dX0_isOutdated_15 : decode cX0_isOutdated 15 = .ok (.iload_n 2, 1) := by decide +kernel
theorem dX0_isOutdated_16 : decode cX0_isOutdated 16 = .ok (.iaload, 1) := by decide +kernel
theorem dX0_isOutdated_17 : decode cX0_isOutdated 17 = .ok (.istore 4, 2) := by decide +kernel
theorem dX0_isOutdated_19 : decode cX0_isOutdated 19 = .ok (.aload_n 0, 1) := by decide +kernel
theorem dX0_isOutdated_20 : decode cX0_isOutdated 20 = .ok (.getfield 50, 3) := by decide +kernel
theorem dX0_isOutdated_23 : decode cX0_isOutdated 23 = .ok (.iload_n 1, 1) := by decide +kernel
theorem dX0_isOutdated_24 : decode cX0_isOutdated 24 = .ok (.iaload, 1) := by decide +kernel
theorem dX0_isOutdated_25 : decode cX0_isOutdated 25 = .ok (.iload_n 3, 1) := by decide +kernel
theorem dX0_isOutdated_26 : decode cX0_isOutdated 26 = .ok (.if_icmp .ne 16, 3) := by decide +kernel
theorem dX0_isOutdated_29 : decode cX0_isOutdated 29 = .ok (.aload_n 0, 1) := by decide +kernel
theorem dX0_isOutdated_30 : decode cX0_isOutdated 30 = .ok (.getfield 53, 3) := by decide +kernel
theorem dX0_isOutdated_33 : decode cX0_isOutdated 33 = .ok (.iload_n 1, 1) := by decide +kernel
theorem dX0_isOutdated_34 : decode cX0_isOutdated 34 = .ok (.iaload, 1) := by decide +kernel
theorem dX0_isOutdated_35 : decode cX0_isOutdated 35 = .ok (.iload 4, 2) := by decide +kernel
theorem dX0_isOutdated_37 : decode cX0_isOutdated 37 = .ok (.if_icmp .le 5, 3) := by decide +kernel
theorem dX0_isOutdated_40 : decode cX0_isOutdated 40 = .ok (.iconst 1, 1) := by decide +kernel
theorem dX0_isOutdated_41 : decode cX0_isOutdated 41 = .ok (.ireturn, 1) := by decide +kernel
theorem dX0_isOutdated_42 : decode cX0_isOutdated 42 = .ok (.iconst 0, 1) := by decide +kernel
theorem dX0_isOutdated_43 : decode cX0_isOutdated 43 = .ok (.istore 5, 2) := by decide +kernel
theorem dX0_isOutdated_45 : decode cX0_isOutdated 45 = .ok (.iload 5, 2) := by decide +kernel
theorem dX0_isOutdated_47 : decode cX0_isOutdated 47 = .ok (.bipush 10, 2) := by decide +kernel
theorem dX0_isOutdated_49 : decode cX0_isOutdated 49 = .ok (.if_icmp .ge 38, 3) := by decide +kernel
theorem dX0_isOutdated_52 : decode cX0_isOutdated 52 = .ok (.aload_n 0, 1) := by decide +kernel
theorem dX0_isOutdated_53 : decode cX0_isOutdated 53 = .ok (.getfield 33, 3) := by decide +kernel
theorem dX0_isOutdated_56 : decode cX0_isOutdated 56 = .ok (.iload_n 1, 1) := by decide +kernel
theorem dX0_isOutdated_57 : decode cX0_isOutdated 57 = .ok (.aaload, 1) := by decide +kernel
theorem dX0_isOutdated_58 : decode cX0_isOutdated 58 = .ok (.iload 5, 2) := by decide +kernel
theorem dX0_isOutdated_60 : decode cX0_isOutdated 60 = .ok (.iaload, 1) := by decide +kernel
theorem dX0_isOutdated_61 : decode cX0_isOutdated 61 = .ok (.iload_n 3, 1) := by decide +kernel
theorem dX0_isOutdated_62 : decode cX0_isOutdated 62 = .ok (.if_icmp .ne 19, 3) := by decide +kernel
theorem dX0_isOutdated_65 : decode cX0_isOutdated 65 = .ok (.aload_n 0, 1) := by decide +kernel
theorem dX0_isOutdated_66 : decode cX0_isOutdated 66 = .ok (.getfield 36, 3) := by decide +kernel
theorem dX0_isOutdated_69 : decode cX0_isOutdated 69 = .ok (.iload_n 1, 1) := by decide +kernel
theorem dX0_isOutdated_70 : decode cX0_isOutdated 70 = .ok (.aaload, 1) := by decide +kernel
theorem dX0_isOutdated_71 : decode cX0_isOutdated 71 = .ok (.iload 5, 2) := by decide +kernel
theorem dX0_isOutdated_73 : decode cX0_isOutdated 73 = .ok (.iaload, 1) := by decide +kernel
theorem dX0_isOutdated_74 : decode cX0_isOutdated 74 = .ok (.iload 4, 2) := by decide +kernel
theorem dX0_isOutdated_76 : decode cX0_isOutdated 76 = .ok (.if_icmp .le 5, 3) := by decide +kernel
theorem dX0_isOutdated_79 : decode cX0_isOutdated 79 = .ok (.iconst 1, 1) := by decide +kernel
theorem dX0_isOutdated_80 : decode cX0_isOutdated 80 = .ok (.ireturn, 1) := by decide +kernel
theorem dX0_isOutdated_81 : decode cX0_isOutdated 81 = .ok (.iinc 5 1, 3) := by decide +kernel
theorem dX0_isOutdated_84 : decode cX0_isOutdated 84 = .ok (.goto (-39), 3) := by decide +kernel
theorem dX0_isOutdated_87 : decode cX0_isOutdated 87 = .ok (.iconst 0, 1) := by decide +kernel
theorem dX0_isOutdated_88 : decode cX0_isOutdated 88 = .ok (.ireturn, 1) := by decide +kernel
set_option maxRecDepth 20000 in
theorem ggX0_isTooDeep_X0_heardOwnVersion : GoodIn wsX0_isTooDeep wsX0_heardOwnVersion := goodIn_r _ [9, 10, 11, 12, 13, 19, 20, 21, 22, 23, 24, 25, 26, 27, 28, 29, 30, 31, 32, 33, 34, 35, 36, 37, 38] (by decide +kernel) (by decide +kernel)
set_option maxRecDepth 20000 in
theorem gX0_isTooDeep_X0_heardOwnVersion : GoodIn wsX0_isTooDeep (wsV RX0 178 RX0 yX0_heardOwnVersion wsX0_heardOwnVersion) := goodIn_app (goodIn_of _ (by decide +kernel)) ggX0_isTooDeep_X0_heardOwnVersion
set_option maxRecDepth 20000 in
theorem ggX0_isTooDeep_X0_rankBy : GoodIn wsX0_isTooDeep wsX0_rankBy := goodIn_r _ [17, 2, 18, 19, 20, 21, 22, 23, 24, 25, 26, 27, 28, 29, 30, 31, 32, 33, 34, 35, 36, 37, 38] (by decide +kernel) (by decide +kernel)
set_option maxRecDepth 20000 in
theorem gX0_isTooDeep_X0_rankBy : GoodIn wsX0_isTooDeep (wsV RX0 169 RX0 yX0_rankBy wsX0_rankBy) := goodIn_app (goodIn_of _ (by decide +kernel)) ggX0_isTooDeep_X0_rankBy
theorem dX0_isTooDeep_0 : decode cX0_isTooDeep 0 = .ok (.aload_n 0, 1) := by decide +kernel
theorem dX0_isTooDeep_1 : decode cX0_isTooDeep 1 = .ok (.iload_n 1, 1) := by decide +kernel
theorem dX0_isTooDeep_2 : decode cX0_isTooDeep 2 = .ok (.iload_n 2, 1) := by decide +kernel
theorem dX0_isTooDeep_3 : decode cX0_isTooDeep 3 = .ok (.invokevirtual 178, 3) := by decide +kernel
theorem dX0_isTooDeep_6 : decode cX0_isTooDeep 6 = .ok (.ifCond .eq 15, 3) := by decide +kernel
theorem dX0_isTooDeep_9 : decode cX0_isTooDeep 9 = .ok (.aload_n 0, 1) := by decide +kernel
theorem dX0_isTooDeep_10 : decode cX0_isTooDeep 10 = .ok (.getfield 56, 3) := by decide +kernel
theorem dX0_isTooDeep_13 : decode cX0_isTooDeep 13 = .ok (.iload_n 1, 1) := by decide +kernel
theorem dX0_isTooDeep_14 : decode cX0_isTooDeep 14 = .ok (.iaload, 1) := by decide +kernel
theorem dX0_isTooDeep_15 : decode cX0_isTooDeep 15 = .ok (.sipush 10000, 3) := by decide +kernel
theorem dX0_isTooDeep_18 : decode cX0_isTooDeep 18 = .ok (.if_icmp .ne 5, 3) := by decide +kernel
theorem dX0_isTooDeep_21 : decode cX0_isTooDeep 21 = .ok (.iconst 0, 1) := by decide +kernel
theorem dX0_isTooDeep_22 : decode cX0_isTooDeep 22 = .ok (.ireturn, 1) := by decide +kernel
theorem dX0_isTooDeep_23 : decode cX0_isTooDeep 23 = .ok (.aload_n 0, 1) := by decide +kernel
theorem dX0_isTooDeep_24 : decode cX0_isTooDeep 24 = .ok (.getfield 39, 3) := by decide +kernel
theorem dX0_isTooDeep_27 : decode cX0_isTooDeep 27 = .ok (.iload_n 1, 1) := by decide +kernel
theorem dX0_isTooDeep_28 : decode cX0_isTooDeep 28 = .ok (.aaload, 1) := by decide +kernel
theorem dX0_isTooDeep_29 : decode cX0_isTooDeep 29 = .ok (.iload_n 2, 1) := by decide +kernel
theorem dX0_isTooDeep_30 : decode cX0_isTooDeep 30 = .ok (.iaload, 1) := by decide +kernel
theorem dX0_isTooDeep_31 : decode cX0_isTooDeep 31 = .ok (.aload_n 0, 1) := by decide +kernel
theorem dX0_isTooDeep_32 : decode cX0_isTooDeep 32 = .ok (.getfield 56, 3) := by decide +kernel
theorem dX0_isTooDeep_35 : decode cX0_isTooDeep 35 = .ok (.iload_n 1, 1) := by decide +kernel
theorem dX0_isTooDeep_36 : decode cX0_isTooDeep 36 = .ok (.iaload, 1) := by decide +kernel
theorem dX0_isTooDeep_37 : decode cX0_isTooDeep 37 = .ok (.if_icmp .ge 23, 3) := by decide +kernel
theorem dX0_isTooDeep_40 : decode cX0_isTooDeep 40 = .ok (.aload_n 0, 1) := by decide +kernel
theorem dX0_isTooDeep_41 : decode cX0_isTooDeep 41 = .ok (.iload_n 1, 1) := by decide +kernel
theorem dX0_isTooDeep_42 : decode cX0_isTooDeep 42 = .ok (.iload_n 2, 1) := by decide +kernel
theorem dX0_isTooDeep_43 : decode cX0_isTooDeep 43 = .ok (.invokevirtual 169, 3) := by decide +kernel
theorem dX0_isTooDeep_46 : decode cX0_isTooDeep 46 = .ok (.aload_n 0, 1) := by decide +kernel
theorem dX0_isTooDeep_47 : decode cX0_isTooDeep 47 = .ok (.getfield 59, 3) := by decide +kernel
theorem dX0_isTooDeep_50 : decode cX0_isTooDeep 50 = .ok (.iload_n 1, 1) := by decide +kernel
theorem dX0_isTooDeep_51 : decode cX0_isTooDeep 51 = .ok (.iaload, 1) := by decide +kernel
theorem dX0_isTooDeep_52 : decode cX0_isTooDeep 52 = .ok (.aload_n 0, 1) := by decide +kernel
theorem dX0_isTooDeep_53 : decode cX0_isTooDeep 53 = .ok (.getfield 13, 3) := by decide +kernel
theorem dX0_isTooDeep_56 : decode cX0_isTooDeep 56 = .ok (.iadd, 1) := by decide +kernel
theorem dX0_isTooDeep_57 : decode cX0_isTooDeep 57 = .ok (.if_icmp .le 7, 3) := by decide +kernel
theorem dX0_isTooDeep_60 : decode cX0_isTooDeep 60 = .ok (.iconst 1, 1) := by decide +kernel
theorem dX0_isTooDeep_61 : decode cX0_isTooDeep 61 = .ok (.goto 4, 3) := by decide +kernel
theorem dX0_isTooDeep_64 : decode cX0_isTooDeep 64 = .ok (.iconst 0, 1) := by decide +kernel
theorem dX0_isTooDeep_65 : decode cX0_isTooDeep 65 = .ok (.ireturn, 1) := by decide +kernel
theorem dX0_heardOwnVersion_0 : decode cX0_heardOwnVersion 0 = .ok (.aload_n 0, 1) := by decide +kernel
theorem dX0_heardOwnVersion_1 : decode cX0_heardOwnVersion 1 = .ok (.getfield 33, 3) := by decide +kernel
theorem dX0_heardOwnVersion_4 : decode cX0_heardOwnVersion 4 = .ok (.iload_n 1, 1) := by decide +kernel
theorem dX0_heardOwnVersion_5 : decode cX0_heardOwnVersion 5 = .ok (.aaload, 1) := by decide +kernel
theorem dX0_heardOwnVersion_6 : decode cX0_heardOwnVersion 6 = .ok (.iload_n 2, 1) := by decide +kernel
theorem dX0_heardOwnVersion_7 : decode cX0_heardOwnVersion 7 = .ok (.iaload, 1) := by decide +kernel
theorem dX0_heardOwnVersion_8 : decode cX0_heardOwnVersion 8 = .ok (.aload_n 0, 1) := by decide +kernel
theorem dX0_heardOwnVersion_9 : decode cX0_heardOwnVersion 9 = .ok (.getfield 50, 3) := by decide +kernel
theorem dX0_heardOwnVersion_12 : decode cX0_heardOwnVersion 12 = .ok (.iload_n 1, 1) := by decide +kernel
theorem dX0_heardOwnVersion_13 : decode cX0_heardOwnVersion 13 = .ok (.iaload, 1) := by decide +kernel
theorem dX0_heardOwnVersion_14 : decode cX0_heardOwnVersion 14 = .ok (.if_icmp .ne 24, 3) := by decide +kernel
theorem dX0_heardOwnVersion_17 : decode cX0_heardOwnVersion 17 = .ok (.aload_n 0, 1) := by decide +kernel
theorem dX0_heardOwnVersion_18 : decode cX0_heardOwnVersion 18 = .ok (.getfield 36, 3) := by decide +kernel
theorem dX0_heardOwnVersion_21 : decode cX0_heardOwnVersion 21 = .ok (.iload_n 1, 1) := by decide +kernel
theorem dX0_heardOwnVersion_22 : decode cX0_heardOwnVersion 22 = .ok (.aaload, 1) := by decide +kernel
theorem dX0_heardOwnVersion_23 : decode cX0_heardOwnVersion 23 = .ok (.iload_n 2, 1) := by decide +kernel
theorem dX0_heardOwnVersion_24 : decode cX0_heardOwnVersion 24 = .ok (.iaload, 1) := by decide +kernel
theorem dX0_heardOwnVersion_25 : decode cX0_heardOwnVersion 25 = .ok (.aload_n 0, 1) := by decide +kernel
theorem dX0_heardOwnVersion_26 : decode cX0_heardOwnVersion 26 = .ok (.getfield 53, 3) := by decide +kernel
theorem dX0_heardOwnVersion_29 : decode cX0_heardOwnVersion 29 = .ok (.iload_n 1, 1) := by decide +kernel
theorem dX0_heardOwnVersion_30 : decode cX0_heardOwnVersion 30 = .ok (.iaload, 1) := by decide +kernel
theorem dX0_heardOwnVersion_31 : decode cX0_heardOwnVersion 31 = .ok (.if_icmp .ne 7, 3) := by decide +kernel
theorem dX0_heardOwnVersion_34 : decode cX0_heardOwnVersion 34 = .ok (.iconst 1, 1) := by decide +kernel
theorem dX0_heardOwnVersion_35 : decode cX0_heardOwnVersion 35 = .ok (.goto 4, 3) := by decide +kernel
theorem dX0_heardOwnVersion_38 : decode cX0_heardOwnVersion 38 = .ok (.iconst 0, 1) := by decide +kernel
theorem dX0_heardOwnVersion_39 : decode cX0_heardOwnVersion 39 = .ok (.ireturn, 1) := by decide +kernel
set_option maxRecDepth 20000 in
theorem ggX0_follow_X0_rankBy : GoodIn wsX0_follow wsX0_rankBy := goodIn_r _ [16, 17, 18, 31, 32, 33, 34, 35, 36, 37, 38, 39, 40, 41, 42, 43, 44, 45, 46, 47, 48, 49, 50] (by decide +kernel) (by decide +kernel)
set_option maxRecDepth 20000 in
theorem gX0_follow_X0_rankBy : GoodIn wsX0_follow (wsV RX0 169 RX0 yX0_rankBy wsX0_rankBy) := goodIn_app (goodIn_of _ (by decide +kernel)) ggX0_follow_X0_rankBy
set_option maxRecDepth 20000 in
theorem ggX0_follow_X0_heardOwnVersion : GoodIn wsX0_follow wsX0_heardOwnVersion := goodIn_r _ [22, 9, 8, 11, 10, 31, 32, 33, 34, 35, 36, 37, 38, 39, 40, 41, 42, 43, 44, 45, 46, 47, 48, 49, 50] (by decide +kernel) (by decide +kernel)
set_option maxRecDepth 20000 in
theorem gX0_follow_X0_heardOwnVersion : GoodIn wsX0_follow (wsV RX0 178 RX0 yX0_heardOwnVersion wsX0_heardOwnVersion) := goodIn_app (goodIn_of _ (by decide +kernel)) ggX0_follow_X0_heardOwnVersion
set_option maxRecDepth 20000 in
theorem ggX0_follow_X0_resetTimer : GoodIn wsX0_follow wsX0_resetTimer := goodIn_r _ [26, 27, 28, 29, 30, 31, 32, 33, 34, 35, 36, 37, 38, 39, 40, 41, 42, 43, 44, 45, 46, 47, 48, 49, 50] (by decide +kernel) (by decide +kernel)
set_option maxRecDepth 20000 in
theorem gX0_follow_X0_resetTimer : GoodIn wsX0_follow (wsV RX0 78 RX0 yX0_resetTimer wsX0_resetTimer) := goodIn_app (goodIn_of _ (by decide +kernel)) ggX0_follow_X0_resetTimer
theorem dX0_follow_0 : decode cX0_follow 0 = .ok (.aload_n 0, 1) := by decide +kernel
theorem dX0_follow_1 : decode cX0_follow 1 = .ok (.iload_n 1, 1) := by decide +kernel
theorem dX0_follow_2 : decode cX0_follow 2 = .ok (.iload_n 2, 1) := by decide +kernel
theorem dX0_follow_3 : decode cX0_follow 3 = .ok (.invokevirtual 169, 3) := by decide +kernel
theorem dX0_follow_6 : decode cX0_follow 6 = .ok (.istore_n 3, 1) := by decide +kernel
theorem dX0_follow_7 : decode cX0_follow 7 = .ok (.aload_n 0, 1) := by decide +kernel
theorem dX0_follow_8 : decode cX0_follow 8 = .ok (.iload_n 1, 1) := by decide +kernel
theorem dX0_follow_9 : decode cX0_follow 9 = .ok (.iload_n 2, 1) := by decide +kernel
theorem dX0_follow_10 : decode cX0_follow 10 = .ok (.invokevirtual 178, 3) := by decide +kernel
theorem dX0_follow_13 : decode cX0_follow 13 = .ok (.istore 4, 2) := by decide +kernel
theorem dX0_follow_15 : decode cX0_follow 15 = .ok (.iload 4, 2) := by decide +kernel
theorem dX0_follow_17 : decode cX0_follow 17 = .ok (.ifCond .eq 27, 3) := by decide +kernel
theorem dX0_follow_20 : decode cX0_follow 20 = .ok (.iload_n 3, 1) := by decide +kernel
theorem dX0_follow_21 : decode cX0_follow 21 = .ok (.aload_n 0, 1) := by decide +kernel
theorem dX0_follow_22 : decode cX0_follow 22 = .ok (.getfield 56, 3) := by decide +kernel
theorem dX0_follow_25 : decode cX0_follow 25 = .ok (.iload_n 1, 1) := by decide +kernel
theorem dX0_follow_26 : decode cX0_follow 26 = .ok (.iaload, 1) := by decide +kernel
theorem dX0_follow_27 : decode cX0_follow 27 = .ok (.if_icmp .ne 17, 3) := by decide +kernel
theorem dX0_follow_30 : decode cX0_follow 30 = .ok (.iload_n 2, 1) := by decide +kernel
theorem dX0_follow_31 : decode cX0_follow 31 = .ok (.aload_n 0, 1) := by decide +kernel
theorem dX0_follow_32 : decode cX0_follow 32 = .ok (.getfield 62, 3) := by decide +kernel
theorem dX0_follow_35 : decode cX0_follow 35 = .ok (.iload_n 1, 1) := by decide +kernel
theorem dX0_follow_36 : decode cX0_follow 36 = .ok (.iaload, 1) := by decide +kernel
theorem dX0_follow_37 : decode cX0_follow 37 = .ok (.if_icmp .ne 7, 3) := by decide +kernel
theorem dX0_follow_40 : decode cX0_follow 40 = .ok (.iconst 1, 1) := by decide +kernel
theorem dX0_follow_41 : decode cX0_follow 41 = .ok (.goto 4, 3) := by decide +kernel
theorem dX0_follow_44 : decode cX0_follow 44 = .ok (.iconst 0, 1) := by decide +kernel
theorem dX0_follow_45 : decode cX0_follow 45 = .ok (.istore 5, 2) := by decide +kernel
theorem dX0_follow_47 : decode cX0_follow 47 = .ok (.aload_n 0, 1) := by decide +kernel
theorem dX0_follow_48 : decode cX0_follow 48 = .ok (.getfield 59, 3) := by decide +kernel
theorem dX0_follow_51 : decode cX0_follow 51 = .ok (.iload_n 1, 1) := by decide +kernel
theorem dX0_follow_52 : decode cX0_follow 52 = .ok (.iload 4, 2) := by decide +kernel
theorem dX0_follow_54 : decode cX0_follow 54 = .ok (.ifCond .eq 16, 3) := by decide +kernel
theorem dX0_follow_57 : decode cX0_follow 57 = .ok (.iload_n 3, 1) := by decide +kernel
theorem dX0_follow_58 : decode cX0_follow 58 = .ok (.aload_n 0, 1) := by decide +kernel
theorem dX0_follow_59 : decode cX0_follow 59 = .ok (.getfield 59, 3) := by decide +kernel
theorem dX0_follow_62 : decode cX0_follow 62 = .ok (.iload_n 1, 1) := by decide +kernel
theorem dX0_follow_63 : decode cX0_follow 63 = .ok (.iaload, 1) := by decide +kernel
theorem dX0_follow_64 : decode cX0_follow 64 = .ok (.invokestatic 141, 3) := by decide +kernel
theorem dX0_follow_67 : decode cX0_follow 67 = .ok (.goto 4, 3) := by decide +kernel
theorem dX0_follow_70 : decode cX0_follow 70 = .ok (.iload_n 3, 1) := by decide +kernel
theorem dX0_follow_71 : decode cX0_follow 71 = .ok (.iastore, 1) := by decide +kernel
theorem dX0_follow_72 : decode cX0_follow 72 = .ok (.aload_n 0, 1) := by decide +kernel
theorem dX0_follow_73 : decode cX0_follow 73 = .ok (.getfield 50, 3) := by decide +kernel
theorem dX0_follow_76 : decode cX0_follow 76 = .ok (.iload_n 1, 1) := by decide +kernel
theorem dX0_follow_77 : decode cX0_follow 77 = .ok (.aload_n 0, 1) := by decide +kernel
theorem dX0_follow_78 : decode cX0_follow 78 = .ok (.getfield 33, 3) := by decide +kernel
theorem dX0_follow_81 : decode cX0_follow 81 = .ok (.iload_n 1, 1) := by decide +kernel
theorem dX0_follow_82 : decode cX0_follow 82 = .ok (.aaload, 1) := by decide +kernel
theorem dX0_follow_83 : decode cX0_follow 83 = .ok (.iload_n 2, 1) := by decide +kernel
theorem dX0_follow_84 : decode cX0_follow 84 = .ok (.iaload, 1) := by decide +kernel
theorem dX0_follow_85 : decode cX0_follow 85 = .ok (.iastore, 1) := by decide +kernel
theorem dX0_follow_86 : decode cX0_follow 86 = .ok (.aload_n 0, 1) := by decide +kernel
theorem dX0_follow_87 : decode cX0_follow 87 = .ok (.getfield 53, 3) := by decide +kernel
theorem dX0_follow_90 : decode cX0_follow 90 = .ok (.iload_n 1, 1) := by decide +kernel
theorem dX0_follow_91 : decode cX0_follow 91 = .ok (.aload_n 0, 1) := by decide +kernel
theorem dX0_follow_92 : decode cX0_follow 92 = .ok (.getfield 36, 3) := by decide +kernel
theorem dX0_follow_95 : decode cX0_follow 95 = .ok (.iload_n 1, 1) := by decide +kernel
theorem dX0_follow_96 : decode cX0_follow 96 = .ok (.aaload, 1) := by decide +kernel
theorem dX0_follow_97 : decode cX0_follow 97 = .ok (.iload_n 2, 1) := by decide +kernel
theorem dX0_follow_98 : decode cX0_follow 98 = .ok (.iaload, 1) := by decide +kernel
theorem dX0_follow_99 : decode cX0_follow 99 = .ok (.iastore, 1) := by decide +kernel
theorem dX0_follow_100 : decode cX0_follow 100 = .ok (.aload_n 0, 1) := by decide +kernel
theorem dX0_follow_101 : decode cX0_follow 101 = .ok (.getfield 56, 3) := by decide +kernel
theorem dX0_follow_104 : decode cX0_follow 104 = .ok (.iload_n 1, 1) := by decide +kernel
theorem dX0_follow_105 : decode cX0_follow 105 = .ok (.iload_n 3, 1) := by decide +kernel
theorem dX0_follow_106 : decode cX0_follow 106 = .ok (.iastore, 1) := by decide +kernel
theorem dX0_follow_107 : decode cX0_follow 107 = .ok (.aload_n 0, 1) := by decide +kernel
theorem dX0_follow_108 : decode cX0_follow 108 = .ok (.getfield 62, 3) := by decide +kernel
theorem dX0_follow_111 : decode cX0_follow 111 = .ok (.iload_n 1, 1) := by decide +kernel
theorem dX0_follow_112 : decode cX0_follow 112 = .ok (.iload_n 2, 1) := by decide +kernel
theorem dX0_follow_113 : decode cX0_follow 113 = .ok (.iastore, 1) := by decide +kernel
theorem dX0_follow_114 : decode cX0_follow 114 = .ok (.iload 5, 2) := by decide +kernel
theorem dX0_follow_116 : decode cX0_follow 116 = .ok (.ifCond .ne 8, 3) := by decide +kernel
theorem dX0_follow_119 : decode cX0_follow 119 = .ok (.aload_n 0, 1) := by decide +kernel
theorem dX0_follow_120 : decode cX0_follow 120 = .ok (.iload_n 1, 1) := by decide +kernel
theorem dX0_follow_121 : decode cX0_follow 121 = .ok (.invokevirtual 78, 3) := by decide +kernel
theorem dX0_follow_124 : decode cX0_follow 124 = .ok (.return_, 1) := by decide +kernel
set_option maxRecDepth 20000 in
theorem ggX0_loseParent_X0_resetTimer : GoodIn wsX0_loseParent wsX0_resetTimer := goodIn_r _ [7, 8, 9, 10, 11, 12, 13, 14, 15, 16, 17, 18, 19, 20, 21, 22, 23, 24, 25, 26, 27, 28, 29, 30, 31] (by decide +kernel) (by decide +kernel)
set_option maxRecDepth 20000 in
theorem gX0_loseParent_X0_resetTimer : GoodIn wsX0_loseParent (wsV RX0 78 RX0 yX0_resetTimer wsX0_resetTimer) := goodIn_app (goodIn_of _ (by decide +kernel)) ggX0_loseParent_X0_resetTimer
theorem dX0_loseParent_0 : decode cX0_loseParent 0 = .ok (.aload_n 0, 1) := by decide +kernel
theorem dX0_loseParent_1 : decode cX0_loseParent 1 = .ok (.getfield 56, 3) := by decide +kernel
theorem dX0_loseParent_4 : decode cX0_loseParent 4 = .ok (.iload_n 1, 1) := by decide +kernel
theorem dX0_loseParent_5 : decode cX0_loseParent 5 = .ok (.iaload, 1) := by decide +kernel
theorem dX0_loseParent_6 : decode cX0_loseParent 6 = .ok (.sipush 10000, 3) := by decide +kernel
theorem dX0_loseParent_9 : decode cX0_loseParent 9 = .ok (.if_icmp .ne 17, 3) := by decide +kernel
theorem dX0_loseParent_12 : decode cX0_loseParent 12 = .ok (.aload_n 0, 1) := by decide +kernel
theorem dX0_loseParent_13 : decode cX0_loseParent 13 = .ok (.getfield 62, 3) := by decide +kernel
theorem dX0_loseParent_16 : decode cX0_loseParent 16 = .ok (.iload_n 1, 1) := by decide +kernel
theorem dX0_loseParent_17 : decode cX0_loseParent 17 = .ok (.iaload, 1) := by decide +kernel
theorem dX0_loseParent_18 : decode cX0_loseParent 18 = .ok (.iconst (-1), 1) := by decide +kernel
theorem dX0_loseParent_19 : decode cX0_loseParent 19 = .ok (.if_icmp .ne 7, 3) := by decide +kernel
theorem dX0_loseParent_22 : decode cX0_loseParent 22 = .ok (.iconst 1, 1) := by decide +kernel
theorem dX0_loseParent_23 : decode cX0_loseParent 23 = .ok (.goto 4, 3) := by decide +kernel
theorem dX0_loseParent_26 : decode cX0_loseParent 26 = .ok (.iconst 0, 1) := by decide +kernel
theorem dX0_loseParent_27 : decode cX0_loseParent 27 = .ok (.istore_n 2, 1) := by decide +kernel
theorem dX0_loseParent_28 : decode cX0_loseParent 28 = .ok (.aload_n 0, 1) := by decide +kernel
theorem dX0_loseParent_29 : decode cX0_loseParent 29 = .ok (.getfield 56, 3) := by decide +kernel
theorem dX0_loseParent_32 : decode cX0_loseParent 32 = .ok (.iload_n 1, 1) := by decide +kernel
theorem dX0_loseParent_33 : decode cX0_loseParent 33 = .ok (.sipush 10000, 3) := by decide +kernel
theorem dX0_loseParent_36 : decode cX0_loseParent 36 = .ok (.iastore, 1) := by decide +kernel
theorem dX0_loseParent_37 : decode cX0_loseParent 37 = .ok (.aload_n 0, 1) := by decide +kernel
theorem dX0_loseParent_38 : decode cX0_loseParent 38 = .ok (.getfield 62, 3) := by decide +kernel
theorem dX0_loseParent_41 : decode cX0_loseParent 41 = .ok (.iload_n 1, 1) := by decide +kernel
theorem dX0_loseParent_42 : decode cX0_loseParent 42 = .ok (.iconst (-1), 1) := by decide +kernel
theorem dX0_loseParent_43 : decode cX0_loseParent 43 = .ok (.iastore, 1) := by decide +kernel
theorem dX0_loseParent_44 : decode cX0_loseParent 44 = .ok (.iload_n 2, 1) := by decide +kernel
theorem dX0_loseParent_45 : decode cX0_loseParent 45 = .ok (.ifCond .ne 8, 3) := by decide +kernel
theorem dX0_loseParent_48 : decode cX0_loseParent 48 = .ok (.aload_n 0, 1) := by decide +kernel
theorem dX0_loseParent_49 : decode cX0_loseParent 49 = .ok (.iload_n 1, 1) := by decide +kernel
theorem dX0_loseParent_50 : decode cX0_loseParent 50 = .ok (.invokevirtual 78, 3) := by decide +kernel
theorem dX0_loseParent_53 : decode cX0_loseParent 53 = .ok (.return_, 1) := by decide +kernel
