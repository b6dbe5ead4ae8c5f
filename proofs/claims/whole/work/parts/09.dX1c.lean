theorem dX1_renew_28 : decode cX1_renew 28 = .ok (.invokevirtual 95, 3) := by decide +kernel
theorem dX1_renew_31 : decode cX1_renew 31 = .ok (.ifCond .eq 5, 3) := by decide +kernel
theorem dX1_renew_34 : decode cX1_renew 34 = .ok (.iconst 0, 1) := by decide +kernel
theorem dX1_renew_35 : decode cX1_renew 35 = .ok (.ireturn, 1) := by decide +kernel
theorem dX1_renew_36 : decode cX1_renew 36 = .ok (.aload_n 0, 1) := by decide +kernel
theorem dX1_renew_37 : decode cX1_renew 37 = .ok (.iload_n 1, 1) := by decide +kernel
theorem dX1_renew_38 : decode cX1_renew 38 = .ok (.invokevirtual 102, 3) := by decide +kernel
theorem dX1_renew_41 : decode cX1_renew 41 = .ok (.aload_n 0, 1) := by decide +kernel
theorem dX1_renew_42 : decode cX1_renew 42 = .ok (.getfield 33, 3) := by decide +kernel
theorem dX1_renew_45 : decode cX1_renew 45 = .ok (.iload_n 1, 1) := by decide +kernel
theorem dX1_renew_46 : decode cX1_renew 46 = .ok (.iaload, 1) := by decide +kernel
theorem dX1_renew_47 : decode cX1_renew 47 = .ok (.ireturn, 1) := by decide +kernel
set_option maxRecDepth 20000 in
theorem ggX1_pass_X1_isIn : GoodIn wsX1_pass wsX1_isIn := goodIn_r _ [9] (by decide +kernel) (by decide +kernel)
set_option maxRecDepth 20000 in
theorem gX1_pass_X1_isIn : GoodIn wsX1_pass (va_wsS RX1 66 yX1_isIn wsX1_isIn) := goodIn_app (goodIn_of _ (by decide +kernel)) ggX1_pass_X1_isIn
set_option maxRecDepth 20000 in
theorem ggX1_pass_X1_fails : GoodIn wsX1_pass wsX1_fails := goodIn_r _ [13, 14, 51, 52, 53, 54, 55, 56, 57, 58, 59, 60, 61, 62, 63, 64, 65, 66, 67, 68, 69, 70, 71] (by decide +kernel) (by decide +kernel)
set_option maxRecDepth 20000 in
theorem gX1_pass_X1_fails : GoodIn wsX1_pass (wsV RX1 95 RX1 yX1_fails wsX1_fails) := goodIn_app (goodIn_of _ (by decide +kernel)) ggX1_pass_X1_fails
set_option maxRecDepth 20000 in
theorem ggX1_pass_X1_tells : GoodIn wsX1_pass wsX1_tells := goodIn_r _ [18, 19, 20, 21, 22, 23, 24, 25, 26, 27, 28, 8, 29, 30, 31, 32, 33, 34, 35, 36, 37, 38, 6, 7, 9, 39, 40, 41, 42, 43, 44, 45, 46, 47, 48, 49, 50, 5, 3, 2, 1, 51, 52, 53, 54, 55, 56, 57, 58, 59, 60, 61, 62, 63, 64, 65, 66, 67, 68, 69, 70, 71] (by decide +kernel) (by decide +kernel)
set_option maxRecDepth 20000 in
theorem gX1_pass_X1_tells : GoodIn wsX1_pass (wsV RX1 105 RX1 yX1_tells wsX1_tells) := goodIn_app (goodIn_of _ (by decide +kernel)) ggX1_pass_X1_tells
theorem dX1_pass_0 : decode cX1_pass 0 = .ok (.aload_n 0, 1) := by decide +kernel
theorem dX1_pass_1 : decode cX1_pass 1 = .ok (.iload_n 1, 1) := by decide +kernel
theorem dX1_pass_2 : decode cX1_pass 2 = .ok (.iconst 1, 1) := by decide +kernel
theorem dX1_pass_3 : decode cX1_pass 3 = .ok (.bipush 100, 2) := by decide +kernel
theorem dX1_pass_5 : decode cX1_pass 5 = .ok (.invokestatic 66, 3) := by decide +kernel
theorem dX1_pass_8 : decode cX1_pass 8 = .ok (.ifCond .eq 7, 3) := by decide +kernel
theorem dX1_pass_11 : decode cX1_pass 11 = .ok (.iconst 0, 1) := by decide +kernel
theorem dX1_pass_12 : decode cX1_pass 12 = .ok (.goto 4, 3) := by decide +kernel
theorem dX1_pass_15 : decode cX1_pass 15 = .ok (.iconst 1, 1) := by decide +kernel
theorem dX1_pass_16 : decode cX1_pass 16 = .ok (.invokevirtual 95, 3) := by decide +kernel
theorem dX1_pass_19 : decode cX1_pass 19 = .ok (.ifCond .eq 5, 3) := by decide +kernel
theorem dX1_pass_22 : decode cX1_pass 22 = .ok (.iconst 0, 1) := by decide +kernel
theorem dX1_pass_23 : decode cX1_pass 23 = .ok (.ireturn, 1) := by decide +kernel
theorem dX1_pass_24 : decode cX1_pass 24 = .ok (.iconst 0, 1) := by decide +kernel
theorem dX1_pass_25 : decode cX1_pass 25 = .ok (.istore_n 2, 1) := by decide +kernel
theorem dX1_pass_26 : decode cX1_pass 26 = .ok (.iconst 0, 1) := by decide +kernel
theorem dX1_pass_27 : decode cX1_pass 27 = .ok (.istore_n 3, 1) := by decide +kernel
theorem dX1_pass_28 : decode cX1_pass 28 = .ok (.iload_n 3, 1) := by decide +kernel
theorem dX1_pass_29 : decode cX1_pass 29 = .ok (.iload_n 1, 1) := by decide +kernel
theorem dX1_pass_30 : decode cX1_pass 30 = .ok (.if_icmp .ge 123, 3) := by decide +kernel
theorem dX1_pass_33 : decode cX1_pass 33 = .ok (.aload_n 0, 1) := by decide +kernel
theorem dX1_pass_34 : decode cX1_pass 34 = .ok (.dup, 1) := by decide +kernel
theorem dX1_pass_35 : decode cX1_pass 35 = .ok (.getfield 70, 3) := by decide +kernel
theorem dX1_pass_38 : decode cX1_pass 38 = .ok (.iconst 1, 1) := by decide +kernel
theorem dX1_pass_39 : decode cX1_pass 39 = .ok (.iadd, 1) := by decide +kernel
theorem dX1_pass_40 : decode cX1_pass 40 = .ok (.putfield 70, 3) := by decide +kernel
theorem dX1_pass_43 : decode cX1_pass 43 = .ok (.iconst 0, 1) := by decide +kernel
theorem dX1_pass_44 : decode cX1_pass 44 = .ok (.istore 4, 2) := by decide +kernel
theorem dX1_pass_46 : decode cX1_pass 46 = .ok (.iload 4, 2) := by decide +kernel
theorem dX1_pass_48 : decode cX1_pass 48 = .ok (.bipush 10, 2) := by decide +kernel
theorem dX1_pass_50 : decode cX1_pass 50 = .ok (.if_icmp .ge 97, 3) := by decide +kernel
theorem dX1_pass_53 : decode cX1_pass 53 = .ok (.aload_n 0, 1) := by decide +kernel
theorem dX1_pass_54 : decode cX1_pass 54 = .ok (.getfield 48, 3) := by decide +kernel
theorem dX1_pass_57 : decode cX1_pass 57 = .ok (.iload 4, 2) := by decide +kernel
theorem dX1_pass_59 : decode cX1_pass 59 = .ok (.iaload, 1) := by decide +kernel
theorem dX1_pass_60 : decode cX1_pass 60 = .ok (.aload_n 0, 1) := by decide +kernel
theorem dX1_pass_61 : decode cX1_pass 61 = .ok (.getfield 70, 3) := by decide +kernel
theorem dX1_pass_64 : decode cX1_pass 64 = .ok (.if_icmp .ne 77, 3) := by decide +kernel
theorem dX1_pass_67 : decode cX1_pass 67 = .ok (.aload_n 0, 1) := by decide +kernel
theorem dX1_pass_68 : decode cX1_pass 68 = .ok (.iload 4, 2) := by decide +kernel
theorem dX1_pass_70 : decode cX1_pass 70 = .ok (.invokevirtual 105, 3) := by decide +kernel
theorem dX1_pass_73 : decode cX1_pass 73 = .ok (.aload_n 0, 1) := by decide +kernel
theorem dX1_pass_74 : decode cX1_pass 74 = .ok (.getfield 13, 3) := by decide +kernel
theorem dX1_pass_77 : decode cX1_pass 77 = .ok (.aload_n 0, 1) := by decide +kernel
theorem dX1_pass_78 : decode cX1_pass 78 = .ok (.getfield 16, 3) := by decide +kernel
theorem dX1_pass_81 : decode cX1_pass 81 = .ok (.ishl, 1) := by decide +kernel
theorem dX1_pass_82 : decode cX1_pass 82 = .ok (.istore 5, 2) := by decide +kernel
theorem dX1_pass_84 : decode cX1_pass 84 = .ok (.aload_n 0, 1) := by decide +kernel
theorem dX1_pass_85 : decode cX1_pass 85 = .ok (.getfield 45, 3) := by decide +kernel
theorem dX1_pass_88 : decode cX1_pass 88 = .ok (.iload 4, 2) := by decide +kernel
theorem dX1_pass_90 : decode cX1_pass 90 = .ok (.iconst 2, 1) := by decide +kernel
theorem dX1_pass_91 : decode cX1_pass 91 = .ok (.aload_n 0, 1) := by decide +kernel
theorem dX1_pass_92 : decode cX1_pass 92 = .ok (.getfield 45, 3) := by decide +kernel
theorem dX1_pass_95 : decode cX1_pass 95 = .ok (.iload 4, 2) := by decide +kernel
theorem dX1_pass_97 : decode cX1_pass 97 = .ok (.iaload, 1) := by decide +kernel
theorem dX1_pass_98 : decode cX1_pass 98 = .ok (.imul, 1) := by decide +kernel
theorem dX1_pass_99 : decode cX1_pass 99 = .ok (.iload 5, 2) := by decide +kernel
theorem dX1_pass_101 : decode cX1_pass 101 = .ok (.if_icmp .le 8, 3) := by decide +kernel
theorem dX1_pass_104 : decode cX1_pass 104 = .ok (.iload 5, 2) := by decide +kernel
theorem dX1_pass_106 : decode cX1_pass 106 = .ok (.goto 12, 3) := by decide +kernel
theorem dX1_pass_109 : decode cX1_pass 109 = .ok (.iconst 2, 1) := by decide +kernel
theorem dX1_pass_110 : decode cX1_pass 110 = .ok (.aload_n 0, 1) := by decide +kernel
theorem dX1_pass_111 : decode cX1_pass 111 = .ok (.getfield 45, 3) := by decide +kernel
theorem dX1_pass_114 : decode cX1_pass 114 = .ok (.iload 4, 2) := by decide +kernel
theorem dX1_pass_116 : decode cX1_pass 116 = .ok (.iaload, 1) := by decide +kernel
theorem dX1_pass_117 : decode cX1_pass 117 = .ok (.imul, 1) := by decide +kernel
theorem dX1_pass_118 : decode cX1_pass 118 = .ok (.iastore, 1) := by decide +kernel
theorem dX1_pass_119 : decode cX1_pass 119 = .ok (.aload_n 0, 1) := by decide +kernel
theorem dX1_pass_120 : decode cX1_pass 120 = .ok (.getfield 48, 3) := by decide +kernel
theorem dX1_pass_123 : decode cX1_pass 123 = .ok (.iload 4, 2) := by decide +kernel
theorem dX1_pass_125 : decode cX1_pass 125 = .ok (.aload_n 0, 1) := by decide +kernel
theorem dX1_pass_126 : decode cX1_pass 126 = .ok (.getfield 70, 3) := by decide +kernel
theorem dX1_pass_129 : decode cX1_pass 129 = .ok (.aload_n 0, 1) := by decide +kernel
theorem dX1_pass_130 : decode cX1_pass 130 = .ok (.getfield 45, 3) := by decide +kernel
theorem dX1_pass_133 : decode cX1_pass 133 = .ok (.iload 4, 2) := by decide +kernel
theorem dX1_pass_135 : decode cX1_pass 135 = .ok (.iaload, 1) := by decide +kernel
theorem dX1_pass_136 : decode cX1_pass 136 = .ok (.iadd, 1) := by decide +kernel
theorem dX1_pass_137 : decode cX1_pass 137 = .ok (.iastore, 1) := by decide +kernel
theorem dX1_pass_138 : decode cX1_pass 138 = .ok (.iinc 2 1, 3) := by decide +kernel
theorem dX1_pass_141 : decode cX1_pass 141 = .ok (.iinc 4 1, 3) := by decide +kernel
theorem dX1_pass_144 : decode cX1_pass 144 = .ok (.goto (-98), 3) := by decide +kernel
theorem dX1_pass_147 : decode cX1_pass 147 = .ok (.iinc 3 1, 3) := by decide +kernel
theorem dX1_pass_150 : decode cX1_pass 150 = .ok (.goto (-122), 3) := by decide +kernel
theorem dX1_pass_153 : decode cX1_pass 153 = .ok (.iload_n 2, 1) := by decide +kernel
theorem dX1_pass_154 : decode cX1_pass 154 = .ok (.ireturn, 1) := by decide +kernel
theorem dX1_time_0 : decode cX1_time 0 = .ok (.aload_n 0, 1) := by decide +kernel
theorem dX1_time_1 : decode cX1_time 1 = .ok (.iconst 0, 1) := by decide +kernel
theorem dX1_time_2 : decode cX1_time 2 = .ok (.putfield 63, 3) := by decide +kernel
theorem dX1_time_5 : decode cX1_time 5 = .ok (.aload_n 0, 1) := by decide +kernel
theorem dX1_time_6 : decode cX1_time 6 = .ok (.getfield 70, 3) := by decide +kernel
theorem dX1_time_9 : decode cX1_time 9 = .ok (.ireturn, 1) := by decide +kernel
set_option maxRecDepth 20000 in
theorem ggX1_of_X1_isNode : GoodIn wsX1_of wsX1_isNode := goodIn_r _ [4, 5, 6, 3, 7] (by decide +kernel) (by decide +kernel)
set_option maxRecDepth 20000 in
theorem gX1_of_X1_isNode : GoodIn wsX1_of (va_wsS RX1 99 yX1_isNode wsX1_isNode) := goodIn_app (goodIn_of _ (by decide +kernel)) ggX1_of_X1_isNode
set_option maxRecDepth 20000 in
theorem ggX1_of_X1_fails : GoodIn wsX1_of wsX1_fails := goodIn_r _ [11, 12, 13, 14, 15, 16, 17, 18, 19, 20, 21, 22, 23, 24, 25, 26, 27, 28, 29, 30, 31, 32, 33] (by decide +kernel) (by decide +kernel)
set_option maxRecDepth 20000 in
theorem gX1_of_X1_fails : GoodIn wsX1_of (wsV RX1 95 RX1 yX1_fails wsX1_fails) := goodIn_app (goodIn_of _ (by decide +kernel)) ggX1_of_X1_fails
theorem dX1_of_0 : decode cX1_of 0 = .ok (.aload_n 0, 1) := by decide +kernel
theorem dX1_of_1 : decode cX1_of 1 = .ok (.iload_n 2, 1) := by decide +kernel
theorem dX1_of_2 : decode cX1_of 2 = .ok (.invokestatic 99, 3) := by decide +kernel
theorem dX1_of_5 : decode cX1_of 5 = .ok (.ifCond .eq 7, 3) := by decide +kernel
theorem dX1_of_8 : decode cX1_of 8 = .ok (.iconst 0, 1) := by decide +kernel
theorem dX1_of_9 : decode cX1_of 9 = .ok (.goto 4, 3) := by decide +kernel
theorem dX1_of_12 : decode cX1_of 12 = .ok (.iconst 1, 1) := by decide +kernel
theorem dX1_of_13 : decode cX1_of 13 = .ok (.invokevirtual 95, 3) := by decide +kernel
theorem dX1_of_16 : decode cX1_of 16 = .ok (.ifCond .eq 7, 3) := by decide +kernel
theorem dX1_of_19 : decode cX1_of 19 = .ok (.iconst 0, 1) := by decide +kernel
theorem dX1_of_20 : decode cX1_of 20 = .ok (.goto 6, 3) := by decide +kernel
theorem dX1_of_23 : decode cX1_of 23 = .ok (.aload_n 1, 1) := by decide +kernel
theorem dX1_of_24 : decode cX1_of 24 = .ok (.iload_n 2, 1) := by decide +kernel
theorem dX1_of_25 : decode cX1_of 25 = .ok (.iaload, 1) := by decide +kernel
theorem dX1_of_26 : decode cX1_of 26 = .ok (.ireturn, 1) := by decide +kernel
set_option maxRecDepth 20000 in
theorem ggX1_rank_X1_of : GoodIn wsX1_rank wsX1_of := goodIn_r _ [6, 7, 8, 5, 9, 10, 11, 12, 13, 14, 15, 16, 17, 18, 19, 20, 21, 22, 23, 24, 25, 26, 27, 28, 29, 30, 31, 32, 33, 34, 35, 36, 37, 38] (by decide +kernel) (by decide +kernel)
set_option maxRecDepth 20000 in
theorem gX1_rank_X1_of : GoodIn wsX1_rank (wsV RX1 108 RX1 yX1_of wsX1_of) := goodIn_app (goodIn_of _ (by decide +kernel)) ggX1_rank_X1_of
theorem dX1_rank_0 : decode cX1_rank 0 = .ok (.aload_n 0, 1) := by decide +kernel
theorem dX1_rank_1 : decode cX1_rank 1 = .ok (.aload_n 0, 1) := by decide +kernel
theorem dX1_rank_2 : decode cX1_rank 2 = .ok (.getfield 36, 3) := by decide +kernel
theorem dX1_rank_5 : decode cX1_rank 5 = .ok (.iload_n 1, 1) := by decide +kernel
theorem dX1_rank_6 : decode cX1_rank 6 = .ok (.invokevirtual 108, 3) := by decide +kernel
theorem dX1_rank_9 : decode cX1_rank 9 = .ok (.ireturn, 1) := by decide +kernel
set_option maxRecDepth 20000 in
theorem ggX1_parent_X1_of : GoodIn wsX1_parent wsX1_of := goodIn_r _ [6, 7, 8, 5, 9, 10, 11, 12, 13, 14, 15, 16, 17, 18, 19, 20, 21, 22, 23, 24, 25, 26, 27, 28, 29, 30, 31, 32, 33, 34, 35, 36, 37, 38] (by decide +kernel) (by decide +kernel)
set_option maxRecDepth 20000 in
theorem gX1_parent_X1_of : GoodIn wsX1_parent (wsV RX1 108 RX1 yX1_of wsX1_of) := goodIn_app (goodIn_of _ (by decide +kernel)) ggX1_parent_X1_of
theorem dX1_parent_0 : decode cX1_parent 0 = .ok (.aload_n 0, 1) := by decide +kernel
theorem dX1_parent_1 : decode cX1_parent 1 = .ok (.aload_n 0, 1) := by decide +kernel
theorem dX1_parent_2 : decode cX1_parent 2 = .ok (.getfield 39, 3) := by decide +kernel
theorem dX1_parent_5 : decode cX1_parent 5 = .ok (.iload_n 1, 1) := by decide +kernel
theorem dX1_parent_6 : decode cX1_parent 6 = .ok (.invokevirtual 108, 3) := by decide +kernel
theorem dX1_parent_9 : decode cX1_parent 9 = .ok (.ireturn, 1) := by decide +kernel
set_option maxRecDepth 20000 in
theorem ggX1_tree_X1_isNode : GoodIn wsX1_tree wsX1_isNode := goodIn_r _ [6, 7, 8, 5, 9] (by decide +kernel) (by decide +kernel)
set_option maxRecDepth 20000 in
theorem gX1_tree_X1_isNode : GoodIn wsX1_tree (va_wsS RX1 99 yX1_isNode wsX1_isNode) := goodIn_app (goodIn_of _ (by decide +kernel)) ggX1_tree_X1_isNode
set_option maxRecDepth 20000 in
theorem ggX1_tree_X1_fails : GoodIn wsX1_tree wsX1_fails := goodIn_r _ [13, 14, 15, 16, 17, 18, 19, 20, 21, 22, 23, 24, 25, 26, 27, 28, 29, 30, 31, 32, 33, 34, 35] (by decide +kernel) (by decide +kernel)
set_option maxRecDepth 20000 in
theorem gX1_tree_X1_fails : GoodIn wsX1_tree (wsV RX1 95 RX1 yX1_fails wsX1_fails) := goodIn_app (goodIn_of _ (by decide +kernel)) ggX1_tree_X1_fails
theorem dX1_tree_0 : decode cX1_tree 0 = .ok (.aload_n 0, 1) := by decide +kernel
theorem dX1_tree_1 : decode cX1_tree 1 = .ok (.iload_n 1, 1) := by decide +kernel
theorem dX1_tree_2 : decode cX1_tree 2 = .ok (.invokestatic 99, 3) := by decide +kernel
theorem dX1_tree_5 : decode cX1_tree 5 = .ok (.ifCond .eq 7, 3) := by decide +kernel
theorem dX1_tree_8 : decode cX1_tree 8 = .ok (.iconst 0, 1) := by decide +kernel
theorem dX1_tree_9 : decode cX1_tree 9 = .ok (.goto 4, 3) := by decide +kernel
theorem dX1_tree_12 : decode cX1_tree 12 = .ok (.iconst 1, 1) := by decide +kernel
theorem dX1_tree_13 : decode cX1_tree 13 = .ok (.invokevirtual 95, 3) := by decide +kernel
theorem dX1_tree_16 : decode cX1_tree 16 = .ok (.ifCond .eq 7, 3) := by decide +kernel
theorem dX1_tree_19 : decode cX1_tree 19 = .ok (.iconst 0, 1) := by decide +kernel
theorem dX1_tree_20 : decode cX1_tree 20 = .ok (.goto 33, 3) := by decide +kernel
theorem dX1_tree_23 : decode cX1_tree 23 = .ok (.aload_n 0, 1) := by decide +kernel
theorem dX1_tree_24 : decode cX1_tree 24 = .ok (.getfield 30, 3) := by decide +kernel
theorem dX1_tree_27 : decode cX1_tree 27 = .ok (.iload_n 1, 1) := by decide +kernel
theorem dX1_tree_28 : decode cX1_tree 28 = .ok (.iaload, 1) := by decide +kernel
theorem dX1_tree_29 : decode cX1_tree 29 = .ok (.iconst (-1), 1) := by decide +kernel
theorem dX1_tree_30 : decode cX1_tree 30 = .ok (.if_icmp .ne 7, 3) := by decide +kernel
theorem dX1_tree_33 : decode cX1_tree 33 = .ok (.iconst (-1), 1) := by decide +kernel
theorem dX1_tree_34 : decode cX1_tree 34 = .ok (.goto 19, 3) := by decide +kernel
theorem dX1_tree_37 : decode cX1_tree 37 = .ok (.bipush 10, 2) := by decide +kernel
theorem dX1_tree_39 : decode cX1_tree 39 = .ok (.aload_n 0, 1) := by decide +kernel
theorem dX1_tree_40 : decode cX1_tree 40 = .ok (.getfield 33, 3) := by decide +kernel
theorem dX1_tree_43 : decode cX1_tree 43 = .ok (.iload_n 1, 1) := by decide +kernel
theorem dX1_tree_44 : decode cX1_tree 44 = .ok (.iaload, 1) := by decide +kernel
theorem dX1_tree_45 : decode cX1_tree 45 = .ok (.imul, 1) := by decide +kernel
theorem dX1_tree_46 : decode cX1_tree 46 = .ok (.aload_n 0, 1) := by decide +kernel
theorem dX1_tree_47 : decode cX1_tree 47 = .ok (.getfield 30, 3) := by decide +kernel
theorem dX1_tree_50 : decode cX1_tree 50 = .ok (.iload_n 1, 1) := by decide +kernel
theorem dX1_tree_51 : decode cX1_tree 51 = .ok (.iaload, 1) := by decide +kernel
theorem dX1_tree_52 : decode cX1_tree 52 = .ok (.iadd, 1) := by decide +kernel
theorem dX1_tree_53 : decode cX1_tree 53 = .ok (.ireturn, 1) := by decide +kernel
set_option maxRecDepth 20000 in
theorem ggX1_nextTelling_X1_of : GoodIn wsX1_nextTelling wsX1_of := goodIn_r _ [6, 7, 8, 5, 9, 10, 11, 12, 13, 14, 15, 16, 17, 18, 19, 20, 21, 22, 23, 24, 25, 26, 27, 28, 29, 30, 31, 32, 33, 34, 35, 36, 37, 38] (by decide +kernel) (by decide +kernel)
set_option maxRecDepth 20000 in
theorem gX1_nextTelling_X1_of : GoodIn wsX1_nextTelling (wsV RX1 108 RX1 yX1_of wsX1_of) := goodIn_app (goodIn_of _ (by decide +kernel)) ggX1_nextTelling_X1_of
theorem dX1_nextTelling_0 : decode cX1_nextTelling 0 = .ok (.aload_n 0, 1) := by decide +kernel
theorem dX1_nextTelling_1 : decode cX1_nextTelling 1 = .ok (.aload_n 0, 1) := by decide +kernel
theorem dX1_nextTelling_2 : decode cX1_nextTelling 2 = .ok (.getfield 48, 3) := by decide +kernel
theorem dX1_nextTelling_5 : decode cX1_nextTelling 5 = .ok (.iload_n 1, 1) := by decide +kernel
theorem dX1_nextTelling_6 : decode cX1_nextTelling 6 = .ok (.invokevirtual 108, 3) := by decide +kernel
theorem dX1_nextTelling_9 : decode cX1_nextTelling 9 = .ok (.ireturn, 1) := by decide +kernel
set_option maxRecDepth 20000 in
theorem ggX1_heard_X1_isNode : GoodIn wsX1_heard wsX1_isNode := goodIn_r _ [5, 6, 7, 4, 8] (by decide +kernel) (by decide +kernel)
set_option maxRecDepth 20000 in
theorem gX1_heard_X1_isNode : GoodIn wsX1_heard (va_wsS RX1 99 yX1_isNode wsX1_isNode) := goodIn_app (goodIn_of _ (by decide +kernel)) ggX1_heard_X1_isNode
set_option maxRecDepth 20000 in
theorem ggX1_heard_X1_fails : GoodIn wsX1_heard wsX1_fails := goodIn_r _ [12, 13, 14, 15, 16, 17, 18, 19, 20, 21, 22, 23, 24, 25, 26, 27, 28, 29, 30, 31, 32, 33, 34] (by decide +kernel) (by decide +kernel)
set_option maxRecDepth 20000 in
theorem gX1_heard_X1_fails : GoodIn wsX1_heard (wsV RX1 95 RX1 yX1_fails wsX1_fails) := goodIn_app (goodIn_of _ (by decide +kernel)) ggX1_heard_X1_fails
theorem dX1_heard_0 : decode cX1_heard 0 = .ok (.aload_n 0, 1) := by decide +kernel
theorem dX1_heard_1 : decode cX1_heard 1 = .ok (.iload_n 1, 1) := by decide +kernel
theorem dX1_heard_2 : decode cX1_heard 2 = .ok (.invokestatic 99, 3) := by decide +kernel
theorem dX1_heard_5 : decode cX1_heard 5 = .ok (.ifCond .eq 14, 3) := by decide +kernel
theorem dX1_heard_8 : decode cX1_heard 8 = .ok (.iload_n 2, 1) := by decide +kernel
theorem dX1_heard_9 : decode cX1_heard 9 = .ok (.invokestatic 99, 3) := by decide +kernel
theorem dX1_heard_12 : decode cX1_heard 12 = .ok (.ifCond .eq 7, 3) := by decide +kernel
theorem dX1_heard_15 : decode cX1_heard 15 = .ok (.iconst 0, 1) := by decide +kernel
theorem dX1_heard_16 : decode cX1_heard 16 = .ok (.goto 4, 3) := by decide +kernel
theorem dX1_heard_19 : decode cX1_heard 19 = .ok (.iconst 1, 1) := by decide +kernel
theorem dX1_heard_20 : decode cX1_heard 20 = .ok (.invokevirtual 95, 3) := by decide +kernel
theorem dX1_heard_23 : decode cX1_heard 23 = .ok (.ifCond .eq 7, 3) := by decide +kernel
theorem dX1_heard_26 : decode cX1_heard 26 = .ok (.iconst 0, 1) := by decide +kernel
theorem dX1_heard_27 : decode cX1_heard 27 = .ok (.goto 14, 3) := by decide +kernel
theorem dX1_heard_30 : decode cX1_heard 30 = .ok (.aload_n 0, 1) := by decide +kernel
theorem dX1_heard_31 : decode cX1_heard 31 = .ok (.getfield 57, 3) := by decide +kernel
theorem dX1_heard_34 : decode cX1_heard 34 = .ok (.bipush 10, 2) := by decide +kernel
theorem dX1_heard_36 : decode cX1_heard 36 = .ok (.iload_n 1, 1) := by decide +kernel
theorem dX1_heard_37 : decode cX1_heard 37 = .ok (.imul, 1) := by decide +kernel
theorem dX1_heard_38 : decode cX1_heard 38 = .ok (.iload_n 2, 1) := by decide +kernel
theorem dX1_heard_39 : decode cX1_heard 39 = .ok (.iadd, 1) := by decide +kernel
theorem dX1_heard_40 : decode cX1_heard 40 = .ok (.iaload, 1) := by decide +kernel
theorem dX1_heard_41 : decode cX1_heard 41 = .ok (.ireturn, 1) := by decide +kernel
set_option maxRecDepth 20000 in
theorem ggX1_leastRank_X1_isNode : GoodIn wsX1_leastRank wsX1_isNode := goodIn_r _ [7, 8, 9, 6, 10] (by decide +kernel) (by decide +kernel)
set_option maxRecDepth 20000 in
theorem gX1_leastRank_X1_isNode : GoodIn wsX1_leastRank (va_wsS RX1 99 yX1_isNode wsX1_isNode) := goodIn_app (goodIn_of _ (by decide +kernel)) ggX1_leastRank_X1_isNode
set_option maxRecDepth 20000 in
theorem ggX1_leastRank_X1_fails : GoodIn wsX1_leastRank wsX1_fails := goodIn_r _ [14, 15, 16, 17, 18, 19, 20, 21, 22, 23, 24, 25, 26, 27, 28, 29, 30, 31, 32, 33, 34, 35, 36] (by decide +kernel) (by decide +kernel)
set_option maxRecDepth 20000 in
theorem gX1_leastRank_X1_fails : GoodIn wsX1_leastRank (wsV RX1 95 RX1 yX1_fails wsX1_fails) := goodIn_app (goodIn_of _ (by decide +kernel)) ggX1_leastRank_X1_fails
theorem dX1_leastRank_0 : decode cX1_leastRank 0 = .ok (.aload_n 0, 1) := by decide +kernel
theorem dX1_leastRank_1 : decode cX1_leastRank 1 = .ok (.iload_n 1, 1) := by decide +kernel
theorem dX1_leastRank_2 : decode cX1_leastRank 2 = .ok (.invokestatic 99, 3) := by decide +kernel
theorem dX1_leastRank_5 : decode cX1_leastRank 5 = .ok (.ifCond .eq 7, 3) := by decide +kernel
theorem dX1_leastRank_8 : decode cX1_leastRank 8 = .ok (.iconst 0, 1) := by decide +kernel
theorem dX1_leastRank_9 : decode cX1_leastRank 9 = .ok (.goto 4, 3) := by decide +kernel
theorem dX1_leastRank_12 : decode cX1_leastRank 12 = .ok (.iconst 1, 1) := by decide +kernel
theorem dX1_leastRank_13 : decode cX1_leastRank 13 = .ok (.invokevirtual 95, 3) := by decide +kernel
theorem dX1_leastRank_16 : decode cX1_leastRank 16 = .ok (.ifCond .eq 5, 3) := by decide +kernel
theorem dX1_leastRank_19 : decode cX1_leastRank 19 = .ok (.iconst 0, 1) := by decide +kernel
theorem dX1_leastRank_20 : decode cX1_leastRank 20 = .ok (.ireturn, 1) := by decide +kernel
theorem dX1_leastRank_21 : decode cX1_leastRank 21 = .ok (.iconst 0, 1) := by decide +kernel
theorem dX1_leastRank_22 : decode cX1_leastRank 22 = .ok (.istore_n 2, 1) := by decide +kernel
theorem dX1_leastRank_23 : decode cX1_leastRank 23 = .ok (.iload_n 2, 1) := by decide +kernel
theorem dX1_leastRank_24 : decode cX1_leastRank 24 = .ok (.bipush 10, 2) := by decide +kernel
theorem dX1_leastRank_26 : decode cX1_leastRank 26 = .ok (.if_icmp .ge 31, 3) := by decide +kernel
theorem dX1_leastRank_29 : decode cX1_leastRank 29 = .ok (.aload_n 0, 1) := by decide +kernel
theorem dX1_leastRank_30 : decode cX1_leastRank 30 = .ok (.getfield 60, 3) := by decide +kernel
theorem dX1_leastRank_33 : decode cX1_leastRank 33 = .ok (.iload_n 2, 1) := by decide +kernel
theorem dX1_leastRank_34 : decode cX1_leastRank 34 = .ok (.aload_n 0, 1) := by decide +kernel
theorem dX1_leastRank_35 : decode cX1_leastRank 35 = .ok (.getfield 23, 3) := by decide +kernel
theorem dX1_leastRank_38 : decode cX1_leastRank 38 = .ok (.iload_n 2, 1) := by decide +kernel
theorem dX1_leastRank_39 : decode cX1_leastRank 39 = .ok (.baload, 1) := by decide +kernel
theorem dX1_leastRank_40 : decode cX1_leastRank 40 = .ok (.ifCond .eq 7, 3) := by decide +kernel
theorem dX1_leastRank_43 : decode cX1_leastRank 43 = .ok (.iconst 0, 1) := by decide +kernel
theorem dX1_leastRank_44 : decode cX1_leastRank 44 = .ok (.goto 6, 3) := by decide +kernel
theorem dX1_leastRank_47 : decode cX1_leastRank 47 = .ok (.sipush 10000, 3) := by decide +kernel
theorem dX1_leastRank_50 : decode cX1_leastRank 50 = .ok (.iastore, 1) := by decide +kernel
theorem dX1_leastRank_51 : decode cX1_leastRank 51 = .ok (.iinc 2 1, 3) := by decide +kernel
theorem dX1_leastRank_54 : decode cX1_leastRank 54 = .ok (.goto (-31), 3) := by decide +kernel
theorem dX1_leastRank_57 : decode cX1_leastRank 57 = .ok (.iconst 0, 1) := by decide +kernel
theorem dX1_leastRank_58 : decode cX1_leastRank 58 = .ok (.istore_n 2, 1) := by decide +kernel
theorem dX1_leastRank_59 : decode cX1_leastRank 59 = .ok (.iload_n 2, 1) := by decide +kernel
theorem dX1_leastRank_60 : decode cX1_leastRank 60 = .ok (.bipush 10, 2) := by decide +kernel
theorem dX1_leastRank_62 : decode cX1_leastRank 62 = .ok (.if_icmp .ge 114, 3) := by decide +kernel
theorem dX1_leastRank_65 : decode cX1_leastRank 65 = .ok (.iconst 0, 1) := by decide +kernel
theorem dX1_leastRank_66 : decode cX1_leastRank 66 = .ok (.istore_n 3, 1) := by decide +kernel
theorem dX1_leastRank_67 : decode cX1_leastRank 67 = .ok (.iload_n 3, 1) := by decide +kernel
theorem dX1_leastRank_68 : decode cX1_leastRank 68 = .ok (.bipush 100, 2) := by decide +kernel
theorem dX1_leastRank_70 : decode cX1_leastRank 70 = .ok (.if_icmp .ge 100, 3) := by decide +kernel
theorem dX1_leastRank_73 : decode cX1_leastRank 73 = .ok (.aload_n 0, 1) := by decide +kernel
theorem dX1_leastRank_74 : decode cX1_leastRank 74 = .ok (.getfield 60, 3) := by decide +kernel
theorem dX1_leastRank_77 : decode cX1_leastRank 77 = .ok (.iload_n 3, 1) := by decide +kernel
theorem dX1_leastRank_78 : decode cX1_leastRank 78 = .ok (.bipush 10, 2) := by decide +kernel
theorem dX1_leastRank_80 : decode cX1_leastRank 80 = .ok (.idiv, 1) := by decide +kernel
theorem dX1_leastRank_81 : decode cX1_leastRank 81 = .ok (.iaload, 1) := by decide +kernel
theorem dX1_leastRank_82 : decode cX1_leastRank 82 = .ok (.aload_n 0, 1) := by decide +kernel
theorem dX1_leastRank_83 : decode cX1_leastRank 83 = .ok (.getfield 19, 3) := by decide +kernel
theorem dX1_leastRank_86 : decode cX1_leastRank 86 = .ok (.iload_n 3, 1) := by decide +kernel
theorem dX1_leastRank_87 : decode cX1_leastRank 87 = .ok (.iaload, 1) := by decide +kernel
theorem dX1_leastRank_88 : decode cX1_leastRank 88 = .ok (.iadd, 1) := by decide +kernel
theorem dX1_leastRank_89 : decode cX1_leastRank 89 = .ok (.istore 4, 2) := by decide +kernel
theorem dX1_leastRank_91 : decode cX1_leastRank 91 = .ok (.aload_n 0, 1) := by decide +kernel
theorem dX1_leastRank_92 : decode cX1_leastRank 92 = .ok (.getfield 19, 3) := by decide +kernel
theorem dX1_leastRank_95 : decode cX1_leastRank 95 = .ok (.iload_n 3, 1) := by decide +kernel
theorem dX1_leastRank_96 : decode cX1_leastRank 96 = .ok (.iaload, 1) := by decide +kernel
theorem dX1_leastRank_97 : decode cX1_leastRank 97 = .ok (.ifCond .le 36, 3) := by decide +kernel
theorem dX1_leastRank_100 : decode cX1_leastRank 100 = .ok (.aload_n 0, 1) := by decide +kernel
theorem dX1_leastRank_101 : decode cX1_leastRank 101 = .ok (.getfield 60, 3) := by decide +kernel
theorem dX1_leastRank_104 : decode cX1_leastRank 104 = .ok (.iload_n 3, 1) := by decide +kernel
theorem dX1_leastRank_105 : decode cX1_leastRank 105 = .ok (.bipush 10, 2) := by decide +kernel
theorem dX1_leastRank_107 : decode cX1_leastRank 107 = .ok (.idiv, 1) := by decide +kernel
theorem dX1_leastRank_108 : decode cX1_leastRank 108 = .ok (.iaload, 1) := by decide +kernel
theorem dX1_leastRank_109 : decode cX1_leastRank 109 = .ok (.sipush 10000, 3) := by decide +kernel
theorem dX1_leastRank_112 : decode cX1_leastRank 112 = .ok (.if_icmp .ge 21, 3) := by decide +kernel
theorem dX1_leastRank_115 : decode cX1_leastRank 115 = .ok (.iload 4, 2) := by decide +kernel
theorem dX1_leastRank_117 : decode cX1_leastRank 117 = .ok (.aload_n 0, 1) := by decide +kernel
theorem dX1_leastRank_118 : decode cX1_leastRank 118 = .ok (.getfield 60, 3) := by decide +kernel
theorem dX1_leastRank_121 : decode cX1_leastRank 121 = .ok (.iload_n 3, 1) := by decide +kernel
theorem dX1_leastRank_122 : decode cX1_leastRank 122 = .ok (.bipush 10, 2) := by decide +kernel
theorem dX1_leastRank_124 : decode cX1_leastRank 124 = .ok (.irem, 1) := by decide +kernel
theorem dX1_leastRank_125 : decode cX1_leastRank 125 = .ok (.iaload, 1) := by decide +kernel
theorem dX1_leastRank_126 : decode cX1_leastRank 126 = .ok (.if_icmp .ge 7, 3) := by decide +kernel
theorem dX1_leastRank_129 : decode cX1_leastRank 129 = .ok (.iconst 1, 1) := by decide +kernel
theorem dX1_leastRank_130 : decode cX1_leastRank 130 = .ok (.goto 4, 3) := by decide +kernel
theorem dX1_leastRank_133 : decode cX1_leastRank 133 = .ok (.iconst 0, 1) := by decide +kernel
theorem dX1_leastRank_134 : decode cX1_leastRank 134 = .ok (.istore 5, 2) := by decide +kernel
theorem dX1_leastRank_136 : decode cX1_leastRank 136 = .ok (.aload_n 0, 1) := by decide +kernel
theorem dX1_leastRank_137 : decode cX1_leastRank 137 = .ok (.getfield 60, 3) := by decide +kernel
theorem dX1_leastRank_140 : decode cX1_leastRank 140 = .ok (.iload_n 3, 1) := by decide +kernel
theorem dX1_leastRank_141 : decode cX1_leastRank 141 = .ok (.bipush 10, 2) := by decide +kernel
theorem dX1_leastRank_143 : decode cX1_leastRank 143 = .ok (.irem, 1) := by decide +kernel
theorem dX1_leastRank_144 : decode cX1_leastRank 144 = .ok (.iload 5, 2) := by decide +kernel
theorem dX1_leastRank_146 : decode cX1_leastRank 146 = .ok (.ifCond .eq 8, 3) := by decide +kernel
theorem dX1_leastRank_149 : decode cX1_leastRank 149 = .ok (.iload 4, 2) := by decide +kernel
theorem dX1_leastRank_151 : decode cX1_leastRank 151 = .ok (.goto 12, 3) := by decide +kernel
theorem dX1_leastRank_154 : decode cX1_leastRank 154 = .ok (.aload_n 0, 1) := by decide +kernel
theorem dX1_leastRank_155 : decode cX1_leastRank 155 = .ok (.getfield 60, 3) := by decide +kernel
theorem dX1_leastRank_158 : decode cX1_leastRank 158 = .ok (.iload_n 3, 1) := by decide +kernel
theorem dX1_leastRank_159 : decode cX1_leastRank 159 = .ok (.bipush 10, 2) := by decide +kernel
theorem dX1_leastRank_161 : decode cX1_leastRank 161 = .ok (.irem, 1) := by decide +kernel
theorem dX1_leastRank_162 : decode cX1_leastRank 162 = .ok (.iaload, 1) := by decide +kernel
theorem dX1_leastRank_163 : decode cX1_leastRank 163 = .ok (.iastore, 1) := by decide +kernel
theorem dX1_leastRank_164 : decode cX1_leastRank 164 = .ok (.iinc 3 1, 3) := by decide +kernel
theorem dX1_leastRank_167 : decode cX1_leastRank 167 = .ok (.goto (-100), 3) := by decide +kernel
theorem dX1_leastRank_170 : decode cX1_leastRank 170 = .ok (.iinc 2 1, 3) := by decide +kernel
theorem dX1_leastRank_173 : decode cX1_leastRank 173 = .ok (.goto (-114), 3) := by decide +kernel
theorem dX1_leastRank_176 : decode cX1_leastRank 176 = .ok (.aload_n 0, 1) := by decide +kernel
theorem dX1_leastRank_177 : decode cX1_leastRank 177 = .ok (.getfield 60, 3) := by decide +kernel
theorem dX1_leastRank_180 : decode cX1_leastRank 180 = .ok (.iload_n 1, 1) := by decide +kernel
theorem dX1_leastRank_181 : decode cX1_leastRank 181 = .ok (.iaload, 1) := by decide +kernel
theorem dX1_leastRank_182 : decode cX1_leastRank 182 = .ok (.ireturn, 1) := by decide +kernel
set_option maxRecDepth 20000 in
theorem ggX1_up_X1_isNode : GoodIn wsX1_up wsX1_isNode := goodIn_r _ [8, 9, 10, 7, 11] (by decide +kernel) (by decide +kernel)
set_option maxRecDepth 20000 in
theorem gX1_up_X1_isNode : GoodIn wsX1_up (va_wsS RX1 99 yX1_isNode wsX1_isNode) := goodIn_app (goodIn_of _ (by decide +kernel)) ggX1_up_X1_isNode
set_option maxRecDepth 20000 in
theorem ggX1_up_X1_fails : GoodIn wsX1_up wsX1_fails := goodIn_r _ [15, 16, 17, 18, 19, 20, 21, 22, 23, 24, 25, 26, 27, 28, 29, 30, 31, 32, 33, 34, 35, 36, 37] (by decide +kernel) (by decide +kernel)
set_option maxRecDepth 20000 in
theorem gX1_up_X1_fails : GoodIn wsX1_up (wsV RX1 95 RX1 yX1_fails wsX1_fails) := goodIn_app (goodIn_of _ (by decide +kernel)) ggX1_up_X1_fails
theorem dX1_up_0 : decode cX1_up 0 = .ok (.aload_n 0, 1) := by decide +kernel
theorem dX1_up_1 : decode cX1_up 1 = .ok (.iload_n 1, 1) := by decide +kernel
theorem dX1_up_2 : decode cX1_up 2 = .ok (.invokestatic 99, 3) := by decide +kernel
theorem dX1_up_5 : decode cX1_up 5 = .ok (.ifCond .eq 7, 3) := by decide +kernel
theorem dX1_up_8 : decode cX1_up 8 = .ok (.iconst 0, 1) := by decide +kernel
theorem dX1_up_9 : decode cX1_up 9 = .ok (.goto 4, 3) := by decide +kernel
theorem dX1_up_12 : decode cX1_up 12 = .ok (.iconst 1, 1) := by decide +kernel
theorem dX1_up_13 : decode cX1_up 13 = .ok (.invokevirtual 95, 3) := by decide +kernel
theorem dX1_up_16 : decode cX1_up 16 = .ok (.ifCond .eq 5, 3) := by decide +kernel
theorem dX1_up_19 : decode cX1_up 19 = .ok (.iconst 0, 1) := by decide +kernel
theorem dX1_up_20 : decode cX1_up 20 = .ok (.ireturn, 1) := by decide +kernel
theorem dX1_up_21 : decode cX1_up 21 = .ok (.iload_n 1, 1) := by decide +kernel
theorem dX1_up_22 : decode cX1_up 22 = .ok (.istore_n 2, 1) := by decide +kernel
theorem dX1_up_23 : decode cX1_up 23 = .ok (.iconst 0, 1) := by decide +kernel
theorem dX1_up_24 : decode cX1_up 24 = .ok (.istore_n 3, 1) := by decide +kernel
theorem dX1_up_25 : decode cX1_up 25 = .ok (.iconst 0, 1) := by decide +kernel
theorem dX1_up_26 : decode cX1_up 26 = .ok (.istore 4, 2) := by decide +kernel
theorem dX1_up_28 : decode cX1_up 28 = .ok (.aload_n 0, 1) := by decide +kernel
theorem dX1_up_29 : decode cX1_up 29 = .ok (.getfield 23, 3) := by decide +kernel
theorem dX1_up_32 : decode cX1_up 32 = .ok (.iload_n 2, 1) := by decide +kernel
theorem dX1_up_33 : decode cX1_up 33 = .ok (.baload, 1) := by decide +kernel
theorem dX1_up_34 : decode cX1_up 34 = .ok (.ifCond .ne 75, 3) := by decide +kernel
theorem dX1_up_37 : decode cX1_up 37 = .ok (.aload_n 0, 1) := by decide +kernel
theorem dX1_up_38 : decode cX1_up 38 = .ok (.getfield 39, 3) := by decide +kernel
theorem dX1_up_41 : decode cX1_up 41 = .ok (.iload_n 2, 1) := by decide +kernel
theorem dX1_up_42 : decode cX1_up 42 = .ok (.iaload, 1) := by decide +kernel
theorem dX1_up_43 : decode cX1_up 43 = .ok (.iconst (-1), 1) := by decide +kernel
theorem dX1_up_44 : decode cX1_up 44 = .ok (.if_icmp .eq 65, 3) := by decide +kernel
theorem dX1_up_47 : decode cX1_up 47 = .ok (.aload_n 0, 1) := by decide +kernel
theorem dX1_up_48 : decode cX1_up 48 = .ok (.getfield 39, 3) := by decide +kernel
theorem dX1_up_51 : decode cX1_up 51 = .ok (.iload_n 2, 1) := by decide +kernel
theorem dX1_up_52 : decode cX1_up 52 = .ok (.iaload, 1) := by decide +kernel
theorem dX1_up_53 : decode cX1_up 53 = .ok (.istore 5, 2) := by decide +kernel
theorem dX1_up_55 : decode cX1_up 55 = .ok (.iload 4, 2) := by decide +kernel
theorem dX1_up_57 : decode cX1_up 57 = .ok (.aload_n 0, 1) := by decide +kernel
theorem dX1_up_58 : decode cX1_up 58 = .ok (.getfield 36, 3) := by decide +kernel
theorem dX1_up_61 : decode cX1_up 61 = .ok (.iload 5, 2) := by decide +kernel
theorem dX1_up_63 : decode cX1_up 63 = .ok (.iaload, 1) := by decide +kernel
theorem dX1_up_64 : decode cX1_up 64 = .ok (.aload_n 0, 1) := by decide +kernel
theorem dX1_up_65 : decode cX1_up 65 = .ok (.getfield 36, 3) := by decide +kernel
theorem dX1_up_68 : decode cX1_up 68 = .ok (.iload_n 2, 1) := by decide +kernel
theorem dX1_up_69 : decode cX1_up 69 = .ok (.iaload, 1) := by decide +kernel
theorem dX1_up_70 : decode cX1_up 70 = .ok (.if_icmp .lt 7, 3) := by decide +kernel
theorem dX1_up_73 : decode cX1_up 73 = .ok (.iconst 1, 1) := by decide +kernel
theorem dX1_up_74 : decode cX1_up 74 = .ok (.goto 4, 3) := by decide +kernel
theorem dX1_up_77 : decode cX1_up 77 = .ok (.iconst 0, 1) := by decide +kernel
theorem dX1_up_78 : decode cX1_up 78 = .ok (.iadd, 1) := by decide +kernel
theorem dX1_up_79 : decode cX1_up 79 = .ok (.istore 4, 2) := by decide +kernel
theorem dX1_up_81 : decode cX1_up 81 = .ok (.iload 4, 2) := by decide +kernel
theorem dX1_up_83 : decode cX1_up 83 = .ok (.iconst 2, 1) := by decide +kernel
theorem dX1_up_84 : decode cX1_up 84 = .ok (.if_icmp .ne 16, 3) := by decide +kernel
theorem dX1_up_87 : decode cX1_up 87 = .ok (.aload_n 0, 1) := by decide +kernel
theorem dX1_up_88 : decode cX1_up 88 = .ok (.dup, 1) := by decide +kernel
theorem dX1_up_89 : decode cX1_up 89 = .ok (.getfield 112, 3) := by decide +kernel
theorem dX1_up_92 : decode cX1_up 92 = .ok (.iconst 1, 1) := by decide +kernel
theorem dX1_up_93 : decode cX1_up 93 = .ok (.iadd, 1) := by decide +kernel
theorem dX1_up_94 : decode cX1_up 94 = .ok (.putfield 112, 3) := by decide +kernel
theorem dX1_up_97 : decode cX1_up 97 = .ok (.bipush (-2), 2) := by decide +kernel
theorem dX1_up_99 : decode cX1_up 99 = .ok (.ireturn, 1) := by decide +kernel
theorem dX1_up_100 : decode cX1_up 100 = .ok (.iload 5, 2) := by decide +kernel
theorem dX1_up_102 : decode cX1_up 102 = .ok (.istore_n 2, 1) := by decide +kernel
theorem dX1_up_103 : decode cX1_up 103 = .ok (.iinc 3 1, 3) := by decide +kernel
theorem dX1_up_106 : decode cX1_up 106 = .ok (.goto (-78), 3) := by decide +kernel
theorem dX1_up_109 : decode cX1_up 109 = .ok (.aload_n 0, 1) := by decide +kernel
theorem dX1_up_110 : decode cX1_up 110 = .ok (.getfield 23, 3) := by decide +kernel
theorem dX1_up_113 : decode cX1_up 113 = .ok (.iload_n 2, 1) := by decide +kernel
theorem dX1_up_114 : decode cX1_up 114 = .ok (.baload, 1) := by decide +kernel
theorem dX1_up_115 : decode cX1_up 115 = .ok (.ifCond .eq 7, 3) := by decide +kernel
theorem dX1_up_118 : decode cX1_up 118 = .ok (.iload_n 3, 1) := by decide +kernel
theorem dX1_up_119 : decode cX1_up 119 = .ok (.goto 4, 3) := by decide +kernel
theorem dX1_up_122 : decode cX1_up 122 = .ok (.iconst (-1), 1) := by decide +kernel
theorem dX1_up_123 : decode cX1_up 123 = .ok (.ireturn, 1) := by decide +kernel
theorem dX1_loops_0 : decode cX1_loops 0 = .ok (.aload_n 0, 1) := by decide +kernel
theorem dX1_loops_1 : decode cX1_loops 1 = .ok (.iconst 0, 1) := by decide +kernel
theorem dX1_loops_2 : decode cX1_loops 2 = .ok (.putfield 63, 3) := by decide +kernel
theorem dX1_loops_5 : decode cX1_loops 5 = .ok (.aload_n 0, 1) := by decide +kernel
theorem dX1_loops_6 : decode cX1_loops 6 = .ok (.getfield 112, 3) := by decide +kernel
theorem dX1_loops_9 : decode cX1_loops 9 = .ok (.ireturn, 1) := by decide +kernel
theorem dX1_under_0 : decode cX1_under 0 = .ok (.iconst 1, 1) := by decide +kernel
theorem dX1_under_1 : decode cX1_under 1 = .ok (.iload_n 1, 1) := by decide +kernel
theorem dX1_under_2 : decode cX1_under 2 = .ok (.ishl, 1) := by decide +kernel
theorem dX1_under_3 : decode cX1_under 3 = .ok (.istore_n 2, 1) := by decide +kernel
theorem dX1_under_4 : decode cX1_under 4 = .ok (.iconst 0, 1) := by decide +kernel
theorem dX1_under_5 : decode cX1_under 5 = .ok (.istore_n 3, 1) := by decide +kernel
theorem dX1_under_6 : decode cX1_under 6 = .ok (.iload_n 3, 1) := by decide +kernel
theorem dX1_under_7 : decode cX1_under 7 = .ok (.bipush 10, 2) := by decide +kernel
theorem dX1_under_9 : decode cX1_under 9 = .ok (.if_icmp .ge 62, 3) := by decide +kernel
theorem dX1_under_12 : decode cX1_under 12 = .ok (.iconst 0, 1) := by decide +kernel
theorem dX1_under_13 : decode cX1_under 13 = .ok (.istore 4, 2) := by decide +kernel
theorem dX1_under_15 : decode cX1_under 15 = .ok (.iload 4, 2) := by decide +kernel
theorem dX1_under_17 : decode cX1_under 17 = .ok (.bipush 10, 2) := by decide +kernel
theorem dX1_under_19 : decode cX1_under 19 = .ok (.if_icmp .ge 46, 3) := by decide +kernel
theorem dX1_under_22 : decode cX1_under 22 = .ok (.iload_n 2, 1) := by decide +kernel
theorem dX1_under_23 : decode cX1_under 23 = .ok (.aload_n 0, 1) := by decide +kernel
theorem dX1_under_24 : decode cX1_under 24 = .ok (.getfield 39, 3) := by decide +kernel
theorem dX1_under_27 : decode cX1_under 27 = .ok (.iload 4, 2) := by decide +kernel
theorem dX1_under_29 : decode cX1_under 29 = .ok (.iaload, 1) := by decide +kernel
theorem dX1_under_30 : decode cX1_under 30 = .ok (.iconst (-1), 1) := by decide +kernel
theorem dX1_under_31 : decode cX1_under 31 = .ok (.if_icmp .eq 25, 3) := by decide +kernel
theorem dX1_under_34 : decode cX1_under 34 = .ok (.iload_n 2, 1) := by decide +kernel
theorem dX1_under_35 : decode cX1_under 35 = .ok (.aload_n 0, 1) := by decide +kernel
theorem dX1_under_36 : decode cX1_under 36 = .ok (.getfield 39, 3) := by decide +kernel
theorem dX1_under_39 : decode cX1_under 39 = .ok (.iload 4, 2) := by decide +kernel
theorem dX1_under_41 : decode cX1_under 41 = .ok (.iaload, 1) := by decide +kernel
theorem dX1_under_42 : decode cX1_under 42 = .ok (.ishr, 1) := by decide +kernel
theorem dX1_under_43 : decode cX1_under 43 = .ok (.iconst 1, 1) := by decide +kernel
theorem dX1_under_44 : decode cX1_under 44 = .ok (.iand, 1) := by decide +kernel
theorem dX1_under_45 : decode cX1_under 45 = .ok (.iconst 1, 1) := by decide +kernel
theorem dX1_under_46 : decode cX1_under 46 = .ok (.if_icmp .ne 10, 3) := by decide +kernel
theorem dX1_under_49 : decode cX1_under 49 = .ok (.iconst 1, 1) := by decide +kernel
theorem dX1_under_50 : decode cX1_under 50 = .ok (.iload 4, 2) := by decide +kernel
theorem dX1_under_52 : decode cX1_under 52 = .ok (.ishl, 1) := by decide +kernel
theorem dX1_under_53 : decode cX1_under 53 = .ok (.goto 4, 3) := by decide +kernel
theorem dX1_under_56 : decode cX1_under 56 = .ok (.iconst 0, 1) := by decide +kernel
theorem dX1_under_57 : decode cX1_under 57 = .ok (.ior, 1) := by decide +kernel
theorem dX1_under_58 : decode cX1_under 58 = .ok (.istore_n 2, 1) := by decide +kernel
theorem dX1_under_59 : decode cX1_under 59 = .ok (.iinc 4 1, 3) := by decide +kernel
theorem dX1_under_62 : decode cX1_under 62 = .ok (.goto (-47), 3) := by decide +kernel
theorem dX1_under_65 : decode cX1_under 65 = .ok (.iinc 3 1, 3) := by decide +kernel
theorem dX1_under_68 : decode cX1_under 68 = .ok (.goto (-62), 3) := by decide +kernel
theorem dX1_under_71 : decode cX1_under 71 = .ok (.iload_n 2, 1) := by decide +kernel
theorem dX1_under_72 : decode cX1_under 72 = .ok (.ireturn, 1) := by decide +kernel
set_option maxRecDepth 20000 in
theorem ggX1_below_X1_isNode : GoodIn wsX1_below wsX1_isNode := goodIn_r _ [4, 5, 6, 3, 7] (by decide +kernel) (by decide +kernel)
set_option maxRecDepth 20000 in
theorem gX1_below_X1_isNode : GoodIn wsX1_below (va_wsS RX1 99 yX1_isNode wsX1_isNode) := goodIn_app (goodIn_of _ (by decide +kernel)) ggX1_below_X1_isNode
set_option maxRecDepth 20000 in
theorem ggX1_below_X1_fails : GoodIn wsX1_below wsX1_fails := goodIn_r _ [11, 12, 18, 19, 20, 21, 22, 23, 24, 25, 26, 27, 28, 29, 30, 31, 32, 33, 34, 35, 36, 37, 38] (by decide +kernel) (by decide +kernel)
set_option maxRecDepth 20000 in
theorem gX1_below_X1_fails : GoodIn wsX1_below (wsV RX1 95 RX1 yX1_fails wsX1_fails) := goodIn_app (goodIn_of _ (by decide +kernel)) ggX1_below_X1_fails
