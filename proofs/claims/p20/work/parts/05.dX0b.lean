theorem dX0_up_31 : decode cX0_up 31 = .ok (.getfield 62, 3) := by decide +kernel
theorem dX0_up_34 : decode cX0_up 34 = .ok (.iload_n 2, 1) := by decide +kernel
theorem dX0_up_35 : decode cX0_up 35 = .ok (.iaload, 1) := by decide +kernel
theorem dX0_up_36 : decode cX0_up 36 = .ok (.istore 5, 2) := by decide +kernel
theorem dX0_up_38 : decode cX0_up 38 = .ok (.iload 5, 2) := by decide +kernel
theorem dX0_up_40 : decode cX0_up 40 = .ok (.invokestatic 121, 3) := by decide +kernel
theorem dX0_up_43 : decode cX0_up 43 = .ok (.ifCond .ne 5, 3) := by decide +kernel
theorem dX0_up_46 : decode cX0_up 46 = .ok (.iconst (-1), 1) := by decide +kernel
theorem dX0_up_47 : decode cX0_up 47 = .ok (.ireturn, 1) := by decide +kernel
theorem dX0_up_48 : decode cX0_up 48 = .ok (.aload_n 0, 1) := by decide +kernel
theorem dX0_up_49 : decode cX0_up 49 = .ok (.getfield 56, 3) := by decide +kernel
theorem dX0_up_52 : decode cX0_up 52 = .ok (.iload 5, 2) := by decide +kernel
theorem dX0_up_54 : decode cX0_up 54 = .ok (.iaload, 1) := by decide +kernel
theorem dX0_up_55 : decode cX0_up 55 = .ok (.aload_n 0, 1) := by decide +kernel
theorem dX0_up_56 : decode cX0_up 56 = .ok (.getfield 56, 3) := by decide +kernel
theorem dX0_up_59 : decode cX0_up 59 = .ok (.iload_n 2, 1) := by decide +kernel
theorem dX0_up_60 : decode cX0_up 60 = .ok (.iaload, 1) := by decide +kernel
theorem dX0_up_61 : decode cX0_up 61 = .ok (.if_icmp .lt 7, 3) := by decide +kernel
theorem dX0_up_64 : decode cX0_up 64 = .ok (.iconst 1, 1) := by decide +kernel
theorem dX0_up_65 : decode cX0_up 65 = .ok (.goto 4, 3) := by decide +kernel
theorem dX0_up_68 : decode cX0_up 68 = .ok (.iconst 0, 1) := by decide +kernel
theorem dX0_up_69 : decode cX0_up 69 = .ok (.istore 6, 2) := by decide +kernel
theorem dX0_up_71 : decode cX0_up 71 = .ok (.iload 6, 2) := by decide +kernel
theorem dX0_up_73 : decode cX0_up 73 = .ok (.ifCond .eq 10, 3) := by decide +kernel
theorem dX0_up_76 : decode cX0_up 76 = .ok (.iload_n 3, 1) := by decide +kernel
theorem dX0_up_77 : decode cX0_up 77 = .ok (.ifCond .eq 6, 3) := by decide +kernel
theorem dX0_up_80 : decode cX0_up 80 = .ok (.goto 27, 3) := by decide +kernel
theorem dX0_up_83 : decode cX0_up 83 = .ok (.iload_n 3, 1) := by decide +kernel
theorem dX0_up_84 : decode cX0_up 84 = .ok (.ifCond .ne 8, 3) := by decide +kernel
theorem dX0_up_87 : decode cX0_up 87 = .ok (.iload 6, 2) := by decide +kernel
theorem dX0_up_89 : decode cX0_up 89 = .ok (.ifCond .eq 7, 3) := by decide +kernel
theorem dX0_up_92 : decode cX0_up 92 = .ok (.iconst 1, 1) := by decide +kernel
theorem dX0_up_93 : decode cX0_up 93 = .ok (.goto 4, 3) := by decide +kernel
theorem dX0_up_96 : decode cX0_up 96 = .ok (.iconst 0, 1) := by decide +kernel
theorem dX0_up_97 : decode cX0_up 97 = .ok (.istore_n 3, 1) := by decide +kernel
theorem dX0_up_98 : decode cX0_up 98 = .ok (.iload 5, 2) := by decide +kernel
theorem dX0_up_100 : decode cX0_up 100 = .ok (.istore_n 2, 1) := by decide +kernel
theorem dX0_up_101 : decode cX0_up 101 = .ok (.iinc 4 1, 3) := by decide +kernel
theorem dX0_up_104 : decode cX0_up 104 = .ok (.goto (-93), 3) := by decide +kernel
theorem dX0_up_107 : decode cX0_up 107 = .ok (.aload_n 0, 1) := by decide +kernel
theorem dX0_up_108 : decode cX0_up 108 = .ok (.dup, 1) := by decide +kernel
theorem dX0_up_109 : decode cX0_up 109 = .ok (.getfield 25, 3) := by decide +kernel
theorem dX0_up_112 : decode cX0_up 112 = .ok (.iconst 1, 1) := by decide +kernel
theorem dX0_up_113 : decode cX0_up 113 = .ok (.iadd, 1) := by decide +kernel
theorem dX0_up_114 : decode cX0_up 114 = .ok (.putfield 25, 3) := by decide +kernel
theorem dX0_up_117 : decode cX0_up 117 = .ok (.bipush (-2), 2) := by decide +kernel
theorem dX0_up_119 : decode cX0_up 119 = .ok (.ireturn, 1) := by decide +kernel
theorem dX0_loops_0 : decode cX0_loops 0 = .ok (.aload_n 0, 1) := by decide +kernel
theorem dX0_loops_1 : decode cX0_loops 1 = .ok (.getfield 25, 3) := by decide +kernel
theorem dX0_loops_4 : decode cX0_loops 4 = .ok (.ireturn, 1) := by decide +kernel
set_option maxRecDepth 20000 in
theorem ggX0_below_X0_requireNode : GoodIn wsX0_below wsX0_requireNode := goodIn_ca (goodIn_r _ [4, 5, 6, 7, 8, 3, 9] (by decide +kernel) (by decide +kernel)) (goodIn_sub (fun _ h => List.mem_cons_of_mem _ (List.mem_append_right _ h)) (by decide +kernel))
set_option maxRecDepth 20000 in
theorem gX0_below_X0_requireNode : GoodIn wsX0_below (va_wsS RX0 89 yX0_requireNode wsX0_requireNode) := goodIn_app (goodIn_of _ (by decide +kernel)) ggX0_below_X0_requireNode
set_option maxRecDepth 20000 in
theorem ggX0_below_X0_childrenOf : GoodIn wsX0_below wsX0_childrenOf := goodIn_r _ [13, 14, 7, 8, 3, 9, 15, 16, 17, 18, 19, 20, 21, 22, 23, 24, 25, 26, 27, 28, 29, 30, 31, 32, 33, 34] (by decide +kernel) (by decide +kernel)
set_option maxRecDepth 20000 in
theorem gX0_below_X0_childrenOf : GoodIn wsX0_below (wsV RX0 125 RX0 yX0_childrenOf wsX0_childrenOf) := goodIn_app (goodIn_of _ (by decide +kernel)) ggX0_below_X0_childrenOf
theorem dX0_below_0 : decode cX0_below 0 = .ok (.iload_n 1, 1) := by decide +kernel
theorem dX0_below_1 : decode cX0_below 1 = .ok (.invokestatic 89, 3) := by decide +kernel
theorem dX0_below_4 : decode cX0_below 4 = .ok (.iconst 1, 1) := by decide +kernel
theorem dX0_below_5 : decode cX0_below 5 = .ok (.iload_n 1, 1) := by decide +kernel
theorem dX0_below_6 : decode cX0_below 6 = .ok (.ishl, 1) := by decide +kernel
theorem dX0_below_7 : decode cX0_below 7 = .ok (.istore_n 2, 1) := by decide +kernel
theorem dX0_below_8 : decode cX0_below 8 = .ok (.iconst 1, 1) := by decide +kernel
theorem dX0_below_9 : decode cX0_below 9 = .ok (.istore_n 3, 1) := by decide +kernel
theorem dX0_below_10 : decode cX0_below 10 = .ok (.iload_n 3, 1) := by decide +kernel
theorem dX0_below_11 : decode cX0_below 11 = .ok (.bipush 10, 2) := by decide +kernel
theorem dX0_below_13 : decode cX0_below 13 = .ok (.if_icmp .ge 17, 3) := by decide +kernel
theorem dX0_below_16 : decode cX0_below 16 = .ok (.iload_n 2, 1) := by decide +kernel
theorem dX0_below_17 : decode cX0_below 17 = .ok (.aload_n 0, 1) := by decide +kernel
theorem dX0_below_18 : decode cX0_below 18 = .ok (.iload_n 2, 1) := by decide +kernel
theorem dX0_below_19 : decode cX0_below 19 = .ok (.invokevirtual 125, 3) := by decide +kernel
theorem dX0_below_22 : decode cX0_below 22 = .ok (.ior, 1) := by decide +kernel
theorem dX0_below_23 : decode cX0_below 23 = .ok (.istore_n 2, 1) := by decide +kernel
theorem dX0_below_24 : decode cX0_below 24 = .ok (.iinc 3 1, 3) := by decide +kernel
theorem dX0_below_27 : decode cX0_below 27 = .ok (.goto (-17), 3) := by decide +kernel
theorem dX0_below_30 : decode cX0_below 30 = .ok (.iload_n 2, 1) := by decide +kernel
theorem dX0_below_31 : decode cX0_below 31 = .ok (.ireturn, 1) := by decide +kernel
set_option maxRecDepth 20000 in
theorem ggX0_down_X0_requireNode : GoodIn wsX0_down wsX0_requireNode := goodIn_ca (goodIn_r _ [7, 8, 9, 10, 11, 6, 12] (by decide +kernel) (by decide +kernel)) (goodIn_sub (fun _ h => List.mem_cons_of_mem _ (List.mem_append_right _ h)) (by decide +kernel))
set_option maxRecDepth 20000 in
theorem gX0_down_X0_requireNode : GoodIn wsX0_down (va_wsS RX0 89 yX0_requireNode wsX0_requireNode) := goodIn_app (goodIn_of _ (by decide +kernel)) ggX0_down_X0_requireNode
set_option maxRecDepth 20000 in
theorem ggX0_down_X0_isNode : GoodIn wsX0_down wsX0_isNode := goodIn_r _ [12] (by decide +kernel) (by decide +kernel)
set_option maxRecDepth 20000 in
theorem gX0_down_X0_isNode : GoodIn wsX0_down (va_wsS RX0 121 yX0_isNode wsX0_isNode) := goodIn_app (goodIn_of _ (by decide +kernel)) ggX0_down_X0_isNode
theorem dX0_down_0 : decode cX0_down 0 = .ok (.iload_n 1, 1) := by decide +kernel
theorem dX0_down_1 : decode cX0_down 1 = .ok (.invokestatic 89, 3) := by decide +kernel
theorem dX0_down_4 : decode cX0_down 4 = .ok (.iload_n 2, 1) := by decide +kernel
theorem dX0_down_5 : decode cX0_down 5 = .ok (.invokestatic 89, 3) := by decide +kernel
theorem dX0_down_8 : decode cX0_down 8 = .ok (.iload_n 1, 1) := by decide +kernel
theorem dX0_down_9 : decode cX0_down 9 = .ok (.iload_n 2, 1) := by decide +kernel
theorem dX0_down_10 : decode cX0_down 10 = .ok (.if_icmp .ne 13, 3) := by decide +kernel
theorem dX0_down_13 : decode cX0_down 13 = .ok (.new 102, 3) := by decide +kernel
theorem dX0_down_16 : decode cX0_down 16 = .ok (.dup, 1) := by decide +kernel
theorem dX0_down_17 : decode cX0_down 17 = .ok (.ldc 128, 2) := by decide +kernel
theorem dX0_down_19 : decode cX0_down 19 = .ok (.invokespecial 106, 3) := by decide +kernel
theorem dX0_down_22 : decode cX0_down 22 = .ok (.athrow, 1) := by decide +kernel
theorem dX0_down_23 : decode cX0_down 23 = .ok (.iload_n 2, 1) := by decide +kernel
theorem dX0_down_24 : decode cX0_down 24 = .ok (.istore_n 3, 1) := by decide +kernel
theorem dX0_down_25 : decode cX0_down 25 = .ok (.iconst 0, 1) := by decide +kernel
theorem dX0_down_26 : decode cX0_down 26 = .ok (.istore 4, 2) := by decide +kernel
theorem dX0_down_28 : decode cX0_down 28 = .ok (.iload 4, 2) := by decide +kernel
theorem dX0_down_30 : decode cX0_down 30 = .ok (.bipush 10, 2) := by decide +kernel
theorem dX0_down_32 : decode cX0_down 32 = .ok (.if_icmp .ge 35, 3) := by decide +kernel
theorem dX0_down_35 : decode cX0_down 35 = .ok (.iload_n 3, 1) := by decide +kernel
theorem dX0_down_36 : decode cX0_down 36 = .ok (.invokestatic 121, 3) := by decide +kernel
theorem dX0_down_39 : decode cX0_down 39 = .ok (.ifCond .eq 28, 3) := by decide +kernel
theorem dX0_down_42 : decode cX0_down 42 = .ok (.aload_n 0, 1) := by decide +kernel
theorem dX0_down_43 : decode cX0_down 43 = .ok (.getfield 62, 3) := by decide +kernel
theorem dX0_down_46 : decode cX0_down 46 = .ok (.iload_n 3, 1) := by decide +kernel
theorem dX0_down_47 : decode cX0_down 47 = .ok (.iaload, 1) := by decide +kernel
theorem dX0_down_48 : decode cX0_down 48 = .ok (.iload_n 1, 1) := by decide +kernel
theorem dX0_down_49 : decode cX0_down 49 = .ok (.if_icmp .ne 5, 3) := by decide +kernel
theorem dX0_down_52 : decode cX0_down 52 = .ok (.iload_n 3, 1) := by decide +kernel
theorem dX0_down_53 : decode cX0_down 53 = .ok (.ireturn, 1) := by decide +kernel
theorem dX0_down_54 : decode cX0_down 54 = .ok (.aload_n 0, 1) := by decide +kernel
theorem dX0_down_55 : decode cX0_down 55 = .ok (.getfield 62, 3) := by decide +kernel
theorem dX0_down_58 : decode cX0_down 58 = .ok (.iload_n 3, 1) := by decide +kernel
theorem dX0_down_59 : decode cX0_down 59 = .ok (.iaload, 1) := by decide +kernel
theorem dX0_down_60 : decode cX0_down 60 = .ok (.istore_n 3, 1) := by decide +kernel
theorem dX0_down_61 : decode cX0_down 61 = .ok (.iinc 4 1, 3) := by decide +kernel
theorem dX0_down_64 : decode cX0_down 64 = .ok (.goto (-36), 3) := by decide +kernel
theorem dX0_down_67 : decode cX0_down 67 = .ok (.new 102, 3) := by decide +kernel
theorem dX0_down_70 : decode cX0_down 70 = .ok (.dup, 1) := by decide +kernel
theorem dX0_down_71 : decode cX0_down 71 = .ok (.ldc 130, 2) := by decide +kernel
theorem dX0_down_73 : decode cX0_down 73 = .ok (.invokespecial 106, 3) := by decide +kernel
theorem dX0_down_76 : decode cX0_down 76 = .ok (.athrow, 1) := by decide +kernel
theorem dX0_isNode_0 : decode cX0_isNode 0 = .ok (.iload_n 0, 1) := by decide +kernel
theorem dX0_isNode_1 : decode cX0_isNode 1 = .ok (.ifCond .lt 13, 3) := by decide +kernel
theorem dX0_isNode_4 : decode cX0_isNode 4 = .ok (.iload_n 0, 1) := by decide +kernel
theorem dX0_isNode_5 : decode cX0_isNode 5 = .ok (.bipush 10, 2) := by decide +kernel
theorem dX0_isNode_7 : decode cX0_isNode 7 = .ok (.if_icmp .ge 7, 3) := by decide +kernel
theorem dX0_isNode_10 : decode cX0_isNode 10 = .ok (.iconst 1, 1) := by decide +kernel
theorem dX0_isNode_11 : decode cX0_isNode 11 = .ok (.goto 4, 3) := by decide +kernel
theorem dX0_isNode_14 : decode cX0_isNode 14 = .ok (.iconst 0, 1) := by decide +kernel
theorem dX0_isNode_15 : decode cX0_isNode 15 = .ok (.ireturn, 1) := by decide +kernel
set_option maxRecDepth 20000 in
theorem ggX0_requireNode_X0_isNode : GoodIn wsX0_requireNode wsX0_isNode := goodIn_r _ [6] (by decide +kernel) (by decide +kernel)
set_option maxRecDepth 20000 in
theorem gX0_requireNode_X0_isNode : GoodIn wsX0_requireNode (va_wsS RX0 121 yX0_isNode wsX0_isNode) := goodIn_app (goodIn_of _ (by decide +kernel)) ggX0_requireNode_X0_isNode
theorem dX0_requireNode_0 : decode cX0_requireNode 0 = .ok (.iload_n 0, 1) := by decide +kernel
theorem dX0_requireNode_1 : decode cX0_requireNode 1 = .ok (.invokestatic 121, 3) := by decide +kernel
theorem dX0_requireNode_4 : decode cX0_requireNode 4 = .ok (.ifCond .ne 13, 3) := by decide +kernel
theorem dX0_requireNode_7 : decode cX0_requireNode 7 = .ok (.new 132, 3) := by decide +kernel
theorem dX0_requireNode_10 : decode cX0_requireNode 10 = .ok (.dup, 1) := by decide +kernel
theorem dX0_requireNode_11 : decode cX0_requireNode 11 = .ok (.ldc 134, 2) := by decide +kernel
theorem dX0_requireNode_13 : decode cX0_requireNode 13 = .ok (.invokespecial 136, 3) := by decide +kernel
theorem dX0_requireNode_16 : decode cX0_requireNode 16 = .ok (.athrow, 1) := by decide +kernel
theorem dX0_requireNode_17 : decode cX0_requireNode 17 = .ok (.return_, 1) := by decide +kernel
set_option maxRecDepth 20000 in
theorem ggX0_requireRoot_X0_requireNode : GoodIn wsX0_requireRoot wsX0_requireNode := goodIn_ca (goodIn_r _ [7, 8, 9, 10, 11, 6, 12] (by decide +kernel) (by decide +kernel)) (goodIn_sub (fun _ h => List.mem_cons_of_mem _ (List.mem_append_right _ h)) (by decide +kernel))
set_option maxRecDepth 20000 in
theorem gX0_requireRoot_X0_requireNode : GoodIn wsX0_requireRoot (va_wsS RX0 89 yX0_requireNode wsX0_requireNode) := goodIn_app (goodIn_of _ (by decide +kernel)) ggX0_requireRoot_X0_requireNode
theorem dX0_requireRoot_0 : decode cX0_requireRoot 0 = .ok (.iload_n 1, 1) := by decide +kernel
theorem dX0_requireRoot_1 : decode cX0_requireRoot 1 = .ok (.invokestatic 89, 3) := by decide +kernel
theorem dX0_requireRoot_4 : decode cX0_requireRoot 4 = .ok (.aload_n 0, 1) := by decide +kernel
theorem dX0_requireRoot_5 : decode cX0_requireRoot 5 = .ok (.getfield 42, 3) := by decide +kernel
theorem dX0_requireRoot_8 : decode cX0_requireRoot 8 = .ok (.iload_n 1, 1) := by decide +kernel
theorem dX0_requireRoot_9 : decode cX0_requireRoot 9 = .ok (.baload, 1) := by decide +kernel
theorem dX0_requireRoot_10 : decode cX0_requireRoot 10 = .ok (.ifCond .ne 13, 3) := by decide +kernel
theorem dX0_requireRoot_13 : decode cX0_requireRoot 13 = .ok (.new 102, 3) := by decide +kernel
theorem dX0_requireRoot_16 : decode cX0_requireRoot 16 = .ok (.dup, 1) := by decide +kernel
theorem dX0_requireRoot_17 : decode cX0_requireRoot 17 = .ok (.ldc 137, 2) := by decide +kernel
theorem dX0_requireRoot_19 : decode cX0_requireRoot 19 = .ok (.invokespecial 106, 3) := by decide +kernel
theorem dX0_requireRoot_22 : decode cX0_requireRoot 22 = .ok (.athrow, 1) := by decide +kernel
theorem dX0_requireRoot_23 : decode cX0_requireRoot 23 = .ok (.return_, 1) := by decide +kernel
theorem dX0_requireRange_0 : decode cX0_requireRange 0 = .ok (.iload_n 0, 1) := by decide +kernel
theorem dX0_requireRange_1 : decode cX0_requireRange 1 = .ok (.iload_n 1, 1) := by decide +kernel
theorem dX0_requireRange_2 : decode cX0_requireRange 2 = .ok (.if_icmp .lt 8, 3) := by decide +kernel
theorem dX0_requireRange_5 : decode cX0_requireRange 5 = .ok (.iload_n 0, 1) := by decide +kernel
theorem dX0_requireRange_6 : decode cX0_requireRange 6 = .ok (.iload_n 2, 1) := by decide +kernel
theorem dX0_requireRange_7 : decode cX0_requireRange 7 = .ok (.if_icmp .le 13, 3) := by decide +kernel
theorem dX0_requireRange_10 : decode cX0_requireRange 10 = .ok (.new 92, 3) := by decide +kernel
theorem dX0_requireRange_13 : decode cX0_requireRange 13 = .ok (.dup, 1) := by decide +kernel
theorem dX0_requireRange_14 : decode cX0_requireRange 14 = .ok (.ldc 139, 2) := by decide +kernel
theorem dX0_requireRange_16 : decode cX0_requireRange 16 = .ok (.invokespecial 96, 3) := by decide +kernel
theorem dX0_requireRange_19 : decode cX0_requireRange 19 = .ok (.athrow, 1) := by decide +kernel
theorem dX0_requireRange_20 : decode cX0_requireRange 20 = .ok (.return_, 1) := by decide +kernel
theorem dX0_clearNode_0 : decode cX0_clearNode 0 = .ok (.aload_n 0, 1) := by decide +kernel
theorem dX0_clearNode_1 : decode cX0_clearNode 1 = .ok (.getfield 50, 3) := by decide +kernel
theorem dX0_clearNode_4 : decode cX0_clearNode 4 = .ok (.iload_n 1, 1) := by decide +kernel
theorem dX0_clearNode_5 : decode cX0_clearNode 5 = .ok (.iconst (-1), 1) := by decide +kernel
theorem dX0_clearNode_6 : decode cX0_clearNode 6 = .ok (.iastore, 1) := by decide +kernel
theorem dX0_clearNode_7 : decode cX0_clearNode 7 = .ok (.aload_n 0, 1) := by decide +kernel
theorem dX0_clearNode_8 : decode cX0_clearNode 8 = .ok (.getfield 53, 3) := by decide +kernel
theorem dX0_clearNode_11 : decode cX0_clearNode 11 = .ok (.iload_n 1, 1) := by decide +kernel
theorem dX0_clearNode_12 : decode cX0_clearNode 12 = .ok (.iconst 0, 1) := by decide +kernel
theorem dX0_clearNode_13 : decode cX0_clearNode 13 = .ok (.iastore, 1) := by decide +kernel
theorem dX0_clearNode_14 : decode cX0_clearNode 14 = .ok (.aload_n 0, 1) := by decide +kernel
theorem dX0_clearNode_15 : decode cX0_clearNode 15 = .ok (.getfield 56, 3) := by decide +kernel
theorem dX0_clearNode_18 : decode cX0_clearNode 18 = .ok (.iload_n 1, 1) := by decide +kernel
theorem dX0_clearNode_19 : decode cX0_clearNode 19 = .ok (.sipush 10000, 3) := by decide +kernel
theorem dX0_clearNode_22 : decode cX0_clearNode 22 = .ok (.iastore, 1) := by decide +kernel
theorem dX0_clearNode_23 : decode cX0_clearNode 23 = .ok (.aload_n 0, 1) := by decide +kernel
theorem dX0_clearNode_24 : decode cX0_clearNode 24 = .ok (.getfield 59, 3) := by decide +kernel
theorem dX0_clearNode_27 : decode cX0_clearNode 27 = .ok (.iload_n 1, 1) := by decide +kernel
theorem dX0_clearNode_28 : decode cX0_clearNode 28 = .ok (.sipush 10000, 3) := by decide +kernel
theorem dX0_clearNode_31 : decode cX0_clearNode 31 = .ok (.iastore, 1) := by decide +kernel
theorem dX0_clearNode_32 : decode cX0_clearNode 32 = .ok (.aload_n 0, 1) := by decide +kernel
theorem dX0_clearNode_33 : decode cX0_clearNode 33 = .ok (.getfield 62, 3) := by decide +kernel
theorem dX0_clearNode_36 : decode cX0_clearNode 36 = .ok (.iload_n 1, 1) := by decide +kernel
theorem dX0_clearNode_37 : decode cX0_clearNode 37 = .ok (.iconst (-1), 1) := by decide +kernel
theorem dX0_clearNode_38 : decode cX0_clearNode 38 = .ok (.iastore, 1) := by decide +kernel
theorem dX0_clearNode_39 : decode cX0_clearNode 39 = .ok (.return_, 1) := by decide +kernel
set_option maxRecDepth 20000 in
theorem ggX0_beginVersion_X0_resetTimer : GoodIn wsX0_beginVersion wsX0_resetTimer := goodIn_r _ [7, 8, 9, 10, 11, 12, 13, 14, 15, 16, 17, 18, 19, 20, 21, 22, 23, 24, 25, 26, 27, 28, 29, 30, 31] (by decide +kernel) (by decide +kernel)
set_option maxRecDepth 20000 in
theorem gX0_beginVersion_X0_resetTimer : GoodIn wsX0_beginVersion (wsV RX0 78 RX0 yX0_resetTimer wsX0_resetTimer) := goodIn_app (goodIn_of _ (by decide +kernel)) ggX0_beginVersion_X0_resetTimer
theorem dX0_beginVersion_0 : decode cX0_beginVersion 0 = .ok (.aload_n 0, 1) := by decide +kernel
theorem dX0_beginVersion_1 : decode cX0_beginVersion 1 = .ok (.getfield 46, 3) := by decide +kernel
theorem dX0_beginVersion_4 : decode cX0_beginVersion 4 = .ok (.iload_n 1, 1) := by decide +kernel
theorem dX0_beginVersion_5 : decode cX0_beginVersion 5 = .ok (.dup2, 1) := by decide +kernel
theorem dX0_beginVersion_6 : decode cX0_beginVersion 6 = .ok (.iaload, 1) := by decide +kernel
theorem dX0_beginVersion_7 : decode cX0_beginVersion 7 = .ok (.iconst 1, 1) := by decide +kernel
theorem dX0_beginVersion_8 : decode cX0_beginVersion 8 = .ok (.iadd, 1) := by decide +kernel
theorem dX0_beginVersion_9 : decode cX0_beginVersion 9 = .ok (.iastore, 1) := by decide +kernel
theorem dX0_beginVersion_10 : decode cX0_beginVersion 10 = .ok (.aload_n 0, 1) := by decide +kernel
theorem dX0_beginVersion_11 : decode cX0_beginVersion 11 = .ok (.getfield 53, 3) := by decide +kernel
theorem dX0_beginVersion_14 : decode cX0_beginVersion 14 = .ok (.iload_n 1, 1) := by decide +kernel
theorem dX0_beginVersion_15 : decode cX0_beginVersion 15 = .ok (.aload_n 0, 1) := by decide +kernel
theorem dX0_beginVersion_16 : decode cX0_beginVersion 16 = .ok (.getfield 46, 3) := by decide +kernel
theorem dX0_beginVersion_19 : decode cX0_beginVersion 19 = .ok (.iload_n 1, 1) := by decide +kernel
theorem dX0_beginVersion_20 : decode cX0_beginVersion 20 = .ok (.iaload, 1) := by decide +kernel
theorem dX0_beginVersion_21 : decode cX0_beginVersion 21 = .ok (.iastore, 1) := by decide +kernel
theorem dX0_beginVersion_22 : decode cX0_beginVersion 22 = .ok (.aload_n 0, 1) := by decide +kernel
theorem dX0_beginVersion_23 : decode cX0_beginVersion 23 = .ok (.iload_n 1, 1) := by decide +kernel
theorem dX0_beginVersion_24 : decode cX0_beginVersion 24 = .ok (.invokevirtual 78, 3) := by decide +kernel
theorem dX0_beginVersion_27 : decode cX0_beginVersion 27 = .ok (.aload_n 0, 1) := by decide +kernel
theorem dX0_beginVersion_28 : decode cX0_beginVersion 28 = .ok (.getfield 53, 3) := by decide +kernel
theorem dX0_beginVersion_31 : decode cX0_beginVersion 31 = .ok (.iload_n 1, 1) := by decide +kernel
theorem dX0_beginVersion_32 : decode cX0_beginVersion 32 = .ok (.iaload, 1) := by decide +kernel
theorem dX0_beginVersion_33 : decode cX0_beginVersion 33 = .ok (.ireturn, 1) := by decide +kernel
theorem dX0_forget_0 : decode cX0_forget 0 = .ok (.aload_n 0, 1) := by decide +kernel
theorem dX0_forget_1 : decode cX0_forget 1 = .ok (.getfield 33, 3) := by decide +kernel
theorem dX0_forget_4 : decode cX0_forget 4 = .ok (.iload_n 1, 1) := by decide +kernel
theorem dX0_forget_5 : decode cX0_forget 5 = .ok (.aaload, 1) := by decide +kernel
theorem dX0_forget_6 : decode cX0_forget 6 = .ok (.iload_n 2, 1) := by decide +kernel
theorem dX0_forget_7 : decode cX0_forget 7 = .ok (.iconst (-1), 1) := by decide +kernel
theorem dX0_forget_8 : decode cX0_forget 8 = .ok (.iastore, 1) := by decide +kernel
theorem dX0_forget_9 : decode cX0_forget 9 = .ok (.aload_n 0, 1) := by decide +kernel
theorem dX0_forget_10 : decode cX0_forget 10 = .ok (.getfield 36, 3) := by decide +kernel
theorem dX0_forget_13 : decode cX0_forget 13 = .ok (.iload_n 1, 1) := by decide +kernel
theorem dX0_forget_14 : decode cX0_forget 14 = .ok (.aaload, 1) := by decide +kernel
theorem dX0_forget_15 : decode cX0_forget 15 = .ok (.iload_n 2, 1) := by decide +kernel
theorem dX0_forget_16 : decode cX0_forget 16 = .ok (.iconst 0, 1) := by decide +kernel
theorem dX0_forget_17 : decode cX0_forget 17 = .ok (.iastore, 1) := by decide +kernel
theorem dX0_forget_18 : decode cX0_forget 18 = .ok (.aload_n 0, 1) := by decide +kernel
theorem dX0_forget_19 : decode cX0_forget 19 = .ok (.getfield 39, 3) := by decide +kernel
theorem dX0_forget_22 : decode cX0_forget 22 = .ok (.iload_n 1, 1) := by decide +kernel
theorem dX0_forget_23 : decode cX0_forget 23 = .ok (.aaload, 1) := by decide +kernel
theorem dX0_forget_24 : decode cX0_forget 24 = .ok (.iload_n 2, 1) := by decide +kernel
theorem dX0_forget_25 : decode cX0_forget 25 = .ok (.iconst (-1), 1) := by decide +kernel
theorem dX0_forget_26 : decode cX0_forget 26 = .ok (.iastore, 1) := by decide +kernel
theorem dX0_forget_27 : decode cX0_forget 27 = .ok (.return_, 1) := by decide +kernel
theorem dX0_resetTimer_0 : decode cX0_resetTimer 0 = .ok (.aload_n 0, 1) := by decide +kernel
theorem dX0_resetTimer_1 : decode cX0_resetTimer 1 = .ok (.getfield 65, 3) := by decide +kernel
theorem dX0_resetTimer_4 : decode cX0_resetTimer 4 = .ok (.iload_n 1, 1) := by decide +kernel
theorem dX0_resetTimer_5 : decode cX0_resetTimer 5 = .ok (.aload_n 0, 1) := by decide +kernel
theorem dX0_resetTimer_6 : decode cX0_resetTimer 6 = .ok (.getfield 16, 3) := by decide +kernel
theorem dX0_resetTimer_9 : decode cX0_resetTimer 9 = .ok (.iastore, 1) := by decide +kernel
theorem dX0_resetTimer_10 : decode cX0_resetTimer 10 = .ok (.aload_n 0, 1) := by decide +kernel
theorem dX0_resetTimer_11 : decode cX0_resetTimer 11 = .ok (.getfield 68, 3) := by decide +kernel
theorem dX0_resetTimer_14 : decode cX0_resetTimer 14 = .ok (.iload_n 1, 1) := by decide +kernel
theorem dX0_resetTimer_15 : decode cX0_resetTimer 15 = .ok (.aload_n 0, 1) := by decide +kernel
theorem dX0_resetTimer_16 : decode cX0_resetTimer 16 = .ok (.getfield 22, 3) := by decide +kernel
theorem dX0_resetTimer_19 : decode cX0_resetTimer 19 = .ok (.aload_n 0, 1) := by decide +kernel
theorem dX0_resetTimer_20 : decode cX0_resetTimer 20 = .ok (.getfield 16, 3) := by decide +kernel
theorem dX0_resetTimer_23 : decode cX0_resetTimer 23 = .ok (.iadd, 1) := by decide +kernel
theorem dX0_resetTimer_24 : decode cX0_resetTimer 24 = .ok (.iastore, 1) := by decide +kernel
theorem dX0_resetTimer_25 : decode cX0_resetTimer 25 = .ok (.return_, 1) := by decide +kernel
theorem dX0_lengthenTimer_0 : decode cX0_lengthenTimer 0 = .ok (.aload_n 0, 1) := by decide +kernel
theorem dX0_lengthenTimer_1 : decode cX0_lengthenTimer 1 = .ok (.getfield 65, 3) := by decide +kernel
theorem dX0_lengthenTimer_4 : decode cX0_lengthenTimer 4 = .ok (.iload_n 1, 1) := by decide +kernel
theorem dX0_lengthenTimer_5 : decode cX0_lengthenTimer 5 = .ok (.iconst 2, 1) := by decide +kernel
theorem dX0_lengthenTimer_6 : decode cX0_lengthenTimer 6 = .ok (.aload_n 0, 1) := by decide +kernel
theorem dX0_lengthenTimer_7 : decode cX0_lengthenTimer 7 = .ok (.getfield 65, 3) := by decide +kernel
theorem dX0_lengthenTimer_10 : decode cX0_lengthenTimer 10 = .ok (.iload_n 1, 1) := by decide +kernel
theorem dX0_lengthenTimer_11 : decode cX0_lengthenTimer 11 = .ok (.iaload, 1) := by decide +kernel
theorem dX0_lengthenTimer_12 : decode cX0_lengthenTimer 12 = .ok (.imul, 1) := by decide +kernel
theorem dX0_lengthenTimer_13 : decode cX0_lengthenTimer 13 = .ok (.aload_n 0, 1) := by decide +kernel
theorem dX0_lengthenTimer_14 : decode cX0_lengthenTimer 14 = .ok (.getfield 16, 3) := by decide +kernel
theorem dX0_lengthenTimer_17 : decode cX0_lengthenTimer 17 = .ok (.aload_n 0, 1) := by decide +kernel
theorem dX0_lengthenTimer_18 : decode cX0_lengthenTimer 18 = .ok (.getfield 19, 3) := by decide +kernel
theorem dX0_lengthenTimer_21 : decode cX0_lengthenTimer 21 = .ok (.ishl, 1) := by decide +kernel
theorem dX0_lengthenTimer_22 : decode cX0_lengthenTimer 22 = .ok (.invokestatic 141, 3) := by decide +kernel
theorem dX0_lengthenTimer_25 : decode cX0_lengthenTimer 25 = .ok (.iastore, 1) := by decide +kernel
theorem dX0_lengthenTimer_26 : decode cX0_lengthenTimer 26 = .ok (.aload_n 0, 1) := by decide +kernel
theorem dX0_lengthenTimer_27 : decode cX0_lengthenTimer 27 = .ok (.getfield 68, 3) := by decide +kernel
theorem dX0_lengthenTimer_30 : decode cX0_lengthenTimer 30 = .ok (.iload_n 1, 1) := by decide +kernel
theorem dX0_lengthenTimer_31 : decode cX0_lengthenTimer 31 = .ok (.aload_n 0, 1) := by decide +kernel
theorem dX0_lengthenTimer_32 : decode cX0_lengthenTimer 32 = .ok (.getfield 22, 3) := by decide +kernel
theorem dX0_lengthenTimer_35 : decode cX0_lengthenTimer 35 = .ok (.aload_n 0, 1) := by decide +kernel
theorem dX0_lengthenTimer_36 : decode cX0_lengthenTimer 36 = .ok (.getfield 65, 3) := by decide +kernel
theorem dX0_lengthenTimer_39 : decode cX0_lengthenTimer 39 = .ok (.iload_n 1, 1) := by decide +kernel
theorem dX0_lengthenTimer_40 : decode cX0_lengthenTimer 40 = .ok (.iaload, 1) := by decide +kernel
theorem dX0_lengthenTimer_41 : decode cX0_lengthenTimer 41 = .ok (.iadd, 1) := by decide +kernel
theorem dX0_lengthenTimer_42 : decode cX0_lengthenTimer 42 = .ok (.iastore, 1) := by decide +kernel
theorem dX0_lengthenTimer_43 : decode cX0_lengthenTimer 43 = .ok (.return_, 1) := by decide +kernel
set_option maxRecDepth 20000 in
theorem ggX0_passTick_X0_tell : GoodIn wsX0_passTick wsX0_tell := goodIn_r _ [7, 8, 9, 10, 11, 12, 13, 14, 15, 16, 17, 6, 18, 19, 20, 21, 22, 23, 24, 25, 26, 27, 28, 29, 30, 31, 32, 33, 34, 35, 36, 37, 38, 39, 40, 41, 42, 43, 44, 45, 46, 47, 48, 49, 50, 51, 52, 53, 54, 55, 56, 57, 58, 59, 2, 1, 60, 61, 62, 63, 64, 65, 66, 67, 68, 69, 70, 71, 72, 78, 79, 80, 81, 82, 83, 84, 85, 86, 87, 88, 89, 90, 91, 92, 93, 94, 95, 96, 97] (by decide +kernel) (by decide +kernel)
set_option maxRecDepth 20000 in
theorem gX0_passTick_X0_tell : GoodIn wsX0_passTick (wsV RX0 147 RX0 yX0_tell wsX0_tell) := goodIn_app (goodIn_of _ (by decide +kernel)) ggX0_passTick_X0_tell
set_option maxRecDepth 20000 in
theorem ggX0_passTick_X0_lengthenTimer : GoodIn wsX0_passTick wsX0_lengthenTimer := goodIn_r _ [76, 58, 59, 77, 69, 70, 71, 72, 2, 1, 78, 79, 80, 81, 82, 83, 84, 85, 86, 87, 88, 89, 90, 91, 92, 93, 94, 95, 96, 97] (by decide +kernel) (by decide +kernel)
set_option maxRecDepth 20000 in
theorem gX0_passTick_X0_lengthenTimer : GoodIn wsX0_passTick (wsV RX0 150 RX0 yX0_lengthenTimer wsX0_lengthenTimer) := goodIn_app (goodIn_of _ (by decide +kernel)) ggX0_passTick_X0_lengthenTimer
theorem dX0_passTick_0 : decode cX0_passTick 0 = .ok (.iconst 0, 1) := by decide +kernel
theorem dX0_passTick_1 : decode cX0_passTick 1 = .ok (.istore_n 1, 1) := by decide +kernel
theorem dX0_passTick_2 : decode cX0_passTick 2 = .ok (.aload_n 0, 1) := by decide +kernel
theorem dX0_passTick_3 : decode cX0_passTick 3 = .ok (.dup, 1) := by decide +kernel
theorem dX0_passTick_4 : decode cX0_passTick 4 = .ok (.getfield 22, 3) := by decide +kernel
theorem dX0_passTick_7 : decode cX0_passTick 7 = .ok (.iconst 1, 1) := by decide +kernel
theorem dX0_passTick_8 : decode cX0_passTick 8 = .ok (.iadd, 1) := by decide +kernel
theorem dX0_passTick_9 : decode cX0_passTick 9 = .ok (.putfield 22, 3) := by decide +kernel
theorem dX0_passTick_12 : decode cX0_passTick 12 = .ok (.iconst 0, 1) := by decide +kernel
theorem dX0_passTick_13 : decode cX0_passTick 13 = .ok (.istore_n 2, 1) := by decide +kernel
theorem dX0_passTick_14 : decode cX0_passTick 14 = .ok (.iload_n 2, 1) := by decide +kernel
theorem dX0_passTick_15 : decode cX0_passTick 15 = .ok (.bipush 10, 2) := by decide +kernel
theorem dX0_passTick_17 : decode cX0_passTick 17 = .ok (.if_icmp .ge 35, 3) := by decide +kernel
theorem dX0_passTick_20 : decode cX0_passTick 20 = .ok (.aload_n 0, 1) := by decide +kernel
theorem dX0_passTick_21 : decode cX0_passTick 21 = .ok (.getfield 68, 3) := by decide +kernel
theorem dX0_passTick_24 : decode cX0_passTick 24 = .ok (.iload_n 2, 1) := by decide +kernel
theorem dX0_passTick_25 : decode cX0_passTick 25 = .ok (.iaload, 1) := by decide +kernel
theorem dX0_passTick_26 : decode cX0_passTick 26 = .ok (.aload_n 0, 1) := by decide +kernel
theorem dX0_passTick_27 : decode cX0_passTick 27 = .ok (.getfield 22, 3) := by decide +kernel
theorem dX0_passTick_30 : decode cX0_passTick 30 = .ok (.if_icmp .ne 16, 3) := by decide +kernel
theorem dX0_passTick_33 : decode cX0_passTick 33 = .ok (.aload_n 0, 1) := by decide +kernel
theorem dX0_passTick_34 : decode cX0_passTick 34 = .ok (.iload_n 2, 1) := by decide +kernel
theorem dX0_passTick_35 : decode cX0_passTick 35 = .ok (.invokevirtual 147, 3) := by decide +kernel
theorem dX0_passTick_38 : decode cX0_passTick 38 = .ok (.aload_n 0, 1) := by decide +kernel
theorem dX0_passTick_39 : decode cX0_passTick 39 = .ok (.iload_n 2, 1) := by decide +kernel
theorem dX0_passTick_40 : decode cX0_passTick 40 = .ok (.invokevirtual 150, 3) := by decide +kernel
theorem dX0_passTick_43 : decode cX0_passTick 43 = .ok (.iinc 1 1, 3) := by decide +kernel
theorem dX0_passTick_46 : decode cX0_passTick 46 = .ok (.iinc 2 1, 3) := by decide +kernel
theorem dX0_passTick_49 : decode cX0_passTick 49 = .ok (.goto (-35), 3) := by decide +kernel
theorem dX0_passTick_52 : decode cX0_passTick 52 = .ok (.iload_n 1, 1) := by decide +kernel
theorem dX0_passTick_53 : decode cX0_passTick 53 = .ok (.ireturn, 1) := by decide +kernel
set_option maxRecDepth 20000 in
theorem ggX0_tell_X0_choose : GoodIn wsX0_tell wsX0_choose := goodIn_r _ [12, 13, 14, 15, 16, 17, 11, 18, 19, 20, 21, 22, 6, 1, 23, 24, 25, 26, 27, 28, 29, 30, 2, 4, 3, 5, 31, 32, 33, 34, 7, 35, 36, 37, 38, 39, 40, 41, 42, 43, 44, 45, 46, 47, 48, 49, 50, 51, 52, 53, 54, 55, 56, 57, 58, 59, 60, 61, 62, 63, 64, 65, 66, 67, 68, 69, 70, 71, 72, 73, 74, 75, 76, 77, 78, 79, 80, 81, 82, 83, 84, 85, 86, 87, 88] (by decide +kernel) (by decide +kernel)
set_option maxRecDepth 20000 in
theorem gX0_tell_X0_choose : GoodIn wsX0_tell (wsV RX0 99 RX0 yX0_choose wsX0_choose) := goodIn_app (goodIn_of _ (by decide +kernel)) ggX0_tell_X0_choose
theorem dX0_tell_0 : decode cX0_tell 0 = .ok (.iconst 0, 1) := by decide +kernel
theorem dX0_tell_1 : decode cX0_tell 1 = .ok (.istore_n 2, 1) := by decide +kernel
theorem dX0_tell_2 : decode cX0_tell 2 = .ok (.iload_n 2, 1) := by decide +kernel
theorem dX0_tell_3 : decode cX0_tell 3 = .ok (.bipush 10, 2) := by decide +kernel
theorem dX0_tell_5 : decode cX0_tell 5 = .ok (.if_icmp .ge 67, 3) := by decide +kernel
theorem dX0_tell_8 : decode cX0_tell 8 = .ok (.aload_n 0, 1) := by decide +kernel
theorem dX0_tell_9 : decode cX0_tell 9 = .ok (.getfield 30, 3) := by decide +kernel
theorem dX0_tell_12 : decode cX0_tell 12 = .ok (.iload_n 1, 1) := by decide +kernel
theorem dX0_tell_13 : decode cX0_tell 13 = .ok (.aaload, 1) := by decide +kernel
theorem dX0_tell_14 : decode cX0_tell 14 = .ok (.iload_n 2, 1) := by decide +kernel
theorem dX0_tell_15 : decode cX0_tell 15 = .ok (.iaload, 1) := by decide +kernel
theorem dX0_tell_16 : decode cX0_tell 16 = .ok (.ifCond .le 50, 3) := by decide +kernel
theorem dX0_tell_19 : decode cX0_tell 19 = .ok (.aload_n 0, 1) := by decide +kernel
theorem dX0_tell_20 : decode cX0_tell 20 = .ok (.getfield 33, 3) := by decide +kernel
theorem dX0_tell_23 : decode cX0_tell 23 = .ok (.iload_n 2, 1) := by decide +kernel
theorem dX0_tell_24 : decode cX0_tell 24 = .ok (.aaload, 1) := by decide +kernel
theorem dX0_tell_25 : decode cX0_tell 25 = .ok (.iload_n 1, 1) := by decide +kernel
theorem dX0_tell_26 : decode cX0_tell 26 = .ok (.aload_n 0, 1) := by decide +kernel
theorem dX0_tell_27 : decode cX0_tell 27 = .ok (.getfield 50, 3) := by decide +kernel
theorem dX0_tell_30 : decode cX0_tell 30 = .ok (.iload_n 1, 1) := by decide +kernel
theorem dX0_tell_31 : decode cX0_tell 31 = .ok (.iaload, 1) := by decide +kernel
theorem dX0_tell_32 : decode cX0_tell 32 = .ok (.iastore, 1) := by decide +kernel
theorem dX0_tell_33 : decode cX0_tell 33 = .ok (.aload_n 0, 1) := by decide +kernel
theorem dX0_tell_34 : decode cX0_tell 34 = .ok (.getfield 36, 3) := by decide +kernel
theorem dX0_tell_37 : decode cX0_tell 37 = .ok (.iload_n 2, 1) := by decide +kernel
theorem dX0_tell_38 : decode cX0_tell 38 = .ok (.aaload, 1) := by decide +kernel
theorem dX0_tell_39 : decode cX0_tell 39 = .ok (.iload_n 1, 1) := by decide +kernel
theorem dX0_tell_40 : decode cX0_tell 40 = .ok (.aload_n 0, 1) := by decide +kernel
theorem dX0_tell_41 : decode cX0_tell 41 = .ok (.getfield 53, 3) := by decide +kernel
theorem dX0_tell_44 : decode cX0_tell 44 = .ok (.iload_n 1, 1) := by decide +kernel
theorem dX0_tell_45 : decode cX0_tell 45 = .ok (.iaload, 1) := by decide +kernel
theorem dX0_tell_46 : decode cX0_tell 46 = .ok (.iastore, 1) := by decide +kernel
theorem dX0_tell_47 : decode cX0_tell 47 = .ok (.aload_n 0, 1) := by decide +kernel
theorem dX0_tell_48 : decode cX0_tell 48 = .ok (.getfield 39, 3) := by decide +kernel
theorem dX0_tell_51 : decode cX0_tell 51 = .ok (.iload_n 2, 1) := by decide +kernel
theorem dX0_tell_52 : decode cX0_tell 52 = .ok (.aaload, 1) := by decide +kernel
theorem dX0_tell_53 : decode cX0_tell 53 = .ok (.iload_n 1, 1) := by decide +kernel
theorem dX0_tell_54 : decode cX0_tell 54 = .ok (.aload_n 0, 1) := by decide +kernel
theorem dX0_tell_55 : decode cX0_tell 55 = .ok (.getfield 56, 3) := by decide +kernel
theorem dX0_tell_58 : decode cX0_tell 58 = .ok (.iload_n 1, 1) := by decide +kernel
theorem dX0_tell_59 : decode cX0_tell 59 = .ok (.iaload, 1) := by decide +kernel
theorem dX0_tell_60 : decode cX0_tell 60 = .ok (.iastore, 1) := by decide +kernel
theorem dX0_tell_61 : decode cX0_tell 61 = .ok (.aload_n 0, 1) := by decide +kernel
theorem dX0_tell_62 : decode cX0_tell 62 = .ok (.iload_n 2, 1) := by decide +kernel
theorem dX0_tell_63 : decode cX0_tell 63 = .ok (.invokevirtual 99, 3) := by decide +kernel
theorem dX0_tell_66 : decode cX0_tell 66 = .ok (.iinc 2 1, 3) := by decide +kernel
theorem dX0_tell_69 : decode cX0_tell 69 = .ok (.goto (-67), 3) := by decide +kernel
theorem dX0_tell_72 : decode cX0_tell 72 = .ok (.return_, 1) := by decide +kernel
theorem dX0_lowerWayCosts_0 : decode cX0_lowerWayCosts 0 = .ok (.iconst 0, 1) := by decide +kernel
theorem dX0_lowerWayCosts_1 : decode cX0_lowerWayCosts 1 = .ok (.istore_n 1, 1) := by decide +kernel
theorem dX0_lowerWayCosts_2 : decode cX0_lowerWayCosts 2 = .ok (.iload_n 1, 1) := by decide +kernel
theorem dX0_lowerWayCosts_3 : decode cX0_lowerWayCosts 3 = .ok (.bipush 10, 2) := by decide +kernel
theorem dX0_lowerWayCosts_5 : decode cX0_lowerWayCosts 5 = .ok (.if_icmp .ge 59, 3) := by decide +kernel
theorem dX0_lowerWayCosts_8 : decode cX0_lowerWayCosts 8 = .ok (.iconst 0, 1) := by decide +kernel
theorem dX0_lowerWayCosts_9 : decode cX0_lowerWayCosts 9 = .ok (.istore_n 2, 1) := by decide +kernel
theorem dX0_lowerWayCosts_10 : decode cX0_lowerWayCosts 10 = .ok (.iload_n 2, 1) := by decide +kernel
theorem dX0_lowerWayCosts_11 : decode cX0_lowerWayCosts 11 = .ok (.bipush 10, 2) := by decide +kernel
theorem dX0_lowerWayCosts_13 : decode cX0_lowerWayCosts 13 = .ok (.if_icmp .ge 45, 3) := by decide +kernel
theorem dX0_lowerWayCosts_16 : decode cX0_lowerWayCosts 16 = .ok (.aload_n 0, 1) := by decide +kernel
theorem dX0_lowerWayCosts_17 : decode cX0_lowerWayCosts 17 = .ok (.getfield 30, 3) := by decide +kernel
theorem dX0_lowerWayCosts_20 : decode cX0_lowerWayCosts 20 = .ok (.iload_n 1, 1) := by decide +kernel
theorem dX0_lowerWayCosts_21 : decode cX0_lowerWayCosts 21 = .ok (.aaload, 1) := by decide +kernel
theorem dX0_lowerWayCosts_22 : decode cX0_lowerWayCosts 22 = .ok (.iload_n 2, 1) := by decide +kernel
theorem dX0_lowerWayCosts_23 : decode cX0_lowerWayCosts 23 = .ok (.iaload, 1) := by decide +kernel
theorem dX0_lowerWayCosts_24 : decode cX0_lowerWayCosts 24 = .ok (.istore_n 3, 1) := by decide +kernel
theorem dX0_lowerWayCosts_25 : decode cX0_lowerWayCosts 25 = .ok (.iload_n 3, 1) := by decide +kernel
theorem dX0_lowerWayCosts_26 : decode cX0_lowerWayCosts 26 = .ok (.ifCond .le 26, 3) := by decide +kernel
theorem dX0_lowerWayCosts_29 : decode cX0_lowerWayCosts 29 = .ok (.aload_n 0, 1) := by decide +kernel
theorem dX0_lowerWayCosts_30 : decode cX0_lowerWayCosts 30 = .ok (.getfield 71, 3) := by decide +kernel
theorem dX0_lowerWayCosts_33 : decode cX0_lowerWayCosts 33 = .ok (.iload_n 1, 1) := by decide +kernel
theorem dX0_lowerWayCosts_34 : decode cX0_lowerWayCosts 34 = .ok (.aload_n 0, 1) := by decide +kernel
theorem dX0_lowerWayCosts_35 : decode cX0_lowerWayCosts 35 = .ok (.getfield 71, 3) := by decide +kernel
theorem dX0_lowerWayCosts_38 : decode cX0_lowerWayCosts 38 = .ok (.iload_n 1, 1) := by decide +kernel
theorem dX0_lowerWayCosts_39 : decode cX0_lowerWayCosts 39 = .ok (.iaload, 1) := by decide +kernel
theorem dX0_lowerWayCosts_40 : decode cX0_lowerWayCosts 40 = .ok (.aload_n 0, 1) := by decide +kernel
theorem dX0_lowerWayCosts_41 : decode cX0_lowerWayCosts 41 = .ok (.getfield 71, 3) := by decide +kernel
theorem dX0_lowerWayCosts_44 : decode cX0_lowerWayCosts 44 = .ok (.iload_n 2, 1) := by decide +kernel
theorem dX0_lowerWayCosts_45 : decode cX0_lowerWayCosts 45 = .ok (.iaload, 1) := by decide +kernel
theorem dX0_lowerWayCosts_46 : decode cX0_lowerWayCosts 46 = .ok (.iload_n 3, 1) := by decide +kernel
theorem dX0_lowerWayCosts_47 : decode cX0_lowerWayCosts 47 = .ok (.iadd, 1) := by decide +kernel
theorem dX0_lowerWayCosts_48 : decode cX0_lowerWayCosts 48 = .ok (.invokestatic 141, 3) := by decide +kernel
theorem dX0_lowerWayCosts_51 : decode cX0_lowerWayCosts 51 = .ok (.iastore, 1) := by decide +kernel
theorem dX0_lowerWayCosts_52 : decode cX0_lowerWayCosts 52 = .ok (.iinc 2 1, 3) := by decide +kernel
theorem dX0_lowerWayCosts_55 : decode cX0_lowerWayCosts 55 = .ok (.goto (-45), 3) := by decide +kernel
theorem dX0_lowerWayCosts_58 : decode cX0_lowerWayCosts 58 = .ok (.iinc 1 1, 3) := by decide +kernel
theorem dX0_lowerWayCosts_61 : decode cX0_lowerWayCosts 61 = .ok (.goto (-59), 3) := by decide +kernel
theorem dX0_lowerWayCosts_64 : decode cX0_lowerWayCosts 64 = .ok (.return_, 1) := by decide +kernel
set_option maxRecDepth 20000 in
theorem ggX0_childrenOf_X0_isNode : GoodIn wsX0_childrenOf wsX0_isNode := goodIn_r _ [5] (by decide +kernel) (by decide +kernel)
set_option maxRecDepth 20000 in
theorem gX0_childrenOf_X0_isNode : GoodIn wsX0_childrenOf (va_wsS RX0 121 yX0_isNode wsX0_isNode) := goodIn_app (goodIn_of _ (by decide +kernel)) ggX0_childrenOf_X0_isNode
theorem dX0_childrenOf_0 : decode cX0_childrenOf 0 = .ok (.iconst 0, 1) := by decide +kernel
theorem dX0_childrenOf_1 : decode cX0_childrenOf 1 = .ok (.istore_n 2, 1) := by decide +kernel
theorem dX0_childrenOf_2 : decode cX0_childrenOf 2 = .ok (.iconst 0, 1) := by decide +kernel
theorem dX0_childrenOf_3 : decode cX0_childrenOf 3 = .ok (.istore_n 3, 1) := by decide +kernel
theorem dX0_childrenOf_4 : decode cX0_childrenOf 4 = .ok (.iload_n 3, 1) := by decide +kernel
theorem dX0_childrenOf_5 : decode cX0_childrenOf 5 = .ok (.bipush 10, 2) := by decide +kernel
theorem dX0_childrenOf_7 : decode cX0_childrenOf 7 = .ok (.if_icmp .ge 40, 3) := by decide +kernel
theorem dX0_childrenOf_10 : decode cX0_childrenOf 10 = .ok (.aload_n 0, 1) := by decide +kernel
theorem dX0_childrenOf_11 : decode cX0_childrenOf 11 = .ok (.getfield 62, 3) := by decide +kernel
theorem dX0_childrenOf_14 : decode cX0_childrenOf 14 = .ok (.iload_n 3, 1) := by decide +kernel
theorem dX0_childrenOf_15 : decode cX0_childrenOf 15 = .ok (.iaload, 1) := by decide +kernel
theorem dX0_childrenOf_16 : decode cX0_childrenOf 16 = .ok (.istore 4, 2) := by decide +kernel
theorem dX0_childrenOf_18 : decode cX0_childrenOf 18 = .ok (.iload 4, 2) := by decide +kernel
theorem dX0_childrenOf_20 : decode cX0_childrenOf 20 = .ok (.invokestatic 121, 3) := by decide +kernel
theorem dX0_childrenOf_23 : decode cX0_childrenOf 23 = .ok (.ifCond .eq 18, 3) := by decide +kernel
theorem dX0_childrenOf_26 : decode cX0_childrenOf 26 = .ok (.iload_n 1, 1) := by decide +kernel
theorem dX0_childrenOf_27 : decode cX0_childrenOf 27 = .ok (.iload 4, 2) := by decide +kernel
theorem dX0_childrenOf_29 : decode cX0_childrenOf 29 = .ok (.ishr, 1) := by decide +kernel
theorem dX0_childrenOf_30 : decode cX0_childrenOf 30 = .ok (.iconst 1, 1) := by decide +kernel
theorem dX0_childrenOf_31 : decode cX0_childrenOf 31 = .ok (.iand, 1) := by decide +kernel
theorem dX0_childrenOf_32 : decode cX0_childrenOf 32 = .ok (.ifCond .eq 9, 3) := by decide +kernel
theorem dX0_childrenOf_35 : decode cX0_childrenOf 35 = .ok (.iload_n 2, 1) := by decide +kernel
theorem dX0_childrenOf_36 : decode cX0_childrenOf 36 = .ok (.iconst 1, 1) := by decide +kernel
theorem dX0_childrenOf_37 : decode cX0_childrenOf 37 = .ok (.iload_n 3, 1) := by decide +kernel
theorem dX0_childrenOf_38 : decode cX0_childrenOf 38 = .ok (.ishl, 1) := by decide +kernel
theorem dX0_childrenOf_39 : decode cX0_childrenOf 39 = .ok (.ior, 1) := by decide +kernel
theorem dX0_childrenOf_40 : decode cX0_childrenOf 40 = .ok (.istore_n 2, 1) := by decide +kernel
theorem dX0_childrenOf_41 : decode cX0_childrenOf 41 = .ok (.iinc 3 1, 3) := by decide +kernel
