set_option maxRecDepth 20000 in
theorem ggX1_below_X1_under : GoodIn wsX1_below wsX1_under := goodIn_r _ [16, 17, 18, 19, 20, 21, 22, 23, 24, 25, 26, 27, 28, 29, 30, 31, 32, 33, 34, 35, 36, 37, 38] (by decide +kernel) (by decide +kernel)
set_option maxRecDepth 20000 in
theorem gX1_below_X1_under : GoodIn wsX1_below (wsV RX1 115 RX1 yX1_under wsX1_under) := goodIn_app (goodIn_of _ (by decide +kernel)) ggX1_below_X1_under
theorem dX1_below_0 : decode cX1_below 0 = .ok (.aload_n 0, 1) := by decide +kernel
theorem dX1_below_1 : decode cX1_below 1 = .ok (.iload_n 1, 1) := by decide +kernel
theorem dX1_below_2 : decode cX1_below 2 = .ok (.invokestatic 99, 3) := by decide +kernel
theorem dX1_below_5 : decode cX1_below 5 = .ok (.ifCond .eq 7, 3) := by decide +kernel
theorem dX1_below_8 : decode cX1_below 8 = .ok (.iconst 0, 1) := by decide +kernel
theorem dX1_below_9 : decode cX1_below 9 = .ok (.goto 4, 3) := by decide +kernel
theorem dX1_below_12 : decode cX1_below 12 = .ok (.iconst 1, 1) := by decide +kernel
theorem dX1_below_13 : decode cX1_below 13 = .ok (.invokevirtual 95, 3) := by decide +kernel
theorem dX1_below_16 : decode cX1_below 16 = .ok (.ifCond .eq 7, 3) := by decide +kernel
theorem dX1_below_19 : decode cX1_below 19 = .ok (.iconst 0, 1) := by decide +kernel
theorem dX1_below_20 : decode cX1_below 20 = .ok (.goto 8, 3) := by decide +kernel
theorem dX1_below_23 : decode cX1_below 23 = .ok (.aload_n 0, 1) := by decide +kernel
theorem dX1_below_24 : decode cX1_below 24 = .ok (.iload_n 1, 1) := by decide +kernel
theorem dX1_below_25 : decode cX1_below 25 = .ok (.invokevirtual 115, 3) := by decide +kernel
theorem dX1_below_28 : decode cX1_below 28 = .ok (.ireturn, 1) := by decide +kernel
set_option maxRecDepth 20000 in
theorem ggX1_down_X1_isNode : GoodIn wsX1_down wsX1_isNode := goodIn_r _ [5, 6, 7, 4, 8] (by decide +kernel) (by decide +kernel)
set_option maxRecDepth 20000 in
theorem gX1_down_X1_isNode : GoodIn wsX1_down (va_wsS RX1 99 yX1_isNode wsX1_isNode) := goodIn_app (goodIn_of _ (by decide +kernel)) ggX1_down_X1_isNode
set_option maxRecDepth 20000 in
theorem ggX1_down_X1_under : GoodIn wsX1_down wsX1_under := goodIn_r _ [12, 1, 18, 19, 20, 21, 22, 23, 24, 25, 26, 27, 28, 29, 30, 31, 32, 33, 34, 35, 36, 37, 38] (by decide +kernel) (by decide +kernel)
set_option maxRecDepth 20000 in
theorem gX1_down_X1_under : GoodIn wsX1_down (wsV RX1 115 RX1 yX1_under wsX1_under) := goodIn_app (goodIn_of _ (by decide +kernel)) ggX1_down_X1_under
set_option maxRecDepth 20000 in
theorem ggX1_down_X1_fails : GoodIn wsX1_down wsX1_fails := goodIn_r _ [16, 17, 18, 19, 20, 21, 22, 23, 24, 25, 26, 27, 28, 29, 30, 31, 32, 33, 34, 35, 36, 37, 38] (by decide +kernel) (by decide +kernel)
set_option maxRecDepth 20000 in
theorem gX1_down_X1_fails : GoodIn wsX1_down (wsV RX1 95 RX1 yX1_fails wsX1_fails) := goodIn_app (goodIn_of _ (by decide +kernel)) ggX1_down_X1_fails
theorem dX1_down_0 : decode cX1_down 0 = .ok (.iload_n 1, 1) := by decide +kernel
theorem dX1_down_1 : decode cX1_down 1 = .ok (.invokestatic 99, 3) := by decide +kernel
theorem dX1_down_4 : decode cX1_down 4 = .ok (.ifCond .eq 14, 3) := by decide +kernel
theorem dX1_down_7 : decode cX1_down 7 = .ok (.iload_n 2, 1) := by decide +kernel
theorem dX1_down_8 : decode cX1_down 8 = .ok (.invokestatic 99, 3) := by decide +kernel
theorem dX1_down_11 : decode cX1_down 11 = .ok (.ifCond .eq 7, 3) := by decide +kernel
theorem dX1_down_14 : decode cX1_down 14 = .ok (.iconst 1, 1) := by decide +kernel
theorem dX1_down_15 : decode cX1_down 15 = .ok (.goto 4, 3) := by decide +kernel
theorem dX1_down_18 : decode cX1_down 18 = .ok (.iconst 0, 1) := by decide +kernel
theorem dX1_down_19 : decode cX1_down 19 = .ok (.istore_n 3, 1) := by decide +kernel
theorem dX1_down_20 : decode cX1_down 20 = .ok (.aload_n 0, 1) := by decide +kernel
theorem dX1_down_21 : decode cX1_down 21 = .ok (.iload_n 3, 1) := by decide +kernel
theorem dX1_down_22 : decode cX1_down 22 = .ok (.ifCond .ne 7, 3) := by decide +kernel
theorem dX1_down_25 : decode cX1_down 25 = .ok (.iconst 1, 1) := by decide +kernel
theorem dX1_down_26 : decode cX1_down 26 = .ok (.goto 26, 3) := by decide +kernel
theorem dX1_down_29 : decode cX1_down 29 = .ok (.iload_n 1, 1) := by decide +kernel
theorem dX1_down_30 : decode cX1_down 30 = .ok (.iload_n 2, 1) := by decide +kernel
theorem dX1_down_31 : decode cX1_down 31 = .ok (.if_icmp .eq 20, 3) := by decide +kernel
theorem dX1_down_34 : decode cX1_down 34 = .ok (.aload_n 0, 1) := by decide +kernel
theorem dX1_down_35 : decode cX1_down 35 = .ok (.iload_n 1, 1) := by decide +kernel
theorem dX1_down_36 : decode cX1_down 36 = .ok (.invokevirtual 115, 3) := by decide +kernel
theorem dX1_down_39 : decode cX1_down 39 = .ok (.iload_n 2, 1) := by decide +kernel
theorem dX1_down_40 : decode cX1_down 40 = .ok (.ishr, 1) := by decide +kernel
theorem dX1_down_41 : decode cX1_down 41 = .ok (.iconst 1, 1) := by decide +kernel
theorem dX1_down_42 : decode cX1_down 42 = .ok (.iand, 1) := by decide +kernel
theorem dX1_down_43 : decode cX1_down 43 = .ok (.iconst 1, 1) := by decide +kernel
theorem dX1_down_44 : decode cX1_down 44 = .ok (.if_icmp .ne 7, 3) := by decide +kernel
theorem dX1_down_47 : decode cX1_down 47 = .ok (.iconst 0, 1) := by decide +kernel
theorem dX1_down_48 : decode cX1_down 48 = .ok (.goto 4, 3) := by decide +kernel
theorem dX1_down_51 : decode cX1_down 51 = .ok (.iconst 2, 1) := by decide +kernel
theorem dX1_down_52 : decode cX1_down 52 = .ok (.invokevirtual 95, 3) := by decide +kernel
theorem dX1_down_55 : decode cX1_down 55 = .ok (.ifCond .eq 5, 3) := by decide +kernel
theorem dX1_down_58 : decode cX1_down 58 = .ok (.iconst 0, 1) := by decide +kernel
theorem dX1_down_59 : decode cX1_down 59 = .ok (.ireturn, 1) := by decide +kernel
theorem dX1_down_60 : decode cX1_down 60 = .ok (.iload_n 2, 1) := by decide +kernel
theorem dX1_down_61 : decode cX1_down 61 = .ok (.istore 4, 2) := by decide +kernel
theorem dX1_down_63 : decode cX1_down 63 = .ok (.aload_n 0, 1) := by decide +kernel
theorem dX1_down_64 : decode cX1_down 64 = .ok (.getfield 39, 3) := by decide +kernel
theorem dX1_down_67 : decode cX1_down 67 = .ok (.iload 4, 2) := by decide +kernel
theorem dX1_down_69 : decode cX1_down 69 = .ok (.iaload, 1) := by decide +kernel
theorem dX1_down_70 : decode cX1_down 70 = .ok (.iload_n 1, 1) := by decide +kernel
theorem dX1_down_71 : decode cX1_down 71 = .ok (.if_icmp .eq 15, 3) := by decide +kernel
theorem dX1_down_74 : decode cX1_down 74 = .ok (.aload_n 0, 1) := by decide +kernel
theorem dX1_down_75 : decode cX1_down 75 = .ok (.getfield 39, 3) := by decide +kernel
theorem dX1_down_78 : decode cX1_down 78 = .ok (.iload 4, 2) := by decide +kernel
theorem dX1_down_80 : decode cX1_down 80 = .ok (.iaload, 1) := by decide +kernel
theorem dX1_down_81 : decode cX1_down 81 = .ok (.istore 4, 2) := by decide +kernel
theorem dX1_down_83 : decode cX1_down 83 = .ok (.goto (-20), 3) := by decide +kernel
theorem dX1_down_86 : decode cX1_down 86 = .ok (.iload 4, 2) := by decide +kernel
theorem dX1_down_88 : decode cX1_down 88 = .ok (.ireturn, 1) := by decide +kernel
