theorem dX10_walk_0 : decode cX10_walk 0 = .ok (.aload_n 0, 1) := by decide +kernel
theorem dX10_walk_1 : decode cX10_walk 1 = .ok (.lload_n 1, 1) := by decide +kernel
theorem dX10_walk_2 : decode cX10_walk 2 = .ok (.invokevirtual 238, 3) := by decide +kernel
theorem dX10_walk_5 : decode cX10_walk 5 = .ok (.ireturn, 1) := by decide +kernel
set_option maxRecDepth 20000 in
theorem ggX10_cls_X10_holds : GoodIn wsX10_cls wsX10_holds := goodIn_r _ [6, 7, 8, 9, 10, 11, 12, 13, 14, 15, 16, 17, 18, 19, 20, 21, 22, 23, 24, 25, 26, 27, 28, 29, 30, 31, 32, 33, 34, 35, 36, 37] (by decide +kernel) (by decide +kernel)
set_option maxRecDepth 20000 in
theorem gX10_cls_X10_holds : GoodIn wsX10_cls (wsV RX10 224 RX10 yX10_holds wsX10_holds) := goodIn_app (goodIn_of _ (by decide +kernel)) ggX10_cls_X10_holds
theorem dX10_cls_0 : decode cX10_cls 0 = .ok (.aload_n 0, 1) := by decide +kernel
theorem dX10_cls_1 : decode cX10_cls 1 = .ok (.iconst 0, 1) := by decide +kernel
theorem dX10_cls_2 : decode cX10_cls 2 = .ok (.putfield 68, 3) := by decide +kernel
theorem dX10_cls_5 : decode cX10_cls 5 = .ok (.iconst 0, 1) := by decide +kernel
theorem dX10_cls_6 : decode cX10_cls 6 = .ok (.istore_n 2, 1) := by decide +kernel
theorem dX10_cls_7 : decode cX10_cls 7 = .ok (.iconst 0, 1) := by decide +kernel
theorem dX10_cls_8 : decode cX10_cls 8 = .ok (.istore_n 3, 1) := by decide +kernel
theorem dX10_cls_9 : decode cX10_cls 9 = .ok (.iload_n 3, 1) := by decide +kernel
theorem dX10_cls_10 : decode cX10_cls 10 = .ok (.bipush 19, 2) := by decide +kernel
theorem dX10_cls_12 : decode cX10_cls 12 = .ok (.if_icmp .gt 27, 3) := by decide +kernel
theorem dX10_cls_15 : decode cX10_cls 15 = .ok (.aload_n 0, 1) := by decide +kernel
theorem dX10_cls_16 : decode cX10_cls 16 = .ok (.iload_n 3, 1) := by decide +kernel
theorem dX10_cls_17 : decode cX10_cls 17 = .ok (.invokevirtual 224, 3) := by decide +kernel
theorem dX10_cls_20 : decode cX10_cls 20 = .ok (.ifCond .eq 13, 3) := by decide +kernel
theorem dX10_cls_23 : decode cX10_cls 23 = .ok (.iload_n 2, 1) := by decide +kernel
theorem dX10_cls_24 : decode cX10_cls 24 = .ok (.iload_n 1, 1) := by decide +kernel
theorem dX10_cls_25 : decode cX10_cls 25 = .ok (.if_icmp .ne 5, 3) := by decide +kernel
theorem dX10_cls_28 : decode cX10_cls 28 = .ok (.iload_n 3, 1) := by decide +kernel
theorem dX10_cls_29 : decode cX10_cls 29 = .ok (.ireturn, 1) := by decide +kernel
theorem dX10_cls_30 : decode cX10_cls 30 = .ok (.iinc 2 1, 3) := by decide +kernel
theorem dX10_cls_33 : decode cX10_cls 33 = .ok (.iinc 3 1, 3) := by decide +kernel
theorem dX10_cls_36 : decode cX10_cls 36 = .ok (.goto (-27), 3) := by decide +kernel
theorem dX10_cls_39 : decode cX10_cls 39 = .ok (.iconst (-1), 1) := by decide +kernel
theorem dX10_cls_40 : decode cX10_cls 40 = .ok (.ireturn, 1) := by decide +kernel
theorem dX10_mark_0 : decode cX10_mark 0 = .ok (.aload_n 0, 1) := by decide +kernel
theorem dX10_mark_1 : decode cX10_mark 1 = .ok (.iconst 0, 1) := by decide +kernel
theorem dX10_mark_2 : decode cX10_mark 2 = .ok (.putfield 68, 3) := by decide +kernel
theorem dX10_mark_5 : decode cX10_mark 5 = .ok (.iload_n 1, 1) := by decide +kernel
theorem dX10_mark_6 : decode cX10_mark 6 = .ok (.ifCond .lt 20, 3) := by decide +kernel
theorem dX10_mark_9 : decode cX10_mark 9 = .ok (.iload_n 1, 1) := by decide +kernel
theorem dX10_mark_10 : decode cX10_mark 10 = .ok (.aload_n 0, 1) := by decide +kernel
theorem dX10_mark_11 : decode cX10_mark 11 = .ok (.getfield 179, 3) := by decide +kernel
theorem dX10_mark_14 : decode cX10_mark 14 = .ok (.if_icmp .ge 12, 3) := by decide +kernel
theorem dX10_mark_17 : decode cX10_mark 17 = .ok (.aload_n 0, 1) := by decide +kernel
theorem dX10_mark_18 : decode cX10_mark 18 = .ok (.getfield 65, 3) := by decide +kernel
theorem dX10_mark_21 : decode cX10_mark 21 = .ok (.iload_n 1, 1) := by decide +kernel
theorem dX10_mark_22 : decode cX10_mark 22 = .ok (.iaload, 1) := by decide +kernel
theorem dX10_mark_23 : decode cX10_mark 23 = .ok (.goto 4, 3) := by decide +kernel
theorem dX10_mark_26 : decode cX10_mark 26 = .ok (.iconst (-1), 1) := by decide +kernel
theorem dX10_mark_27 : decode cX10_mark 27 = .ok (.ireturn, 1) := by decide +kernel
set_option maxRecDepth 20000 in
theorem ggX10_moving_X10_cls : GoodIn wsX10_moving wsX10_cls := goodIn_r _ [5, 6, 7, 8, 9, 4, 10, 11, 12, 13, 14, 15, 16, 17, 18, 19, 20, 21, 22, 23, 24, 25, 26, 27, 28, 29, 30, 31, 32, 33, 34, 35, 36, 37, 38, 39, 40, 41] (by decide +kernel) (by decide +kernel)
set_option maxRecDepth 20000 in
theorem gX10_moving_X10_cls : GoodIn wsX10_moving (wsV RX10 241 RX10 yX10_cls wsX10_cls) := goodIn_app (goodIn_of _ (by decide +kernel)) ggX10_moving_X10_cls
theorem dX10_moving_0 : decode cX10_moving 0 = .ok (.aload_n 0, 1) := by decide +kernel
theorem dX10_moving_1 : decode cX10_moving 1 = .ok (.iconst 0, 1) := by decide +kernel
theorem dX10_moving_2 : decode cX10_moving 2 = .ok (.invokevirtual 241, 3) := by decide +kernel
theorem dX10_moving_5 : decode cX10_moving 5 = .ok (.ireturn, 1) := by decide +kernel
set_option maxRecDepth 20000 in
theorem ggX10_isOpen_X10_classOf : GoodIn wsX10_isOpen wsX10_classOf := goodIn_r _ [6, 7, 8, 9, 10, 5, 11, 12, 13, 14, 15, 16, 17, 24, 25, 26, 27, 28, 29, 30, 31, 32, 33, 34, 35, 36, 37, 38, 39, 40, 41, 42, 43, 44, 45, 46, 47, 48, 49, 50, 51, 52] (by decide +kernel) (by decide +kernel)
set_option maxRecDepth 20000 in
theorem gX10_isOpen_X10_classOf : GoodIn wsX10_isOpen (wsV RX10 198 RX10 yX10_classOf wsX10_classOf) := goodIn_app (goodIn_of _ (by decide +kernel)) ggX10_isOpen_X10_classOf
set_option maxRecDepth 20000 in
theorem ggX10_isOpen_X10_holds : GoodIn wsX10_isOpen wsX10_holds := goodIn_r _ [21, 22, 23, 24, 25, 26, 27, 28, 29, 30, 31, 32, 33, 34, 35, 36, 37, 38, 39, 40, 41, 42, 43, 44, 45, 46, 47, 48, 49, 50, 51, 52] (by decide +kernel) (by decide +kernel)
set_option maxRecDepth 20000 in
theorem gX10_isOpen_X10_holds : GoodIn wsX10_isOpen (wsV RX10 224 RX10 yX10_holds wsX10_holds) := goodIn_app (goodIn_of _ (by decide +kernel)) ggX10_isOpen_X10_holds
theorem dX10_isOpen_0 : decode cX10_isOpen 0 = .ok (.aload_n 0, 1) := by decide +kernel
theorem dX10_isOpen_1 : decode cX10_isOpen 1 = .ok (.getfield 59, 3) := by decide +kernel
theorem dX10_isOpen_4 : decode cX10_isOpen 4 = .ok (.iload_n 1, 1) := by decide +kernel
theorem dX10_isOpen_5 : decode cX10_isOpen 5 = .ok (.iaload, 1) := by decide +kernel
theorem dX10_isOpen_6 : decode cX10_isOpen 6 = .ok (.iconst 2, 1) := by decide +kernel
theorem dX10_isOpen_7 : decode cX10_isOpen 7 = .ok (.if_icmp .ne 19, 3) := by decide +kernel
theorem dX10_isOpen_10 : decode cX10_isOpen 10 = .ok (.aload_n 0, 1) := by decide +kernel
theorem dX10_isOpen_11 : decode cX10_isOpen 11 = .ok (.aload_n 0, 1) := by decide +kernel
theorem dX10_isOpen_12 : decode cX10_isOpen 12 = .ok (.iload_n 1, 1) := by decide +kernel
theorem dX10_isOpen_13 : decode cX10_isOpen 13 = .ok (.invokevirtual 198, 3) := by decide +kernel
theorem dX10_isOpen_16 : decode cX10_isOpen 16 = .ok (.invokevirtual 224, 3) := by decide +kernel
theorem dX10_isOpen_19 : decode cX10_isOpen 19 = .ok (.ifCond .ne 7, 3) := by decide +kernel
theorem dX10_isOpen_22 : decode cX10_isOpen 22 = .ok (.iconst 1, 1) := by decide +kernel
theorem dX10_isOpen_23 : decode cX10_isOpen 23 = .ok (.goto 4, 3) := by decide +kernel
theorem dX10_isOpen_26 : decode cX10_isOpen 26 = .ok (.iconst 0, 1) := by decide +kernel
theorem dX10_isOpen_27 : decode cX10_isOpen 27 = .ok (.ireturn, 1) := by decide +kernel
set_option maxRecDepth 20000 in
theorem ggX10_openRule_X10_isOpen : GoodIn wsX10_openRule wsX10_isOpen := goodIn_r _ [6, 7, 8, 9, 10, 5, 11, 12, 13, 14, 15, 16, 17, 18, 19, 20, 21, 22, 23, 24, 25, 26, 27, 28, 29, 30, 31, 32, 33, 34, 35, 36, 37, 38, 39, 40, 41, 42, 43, 44, 45, 46, 47, 48, 49, 50, 51, 52, 53, 54, 55, 56, 57] (by decide +kernel) (by decide +kernel)
set_option maxRecDepth 20000 in
theorem gX10_openRule_X10_isOpen : GoodIn wsX10_openRule (wsV RX10 244 RX10 yX10_isOpen wsX10_isOpen) := goodIn_app (goodIn_of _ (by decide +kernel)) ggX10_openRule_X10_isOpen
theorem dX10_openRule_0 : decode cX10_openRule 0 = .ok (.iconst 0, 1) := by decide +kernel
theorem dX10_openRule_1 : decode cX10_openRule 1 = .ok (.istore_n 2, 1) := by decide +kernel
theorem dX10_openRule_2 : decode cX10_openRule 2 = .ok (.iconst 0, 1) := by decide +kernel
theorem dX10_openRule_3 : decode cX10_openRule 3 = .ok (.istore_n 3, 1) := by decide +kernel
theorem dX10_openRule_4 : decode cX10_openRule 4 = .ok (.iload_n 3, 1) := by decide +kernel
theorem dX10_openRule_5 : decode cX10_openRule 5 = .ok (.aload_n 0, 1) := by decide +kernel
theorem dX10_openRule_6 : decode cX10_openRule 6 = .ok (.getfield 162, 3) := by decide +kernel
theorem dX10_openRule_9 : decode cX10_openRule 9 = .ok (.if_icmp .ge 27, 3) := by decide +kernel
theorem dX10_openRule_12 : decode cX10_openRule 12 = .ok (.aload_n 0, 1) := by decide +kernel
theorem dX10_openRule_13 : decode cX10_openRule 13 = .ok (.iload_n 3, 1) := by decide +kernel
theorem dX10_openRule_14 : decode cX10_openRule 14 = .ok (.invokevirtual 244, 3) := by decide +kernel
theorem dX10_openRule_17 : decode cX10_openRule 17 = .ok (.ifCond .eq 13, 3) := by decide +kernel
theorem dX10_openRule_20 : decode cX10_openRule 20 = .ok (.iload_n 2, 1) := by decide +kernel
theorem dX10_openRule_21 : decode cX10_openRule 21 = .ok (.iload_n 1, 1) := by decide +kernel
theorem dX10_openRule_22 : decode cX10_openRule 22 = .ok (.if_icmp .ne 5, 3) := by decide +kernel
theorem dX10_openRule_25 : decode cX10_openRule 25 = .ok (.iload_n 3, 1) := by decide +kernel
theorem dX10_openRule_26 : decode cX10_openRule 26 = .ok (.ireturn, 1) := by decide +kernel
theorem dX10_openRule_27 : decode cX10_openRule 27 = .ok (.iinc 2 1, 3) := by decide +kernel
theorem dX10_openRule_30 : decode cX10_openRule 30 = .ok (.iinc 3 1, 3) := by decide +kernel
theorem dX10_openRule_33 : decode cX10_openRule 33 = .ok (.goto (-29), 3) := by decide +kernel
theorem dX10_openRule_36 : decode cX10_openRule 36 = .ok (.iconst (-1), 1) := by decide +kernel
theorem dX10_openRule_37 : decode cX10_openRule 37 = .ok (.ireturn, 1) := by decide +kernel
set_option maxRecDepth 20000 in
theorem ggX10_open_X10_openRule : GoodIn wsX10_open wsX10_openRule := goodIn_r _ [7, 8, 9, 10, 11, 6, 12, 13, 14, 15, 16, 17, 18, 19, 20, 21, 22, 23, 24, 25, 26, 27, 28, 29, 30, 31, 32, 33, 34, 35, 36, 37, 38, 39, 40, 41, 42, 43, 44, 45, 46, 47, 48, 49, 50, 51, 52, 53, 54, 55, 56, 57, 58, 59, 60, 61, 62, 63] (by decide +kernel) (by decide +kernel)
set_option maxRecDepth 20000 in
theorem gX10_open_X10_openRule : GoodIn wsX10_open (wsV RX10 247 RX10 yX10_openRule wsX10_openRule) := goodIn_app (goodIn_of _ (by decide +kernel)) ggX10_open_X10_openRule
set_option maxRecDepth 20000 in
theorem ggX10_open_X10_classOf : GoodIn wsX10_open wsX10_classOf := goodIn_r _ [17, 18, 19, 20, 21, 6, 22, 23, 24, 25, 26, 27, 28, 35, 36, 37, 38, 39, 40, 41, 42, 43, 44, 45, 46, 47, 48, 49, 50, 51, 52, 53, 54, 55, 56, 57, 58, 59, 60, 61, 62, 63] (by decide +kernel) (by decide +kernel)
set_option maxRecDepth 20000 in
theorem gX10_open_X10_classOf : GoodIn wsX10_open (wsV RX10 198 RX10 yX10_classOf wsX10_classOf) := goodIn_app (goodIn_of _ (by decide +kernel)) ggX10_open_X10_classOf
theorem dX10_open_0 : decode cX10_open 0 = .ok (.aload_n 0, 1) := by decide +kernel
theorem dX10_open_1 : decode cX10_open 1 = .ok (.iconst 0, 1) := by decide +kernel
theorem dX10_open_2 : decode cX10_open 2 = .ok (.putfield 68, 3) := by decide +kernel
theorem dX10_open_5 : decode cX10_open 5 = .ok (.aload_n 0, 1) := by decide +kernel
theorem dX10_open_6 : decode cX10_open 6 = .ok (.iload_n 1, 1) := by decide +kernel
theorem dX10_open_7 : decode cX10_open 7 = .ok (.invokevirtual 247, 3) := by decide +kernel
theorem dX10_open_10 : decode cX10_open 10 = .ok (.istore_n 3, 1) := by decide +kernel
theorem dX10_open_11 : decode cX10_open 11 = .ok (.iload_n 3, 1) := by decide +kernel
theorem dX10_open_12 : decode cX10_open 12 = .ok (.iconst (-1), 1) := by decide +kernel
theorem dX10_open_13 : decode cX10_open 13 = .ok (.if_icmp .ne 5, 3) := by decide +kernel
theorem dX10_open_16 : decode cX10_open 16 = .ok (.iconst (-1), 1) := by decide +kernel
theorem dX10_open_17 : decode cX10_open 17 = .ok (.ireturn, 1) := by decide +kernel
theorem dX10_open_18 : decode cX10_open 18 = .ok (.iload_n 2, 1) := by decide +kernel
theorem dX10_open_19 : decode cX10_open 19 = .ok (.ifCond .ne 7, 3) := by decide +kernel
theorem dX10_open_22 : decode cX10_open 22 = .ok (.iload_n 3, 1) := by decide +kernel
theorem dX10_open_23 : decode cX10_open 23 = .ok (.goto 31, 3) := by decide +kernel
theorem dX10_open_26 : decode cX10_open 26 = .ok (.iload_n 2, 1) := by decide +kernel
theorem dX10_open_27 : decode cX10_open 27 = .ok (.iconst 1, 1) := by decide +kernel
theorem dX10_open_28 : decode cX10_open 28 = .ok (.if_icmp .ne 11, 3) := by decide +kernel
theorem dX10_open_31 : decode cX10_open 31 = .ok (.aload_n 0, 1) := by decide +kernel
theorem dX10_open_32 : decode cX10_open 32 = .ok (.iload_n 3, 1) := by decide +kernel
theorem dX10_open_33 : decode cX10_open 33 = .ok (.invokevirtual 198, 3) := by decide +kernel
theorem dX10_open_36 : decode cX10_open 36 = .ok (.goto 18, 3) := by decide +kernel
theorem dX10_open_39 : decode cX10_open 39 = .ok (.iload_n 2, 1) := by decide +kernel
theorem dX10_open_40 : decode cX10_open 40 = .ok (.iconst 2, 1) := by decide +kernel
theorem dX10_open_41 : decode cX10_open 41 = .ok (.if_icmp .ne 12, 3) := by decide +kernel
theorem dX10_open_44 : decode cX10_open 44 = .ok (.aload_n 0, 1) := by decide +kernel
theorem dX10_open_45 : decode cX10_open 45 = .ok (.getfield 62, 3) := by decide +kernel
theorem dX10_open_48 : decode cX10_open 48 = .ok (.iload_n 3, 1) := by decide +kernel
theorem dX10_open_49 : decode cX10_open 49 = .ok (.iaload, 1) := by decide +kernel
theorem dX10_open_50 : decode cX10_open 50 = .ok (.goto 4, 3) := by decide +kernel
theorem dX10_open_53 : decode cX10_open 53 = .ok (.iconst (-1), 1) := by decide +kernel
theorem dX10_open_54 : decode cX10_open 54 = .ok (.ireturn, 1) := by decide +kernel
set_option maxRecDepth 20000 in
theorem ggX10_missing_X10_openRule : GoodIn wsX10_missing wsX10_openRule := goodIn_r _ [7, 8, 9, 10, 11, 6, 12, 13, 14, 15, 16, 17, 18, 19, 20, 21, 22, 23, 24, 25, 26, 27, 28, 29, 30, 31, 32, 33, 34, 35, 36, 37, 38, 39, 40, 41, 42, 43, 44, 45, 46, 47, 48, 49, 50, 51, 52, 53, 54, 55, 56, 57, 58, 59, 60, 61, 62, 63] (by decide +kernel) (by decide +kernel)
set_option maxRecDepth 20000 in
theorem gX10_missing_X10_openRule : GoodIn wsX10_missing (wsV RX10 247 RX10 yX10_openRule wsX10_openRule) := goodIn_app (goodIn_of _ (by decide +kernel)) ggX10_missing_X10_openRule
theorem dX10_missing_0 : decode cX10_missing 0 = .ok (.aload_n 0, 1) := by decide +kernel
theorem dX10_missing_1 : decode cX10_missing 1 = .ok (.iconst 0, 1) := by decide +kernel
theorem dX10_missing_2 : decode cX10_missing 2 = .ok (.putfield 68, 3) := by decide +kernel
theorem dX10_missing_5 : decode cX10_missing 5 = .ok (.iconst 0, 1) := by decide +kernel
theorem dX10_missing_6 : decode cX10_missing 6 = .ok (.istore_n 2, 1) := by decide +kernel
theorem dX10_missing_7 : decode cX10_missing 7 = .ok (.iconst 0, 1) := by decide +kernel
theorem dX10_missing_8 : decode cX10_missing 8 = .ok (.istore_n 3, 1) := by decide +kernel
theorem dX10_missing_9 : decode cX10_missing 9 = .ok (.aload_n 0, 1) := by decide +kernel
theorem dX10_missing_10 : decode cX10_missing 10 = .ok (.iload_n 3, 1) := by decide +kernel
theorem dX10_missing_11 : decode cX10_missing 11 = .ok (.invokevirtual 247, 3) := by decide +kernel
theorem dX10_missing_14 : decode cX10_missing 14 = .ok (.iconst (-1), 1) := by decide +kernel
theorem dX10_missing_15 : decode cX10_missing 15 = .ok (.if_icmp .eq 83, 3) := by decide +kernel
theorem dX10_missing_18 : decode cX10_missing 18 = .ok (.aload_n 0, 1) := by decide +kernel
theorem dX10_missing_19 : decode cX10_missing 19 = .ok (.getfield 62, 3) := by decide +kernel
theorem dX10_missing_22 : decode cX10_missing 22 = .ok (.aload_n 0, 1) := by decide +kernel
theorem dX10_missing_23 : decode cX10_missing 23 = .ok (.iload_n 3, 1) := by decide +kernel
theorem dX10_missing_24 : decode cX10_missing 24 = .ok (.invokevirtual 247, 3) := by decide +kernel
theorem dX10_missing_27 : decode cX10_missing 27 = .ok (.iaload, 1) := by decide +kernel
theorem dX10_missing_28 : decode cX10_missing 28 = .ok (.istore 4, 2) := by decide +kernel
theorem dX10_missing_30 : decode cX10_missing 30 = .ok (.iconst 1, 1) := by decide +kernel
theorem dX10_missing_31 : decode cX10_missing 31 = .ok (.istore 5, 2) := by decide +kernel
theorem dX10_missing_33 : decode cX10_missing 33 = .ok (.iconst 0, 1) := by decide +kernel
theorem dX10_missing_34 : decode cX10_missing 34 = .ok (.istore 6, 2) := by decide +kernel
theorem dX10_missing_36 : decode cX10_missing 36 = .ok (.iload 6, 2) := by decide +kernel
theorem dX10_missing_38 : decode cX10_missing 38 = .ok (.iload_n 3, 1) := by decide +kernel
theorem dX10_missing_39 : decode cX10_missing 39 = .ok (.if_icmp .ge 37, 3) := by decide +kernel
theorem dX10_missing_42 : decode cX10_missing 42 = .ok (.iload 5, 2) := by decide +kernel
theorem dX10_missing_44 : decode cX10_missing 44 = .ok (.ifCond .eq 23, 3) := by decide +kernel
theorem dX10_missing_47 : decode cX10_missing 47 = .ok (.aload_n 0, 1) := by decide +kernel
theorem dX10_missing_48 : decode cX10_missing 48 = .ok (.getfield 62, 3) := by decide +kernel
theorem dX10_missing_51 : decode cX10_missing 51 = .ok (.aload_n 0, 1) := by decide +kernel
theorem dX10_missing_52 : decode cX10_missing 52 = .ok (.iload 6, 2) := by decide +kernel
theorem dX10_missing_54 : decode cX10_missing 54 = .ok (.invokevirtual 247, 3) := by decide +kernel
theorem dX10_missing_57 : decode cX10_missing 57 = .ok (.iaload, 1) := by decide +kernel
theorem dX10_missing_58 : decode cX10_missing 58 = .ok (.iload 4, 2) := by decide +kernel
theorem dX10_missing_60 : decode cX10_missing 60 = .ok (.if_icmp .eq 7, 3) := by decide +kernel
theorem dX10_missing_63 : decode cX10_missing 63 = .ok (.iconst 1, 1) := by decide +kernel
theorem dX10_missing_64 : decode cX10_missing 64 = .ok (.goto 4, 3) := by decide +kernel
theorem dX10_missing_67 : decode cX10_missing 67 = .ok (.iconst 0, 1) := by decide +kernel
theorem dX10_missing_68 : decode cX10_missing 68 = .ok (.istore 5, 2) := by decide +kernel
theorem dX10_missing_70 : decode cX10_missing 70 = .ok (.iinc 6 1, 3) := by decide +kernel
theorem dX10_missing_73 : decode cX10_missing 73 = .ok (.goto (-37), 3) := by decide +kernel
theorem dX10_missing_76 : decode cX10_missing 76 = .ok (.iload 5, 2) := by decide +kernel
theorem dX10_missing_78 : decode cX10_missing 78 = .ok (.ifCond .eq 14, 3) := by decide +kernel
theorem dX10_missing_81 : decode cX10_missing 81 = .ok (.iload_n 2, 1) := by decide +kernel
theorem dX10_missing_82 : decode cX10_missing 82 = .ok (.iload_n 1, 1) := by decide +kernel
theorem dX10_missing_83 : decode cX10_missing 83 = .ok (.if_icmp .ne 6, 3) := by decide +kernel
theorem dX10_missing_86 : decode cX10_missing 86 = .ok (.iload 4, 2) := by decide +kernel
theorem dX10_missing_88 : decode cX10_missing 88 = .ok (.ireturn, 1) := by decide +kernel
theorem dX10_missing_89 : decode cX10_missing 89 = .ok (.iinc 2 1, 3) := by decide +kernel
theorem dX10_missing_92 : decode cX10_missing 92 = .ok (.iinc 3 1, 3) := by decide +kernel
theorem dX10_missing_95 : decode cX10_missing 95 = .ok (.goto (-86), 3) := by decide +kernel
theorem dX10_missing_98 : decode cX10_missing 98 = .ok (.iconst (-1), 1) := by decide +kernel
theorem dX10_missing_99 : decode cX10_missing 99 = .ok (.ireturn, 1) := by decide +kernel
set_option maxRecDepth 20000 in
theorem ggX10_explain_X10_classOf : GoodIn wsX10_explain wsX10_classOf := goodIn_r _ [9, 4, 10, 11, 12, 8, 13, 14, 15, 16, 17, 18, 19, 43, 44, 45, 46, 47, 48, 49, 50, 51, 52, 53, 54, 55, 56, 57, 58, 59, 60, 61, 62, 63, 64, 65, 66, 67, 68, 69, 70, 71] (by decide +kernel) (by decide +kernel)
set_option maxRecDepth 20000 in
theorem gX10_explain_X10_classOf : GoodIn wsX10_explain (wsV RX10 198 RX10 yX10_classOf wsX10_classOf) := goodIn_app (goodIn_of _ (by decide +kernel)) ggX10_explain_X10_classOf
set_option maxRecDepth 20000 in
theorem ggX10_explain_X10_items : GoodIn wsX10_explain wsX10_items := goodIn_r _ [23, 24, 25, 26, 8, 27, 4, 28, 29, 30, 31, 32, 33, 34, 35, 36, 37, 38, 14, 15, 16, 39, 40, 41, 42, 43, 44, 45, 46, 47, 48, 49, 50, 51, 52, 53, 54, 55, 56, 57, 58, 59, 60, 61, 62, 63, 64, 65, 66, 67, 68, 69, 70, 71] (by decide +kernel) (by decide +kernel)
set_option maxRecDepth 20000 in
theorem gX10_explain_X10_items : GoodIn wsX10_explain (wsV RX10 250 RX10 yX10_items wsX10_items) := goodIn_app (goodIn_of _ (by decide +kernel)) ggX10_explain_X10_items
theorem dX10_explain_0 : decode cX10_explain 0 = .ok (.aload_n 0, 1) := by decide +kernel
theorem dX10_explain_1 : decode cX10_explain 1 = .ok (.iconst 0, 1) := by decide +kernel
theorem dX10_explain_2 : decode cX10_explain 2 = .ok (.putfield 68, 3) := by decide +kernel
theorem dX10_explain_5 : decode cX10_explain 5 = .ok (.iconst 0, 1) := by decide +kernel
theorem dX10_explain_6 : decode cX10_explain 6 = .ok (.istore 4, 2) := by decide +kernel
theorem dX10_explain_8 : decode cX10_explain 8 = .ok (.iconst 0, 1) := by decide +kernel
theorem dX10_explain_9 : decode cX10_explain 9 = .ok (.istore 5, 2) := by decide +kernel
theorem dX10_explain_11 : decode cX10_explain 11 = .ok (.iload 5, 2) := by decide +kernel
theorem dX10_explain_13 : decode cX10_explain 13 = .ok (.aload_n 0, 1) := by decide +kernel
theorem dX10_explain_14 : decode cX10_explain 14 = .ok (.getfield 162, 3) := by decide +kernel
theorem dX10_explain_17 : decode cX10_explain 17 = .ok (.if_icmp .ge 79, 3) := by decide +kernel
theorem dX10_explain_20 : decode cX10_explain 20 = .ok (.aload_n 0, 1) := by decide +kernel
theorem dX10_explain_21 : decode cX10_explain 21 = .ok (.getfield 59, 3) := by decide +kernel
theorem dX10_explain_24 : decode cX10_explain 24 = .ok (.iload 5, 2) := by decide +kernel
theorem dX10_explain_26 : decode cX10_explain 26 = .ok (.iaload, 1) := by decide +kernel
theorem dX10_explain_27 : decode cX10_explain 27 = .ok (.iconst 1, 1) := by decide +kernel
theorem dX10_explain_28 : decode cX10_explain 28 = .ok (.if_icmp .ne 62, 3) := by decide +kernel
theorem dX10_explain_31 : decode cX10_explain 31 = .ok (.aload_n 0, 1) := by decide +kernel
theorem dX10_explain_32 : decode cX10_explain 32 = .ok (.iload 5, 2) := by decide +kernel
theorem dX10_explain_34 : decode cX10_explain 34 = .ok (.invokevirtual 198, 3) := by decide +kernel
theorem dX10_explain_37 : decode cX10_explain 37 = .ok (.iload_n 1, 1) := by decide +kernel
theorem dX10_explain_38 : decode cX10_explain 38 = .ok (.if_icmp .ne 52, 3) := by decide +kernel
theorem dX10_explain_41 : decode cX10_explain 41 = .ok (.iload 4, 2) := by decide +kernel
theorem dX10_explain_43 : decode cX10_explain 43 = .ok (.iload_n 2, 1) := by decide +kernel
theorem dX10_explain_44 : decode cX10_explain 44 = .ok (.if_icmp .ne 43, 3) := by decide +kernel
theorem dX10_explain_47 : decode cX10_explain 47 = .ok (.iload_n 3, 1) := by decide +kernel
theorem dX10_explain_48 : decode cX10_explain 48 = .ok (.ifCond .ne 8, 3) := by decide +kernel
theorem dX10_explain_51 : decode cX10_explain 51 = .ok (.iload 5, 2) := by decide +kernel
theorem dX10_explain_53 : decode cX10_explain 53 = .ok (.goto 33, 3) := by decide +kernel
theorem dX10_explain_56 : decode cX10_explain 56 = .ok (.iload_n 3, 1) := by decide +kernel
theorem dX10_explain_57 : decode cX10_explain 57 = .ok (.iconst 1, 1) := by decide +kernel
theorem dX10_explain_58 : decode cX10_explain 58 = .ok (.if_icmp .ne 12, 3) := by decide +kernel
theorem dX10_explain_61 : decode cX10_explain 61 = .ok (.aload_n 0, 1) := by decide +kernel
theorem dX10_explain_62 : decode cX10_explain 62 = .ok (.iload 5, 2) := by decide +kernel
theorem dX10_explain_64 : decode cX10_explain 64 = .ok (.invokevirtual 250, 3) := by decide +kernel
theorem dX10_explain_67 : decode cX10_explain 67 = .ok (.goto 19, 3) := by decide +kernel
theorem dX10_explain_70 : decode cX10_explain 70 = .ok (.iload_n 3, 1) := by decide +kernel
theorem dX10_explain_71 : decode cX10_explain 71 = .ok (.iconst 2, 1) := by decide +kernel
theorem dX10_explain_72 : decode cX10_explain 72 = .ok (.if_icmp .ne 13, 3) := by decide +kernel
theorem dX10_explain_75 : decode cX10_explain 75 = .ok (.aload_n 0, 1) := by decide +kernel
theorem dX10_explain_76 : decode cX10_explain 76 = .ok (.getfield 29, 3) := by decide +kernel
theorem dX10_explain_79 : decode cX10_explain 79 = .ok (.iload 5, 2) := by decide +kernel
theorem dX10_explain_81 : decode cX10_explain 81 = .ok (.iaload, 1) := by decide +kernel
theorem dX10_explain_82 : decode cX10_explain 82 = .ok (.goto 4, 3) := by decide +kernel
theorem dX10_explain_85 : decode cX10_explain 85 = .ok (.iconst (-1), 1) := by decide +kernel
theorem dX10_explain_86 : decode cX10_explain 86 = .ok (.ireturn, 1) := by decide +kernel
theorem dX10_explain_87 : decode cX10_explain 87 = .ok (.iinc 4 1, 3) := by decide +kernel
theorem dX10_explain_90 : decode cX10_explain 90 = .ok (.iinc 5 1, 3) := by decide +kernel
theorem dX10_explain_93 : decode cX10_explain 93 = .ok (.goto (-82), 3) := by decide +kernel
theorem dX10_explain_96 : decode cX10_explain 96 = .ok (.iconst (-1), 1) := by decide +kernel
theorem dX10_explain_97 : decode cX10_explain 97 = .ok (.ireturn, 1) := by decide +kernel
set_option maxRecDepth 20000 in
theorem ggX10_items_X10_firstItem : GoodIn wsX10_items wsX10_firstItem := goodIn_r _ [5, 6, 25, 26, 27, 28, 29, 30, 31, 32, 33, 34, 35, 36, 37, 38, 39, 40, 41, 42, 43, 44, 45, 46, 47, 48, 49, 50, 51, 52, 53] (by decide +kernel) (by decide +kernel)
set_option maxRecDepth 20000 in
theorem gX10_items_X10_firstItem : GoodIn wsX10_items (wsV RX10 201 RX10 yX10_firstItem wsX10_firstItem) := goodIn_app (goodIn_of _ (by decide +kernel)) ggX10_items_X10_firstItem
set_option maxRecDepth 20000 in
theorem ggX10_items_X10_nextItem : GoodIn wsX10_items wsX10_nextItem := goodIn_r _ [10, 11, 12, 13, 14, 15, 4, 16, 17, 18, 19, 20, 21, 22, 23, 24, 25, 26, 27, 28, 29, 30, 31, 32, 33, 34, 35, 36, 37, 38, 39, 40, 41, 42, 43, 44, 45, 46, 47, 48, 49, 50, 51, 52, 53] (by decide +kernel) (by decide +kernel)
set_option maxRecDepth 20000 in
theorem gX10_items_X10_nextItem : GoodIn wsX10_items (wsV RX10 204 RX10 yX10_nextItem wsX10_nextItem) := goodIn_app (goodIn_of _ (by decide +kernel)) ggX10_items_X10_nextItem
theorem dX10_items_0 : decode cX10_items 0 = .ok (.iconst 0, 1) := by decide +kernel
theorem dX10_items_1 : decode cX10_items 1 = .ok (.istore_n 2, 1) := by decide +kernel
theorem dX10_items_2 : decode cX10_items 2 = .ok (.aload_n 0, 1) := by decide +kernel
theorem dX10_items_3 : decode cX10_items 3 = .ok (.iload_n 1, 1) := by decide +kernel
theorem dX10_items_4 : decode cX10_items 4 = .ok (.invokevirtual 201, 3) := by decide +kernel
theorem dX10_items_7 : decode cX10_items 7 = .ok (.istore_n 3, 1) := by decide +kernel
theorem dX10_items_8 : decode cX10_items 8 = .ok (.iload_n 3, 1) := by decide +kernel
theorem dX10_items_9 : decode cX10_items 9 = .ok (.iconst (-1), 1) := by decide +kernel
theorem dX10_items_10 : decode cX10_items 10 = .ok (.if_icmp .eq 15, 3) := by decide +kernel
theorem dX10_items_13 : decode cX10_items 13 = .ok (.iinc 2 1, 3) := by decide +kernel
theorem dX10_items_16 : decode cX10_items 16 = .ok (.aload_n 0, 1) := by decide +kernel
theorem dX10_items_17 : decode cX10_items 17 = .ok (.iload_n 3, 1) := by decide +kernel
theorem dX10_items_18 : decode cX10_items 18 = .ok (.invokevirtual 204, 3) := by decide +kernel
theorem dX10_items_21 : decode cX10_items 21 = .ok (.istore_n 3, 1) := by decide +kernel
theorem dX10_items_22 : decode cX10_items 22 = .ok (.goto (-14), 3) := by decide +kernel
theorem dX10_items_25 : decode cX10_items 25 = .ok (.iload_n 2, 1) := by decide +kernel
theorem dX10_items_26 : decode cX10_items 26 = .ok (.ireturn, 1) := by decide +kernel
set_option maxRecDepth 20000 in
theorem ggX10_limit_X10_classOf : GoodIn wsX10_limit wsX10_classOf := goodIn_r _ [13, 14, 15, 16, 17, 12, 18, 19, 20, 21, 22, 23, 24, 57, 58, 59, 60, 61, 62, 63, 64, 65, 66, 67, 68, 69, 70, 71, 72, 73, 74, 75, 76, 77, 78, 79, 80, 81, 82, 83, 84, 85] (by decide +kernel) (by decide +kernel)
set_option maxRecDepth 20000 in
theorem gX10_limit_X10_classOf : GoodIn wsX10_limit (wsV RX10 198 RX10 yX10_classOf wsX10_classOf) := goodIn_app (goodIn_of _ (by decide +kernel)) ggX10_limit_X10_classOf
set_option maxRecDepth 20000 in
theorem ggX10_limit_X10_firstItem : GoodIn wsX10_limit wsX10_firstItem := goodIn_r _ [28, 14, 57, 58, 59, 60, 61, 62, 63, 64, 65, 66, 67, 68, 69, 70, 71, 72, 73, 74, 75, 76, 77, 78, 79, 80, 81, 82, 83, 84, 85] (by decide +kernel) (by decide +kernel)
set_option maxRecDepth 20000 in
theorem gX10_limit_X10_firstItem : GoodIn wsX10_limit (wsV RX10 201 RX10 yX10_firstItem wsX10_firstItem) := goodIn_app (goodIn_of _ (by decide +kernel)) ggX10_limit_X10_firstItem
set_option maxRecDepth 20000 in
theorem ggX10_limit_X10_has : GoodIn wsX10_limit wsX10_has := goodIn_r _ [32, 33, 19, 20, 21, 34, 35, 12, 36, 37, 57, 58, 59, 60, 61, 62, 63, 64, 65, 66, 67, 68, 69, 70, 71, 72, 73, 74, 75, 76, 77, 78, 79, 80, 81, 82, 83, 84, 85] (by decide +kernel) (by decide +kernel)
set_option maxRecDepth 20000 in
theorem gX10_limit_X10_has : GoodIn wsX10_limit (wsV RX10 168 RX10 yX10_has wsX10_has) := goodIn_app (goodIn_of _ (by decide +kernel)) ggX10_limit_X10_has
set_option maxRecDepth 20000 in
theorem ggX10_limit_X10_add : GoodIn wsX10_limit wsX10_add := goodIn_r _ [41, 42, 43, 44, 45, 46, 47, 48, 49, 50, 7, 29, 30, 31, 12, 32, 33, 19, 20, 21, 34, 35, 36, 37, 15, 16, 17, 18, 22, 23, 24, 57, 58, 59, 60, 61, 62, 63, 64, 65, 66, 67, 68, 69, 70, 71, 72, 73, 74, 75, 76, 77, 78, 79, 80, 81, 82, 83, 84, 85] (by decide +kernel) (by decide +kernel)
set_option maxRecDepth 20000 in
theorem gX10_limit_X10_add : GoodIn wsX10_limit (wsV RX10 194 RX10 yX10_add wsX10_add) := goodIn_app (goodIn_of _ (by decide +kernel)) ggX10_limit_X10_add
set_option maxRecDepth 20000 in
theorem ggX10_limit_X10_number : GoodIn wsX10_limit wsX10_number := goodIn_r _ [18, 19, 20, 21, 22, 23, 12, 24, 57, 58, 59, 60, 61, 62, 63, 64, 65, 66, 67, 68, 69, 70, 71, 72, 73, 74, 75, 76, 77, 78, 79, 80, 81, 82, 83, 84, 85] (by decide +kernel) (by decide +kernel)
set_option maxRecDepth 20000 in
theorem gX10_limit_X10_number : GoodIn wsX10_limit (wsV RX10 172 RX10 yX10_number wsX10_number) := goodIn_app (goodIn_of _ (by decide +kernel)) ggX10_limit_X10_number
set_option maxRecDepth 20000 in
theorem ggX10_limit_X10_nextItem : GoodIn wsX10_limit wsX10_nextItem := goodIn_r _ [54, 55, 56, 29, 30, 31, 12, 32, 33, 19, 20, 21, 34, 35, 36, 37, 57, 58, 59, 60, 61, 62, 63, 64, 65, 66, 67, 68, 69, 70, 71, 72, 73, 74, 75, 76, 77, 78, 79, 80, 81, 82, 83, 84, 85] (by decide +kernel) (by decide +kernel)
set_option maxRecDepth 20000 in
theorem gX10_limit_X10_nextItem : GoodIn wsX10_limit (wsV RX10 204 RX10 yX10_nextItem wsX10_nextItem) := goodIn_app (goodIn_of _ (by decide +kernel)) ggX10_limit_X10_nextItem
theorem dX10_limit_0 : decode cX10_limit 0 = .ok (.aload_n 0, 1) := by decide +kernel
theorem dX10_limit_1 : decode cX10_limit 1 = .ok (.iconst 0, 1) := by decide +kernel
theorem dX10_limit_2 : decode cX10_limit 2 = .ok (.putfield 68, 3) := by decide +kernel
theorem dX10_limit_5 : decode cX10_limit 5 = .ok (.ldc2_w 253, 3) := by decide +kernel
theorem dX10_limit_8 : decode cX10_limit 8 = .ok (.lstore_n 2, 1) := by decide +kernel
theorem dX10_limit_9 : decode cX10_limit 9 = .ok (.iconst 0, 1) := by decide +kernel
theorem dX10_limit_10 : decode cX10_limit 10 = .ok (.istore 4, 2) := by decide +kernel
theorem dX10_limit_12 : decode cX10_limit 12 = .ok (.iload 4, 2) := by decide +kernel
theorem dX10_limit_14 : decode cX10_limit 14 = .ok (.aload_n 0, 1) := by decide +kernel
theorem dX10_limit_15 : decode cX10_limit 15 = .ok (.getfield 162, 3) := by decide +kernel
theorem dX10_limit_18 : decode cX10_limit 18 = .ok (.if_icmp .ge 134, 3) := by decide +kernel
theorem dX10_limit_21 : decode cX10_limit 21 = .ok (.aload_n 0, 1) := by decide +kernel
theorem dX10_limit_22 : decode cX10_limit 22 = .ok (.getfield 55, 3) := by decide +kernel
theorem dX10_limit_25 : decode cX10_limit 25 = .ok (.iconst (-1), 1) := by decide +kernel
theorem dX10_limit_26 : decode cX10_limit 26 = .ok (.if_icmp .eq 126, 3) := by decide +kernel
theorem dX10_limit_29 : decode cX10_limit 29 = .ok (.aload_n 0, 1) := by decide +kernel
theorem dX10_limit_30 : decode cX10_limit 30 = .ok (.getfield 32, 3) := by decide +kernel
theorem dX10_limit_33 : decode cX10_limit 33 = .ok (.iload 4, 2) := by decide +kernel
theorem dX10_limit_35 : decode cX10_limit 35 = .ok (.iaload, 1) := by decide +kernel
theorem dX10_limit_36 : decode cX10_limit 36 = .ok (.aload_n 0, 1) := by decide +kernel
theorem dX10_limit_37 : decode cX10_limit 37 = .ok (.getfield 55, 3) := by decide +kernel
theorem dX10_limit_40 : decode cX10_limit 40 = .ok (.if_icmp .ne 106, 3) := by decide +kernel
theorem dX10_limit_43 : decode cX10_limit 43 = .ok (.aload_n 0, 1) := by decide +kernel
theorem dX10_limit_44 : decode cX10_limit 44 = .ok (.iload 4, 2) := by decide +kernel
theorem dX10_limit_46 : decode cX10_limit 46 = .ok (.invokevirtual 198, 3) := by decide +kernel
theorem dX10_limit_49 : decode cX10_limit 49 = .ok (.iload_n 1, 1) := by decide +kernel
theorem dX10_limit_50 : decode cX10_limit 50 = .ok (.if_icmp .ne 96, 3) := by decide +kernel
theorem dX10_limit_53 : decode cX10_limit 53 = .ok (.aload_n 0, 1) := by decide +kernel
theorem dX10_limit_54 : decode cX10_limit 54 = .ok (.iload 4, 2) := by decide +kernel
theorem dX10_limit_56 : decode cX10_limit 56 = .ok (.invokevirtual 201, 3) := by decide +kernel
theorem dX10_limit_59 : decode cX10_limit 59 = .ok (.istore 5, 2) := by decide +kernel
theorem dX10_limit_61 : decode cX10_limit 61 = .ok (.iload 5, 2) := by decide +kernel
theorem dX10_limit_63 : decode cX10_limit 63 = .ok (.iconst (-1), 1) := by decide +kernel
theorem dX10_limit_64 : decode cX10_limit 64 = .ok (.if_icmp .eq 82, 3) := by decide +kernel
theorem dX10_limit_67 : decode cX10_limit 67 = .ok (.aload_n 0, 1) := by decide +kernel
theorem dX10_limit_68 : decode cX10_limit 68 = .ok (.iload 5, 2) := by decide +kernel
theorem dX10_limit_70 : decode cX10_limit 70 = .ok (.ldc2_w 132, 3) := by decide +kernel
theorem dX10_limit_73 : decode cX10_limit 73 = .ok (.invokevirtual 168, 3) := by decide +kernel
theorem dX10_limit_76 : decode cX10_limit 76 = .ok (.ifCond .eq 59, 3) := by decide +kernel
theorem dX10_limit_79 : decode cX10_limit 79 = .ok (.aload_n 0, 1) := by decide +kernel
theorem dX10_limit_80 : decode cX10_limit 80 = .ok (.iload 5, 2) := by decide +kernel
theorem dX10_limit_82 : decode cX10_limit 82 = .ok (.iconst 1, 1) := by decide +kernel
theorem dX10_limit_83 : decode cX10_limit 83 = .ok (.iconst (-1), 1) := by decide +kernel
theorem dX10_limit_84 : decode cX10_limit 84 = .ok (.invokevirtual 194, 3) := by decide +kernel
theorem dX10_limit_87 : decode cX10_limit 87 = .ok (.aload_n 0, 1) := by decide +kernel
theorem dX10_limit_88 : decode cX10_limit 88 = .ok (.aload_n 0, 1) := by decide +kernel
theorem dX10_limit_89 : decode cX10_limit 89 = .ok (.getfield 191, 3) := by decide +kernel
theorem dX10_limit_92 : decode cX10_limit 92 = .ok (.iconst 1, 1) := by decide +kernel
theorem dX10_limit_93 : decode cX10_limit 93 = .ok (.iadd, 1) := by decide +kernel
theorem dX10_limit_94 : decode cX10_limit 94 = .ok (.invokevirtual 172, 3) := by decide +kernel
theorem dX10_limit_97 : decode cX10_limit 97 = .ok (.istore 6, 2) := by decide +kernel
theorem dX10_limit_99 : decode cX10_limit 99 = .ok (.aload_n 0, 1) := by decide +kernel
theorem dX10_limit_100 : decode cX10_limit 100 = .ok (.aload_n 0, 1) := by decide +kernel
theorem dX10_limit_101 : decode cX10_limit 101 = .ok (.getfield 191, 3) := by decide +kernel
theorem dX10_limit_104 : decode cX10_limit 104 = .ok (.ldc2_w 120, 3) := by decide +kernel
theorem dX10_limit_107 : decode cX10_limit 107 = .ok (.invokevirtual 168, 3) := by decide +kernel
theorem dX10_limit_110 : decode cX10_limit 110 = .ok (.ifCond .eq 23, 3) := by decide +kernel
theorem dX10_limit_113 : decode cX10_limit 113 = .ok (.lload_n 2, 1) := by decide +kernel
theorem dX10_limit_114 : decode cX10_limit 114 = .ok (.lconst 0, 1) := by decide +kernel
theorem dX10_limit_115 : decode cX10_limit 115 = .ok (.lcmp, 1) := by decide +kernel
theorem dX10_limit_116 : decode cX10_limit 116 = .ok (.ifCond .lt 11, 3) := by decide +kernel
theorem dX10_limit_119 : decode cX10_limit 119 = .ok (.iload 6, 2) := by decide +kernel
theorem dX10_limit_121 : decode cX10_limit 121 = .ok (.i2l, 1) := by decide +kernel
theorem dX10_limit_122 : decode cX10_limit 122 = .ok (.lload_n 2, 1) := by decide +kernel
theorem dX10_limit_123 : decode cX10_limit 123 = .ok (.lcmp, 1) := by decide +kernel
theorem dX10_limit_124 : decode cX10_limit 124 = .ok (.ifCond .ge 9, 3) := by decide +kernel
theorem dX10_limit_127 : decode cX10_limit 127 = .ok (.iload 6, 2) := by decide +kernel
theorem dX10_limit_129 : decode cX10_limit 129 = .ok (.i2l, 1) := by decide +kernel
theorem dX10_limit_130 : decode cX10_limit 130 = .ok (.goto 4, 3) := by decide +kernel
theorem dX10_limit_133 : decode cX10_limit 133 = .ok (.lload_n 2, 1) := by decide +kernel
theorem dX10_limit_134 : decode cX10_limit 134 = .ok (.lstore_n 2, 1) := by decide +kernel
theorem dX10_limit_135 : decode cX10_limit 135 = .ok (.aload_n 0, 1) := by decide +kernel
theorem dX10_limit_136 : decode cX10_limit 136 = .ok (.iload 5, 2) := by decide +kernel
theorem dX10_limit_138 : decode cX10_limit 138 = .ok (.invokevirtual 204, 3) := by decide +kernel
theorem dX10_limit_141 : decode cX10_limit 141 = .ok (.istore 5, 2) := by decide +kernel
theorem dX10_limit_143 : decode cX10_limit 143 = .ok (.goto (-82), 3) := by decide +kernel
theorem dX10_limit_146 : decode cX10_limit 146 = .ok (.iinc 4 1, 3) := by decide +kernel
theorem dX10_limit_149 : decode cX10_limit 149 = .ok (.goto (-137), 3) := by decide +kernel
theorem dX10_limit_152 : decode cX10_limit 152 = .ok (.lload_n 2, 1) := by decide +kernel
theorem dX10_limit_153 : decode cX10_limit 153 = .ok (.lreturn, 1) := by decide +kernel
set_option maxRecDepth 20000 in
theorem ggX10_sum_X10_firstItem : GoodIn wsX10_sum wsX10_firstItem := goodIn_r _ [10, 11, 49, 50, 51, 52, 53, 54, 55, 56, 57, 58, 59, 60, 61, 62, 63, 64, 65, 66, 67, 68, 69, 70, 71, 72, 73, 74, 75, 76, 77] (by decide +kernel) (by decide +kernel)
set_option maxRecDepth 20000 in
theorem gX10_sum_X10_firstItem : GoodIn wsX10_sum (wsV RX10 201 RX10 yX10_firstItem wsX10_firstItem) := goodIn_app (goodIn_of _ (by decide +kernel)) ggX10_sum_X10_firstItem
set_option maxRecDepth 20000 in
theorem ggX10_sum_X10_has : GoodIn wsX10_sum wsX10_has := goodIn_r _ [15, 16, 17, 18, 19, 20, 21, 9, 22, 23, 49, 50, 51, 52, 53, 54, 55, 56, 57, 58, 59, 60, 61, 62, 63, 64, 65, 66, 67, 68, 69, 70, 71, 72, 73, 74, 75, 76, 77] (by decide +kernel) (by decide +kernel)
set_option maxRecDepth 20000 in
theorem gX10_sum_X10_has : GoodIn wsX10_sum (wsV RX10 168 RX10 yX10_has wsX10_has) := goodIn_app (goodIn_of _ (by decide +kernel)) ggX10_sum_X10_has
set_option maxRecDepth 20000 in
theorem ggX10_sum_X10_add : GoodIn wsX10_sum wsX10_add := goodIn_r _ [27, 5, 4, 28, 29, 30, 31, 32, 33, 34, 35, 12, 13, 14, 9, 15, 16, 17, 18, 19, 20, 21, 22, 23, 36, 37, 38, 39, 40, 41, 42, 49, 50, 51, 52, 53, 54, 55, 56, 57, 58, 59, 60, 61, 62, 63, 64, 65, 66, 67, 68, 69, 70, 71, 72, 73, 74, 75, 76, 77] (by decide +kernel) (by decide +kernel)
set_option maxRecDepth 20000 in
theorem gX10_sum_X10_add : GoodIn wsX10_sum (wsV RX10 194 RX10 yX10_add wsX10_add) := goodIn_app (goodIn_of _ (by decide +kernel)) ggX10_sum_X10_add
set_option maxRecDepth 20000 in
theorem ggX10_sum_X10_nextItem : GoodIn wsX10_sum wsX10_nextItem := goodIn_r _ [46, 47, 48, 12, 13, 14, 9, 15, 16, 17, 18, 19, 20, 21, 22, 23, 49, 50, 51, 52, 53, 54, 55, 56, 57, 58, 59, 60, 61, 62, 63, 64, 65, 66, 67, 68, 69, 70, 71, 72, 73, 74, 75, 76, 77] (by decide +kernel) (by decide +kernel)
set_option maxRecDepth 20000 in
theorem gX10_sum_X10_nextItem : GoodIn wsX10_sum (wsV RX10 204 RX10 yX10_nextItem wsX10_nextItem) := goodIn_app (goodIn_of _ (by decide +kernel)) ggX10_sum_X10_nextItem
theorem dX10_sum_0 : decode cX10_sum 0 = .ok (.aload_n 0, 1) := by decide +kernel
theorem dX10_sum_1 : decode cX10_sum 1 = .ok (.iconst 0, 1) := by decide +kernel
theorem dX10_sum_2 : decode cX10_sum 2 = .ok (.putfield 68, 3) := by decide +kernel
theorem dX10_sum_5 : decode cX10_sum 5 = .ok (.iload_n 1, 1) := by decide +kernel
theorem dX10_sum_6 : decode cX10_sum 6 = .ok (.ifCond .lt 31, 3) := by decide +kernel
theorem dX10_sum_9 : decode cX10_sum 9 = .ok (.iload_n 1, 1) := by decide +kernel
theorem dX10_sum_10 : decode cX10_sum 10 = .ok (.aload_n 0, 1) := by decide +kernel
theorem dX10_sum_11 : decode cX10_sum 11 = .ok (.getfield 162, 3) := by decide +kernel
theorem dX10_sum_14 : decode cX10_sum 14 = .ok (.if_icmp .ge 23, 3) := by decide +kernel
theorem dX10_sum_17 : decode cX10_sum 17 = .ok (.iload_n 2, 1) := by decide +kernel
theorem dX10_sum_18 : decode cX10_sum 18 = .ok (.ifCond .lt 19, 3) := by decide +kernel
theorem dX10_sum_21 : decode cX10_sum 21 = .ok (.iload_n 2, 1) := by decide +kernel
theorem dX10_sum_22 : decode cX10_sum 22 = .ok (.iconst 1, 1) := by decide +kernel
theorem dX10_sum_23 : decode cX10_sum 23 = .ok (.if_icmp .gt 14, 3) := by decide +kernel
theorem dX10_sum_26 : decode cX10_sum 26 = .ok (.iload_n 3, 1) := by decide +kernel
theorem dX10_sum_27 : decode cX10_sum 27 = .ok (.iconst (-1), 1) := by decide +kernel
theorem dX10_sum_28 : decode cX10_sum 28 = .ok (.if_icmp .lt 9, 3) := by decide +kernel
theorem dX10_sum_31 : decode cX10_sum 31 = .ok (.iload_n 3, 1) := by decide +kernel
theorem dX10_sum_32 : decode cX10_sum 32 = .ok (.bipush 15, 2) := by decide +kernel
theorem dX10_sum_34 : decode cX10_sum 34 = .ok (.if_icmp .le 5, 3) := by decide +kernel
theorem dX10_sum_37 : decode cX10_sum 37 = .ok (.lconst 0, 1) := by decide +kernel
theorem dX10_sum_38 : decode cX10_sum 38 = .ok (.lreturn, 1) := by decide +kernel
theorem dX10_sum_39 : decode cX10_sum 39 = .ok (.aload_n 0, 1) := by decide +kernel
theorem dX10_sum_40 : decode cX10_sum 40 = .ok (.iload_n 1, 1) := by decide +kernel
theorem dX10_sum_41 : decode cX10_sum 41 = .ok (.invokevirtual 201, 3) := by decide +kernel
theorem dX10_sum_44 : decode cX10_sum 44 = .ok (.istore 4, 2) := by decide +kernel
theorem dX10_sum_46 : decode cX10_sum 46 = .ok (.iload 4, 2) := by decide +kernel
theorem dX10_sum_48 : decode cX10_sum 48 = .ok (.iconst (-1), 1) := by decide +kernel
theorem dX10_sum_49 : decode cX10_sum 49 = .ok (.if_icmp .eq 60, 3) := by decide +kernel
theorem dX10_sum_52 : decode cX10_sum 52 = .ok (.aload_n 0, 1) := by decide +kernel
theorem dX10_sum_53 : decode cX10_sum 53 = .ok (.iload 4, 2) := by decide +kernel
theorem dX10_sum_55 : decode cX10_sum 55 = .ok (.ldc2_w 132, 3) := by decide +kernel
theorem dX10_sum_58 : decode cX10_sum 58 = .ok (.invokevirtual 168, 3) := by decide +kernel
theorem dX10_sum_61 : decode cX10_sum 61 = .ok (.ifCond .eq 37, 3) := by decide +kernel
theorem dX10_sum_64 : decode cX10_sum 64 = .ok (.aload_n 0, 1) := by decide +kernel
theorem dX10_sum_65 : decode cX10_sum 65 = .ok (.iload 4, 2) := by decide +kernel
theorem dX10_sum_67 : decode cX10_sum 67 = .ok (.iload_n 2, 1) := by decide +kernel
theorem dX10_sum_68 : decode cX10_sum 68 = .ok (.iconst 1, 1) := by decide +kernel
theorem dX10_sum_69 : decode cX10_sum 69 = .ok (.if_icmp .ne 7, 3) := by decide +kernel
theorem dX10_sum_72 : decode cX10_sum 72 = .ok (.iconst 1, 1) := by decide +kernel
theorem dX10_sum_73 : decode cX10_sum 73 = .ok (.goto 4, 3) := by decide +kernel
theorem dX10_sum_76 : decode cX10_sum 76 = .ok (.iconst 0, 1) := by decide +kernel
theorem dX10_sum_77 : decode cX10_sum 77 = .ok (.iload_n 3, 1) := by decide +kernel
theorem dX10_sum_78 : decode cX10_sum 78 = .ok (.invokevirtual 194, 3) := by decide +kernel
theorem dX10_sum_81 : decode cX10_sum 81 = .ok (.aload_n 0, 1) := by decide +kernel
theorem dX10_sum_82 : decode cX10_sum 82 = .ok (.getfield 188, 3) := by decide +kernel
theorem dX10_sum_85 : decode cX10_sum 85 = .ok (.iconst (-1), 1) := by decide +kernel
theorem dX10_sum_86 : decode cX10_sum 86 = .ok (.if_icmp .ne 10, 3) := by decide +kernel
theorem dX10_sum_89 : decode cX10_sum 89 = .ok (.aload_n 0, 1) := by decide +kernel
theorem dX10_sum_90 : decode cX10_sum 90 = .ok (.getfield 184, 3) := by decide +kernel
theorem dX10_sum_93 : decode cX10_sum 93 = .ok (.goto 4, 3) := by decide +kernel
theorem dX10_sum_96 : decode cX10_sum 96 = .ok (.lconst 0, 1) := by decide +kernel
theorem dX10_sum_97 : decode cX10_sum 97 = .ok (.lreturn, 1) := by decide +kernel
theorem dX10_sum_98 : decode cX10_sum 98 = .ok (.aload_n 0, 1) := by decide +kernel
theorem dX10_sum_99 : decode cX10_sum 99 = .ok (.iload 4, 2) := by decide +kernel
theorem dX10_sum_101 : decode cX10_sum 101 = .ok (.invokevirtual 204, 3) := by decide +kernel
theorem dX10_sum_104 : decode cX10_sum 104 = .ok (.istore 4, 2) := by decide +kernel
theorem dX10_sum_106 : decode cX10_sum 106 = .ok (.goto (-60), 3) := by decide +kernel
theorem dX10_sum_109 : decode cX10_sum 109 = .ok (.lconst 0, 1) := by decide +kernel
theorem dX10_sum_110 : decode cX10_sum 110 = .ok (.lreturn, 1) := by decide +kernel
set_option maxRecDepth 20000 in
theorem ggX10_table_X10_firstItem : GoodIn wsX10_table wsX10_firstItem := goodIn_r _ [9, 10, 29, 30, 31, 32, 33, 34, 35, 36, 37, 38, 39, 40, 41, 42, 43, 44, 45, 46, 47, 48, 49, 50, 51, 52, 53, 54, 55, 56, 57] (by decide +kernel) (by decide +kernel)
set_option maxRecDepth 20000 in
theorem gX10_table_X10_firstItem : GoodIn wsX10_table (wsV RX10 201 RX10 yX10_firstItem wsX10_firstItem) := goodIn_app (goodIn_of _ (by decide +kernel)) ggX10_table_X10_firstItem
set_option maxRecDepth 20000 in
theorem ggX10_table_X10_has : GoodIn wsX10_table wsX10_has := goodIn_r _ [14, 15, 16, 17, 18, 19, 20, 8, 21, 22, 29, 30, 31, 32, 33, 34, 35, 36, 37, 38, 39, 40, 41, 42, 43, 44, 45, 46, 47, 48, 49, 50, 51, 52, 53, 54, 55, 56, 57] (by decide +kernel) (by decide +kernel)
set_option maxRecDepth 20000 in
theorem gX10_table_X10_has : GoodIn wsX10_table (wsV RX10 168 RX10 yX10_has wsX10_has) := goodIn_app (goodIn_of _ (by decide +kernel)) ggX10_table_X10_has
set_option maxRecDepth 20000 in
theorem ggX10_table_X10_nextItem : GoodIn wsX10_table wsX10_nextItem := goodIn_r _ [26, 27, 28, 11, 12, 13, 8, 14, 15, 16, 17, 18, 19, 20, 21, 22, 29, 30, 31, 32, 33, 34, 35, 36, 37, 38, 39, 40, 41, 42, 43, 44, 45, 46, 47, 48, 49, 50, 51, 52, 53, 54, 55, 56, 57] (by decide +kernel) (by decide +kernel)
set_option maxRecDepth 20000 in
theorem gX10_table_X10_nextItem : GoodIn wsX10_table (wsV RX10 204 RX10 yX10_nextItem wsX10_nextItem) := goodIn_app (goodIn_of _ (by decide +kernel)) ggX10_table_X10_nextItem
theorem dX10_table_0 : decode cX10_table 0 = .ok (.aload_n 0, 1) := by decide +kernel
theorem dX10_table_1 : decode cX10_table 1 = .ok (.iconst 0, 1) := by decide +kernel
theorem dX10_table_2 : decode cX10_table 2 = .ok (.putfield 68, 3) := by decide +kernel
theorem dX10_table_5 : decode cX10_table 5 = .ok (.iconst 0, 1) := by decide +kernel
theorem dX10_table_6 : decode cX10_table 6 = .ok (.istore_n 3, 1) := by decide +kernel
theorem dX10_table_7 : decode cX10_table 7 = .ok (.iload_n 1, 1) := by decide +kernel
theorem dX10_table_8 : decode cX10_table 8 = .ok (.ifCond .lt 77, 3) := by decide +kernel
theorem dX10_table_11 : decode cX10_table 11 = .ok (.iload_n 1, 1) := by decide +kernel
theorem dX10_table_12 : decode cX10_table 12 = .ok (.aload_n 0, 1) := by decide +kernel
theorem dX10_table_13 : decode cX10_table 13 = .ok (.getfield 162, 3) := by decide +kernel
theorem dX10_table_16 : decode cX10_table 16 = .ok (.if_icmp .ge 69, 3) := by decide +kernel
theorem dX10_table_19 : decode cX10_table 19 = .ok (.aload_n 0, 1) := by decide +kernel
theorem dX10_table_20 : decode cX10_table 20 = .ok (.iload_n 1, 1) := by decide +kernel
theorem dX10_table_21 : decode cX10_table 21 = .ok (.invokevirtual 201, 3) := by decide +kernel
theorem dX10_table_24 : decode cX10_table 24 = .ok (.istore 4, 2) := by decide +kernel
theorem dX10_table_26 : decode cX10_table 26 = .ok (.iload 4, 2) := by decide +kernel
theorem dX10_table_28 : decode cX10_table 28 = .ok (.iconst (-1), 1) := by decide +kernel
theorem dX10_table_29 : decode cX10_table 29 = .ok (.if_icmp .eq 56, 3) := by decide +kernel
theorem dX10_table_32 : decode cX10_table 32 = .ok (.iload_n 3, 1) := by decide +kernel
theorem dX10_table_33 : decode cX10_table 33 = .ok (.iload_n 2, 1) := by decide +kernel
theorem dX10_table_34 : decode cX10_table 34 = .ok (.if_icmp .ne 37, 3) := by decide +kernel
theorem dX10_table_37 : decode cX10_table 37 = .ok (.aload_n 0, 1) := by decide +kernel
theorem dX10_table_38 : decode cX10_table 38 = .ok (.iload 4, 2) := by decide +kernel
theorem dX10_table_40 : decode cX10_table 40 = .ok (.ldc2_w 124, 3) := by decide +kernel
theorem dX10_table_43 : decode cX10_table 43 = .ok (.invokevirtual 168, 3) := by decide +kernel
theorem dX10_table_46 : decode cX10_table 46 = .ok (.ifCond .eq 7, 3) := by decide +kernel
theorem dX10_table_49 : decode cX10_table 49 = .ok (.iconst 0, 1) := by decide +kernel
theorem dX10_table_50 : decode cX10_table 50 = .ok (.goto 20, 3) := by decide +kernel
theorem dX10_table_53 : decode cX10_table 53 = .ok (.aload_n 0, 1) := by decide +kernel
theorem dX10_table_54 : decode cX10_table 54 = .ok (.iload 4, 2) := by decide +kernel
theorem dX10_table_56 : decode cX10_table 56 = .ok (.ldc2_w 130, 3) := by decide +kernel
theorem dX10_table_59 : decode cX10_table 59 = .ok (.invokevirtual 168, 3) := by decide +kernel
theorem dX10_table_62 : decode cX10_table 62 = .ok (.ifCond .eq 7, 3) := by decide +kernel
theorem dX10_table_65 : decode cX10_table 65 = .ok (.iconst 1, 1) := by decide +kernel
theorem dX10_table_66 : decode cX10_table 66 = .ok (.goto 4, 3) := by decide +kernel
theorem dX10_table_69 : decode cX10_table 69 = .ok (.iconst 2, 1) := by decide +kernel
theorem dX10_table_70 : decode cX10_table 70 = .ok (.ireturn, 1) := by decide +kernel
theorem dX10_table_71 : decode cX10_table 71 = .ok (.iinc 3 1, 3) := by decide +kernel
theorem dX10_table_74 : decode cX10_table 74 = .ok (.aload_n 0, 1) := by decide +kernel
theorem dX10_table_75 : decode cX10_table 75 = .ok (.iload 4, 2) := by decide +kernel
theorem dX10_table_77 : decode cX10_table 77 = .ok (.invokevirtual 204, 3) := by decide +kernel
theorem dX10_table_80 : decode cX10_table 80 = .ok (.istore 4, 2) := by decide +kernel
theorem dX10_table_82 : decode cX10_table 82 = .ok (.goto (-56), 3) := by decide +kernel
theorem dX10_table_85 : decode cX10_table 85 = .ok (.aload_n 0, 1) := by decide +kernel
theorem dX10_table_86 : decode cX10_table 86 = .ok (.iconst 1, 1) := by decide +kernel
theorem dX10_table_87 : decode cX10_table 87 = .ok (.putfield 68, 3) := by decide +kernel
theorem dX10_table_90 : decode cX10_table 90 = .ok (.iconst 0, 1) := by decide +kernel
theorem dX10_table_91 : decode cX10_table 91 = .ok (.ireturn, 1) := by decide +kernel
theorem dJx00060_init_a7421_0 : decode cJx00060_init_a7421 0 = .ok (.aload_n 0, 1) := by decide +kernel
theorem dJx00060_init_a7421_1 : decode cJx00060_init_a7421 1 = .ok (.aload_n 1, 1) := by decide +kernel
theorem dJx00060_init_a7421_2 : decode cJx00060_init_a7421 2 = .ok (.invokespecial 7, 3) := by decide +kernel
theorem dJx00060_init_a7421_5 : decode cJx00060_init_a7421 5 = .ok (.return_, 1) := by decide +kernel
theorem dJ9_min_7cf53_0 : decode cJ9_min_7cf53 0 = .ok (.iload_n 0, 1) := by decide +kernel
theorem dJ9_min_7cf53_1 : decode cJ9_min_7cf53 1 = .ok (.iload_n 1, 1) := by decide +kernel
theorem dJ9_min_7cf53_2 : decode cJ9_min_7cf53 2 = .ok (.if_icmp .gt 7, 3) := by decide +kernel
theorem dJ9_min_7cf53_5 : decode cJ9_min_7cf53 5 = .ok (.iload_n 0, 1) := by decide +kernel
theorem dJ9_min_7cf53_6 : decode cJ9_min_7cf53 6 = .ok (.goto 4, 3) := by decide +kernel
theorem dJ9_min_7cf53_9 : decode cJ9_min_7cf53 9 = .ok (.iload_n 1, 1) := by decide +kernel
theorem dJ9_min_7cf53_10 : decode cJ9_min_7cf53 10 = .ok (.ireturn, 1) := by decide +kernel
set_option maxRecDepth 20000 in
theorem ggJ0_length_8abf5_J0_coder_7d493 : GoodIn wsJ0_length_8abf5 wsJ0_coder_7d493 := goodIn_r _ [6, 7, 8] (by decide +kernel) (by decide +kernel)
set_option maxRecDepth 20000 in
theorem gJ0_length_8abf5_J0_coder_7d493 : GoodIn wsJ0_length_8abf5 (wsV RJ0 335 RJ0 yJ0_coder_7d493 wsJ0_coder_7d493) := goodIn_app (goodIn_of _ (by decide +kernel)) ggJ0_length_8abf5_J0_coder_7d493
theorem dJ0_length_8abf5_0 : decode cJ0_length_8abf5 0 = .ok (.aload_n 0, 1) := by decide +kernel
theorem dJ0_length_8abf5_1 : decode cJ0_length_8abf5 1 = .ok (.getfield 9, 3) := by decide +kernel
theorem dJ0_length_8abf5_4 : decode cJ0_length_8abf5 4 = .ok (.arraylength, 1) := by decide +kernel
theorem dJ0_length_8abf5_5 : decode cJ0_length_8abf5 5 = .ok (.aload_n 0, 1) := by decide +kernel
theorem dJ0_length_8abf5_6 : decode cJ0_length_8abf5 6 = .ok (.invokevirtual 335, 3) := by decide +kernel
theorem dJ0_length_8abf5_9 : decode cJ0_length_8abf5 9 = .ok (.ishr, 1) := by decide +kernel
theorem dJ0_length_8abf5_10 : decode cJ0_length_8abf5 10 = .ok (.ireturn, 1) := by decide +kernel
set_option maxRecDepth 20000 in
theorem ggJ0_charAt_5068e_J0_isLatin1_aae02 : GoodIn wsJ0_charAt_5068e wsJ0_isLatin1_aae02 := goodIn_r _ [6, 7, 8] (by decide +kernel) (by decide +kernel)
set_option maxRecDepth 20000 in
theorem gJ0_charAt_5068e_J0_isLatin1_aae02 : GoodIn wsJ0_charAt_5068e (wsV RJ0 492 RJ0 yJ0_isLatin1_aae02 wsJ0_isLatin1_aae02) := goodIn_app (goodIn_of _ (by decide +kernel)) ggJ0_charAt_5068e_J0_isLatin1_aae02
set_option maxRecDepth 20000 in
theorem ggJ0_charAt_5068e_J1_charAt_3b067 : GoodIn wsJ0_charAt_5068e wsJ1_charAt_3b067 := goodIn_r _ [12, 13, 14, 5, 15, 16, 17, 18, 19, 20] (by decide +kernel) (by decide +kernel)
set_option maxRecDepth 20000 in
theorem gJ0_charAt_5068e_J1_charAt_3b067 : GoodIn wsJ0_charAt_5068e (va_wsS RJ0 495 yJ1_charAt_3b067 wsJ1_charAt_3b067) := goodIn_app (goodIn_of _ (by decide +kernel)) ggJ0_charAt_5068e_J1_charAt_3b067
set_option maxRecDepth 20000 in
theorem ggJ0_charAt_5068e_J2_charAt_3b067 : GoodIn wsJ0_charAt_5068e wsJ2_charAt_3b067 := goodIn_r _ [24, 25, 26, 23, 27, 28, 29, 30, 31, 14, 5, 15, 16, 17, 18, 19, 20, 32, 33, 34, 35, 36, 37] (by decide +kernel) (by decide +kernel)
set_option maxRecDepth 20000 in
theorem gJ0_charAt_5068e_J2_charAt_3b067 : GoodIn wsJ0_charAt_5068e (va_wsS RJ0 498 yJ2_charAt_3b067 wsJ2_charAt_3b067) := goodIn_app (goodIn_of _ (by decide +kernel)) ggJ0_charAt_5068e_J2_charAt_3b067
theorem dJ0_charAt_5068e_0 : decode cJ0_charAt_5068e 0 = .ok (.aload_n 0, 1) := by decide +kernel
theorem dJ0_charAt_5068e_1 : decode cJ0_charAt_5068e 1 = .ok (.invokevirtual 492, 3) := by decide +kernel
theorem dJ0_charAt_5068e_4 : decode cJ0_charAt_5068e 4 = .ok (.ifCond .eq 12, 3) := by decide +kernel
theorem dJ0_charAt_5068e_7 : decode cJ0_charAt_5068e 7 = .ok (.aload_n 0, 1) := by decide +kernel
theorem dJ0_charAt_5068e_8 : decode cJ0_charAt_5068e 8 = .ok (.getfield 9, 3) := by decide +kernel
theorem dJ0_charAt_5068e_11 : decode cJ0_charAt_5068e 11 = .ok (.iload_n 1, 1) := by decide +kernel
theorem dJ0_charAt_5068e_12 : decode cJ0_charAt_5068e 12 = .ok (.invokestatic 495, 3) := by decide +kernel
theorem dJ0_charAt_5068e_15 : decode cJ0_charAt_5068e 15 = .ok (.ireturn, 1) := by decide +kernel
theorem dJ0_charAt_5068e_16 : decode cJ0_charAt_5068e 16 = .ok (.aload_n 0, 1) := by decide +kernel
theorem dJ0_charAt_5068e_17 : decode cJ0_charAt_5068e 17 = .ok (.getfield 9, 3) := by decide +kernel
theorem dJ0_charAt_5068e_20 : decode cJ0_charAt_5068e 20 = .ok (.iload_n 1, 1) := by decide +kernel
theorem dJ0_charAt_5068e_21 : decode cJ0_charAt_5068e 21 = .ok (.invokestatic 498, 3) := by decide +kernel
theorem dJ0_charAt_5068e_24 : decode cJ0_charAt_5068e 24 = .ok (.ireturn, 1) := by decide +kernel
theorem dJ0_coder_7d493_0 : decode cJ0_coder_7d493 0 = .ok (.getstatic 38, 3) := by decide +kernel
theorem dJ0_coder_7d493_3 : decode cJ0_coder_7d493 3 = .ok (.ifCond .eq 10, 3) := by decide +kernel
theorem dJ0_coder_7d493_6 : decode cJ0_coder_7d493 6 = .ok (.aload_n 0, 1) := by decide +kernel
theorem dJ0_coder_7d493_7 : decode cJ0_coder_7d493 7 = .ok (.getfield 15, 3) := by decide +kernel
theorem dJ0_coder_7d493_10 : decode cJ0_coder_7d493 10 = .ok (.goto 4, 3) := by decide +kernel
theorem dJ0_coder_7d493_13 : decode cJ0_coder_7d493 13 = .ok (.iconst 1, 1) := by decide +kernel
theorem dJ0_coder_7d493_14 : decode cJ0_coder_7d493 14 = .ok (.ireturn, 1) := by decide +kernel
theorem dJ0_isLatin1_aae02_0 : decode cJ0_isLatin1_aae02 0 = .ok (.getstatic 38, 3) := by decide +kernel
theorem dJ0_isLatin1_aae02_3 : decode cJ0_isLatin1_aae02 3 = .ok (.ifCond .eq 14, 3) := by decide +kernel
theorem dJ0_isLatin1_aae02_6 : decode cJ0_isLatin1_aae02 6 = .ok (.aload_n 0, 1) := by decide +kernel
theorem dJ0_isLatin1_aae02_7 : decode cJ0_isLatin1_aae02 7 = .ok (.getfield 15, 3) := by decide +kernel
theorem dJ0_isLatin1_aae02_10 : decode cJ0_isLatin1_aae02 10 = .ok (.ifCond .ne 7, 3) := by decide +kernel
theorem dJ0_isLatin1_aae02_13 : decode cJ0_isLatin1_aae02 13 = .ok (.iconst 1, 1) := by decide +kernel
theorem dJ0_isLatin1_aae02_14 : decode cJ0_isLatin1_aae02 14 = .ok (.goto 4, 3) := by decide +kernel
theorem dJ0_isLatin1_aae02_17 : decode cJ0_isLatin1_aae02 17 = .ok (.iconst 0, 1) := by decide +kernel
theorem dJ0_isLatin1_aae02_18 : decode cJ0_isLatin1_aae02 18 = .ok (.ireturn, 1) := by decide +kernel
set_option maxRecDepth 20000 in
theorem ggJ0_checkIndex_df160_J3_checkIndex_8e157 : GoodIn wsJ0_checkIndex_df160 wsJ3_checkIndex_8e157 := goodIn_r _ [5] (by decide +kernel) (by decide +kernel)
set_option maxRecDepth 20000 in
theorem gJ0_checkIndex_df160_J3_checkIndex_8e157 : GoodIn wsJ0_checkIndex_df160 (va_wsS RJ0 1059 yJ3_checkIndex_8e157 wsJ3_checkIndex_8e157) := goodIn_app (goodIn_of _ (by decide +kernel)) ggJ0_checkIndex_df160_J3_checkIndex_8e157
theorem dJ0_checkIndex_df160_0 : decode cJ0_checkIndex_df160 0 = .ok (.iload_n 0, 1) := by decide +kernel
theorem dJ0_checkIndex_df160_1 : decode cJ0_checkIndex_df160 1 = .ok (.iload_n 1, 1) := by decide +kernel
theorem dJ0_checkIndex_df160_2 : decode cJ0_checkIndex_df160 2 = .ok (.getstatic 1053, 3) := by decide +kernel
theorem dJ0_checkIndex_df160_5 : decode cJ0_checkIndex_df160 5 = .ok (.invokestatic 1059, 3) := by decide +kernel
theorem dJ0_checkIndex_df160_8 : decode cJ0_checkIndex_df160 8 = .ok (.pop, 1) := by decide +kernel
theorem dJ0_checkIndex_df160_9 : decode cJ0_checkIndex_df160 9 = .ok (.return_, 1) := by decide +kernel
set_option maxRecDepth 20000 in
theorem ggJ1_charAt_3b067_J0_checkIndex_df160 : GoodIn wsJ1_charAt_3b067 wsJ0_checkIndex_df160 := goodIn_r _ [4, 5, 6, 7, 8, 9] (by decide +kernel) (by decide +kernel)
set_option maxRecDepth 20000 in
theorem gJ1_charAt_3b067_J0_checkIndex_df160 : GoodIn wsJ1_charAt_3b067 (va_wsS RJ1 9 yJ0_checkIndex_df160 wsJ0_checkIndex_df160) := goodIn_app (goodIn_of _ (by decide +kernel)) ggJ1_charAt_3b067_J0_checkIndex_df160
theorem dJ1_charAt_3b067_0 : decode cJ1_charAt_3b067 0 = .ok (.iload_n 1, 1) := by decide +kernel
theorem dJ1_charAt_3b067_1 : decode cJ1_charAt_3b067 1 = .ok (.aload_n 0, 1) := by decide +kernel
theorem dJ1_charAt_3b067_2 : decode cJ1_charAt_3b067 2 = .ok (.arraylength, 1) := by decide +kernel
theorem dJ1_charAt_3b067_3 : decode cJ1_charAt_3b067 3 = .ok (.invokestatic 9, 3) := by decide +kernel
theorem dJ1_charAt_3b067_6 : decode cJ1_charAt_3b067 6 = .ok (.aload_n 0, 1) := by decide +kernel
theorem dJ1_charAt_3b067_7 : decode cJ1_charAt_3b067 7 = .ok (.iload_n 1, 1) := by decide +kernel
theorem dJ1_charAt_3b067_8 : decode cJ1_charAt_3b067 8 = .ok (.baload, 1) := by decide +kernel
theorem dJ1_charAt_3b067_9 : decode cJ1_charAt_3b067 9 = .ok (.sipush 255, 3) := by decide +kernel
theorem dJ1_charAt_3b067_12 : decode cJ1_charAt_3b067 12 = .ok (.iand, 1) := by decide +kernel
theorem dJ1_charAt_3b067_13 : decode cJ1_charAt_3b067 13 = .ok (.i2c, 1) := by decide +kernel
theorem dJ1_charAt_3b067_14 : decode cJ1_charAt_3b067 14 = .ok (.ireturn, 1) := by decide +kernel
set_option maxRecDepth 20000 in
theorem ggJ2_getChar_3b067_J2_length_9d52b : GoodIn wsJ2_getChar_3b067 wsJ2_length_9d52b := goodIn_r _ [7] (by decide +kernel) (by decide +kernel)
set_option maxRecDepth 20000 in
theorem gJ2_getChar_3b067_J2_length_9d52b : GoodIn wsJ2_getChar_3b067 (va_wsS RJ2 48 yJ2_length_9d52b wsJ2_length_9d52b) := goodIn_app (goodIn_of _ (by decide +kernel)) ggJ2_getChar_3b067_J2_length_9d52b
theorem dJ2_getChar_3b067_0 : decode cJ2_getChar_3b067 0 = .ok (.getstatic 44, 3) := by decide +kernel
theorem dJ2_getChar_3b067_3 : decode cJ2_getChar_3b067 3 = .ok (.ifCond .ne 25, 3) := by decide +kernel
theorem dJ2_getChar_3b067_6 : decode cJ2_getChar_3b067 6 = .ok (.iload_n 1, 1) := by decide +kernel
theorem dJ2_getChar_3b067_7 : decode cJ2_getChar_3b067 7 = .ok (.ifCond .lt 11, 3) := by decide +kernel
theorem dJ2_getChar_3b067_10 : decode cJ2_getChar_3b067 10 = .ok (.iload_n 1, 1) := by decide +kernel
theorem dJ2_getChar_3b067_11 : decode cJ2_getChar_3b067 11 = .ok (.aload_n 0, 1) := by decide +kernel
theorem dJ2_getChar_3b067_12 : decode cJ2_getChar_3b067 12 = .ok (.invokestatic 48, 3) := by decide +kernel
theorem dJ2_getChar_3b067_15 : decode cJ2_getChar_3b067 15 = .ok (.if_icmp .lt 13, 3) := by decide +kernel
theorem dJ2_getChar_3b067_18 : decode cJ2_getChar_3b067 18 = .ok (.new 52, 3) := by decide +kernel
theorem dJ2_getChar_3b067_21 : decode cJ2_getChar_3b067 21 = .ok (.dup, 1) := by decide +kernel
theorem dJ2_getChar_3b067_22 : decode cJ2_getChar_3b067 22 = .ok (.ldc 54, 2) := by decide +kernel
theorem dJ2_getChar_3b067_24 : decode cJ2_getChar_3b067 24 = .ok (.invokespecial 56, 3) := by decide +kernel
theorem dJ2_getChar_3b067_27 : decode cJ2_getChar_3b067 27 = .ok (.athrow, 1) := by decide +kernel
theorem dJ2_getChar_3b067_28 : decode cJ2_getChar_3b067 28 = .ok (.iload_n 1, 1) := by decide +kernel
theorem dJ2_getChar_3b067_29 : decode cJ2_getChar_3b067 29 = .ok (.iconst 1, 1) := by decide +kernel
theorem dJ2_getChar_3b067_30 : decode cJ2_getChar_3b067 30 = .ok (.ishl, 1) := by decide +kernel
theorem dJ2_getChar_3b067_31 : decode cJ2_getChar_3b067 31 = .ok (.istore_n 1, 1) := by decide +kernel
theorem dJ2_getChar_3b067_32 : decode cJ2_getChar_3b067 32 = .ok (.aload_n 0, 1) := by decide +kernel
theorem dJ2_getChar_3b067_33 : decode cJ2_getChar_3b067 33 = .ok (.iload_n 1, 1) := by decide +kernel
theorem dJ2_getChar_3b067_34 : decode cJ2_getChar_3b067 34 = .ok (.iinc 1 1, 3) := by decide +kernel
theorem dJ2_getChar_3b067_37 : decode cJ2_getChar_3b067 37 = .ok (.baload, 1) := by decide +kernel
theorem dJ2_getChar_3b067_38 : decode cJ2_getChar_3b067 38 = .ok (.sipush 255, 3) := by decide +kernel
theorem dJ2_getChar_3b067_41 : decode cJ2_getChar_3b067 41 = .ok (.iand, 1) := by decide +kernel
theorem dJ2_getChar_3b067_42 : decode cJ2_getChar_3b067 42 = .ok (.getstatic 59, 3) := by decide +kernel
theorem dJ2_getChar_3b067_45 : decode cJ2_getChar_3b067 45 = .ok (.ishl, 1) := by decide +kernel
theorem dJ2_getChar_3b067_46 : decode cJ2_getChar_3b067 46 = .ok (.aload_n 0, 1) := by decide +kernel
theorem dJ2_getChar_3b067_47 : decode cJ2_getChar_3b067 47 = .ok (.iload_n 1, 1) := by decide +kernel
theorem dJ2_getChar_3b067_48 : decode cJ2_getChar_3b067 48 = .ok (.baload, 1) := by decide +kernel
theorem dJ2_getChar_3b067_49 : decode cJ2_getChar_3b067 49 = .ok (.sipush 255, 3) := by decide +kernel
theorem dJ2_getChar_3b067_52 : decode cJ2_getChar_3b067 52 = .ok (.iand, 1) := by decide +kernel
theorem dJ2_getChar_3b067_53 : decode cJ2_getChar_3b067 53 = .ok (.getstatic 63, 3) := by decide +kernel
theorem dJ2_getChar_3b067_56 : decode cJ2_getChar_3b067 56 = .ok (.ishl, 1) := by decide +kernel
theorem dJ2_getChar_3b067_57 : decode cJ2_getChar_3b067 57 = .ok (.ior, 1) := by decide +kernel
theorem dJ2_getChar_3b067_58 : decode cJ2_getChar_3b067 58 = .ok (.i2c, 1) := by decide +kernel
theorem dJ2_getChar_3b067_59 : decode cJ2_getChar_3b067 59 = .ok (.ireturn, 1) := by decide +kernel
theorem dJ2_length_9d52b_0 : decode cJ2_length_9d52b 0 = .ok (.aload_n 0, 1) := by decide +kernel
theorem dJ2_length_9d52b_1 : decode cJ2_length_9d52b 1 = .ok (.arraylength, 1) := by decide +kernel
theorem dJ2_length_9d52b_2 : decode cJ2_length_9d52b 2 = .ok (.iconst 1, 1) := by decide +kernel
theorem dJ2_length_9d52b_3 : decode cJ2_length_9d52b 3 = .ok (.ishr, 1) := by decide +kernel
theorem dJ2_length_9d52b_4 : decode cJ2_length_9d52b 4 = .ok (.ireturn, 1) := by decide +kernel
set_option maxRecDepth 20000 in
theorem ggJ2_charAt_3b067_J2_checkIndex_2214a : GoodIn wsJ2_charAt_3b067 wsJ2_checkIndex_2214a := goodIn_r _ [4, 5, 6, 3, 7, 8, 9, 10, 11, 12, 13, 14, 15, 16] (by decide +kernel) (by decide +kernel)
set_option maxRecDepth 20000 in
theorem gJ2_charAt_3b067_J2_checkIndex_2214a : GoodIn wsJ2_charAt_3b067 (va_wsS RJ2 67 yJ2_checkIndex_2214a wsJ2_checkIndex_2214a) := goodIn_app (goodIn_of _ (by decide +kernel)) ggJ2_charAt_3b067_J2_checkIndex_2214a
set_option maxRecDepth 20000 in
theorem ggJ2_charAt_3b067_J2_getChar_3b067 : GoodIn wsJ2_charAt_3b067 wsJ2_getChar_3b067 := goodIn_r _ [19, 20, 21, 22, 5, 6, 3, 7] (by decide +kernel) (by decide +kernel)
set_option maxRecDepth 20000 in
theorem gJ2_charAt_3b067_J2_getChar_3b067 : GoodIn wsJ2_charAt_3b067 (va_wsS RJ2 71 yJ2_getChar_3b067 wsJ2_getChar_3b067) := goodIn_app (goodIn_of _ (by decide +kernel)) ggJ2_charAt_3b067_J2_getChar_3b067
theorem dJ2_charAt_3b067_0 : decode cJ2_charAt_3b067 0 = .ok (.iload_n 1, 1) := by decide +kernel
theorem dJ2_charAt_3b067_1 : decode cJ2_charAt_3b067 1 = .ok (.aload_n 0, 1) := by decide +kernel
theorem dJ2_charAt_3b067_2 : decode cJ2_charAt_3b067 2 = .ok (.invokestatic 67, 3) := by decide +kernel
theorem dJ2_charAt_3b067_5 : decode cJ2_charAt_3b067 5 = .ok (.aload_n 0, 1) := by decide +kernel
theorem dJ2_charAt_3b067_6 : decode cJ2_charAt_3b067 6 = .ok (.iload_n 1, 1) := by decide +kernel
theorem dJ2_charAt_3b067_7 : decode cJ2_charAt_3b067 7 = .ok (.invokestatic 71, 3) := by decide +kernel
theorem dJ2_charAt_3b067_10 : decode cJ2_charAt_3b067 10 = .ok (.ireturn, 1) := by decide +kernel
set_option maxRecDepth 20000 in
theorem ggJ2_checkIndex_2214a_J2_length_9d52b : GoodIn wsJ2_checkIndex_2214a wsJ2_length_9d52b := goodIn_r _ [4] (by decide +kernel) (by decide +kernel)
set_option maxRecDepth 20000 in
theorem gJ2_checkIndex_2214a_J2_length_9d52b : GoodIn wsJ2_checkIndex_2214a (va_wsS RJ2 48 yJ2_length_9d52b wsJ2_length_9d52b) := goodIn_app (goodIn_of _ (by decide +kernel)) ggJ2_checkIndex_2214a_J2_length_9d52b
set_option maxRecDepth 20000 in
theorem ggJ2_checkIndex_2214a_J0_checkIndex_df160 : GoodIn wsJ2_checkIndex_2214a wsJ0_checkIndex_df160 := goodIn_r _ [8, 9, 10, 11, 12, 13] (by decide +kernel) (by decide +kernel)
set_option maxRecDepth 20000 in
theorem gJ2_checkIndex_2214a_J0_checkIndex_df160 : GoodIn wsJ2_checkIndex_2214a (va_wsS RJ2 414 yJ0_checkIndex_df160 wsJ0_checkIndex_df160) := goodIn_app (goodIn_of _ (by decide +kernel)) ggJ2_checkIndex_2214a_J0_checkIndex_df160
theorem dJ2_checkIndex_2214a_0 : decode cJ2_checkIndex_2214a 0 = .ok (.iload_n 0, 1) := by decide +kernel
theorem dJ2_checkIndex_2214a_1 : decode cJ2_checkIndex_2214a 1 = .ok (.aload_n 1, 1) := by decide +kernel
theorem dJ2_checkIndex_2214a_2 : decode cJ2_checkIndex_2214a 2 = .ok (.invokestatic 48, 3) := by decide +kernel
theorem dJ2_checkIndex_2214a_5 : decode cJ2_checkIndex_2214a 5 = .ok (.invokestatic 414, 3) := by decide +kernel
theorem dJ2_checkIndex_2214a_8 : decode cJ2_checkIndex_2214a 8 = .ok (.return_, 1) := by decide +kernel
theorem dJ7_fill_53178_0 : decode cJ7_fill_53178 0 = .ok (.iconst 0, 1) := by decide +kernel
theorem dJ7_fill_53178_1 : decode cJ7_fill_53178 1 = .ok (.istore_n 2, 1) := by decide +kernel
theorem dJ7_fill_53178_2 : decode cJ7_fill_53178 2 = .ok (.aload_n 0, 1) := by decide +kernel
theorem dJ7_fill_53178_3 : decode cJ7_fill_53178 3 = .ok (.arraylength, 1) := by decide +kernel
theorem dJ7_fill_53178_4 : decode cJ7_fill_53178 4 = .ok (.istore_n 3, 1) := by decide +kernel
theorem dJ7_fill_53178_5 : decode cJ7_fill_53178 5 = .ok (.iload_n 2, 1) := by decide +kernel
theorem dJ7_fill_53178_6 : decode cJ7_fill_53178 6 = .ok (.iload_n 3, 1) := by decide +kernel
theorem dJ7_fill_53178_7 : decode cJ7_fill_53178 7 = .ok (.if_icmp .ge 13, 3) := by decide +kernel
theorem dJ7_fill_53178_10 : decode cJ7_fill_53178 10 = .ok (.aload_n 0, 1) := by decide +kernel
theorem dJ7_fill_53178_11 : decode cJ7_fill_53178 11 = .ok (.iload_n 2, 1) := by decide +kernel
theorem dJ7_fill_53178_12 : decode cJ7_fill_53178 12 = .ok (.iload_n 1, 1) := by decide +kernel
theorem dJ7_fill_53178_13 : decode cJ7_fill_53178 13 = .ok (.iastore, 1) := by decide +kernel
theorem dJ7_fill_53178_14 : decode cJ7_fill_53178 14 = .ok (.iinc 2 1, 3) := by decide +kernel
theorem dJ7_fill_53178_17 : decode cJ7_fill_53178 17 = .ok (.goto (-12), 3) := by decide +kernel
theorem dJ7_fill_53178_20 : decode cJ7_fill_53178 20 = .ok (.return_, 1) := by decide +kernel
theorem dJ3_checkIndex_8e157_0 : decode cJ3_checkIndex_8e157 0 = .ok (.iload_n 0, 1) := by decide +kernel
theorem dJ3_checkIndex_8e157_1 : decode cJ3_checkIndex_8e157 1 = .ok (.ifCond .lt 8, 3) := by decide +kernel
theorem dJ3_checkIndex_8e157_4 : decode cJ3_checkIndex_8e157 4 = .ok (.iload_n 0, 1) := by decide +kernel
theorem dJ3_checkIndex_8e157_5 : decode cJ3_checkIndex_8e157 5 = .ok (.iload_n 1, 1) := by decide +kernel
theorem dJ3_checkIndex_8e157_6 : decode cJ3_checkIndex_8e157 6 = .ok (.if_icmp .lt 10, 3) := by decide +kernel
theorem dJ3_checkIndex_8e157_9 : decode cJ3_checkIndex_8e157 9 = .ok (.aload_n 2, 1) := by decide +kernel
theorem dJ3_checkIndex_8e157_10 : decode cJ3_checkIndex_8e157 10 = .ok (.iload_n 0, 1) := by decide +kernel
theorem dJ3_checkIndex_8e157_11 : decode cJ3_checkIndex_8e157 11 = .ok (.iload_n 1, 1) := by decide +kernel
theorem dJ3_checkIndex_8e157_12 : decode cJ3_checkIndex_8e157 12 = .ok (.invokestatic 95, 3) := by decide +kernel
theorem dJ3_checkIndex_8e157_15 : decode cJ3_checkIndex_8e157 15 = .ok (.athrow, 1) := by decide +kernel
theorem dJ3_checkIndex_8e157_16 : decode cJ3_checkIndex_8e157 16 = .ok (.iload_n 0, 1) := by decide +kernel
theorem dJ3_checkIndex_8e157_17 : decode cJ3_checkIndex_8e157 17 = .ok (.ireturn, 1) := by decide +kernel
set_option maxRecDepth 20000 in
theorem ggL_table_X9_table : GoodIn wsL_table wsX9_table := goodIn_r _ [5, 6, 7, 8, 9, 10, 11, 12, 13, 14, 15, 16, 17, 18, 19, 20, 21, 22, 23, 24, 25, 26, 27, 28, 29, 30, 31, 32, 33, 34, 35, 36, 37, 38, 39, 40, 41, 42, 43, 44, 45, 46, 47, 48, 49, 50, 51, 52, 53, 54, 55, 56, 57, 58, 59, 60, 61] (by decide +kernel) (by decide +kernel)
set_option maxRecDepth 20000 in
theorem gL_table_X9_table : GoodIn wsL_table (wsV RL 7 RX9 yX9_table wsX9_table) := goodIn_app (goodIn_of _ (by decide +kernel)) ggL_table_X9_table
theorem dL_table_0 : decode cL_table 0 = .ok (.aload_n 3, 1) := by decide +kernel
theorem dL_table_1 : decode cL_table 1 = .ok (.iconst 0, 1) := by decide +kernel
theorem dL_table_2 : decode cL_table 2 = .ok (.aload_n 0, 1) := by decide +kernel
theorem dL_table_3 : decode cL_table 3 = .ok (.iload_n 1, 1) := by decide +kernel
theorem dL_table_4 : decode cL_table 4 = .ok (.iload_n 2, 1) := by decide +kernel
theorem dL_table_5 : decode cL_table 5 = .ok (.invokevirtual 7, 3) := by decide +kernel
theorem dL_table_8 : decode cL_table 8 = .ok (.i2l, 1) := by decide +kernel
theorem dL_table_9 : decode cL_table 9 = .ok (.lastore, 1) := by decide +kernel
theorem dL_table_10 : decode cL_table 10 = .ok (.goto 7, 3) := by decide +kernel
theorem dL_table_13 : decode cL_table 13 = .ok (.astore 4, 2) := by decide +kernel
theorem dL_table_15 : decode cL_table 15 = .ok (.iconst 1, 1) := by decide +kernel
theorem dL_table_16 : decode cL_table 16 = .ok (.ireturn, 1) := by decide +kernel
theorem dL_table_17 : decode cL_table 17 = .ok (.iconst 0, 1) := by decide +kernel
theorem dL_table_18 : decode cL_table 18 = .ok (.ireturn, 1) := by decide +kernel
set_option maxRecDepth 20000 in
theorem ggL_law_X9_init : GoodIn wsL_law wsX9_init := goodIn_r _ [10, 11, 12, 13, 14, 15, 16, 17, 18, 19, 20, 21, 22, 23, 24, 25, 26, 27, 28, 29, 30, 31, 32, 33, 34, 35, 36, 37, 38, 39, 40, 41, 42, 6, 43, 44, 45, 46, 47, 48, 49, 50, 51, 52, 53, 54, 55, 56, 57, 58, 59, 60, 61, 789, 790, 791, 792, 793, 794, 795, 825, 826, 827, 828, 829, 830, 831, 832, 833, 834, 835, 836, 837, 838, 839] (by decide +kernel) (by decide +kernel)
set_option maxRecDepth 20000 in
theorem gL_law_X9_init : GoodIn wsL_law (wsX9_init) := ggL_law_X9_init
set_option maxRecDepth 20000 in
theorem ggL_law_X10_init : GoodIn wsL_law wsX10_init := goodIn_r _ [64, 65, 12, 13, 14, 66, 67, 34, 68, 69, 70, 71, 72, 73, 74, 75, 76, 45, 77, 78, 79, 80, 81, 82, 83, 796, 797, 798, 799, 800, 801, 802, 803, 804, 805, 806, 807, 808, 809, 810, 811, 812, 813, 814, 815, 816, 817, 818, 819, 820, 821, 822, 823, 824] (by decide +kernel) (by decide +kernel)
set_option maxRecDepth 20000 in
theorem gL_law_X10_init : GoodIn wsL_law (wsX10_init) := ggL_law_X10_init
set_option maxRecDepth 20000 in
theorem ggL_law_X9_unit : GoodIn wsL_law wsX9_unit := goodIn_r _ [87, 16, 15, 789, 790, 791, 792, 793, 794, 795] (by decide +kernel) (by decide +kernel)
set_option maxRecDepth 20000 in
theorem gL_law_X9_unit : GoodIn wsL_law (wsV RL 19 RX9 yX9_unit wsX9_unit) := goodIn_app (goodIn_of _ (by decide +kernel)) ggL_law_X9_unit
set_option maxRecDepth 20000 in
theorem ggL_law_X10_unit : GoodIn wsL_law wsX10_unit := goodIn_r _ [91, 92, 93, 66, 796, 797, 798, 799, 800, 801, 802, 803, 804, 805, 806, 807, 808, 809, 810, 811, 812, 813, 814, 815, 816, 817, 818, 819, 820, 821, 822, 823, 824] (by decide +kernel) (by decide +kernel)
set_option maxRecDepth 20000 in
theorem gL_law_X10_unit : GoodIn wsL_law (wsV RL 23 RX10 yX10_unit wsX10_unit) := goodIn_app (goodIn_of _ (by decide +kernel)) ggL_law_X10_unit
set_option maxRecDepth 20000 in
theorem ggL_law_X9_read : GoodIn wsL_law wsX9_read := goodIn_r _ [97, 22, 15, 16, 98, 99, 100, 101, 30, 102, 103, 104, 105, 106, 21, 107, 108, 109, 110, 111, 36, 37, 35, 112, 2, 113, 114, 115, 116, 117, 118, 119, 120, 121, 122, 123, 124, 125, 126, 127, 128, 129, 130, 131, 132, 133, 134, 135, 136, 137, 138, 139, 140, 141, 142, 143, 144, 145, 146, 147, 148, 149, 150, 151, 152, 153, 154, 155, 156, 157, 158, 159, 160, 161, 162, 163, 164, 165, 166, 167, 168, 169, 170, 171, 172, 173, 174, 175, 176, 177, 12, 13, 178, 28, 29, 179, 180, 52, 53, 54, 55, 56, 57, 58, 59, 60, 61, 181, 182, 183, 184, 185, 186, 187, 188, 189, 190, 191, 192, 193, 194, 195, 196, 197, 198, 199, 200, 201, 202, 203, 204, 205, 206, 207, 208, 209, 210, 211, 212, 213, 214, 215, 216, 217, 218, 219, 220, 221, 222, 223, 224, 225, 226, 227, 228, 229, 230, 231, 232, 233, 234, 235, 236, 237, 238, 239, 240, 241, 242, 243, 244, 245, 246, 247, 248, 249, 250, 251, 252, 253, 254, 255, 256, 257, 258, 259, 260, 261, 262, 263, 264, 265, 266, 267, 268, 269, 270, 271, 272, 273, 274, 275, 276, 277, 278, 279, 280, 281, 282, 283, 284, 285, 286, 287, 288, 289, 290, 291, 292, 293, 294, 295, 296, 297, 298, 299, 300, 301, 302, 303, 304, 305, 306, 307, 308, 309, 310, 311, 312, 313, 314, 315, 316, 317, 318, 319, 320, 321, 322, 323, 324, 325, 326, 327, 328, 18, 329, 330, 331, 332, 333, 17, 789, 790, 791, 792, 793, 794, 795, 840, 841, 833, 834, 835, 836, 837, 838, 839, 825, 826, 827, 842, 843, 844, 845, 846, 847, 848, 849, 850, 851, 852, 853, 854, 855, 856, 857, 858, 859, 860, 861, 862, 863, 864, 865] (by decide +kernel) (by decide +kernel)
set_option maxRecDepth 20000 in
theorem gL_law_X9_read : GoodIn wsL_law (wsV RL 24 RX9 yX9_read wsX9_read) := goodIn_app (goodIn_of _ (by decide +kernel)) ggL_law_X9_read
set_option maxRecDepth 20000 in
theorem ggL_law_X10_read : GoodIn wsL_law wsX10_read := goodIn_r _ [337, 92, 338, 93, 67, 66, 339, 340, 341, 342, 68, 70, 69, 71, 343, 74, 344, 72, 73, 345, 346, 347, 5, 348, 349, 350, 351, 352, 353, 354, 355, 356, 357, 358, 359, 360, 361, 362, 363, 364, 365, 366, 367, 368, 369, 370, 371, 372, 373, 374, 375, 376, 377, 378, 379, 380, 381, 382, 383, 384, 385, 386, 387, 388, 389, 390, 391, 392, 393, 394, 395, 396, 397, 398, 399, 400, 401, 402, 403, 404, 405, 406, 407, 408, 409, 410, 411, 412, 413, 414, 415, 416, 417, 418, 80, 419, 81, 796, 797, 798, 799, 800, 801, 802, 803, 804, 805, 806, 807, 808, 809, 810, 811, 812, 813, 814, 815, 816, 817, 818, 819, 820, 821, 822, 823, 824] (by decide +kernel) (by decide +kernel)
set_option maxRecDepth 20000 in
theorem gL_law_X10_read : GoodIn wsL_law (wsV RL 28 RX10 yX10_read wsX10_read) := goodIn_app (goodIn_of _ (by decide +kernel)) ggL_law_X10_read
