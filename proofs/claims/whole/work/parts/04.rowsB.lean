theorem dX5_init_0 : decode cX5_init 0 = .ok (.aload_n 0, 1) := by decide +kernel
theorem dX5_init_1 : decode cX5_init 1 = .ok (.invokespecial 3, 3) := by decide +kernel
theorem dX5_init_4 : decode cX5_init 4 = .ok (.aload_n 0, 1) := by decide +kernel
theorem dX5_init_5 : decode cX5_init 5 = .ok (.new 9, 3) := by decide +kernel
theorem dX5_init_8 : decode cX5_init 8 = .ok (.dup, 1) := by decide +kernel
theorem dX5_init_9 : decode cX5_init 9 = .ok (.invokespecial 11, 3) := by decide +kernel
theorem dX5_init_12 : decode cX5_init 12 = .ok (.putfield 12, 3) := by decide +kernel
theorem dX5_init_15 : decode cX5_init 15 = .ok (.aload_n 0, 1) := by decide +kernel
theorem dX5_init_16 : decode cX5_init 16 = .ok (.aload_n 1, 1) := by decide +kernel
theorem dX5_init_17 : decode cX5_init 17 = .ok (.putfield 18, 3) := by decide +kernel
theorem dX5_init_20 : decode cX5_init 20 = .ok (.return_, 1) := by decide +kernel
set_option maxRecDepth 20000 in
theorem ggX5_readText_X8_ended : GoodIn wsX5_readText wsX8_ended := goodIn_r _ [7, 8, 9, 160, 161, 162] (by decide +kernel) (by decide +kernel)
set_option maxRecDepth 20000 in
theorem gX5_readText_X8_ended : GoodIn wsX5_readText (wsV RX5 22 RX8 yX8_ended wsX8_ended) := goodIn_app (goodIn_of _ (by decide +kernel)) ggX5_readText_X8_ended
set_option maxRecDepth 20000 in
theorem ggX5_readText_X8_take : GoodIn wsX5_readText wsX8_take := goodIn_r _ [13, 8, 9, 14, 15, 160, 161, 162] (by decide +kernel) (by decide +kernel)
set_option maxRecDepth 20000 in
theorem gX5_readText_X8_take : GoodIn wsX5_readText (wsV RX5 34 RX8 yX8_take wsX8_take) := goodIn_app (goodIn_of _ (by decide +kernel)) ggX5_readText_X8_take
set_option maxRecDepth 20000 in
theorem ggX5_readText_X5_readDay : GoodIn wsX5_readText wsX5_readDay := goodIn_r _ [20, 1, 21, 22, 23, 24, 25, 26, 27, 28, 29, 30, 31, 32, 6, 33, 8, 9, 14, 34, 35, 36, 37, 38, 39, 40, 41, 42, 43, 44, 45, 46, 47, 48, 49, 50, 51, 158, 159, 163, 164, 165, 166, 167, 168, 169, 170, 171, 160, 161, 162] (by decide +kernel) (by decide +kernel)
set_option maxRecDepth 20000 in
theorem gX5_readText_X5_readDay : GoodIn wsX5_readText (wsV RX5 38 RX5 yX5_readDay wsX5_readDay) := goodIn_app (goodIn_of _ (by decide +kernel)) ggX5_readText_X5_readDay
set_option maxRecDepth 20000 in
theorem ggX5_readText_X5_readRule : GoodIn wsX5_readText wsX5_readRule := goodIn_r _ [55, 1, 56, 21, 57, 58, 59, 60, 61, 62, 63, 64, 65, 10, 11, 12, 6, 13, 8, 9, 14, 15, 30, 31, 32, 33, 66, 67, 68, 69, 48, 49, 70, 71, 72, 73, 74, 75, 76, 77, 78, 79, 80, 81, 19, 82, 83, 84, 85, 86, 87, 88, 89, 90, 91, 92, 93, 94, 95, 96, 97, 98, 99, 100, 101, 102, 103, 104, 105, 106, 107, 108, 109, 110, 111, 112, 113, 22, 114, 115, 116, 117, 118, 119, 120, 121, 122, 123, 124, 125, 126, 127, 128, 129, 130, 131, 132, 133, 134, 135, 136, 137, 138, 139, 140, 141, 142, 143, 144, 145, 146, 147, 148, 149, 150, 26, 151, 152, 153, 43, 154, 155, 156, 157, 158, 159, 160, 161, 162, 163, 164, 165, 166, 167, 168, 169, 172, 173, 174, 175, 176, 177, 178, 179, 180, 181, 182, 183, 184, 185, 186, 187, 188, 189, 190, 191, 192, 193] (by decide +kernel) (by decide +kernel)
set_option maxRecDepth 20000 in
theorem gX5_readText_X5_readRule : GoodIn wsX5_readText (wsV RX5 41 RX5 yX5_readRule wsX5_readRule) := goodIn_app (goodIn_of _ (by decide +kernel)) ggX5_readText_X5_readRule
theorem dX5_readText_0 : decode cX5_readText 0 = .ok (.iconst 0, 1) := by decide +kernel
theorem dX5_readText_1 : decode cX5_readText 1 = .ok (.istore_n 1, 1) := by decide +kernel
theorem dX5_readText_2 : decode cX5_readText 2 = .ok (.iload_n 1, 1) := by decide +kernel
theorem dX5_readText_3 : decode cX5_readText 3 = .ok (.sipush 1500, 3) := by decide +kernel
theorem dX5_readText_6 : decode cX5_readText 6 = .ok (.if_icmp .ge 50, 3) := by decide +kernel
theorem dX5_readText_9 : decode cX5_readText 9 = .ok (.aload_n 0, 1) := by decide +kernel
theorem dX5_readText_10 : decode cX5_readText 10 = .ok (.getfield 18, 3) := by decide +kernel
theorem dX5_readText_13 : decode cX5_readText 13 = .ok (.invokevirtual 22, 3) := by decide +kernel
theorem dX5_readText_16 : decode cX5_readText 16 = .ok (.ifCond .ne 40, 3) := by decide +kernel
theorem dX5_readText_19 : decode cX5_readText 19 = .ok (.aload_n 0, 1) := by decide +kernel
theorem dX5_readText_20 : decode cX5_readText 20 = .ok (.getfield 18, 3) := by decide +kernel
theorem dX5_readText_23 : decode cX5_readText 23 = .ok (.getstatic 28, 3) := by decide +kernel
theorem dX5_readText_26 : decode cX5_readText 26 = .ok (.invokevirtual 34, 3) := by decide +kernel
theorem dX5_readText_29 : decode cX5_readText 29 = .ok (.ifCond .eq 10, 3) := by decide +kernel
theorem dX5_readText_32 : decode cX5_readText 32 = .ok (.aload_n 0, 1) := by decide +kernel
theorem dX5_readText_33 : decode cX5_readText 33 = .ok (.invokevirtual 38, 3) := by decide +kernel
theorem dX5_readText_36 : decode cX5_readText 36 = .ok (.goto 7, 3) := by decide +kernel
theorem dX5_readText_39 : decode cX5_readText 39 = .ok (.aload_n 0, 1) := by decide +kernel
theorem dX5_readText_40 : decode cX5_readText 40 = .ok (.invokevirtual 41, 3) := by decide +kernel
theorem dX5_readText_43 : decode cX5_readText 43 = .ok (.istore_n 2, 1) := by decide +kernel
theorem dX5_readText_44 : decode cX5_readText 44 = .ok (.iload_n 2, 1) := by decide +kernel
theorem dX5_readText_45 : decode cX5_readText 45 = .ok (.ifCond .ne 5, 3) := by decide +kernel
theorem dX5_readText_48 : decode cX5_readText 48 = .ok (.iconst 0, 1) := by decide +kernel
theorem dX5_readText_49 : decode cX5_readText 49 = .ok (.ireturn, 1) := by decide +kernel
theorem dX5_readText_50 : decode cX5_readText 50 = .ok (.iinc 1 1, 3) := by decide +kernel
theorem dX5_readText_53 : decode cX5_readText 53 = .ok (.goto (-51), 3) := by decide +kernel
theorem dX5_readText_56 : decode cX5_readText 56 = .ok (.aload_n 0, 1) := by decide +kernel
theorem dX5_readText_57 : decode cX5_readText 57 = .ok (.getfield 18, 3) := by decide +kernel
theorem dX5_readText_60 : decode cX5_readText 60 = .ok (.invokevirtual 22, 3) := by decide +kernel
theorem dX5_readText_63 : decode cX5_readText 63 = .ok (.ireturn, 1) := by decide +kernel
set_option maxRecDepth 20000 in
theorem ggX5_readDay_X0_leastNextDay : GoodIn wsX5_readDay wsX0_leastNextDay := goodIn_r _ [8, 9, 10, 39, 40, 41, 42, 43, 44, 45, 46, 47] (by decide +kernel) (by decide +kernel)
set_option maxRecDepth 20000 in
theorem gX5_readDay_X0_leastNextDay : GoodIn wsX5_readDay (wsV RX5 44 RX0 yX0_leastNextDay wsX0_leastNextDay) := goodIn_app (goodIn_of _ (by decide +kernel)) ggX5_readDay_X0_leastNextDay
set_option maxRecDepth 20000 in
theorem ggX5_readDay_X8_takeNumber : GoodIn wsX5_readDay wsX8_takeNumber := goodIn_r _ [15, 16, 17, 18, 48, 49, 50] (by decide +kernel) (by decide +kernel)
set_option maxRecDepth 20000 in
theorem gX5_readDay_X8_takeNumber : GoodIn wsX5_readDay (wsV RX5 49 RX8 yX8_takeNumber wsX8_takeNumber) := goodIn_app (goodIn_of _ (by decide +kernel)) ggX5_readDay_X8_takeNumber
set_option maxRecDepth 20000 in
theorem ggX5_readDay_X0_addEdition : GoodIn wsX5_readDay wsX0_addEdition := goodIn_r _ [22, 23, 24, 25, 9, 26, 27, 28, 29, 30, 31, 32, 33, 34, 35, 36, 46, 47, 39, 40, 41, 42, 43, 44, 45] (by decide +kernel) (by decide +kernel)
set_option maxRecDepth 20000 in
theorem gX5_readDay_X0_addEdition : GoodIn wsX5_readDay (wsV RX5 53 RX0 yX0_addEdition wsX0_addEdition) := goodIn_app (goodIn_of _ (by decide +kernel)) ggX5_readDay_X0_addEdition
theorem dX5_readDay_0 : decode cX5_readDay 0 = .ok (.aload_n 0, 1) := by decide +kernel
theorem dX5_readDay_1 : decode cX5_readDay 1 = .ok (.getfield 18, 3) := by decide +kernel
theorem dX5_readDay_4 : decode cX5_readDay 4 = .ok (.aload_n 0, 1) := by decide +kernel
theorem dX5_readDay_5 : decode cX5_readDay 5 = .ok (.getfield 12, 3) := by decide +kernel
theorem dX5_readDay_8 : decode cX5_readDay 8 = .ok (.invokevirtual 44, 3) := by decide +kernel
theorem dX5_readDay_11 : decode cX5_readDay 11 = .ok (.ldc 48, 2) := by decide +kernel
theorem dX5_readDay_13 : decode cX5_readDay 13 = .ok (.invokevirtual 49, 3) := by decide +kernel
theorem dX5_readDay_16 : decode cX5_readDay 16 = .ok (.istore_n 1, 1) := by decide +kernel
theorem dX5_readDay_17 : decode cX5_readDay 17 = .ok (.iload_n 1, 1) := by decide +kernel
theorem dX5_readDay_18 : decode cX5_readDay 18 = .ok (.iconst (-1), 1) := by decide +kernel
theorem dX5_readDay_19 : decode cX5_readDay 19 = .ok (.if_icmp .ne 5, 3) := by decide +kernel
theorem dX5_readDay_22 : decode cX5_readDay 22 = .ok (.iconst 0, 1) := by decide +kernel
theorem dX5_readDay_23 : decode cX5_readDay 23 = .ok (.ireturn, 1) := by decide +kernel
theorem dX5_readDay_24 : decode cX5_readDay 24 = .ok (.aload_n 0, 1) := by decide +kernel
theorem dX5_readDay_25 : decode cX5_readDay 25 = .ok (.getfield 12, 3) := by decide +kernel
theorem dX5_readDay_28 : decode cX5_readDay 28 = .ok (.iload_n 1, 1) := by decide +kernel
theorem dX5_readDay_29 : decode cX5_readDay 29 = .ok (.invokevirtual 53, 3) := by decide +kernel
theorem dX5_readDay_32 : decode cX5_readDay 32 = .ok (.iconst 1, 1) := by decide +kernel
theorem dX5_readDay_33 : decode cX5_readDay 33 = .ok (.ireturn, 1) := by decide +kernel
set_option maxRecDepth 20000 in
theorem ggX5_readRule_X8_take : GoodIn wsX5_readRule wsX8_take := goodIn_r _ [17, 18, 19, 20, 21, 126, 127, 128] (by decide +kernel) (by decide +kernel)
set_option maxRecDepth 20000 in
theorem gX5_readRule_X8_take : GoodIn wsX5_readRule (wsV RX5 34 RX8 yX8_take wsX8_take) := goodIn_app (goodIn_of _ (by decide +kernel)) ggX5_readRule_X8_take
set_option maxRecDepth 20000 in
theorem ggX5_readRule_X8_takeNumber : GoodIn wsX5_readRule wsX8_takeNumber := goodIn_r _ [25, 18, 19, 20, 126, 127, 128] (by decide +kernel) (by decide +kernel)
set_option maxRecDepth 20000 in
theorem gX5_readRule_X8_takeNumber : GoodIn wsX5_readRule (wsV RX5 49 RX8 yX8_takeNumber wsX8_takeNumber) := goodIn_app (goodIn_of _ (by decide +kernel)) ggX5_readRule_X8_takeNumber
set_option maxRecDepth 20000 in
theorem ggX5_readRule_X6_init : GoodIn wsX5_readRule wsX6_init := goodIn_r _ [28, 29, 30, 31, 32, 33, 34, 35, 36, 37, 38, 39, 40, 136, 137, 138, 139, 140, 141, 142, 143, 144] (by decide +kernel) (by decide +kernel)
set_option maxRecDepth 20000 in
theorem gX5_readRule_X6_init : GoodIn wsX5_readRule (wsX6_init) := ggX5_readRule_X6_init
set_option maxRecDepth 20000 in
theorem ggX5_readRule_X5_readItem : GoodIn wsX5_readRule wsX5_readItem := goodIn_r _ [45, 1, 46, 47, 48, 49, 50, 51, 13, 14, 15, 16, 17, 18, 19, 20, 21, 52, 53, 54, 44, 55, 56, 57, 58, 59, 22, 23, 24, 25, 60, 61, 62, 63, 30, 31, 64, 65, 66, 67, 68, 69, 70, 71, 72, 73, 74, 75, 76, 77, 78, 79, 80, 81, 82, 83, 84, 85, 86, 87, 88, 89, 90, 91, 92, 93, 94, 95, 96, 97, 98, 99, 100, 101, 102, 103, 104, 105, 106, 124, 125, 145, 146, 147, 148, 149, 150, 151, 126, 127, 128, 152, 153, 154, 155, 156, 157] (by decide +kernel) (by decide +kernel)
set_option maxRecDepth 20000 in
theorem gX5_readRule_X5_readItem : GoodIn wsX5_readRule (wsV RX5 78 RX5 yX5_readItem wsX5_readItem) := goodIn_app (goodIn_of _ (by decide +kernel)) ggX5_readRule_X5_readItem
set_option maxRecDepth 20000 in
theorem ggX5_readRule_X6_addItem : GoodIn wsX5_readRule wsX6_addItem := goodIn_r _ [110, 38, 37, 111, 34, 136, 137, 138, 139, 140, 141, 142, 143, 144, 145, 146, 147, 148, 149, 150, 151] (by decide +kernel) (by decide +kernel)
set_option maxRecDepth 20000 in
theorem gX5_readRule_X6_addItem : GoodIn wsX5_readRule (wsV RX5 82 RX6 yX6_addItem wsX6_addItem) := goodIn_app (goodIn_of _ (by decide +kernel)) ggX5_readRule_X6_addItem
set_option maxRecDepth 20000 in
theorem ggX5_readRule_X0_addRule : GoodIn wsX5_readRule wsX0_addRule := goodIn_r _ [116, 117, 118, 119, 120, 121, 122, 123, 129, 130, 131, 132, 133, 134, 135, 136, 137, 138, 139, 140, 141, 142, 143, 144] (by decide +kernel) (by decide +kernel)
set_option maxRecDepth 20000 in
theorem gX5_readRule_X0_addRule : GoodIn wsX5_readRule (wsV RX5 89 RX0 yX0_addRule wsX0_addRule) := goodIn_app (goodIn_of _ (by decide +kernel)) ggX5_readRule_X0_addRule
theorem dX5_readRule_0 : decode cX5_readRule 0 = .ok (.aload_n 0, 1) := by decide +kernel
theorem dX5_readRule_1 : decode cX5_readRule 1 = .ok (.getfield 18, 3) := by decide +kernel
theorem dX5_readRule_4 : decode cX5_readRule 4 = .ok (.getfield 57, 3) := by decide +kernel
theorem dX5_readRule_7 : decode cX5_readRule 7 = .ok (.istore_n 1, 1) := by decide +kernel
theorem dX5_readRule_8 : decode cX5_readRule 8 = .ok (.aload_n 0, 1) := by decide +kernel
theorem dX5_readRule_9 : decode cX5_readRule 9 = .ok (.getfield 12, 3) := by decide +kernel
theorem dX5_readRule_12 : decode cX5_readRule 12 = .ok (.getfield 61, 3) := by decide +kernel
theorem dX5_readRule_15 : decode cX5_readRule 15 = .ok (.ifCond .eq 28, 3) := by decide +kernel
theorem dX5_readRule_18 : decode cX5_readRule 18 = .ok (.aload_n 0, 1) := by decide +kernel
theorem dX5_readRule_19 : decode cX5_readRule 19 = .ok (.getfield 12, 3) := by decide +kernel
theorem dX5_readRule_22 : decode cX5_readRule 22 = .ok (.getfield 64, 3) := by decide +kernel
theorem dX5_readRule_25 : decode cX5_readRule 25 = .ok (.bipush 60, 2) := by decide +kernel
theorem dX5_readRule_27 : decode cX5_readRule 27 = .ok (.if_icmp .ge 16, 3) := by decide +kernel
theorem dX5_readRule_30 : decode cX5_readRule 30 = .ok (.aload_n 0, 1) := by decide +kernel
theorem dX5_readRule_31 : decode cX5_readRule 31 = .ok (.getfield 18, 3) := by decide +kernel
theorem dX5_readRule_34 : decode cX5_readRule 34 = .ok (.getstatic 67, 3) := by decide +kernel
theorem dX5_readRule_37 : decode cX5_readRule 37 = .ok (.invokevirtual 34, 3) := by decide +kernel
theorem dX5_readRule_40 : decode cX5_readRule 40 = .ok (.ifCond .ne 5, 3) := by decide +kernel
theorem dX5_readRule_43 : decode cX5_readRule 43 = .ok (.iconst 0, 1) := by decide +kernel
theorem dX5_readRule_44 : decode cX5_readRule 44 = .ok (.ireturn, 1) := by decide +kernel
theorem dX5_readRule_45 : decode cX5_readRule 45 = .ok (.aload_n 0, 1) := by decide +kernel
theorem dX5_readRule_46 : decode cX5_readRule 46 = .ok (.getfield 18, 3) := by decide +kernel
theorem dX5_readRule_49 : decode cX5_readRule 49 = .ok (.iconst 0, 1) := by decide +kernel
theorem dX5_readRule_50 : decode cX5_readRule 50 = .ok (.bipush 19, 2) := by decide +kernel
theorem dX5_readRule_52 : decode cX5_readRule 52 = .ok (.invokevirtual 49, 3) := by decide +kernel
theorem dX5_readRule_55 : decode cX5_readRule 55 = .ok (.istore_n 2, 1) := by decide +kernel
theorem dX5_readRule_56 : decode cX5_readRule 56 = .ok (.iload_n 2, 1) := by decide +kernel
theorem dX5_readRule_57 : decode cX5_readRule 57 = .ok (.iconst (-1), 1) := by decide +kernel
theorem dX5_readRule_58 : decode cX5_readRule 58 = .ok (.if_icmp .eq 16, 3) := by decide +kernel
theorem dX5_readRule_61 : decode cX5_readRule 61 = .ok (.aload_n 0, 1) := by decide +kernel
theorem dX5_readRule_62 : decode cX5_readRule 62 = .ok (.getfield 18, 3) := by decide +kernel
theorem dX5_readRule_65 : decode cX5_readRule 65 = .ok (.getstatic 70, 3) := by decide +kernel
theorem dX5_readRule_68 : decode cX5_readRule 68 = .ok (.invokevirtual 34, 3) := by decide +kernel
theorem dX5_readRule_71 : decode cX5_readRule 71 = .ok (.ifCond .ne 5, 3) := by decide +kernel
theorem dX5_readRule_74 : decode cX5_readRule 74 = .ok (.iconst 0, 1) := by decide +kernel
theorem dX5_readRule_75 : decode cX5_readRule 75 = .ok (.ireturn, 1) := by decide +kernel
theorem dX5_readRule_76 : decode cX5_readRule 76 = .ok (.new 73, 3) := by decide +kernel
theorem dX5_readRule_79 : decode cX5_readRule 79 = .ok (.dup, 1) := by decide +kernel
theorem dX5_readRule_80 : decode cX5_readRule 80 = .ok (.iload_n 2, 1) := by decide +kernel
theorem dX5_readRule_81 : decode cX5_readRule 81 = .ok (.iload_n 1, 1) := by decide +kernel
theorem dX5_readRule_82 : decode cX5_readRule 82 = .ok (.invokespecial 75, 3) := by decide +kernel
theorem dX5_readRule_85 : decode cX5_readRule 85 = .ok (.astore_n 3, 1) := by decide +kernel
theorem dX5_readRule_86 : decode cX5_readRule 86 = .ok (.iconst 0, 1) := by decide +kernel
theorem dX5_readRule_87 : decode cX5_readRule 87 = .ok (.istore 4, 2) := by decide +kernel
theorem dX5_readRule_89 : decode cX5_readRule 89 = .ok (.iload 4, 2) := by decide +kernel
theorem dX5_readRule_91 : decode cX5_readRule 91 = .ok (.sipush 1500, 3) := by decide +kernel
theorem dX5_readRule_94 : decode cX5_readRule 94 = .ok (.if_icmp .ge 66, 3) := by decide +kernel
theorem dX5_readRule_97 : decode cX5_readRule 97 = .ok (.aload_n 0, 1) := by decide +kernel
theorem dX5_readRule_98 : decode cX5_readRule 98 = .ok (.invokevirtual 78, 3) := by decide +kernel
theorem dX5_readRule_101 : decode cX5_readRule 101 = .ok (.astore 5, 2) := by decide +kernel
theorem dX5_readRule_103 : decode cX5_readRule 103 = .ok (.aload 5, 2) := by decide +kernel
theorem dX5_readRule_105 : decode cX5_readRule 105 = .ok (.ifnonnull 5, 3) := by decide +kernel
theorem dX5_readRule_108 : decode cX5_readRule 108 = .ok (.iconst 0, 1) := by decide +kernel
theorem dX5_readRule_109 : decode cX5_readRule 109 = .ok (.ireturn, 1) := by decide +kernel
theorem dX5_readRule_110 : decode cX5_readRule 110 = .ok (.aload_n 3, 1) := by decide +kernel
theorem dX5_readRule_111 : decode cX5_readRule 111 = .ok (.aload 5, 2) := by decide +kernel
theorem dX5_readRule_113 : decode cX5_readRule 113 = .ok (.invokevirtual 82, 3) := by decide +kernel
theorem dX5_readRule_116 : decode cX5_readRule 116 = .ok (.aload_n 0, 1) := by decide +kernel
theorem dX5_readRule_117 : decode cX5_readRule 117 = .ok (.getfield 18, 3) := by decide +kernel
theorem dX5_readRule_120 : decode cX5_readRule 120 = .ok (.getstatic 86, 3) := by decide +kernel
theorem dX5_readRule_123 : decode cX5_readRule 123 = .ok (.invokevirtual 34, 3) := by decide +kernel
theorem dX5_readRule_126 : decode cX5_readRule 126 = .ok (.ifCond .eq 13, 3) := by decide +kernel
theorem dX5_readRule_129 : decode cX5_readRule 129 = .ok (.aload_n 0, 1) := by decide +kernel
theorem dX5_readRule_130 : decode cX5_readRule 130 = .ok (.getfield 12, 3) := by decide +kernel
theorem dX5_readRule_133 : decode cX5_readRule 133 = .ok (.aload_n 3, 1) := by decide +kernel
theorem dX5_readRule_134 : decode cX5_readRule 134 = .ok (.invokevirtual 89, 3) := by decide +kernel
theorem dX5_readRule_137 : decode cX5_readRule 137 = .ok (.iconst 1, 1) := by decide +kernel
theorem dX5_readRule_138 : decode cX5_readRule 138 = .ok (.ireturn, 1) := by decide +kernel
theorem dX5_readRule_139 : decode cX5_readRule 139 = .ok (.aload_n 0, 1) := by decide +kernel
theorem dX5_readRule_140 : decode cX5_readRule 140 = .ok (.getfield 18, 3) := by decide +kernel
theorem dX5_readRule_143 : decode cX5_readRule 143 = .ok (.getstatic 93, 3) := by decide +kernel
theorem dX5_readRule_146 : decode cX5_readRule 146 = .ok (.invokevirtual 34, 3) := by decide +kernel
theorem dX5_readRule_149 : decode cX5_readRule 149 = .ok (.ifCond .ne 5, 3) := by decide +kernel
theorem dX5_readRule_152 : decode cX5_readRule 152 = .ok (.iconst 0, 1) := by decide +kernel
theorem dX5_readRule_153 : decode cX5_readRule 153 = .ok (.ireturn, 1) := by decide +kernel
theorem dX5_readRule_154 : decode cX5_readRule 154 = .ok (.iinc 4 1, 3) := by decide +kernel
theorem dX5_readRule_157 : decode cX5_readRule 157 = .ok (.goto (-68), 3) := by decide +kernel
theorem dX5_readRule_160 : decode cX5_readRule 160 = .ok (.iconst 0, 1) := by decide +kernel
theorem dX5_readRule_161 : decode cX5_readRule 161 = .ok (.ireturn, 1) := by decide +kernel
set_option maxRecDepth 20000 in
theorem ggX5_readItem_X8_take : GoodIn wsX5_readItem wsX8_take := goodIn_r _ [12, 13, 14, 15, 16, 88, 89, 90] (by decide +kernel) (by decide +kernel)
set_option maxRecDepth 20000 in
theorem gX5_readItem_X8_take : GoodIn wsX5_readItem (wsV RX5 34 RX8 yX8_take wsX8_take) := goodIn_app (goodIn_of _ (by decide +kernel)) ggX5_readItem_X8_take
set_option maxRecDepth 20000 in
theorem ggX5_readItem_X5_readTest : GoodIn wsX5_readItem wsX5_readTest := goodIn_r _ [21, 1, 4, 5, 6, 22, 23, 24, 25, 26, 27, 28, 11, 29, 13, 14, 15, 30, 31, 32, 33, 34, 35, 36, 37, 38, 39, 40, 41, 42, 8, 9, 10, 12, 16, 79, 80, 81, 82, 83, 84, 85, 86, 87, 88, 89, 90] (by decide +kernel) (by decide +kernel)
set_option maxRecDepth 20000 in
theorem gX5_readItem_X5_readTest : GoodIn wsX5_readItem (wsV RX5 99 RX5 yX5_readTest wsX5_readTest) := goodIn_app (goodIn_of _ (by decide +kernel)) ggX5_readItem_X5_readTest
set_option maxRecDepth 20000 in
theorem ggX5_readItem_X8_takeNumber : GoodIn wsX5_readItem wsX8_takeNumber := goodIn_r _ [29, 13, 14, 15, 88, 89, 90] (by decide +kernel) (by decide +kernel)
set_option maxRecDepth 20000 in
theorem gX5_readItem_X8_takeNumber : GoodIn wsX5_readItem (wsV RX5 49 RX8 yX8_takeNumber wsX8_takeNumber) := goodIn_app (goodIn_of _ (by decide +kernel)) ggX5_readItem_X8_takeNumber
set_option maxRecDepth 20000 in
theorem ggX5_readItem_X3_init : GoodIn wsX5_readItem wsX3_init := goodIn_r _ [32, 33, 34, 35, 36, 37, 38, 39, 40, 41, 42, 81, 82, 83, 84, 85, 86, 87] (by decide +kernel) (by decide +kernel)
set_option maxRecDepth 20000 in
theorem gX5_readItem_X3_init : GoodIn wsX5_readItem (wsX3_init) := ggX5_readItem_X3_init
set_option maxRecDepth 20000 in
theorem ggX5_readItem_X5_readSum : GoodIn wsX5_readItem wsX5_readSum := goodIn_r _ [46, 4, 5, 6, 1, 47, 23, 48, 49, 25, 30, 31, 32, 33, 34, 35, 36, 37, 38, 39, 40, 41, 42, 50, 51, 52, 20, 53, 54, 55, 56, 57, 58, 59, 60, 61, 62, 63, 8, 9, 10, 11, 12, 13, 14, 15, 16, 26, 27, 28, 29, 64, 65, 66, 67, 68, 69, 70, 71, 72, 73, 74, 75, 76, 77, 78, 81, 82, 83, 84, 85, 86, 87, 79, 80, 91, 92, 93, 94, 95, 96, 88, 89, 90] (by decide +kernel) (by decide +kernel)
set_option maxRecDepth 20000 in
theorem gX5_readItem_X5_readSum : GoodIn wsX5_readItem (wsV RX5 111 RX5 yX5_readSum wsX5_readSum) := goodIn_app (goodIn_of _ (by decide +kernel)) ggX5_readItem_X5_readSum
theorem dX5_readItem_0 : decode cX5_readItem 0 = .ok (.aload_n 0, 1) := by decide +kernel
theorem dX5_readItem_1 : decode cX5_readItem 1 = .ok (.getfield 18, 3) := by decide +kernel
theorem dX5_readItem_4 : decode cX5_readItem 4 = .ok (.getstatic 96, 3) := by decide +kernel
theorem dX5_readItem_7 : decode cX5_readItem 7 = .ok (.invokevirtual 34, 3) := by decide +kernel
theorem dX5_readItem_10 : decode cX5_readItem 10 = .ok (.ifCond .eq 8, 3) := by decide +kernel
theorem dX5_readItem_13 : decode cX5_readItem 13 = .ok (.aload_n 0, 1) := by decide +kernel
theorem dX5_readItem_14 : decode cX5_readItem 14 = .ok (.invokevirtual 99, 3) := by decide +kernel
theorem dX5_readItem_17 : decode cX5_readItem 17 = .ok (.areturn, 1) := by decide +kernel
theorem dX5_readItem_18 : decode cX5_readItem 18 = .ok (.aload_n 0, 1) := by decide +kernel
theorem dX5_readItem_19 : decode cX5_readItem 19 = .ok (.getfield 18, 3) := by decide +kernel
theorem dX5_readItem_22 : decode cX5_readItem 22 = .ok (.getstatic 102, 3) := by decide +kernel
theorem dX5_readItem_25 : decode cX5_readItem 25 = .ok (.invokevirtual 34, 3) := by decide +kernel
theorem dX5_readItem_28 : decode cX5_readItem 28 = .ok (.ifCond .eq 33, 3) := by decide +kernel
theorem dX5_readItem_31 : decode cX5_readItem 31 = .ok (.aload_n 0, 1) := by decide +kernel
theorem dX5_readItem_32 : decode cX5_readItem 32 = .ok (.getfield 18, 3) := by decide +kernel
theorem dX5_readItem_35 : decode cX5_readItem 35 = .ok (.iconst 0, 1) := by decide +kernel
theorem dX5_readItem_36 : decode cX5_readItem 36 = .ok (.bipush 19, 2) := by decide +kernel
theorem dX5_readItem_38 : decode cX5_readItem 38 = .ok (.invokevirtual 49, 3) := by decide +kernel
theorem dX5_readItem_41 : decode cX5_readItem 41 = .ok (.istore_n 1, 1) := by decide +kernel
theorem dX5_readItem_42 : decode cX5_readItem 42 = .ok (.iload_n 1, 1) := by decide +kernel
theorem dX5_readItem_43 : decode cX5_readItem 43 = .ok (.iconst (-1), 1) := by decide +kernel
theorem dX5_readItem_44 : decode cX5_readItem 44 = .ok (.if_icmp .ne 7, 3) := by decide +kernel
theorem dX5_readItem_47 : decode cX5_readItem 47 = .ok (.aconst_null, 1) := by decide +kernel
theorem dX5_readItem_48 : decode cX5_readItem 48 = .ok (.goto 12, 3) := by decide +kernel
theorem dX5_readItem_51 : decode cX5_readItem 51 = .ok (.new 105, 3) := by decide +kernel
theorem dX5_readItem_54 : decode cX5_readItem 54 = .ok (.dup, 1) := by decide +kernel
theorem dX5_readItem_55 : decode cX5_readItem 55 = .ok (.iconst 1, 1) := by decide +kernel
theorem dX5_readItem_56 : decode cX5_readItem 56 = .ok (.iload_n 1, 1) := by decide +kernel
theorem dX5_readItem_57 : decode cX5_readItem 57 = .ok (.invokespecial 107, 3) := by decide +kernel
theorem dX5_readItem_60 : decode cX5_readItem 60 = .ok (.areturn, 1) := by decide +kernel
theorem dX5_readItem_61 : decode cX5_readItem 61 = .ok (.aload_n 0, 1) := by decide +kernel
theorem dX5_readItem_62 : decode cX5_readItem 62 = .ok (.getfield 18, 3) := by decide +kernel
theorem dX5_readItem_65 : decode cX5_readItem 65 = .ok (.getstatic 108, 3) := by decide +kernel
theorem dX5_readItem_68 : decode cX5_readItem 68 = .ok (.invokevirtual 34, 3) := by decide +kernel
theorem dX5_readItem_71 : decode cX5_readItem 71 = .ok (.ifCond .eq 10, 3) := by decide +kernel
theorem dX5_readItem_74 : decode cX5_readItem 74 = .ok (.aload_n 0, 1) := by decide +kernel
theorem dX5_readItem_75 : decode cX5_readItem 75 = .ok (.invokevirtual 111, 3) := by decide +kernel
theorem dX5_readItem_78 : decode cX5_readItem 78 = .ok (.goto 4, 3) := by decide +kernel
theorem dX5_readItem_81 : decode cX5_readItem 81 = .ok (.aconst_null, 1) := by decide +kernel
theorem dX5_readItem_82 : decode cX5_readItem 82 = .ok (.areturn, 1) := by decide +kernel
set_option maxRecDepth 20000 in
theorem ggX5_readTest_X8_takeNumber : GoodIn wsX5_readTest wsX8_takeNumber := goodIn_r _ [13, 14, 15, 16, 44, 45, 46] (by decide +kernel) (by decide +kernel)
set_option maxRecDepth 20000 in
theorem gX5_readTest_X8_takeNumber : GoodIn wsX5_readTest (wsV RX5 49 RX8 yX8_takeNumber wsX8_takeNumber) := goodIn_app (goodIn_of _ (by decide +kernel)) ggX5_readTest_X8_takeNumber
set_option maxRecDepth 20000 in
theorem ggX5_readTest_X3_init : GoodIn wsX5_readTest wsX3_init := goodIn_r _ [19, 20, 21, 22, 23, 24, 25, 26, 27, 28, 29, 37, 38, 39, 40, 41, 42, 43] (by decide +kernel) (by decide +kernel)
set_option maxRecDepth 20000 in
theorem gX5_readTest_X3_init : GoodIn wsX5_readTest (wsX3_init) := ggX5_readTest_X3_init
set_option maxRecDepth 20000 in
theorem ggX5_readTest_X8_take : GoodIn wsX5_readTest wsX8_take := goodIn_r _ [33, 14, 15, 16, 34, 44, 45, 46] (by decide +kernel) (by decide +kernel)
set_option maxRecDepth 20000 in
theorem gX5_readTest_X8_take : GoodIn wsX5_readTest (wsV RX5 34 RX8 yX8_take wsX8_take) := goodIn_app (goodIn_of _ (by decide +kernel)) ggX5_readTest_X8_take
theorem dX5_readTest_0 : decode cX5_readTest 0 = .ok (.aload_n 0, 1) := by decide +kernel
theorem dX5_readTest_1 : decode cX5_readTest 1 = .ok (.getfield 18, 3) := by decide +kernel
theorem dX5_readTest_4 : decode cX5_readTest 4 = .ok (.iconst 0, 1) := by decide +kernel
theorem dX5_readTest_5 : decode cX5_readTest 5 = .ok (.bipush 7, 2) := by decide +kernel
theorem dX5_readTest_7 : decode cX5_readTest 7 = .ok (.invokevirtual 49, 3) := by decide +kernel
theorem dX5_readTest_10 : decode cX5_readTest 10 = .ok (.istore_n 1, 1) := by decide +kernel
theorem dX5_readTest_11 : decode cX5_readTest 11 = .ok (.iload_n 1, 1) := by decide +kernel
theorem dX5_readTest_12 : decode cX5_readTest 12 = .ok (.iconst (-1), 1) := by decide +kernel
theorem dX5_readTest_13 : decode cX5_readTest 13 = .ok (.if_icmp .ne 5, 3) := by decide +kernel
theorem dX5_readTest_16 : decode cX5_readTest 16 = .ok (.aconst_null, 1) := by decide +kernel
theorem dX5_readTest_17 : decode cX5_readTest 17 = .ok (.areturn, 1) := by decide +kernel
theorem dX5_readTest_18 : decode cX5_readTest 18 = .ok (.new 105, 3) := by decide +kernel
theorem dX5_readTest_21 : decode cX5_readTest 21 = .ok (.dup, 1) := by decide +kernel
theorem dX5_readTest_22 : decode cX5_readTest 22 = .ok (.iconst 0, 1) := by decide +kernel
theorem dX5_readTest_23 : decode cX5_readTest 23 = .ok (.iload_n 1, 1) := by decide +kernel
theorem dX5_readTest_24 : decode cX5_readTest 24 = .ok (.invokespecial 107, 3) := by decide +kernel
theorem dX5_readTest_27 : decode cX5_readTest 27 = .ok (.astore_n 2, 1) := by decide +kernel
theorem dX5_readTest_28 : decode cX5_readTest 28 = .ok (.aload_n 2, 1) := by decide +kernel
theorem dX5_readTest_29 : decode cX5_readTest 29 = .ok (.aload_n 0, 1) := by decide +kernel
theorem dX5_readTest_30 : decode cX5_readTest 30 = .ok (.getfield 18, 3) := by decide +kernel
theorem dX5_readTest_33 : decode cX5_readTest 33 = .ok (.getstatic 114, 3) := by decide +kernel
theorem dX5_readTest_36 : decode cX5_readTest 36 = .ok (.invokevirtual 34, 3) := by decide +kernel
theorem dX5_readTest_39 : decode cX5_readTest 39 = .ok (.putfield 117, 3) := by decide +kernel
theorem dX5_readTest_42 : decode cX5_readTest 42 = .ok (.aload_n 2, 1) := by decide +kernel
theorem dX5_readTest_43 : decode cX5_readTest 43 = .ok (.getfield 117, 3) := by decide +kernel
theorem dX5_readTest_46 : decode cX5_readTest 46 = .ok (.ifCond .ne 18, 3) := by decide +kernel
theorem dX5_readTest_49 : decode cX5_readTest 49 = .ok (.aload_n 0, 1) := by decide +kernel
theorem dX5_readTest_50 : decode cX5_readTest 50 = .ok (.getfield 18, 3) := by decide +kernel
theorem dX5_readTest_53 : decode cX5_readTest 53 = .ok (.getstatic 121, 3) := by decide +kernel
theorem dX5_readTest_56 : decode cX5_readTest 56 = .ok (.invokevirtual 34, 3) := by decide +kernel
theorem dX5_readTest_59 : decode cX5_readTest 59 = .ok (.ifCond .ne 5, 3) := by decide +kernel
theorem dX5_readTest_62 : decode cX5_readTest 62 = .ok (.aconst_null, 1) := by decide +kernel
theorem dX5_readTest_63 : decode cX5_readTest 63 = .ok (.areturn, 1) := by decide +kernel
theorem dX5_readTest_64 : decode cX5_readTest 64 = .ok (.aload_n 2, 1) := by decide +kernel
theorem dX5_readTest_65 : decode cX5_readTest 65 = .ok (.aload_n 0, 1) := by decide +kernel
theorem dX5_readTest_66 : decode cX5_readTest 66 = .ok (.getfield 18, 3) := by decide +kernel
theorem dX5_readTest_69 : decode cX5_readTest 69 = .ok (.iconst 0, 1) := by decide +kernel
theorem dX5_readTest_70 : decode cX5_readTest 70 = .ok (.bipush 9, 2) := by decide +kernel
theorem dX5_readTest_72 : decode cX5_readTest 72 = .ok (.invokevirtual 49, 3) := by decide +kernel
theorem dX5_readTest_75 : decode cX5_readTest 75 = .ok (.putfield 124, 3) := by decide +kernel
theorem dX5_readTest_78 : decode cX5_readTest 78 = .ok (.aload_n 2, 1) := by decide +kernel
theorem dX5_readTest_79 : decode cX5_readTest 79 = .ok (.getfield 124, 3) := by decide +kernel
theorem dX5_readTest_82 : decode cX5_readTest 82 = .ok (.iconst (-1), 1) := by decide +kernel
theorem dX5_readTest_83 : decode cX5_readTest 83 = .ok (.if_icmp .ne 7, 3) := by decide +kernel
theorem dX5_readTest_86 : decode cX5_readTest 86 = .ok (.aconst_null, 1) := by decide +kernel
theorem dX5_readTest_87 : decode cX5_readTest 87 = .ok (.goto 4, 3) := by decide +kernel
theorem dX5_readTest_90 : decode cX5_readTest 90 = .ok (.aload_n 2, 1) := by decide +kernel
theorem dX5_readTest_91 : decode cX5_readTest 91 = .ok (.areturn, 1) := by decide +kernel
set_option maxRecDepth 20000 in
theorem ggX5_readSum_X3_init : GoodIn wsX5_readSum wsX3_init := goodIn_r _ [12, 13, 14, 15, 16, 17, 18, 19, 20, 21, 22, 66, 67, 68, 69, 70, 71, 72] (by decide +kernel) (by decide +kernel)
set_option maxRecDepth 20000 in
theorem gX5_readSum_X3_init : GoodIn wsX5_readSum (wsX3_init) := ggX5_readSum_X3_init
set_option maxRecDepth 20000 in
theorem ggX5_readSum_X5_readTerm : GoodIn wsX5_readSum wsX5_readTerm := goodIn_r _ [27, 4, 28, 29, 30, 31, 32, 33, 34, 8, 35, 36, 37, 38, 39, 40, 41, 42, 43, 44, 45, 46, 47, 48, 49, 50, 51, 52, 53, 54, 14, 15, 55, 56, 57, 58, 59, 60, 73, 74, 75, 76, 77, 78, 79, 80, 81, 82, 83] (by decide +kernel) (by decide +kernel)
set_option maxRecDepth 20000 in
theorem gX5_readSum_X5_readTerm : GoodIn wsX5_readSum (wsV RX5 127 RX5 yX5_readTerm wsX5_readTerm) := goodIn_app (goodIn_of _ (by decide +kernel)) ggX5_readSum_X5_readTerm
set_option maxRecDepth 20000 in
theorem ggX5_readSum_X3_addTerm : GoodIn wsX5_readSum wsX3_addTerm := goodIn_r _ [64, 20, 19, 65, 66, 67, 68, 69, 70, 71, 72, 75, 76, 77, 78, 79, 80] (by decide +kernel) (by decide +kernel)
set_option maxRecDepth 20000 in
theorem gX5_readSum_X3_addTerm : GoodIn wsX5_readSum (wsV RX5 131 RX3 yX3_addTerm wsX3_addTerm) := goodIn_app (goodIn_of _ (by decide +kernel)) ggX5_readSum_X3_addTerm
set_option maxRecDepth 20000 in
theorem ggX5_readSum_X8_take : GoodIn wsX5_readSum wsX8_take := goodIn_r _ [42, 43, 44, 45, 46, 81, 82, 83] (by decide +kernel) (by decide +kernel)
set_option maxRecDepth 20000 in
theorem gX5_readSum_X8_take : GoodIn wsX5_readSum (wsV RX5 34 RX8 yX8_take wsX8_take) := goodIn_app (goodIn_of _ (by decide +kernel)) ggX5_readSum_X8_take
set_option maxRecDepth 20000 in
theorem ggX5_readSum_X8_takeNumber : GoodIn wsX5_readSum wsX8_takeNumber := goodIn_r _ [50, 43, 44, 45, 81, 82, 83] (by decide +kernel) (by decide +kernel)
set_option maxRecDepth 20000 in
theorem gX5_readSum_X8_takeNumber : GoodIn wsX5_readSum (wsV RX5 49 RX8 yX8_takeNumber wsX8_takeNumber) := goodIn_app (goodIn_of _ (by decide +kernel)) ggX5_readSum_X8_takeNumber
theorem dX5_readSum_0 : decode cX5_readSum 0 = .ok (.new 105, 3) := by decide +kernel
theorem dX5_readSum_3 : decode cX5_readSum 3 = .ok (.dup, 1) := by decide +kernel
theorem dX5_readSum_4 : decode cX5_readSum 4 = .ok (.iconst 2, 1) := by decide +kernel
theorem dX5_readSum_5 : decode cX5_readSum 5 = .ok (.iconst (-1), 1) := by decide +kernel
theorem dX5_readSum_6 : decode cX5_readSum 6 = .ok (.invokespecial 107, 3) := by decide +kernel
theorem dX5_readSum_9 : decode cX5_readSum 9 = .ok (.astore_n 1, 1) := by decide +kernel
theorem dX5_readSum_10 : decode cX5_readSum 10 = .ok (.iconst 0, 1) := by decide +kernel
theorem dX5_readSum_11 : decode cX5_readSum 11 = .ok (.istore_n 2, 1) := by decide +kernel
theorem dX5_readSum_12 : decode cX5_readSum 12 = .ok (.iload_n 2, 1) := by decide +kernel
theorem dX5_readSum_13 : decode cX5_readSum 13 = .ok (.sipush 1500, 3) := by decide +kernel
theorem dX5_readSum_16 : decode cX5_readSum 16 = .ok (.if_icmp .ge 87, 3) := by decide +kernel
theorem dX5_readSum_19 : decode cX5_readSum 19 = .ok (.aload_n 0, 1) := by decide +kernel
theorem dX5_readSum_20 : decode cX5_readSum 20 = .ok (.invokevirtual 127, 3) := by decide +kernel
theorem dX5_readSum_23 : decode cX5_readSum 23 = .ok (.astore_n 3, 1) := by decide +kernel
theorem dX5_readSum_24 : decode cX5_readSum 24 = .ok (.aload_n 3, 1) := by decide +kernel
theorem dX5_readSum_25 : decode cX5_readSum 25 = .ok (.ifnonnull 5, 3) := by decide +kernel
theorem dX5_readSum_28 : decode cX5_readSum 28 = .ok (.aconst_null, 1) := by decide +kernel
theorem dX5_readSum_29 : decode cX5_readSum 29 = .ok (.areturn, 1) := by decide +kernel
theorem dX5_readSum_30 : decode cX5_readSum 30 = .ok (.aload_n 1, 1) := by decide +kernel
theorem dX5_readSum_31 : decode cX5_readSum 31 = .ok (.aload_n 3, 1) := by decide +kernel
theorem dX5_readSum_32 : decode cX5_readSum 32 = .ok (.invokevirtual 131, 3) := by decide +kernel
theorem dX5_readSum_35 : decode cX5_readSum 35 = .ok (.aload_n 1, 1) := by decide +kernel
theorem dX5_readSum_36 : decode cX5_readSum 36 = .ok (.aload_n 0, 1) := by decide +kernel
theorem dX5_readSum_37 : decode cX5_readSum 37 = .ok (.getfield 18, 3) := by decide +kernel
theorem dX5_readSum_40 : decode cX5_readSum 40 = .ok (.getstatic 135, 3) := by decide +kernel
theorem dX5_readSum_43 : decode cX5_readSum 43 = .ok (.invokevirtual 34, 3) := by decide +kernel
theorem dX5_readSum_46 : decode cX5_readSum 46 = .ok (.putfield 117, 3) := by decide +kernel
theorem dX5_readSum_49 : decode cX5_readSum 49 = .ok (.aload_n 1, 1) := by decide +kernel
theorem dX5_readSum_50 : decode cX5_readSum 50 = .ok (.getfield 117, 3) := by decide +kernel
theorem dX5_readSum_53 : decode cX5_readSum 53 = .ok (.ifCond .ne 16, 3) := by decide +kernel
theorem dX5_readSum_56 : decode cX5_readSum 56 = .ok (.aload_n 0, 1) := by decide +kernel
theorem dX5_readSum_57 : decode cX5_readSum 57 = .ok (.getfield 18, 3) := by decide +kernel
theorem dX5_readSum_60 : decode cX5_readSum 60 = .ok (.getstatic 138, 3) := by decide +kernel
theorem dX5_readSum_63 : decode cX5_readSum 63 = .ok (.invokevirtual 34, 3) := by decide +kernel
theorem dX5_readSum_66 : decode cX5_readSum 66 = .ok (.ifCond .eq 31, 3) := by decide +kernel
theorem dX5_readSum_69 : decode cX5_readSum 69 = .ok (.aload_n 1, 1) := by decide +kernel
theorem dX5_readSum_70 : decode cX5_readSum 70 = .ok (.aload_n 0, 1) := by decide +kernel
theorem dX5_readSum_71 : decode cX5_readSum 71 = .ok (.getfield 18, 3) := by decide +kernel
theorem dX5_readSum_74 : decode cX5_readSum 74 = .ok (.iconst 0, 1) := by decide +kernel
theorem dX5_readSum_75 : decode cX5_readSum 75 = .ok (.ldc 48, 2) := by decide +kernel
theorem dX5_readSum_77 : decode cX5_readSum 77 = .ok (.invokevirtual 49, 3) := by decide +kernel
theorem dX5_readSum_80 : decode cX5_readSum 80 = .ok (.putfield 124, 3) := by decide +kernel
theorem dX5_readSum_83 : decode cX5_readSum 83 = .ok (.aload_n 1, 1) := by decide +kernel
theorem dX5_readSum_84 : decode cX5_readSum 84 = .ok (.getfield 124, 3) := by decide +kernel
theorem dX5_readSum_87 : decode cX5_readSum 87 = .ok (.iconst (-1), 1) := by decide +kernel
theorem dX5_readSum_88 : decode cX5_readSum 88 = .ok (.if_icmp .ne 7, 3) := by decide +kernel
theorem dX5_readSum_91 : decode cX5_readSum 91 = .ok (.aconst_null, 1) := by decide +kernel
theorem dX5_readSum_92 : decode cX5_readSum 92 = .ok (.goto 4, 3) := by decide +kernel
theorem dX5_readSum_95 : decode cX5_readSum 95 = .ok (.aload_n 1, 1) := by decide +kernel
theorem dX5_readSum_96 : decode cX5_readSum 96 = .ok (.areturn, 1) := by decide +kernel
theorem dX5_readSum_97 : decode cX5_readSum 97 = .ok (.iinc 2 1, 3) := by decide +kernel
theorem dX5_readSum_100 : decode cX5_readSum 100 = .ok (.goto (-88), 3) := by decide +kernel
theorem dX5_readSum_103 : decode cX5_readSum 103 = .ok (.aconst_null, 1) := by decide +kernel
theorem dX5_readSum_104 : decode cX5_readSum 104 = .ok (.areturn, 1) := by decide +kernel
set_option maxRecDepth 20000 in
theorem ggX5_readTerm_X8_take : GoodIn wsX5_readTerm wsX8_take := goodIn_r _ [17, 18, 19, 20, 21, 46, 47, 48] (by decide +kernel) (by decide +kernel)
set_option maxRecDepth 20000 in
theorem gX5_readTerm_X8_take : GoodIn wsX5_readTerm (wsV RX5 34 RX8 yX8_take wsX8_take) := goodIn_app (goodIn_of _ (by decide +kernel)) ggX5_readTerm_X8_take
set_option maxRecDepth 20000 in
theorem ggX5_readTerm_X8_takeNumber : GoodIn wsX5_readTerm wsX8_takeNumber := goodIn_r _ [25, 18, 19, 20, 46, 47, 48] (by decide +kernel) (by decide +kernel)
set_option maxRecDepth 20000 in
theorem gX5_readTerm_X8_takeNumber : GoodIn wsX5_readTerm (wsV RX5 49 RX8 yX8_takeNumber wsX8_takeNumber) := goodIn_app (goodIn_of _ (by decide +kernel)) ggX5_readTerm_X8_takeNumber
set_option maxRecDepth 20000 in
theorem ggX5_readTerm_X7_init : GoodIn wsX5_readTerm wsX7_init := goodIn_r _ [28, 29, 30, 31, 32, 33, 34, 35, 36, 37, 40, 41, 42, 43, 44, 45] (by decide +kernel) (by decide +kernel)
set_option maxRecDepth 20000 in
theorem gX5_readTerm_X7_init : GoodIn wsX5_readTerm (wsX7_init) := ggX5_readTerm_X7_init
theorem dX5_readTerm_0 : decode cX5_readTerm 0 = .ok (.aload_n 0, 1) := by decide +kernel
theorem dX5_readTerm_1 : decode cX5_readTerm 1 = .ok (.getfield 18, 3) := by decide +kernel
theorem dX5_readTerm_4 : decode cX5_readTerm 4 = .ok (.getstatic 141, 3) := by decide +kernel
theorem dX5_readTerm_7 : decode cX5_readTerm 7 = .ok (.invokevirtual 34, 3) := by decide +kernel
theorem dX5_readTerm_10 : decode cX5_readTerm 10 = .ok (.istore_n 1, 1) := by decide +kernel
theorem dX5_readTerm_11 : decode cX5_readTerm 11 = .ok (.iload_n 1, 1) := by decide +kernel
theorem dX5_readTerm_12 : decode cX5_readTerm 12 = .ok (.ifCond .ne 18, 3) := by decide +kernel
theorem dX5_readTerm_15 : decode cX5_readTerm 15 = .ok (.aload_n 0, 1) := by decide +kernel
theorem dX5_readTerm_16 : decode cX5_readTerm 16 = .ok (.getfield 18, 3) := by decide +kernel
theorem dX5_readTerm_19 : decode cX5_readTerm 19 = .ok (.getstatic 144, 3) := by decide +kernel
theorem dX5_readTerm_22 : decode cX5_readTerm 22 = .ok (.invokevirtual 34, 3) := by decide +kernel
theorem dX5_readTerm_25 : decode cX5_readTerm 25 = .ok (.ifCond .ne 5, 3) := by decide +kernel
theorem dX5_readTerm_28 : decode cX5_readTerm 28 = .ok (.aconst_null, 1) := by decide +kernel
theorem dX5_readTerm_29 : decode cX5_readTerm 29 = .ok (.areturn, 1) := by decide +kernel
theorem dX5_readTerm_30 : decode cX5_readTerm 30 = .ok (.aload_n 0, 1) := by decide +kernel
theorem dX5_readTerm_31 : decode cX5_readTerm 31 = .ok (.getfield 18, 3) := by decide +kernel
theorem dX5_readTerm_34 : decode cX5_readTerm 34 = .ok (.iconst 0, 1) := by decide +kernel
theorem dX5_readTerm_35 : decode cX5_readTerm 35 = .ok (.sipush 1000, 3) := by decide +kernel
theorem dX5_readTerm_38 : decode cX5_readTerm 38 = .ok (.invokevirtual 49, 3) := by decide +kernel
theorem dX5_readTerm_41 : decode cX5_readTerm 41 = .ok (.istore_n 2, 1) := by decide +kernel
theorem dX5_readTerm_42 : decode cX5_readTerm 42 = .ok (.iload_n 2, 1) := by decide +kernel
theorem dX5_readTerm_43 : decode cX5_readTerm 43 = .ok (.iconst (-1), 1) := by decide +kernel
theorem dX5_readTerm_44 : decode cX5_readTerm 44 = .ok (.if_icmp .eq 16, 3) := by decide +kernel
theorem dX5_readTerm_47 : decode cX5_readTerm 47 = .ok (.aload_n 0, 1) := by decide +kernel
theorem dX5_readTerm_48 : decode cX5_readTerm 48 = .ok (.getfield 18, 3) := by decide +kernel
theorem dX5_readTerm_51 : decode cX5_readTerm 51 = .ok (.getstatic 147, 3) := by decide +kernel
theorem dX5_readTerm_54 : decode cX5_readTerm 54 = .ok (.invokevirtual 34, 3) := by decide +kernel
theorem dX5_readTerm_57 : decode cX5_readTerm 57 = .ok (.ifCond .ne 5, 3) := by decide +kernel
theorem dX5_readTerm_60 : decode cX5_readTerm 60 = .ok (.aconst_null, 1) := by decide +kernel
theorem dX5_readTerm_61 : decode cX5_readTerm 61 = .ok (.areturn, 1) := by decide +kernel
theorem dX5_readTerm_62 : decode cX5_readTerm 62 = .ok (.aload_n 0, 1) := by decide +kernel
theorem dX5_readTerm_63 : decode cX5_readTerm 63 = .ok (.getfield 18, 3) := by decide +kernel
theorem dX5_readTerm_66 : decode cX5_readTerm 66 = .ok (.iconst 0, 1) := by decide +kernel
theorem dX5_readTerm_67 : decode cX5_readTerm 67 = .ok (.bipush 15, 2) := by decide +kernel
theorem dX5_readTerm_69 : decode cX5_readTerm 69 = .ok (.invokevirtual 49, 3) := by decide +kernel
theorem dX5_readTerm_72 : decode cX5_readTerm 72 = .ok (.istore_n 3, 1) := by decide +kernel
theorem dX5_readTerm_73 : decode cX5_readTerm 73 = .ok (.iload_n 3, 1) := by decide +kernel
theorem dX5_readTerm_74 : decode cX5_readTerm 74 = .ok (.iconst (-1), 1) := by decide +kernel
theorem dX5_readTerm_75 : decode cX5_readTerm 75 = .ok (.if_icmp .ne 5, 3) := by decide +kernel
theorem dX5_readTerm_78 : decode cX5_readTerm 78 = .ok (.aconst_null, 1) := by decide +kernel
theorem dX5_readTerm_79 : decode cX5_readTerm 79 = .ok (.areturn, 1) := by decide +kernel
theorem dX5_readTerm_80 : decode cX5_readTerm 80 = .ok (.new 150, 3) := by decide +kernel
theorem dX5_readTerm_83 : decode cX5_readTerm 83 = .ok (.dup, 1) := by decide +kernel
theorem dX5_readTerm_84 : decode cX5_readTerm 84 = .ok (.iload_n 1, 1) := by decide +kernel
theorem dX5_readTerm_85 : decode cX5_readTerm 85 = .ok (.iload_n 2, 1) := by decide +kernel
theorem dX5_readTerm_86 : decode cX5_readTerm 86 = .ok (.iload_n 3, 1) := by decide +kernel
theorem dX5_readTerm_87 : decode cX5_readTerm 87 = .ok (.invokespecial 152, 3) := by decide +kernel
theorem dX5_readTerm_90 : decode cX5_readTerm 90 = .ok (.astore 4, 2) := by decide +kernel
theorem dX5_readTerm_92 : decode cX5_readTerm 92 = .ok (.aload_n 0, 1) := by decide +kernel
theorem dX5_readTerm_93 : decode cX5_readTerm 93 = .ok (.getfield 18, 3) := by decide +kernel
theorem dX5_readTerm_96 : decode cX5_readTerm 96 = .ok (.getstatic 155, 3) := by decide +kernel
theorem dX5_readTerm_99 : decode cX5_readTerm 99 = .ok (.invokevirtual 34, 3) := by decide +kernel
theorem dX5_readTerm_102 : decode cX5_readTerm 102 = .ok (.ifCond .eq 18, 3) := by decide +kernel
theorem dX5_readTerm_105 : decode cX5_readTerm 105 = .ok (.aload 4, 2) := by decide +kernel
theorem dX5_readTerm_107 : decode cX5_readTerm 107 = .ok (.aload_n 0, 1) := by decide +kernel
theorem dX5_readTerm_108 : decode cX5_readTerm 108 = .ok (.getfield 18, 3) := by decide +kernel
theorem dX5_readTerm_111 : decode cX5_readTerm 111 = .ok (.iconst 0, 1) := by decide +kernel
theorem dX5_readTerm_112 : decode cX5_readTerm 112 = .ok (.ldc 48, 2) := by decide +kernel
theorem dX5_readTerm_114 : decode cX5_readTerm 114 = .ok (.invokevirtual 49, 3) := by decide +kernel
theorem dX5_readTerm_117 : decode cX5_readTerm 117 = .ok (.putfield 158, 3) := by decide +kernel
theorem dX5_readTerm_120 : decode cX5_readTerm 120 = .ok (.aload 4, 2) := by decide +kernel
theorem dX5_readTerm_122 : decode cX5_readTerm 122 = .ok (.getfield 158, 3) := by decide +kernel
theorem dX5_readTerm_125 : decode cX5_readTerm 125 = .ok (.iconst (-1), 1) := by decide +kernel
theorem dX5_readTerm_126 : decode cX5_readTerm 126 = .ok (.if_icmp .eq 32, 3) := by decide +kernel
theorem dX5_readTerm_129 : decode cX5_readTerm 129 = .ok (.aload_n 0, 1) := by decide +kernel
theorem dX5_readTerm_130 : decode cX5_readTerm 130 = .ok (.getfield 18, 3) := by decide +kernel
theorem dX5_readTerm_133 : decode cX5_readTerm 133 = .ok (.getstatic 161, 3) := by decide +kernel
theorem dX5_readTerm_136 : decode cX5_readTerm 136 = .ok (.invokevirtual 34, 3) := by decide +kernel
theorem dX5_readTerm_139 : decode cX5_readTerm 139 = .ok (.ifCond .eq 19, 3) := by decide +kernel
theorem dX5_readTerm_142 : decode cX5_readTerm 142 = .ok (.aload 4, 2) := by decide +kernel
theorem dX5_readTerm_144 : decode cX5_readTerm 144 = .ok (.aload_n 0, 1) := by decide +kernel
theorem dX5_readTerm_145 : decode cX5_readTerm 145 = .ok (.getfield 18, 3) := by decide +kernel
theorem dX5_readTerm_148 : decode cX5_readTerm 148 = .ok (.iconst 0, 1) := by decide +kernel
theorem dX5_readTerm_149 : decode cX5_readTerm 149 = .ok (.sipush 999, 3) := by decide +kernel
theorem dX5_readTerm_152 : decode cX5_readTerm 152 = .ok (.invokevirtual 49, 3) := by decide +kernel
theorem dX5_readTerm_155 : decode cX5_readTerm 155 = .ok (.putfield 164, 3) := by decide +kernel
theorem dX5_readTerm_158 : decode cX5_readTerm 158 = .ok (.aload 4, 2) := by decide +kernel
theorem dX5_readTerm_160 : decode cX5_readTerm 160 = .ok (.getfield 158, 3) := by decide +kernel
theorem dX5_readTerm_163 : decode cX5_readTerm 163 = .ok (.iconst (-1), 1) := by decide +kernel
theorem dX5_readTerm_164 : decode cX5_readTerm 164 = .ok (.if_icmp .eq 12, 3) := by decide +kernel
theorem dX5_readTerm_167 : decode cX5_readTerm 167 = .ok (.aload 4, 2) := by decide +kernel
theorem dX5_readTerm_169 : decode cX5_readTerm 169 = .ok (.getfield 164, 3) := by decide +kernel
theorem dX5_readTerm_172 : decode cX5_readTerm 172 = .ok (.iconst (-1), 1) := by decide +kernel
theorem dX5_readTerm_173 : decode cX5_readTerm 173 = .ok (.if_icmp .ne 7, 3) := by decide +kernel
theorem dX5_readTerm_176 : decode cX5_readTerm 176 = .ok (.aconst_null, 1) := by decide +kernel
theorem dX5_readTerm_177 : decode cX5_readTerm 177 = .ok (.goto 5, 3) := by decide +kernel
theorem dX5_readTerm_180 : decode cX5_readTerm 180 = .ok (.aload 4, 2) := by decide +kernel
theorem dX5_readTerm_182 : decode cX5_readTerm 182 = .ok (.areturn, 1) := by decide +kernel
theorem dX6_init_0 : decode cX6_init 0 = .ok (.aload_n 0, 1) := by decide +kernel
theorem dX6_init_1 : decode cX6_init 1 = .ok (.invokespecial 3, 3) := by decide +kernel
theorem dX6_init_4 : decode cX6_init 4 = .ok (.aload_n 0, 1) := by decide +kernel
theorem dX6_init_5 : decode cX6_init 5 = .ok (.iconst (-1), 1) := by decide +kernel
theorem dX6_init_6 : decode cX6_init 6 = .ok (.putfield 9, 3) := by decide +kernel
theorem dX6_init_9 : decode cX6_init 9 = .ok (.aload_n 0, 1) := by decide +kernel
theorem dX6_init_10 : decode cX6_init 10 = .ok (.iconst (-1), 1) := by decide +kernel
theorem dX6_init_11 : decode cX6_init 11 = .ok (.putfield 15, 3) := by decide +kernel
theorem dX6_init_14 : decode cX6_init 14 = .ok (.aload_n 0, 1) := by decide +kernel
theorem dX6_init_15 : decode cX6_init 15 = .ok (.iconst 0, 1) := by decide +kernel
theorem dX6_init_16 : decode cX6_init 16 = .ok (.putfield 18, 3) := by decide +kernel
theorem dX6_init_19 : decode cX6_init 19 = .ok (.aload_n 0, 1) := by decide +kernel
theorem dX6_init_20 : decode cX6_init 20 = .ok (.bipush (-5), 2) := by decide +kernel
theorem dX6_init_22 : decode cX6_init 22 = .ok (.putfield 21, 3) := by decide +kernel
theorem dX6_init_25 : decode cX6_init 25 = .ok (.aload_n 0, 1) := by decide +kernel
theorem dX6_init_26 : decode cX6_init 26 = .ok (.aconst_null, 1) := by decide +kernel
theorem dX6_init_27 : decode cX6_init 27 = .ok (.putfield 24, 3) := by decide +kernel
theorem dX6_init_30 : decode cX6_init 30 = .ok (.aload_n 0, 1) := by decide +kernel
theorem dX6_init_31 : decode cX6_init 31 = .ok (.aconst_null, 1) := by decide +kernel
theorem dX6_init_32 : decode cX6_init 32 = .ok (.putfield 28, 3) := by decide +kernel
theorem dX6_init_35 : decode cX6_init 35 = .ok (.aload_n 0, 1) := by decide +kernel
theorem dX6_init_36 : decode cX6_init 36 = .ok (.aconst_null, 1) := by decide +kernel
theorem dX6_init_37 : decode cX6_init 37 = .ok (.putfield 32, 3) := by decide +kernel
theorem dX6_init_40 : decode cX6_init 40 = .ok (.aload_n 0, 1) := by decide +kernel
theorem dX6_init_41 : decode cX6_init 41 = .ok (.iload_n 1, 1) := by decide +kernel
theorem dX6_init_42 : decode cX6_init 42 = .ok (.putfield 35, 3) := by decide +kernel
theorem dX6_init_45 : decode cX6_init 45 = .ok (.aload_n 0, 1) := by decide +kernel
theorem dX6_init_46 : decode cX6_init 46 = .ok (.iload_n 2, 1) := by decide +kernel
theorem dX6_init_47 : decode cX6_init 47 = .ok (.putfield 38, 3) := by decide +kernel
theorem dX6_init_50 : decode cX6_init 50 = .ok (.return_, 1) := by decide +kernel
theorem dX6_addItem_0 : decode cX6_addItem 0 = .ok (.aload_n 0, 1) := by decide +kernel
theorem dX6_addItem_1 : decode cX6_addItem 1 = .ok (.getfield 32, 3) := by decide +kernel
theorem dX6_addItem_4 : decode cX6_addItem 4 = .ok (.ifnonnull 11, 3) := by decide +kernel
theorem dX6_addItem_7 : decode cX6_addItem 7 = .ok (.aload_n 0, 1) := by decide +kernel
theorem dX6_addItem_8 : decode cX6_addItem 8 = .ok (.aload_n 1, 1) := by decide +kernel
theorem dX6_addItem_9 : decode cX6_addItem 9 = .ok (.putfield 28, 3) := by decide +kernel
theorem dX6_addItem_12 : decode cX6_addItem 12 = .ok (.goto 11, 3) := by decide +kernel
theorem dX6_addItem_15 : decode cX6_addItem 15 = .ok (.aload_n 0, 1) := by decide +kernel
theorem dX6_addItem_16 : decode cX6_addItem 16 = .ok (.getfield 32, 3) := by decide +kernel
theorem dX6_addItem_19 : decode cX6_addItem 19 = .ok (.aload_n 1, 1) := by decide +kernel
theorem dX6_addItem_20 : decode cX6_addItem 20 = .ok (.putfield 41, 3) := by decide +kernel
theorem dX6_addItem_23 : decode cX6_addItem 23 = .ok (.aload_n 0, 1) := by decide +kernel
theorem dX6_addItem_24 : decode cX6_addItem 24 = .ok (.aload_n 1, 1) := by decide +kernel
theorem dX6_addItem_25 : decode cX6_addItem 25 = .ok (.putfield 32, 3) := by decide +kernel
theorem dX6_addItem_28 : decode cX6_addItem 28 = .ok (.aload_n 0, 1) := by decide +kernel
theorem dX6_addItem_29 : decode cX6_addItem 29 = .ok (.dup, 1) := by decide +kernel
theorem dX6_addItem_30 : decode cX6_addItem 30 = .ok (.getfield 18, 3) := by decide +kernel
theorem dX6_addItem_33 : decode cX6_addItem 33 = .ok (.iconst 1, 1) := by decide +kernel
theorem dX6_addItem_34 : decode cX6_addItem 34 = .ok (.iadd, 1) := by decide +kernel
theorem dX6_addItem_35 : decode cX6_addItem 35 = .ok (.putfield 18, 3) := by decide +kernel
theorem dX6_addItem_38 : decode cX6_addItem 38 = .ok (.return_, 1) := by decide +kernel
theorem dX6_itemAt_0 : decode cX6_itemAt 0 = .ok (.iconst 0, 1) := by decide +kernel
theorem dX6_itemAt_1 : decode cX6_itemAt 1 = .ok (.istore_n 2, 1) := by decide +kernel
theorem dX6_itemAt_2 : decode cX6_itemAt 2 = .ok (.aload_n 0, 1) := by decide +kernel
theorem dX6_itemAt_3 : decode cX6_itemAt 3 = .ok (.getfield 28, 3) := by decide +kernel
theorem dX6_itemAt_6 : decode cX6_itemAt 6 = .ok (.astore_n 3, 1) := by decide +kernel
theorem dX6_itemAt_7 : decode cX6_itemAt 7 = .ok (.aload_n 3, 1) := by decide +kernel
theorem dX6_itemAt_8 : decode cX6_itemAt 8 = .ok (.ifnull 21, 3) := by decide +kernel
theorem dX6_itemAt_11 : decode cX6_itemAt 11 = .ok (.iload_n 2, 1) := by decide +kernel
theorem dX6_itemAt_12 : decode cX6_itemAt 12 = .ok (.iload_n 1, 1) := by decide +kernel
theorem dX6_itemAt_13 : decode cX6_itemAt 13 = .ok (.if_icmp .ne 5, 3) := by decide +kernel
theorem dX6_itemAt_16 : decode cX6_itemAt 16 = .ok (.aload_n 3, 1) := by decide +kernel
theorem dX6_itemAt_17 : decode cX6_itemAt 17 = .ok (.areturn, 1) := by decide +kernel
theorem dX6_itemAt_18 : decode cX6_itemAt 18 = .ok (.iinc 2 1, 3) := by decide +kernel
theorem dX6_itemAt_21 : decode cX6_itemAt 21 = .ok (.aload_n 3, 1) := by decide +kernel
theorem dX6_itemAt_22 : decode cX6_itemAt 22 = .ok (.getfield 41, 3) := by decide +kernel
theorem dX6_itemAt_25 : decode cX6_itemAt 25 = .ok (.astore_n 3, 1) := by decide +kernel
theorem dX6_itemAt_26 : decode cX6_itemAt 26 = .ok (.goto (-19), 3) := by decide +kernel
theorem dX6_itemAt_29 : decode cX6_itemAt 29 = .ok (.aconst_null, 1) := by decide +kernel
theorem dX6_itemAt_30 : decode cX6_itemAt 30 = .ok (.areturn, 1) := by decide +kernel
theorem dX6_firstSum_0 : decode cX6_firstSum 0 = .ok (.aload_n 0, 1) := by decide +kernel
theorem dX6_firstSum_1 : decode cX6_firstSum 1 = .ok (.getfield 28, 3) := by decide +kernel
theorem dX6_firstSum_4 : decode cX6_firstSum 4 = .ok (.astore_n 1, 1) := by decide +kernel
theorem dX6_firstSum_5 : decode cX6_firstSum 5 = .ok (.aload_n 1, 1) := by decide +kernel
theorem dX6_firstSum_6 : decode cX6_firstSum 6 = .ok (.ifnull 21, 3) := by decide +kernel
theorem dX6_firstSum_9 : decode cX6_firstSum 9 = .ok (.aload_n 1, 1) := by decide +kernel
theorem dX6_firstSum_10 : decode cX6_firstSum 10 = .ok (.getfield 45, 3) := by decide +kernel
theorem dX6_firstSum_13 : decode cX6_firstSum 13 = .ok (.iconst 2, 1) := by decide +kernel
theorem dX6_firstSum_14 : decode cX6_firstSum 14 = .ok (.if_icmp .ne 5, 3) := by decide +kernel
theorem dX6_firstSum_17 : decode cX6_firstSum 17 = .ok (.aload_n 1, 1) := by decide +kernel
theorem dX6_firstSum_18 : decode cX6_firstSum 18 = .ok (.areturn, 1) := by decide +kernel
theorem dX6_firstSum_19 : decode cX6_firstSum 19 = .ok (.aload_n 1, 1) := by decide +kernel
theorem dX6_firstSum_20 : decode cX6_firstSum 20 = .ok (.getfield 41, 3) := by decide +kernel
theorem dX6_firstSum_23 : decode cX6_firstSum 23 = .ok (.astore_n 1, 1) := by decide +kernel
theorem dX6_firstSum_24 : decode cX6_firstSum 24 = .ok (.goto (-19), 3) := by decide +kernel
theorem dX6_firstSum_27 : decode cX6_firstSum 27 = .ok (.aconst_null, 1) := by decide +kernel
theorem dX6_firstSum_28 : decode cX6_firstSum 28 = .ok (.areturn, 1) := by decide +kernel
theorem dX6_hasTest_0 : decode cX6_hasTest 0 = .ok (.aload_n 0, 1) := by decide +kernel
theorem dX6_hasTest_1 : decode cX6_hasTest 1 = .ok (.getfield 28, 3) := by decide +kernel
theorem dX6_hasTest_4 : decode cX6_hasTest 4 = .ok (.astore_n 1, 1) := by decide +kernel
theorem dX6_hasTest_5 : decode cX6_hasTest 5 = .ok (.aload_n 1, 1) := by decide +kernel
theorem dX6_hasTest_6 : decode cX6_hasTest 6 = .ok (.ifnull 20, 3) := by decide +kernel
theorem dX6_hasTest_9 : decode cX6_hasTest 9 = .ok (.aload_n 1, 1) := by decide +kernel
theorem dX6_hasTest_10 : decode cX6_hasTest 10 = .ok (.getfield 45, 3) := by decide +kernel
theorem dX6_hasTest_13 : decode cX6_hasTest 13 = .ok (.ifCond .ne 5, 3) := by decide +kernel
theorem dX6_hasTest_16 : decode cX6_hasTest 16 = .ok (.iconst 1, 1) := by decide +kernel
theorem dX6_hasTest_17 : decode cX6_hasTest 17 = .ok (.ireturn, 1) := by decide +kernel
theorem dX6_hasTest_18 : decode cX6_hasTest 18 = .ok (.aload_n 1, 1) := by decide +kernel
theorem dX6_hasTest_19 : decode cX6_hasTest 19 = .ok (.getfield 41, 3) := by decide +kernel
theorem dX6_hasTest_22 : decode cX6_hasTest 22 = .ok (.astore_n 1, 1) := by decide +kernel
theorem dX6_hasTest_23 : decode cX6_hasTest 23 = .ok (.goto (-18), 3) := by decide +kernel
theorem dX6_hasTest_26 : decode cX6_hasTest 26 = .ok (.iconst 0, 1) := by decide +kernel
theorem dX6_hasTest_27 : decode cX6_hasTest 27 = .ok (.ireturn, 1) := by decide +kernel
set_option maxRecDepth 20000 in
theorem ggX6_hasAllResults_X2_resultOf : GoodIn wsX6_hasAllResults wsX2_resultOf := goodIn_r _ [9, 10, 27, 28, 29, 30, 31] (by decide +kernel) (by decide +kernel)
set_option maxRecDepth 20000 in
theorem gX6_hasAllResults_X2_resultOf : GoodIn wsX6_hasAllResults (wsV RX6 51 RX2 yX2_resultOf wsX2_resultOf) := goodIn_app (goodIn_of _ (by decide +kernel)) ggX6_hasAllResults_X2_resultOf
theorem dX6_hasAllResults_0 : decode cX6_hasAllResults 0 = .ok (.aload_n 0, 1) := by decide +kernel
theorem dX6_hasAllResults_1 : decode cX6_hasAllResults 1 = .ok (.getfield 28, 3) := by decide +kernel
theorem dX6_hasAllResults_4 : decode cX6_hasAllResults 4 = .ok (.astore_n 2, 1) := by decide +kernel
theorem dX6_hasAllResults_5 : decode cX6_hasAllResults 5 = .ok (.aload_n 2, 1) := by decide +kernel
theorem dX6_hasAllResults_6 : decode cX6_hasAllResults 6 = .ok (.ifnull 32, 3) := by decide +kernel
theorem dX6_hasAllResults_9 : decode cX6_hasAllResults 9 = .ok (.aload_n 2, 1) := by decide +kernel
theorem dX6_hasAllResults_10 : decode cX6_hasAllResults 10 = .ok (.getfield 45, 3) := by decide +kernel
theorem dX6_hasAllResults_13 : decode cX6_hasAllResults 13 = .ok (.ifCond .ne 17, 3) := by decide +kernel
theorem dX6_hasAllResults_16 : decode cX6_hasAllResults 16 = .ok (.aload_n 1, 1) := by decide +kernel
theorem dX6_hasAllResults_17 : decode cX6_hasAllResults 17 = .ok (.aload_n 2, 1) := by decide +kernel
theorem dX6_hasAllResults_18 : decode cX6_hasAllResults 18 = .ok (.getfield 48, 3) := by decide +kernel
theorem dX6_hasAllResults_21 : decode cX6_hasAllResults 21 = .ok (.invokevirtual 51, 3) := by decide +kernel
theorem dX6_hasAllResults_24 : decode cX6_hasAllResults 24 = .ok (.iconst (-1), 1) := by decide +kernel
theorem dX6_hasAllResults_25 : decode cX6_hasAllResults 25 = .ok (.if_icmp .ne 5, 3) := by decide +kernel
theorem dX6_hasAllResults_28 : decode cX6_hasAllResults 28 = .ok (.iconst 0, 1) := by decide +kernel
theorem dX6_hasAllResults_29 : decode cX6_hasAllResults 29 = .ok (.ireturn, 1) := by decide +kernel
theorem dX6_hasAllResults_30 : decode cX6_hasAllResults 30 = .ok (.aload_n 2, 1) := by decide +kernel
theorem dX6_hasAllResults_31 : decode cX6_hasAllResults 31 = .ok (.getfield 41, 3) := by decide +kernel
theorem dX6_hasAllResults_34 : decode cX6_hasAllResults 34 = .ok (.astore_n 2, 1) := by decide +kernel
theorem dX6_hasAllResults_35 : decode cX6_hasAllResults 35 = .ok (.goto (-30), 3) := by decide +kernel
theorem dX6_hasAllResults_38 : decode cX6_hasAllResults 38 = .ok (.iconst 1, 1) := by decide +kernel
theorem dX6_hasAllResults_39 : decode cX6_hasAllResults 39 = .ok (.ireturn, 1) := by decide +kernel
theorem dX6_leastOver_0 : decode cX6_leastOver 0 = .ok (.iconst (-1), 1) := by decide +kernel
theorem dX6_leastOver_1 : decode cX6_leastOver 1 = .ok (.istore_n 1, 1) := by decide +kernel
theorem dX6_leastOver_2 : decode cX6_leastOver 2 = .ok (.aload_n 0, 1) := by decide +kernel
theorem dX6_leastOver_3 : decode cX6_leastOver 3 = .ok (.getfield 28, 3) := by decide +kernel
theorem dX6_leastOver_6 : decode cX6_leastOver 6 = .ok (.astore_n 2, 1) := by decide +kernel
theorem dX6_leastOver_7 : decode cX6_leastOver 7 = .ok (.aload_n 2, 1) := by decide +kernel
theorem dX6_leastOver_8 : decode cX6_leastOver 8 = .ok (.ifnull 44, 3) := by decide +kernel
theorem dX6_leastOver_11 : decode cX6_leastOver 11 = .ok (.aload_n 2, 1) := by decide +kernel
theorem dX6_leastOver_12 : decode cX6_leastOver 12 = .ok (.getfield 45, 3) := by decide +kernel
theorem dX6_leastOver_15 : decode cX6_leastOver 15 = .ok (.iconst 2, 1) := by decide +kernel
theorem dX6_leastOver_16 : decode cX6_leastOver 16 = .ok (.if_icmp .ne 28, 3) := by decide +kernel
theorem dX6_leastOver_19 : decode cX6_leastOver 19 = .ok (.aload_n 2, 1) := by decide +kernel
theorem dX6_leastOver_20 : decode cX6_leastOver 20 = .ok (.getfield 57, 3) := by decide +kernel
theorem dX6_leastOver_23 : decode cX6_leastOver 23 = .ok (.ifCond .ne 21, 3) := by decide +kernel
theorem dX6_leastOver_26 : decode cX6_leastOver 26 = .ok (.iload_n 1, 1) := by decide +kernel
theorem dX6_leastOver_27 : decode cX6_leastOver 27 = .ok (.iconst (-1), 1) := by decide +kernel
theorem dX6_leastOver_28 : decode cX6_leastOver 28 = .ok (.if_icmp .eq 11, 3) := by decide +kernel
theorem dX6_leastOver_31 : decode cX6_leastOver 31 = .ok (.aload_n 2, 1) := by decide +kernel
theorem dX6_leastOver_32 : decode cX6_leastOver 32 = .ok (.getfield 61, 3) := by decide +kernel
theorem dX6_leastOver_35 : decode cX6_leastOver 35 = .ok (.iload_n 1, 1) := by decide +kernel
theorem dX6_leastOver_36 : decode cX6_leastOver 36 = .ok (.if_icmp .ge 8, 3) := by decide +kernel
theorem dX6_leastOver_39 : decode cX6_leastOver 39 = .ok (.aload_n 2, 1) := by decide +kernel
theorem dX6_leastOver_40 : decode cX6_leastOver 40 = .ok (.getfield 61, 3) := by decide +kernel
theorem dX6_leastOver_43 : decode cX6_leastOver 43 = .ok (.istore_n 1, 1) := by decide +kernel
theorem dX6_leastOver_44 : decode cX6_leastOver 44 = .ok (.aload_n 2, 1) := by decide +kernel
theorem dX6_leastOver_45 : decode cX6_leastOver 45 = .ok (.getfield 41, 3) := by decide +kernel
theorem dX6_leastOver_48 : decode cX6_leastOver 48 = .ok (.astore_n 2, 1) := by decide +kernel
theorem dX6_leastOver_49 : decode cX6_leastOver 49 = .ok (.goto (-42), 3) := by decide +kernel
theorem dX6_leastOver_52 : decode cX6_leastOver 52 = .ok (.iload_n 1, 1) := by decide +kernel
theorem dX6_leastOver_53 : decode cX6_leastOver 53 = .ok (.ireturn, 1) := by decide +kernel
theorem dX7_init_0 : decode cX7_init 0 = .ok (.aload_n 0, 1) := by decide +kernel
theorem dX7_init_1 : decode cX7_init 1 = .ok (.invokespecial 1, 3) := by decide +kernel
theorem dX7_init_4 : decode cX7_init 4 = .ok (.aload_n 0, 1) := by decide +kernel
theorem dX7_init_5 : decode cX7_init 5 = .ok (.iconst 0, 1) := by decide +kernel
theorem dX7_init_6 : decode cX7_init 6 = .ok (.putfield 7, 3) := by decide +kernel
theorem dX7_init_9 : decode cX7_init 9 = .ok (.aload_n 0, 1) := by decide +kernel
theorem dX7_init_10 : decode cX7_init 10 = .ok (.iconst 1, 1) := by decide +kernel
theorem dX7_init_11 : decode cX7_init 11 = .ok (.putfield 13, 3) := by decide +kernel
theorem dX7_init_14 : decode cX7_init 14 = .ok (.aload_n 0, 1) := by decide +kernel
theorem dX7_init_15 : decode cX7_init 15 = .ok (.aconst_null, 1) := by decide +kernel
theorem dX7_init_16 : decode cX7_init 16 = .ok (.putfield 16, 3) := by decide +kernel
theorem dX7_init_19 : decode cX7_init 19 = .ok (.aload_n 0, 1) := by decide +kernel
theorem dX7_init_20 : decode cX7_init 20 = .ok (.iload_n 1, 1) := by decide +kernel
theorem dX7_init_21 : decode cX7_init 21 = .ok (.putfield 20, 3) := by decide +kernel
theorem dX7_init_24 : decode cX7_init 24 = .ok (.aload_n 0, 1) := by decide +kernel
theorem dX7_init_25 : decode cX7_init 25 = .ok (.iload_n 2, 1) := by decide +kernel
theorem dX7_init_26 : decode cX7_init 26 = .ok (.putfield 24, 3) := by decide +kernel
theorem dX7_init_29 : decode cX7_init 29 = .ok (.aload_n 0, 1) := by decide +kernel
theorem dX7_init_30 : decode cX7_init 30 = .ok (.iload_n 3, 1) := by decide +kernel
theorem dX7_init_31 : decode cX7_init 31 = .ok (.putfield 27, 3) := by decide +kernel
theorem dX7_init_34 : decode cX7_init 34 = .ok (.return_, 1) := by decide +kernel
theorem dX8_init_0 : decode cX8_init 0 = .ok (.aload_n 0, 1) := by decide +kernel
theorem dX8_init_1 : decode cX8_init 1 = .ok (.invokespecial 3, 3) := by decide +kernel
theorem dX8_init_4 : decode cX8_init 4 = .ok (.aload_n 0, 1) := by decide +kernel
theorem dX8_init_5 : decode cX8_init 5 = .ok (.sipush 1500, 3) := by decide +kernel
theorem dX8_init_8 : decode cX8_init 8 = .ok (.newarray .int, 2) := by decide +kernel
theorem dX8_init_10 : decode cX8_init 10 = .ok (.putfield 9, 3) := by decide +kernel
theorem dX8_init_13 : decode cX8_init 13 = .ok (.aload_n 0, 1) := by decide +kernel
theorem dX8_init_14 : decode cX8_init 14 = .ok (.iconst 0, 1) := by decide +kernel
theorem dX8_init_15 : decode cX8_init 15 = .ok (.putfield 15, 3) := by decide +kernel
theorem dX8_init_18 : decode cX8_init 18 = .ok (.aload_n 0, 1) := by decide +kernel
theorem dX8_init_19 : decode cX8_init 19 = .ok (.iconst 0, 1) := by decide +kernel
theorem dX8_init_20 : decode cX8_init 20 = .ok (.putfield 19, 3) := by decide +kernel
theorem dX8_init_23 : decode cX8_init 23 = .ok (.return_, 1) := by decide +kernel
set_option maxRecDepth 20000 in
theorem ggX8_split_X9_isGap : GoodIn wsX8_split wsX9_isGap := goodIn_r _ [10] (by decide +kernel) (by decide +kernel)
set_option maxRecDepth 20000 in
theorem gX8_split_X9_isGap_n28 : GoodIn wsX8_split (wsX9_isGap) := ggX8_split_X9_isGap
set_option maxRecDepth 20000 in
theorem ggX8_split_X8_codeOf : GoodIn wsX8_split wsX8_codeOf := goodIn_r _ [14, 15, 16, 17, 18, 13, 19, 20, 21, 22, 23, 24, 25, 26, 27, 28, 29, 30, 31, 32, 33, 34, 35, 36, 37, 38, 39, 40, 41, 42, 43, 44, 45, 46, 47, 48, 49, 50, 51, 52, 53, 54, 55, 56, 57, 58, 59, 60, 61, 62, 63, 64, 65, 66, 67, 68, 69, 70, 71] (by decide +kernel) (by decide +kernel)
set_option maxRecDepth 20000 in
theorem gX8_split_X8_codeOf : GoodIn wsX8_split (va_wsS RX8 32 yX8_codeOf wsX8_codeOf) := goodIn_app (goodIn_of _ (by decide +kernel)) ggX8_split_X8_codeOf
theorem dX8_split_0 : decode cX8_split 0 = .ok (.iload_n 2, 1) := by decide +kernel
theorem dX8_split_1 : decode cX8_split 1 = .ok (.aload_n 1, 1) := by decide +kernel
theorem dX8_split_2 : decode cX8_split 2 = .ok (.arraylength, 1) := by decide +kernel
theorem dX8_split_3 : decode cX8_split 3 = .ok (.invokestatic 22, 3) := by decide +kernel
theorem dX8_split_6 : decode cX8_split 6 = .ok (.istore_n 3, 1) := by decide +kernel
theorem dX8_split_7 : decode cX8_split 7 = .ok (.aload_n 0, 1) := by decide +kernel
theorem dX8_split_8 : decode cX8_split 8 = .ok (.iconst 0, 1) := by decide +kernel
theorem dX8_split_9 : decode cX8_split 9 = .ok (.putfield 15, 3) := by decide +kernel
theorem dX8_split_12 : decode cX8_split 12 = .ok (.aload_n 0, 1) := by decide +kernel
theorem dX8_split_13 : decode cX8_split 13 = .ok (.iconst 0, 1) := by decide +kernel
theorem dX8_split_14 : decode cX8_split 14 = .ok (.putfield 19, 3) := by decide +kernel
theorem dX8_split_17 : decode cX8_split 17 = .ok (.iconst 0, 1) := by decide +kernel
theorem dX8_split_18 : decode cX8_split 18 = .ok (.istore 4, 2) := by decide +kernel
theorem dX8_split_20 : decode cX8_split 20 = .ok (.iconst 0, 1) := by decide +kernel
theorem dX8_split_21 : decode cX8_split 21 = .ok (.istore 5, 2) := by decide +kernel
theorem dX8_split_23 : decode cX8_split 23 = .ok (.iload 5, 2) := by decide +kernel
theorem dX8_split_25 : decode cX8_split 25 = .ok (.iload_n 3, 1) := by decide +kernel
theorem dX8_split_26 : decode cX8_split 26 = .ok (.if_icmp .gt 77, 3) := by decide +kernel
theorem dX8_split_29 : decode cX8_split 29 = .ok (.iload 5, 2) := by decide +kernel
theorem dX8_split_31 : decode cX8_split 31 = .ok (.iload_n 3, 1) := by decide +kernel
theorem dX8_split_32 : decode cX8_split 32 = .ok (.if_icmp .eq 13, 3) := by decide +kernel
theorem dX8_split_35 : decode cX8_split 35 = .ok (.aload_n 1, 1) := by decide +kernel
theorem dX8_split_36 : decode cX8_split 36 = .ok (.iload 5, 2) := by decide +kernel
theorem dX8_split_38 : decode cX8_split 38 = .ok (.baload, 1) := by decide +kernel
theorem dX8_split_39 : decode cX8_split 39 = .ok (.invokestatic 28, 3) := by decide +kernel
theorem dX8_split_42 : decode cX8_split 42 = .ok (.ifCond .eq 55, 3) := by decide +kernel
theorem dX8_split_45 : decode cX8_split 45 = .ok (.iload 5, 2) := by decide +kernel
theorem dX8_split_47 : decode cX8_split 47 = .ok (.iload 4, 2) := by decide +kernel
theorem dX8_split_49 : decode cX8_split 49 = .ok (.if_icmp .le 42, 3) := by decide +kernel
theorem dX8_split_52 : decode cX8_split 52 = .ok (.aload_n 0, 1) := by decide +kernel
theorem dX8_split_53 : decode cX8_split 53 = .ok (.getfield 15, 3) := by decide +kernel
theorem dX8_split_56 : decode cX8_split 56 = .ok (.aload_n 0, 1) := by decide +kernel
theorem dX8_split_57 : decode cX8_split 57 = .ok (.getfield 9, 3) := by decide +kernel
theorem dX8_split_60 : decode cX8_split 60 = .ok (.arraylength, 1) := by decide +kernel
theorem dX8_split_61 : decode cX8_split 61 = .ok (.if_icmp .ge 30, 3) := by decide +kernel
theorem dX8_split_64 : decode cX8_split 64 = .ok (.aload_n 0, 1) := by decide +kernel
theorem dX8_split_65 : decode cX8_split 65 = .ok (.getfield 9, 3) := by decide +kernel
theorem dX8_split_68 : decode cX8_split 68 = .ok (.aload_n 0, 1) := by decide +kernel
theorem dX8_split_69 : decode cX8_split 69 = .ok (.getfield 15, 3) := by decide +kernel
theorem dX8_split_72 : decode cX8_split 72 = .ok (.aload_n 1, 1) := by decide +kernel
theorem dX8_split_73 : decode cX8_split 73 = .ok (.iload 4, 2) := by decide +kernel
theorem dX8_split_75 : decode cX8_split 75 = .ok (.iload 5, 2) := by decide +kernel
theorem dX8_split_77 : decode cX8_split 77 = .ok (.invokestatic 32, 3) := by decide +kernel
theorem dX8_split_80 : decode cX8_split 80 = .ok (.iastore, 1) := by decide +kernel
theorem dX8_split_81 : decode cX8_split 81 = .ok (.aload_n 0, 1) := by decide +kernel
theorem dX8_split_82 : decode cX8_split 82 = .ok (.dup, 1) := by decide +kernel
theorem dX8_split_83 : decode cX8_split 83 = .ok (.getfield 15, 3) := by decide +kernel
theorem dX8_split_86 : decode cX8_split 86 = .ok (.iconst 1, 1) := by decide +kernel
theorem dX8_split_87 : decode cX8_split 87 = .ok (.iadd, 1) := by decide +kernel
theorem dX8_split_88 : decode cX8_split 88 = .ok (.putfield 15, 3) := by decide +kernel
theorem dX8_split_91 : decode cX8_split 91 = .ok (.iload 5, 2) := by decide +kernel
theorem dX8_split_93 : decode cX8_split 93 = .ok (.iconst 1, 1) := by decide +kernel
theorem dX8_split_94 : decode cX8_split 94 = .ok (.iadd, 1) := by decide +kernel
theorem dX8_split_95 : decode cX8_split 95 = .ok (.istore 4, 2) := by decide +kernel
theorem dX8_split_97 : decode cX8_split 97 = .ok (.iinc 5 1, 3) := by decide +kernel
theorem dX8_split_100 : decode cX8_split 100 = .ok (.goto (-77), 3) := by decide +kernel
theorem dX8_split_103 : decode cX8_split 103 = .ok (.return_, 1) := by decide +kernel
theorem dX8_ended_0 : decode cX8_ended 0 = .ok (.aload_n 0, 1) := by decide +kernel
theorem dX8_ended_1 : decode cX8_ended 1 = .ok (.getfield 19, 3) := by decide +kernel
theorem dX8_ended_4 : decode cX8_ended 4 = .ok (.aload_n 0, 1) := by decide +kernel
theorem dX8_ended_5 : decode cX8_ended 5 = .ok (.getfield 15, 3) := by decide +kernel
theorem dX8_ended_8 : decode cX8_ended 8 = .ok (.if_icmp .lt 7, 3) := by decide +kernel
theorem dX8_ended_11 : decode cX8_ended 11 = .ok (.iconst 1, 1) := by decide +kernel
theorem dX8_ended_12 : decode cX8_ended 12 = .ok (.goto 4, 3) := by decide +kernel
theorem dX8_ended_15 : decode cX8_ended 15 = .ok (.iconst 0, 1) := by decide +kernel
theorem dX8_ended_16 : decode cX8_ended 16 = .ok (.ireturn, 1) := by decide +kernel
theorem dX8_take_0 : decode cX8_take 0 = .ok (.aload_n 0, 1) := by decide +kernel
theorem dX8_take_1 : decode cX8_take 1 = .ok (.getfield 19, 3) := by decide +kernel
theorem dX8_take_4 : decode cX8_take 4 = .ok (.ifCond .lt 42, 3) := by decide +kernel
theorem dX8_take_7 : decode cX8_take 7 = .ok (.aload_n 0, 1) := by decide +kernel
theorem dX8_take_8 : decode cX8_take 8 = .ok (.getfield 19, 3) := by decide +kernel
theorem dX8_take_11 : decode cX8_take 11 = .ok (.aload_n 0, 1) := by decide +kernel
theorem dX8_take_12 : decode cX8_take 12 = .ok (.getfield 15, 3) := by decide +kernel
theorem dX8_take_15 : decode cX8_take 15 = .ok (.if_icmp .ge 31, 3) := by decide +kernel
theorem dX8_take_18 : decode cX8_take 18 = .ok (.aload_n 0, 1) := by decide +kernel
theorem dX8_take_19 : decode cX8_take 19 = .ok (.getfield 19, 3) := by decide +kernel
theorem dX8_take_22 : decode cX8_take 22 = .ok (.aload_n 0, 1) := by decide +kernel
theorem dX8_take_23 : decode cX8_take 23 = .ok (.getfield 9, 3) := by decide +kernel
theorem dX8_take_26 : decode cX8_take 26 = .ok (.arraylength, 1) := by decide +kernel
theorem dX8_take_27 : decode cX8_take 27 = .ok (.if_icmp .ge 19, 3) := by decide +kernel
theorem dX8_take_30 : decode cX8_take 30 = .ok (.aload_n 0, 1) := by decide +kernel
theorem dX8_take_31 : decode cX8_take 31 = .ok (.getfield 9, 3) := by decide +kernel
theorem dX8_take_34 : decode cX8_take 34 = .ok (.aload_n 0, 1) := by decide +kernel
theorem dX8_take_35 : decode cX8_take 35 = .ok (.getfield 19, 3) := by decide +kernel
theorem dX8_take_38 : decode cX8_take 38 = .ok (.iaload, 1) := by decide +kernel
theorem dX8_take_39 : decode cX8_take 39 = .ok (.aload_n 1, 1) := by decide +kernel
theorem dX8_take_40 : decode cX8_take 40 = .ok (.getfield 36, 3) := by decide +kernel
theorem dX8_take_43 : decode cX8_take 43 = .ok (.if_icmp .eq 5, 3) := by decide +kernel
theorem dX8_take_46 : decode cX8_take 46 = .ok (.iconst 0, 1) := by decide +kernel
theorem dX8_take_47 : decode cX8_take 47 = .ok (.ireturn, 1) := by decide +kernel
theorem dX8_take_48 : decode cX8_take 48 = .ok (.aload_n 0, 1) := by decide +kernel
theorem dX8_take_49 : decode cX8_take 49 = .ok (.dup, 1) := by decide +kernel
theorem dX8_take_50 : decode cX8_take 50 = .ok (.getfield 19, 3) := by decide +kernel
theorem dX8_take_53 : decode cX8_take 53 = .ok (.iconst 1, 1) := by decide +kernel
theorem dX8_take_54 : decode cX8_take 54 = .ok (.iadd, 1) := by decide +kernel
theorem dX8_take_55 : decode cX8_take 55 = .ok (.putfield 19, 3) := by decide +kernel
theorem dX8_take_58 : decode cX8_take 58 = .ok (.iconst 1, 1) := by decide +kernel
theorem dX8_take_59 : decode cX8_take 59 = .ok (.ireturn, 1) := by decide +kernel
theorem dX8_takeNumber_0 : decode cX8_takeNumber 0 = .ok (.aload_n 0, 1) := by decide +kernel
theorem dX8_takeNumber_1 : decode cX8_takeNumber 1 = .ok (.getfield 19, 3) := by decide +kernel
theorem dX8_takeNumber_4 : decode cX8_takeNumber 4 = .ok (.ifCond .lt 26, 3) := by decide +kernel
theorem dX8_takeNumber_7 : decode cX8_takeNumber 7 = .ok (.aload_n 0, 1) := by decide +kernel
theorem dX8_takeNumber_8 : decode cX8_takeNumber 8 = .ok (.getfield 19, 3) := by decide +kernel
theorem dX8_takeNumber_11 : decode cX8_takeNumber 11 = .ok (.aload_n 0, 1) := by decide +kernel
theorem dX8_takeNumber_12 : decode cX8_takeNumber 12 = .ok (.getfield 15, 3) := by decide +kernel
theorem dX8_takeNumber_15 : decode cX8_takeNumber 15 = .ok (.if_icmp .ge 15, 3) := by decide +kernel
theorem dX8_takeNumber_18 : decode cX8_takeNumber 18 = .ok (.aload_n 0, 1) := by decide +kernel
theorem dX8_takeNumber_19 : decode cX8_takeNumber 19 = .ok (.getfield 19, 3) := by decide +kernel
theorem dX8_takeNumber_22 : decode cX8_takeNumber 22 = .ok (.aload_n 0, 1) := by decide +kernel
theorem dX8_takeNumber_23 : decode cX8_takeNumber 23 = .ok (.getfield 9, 3) := by decide +kernel
theorem dX8_takeNumber_26 : decode cX8_takeNumber 26 = .ok (.arraylength, 1) := by decide +kernel
theorem dX8_takeNumber_27 : decode cX8_takeNumber 27 = .ok (.if_icmp .lt 5, 3) := by decide +kernel
theorem dX8_takeNumber_30 : decode cX8_takeNumber 30 = .ok (.iconst (-1), 1) := by decide +kernel
theorem dX8_takeNumber_31 : decode cX8_takeNumber 31 = .ok (.ireturn, 1) := by decide +kernel
theorem dX8_takeNumber_32 : decode cX8_takeNumber 32 = .ok (.aload_n 0, 1) := by decide +kernel
theorem dX8_takeNumber_33 : decode cX8_takeNumber 33 = .ok (.getfield 9, 3) := by decide +kernel
theorem dX8_takeNumber_36 : decode cX8_takeNumber 36 = .ok (.aload_n 0, 1) := by decide +kernel
theorem dX8_takeNumber_37 : decode cX8_takeNumber 37 = .ok (.getfield 19, 3) := by decide +kernel
theorem dX8_takeNumber_40 : decode cX8_takeNumber 40 = .ok (.iaload, 1) := by decide +kernel
theorem dX8_takeNumber_41 : decode cX8_takeNumber 41 = .ok (.istore_n 3, 1) := by decide +kernel
theorem dX8_takeNumber_42 : decode cX8_takeNumber 42 = .ok (.iload_n 3, 1) := by decide +kernel
theorem dX8_takeNumber_43 : decode cX8_takeNumber 43 = .ok (.iload_n 1, 1) := by decide +kernel
theorem dX8_takeNumber_44 : decode cX8_takeNumber 44 = .ok (.if_icmp .lt 8, 3) := by decide +kernel
theorem dX8_takeNumber_47 : decode cX8_takeNumber 47 = .ok (.iload_n 3, 1) := by decide +kernel
theorem dX8_takeNumber_48 : decode cX8_takeNumber 48 = .ok (.iload_n 2, 1) := by decide +kernel
theorem dX8_takeNumber_49 : decode cX8_takeNumber 49 = .ok (.if_icmp .le 5, 3) := by decide +kernel
theorem dX8_takeNumber_52 : decode cX8_takeNumber 52 = .ok (.iconst (-1), 1) := by decide +kernel
theorem dX8_takeNumber_53 : decode cX8_takeNumber 53 = .ok (.ireturn, 1) := by decide +kernel
theorem dX8_takeNumber_54 : decode cX8_takeNumber 54 = .ok (.aload_n 0, 1) := by decide +kernel
theorem dX8_takeNumber_55 : decode cX8_takeNumber 55 = .ok (.dup, 1) := by decide +kernel
theorem dX8_takeNumber_56 : decode cX8_takeNumber 56 = .ok (.getfield 19, 3) := by decide +kernel
theorem dX8_takeNumber_59 : decode cX8_takeNumber 59 = .ok (.iconst 1, 1) := by decide +kernel
theorem dX8_takeNumber_60 : decode cX8_takeNumber 60 = .ok (.iadd, 1) := by decide +kernel
theorem dX8_takeNumber_61 : decode cX8_takeNumber 61 = .ok (.putfield 19, 3) := by decide +kernel
theorem dX8_takeNumber_64 : decode cX8_takeNumber 64 = .ok (.iload_n 3, 1) := by decide +kernel
theorem dX8_takeNumber_65 : decode cX8_takeNumber 65 = .ok (.ireturn, 1) := by decide +kernel
set_option maxRecDepth 20000 in
theorem ggX8_codeOf_X8_numberOf : GoodIn wsX8_codeOf wsX8_numberOf := goodIn_r _ [6] (by decide +kernel) (by decide +kernel)
set_option maxRecDepth 20000 in
theorem gX8_codeOf_X8_numberOf : GoodIn wsX8_codeOf (va_wsS RX8 41 yX8_numberOf wsX8_numberOf) := goodIn_app (goodIn_of _ (by decide +kernel)) ggX8_codeOf_X8_numberOf
set_option maxRecDepth 20000 in
theorem ggX8_codeOf_X8_spells : GoodIn wsX8_codeOf wsX8_spells := goodIn_r _ [9, 10, 11, 12, 13, 14, 15, 16, 17, 18, 19, 20, 21, 22, 23, 24, 25, 26, 27, 28, 29, 30, 31, 32, 33, 34, 35, 36, 37, 38, 39, 40, 41, 42, 43, 44, 45, 46, 47, 48, 49, 50, 51, 52, 53, 54, 55, 56, 57, 58] (by decide +kernel) (by decide +kernel)
set_option maxRecDepth 20000 in
theorem gX8_codeOf_X8_spells : GoodIn wsX8_codeOf (va_wsS RX8 52 yX8_spells wsX8_spells) := goodIn_app (goodIn_of _ (by decide +kernel)) ggX8_codeOf_X8_spells
theorem dX8_codeOf_0 : decode cX8_codeOf 0 = .ok (.aload_n 0, 1) := by decide +kernel
theorem dX8_codeOf_1 : decode cX8_codeOf 1 = .ok (.iload_n 1, 1) := by decide +kernel
theorem dX8_codeOf_2 : decode cX8_codeOf 2 = .ok (.iload_n 2, 1) := by decide +kernel
theorem dX8_codeOf_3 : decode cX8_codeOf 3 = .ok (.invokestatic 41, 3) := by decide +kernel
theorem dX8_codeOf_6 : decode cX8_codeOf 6 = .ok (.istore_n 3, 1) := by decide +kernel
theorem dX8_codeOf_7 : decode cX8_codeOf 7 = .ok (.iload_n 3, 1) := by decide +kernel
theorem dX8_codeOf_8 : decode cX8_codeOf 8 = .ok (.iconst (-1), 1) := by decide +kernel
theorem dX8_codeOf_9 : decode cX8_codeOf 9 = .ok (.if_icmp .eq 5, 3) := by decide +kernel
theorem dX8_codeOf_12 : decode cX8_codeOf 12 = .ok (.iload_n 3, 1) := by decide +kernel
theorem dX8_codeOf_13 : decode cX8_codeOf 13 = .ok (.ireturn, 1) := by decide +kernel
theorem dX8_codeOf_14 : decode cX8_codeOf 14 = .ok (.getstatic 44, 3) := by decide +kernel
theorem dX8_codeOf_17 : decode cX8_codeOf 17 = .ok (.astore 4, 2) := by decide +kernel
theorem dX8_codeOf_19 : decode cX8_codeOf 19 = .ok (.aload 4, 2) := by decide +kernel
theorem dX8_codeOf_21 : decode cX8_codeOf 21 = .ok (.arraylength, 1) := by decide +kernel
theorem dX8_codeOf_22 : decode cX8_codeOf 22 = .ok (.istore 5, 2) := by decide +kernel
theorem dX8_codeOf_24 : decode cX8_codeOf 24 = .ok (.iconst 0, 1) := by decide +kernel
theorem dX8_codeOf_25 : decode cX8_codeOf 25 = .ok (.istore 6, 2) := by decide +kernel
theorem dX8_codeOf_27 : decode cX8_codeOf 27 = .ok (.iload 6, 2) := by decide +kernel
theorem dX8_codeOf_29 : decode cX8_codeOf 29 = .ok (.iload 5, 2) := by decide +kernel
theorem dX8_codeOf_31 : decode cX8_codeOf 31 = .ok (.if_icmp .ge 36, 3) := by decide +kernel
theorem dX8_codeOf_34 : decode cX8_codeOf 34 = .ok (.aload 4, 2) := by decide +kernel
theorem dX8_codeOf_36 : decode cX8_codeOf 36 = .ok (.iload 6, 2) := by decide +kernel
theorem dX8_codeOf_38 : decode cX8_codeOf 38 = .ok (.aaload, 1) := by decide +kernel
theorem dX8_codeOf_39 : decode cX8_codeOf 39 = .ok (.astore 7, 2) := by decide +kernel
theorem dX8_codeOf_41 : decode cX8_codeOf 41 = .ok (.aload 7, 2) := by decide +kernel
theorem dX8_codeOf_43 : decode cX8_codeOf 43 = .ok (.getfield 48, 3) := by decide +kernel
theorem dX8_codeOf_46 : decode cX8_codeOf 46 = .ok (.aload_n 0, 1) := by decide +kernel
theorem dX8_codeOf_47 : decode cX8_codeOf 47 = .ok (.iload_n 1, 1) := by decide +kernel
theorem dX8_codeOf_48 : decode cX8_codeOf 48 = .ok (.iload_n 2, 1) := by decide +kernel
theorem dX8_codeOf_49 : decode cX8_codeOf 49 = .ok (.invokestatic 52, 3) := by decide +kernel
theorem dX8_codeOf_52 : decode cX8_codeOf 52 = .ok (.ifCond .eq 9, 3) := by decide +kernel
theorem dX8_codeOf_55 : decode cX8_codeOf 55 = .ok (.aload 7, 2) := by decide +kernel
theorem dX8_codeOf_57 : decode cX8_codeOf 57 = .ok (.getfield 36, 3) := by decide +kernel
theorem dX8_codeOf_60 : decode cX8_codeOf 60 = .ok (.ireturn, 1) := by decide +kernel
theorem dX8_codeOf_61 : decode cX8_codeOf 61 = .ok (.iinc 6 1, 3) := by decide +kernel
theorem dX8_codeOf_64 : decode cX8_codeOf 64 = .ok (.goto (-37), 3) := by decide +kernel
theorem dX8_codeOf_67 : decode cX8_codeOf 67 = .ok (.iconst (-1), 1) := by decide +kernel
theorem dX8_codeOf_68 : decode cX8_codeOf 68 = .ok (.ireturn, 1) := by decide +kernel
theorem dX8_numberOf_0 : decode cX8_numberOf 0 = .ok (.iload_n 1, 1) := by decide +kernel
theorem dX8_numberOf_1 : decode cX8_numberOf 1 = .ok (.ifCond .lt 22, 3) := by decide +kernel
theorem dX8_numberOf_4 : decode cX8_numberOf 4 = .ok (.iload_n 2, 1) := by decide +kernel
theorem dX8_numberOf_5 : decode cX8_numberOf 5 = .ok (.aload_n 0, 1) := by decide +kernel
theorem dX8_numberOf_6 : decode cX8_numberOf 6 = .ok (.arraylength, 1) := by decide +kernel
theorem dX8_numberOf_7 : decode cX8_numberOf 7 = .ok (.if_icmp .gt 16, 3) := by decide +kernel
theorem dX8_numberOf_10 : decode cX8_numberOf 10 = .ok (.iload_n 2, 1) := by decide +kernel
theorem dX8_numberOf_11 : decode cX8_numberOf 11 = .ok (.iload_n 1, 1) := by decide +kernel
theorem dX8_numberOf_12 : decode cX8_numberOf 12 = .ok (.if_icmp .le 11, 3) := by decide +kernel
theorem dX8_numberOf_15 : decode cX8_numberOf 15 = .ok (.iload_n 2, 1) := by decide +kernel
theorem dX8_numberOf_16 : decode cX8_numberOf 16 = .ok (.iload_n 1, 1) := by decide +kernel
theorem dX8_numberOf_17 : decode cX8_numberOf 17 = .ok (.isub, 1) := by decide +kernel
theorem dX8_numberOf_18 : decode cX8_numberOf 18 = .ok (.bipush 9, 2) := by decide +kernel
theorem dX8_numberOf_20 : decode cX8_numberOf 20 = .ok (.if_icmp .le 5, 3) := by decide +kernel
theorem dX8_numberOf_23 : decode cX8_numberOf 23 = .ok (.iconst (-1), 1) := by decide +kernel
theorem dX8_numberOf_24 : decode cX8_numberOf 24 = .ok (.ireturn, 1) := by decide +kernel
theorem dX8_numberOf_25 : decode cX8_numberOf 25 = .ok (.iconst 0, 1) := by decide +kernel
theorem dX8_numberOf_26 : decode cX8_numberOf 26 = .ok (.istore_n 3, 1) := by decide +kernel
theorem dX8_numberOf_27 : decode cX8_numberOf 27 = .ok (.iload_n 1, 1) := by decide +kernel
theorem dX8_numberOf_28 : decode cX8_numberOf 28 = .ok (.istore 4, 2) := by decide +kernel
theorem dX8_numberOf_30 : decode cX8_numberOf 30 = .ok (.iload 4, 2) := by decide +kernel
theorem dX8_numberOf_32 : decode cX8_numberOf 32 = .ok (.iload_n 2, 1) := by decide +kernel
theorem dX8_numberOf_33 : decode cX8_numberOf 33 = .ok (.if_icmp .ge 42, 3) := by decide +kernel
theorem dX8_numberOf_36 : decode cX8_numberOf 36 = .ok (.aload_n 0, 1) := by decide +kernel
theorem dX8_numberOf_37 : decode cX8_numberOf 37 = .ok (.iload 4, 2) := by decide +kernel
theorem dX8_numberOf_39 : decode cX8_numberOf 39 = .ok (.baload, 1) := by decide +kernel
theorem dX8_numberOf_40 : decode cX8_numberOf 40 = .ok (.bipush 48, 2) := by decide +kernel
theorem dX8_numberOf_42 : decode cX8_numberOf 42 = .ok (.if_icmp .lt 12, 3) := by decide +kernel
theorem dX8_numberOf_45 : decode cX8_numberOf 45 = .ok (.aload_n 0, 1) := by decide +kernel
theorem dX8_numberOf_46 : decode cX8_numberOf 46 = .ok (.iload 4, 2) := by decide +kernel
theorem dX8_numberOf_48 : decode cX8_numberOf 48 = .ok (.baload, 1) := by decide +kernel
theorem dX8_numberOf_49 : decode cX8_numberOf 49 = .ok (.bipush 57, 2) := by decide +kernel
theorem dX8_numberOf_51 : decode cX8_numberOf 51 = .ok (.if_icmp .le 5, 3) := by decide +kernel
theorem dX8_numberOf_54 : decode cX8_numberOf 54 = .ok (.iconst (-1), 1) := by decide +kernel
theorem dX8_numberOf_55 : decode cX8_numberOf 55 = .ok (.ireturn, 1) := by decide +kernel
theorem dX8_numberOf_56 : decode cX8_numberOf 56 = .ok (.iload_n 3, 1) := by decide +kernel
theorem dX8_numberOf_57 : decode cX8_numberOf 57 = .ok (.bipush 10, 2) := by decide +kernel
theorem dX8_numberOf_59 : decode cX8_numberOf 59 = .ok (.imul, 1) := by decide +kernel
theorem dX8_numberOf_60 : decode cX8_numberOf 60 = .ok (.aload_n 0, 1) := by decide +kernel
theorem dX8_numberOf_61 : decode cX8_numberOf 61 = .ok (.iload 4, 2) := by decide +kernel
theorem dX8_numberOf_63 : decode cX8_numberOf 63 = .ok (.baload, 1) := by decide +kernel
theorem dX8_numberOf_64 : decode cX8_numberOf 64 = .ok (.bipush 48, 2) := by decide +kernel
theorem dX8_numberOf_66 : decode cX8_numberOf 66 = .ok (.isub, 1) := by decide +kernel
theorem dX8_numberOf_67 : decode cX8_numberOf 67 = .ok (.iadd, 1) := by decide +kernel
theorem dX8_numberOf_68 : decode cX8_numberOf 68 = .ok (.istore_n 3, 1) := by decide +kernel
theorem dX8_numberOf_69 : decode cX8_numberOf 69 = .ok (.iinc 4 1, 3) := by decide +kernel
theorem dX8_numberOf_72 : decode cX8_numberOf 72 = .ok (.goto (-42), 3) := by decide +kernel
theorem dX8_numberOf_75 : decode cX8_numberOf 75 = .ok (.iload_n 3, 1) := by decide +kernel
theorem dX8_numberOf_76 : decode cX8_numberOf 76 = .ok (.ireturn, 1) := by decide +kernel
set_option maxRecDepth 20000 in
theorem ggX8_spells_J0_length_8abf5 : GoodIn wsX8_spells wsJ0_length_8abf5 := goodIn_r _ [5, 6, 7, 8, 9, 4, 10, 11, 12] (by decide +kernel) (by decide +kernel)
set_option maxRecDepth 20000 in
theorem gX8_spells_J0_length_8abf5 : GoodIn wsX8_spells (wsV RX8 56 RJ0 yJ0_length_8abf5 wsJ0_length_8abf5) := goodIn_app (goodIn_of _ (by decide +kernel)) ggX8_spells_J0_length_8abf5
set_option maxRecDepth 20000 in
theorem ggX8_spells_J0_charAt_5068e : GoodIn wsX8_spells wsJ0_charAt_5068e := goodIn_r _ [16, 6, 17, 18, 19, 4, 20, 11, 12, 21, 22, 23, 24, 25, 26, 27, 28, 29, 30, 31, 32, 33, 34, 35, 36, 37, 38, 39, 40, 41, 42, 43, 44, 45, 46, 47, 48, 49] (by decide +kernel) (by decide +kernel)
set_option maxRecDepth 20000 in
theorem gX8_spells_J0_charAt_5068e : GoodIn wsX8_spells (wsV RX8 62 RJ0 yJ0_charAt_5068e wsJ0_charAt_5068e) := goodIn_app (goodIn_of _ (by decide +kernel)) ggX8_spells_J0_charAt_5068e
theorem dX8_spells_0 : decode cX8_spells 0 = .ok (.iload_n 2, 1) := by decide +kernel
theorem dX8_spells_1 : decode cX8_spells 1 = .ok (.ifCond .lt 19, 3) := by decide +kernel
theorem dX8_spells_4 : decode cX8_spells 4 = .ok (.iload_n 3, 1) := by decide +kernel
theorem dX8_spells_5 : decode cX8_spells 5 = .ok (.aload_n 1, 1) := by decide +kernel
theorem dX8_spells_6 : decode cX8_spells 6 = .ok (.arraylength, 1) := by decide +kernel
theorem dX8_spells_7 : decode cX8_spells 7 = .ok (.if_icmp .gt 13, 3) := by decide +kernel
theorem dX8_spells_10 : decode cX8_spells 10 = .ok (.iload_n 3, 1) := by decide +kernel
theorem dX8_spells_11 : decode cX8_spells 11 = .ok (.iload_n 2, 1) := by decide +kernel
theorem dX8_spells_12 : decode cX8_spells 12 = .ok (.isub, 1) := by decide +kernel
theorem dX8_spells_13 : decode cX8_spells 13 = .ok (.aload_n 0, 1) := by decide +kernel
theorem dX8_spells_14 : decode cX8_spells 14 = .ok (.invokevirtual 56, 3) := by decide +kernel
theorem dX8_spells_17 : decode cX8_spells 17 = .ok (.if_icmp .eq 5, 3) := by decide +kernel
theorem dX8_spells_20 : decode cX8_spells 20 = .ok (.iconst 0, 1) := by decide +kernel
theorem dX8_spells_21 : decode cX8_spells 21 = .ok (.ireturn, 1) := by decide +kernel
theorem dX8_spells_22 : decode cX8_spells 22 = .ok (.iload_n 2, 1) := by decide +kernel
theorem dX8_spells_23 : decode cX8_spells 23 = .ok (.istore 4, 2) := by decide +kernel
theorem dX8_spells_25 : decode cX8_spells 25 = .ok (.iload 4, 2) := by decide +kernel
theorem dX8_spells_27 : decode cX8_spells 27 = .ok (.iload_n 3, 1) := by decide +kernel
theorem dX8_spells_28 : decode cX8_spells 28 = .ok (.if_icmp .ge 26, 3) := by decide +kernel
theorem dX8_spells_31 : decode cX8_spells 31 = .ok (.aload_n 1, 1) := by decide +kernel
theorem dX8_spells_32 : decode cX8_spells 32 = .ok (.iload 4, 2) := by decide +kernel
theorem dX8_spells_34 : decode cX8_spells 34 = .ok (.baload, 1) := by decide +kernel
theorem dX8_spells_35 : decode cX8_spells 35 = .ok (.aload_n 0, 1) := by decide +kernel
theorem dX8_spells_36 : decode cX8_spells 36 = .ok (.iload 4, 2) := by decide +kernel
theorem dX8_spells_38 : decode cX8_spells 38 = .ok (.iload_n 2, 1) := by decide +kernel
theorem dX8_spells_39 : decode cX8_spells 39 = .ok (.isub, 1) := by decide +kernel
theorem dX8_spells_40 : decode cX8_spells 40 = .ok (.invokevirtual 62, 3) := by decide +kernel
theorem dX8_spells_43 : decode cX8_spells 43 = .ok (.if_icmp .eq 5, 3) := by decide +kernel
theorem dX8_spells_46 : decode cX8_spells 46 = .ok (.iconst 0, 1) := by decide +kernel
theorem dX8_spells_47 : decode cX8_spells 47 = .ok (.ireturn, 1) := by decide +kernel
theorem dX8_spells_48 : decode cX8_spells 48 = .ok (.iinc 4 1, 3) := by decide +kernel
theorem dX8_spells_51 : decode cX8_spells 51 = .ok (.goto (-26), 3) := by decide +kernel
theorem dX8_spells_54 : decode cX8_spells 54 = .ok (.iconst 1, 1) := by decide +kernel
theorem dX8_spells_55 : decode cX8_spells 55 = .ok (.ireturn, 1) := by decide +kernel
set_option maxRecDepth 20000 in
theorem ggX9_init_X8_init : GoodIn wsX9_init wsX8_init := goodIn_r _ [22, 23, 2, 3, 24, 25, 26, 27, 60, 61, 62] (by decide +kernel) (by decide +kernel)
set_option maxRecDepth 20000 in
theorem gX9_init_X8_init_n25 : GoodIn wsX9_init (wsX8_init) := ggX9_init_X8_init
set_option maxRecDepth 20000 in
theorem ggX9_init_X2_init : GoodIn wsX9_init wsX2_init := goodIn_r _ [30, 31, 2, 3, 32, 33, 34, 35, 36, 37, 24, 38, 39, 40, 41, 42, 63, 64, 65, 66, 67] (by decide +kernel) (by decide +kernel)
set_option maxRecDepth 20000 in
theorem gX9_init_X2_init : GoodIn wsX9_init (wsX2_init) := ggX9_init_X2_init
set_option maxRecDepth 20000 in
theorem ggX9_init_X0_init : GoodIn wsX9_init wsX0_init := goodIn_r _ [44, 45, 2, 3, 46, 47, 48, 49, 50, 51, 52, 68, 69, 70, 71, 72, 73, 74] (by decide +kernel) (by decide +kernel)
set_option maxRecDepth 20000 in
theorem gX9_init_X0_init_n39 : GoodIn wsX9_init (wsX0_init) := ggX9_init_X0_init
