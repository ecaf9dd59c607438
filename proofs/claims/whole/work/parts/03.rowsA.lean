theorem inlX0 : ∀ w ∈ wsX00, w ∈ wsL_law := fun _ h => List.mem_append_left _ (List.mem_append_left _ (List.mem_append_left _ (List.mem_append_left _ (List.mem_append_left _ (List.mem_append_left _ (List.mem_append_left _ (List.mem_append_right _ h)))))))
theorem inlX1 : ∀ w ∈ wsX10, w ∈ wsL_law := fun _ h => List.mem_append_left _ (List.mem_append_left _ (List.mem_append_left _ (List.mem_append_left _ (List.mem_append_left _ (List.mem_append_right _ h)))))
theorem inlX2 : ∀ w ∈ wsX20, w ∈ wsL_law := fun _ h => List.mem_append_left _ (List.mem_append_left _ (List.mem_append_left _ (List.mem_append_left _ (List.mem_append_left _ (List.mem_append_left _ (List.mem_append_left _ (List.mem_append_left _ (List.mem_append_right _ h))))))))
theorem inlX3 : ∀ w ∈ wsX30, w ∈ wsL_law := fun _ h => List.mem_append_left _ (List.mem_append_left _ (List.mem_append_left _ (List.mem_append_right _ h)))
theorem inX4 : ∀ w ∈ wsX40, w ∈ lw_tbl := by decide +kernel
theorem inlX5 : ∀ w ∈ wsX50, w ∈ wsL_law := fun _ h => List.mem_append_left _ (List.mem_append_left _ (List.mem_append_left _ (List.mem_append_left _ (List.mem_append_left _ (List.mem_append_left _ (List.mem_append_right _ h))))))
theorem inlX6 : ∀ w ∈ wsX60, w ∈ wsL_law := fun _ h => List.mem_append_left _ (List.mem_append_left _ (List.mem_append_left _ (List.mem_append_left _ (List.mem_append_right _ h))))
theorem inlX7 : ∀ w ∈ wsX70, w ∈ wsL_law := fun _ h => List.mem_append_left _ (List.mem_append_left _ (List.mem_append_right _ h))
theorem inlX8 : ∀ w ∈ wsX80, w ∈ wsL_law := fun _ h => List.mem_append_left _ (List.mem_append_left _ (List.mem_append_left _ (List.mem_append_left _ (List.mem_append_left _ (List.mem_append_left _ (List.mem_append_left _ (List.mem_append_left _ (List.mem_append_left _ (List.mem_append_right _ h)))))))))
theorem inlX9 : ∀ w ∈ wsX90, w ∈ wsL_law := fun _ h => List.mem_append_left _ (List.mem_append_left _ (List.mem_append_left _ (List.mem_append_left _ (List.mem_append_left _ (List.mem_append_left _ (List.mem_append_left _ (List.mem_append_left _ (List.mem_append_left _ (List.mem_append_left _ (List.mem_append_left _ (List.mem_append_right _ h)))))))))))
theorem inlX10 : ∀ w ∈ wsX100, w ∈ wsL_law := fun _ h => List.mem_append_left _ (List.mem_append_left _ (List.mem_append_left _ (List.mem_append_left _ (List.mem_append_left _ (List.mem_append_left _ (List.mem_append_left _ (List.mem_append_left _ (List.mem_append_left _ (List.mem_append_left _ (List.mem_append_right _ h))))))))))
theorem inlJx00060 : ∀ w ∈ wsJx000600, w ∈ wsL_law := fun _ h => List.mem_append_left _ (List.mem_append_right _ h)
theorem inJx29ce0 : ∀ w ∈ wsJx29ce00, w ∈ lw_tbl := by decide +kernel
theorem inJ9 : ∀ w ∈ wsJ90, w ∈ lw_tbl := by decide +kernel
theorem inJ0 : ∀ w ∈ wsJ00, w ∈ lw_tbl := by decide +kernel
theorem inJ1 : ∀ w ∈ wsJ10, w ∈ lw_tbl := by decide +kernel
theorem inJ2 : ∀ w ∈ wsJ20, w ∈ lw_tbl := by decide +kernel
theorem inJ7 : ∀ w ∈ wsJ70, w ∈ lw_tbl := by decide +kernel
theorem inJ3 : ∀ w ∈ wsJ30, w ∈ lw_tbl := by decide +kernel
theorem dX0_init_0 : decode cX0_init 0 = .ok (.aload_n 0, 1) := by decide +kernel
theorem dX0_init_1 : decode cX0_init 1 = .ok (.invokespecial 3, 3) := by decide +kernel
theorem dX0_init_4 : decode cX0_init 4 = .ok (.aload_n 0, 1) := by decide +kernel
theorem dX0_init_5 : decode cX0_init 5 = .ok (.aconst_null, 1) := by decide +kernel
theorem dX0_init_6 : decode cX0_init 6 = .ok (.putfield 9, 3) := by decide +kernel
theorem dX0_init_9 : decode cX0_init 9 = .ok (.aload_n 0, 1) := by decide +kernel
theorem dX0_init_10 : decode cX0_init 10 = .ok (.aconst_null, 1) := by decide +kernel
theorem dX0_init_11 : decode cX0_init 11 = .ok (.putfield 15, 3) := by decide +kernel
theorem dX0_init_14 : decode cX0_init 14 = .ok (.aload_n 0, 1) := by decide +kernel
theorem dX0_init_15 : decode cX0_init 15 = .ok (.iconst 0, 1) := by decide +kernel
theorem dX0_init_16 : decode cX0_init 16 = .ok (.putfield 18, 3) := by decide +kernel
theorem dX0_init_19 : decode cX0_init 19 = .ok (.aload_n 0, 1) := by decide +kernel
theorem dX0_init_20 : decode cX0_init 20 = .ok (.aconst_null, 1) := by decide +kernel
theorem dX0_init_21 : decode cX0_init 21 = .ok (.putfield 22, 3) := by decide +kernel
theorem dX0_init_24 : decode cX0_init 24 = .ok (.aload_n 0, 1) := by decide +kernel
theorem dX0_init_25 : decode cX0_init 25 = .ok (.aconst_null, 1) := by decide +kernel
theorem dX0_init_26 : decode cX0_init 26 = .ok (.putfield 26, 3) := by decide +kernel
theorem dX0_init_29 : decode cX0_init 29 = .ok (.aload_n 0, 1) := by decide +kernel
theorem dX0_init_30 : decode cX0_init 30 = .ok (.iconst 0, 1) := by decide +kernel
theorem dX0_init_31 : decode cX0_init 31 = .ok (.putfield 29, 3) := by decide +kernel
theorem dX0_init_34 : decode cX0_init 34 = .ok (.aload_n 0, 1) := by decide +kernel
theorem dX0_init_35 : decode cX0_init 35 = .ok (.iconst (-1), 1) := by decide +kernel
theorem dX0_init_36 : decode cX0_init 36 = .ok (.putfield 32, 3) := by decide +kernel
theorem dX0_init_39 : decode cX0_init 39 = .ok (.return_, 1) := by decide +kernel
theorem dX0_leastNextDay_0 : decode cX0_leastNextDay 0 = .ok (.aload_n 0, 1) := by decide +kernel
theorem dX0_leastNextDay_1 : decode cX0_leastNextDay 1 = .ok (.getfield 26, 3) := by decide +kernel
theorem dX0_leastNextDay_4 : decode cX0_leastNextDay 4 = .ok (.ifnonnull 7, 3) := by decide +kernel
theorem dX0_leastNextDay_7 : decode cX0_leastNextDay 7 = .ok (.iconst 0, 1) := by decide +kernel
theorem dX0_leastNextDay_8 : decode cX0_leastNextDay 8 = .ok (.goto 12, 3) := by decide +kernel
theorem dX0_leastNextDay_11 : decode cX0_leastNextDay 11 = .ok (.aload_n 0, 1) := by decide +kernel
theorem dX0_leastNextDay_12 : decode cX0_leastNextDay 12 = .ok (.getfield 26, 3) := by decide +kernel
theorem dX0_leastNextDay_15 : decode cX0_leastNextDay 15 = .ok (.getfield 35, 3) := by decide +kernel
theorem dX0_leastNextDay_18 : decode cX0_leastNextDay 18 = .ok (.iconst 1, 1) := by decide +kernel
theorem dX0_leastNextDay_19 : decode cX0_leastNextDay 19 = .ok (.iadd, 1) := by decide +kernel
theorem dX0_leastNextDay_20 : decode cX0_leastNextDay 20 = .ok (.ireturn, 1) := by decide +kernel
set_option maxRecDepth 20000 in
theorem ggX0_addEdition_X1_init : GoodIn wsX0_addEdition wsX1_init := goodIn_r _ [10, 11, 12, 13, 14, 15, 16, 17] (by decide +kernel) (by decide +kernel)
set_option maxRecDepth 20000 in
theorem gX0_addEdition_X1_init : GoodIn wsX0_addEdition (wsX1_init) := ggX0_addEdition_X1_init
theorem dX0_addEdition_0 : decode cX0_addEdition 0 = .ok (.new 36, 3) := by decide +kernel
theorem dX0_addEdition_3 : decode cX0_addEdition 3 = .ok (.dup, 1) := by decide +kernel
theorem dX0_addEdition_4 : decode cX0_addEdition 4 = .ok (.iload_n 1, 1) := by decide +kernel
theorem dX0_addEdition_5 : decode cX0_addEdition 5 = .ok (.invokespecial 40, 3) := by decide +kernel
theorem dX0_addEdition_8 : decode cX0_addEdition 8 = .ok (.astore_n 2, 1) := by decide +kernel
theorem dX0_addEdition_9 : decode cX0_addEdition 9 = .ok (.aload_n 0, 1) := by decide +kernel
theorem dX0_addEdition_10 : decode cX0_addEdition 10 = .ok (.getfield 26, 3) := by decide +kernel
theorem dX0_addEdition_13 : decode cX0_addEdition 13 = .ok (.ifnonnull 11, 3) := by decide +kernel
theorem dX0_addEdition_16 : decode cX0_addEdition 16 = .ok (.aload_n 0, 1) := by decide +kernel
theorem dX0_addEdition_17 : decode cX0_addEdition 17 = .ok (.aload_n 2, 1) := by decide +kernel
theorem dX0_addEdition_18 : decode cX0_addEdition 18 = .ok (.putfield 22, 3) := by decide +kernel
theorem dX0_addEdition_21 : decode cX0_addEdition 21 = .ok (.goto 11, 3) := by decide +kernel
theorem dX0_addEdition_24 : decode cX0_addEdition 24 = .ok (.aload_n 0, 1) := by decide +kernel
theorem dX0_addEdition_25 : decode cX0_addEdition 25 = .ok (.getfield 26, 3) := by decide +kernel
theorem dX0_addEdition_28 : decode cX0_addEdition 28 = .ok (.aload_n 2, 1) := by decide +kernel
theorem dX0_addEdition_29 : decode cX0_addEdition 29 = .ok (.putfield 43, 3) := by decide +kernel
theorem dX0_addEdition_32 : decode cX0_addEdition 32 = .ok (.aload_n 0, 1) := by decide +kernel
theorem dX0_addEdition_33 : decode cX0_addEdition 33 = .ok (.aload_n 2, 1) := by decide +kernel
theorem dX0_addEdition_34 : decode cX0_addEdition 34 = .ok (.putfield 26, 3) := by decide +kernel
theorem dX0_addEdition_37 : decode cX0_addEdition 37 = .ok (.aload_n 0, 1) := by decide +kernel
theorem dX0_addEdition_38 : decode cX0_addEdition 38 = .ok (.dup, 1) := by decide +kernel
theorem dX0_addEdition_39 : decode cX0_addEdition 39 = .ok (.getfield 29, 3) := by decide +kernel
theorem dX0_addEdition_42 : decode cX0_addEdition 42 = .ok (.iconst 1, 1) := by decide +kernel
theorem dX0_addEdition_43 : decode cX0_addEdition 43 = .ok (.iadd, 1) := by decide +kernel
theorem dX0_addEdition_44 : decode cX0_addEdition 44 = .ok (.putfield 29, 3) := by decide +kernel
theorem dX0_addEdition_47 : decode cX0_addEdition 47 = .ok (.return_, 1) := by decide +kernel
theorem dX0_addRule_0 : decode cX0_addRule 0 = .ok (.aload_n 1, 1) := by decide +kernel
theorem dX0_addRule_1 : decode cX0_addRule 1 = .ok (.aload_n 0, 1) := by decide +kernel
theorem dX0_addRule_2 : decode cX0_addRule 2 = .ok (.getfield 18, 3) := by decide +kernel
theorem dX0_addRule_5 : decode cX0_addRule 5 = .ok (.putfield 46, 3) := by decide +kernel
theorem dX0_addRule_8 : decode cX0_addRule 8 = .ok (.aload_n 1, 1) := by decide +kernel
theorem dX0_addRule_9 : decode cX0_addRule 9 = .ok (.aload_n 0, 1) := by decide +kernel
theorem dX0_addRule_10 : decode cX0_addRule 10 = .ok (.getfield 29, 3) := by decide +kernel
theorem dX0_addRule_13 : decode cX0_addRule 13 = .ok (.iconst 1, 1) := by decide +kernel
theorem dX0_addRule_14 : decode cX0_addRule 14 = .ok (.isub, 1) := by decide +kernel
theorem dX0_addRule_15 : decode cX0_addRule 15 = .ok (.putfield 51, 3) := by decide +kernel
theorem dX0_addRule_18 : decode cX0_addRule 18 = .ok (.aload_n 0, 1) := by decide +kernel
theorem dX0_addRule_19 : decode cX0_addRule 19 = .ok (.getfield 15, 3) := by decide +kernel
theorem dX0_addRule_22 : decode cX0_addRule 22 = .ok (.ifnonnull 11, 3) := by decide +kernel
theorem dX0_addRule_25 : decode cX0_addRule 25 = .ok (.aload_n 0, 1) := by decide +kernel
theorem dX0_addRule_26 : decode cX0_addRule 26 = .ok (.aload_n 1, 1) := by decide +kernel
theorem dX0_addRule_27 : decode cX0_addRule 27 = .ok (.putfield 9, 3) := by decide +kernel
theorem dX0_addRule_30 : decode cX0_addRule 30 = .ok (.goto 11, 3) := by decide +kernel
theorem dX0_addRule_33 : decode cX0_addRule 33 = .ok (.aload_n 0, 1) := by decide +kernel
theorem dX0_addRule_34 : decode cX0_addRule 34 = .ok (.getfield 15, 3) := by decide +kernel
theorem dX0_addRule_37 : decode cX0_addRule 37 = .ok (.aload_n 1, 1) := by decide +kernel
theorem dX0_addRule_38 : decode cX0_addRule 38 = .ok (.putfield 54, 3) := by decide +kernel
theorem dX0_addRule_41 : decode cX0_addRule 41 = .ok (.aload_n 0, 1) := by decide +kernel
theorem dX0_addRule_42 : decode cX0_addRule 42 = .ok (.aload_n 1, 1) := by decide +kernel
theorem dX0_addRule_43 : decode cX0_addRule 43 = .ok (.putfield 15, 3) := by decide +kernel
theorem dX0_addRule_46 : decode cX0_addRule 46 = .ok (.aload_n 0, 1) := by decide +kernel
theorem dX0_addRule_47 : decode cX0_addRule 47 = .ok (.dup, 1) := by decide +kernel
theorem dX0_addRule_48 : decode cX0_addRule 48 = .ok (.getfield 18, 3) := by decide +kernel
theorem dX0_addRule_51 : decode cX0_addRule 51 = .ok (.iconst 1, 1) := by decide +kernel
theorem dX0_addRule_52 : decode cX0_addRule 52 = .ok (.iadd, 1) := by decide +kernel
theorem dX0_addRule_53 : decode cX0_addRule 53 = .ok (.putfield 18, 3) := by decide +kernel
theorem dX0_addRule_56 : decode cX0_addRule 56 = .ok (.return_, 1) := by decide +kernel
theorem dX0_actingOn_0 : decode cX0_actingOn 0 = .ok (.iconst (-1), 1) := by decide +kernel
theorem dX0_actingOn_1 : decode cX0_actingOn 1 = .ok (.istore_n 3, 1) := by decide +kernel
theorem dX0_actingOn_2 : decode cX0_actingOn 2 = .ok (.aload_n 0, 1) := by decide +kernel
theorem dX0_actingOn_3 : decode cX0_actingOn 3 = .ok (.getfield 22, 3) := by decide +kernel
theorem dX0_actingOn_6 : decode cX0_actingOn 6 = .ok (.astore 4, 2) := by decide +kernel
theorem dX0_actingOn_8 : decode cX0_actingOn 8 = .ok (.aload 4, 2) := by decide +kernel
theorem dX0_actingOn_10 : decode cX0_actingOn 10 = .ok (.ifnull 27, 3) := by decide +kernel
theorem dX0_actingOn_13 : decode cX0_actingOn 13 = .ok (.aload 4, 2) := by decide +kernel
theorem dX0_actingOn_15 : decode cX0_actingOn 15 = .ok (.getfield 35, 3) := by decide +kernel
theorem dX0_actingOn_18 : decode cX0_actingOn 18 = .ok (.i2l, 1) := by decide +kernel
theorem dX0_actingOn_19 : decode cX0_actingOn 19 = .ok (.lload_n 1, 1) := by decide +kernel
theorem dX0_actingOn_20 : decode cX0_actingOn 20 = .ok (.lcmp, 1) := by decide +kernel
theorem dX0_actingOn_21 : decode cX0_actingOn 21 = .ok (.ifCond .gt 16, 3) := by decide +kernel
theorem dX0_actingOn_24 : decode cX0_actingOn 24 = .ok (.iinc 3 1, 3) := by decide +kernel
theorem dX0_actingOn_27 : decode cX0_actingOn 27 = .ok (.aload 4, 2) := by decide +kernel
theorem dX0_actingOn_29 : decode cX0_actingOn 29 = .ok (.getfield 43, 3) := by decide +kernel
theorem dX0_actingOn_32 : decode cX0_actingOn 32 = .ok (.astore 4, 2) := by decide +kernel
theorem dX0_actingOn_34 : decode cX0_actingOn 34 = .ok (.goto (-26), 3) := by decide +kernel
theorem dX0_actingOn_37 : decode cX0_actingOn 37 = .ok (.iload_n 3, 1) := by decide +kernel
theorem dX0_actingOn_38 : decode cX0_actingOn 38 = .ok (.ireturn, 1) := by decide +kernel
theorem dX0_ruleAt_0 : decode cX0_ruleAt 0 = .ok (.aload_n 0, 1) := by decide +kernel
theorem dX0_ruleAt_1 : decode cX0_ruleAt 1 = .ok (.getfield 9, 3) := by decide +kernel
theorem dX0_ruleAt_4 : decode cX0_ruleAt 4 = .ok (.astore_n 2, 1) := by decide +kernel
theorem dX0_ruleAt_5 : decode cX0_ruleAt 5 = .ok (.aload_n 2, 1) := by decide +kernel
theorem dX0_ruleAt_6 : decode cX0_ruleAt 6 = .ok (.ifnull 21, 3) := by decide +kernel
theorem dX0_ruleAt_9 : decode cX0_ruleAt 9 = .ok (.aload_n 2, 1) := by decide +kernel
theorem dX0_ruleAt_10 : decode cX0_ruleAt 10 = .ok (.getfield 46, 3) := by decide +kernel
theorem dX0_ruleAt_13 : decode cX0_ruleAt 13 = .ok (.iload_n 1, 1) := by decide +kernel
theorem dX0_ruleAt_14 : decode cX0_ruleAt 14 = .ok (.if_icmp .ne 5, 3) := by decide +kernel
theorem dX0_ruleAt_17 : decode cX0_ruleAt 17 = .ok (.aload_n 2, 1) := by decide +kernel
theorem dX0_ruleAt_18 : decode cX0_ruleAt 18 = .ok (.areturn, 1) := by decide +kernel
theorem dX0_ruleAt_19 : decode cX0_ruleAt 19 = .ok (.aload_n 2, 1) := by decide +kernel
theorem dX0_ruleAt_20 : decode cX0_ruleAt 20 = .ok (.getfield 54, 3) := by decide +kernel
theorem dX0_ruleAt_23 : decode cX0_ruleAt 23 = .ok (.astore_n 2, 1) := by decide +kernel
theorem dX0_ruleAt_24 : decode cX0_ruleAt 24 = .ok (.goto (-19), 3) := by decide +kernel
theorem dX0_ruleAt_27 : decode cX0_ruleAt 27 = .ok (.aconst_null, 1) := by decide +kernel
theorem dX0_ruleAt_28 : decode cX0_ruleAt 28 = .ok (.areturn, 1) := by decide +kernel
set_option maxRecDepth 20000 in
theorem ggX0_lookAt_X0_actingOn : GoodIn wsX0_lookAt wsX0_actingOn := goodIn_r _ [11, 12, 13, 14, 114, 115, 116, 117, 118, 119, 120, 130, 131] (by decide +kernel) (by decide +kernel)
set_option maxRecDepth 20000 in
theorem gX0_lookAt_X0_actingOn : GoodIn wsX0_lookAt (wsV RX0 56 RX0 yX0_actingOn wsX0_actingOn) := goodIn_app (goodIn_of _ (by decide +kernel)) ggX0_lookAt_X0_actingOn
set_option maxRecDepth 20000 in
theorem ggX0_lookAt_X0_isPassedOver : GoodIn wsX0_lookAt wsX0_isPassedOver := goodIn_r _ [18, 2, 5, 19, 4, 20, 21, 22, 23, 24, 25, 26, 27, 28, 29, 30, 31, 32, 33, 34, 35, 36, 37, 38, 114, 115, 116, 117, 118, 119, 120, 121, 122, 123, 124, 125, 126, 127, 128, 129, 132, 133, 134, 135, 136, 137, 138, 139, 140, 141, 142, 143] (by decide +kernel) (by decide +kernel)
set_option maxRecDepth 20000 in
theorem gX0_lookAt_X0_isPassedOver : GoodIn wsX0_lookAt (wsV RX0 63 RX0 yX0_isPassedOver wsX0_isPassedOver) := goodIn_app (goodIn_of _ (by decide +kernel)) ggX0_lookAt_X0_isPassedOver
set_option maxRecDepth 20000 in
theorem ggX0_lookAt_X0_verdictOf : GoodIn wsX0_lookAt wsX0_verdictOf := goodIn_r _ [42, 43, 44, 45, 46, 47, 10, 48, 49, 50, 51, 52, 53, 36, 54, 55, 56, 57, 58, 34, 35, 37, 38, 59, 60, 61, 62, 2, 19, 3, 4, 63, 64, 65, 66, 67, 68, 69, 70, 71, 72, 73, 74, 75, 76, 77, 78, 79, 80, 81, 82, 83, 84, 85, 86, 87, 88, 89, 90, 91, 92, 93, 94, 95, 96, 97, 98, 99, 100, 101, 121, 122, 123, 124, 125, 126, 127, 128, 129, 132, 133, 134, 135, 136, 137, 138, 139, 140, 141, 142, 143, 114, 115, 116, 117, 118, 119, 120, 144, 145, 146, 147, 148, 149] (by decide +kernel) (by decide +kernel)
set_option maxRecDepth 20000 in
theorem gX0_lookAt_X0_verdictOf : GoodIn wsX0_lookAt (wsV RX0 67 RX0 yX0_verdictOf wsX0_verdictOf) := goodIn_app (goodIn_of _ (by decide +kernel)) ggX0_lookAt_X0_verdictOf
set_option maxRecDepth 20000 in
theorem ggX0_lookAt_X0_openRule : GoodIn wsX0_lookAt wsX0_openRule := goodIn_r _ [105, 2, 4, 106, 107, 108, 10, 109, 3, 19, 63, 64, 65, 66, 67, 68, 69, 70, 114, 115, 116, 117, 118, 119, 120, 121, 122, 123, 124, 125, 126, 127, 128, 129] (by decide +kernel) (by decide +kernel)
set_option maxRecDepth 20000 in
theorem gX0_lookAt_X0_openRule : GoodIn wsX0_lookAt (wsV RX0 71 RX0 yX0_openRule wsX0_openRule) := goodIn_app (goodIn_of _ (by decide +kernel)) ggX0_lookAt_X0_openRule
set_option maxRecDepth 20000 in
theorem ggX0_lookAt_X0_heldCount : GoodIn wsX0_lookAt wsX0_heldCount := goodIn_r _ [113, 63, 64, 65, 10, 66, 67, 68, 69, 70, 2, 19, 3, 4, 114, 115, 116, 117, 118, 119, 120, 121, 122, 123, 124, 125, 126, 127, 128, 129] (by decide +kernel) (by decide +kernel)
set_option maxRecDepth 20000 in
theorem gX0_lookAt_X0_heldCount : GoodIn wsX0_lookAt (wsV RX0 75 RX0 yX0_heldCount wsX0_heldCount) := goodIn_app (goodIn_of _ (by decide +kernel)) ggX0_lookAt_X0_heldCount
theorem dX0_lookAt_0 : decode cX0_lookAt 0 = .ok (.aload_n 0, 1) := by decide +kernel
theorem dX0_lookAt_1 : decode cX0_lookAt 1 = .ok (.aload_n 0, 1) := by decide +kernel
theorem dX0_lookAt_2 : decode cX0_lookAt 2 = .ok (.lload_n 1, 1) := by decide +kernel
theorem dX0_lookAt_3 : decode cX0_lookAt 3 = .ok (.invokevirtual 56, 3) := by decide +kernel
theorem dX0_lookAt_6 : decode cX0_lookAt 6 = .ok (.putfield 32, 3) := by decide +kernel
theorem dX0_lookAt_9 : decode cX0_lookAt 9 = .ok (.aload_n 0, 1) := by decide +kernel
theorem dX0_lookAt_10 : decode cX0_lookAt 10 = .ok (.getfield 9, 3) := by decide +kernel
theorem dX0_lookAt_13 : decode cX0_lookAt 13 = .ok (.astore 4, 2) := by decide +kernel
theorem dX0_lookAt_15 : decode cX0_lookAt 15 = .ok (.aload 4, 2) := by decide +kernel
theorem dX0_lookAt_17 : decode cX0_lookAt 17 = .ok (.ifnull 20, 3) := by decide +kernel
theorem dX0_lookAt_20 : decode cX0_lookAt 20 = .ok (.aload 4, 2) := by decide +kernel
theorem dX0_lookAt_22 : decode cX0_lookAt 22 = .ok (.bipush (-5), 2) := by decide +kernel
theorem dX0_lookAt_24 : decode cX0_lookAt 24 = .ok (.putfield 60, 3) := by decide +kernel
theorem dX0_lookAt_27 : decode cX0_lookAt 27 = .ok (.aload 4, 2) := by decide +kernel
theorem dX0_lookAt_29 : decode cX0_lookAt 29 = .ok (.getfield 54, 3) := by decide +kernel
theorem dX0_lookAt_32 : decode cX0_lookAt 32 = .ok (.astore 4, 2) := by decide +kernel
theorem dX0_lookAt_34 : decode cX0_lookAt 34 = .ok (.goto (-19), 3) := by decide +kernel
theorem dX0_lookAt_37 : decode cX0_lookAt 37 = .ok (.aload_n 0, 1) := by decide +kernel
theorem dX0_lookAt_38 : decode cX0_lookAt 38 = .ok (.getfield 9, 3) := by decide +kernel
theorem dX0_lookAt_41 : decode cX0_lookAt 41 = .ok (.astore 4, 2) := by decide +kernel
theorem dX0_lookAt_43 : decode cX0_lookAt 43 = .ok (.aload 4, 2) := by decide +kernel
theorem dX0_lookAt_45 : decode cX0_lookAt 45 = .ok (.ifnull 52, 3) := by decide +kernel
theorem dX0_lookAt_48 : decode cX0_lookAt 48 = .ok (.aload 4, 2) := by decide +kernel
theorem dX0_lookAt_50 : decode cX0_lookAt 50 = .ok (.getfield 51, 3) := by decide +kernel
theorem dX0_lookAt_53 : decode cX0_lookAt 53 = .ok (.aload_n 0, 1) := by decide +kernel
theorem dX0_lookAt_54 : decode cX0_lookAt 54 = .ok (.getfield 32, 3) := by decide +kernel
theorem dX0_lookAt_57 : decode cX0_lookAt 57 = .ok (.if_icmp .ne 30, 3) := by decide +kernel
theorem dX0_lookAt_60 : decode cX0_lookAt 60 = .ok (.aload 4, 2) := by decide +kernel
theorem dX0_lookAt_62 : decode cX0_lookAt 62 = .ok (.aload_n 0, 1) := by decide +kernel
theorem dX0_lookAt_63 : decode cX0_lookAt 63 = .ok (.aload 4, 2) := by decide +kernel
theorem dX0_lookAt_65 : decode cX0_lookAt 65 = .ok (.aload_n 3, 1) := by decide +kernel
theorem dX0_lookAt_66 : decode cX0_lookAt 66 = .ok (.invokevirtual 63, 3) := by decide +kernel
theorem dX0_lookAt_69 : decode cX0_lookAt 69 = .ok (.ifCond .eq 8, 3) := by decide +kernel
theorem dX0_lookAt_72 : decode cX0_lookAt 72 = .ok (.bipush (-4), 2) := by decide +kernel
theorem dX0_lookAt_74 : decode cX0_lookAt 74 = .ok (.goto 10, 3) := by decide +kernel
theorem dX0_lookAt_77 : decode cX0_lookAt 77 = .ok (.aload_n 0, 1) := by decide +kernel
theorem dX0_lookAt_78 : decode cX0_lookAt 78 = .ok (.aload 4, 2) := by decide +kernel
theorem dX0_lookAt_80 : decode cX0_lookAt 80 = .ok (.aload_n 3, 1) := by decide +kernel
theorem dX0_lookAt_81 : decode cX0_lookAt 81 = .ok (.invokevirtual 67, 3) := by decide +kernel
theorem dX0_lookAt_84 : decode cX0_lookAt 84 = .ok (.putfield 60, 3) := by decide +kernel
theorem dX0_lookAt_87 : decode cX0_lookAt 87 = .ok (.aload 4, 2) := by decide +kernel
theorem dX0_lookAt_89 : decode cX0_lookAt 89 = .ok (.getfield 54, 3) := by decide +kernel
theorem dX0_lookAt_92 : decode cX0_lookAt 92 = .ok (.astore 4, 2) := by decide +kernel
theorem dX0_lookAt_94 : decode cX0_lookAt 94 = .ok (.goto (-51), 3) := by decide +kernel
theorem dX0_lookAt_97 : decode cX0_lookAt 97 = .ok (.aload_n 0, 1) := by decide +kernel
theorem dX0_lookAt_98 : decode cX0_lookAt 98 = .ok (.iconst 0, 1) := by decide +kernel
theorem dX0_lookAt_99 : decode cX0_lookAt 99 = .ok (.invokevirtual 71, 3) := by decide +kernel
theorem dX0_lookAt_102 : decode cX0_lookAt 102 = .ok (.astore 4, 2) := by decide +kernel
theorem dX0_lookAt_104 : decode cX0_lookAt 104 = .ok (.aload 4, 2) := by decide +kernel
theorem dX0_lookAt_106 : decode cX0_lookAt 106 = .ok (.ifnonnull 10, 3) := by decide +kernel
theorem dX0_lookAt_109 : decode cX0_lookAt 109 = .ok (.aload_n 0, 1) := by decide +kernel
theorem dX0_lookAt_110 : decode cX0_lookAt 110 = .ok (.invokevirtual 75, 3) := by decide +kernel
theorem dX0_lookAt_113 : decode cX0_lookAt 113 = .ok (.goto 10, 3) := by decide +kernel
theorem dX0_lookAt_116 : decode cX0_lookAt 116 = .ok (.iconst (-1), 1) := by decide +kernel
theorem dX0_lookAt_117 : decode cX0_lookAt 117 = .ok (.aload 4, 2) := by decide +kernel
theorem dX0_lookAt_119 : decode cX0_lookAt 119 = .ok (.getfield 46, 3) := by decide +kernel
theorem dX0_lookAt_122 : decode cX0_lookAt 122 = .ok (.isub, 1) := by decide +kernel
theorem dX0_lookAt_123 : decode cX0_lookAt 123 = .ok (.ireturn, 1) := by decide +kernel
set_option maxRecDepth 20000 in
theorem ggX0_isPassedOver_X6_hasTest : GoodIn wsX0_isPassedOver wsX6_hasTest := goodIn_r _ [9, 10, 11, 12, 31, 32, 33, 34, 35, 36, 37, 38, 39, 40, 41, 42, 43, 44, 45, 46] (by decide +kernel) (by decide +kernel)
set_option maxRecDepth 20000 in
theorem gX0_isPassedOver_X6_hasTest : GoodIn wsX0_isPassedOver (wsV RX0 79 RX6 yX6_hasTest wsX6_hasTest) := goodIn_app (goodIn_of _ (by decide +kernel)) ggX0_isPassedOver_X6_hasTest
set_option maxRecDepth 20000 in
theorem ggX0_isPassedOver_X6_hasAllResults : GoodIn wsX0_isPassedOver wsX6_hasAllResults := goodIn_r _ [16, 10, 11, 17, 12, 18, 19, 20, 21, 22, 23, 31, 32, 33, 34, 35, 36, 37, 38, 39, 40, 41, 42, 43, 44, 45, 46, 47, 48, 49, 50, 51] (by decide +kernel) (by decide +kernel)
set_option maxRecDepth 20000 in
theorem gX0_isPassedOver_X6_hasAllResults : GoodIn wsX0_isPassedOver (wsV RX0 86 RX6 yX6_hasAllResults wsX6_hasAllResults) := goodIn_app (goodIn_of _ (by decide +kernel)) ggX0_isPassedOver_X6_hasAllResults
theorem dX0_isPassedOver_0 : decode cX0_isPassedOver 0 = .ok (.aload_n 1, 1) := by decide +kernel
theorem dX0_isPassedOver_1 : decode cX0_isPassedOver 1 = .ok (.invokevirtual 79, 3) := by decide +kernel
theorem dX0_isPassedOver_4 : decode cX0_isPassedOver 4 = .ok (.ifCond .eq 5, 3) := by decide +kernel
theorem dX0_isPassedOver_7 : decode cX0_isPassedOver 7 = .ok (.iconst 0, 1) := by decide +kernel
theorem dX0_isPassedOver_8 : decode cX0_isPassedOver 8 = .ok (.ireturn, 1) := by decide +kernel
theorem dX0_isPassedOver_9 : decode cX0_isPassedOver 9 = .ok (.aload_n 0, 1) := by decide +kernel
theorem dX0_isPassedOver_10 : decode cX0_isPassedOver 10 = .ok (.getfield 9, 3) := by decide +kernel
theorem dX0_isPassedOver_13 : decode cX0_isPassedOver 13 = .ok (.astore_n 3, 1) := by decide +kernel
theorem dX0_isPassedOver_14 : decode cX0_isPassedOver 14 = .ok (.aload_n 3, 1) := by decide +kernel
theorem dX0_isPassedOver_15 : decode cX0_isPassedOver 15 = .ok (.ifnull 50, 3) := by decide +kernel
theorem dX0_isPassedOver_18 : decode cX0_isPassedOver 18 = .ok (.aload_n 3, 1) := by decide +kernel
theorem dX0_isPassedOver_19 : decode cX0_isPassedOver 19 = .ok (.getfield 51, 3) := by decide +kernel
theorem dX0_isPassedOver_22 : decode cX0_isPassedOver 22 = .ok (.aload_n 1, 1) := by decide +kernel
theorem dX0_isPassedOver_23 : decode cX0_isPassedOver 23 = .ok (.getfield 51, 3) := by decide +kernel
theorem dX0_isPassedOver_26 : decode cX0_isPassedOver 26 = .ok (.if_icmp .ne 31, 3) := by decide +kernel
theorem dX0_isPassedOver_29 : decode cX0_isPassedOver 29 = .ok (.aload_n 3, 1) := by decide +kernel
theorem dX0_isPassedOver_30 : decode cX0_isPassedOver 30 = .ok (.getfield 83, 3) := by decide +kernel
theorem dX0_isPassedOver_33 : decode cX0_isPassedOver 33 = .ok (.aload_n 1, 1) := by decide +kernel
theorem dX0_isPassedOver_34 : decode cX0_isPassedOver 34 = .ok (.getfield 83, 3) := by decide +kernel
theorem dX0_isPassedOver_37 : decode cX0_isPassedOver 37 = .ok (.if_icmp .ne 20, 3) := by decide +kernel
theorem dX0_isPassedOver_40 : decode cX0_isPassedOver 40 = .ok (.aload_n 3, 1) := by decide +kernel
theorem dX0_isPassedOver_41 : decode cX0_isPassedOver 41 = .ok (.invokevirtual 79, 3) := by decide +kernel
theorem dX0_isPassedOver_44 : decode cX0_isPassedOver 44 = .ok (.ifCond .eq 13, 3) := by decide +kernel
theorem dX0_isPassedOver_47 : decode cX0_isPassedOver 47 = .ok (.aload_n 3, 1) := by decide +kernel
theorem dX0_isPassedOver_48 : decode cX0_isPassedOver 48 = .ok (.aload_n 2, 1) := by decide +kernel
theorem dX0_isPassedOver_49 : decode cX0_isPassedOver 49 = .ok (.invokevirtual 86, 3) := by decide +kernel
theorem dX0_isPassedOver_52 : decode cX0_isPassedOver 52 = .ok (.ifCond .eq 5, 3) := by decide +kernel
theorem dX0_isPassedOver_55 : decode cX0_isPassedOver 55 = .ok (.iconst 1, 1) := by decide +kernel
theorem dX0_isPassedOver_56 : decode cX0_isPassedOver 56 = .ok (.ireturn, 1) := by decide +kernel
theorem dX0_isPassedOver_57 : decode cX0_isPassedOver 57 = .ok (.aload_n 3, 1) := by decide +kernel
theorem dX0_isPassedOver_58 : decode cX0_isPassedOver 58 = .ok (.getfield 54, 3) := by decide +kernel
theorem dX0_isPassedOver_61 : decode cX0_isPassedOver 61 = .ok (.astore_n 3, 1) := by decide +kernel
theorem dX0_isPassedOver_62 : decode cX0_isPassedOver 62 = .ok (.goto (-48), 3) := by decide +kernel
theorem dX0_isPassedOver_65 : decode cX0_isPassedOver 65 = .ok (.iconst 0, 1) := by decide +kernel
theorem dX0_isPassedOver_66 : decode cX0_isPassedOver 66 = .ok (.ireturn, 1) := by decide +kernel
set_option maxRecDepth 20000 in
theorem ggX0_verdictOf_X0_itemVerdict : GoodIn wsX0_verdictOf wsX0_itemVerdict := goodIn_r _ [7, 8, 9, 10, 11, 12, 13, 14, 15, 16, 17, 18, 19, 20, 21, 22, 23, 24, 25, 6, 26, 27, 28, 29, 30, 31, 32, 33, 34, 35, 36, 37, 38, 39, 40, 41, 42, 43, 44, 45, 46, 47, 48, 49, 50, 51, 52, 53, 54, 55, 56, 57, 58, 59, 60, 61, 62, 63, 64, 65, 66, 67, 68, 69, 79, 80, 81, 82, 83, 84, 85, 86, 87, 88, 89, 90, 91, 92, 93, 94, 95, 96, 97, 70, 71, 72, 73, 74, 75, 76, 77, 78, 98, 99, 100, 101, 102, 103] (by decide +kernel) (by decide +kernel)
set_option maxRecDepth 20000 in
theorem gX0_verdictOf_X0_itemVerdict : GoodIn wsX0_verdictOf (wsV RX0 93 RX0 yX0_itemVerdict wsX0_itemVerdict) := goodIn_app (goodIn_of _ (by decide +kernel)) ggX0_verdictOf_X0_itemVerdict
theorem dX0_verdictOf_0 : decode cX0_verdictOf 0 = .ok (.bipush (-2), 2) := by decide +kernel
theorem dX0_verdictOf_2 : decode cX0_verdictOf 2 = .ok (.istore_n 3, 1) := by decide +kernel
theorem dX0_verdictOf_3 : decode cX0_verdictOf 3 = .ok (.aload_n 1, 1) := by decide +kernel
theorem dX0_verdictOf_4 : decode cX0_verdictOf 4 = .ok (.getfield 90, 3) := by decide +kernel
theorem dX0_verdictOf_7 : decode cX0_verdictOf 7 = .ok (.astore 4, 2) := by decide +kernel
theorem dX0_verdictOf_9 : decode cX0_verdictOf 9 = .ok (.aload 4, 2) := by decide +kernel
theorem dX0_verdictOf_11 : decode cX0_verdictOf 11 = .ok (.ifnull 41, 3) := by decide +kernel
theorem dX0_verdictOf_14 : decode cX0_verdictOf 14 = .ok (.aload_n 0, 1) := by decide +kernel
theorem dX0_verdictOf_15 : decode cX0_verdictOf 15 = .ok (.aload 4, 2) := by decide +kernel
theorem dX0_verdictOf_17 : decode cX0_verdictOf 17 = .ok (.aload_n 2, 1) := by decide +kernel
theorem dX0_verdictOf_18 : decode cX0_verdictOf 18 = .ok (.invokevirtual 93, 3) := by decide +kernel
theorem dX0_verdictOf_21 : decode cX0_verdictOf 21 = .ok (.istore 5, 2) := by decide +kernel
theorem dX0_verdictOf_23 : decode cX0_verdictOf 23 = .ok (.iload 5, 2) := by decide +kernel
theorem dX0_verdictOf_25 : decode cX0_verdictOf 25 = .ok (.bipush (-3), 2) := by decide +kernel
theorem dX0_verdictOf_27 : decode cX0_verdictOf 27 = .ok (.if_icmp .ne 6, 3) := by decide +kernel
theorem dX0_verdictOf_30 : decode cX0_verdictOf 30 = .ok (.bipush (-3), 2) := by decide +kernel
theorem dX0_verdictOf_32 : decode cX0_verdictOf 32 = .ok (.ireturn, 1) := by decide +kernel
theorem dX0_verdictOf_33 : decode cX0_verdictOf 33 = .ok (.iload_n 3, 1) := by decide +kernel
theorem dX0_verdictOf_34 : decode cX0_verdictOf 34 = .ok (.bipush (-2), 2) := by decide +kernel
theorem dX0_verdictOf_36 : decode cX0_verdictOf 36 = .ok (.if_icmp .ne 6, 3) := by decide +kernel
theorem dX0_verdictOf_39 : decode cX0_verdictOf 39 = .ok (.iload 5, 2) := by decide +kernel
theorem dX0_verdictOf_41 : decode cX0_verdictOf 41 = .ok (.istore_n 3, 1) := by decide +kernel
theorem dX0_verdictOf_42 : decode cX0_verdictOf 42 = .ok (.aload 4, 2) := by decide +kernel
theorem dX0_verdictOf_44 : decode cX0_verdictOf 44 = .ok (.getfield 97, 3) := by decide +kernel
theorem dX0_verdictOf_47 : decode cX0_verdictOf 47 = .ok (.astore 4, 2) := by decide +kernel
theorem dX0_verdictOf_49 : decode cX0_verdictOf 49 = .ok (.goto (-40), 3) := by decide +kernel
theorem dX0_verdictOf_52 : decode cX0_verdictOf 52 = .ok (.iload_n 3, 1) := by decide +kernel
theorem dX0_verdictOf_53 : decode cX0_verdictOf 53 = .ok (.ireturn, 1) := by decide +kernel
set_option maxRecDepth 20000 in
theorem ggX0_itemVerdict_X2_testVerdict : GoodIn wsX0_itemVerdict wsX2_testVerdict := goodIn_r _ [7, 8, 9, 10, 11, 12, 13, 6, 14, 15, 64, 65, 66, 67, 68, 69, 70, 71, 72, 73, 74, 75] (by decide +kernel) (by decide +kernel)
set_option maxRecDepth 20000 in
theorem gX0_itemVerdict_X2_testVerdict : GoodIn wsX0_itemVerdict (wsV RX0 104 RX2 yX2_testVerdict wsX2_testVerdict) := goodIn_app (goodIn_of _ (by decide +kernel)) ggX0_itemVerdict_X2_testVerdict
set_option maxRecDepth 20000 in
theorem ggX0_itemVerdict_X0_holdsVerdict : GoodIn wsX0_itemVerdict wsX0_holdsVerdict := goodIn_r _ [20, 21, 22, 23, 24, 25, 26, 27, 19, 28, 29, 30, 31, 32, 76, 77, 78, 79, 80, 81, 82, 83, 84, 85, 86, 87, 88, 89, 90, 91] (by decide +kernel) (by decide +kernel)
set_option maxRecDepth 20000 in
theorem gX0_itemVerdict_X0_holdsVerdict : GoodIn wsX0_itemVerdict (wsV RX0 113 RX0 yX0_holdsVerdict wsX0_holdsVerdict) := goodIn_app (goodIn_of _ (by decide +kernel)) ggX0_itemVerdict_X0_holdsVerdict
set_option maxRecDepth 20000 in
theorem ggX0_itemVerdict_X2_sumVerdict : GoodIn wsX0_itemVerdict wsX2_sumVerdict := goodIn_r _ [36, 37, 10, 9, 38, 39, 40, 6, 41, 42, 43, 44, 45, 46, 47, 48, 49, 50, 51, 52, 53, 54, 55, 56, 57, 58, 59, 60, 61, 62, 63, 71, 72, 73, 74, 75, 64, 65, 66, 67, 68, 69, 70, 92, 93, 94, 95, 96, 97] (by decide +kernel) (by decide +kernel)
set_option maxRecDepth 20000 in
theorem gX0_itemVerdict_X2_sumVerdict : GoodIn wsX0_itemVerdict (wsV RX0 117 RX2 yX2_sumVerdict wsX2_sumVerdict) := goodIn_app (goodIn_of _ (by decide +kernel)) ggX0_itemVerdict_X2_sumVerdict
theorem dX0_itemVerdict_0 : decode cX0_itemVerdict 0 = .ok (.aload_n 1, 1) := by decide +kernel
theorem dX0_itemVerdict_1 : decode cX0_itemVerdict 1 = .ok (.getfield 101, 3) := by decide +kernel
theorem dX0_itemVerdict_4 : decode cX0_itemVerdict 4 = .ok (.lookupswitch 43 #[(0, 28), (1, 34)], 28) := by decide +kernel
theorem dX0_itemVerdict_32 : decode cX0_itemVerdict 32 = .ok (.aload_n 2, 1) := by decide +kernel
theorem dX0_itemVerdict_33 : decode cX0_itemVerdict 33 = .ok (.aload_n 1, 1) := by decide +kernel
theorem dX0_itemVerdict_34 : decode cX0_itemVerdict 34 = .ok (.invokevirtual 104, 3) := by decide +kernel
theorem dX0_itemVerdict_37 : decode cX0_itemVerdict 37 = .ok (.ireturn, 1) := by decide +kernel
theorem dX0_itemVerdict_38 : decode cX0_itemVerdict 38 = .ok (.aload_n 0, 1) := by decide +kernel
theorem dX0_itemVerdict_39 : decode cX0_itemVerdict 39 = .ok (.aload_n 1, 1) := by decide +kernel
theorem dX0_itemVerdict_40 : decode cX0_itemVerdict 40 = .ok (.getfield 110, 3) := by decide +kernel
theorem dX0_itemVerdict_43 : decode cX0_itemVerdict 43 = .ok (.invokevirtual 113, 3) := by decide +kernel
theorem dX0_itemVerdict_46 : decode cX0_itemVerdict 46 = .ok (.ireturn, 1) := by decide +kernel
theorem dX0_itemVerdict_47 : decode cX0_itemVerdict 47 = .ok (.aload_n 2, 1) := by decide +kernel
theorem dX0_itemVerdict_48 : decode cX0_itemVerdict 48 = .ok (.aload_n 1, 1) := by decide +kernel
theorem dX0_itemVerdict_49 : decode cX0_itemVerdict 49 = .ok (.invokevirtual 117, 3) := by decide +kernel
theorem dX0_itemVerdict_52 : decode cX0_itemVerdict 52 = .ok (.ireturn, 1) := by decide +kernel
set_option maxRecDepth 20000 in
theorem ggX0_holdsVerdict_X0_isHeld : GoodIn wsX0_holdsVerdict wsX0_isHeld := goodIn_r _ [9, 10, 11, 12, 8, 13, 1, 2, 3, 4, 14, 15, 16, 17, 18, 19, 20, 21, 22, 23, 24, 25, 26, 27, 28, 29] (by decide +kernel) (by decide +kernel)
set_option maxRecDepth 20000 in
theorem gX0_holdsVerdict_X0_isHeld : GoodIn wsX0_holdsVerdict (wsV RX0 120 RX0 yX0_isHeld wsX0_isHeld) := goodIn_app (goodIn_of _ (by decide +kernel)) ggX0_holdsVerdict_X0_isHeld
theorem dX0_holdsVerdict_0 : decode cX0_holdsVerdict 0 = .ok (.aload_n 0, 1) := by decide +kernel
theorem dX0_holdsVerdict_1 : decode cX0_holdsVerdict 1 = .ok (.iload_n 1, 1) := by decide +kernel
theorem dX0_holdsVerdict_2 : decode cX0_holdsVerdict 2 = .ok (.invokevirtual 120, 3) := by decide +kernel
theorem dX0_holdsVerdict_5 : decode cX0_holdsVerdict 5 = .ok (.ifCond .eq 6, 3) := by decide +kernel
theorem dX0_holdsVerdict_8 : decode cX0_holdsVerdict 8 = .ok (.bipush (-2), 2) := by decide +kernel
theorem dX0_holdsVerdict_10 : decode cX0_holdsVerdict 10 = .ok (.ireturn, 1) := by decide +kernel
theorem dX0_holdsVerdict_11 : decode cX0_holdsVerdict 11 = .ok (.aload_n 0, 1) := by decide +kernel
theorem dX0_holdsVerdict_12 : decode cX0_holdsVerdict 12 = .ok (.getfield 9, 3) := by decide +kernel
theorem dX0_holdsVerdict_15 : decode cX0_holdsVerdict 15 = .ok (.astore_n 2, 1) := by decide +kernel
theorem dX0_holdsVerdict_16 : decode cX0_holdsVerdict 16 = .ok (.aload_n 2, 1) := by decide +kernel
theorem dX0_holdsVerdict_17 : decode cX0_holdsVerdict 17 = .ok (.ifnull 32, 3) := by decide +kernel
theorem dX0_holdsVerdict_20 : decode cX0_holdsVerdict 20 = .ok (.aload_n 2, 1) := by decide +kernel
theorem dX0_holdsVerdict_21 : decode cX0_holdsVerdict 21 = .ok (.getfield 83, 3) := by decide +kernel
theorem dX0_holdsVerdict_24 : decode cX0_holdsVerdict 24 = .ok (.iload_n 1, 1) := by decide +kernel
theorem dX0_holdsVerdict_25 : decode cX0_holdsVerdict 25 = .ok (.if_icmp .ne 16, 3) := by decide +kernel
theorem dX0_holdsVerdict_28 : decode cX0_holdsVerdict 28 = .ok (.aload_n 2, 1) := by decide +kernel
theorem dX0_holdsVerdict_29 : decode cX0_holdsVerdict 29 = .ok (.getfield 60, 3) := by decide +kernel
theorem dX0_holdsVerdict_32 : decode cX0_holdsVerdict 32 = .ok (.ifCond .lt 9, 3) := by decide +kernel
theorem dX0_holdsVerdict_35 : decode cX0_holdsVerdict 35 = .ok (.sipush 300, 3) := by decide +kernel
theorem dX0_holdsVerdict_38 : decode cX0_holdsVerdict 38 = .ok (.iload_n 1, 1) := by decide +kernel
theorem dX0_holdsVerdict_39 : decode cX0_holdsVerdict 39 = .ok (.iadd, 1) := by decide +kernel
theorem dX0_holdsVerdict_40 : decode cX0_holdsVerdict 40 = .ok (.ireturn, 1) := by decide +kernel
theorem dX0_holdsVerdict_41 : decode cX0_holdsVerdict 41 = .ok (.aload_n 2, 1) := by decide +kernel
theorem dX0_holdsVerdict_42 : decode cX0_holdsVerdict 42 = .ok (.getfield 54, 3) := by decide +kernel
theorem dX0_holdsVerdict_45 : decode cX0_holdsVerdict 45 = .ok (.astore_n 2, 1) := by decide +kernel
theorem dX0_holdsVerdict_46 : decode cX0_holdsVerdict 46 = .ok (.goto (-30), 3) := by decide +kernel
theorem dX0_holdsVerdict_49 : decode cX0_holdsVerdict 49 = .ok (.bipush (-3), 2) := by decide +kernel
theorem dX0_holdsVerdict_51 : decode cX0_holdsVerdict 51 = .ok (.ireturn, 1) := by decide +kernel
set_option maxRecDepth 20000 in
theorem ggX0_isHeld_X0_heldBy : GoodIn wsX0_isHeld wsX0_heldBy := goodIn_r _ [5, 6, 7, 8, 9, 10, 11, 12, 13, 14, 15, 16, 17, 18, 19, 20, 21, 22, 23, 24, 25] (by decide +kernel) (by decide +kernel)
set_option maxRecDepth 20000 in
theorem gX0_isHeld_X0_heldBy : GoodIn wsX0_isHeld (wsV RX0 124 RX0 yX0_heldBy wsX0_heldBy) := goodIn_app (goodIn_of _ (by decide +kernel)) ggX0_isHeld_X0_heldBy
theorem dX0_isHeld_0 : decode cX0_isHeld 0 = .ok (.aload_n 0, 1) := by decide +kernel
theorem dX0_isHeld_1 : decode cX0_isHeld 1 = .ok (.iload_n 1, 1) := by decide +kernel
theorem dX0_isHeld_2 : decode cX0_isHeld 2 = .ok (.iconst 0, 1) := by decide +kernel
theorem dX0_isHeld_3 : decode cX0_isHeld 3 = .ok (.invokevirtual 124, 3) := by decide +kernel
theorem dX0_isHeld_6 : decode cX0_isHeld 6 = .ok (.ifnull 7, 3) := by decide +kernel
theorem dX0_isHeld_9 : decode cX0_isHeld 9 = .ok (.iconst 1, 1) := by decide +kernel
theorem dX0_isHeld_10 : decode cX0_isHeld 10 = .ok (.goto 4, 3) := by decide +kernel
theorem dX0_isHeld_13 : decode cX0_isHeld 13 = .ok (.iconst 0, 1) := by decide +kernel
theorem dX0_isHeld_14 : decode cX0_isHeld 14 = .ok (.ireturn, 1) := by decide +kernel
theorem dX0_heldBy_0 : decode cX0_heldBy 0 = .ok (.iconst 0, 1) := by decide +kernel
theorem dX0_heldBy_1 : decode cX0_heldBy 1 = .ok (.istore_n 3, 1) := by decide +kernel
theorem dX0_heldBy_2 : decode cX0_heldBy 2 = .ok (.aload_n 0, 1) := by decide +kernel
theorem dX0_heldBy_3 : decode cX0_heldBy 3 = .ok (.getfield 9, 3) := by decide +kernel
theorem dX0_heldBy_6 : decode cX0_heldBy 6 = .ok (.astore 4, 2) := by decide +kernel
theorem dX0_heldBy_8 : decode cX0_heldBy 8 = .ok (.aload 4, 2) := by decide +kernel
theorem dX0_heldBy_10 : decode cX0_heldBy 10 = .ok (.ifnull 43, 3) := by decide +kernel
theorem dX0_heldBy_13 : decode cX0_heldBy 13 = .ok (.aload 4, 2) := by decide +kernel
theorem dX0_heldBy_15 : decode cX0_heldBy 15 = .ok (.getfield 83, 3) := by decide +kernel
theorem dX0_heldBy_18 : decode cX0_heldBy 18 = .ok (.iload_n 1, 1) := by decide +kernel
theorem dX0_heldBy_19 : decode cX0_heldBy 19 = .ok (.if_icmp .ne 24, 3) := by decide +kernel
theorem dX0_heldBy_22 : decode cX0_heldBy 22 = .ok (.aload 4, 2) := by decide +kernel
theorem dX0_heldBy_24 : decode cX0_heldBy 24 = .ok (.getfield 60, 3) := by decide +kernel
theorem dX0_heldBy_27 : decode cX0_heldBy 27 = .ok (.bipush (-2), 2) := by decide +kernel
theorem dX0_heldBy_29 : decode cX0_heldBy 29 = .ok (.if_icmp .ne 14, 3) := by decide +kernel
theorem dX0_heldBy_32 : decode cX0_heldBy 32 = .ok (.iload_n 3, 1) := by decide +kernel
theorem dX0_heldBy_33 : decode cX0_heldBy 33 = .ok (.iload_n 2, 1) := by decide +kernel
theorem dX0_heldBy_34 : decode cX0_heldBy 34 = .ok (.if_icmp .ne 6, 3) := by decide +kernel
theorem dX0_heldBy_37 : decode cX0_heldBy 37 = .ok (.aload 4, 2) := by decide +kernel
theorem dX0_heldBy_39 : decode cX0_heldBy 39 = .ok (.areturn, 1) := by decide +kernel
theorem dX0_heldBy_40 : decode cX0_heldBy 40 = .ok (.iinc 3 1, 3) := by decide +kernel
theorem dX0_heldBy_43 : decode cX0_heldBy 43 = .ok (.aload 4, 2) := by decide +kernel
theorem dX0_heldBy_45 : decode cX0_heldBy 45 = .ok (.getfield 54, 3) := by decide +kernel
theorem dX0_heldBy_48 : decode cX0_heldBy 48 = .ok (.astore 4, 2) := by decide +kernel
theorem dX0_heldBy_50 : decode cX0_heldBy 50 = .ok (.goto (-42), 3) := by decide +kernel
theorem dX0_heldBy_53 : decode cX0_heldBy 53 = .ok (.aconst_null, 1) := by decide +kernel
theorem dX0_heldBy_54 : decode cX0_heldBy 54 = .ok (.areturn, 1) := by decide +kernel
set_option maxRecDepth 20000 in
theorem ggX0_isFirstToHold_X0_heldBy : GoodIn wsX0_isFirstToHold wsX0_heldBy := goodIn_r _ [7, 8, 1, 9, 10, 20, 21, 22, 23, 24, 25, 26, 11, 12, 13, 14, 15, 16, 17, 18, 19] (by decide +kernel) (by decide +kernel)
set_option maxRecDepth 20000 in
theorem gX0_isFirstToHold_X0_heldBy : GoodIn wsX0_isFirstToHold (wsV RX0 124 RX0 yX0_heldBy wsX0_heldBy) := goodIn_app (goodIn_of _ (by decide +kernel)) ggX0_isFirstToHold_X0_heldBy
theorem dX0_isFirstToHold_0 : decode cX0_isFirstToHold 0 = .ok (.aload_n 0, 1) := by decide +kernel
theorem dX0_isFirstToHold_1 : decode cX0_isFirstToHold 1 = .ok (.aload_n 1, 1) := by decide +kernel
theorem dX0_isFirstToHold_2 : decode cX0_isFirstToHold 2 = .ok (.getfield 83, 3) := by decide +kernel
theorem dX0_isFirstToHold_5 : decode cX0_isFirstToHold 5 = .ok (.iconst 0, 1) := by decide +kernel
theorem dX0_isFirstToHold_6 : decode cX0_isFirstToHold 6 = .ok (.invokevirtual 124, 3) := by decide +kernel
theorem dX0_isFirstToHold_9 : decode cX0_isFirstToHold 9 = .ok (.astore_n 2, 1) := by decide +kernel
theorem dX0_isFirstToHold_10 : decode cX0_isFirstToHold 10 = .ok (.aload_n 2, 1) := by decide +kernel
theorem dX0_isFirstToHold_11 : decode cX0_isFirstToHold 11 = .ok (.ifnull 18, 3) := by decide +kernel
theorem dX0_isFirstToHold_14 : decode cX0_isFirstToHold 14 = .ok (.aload_n 2, 1) := by decide +kernel
theorem dX0_isFirstToHold_15 : decode cX0_isFirstToHold 15 = .ok (.getfield 46, 3) := by decide +kernel
theorem dX0_isFirstToHold_18 : decode cX0_isFirstToHold 18 = .ok (.aload_n 1, 1) := by decide +kernel
theorem dX0_isFirstToHold_19 : decode cX0_isFirstToHold 19 = .ok (.getfield 46, 3) := by decide +kernel
theorem dX0_isFirstToHold_22 : decode cX0_isFirstToHold 22 = .ok (.if_icmp .ne 7, 3) := by decide +kernel
theorem dX0_isFirstToHold_25 : decode cX0_isFirstToHold 25 = .ok (.iconst 1, 1) := by decide +kernel
theorem dX0_isFirstToHold_26 : decode cX0_isFirstToHold 26 = .ok (.goto 4, 3) := by decide +kernel
theorem dX0_isFirstToHold_29 : decode cX0_isFirstToHold 29 = .ok (.iconst 0, 1) := by decide +kernel
theorem dX0_isFirstToHold_30 : decode cX0_isFirstToHold 30 = .ok (.ireturn, 1) := by decide +kernel
set_option maxRecDepth 20000 in
theorem ggX0_heldCount_X0_isHeld : GoodIn wsX0_heldCount wsX0_isHeld := goodIn_r _ [5, 6, 7, 8, 4, 9, 10, 11, 12, 13, 14, 15, 16, 17, 18, 19, 20, 21, 22, 23, 24, 25, 26, 27, 28, 29] (by decide +kernel) (by decide +kernel)
set_option maxRecDepth 20000 in
theorem gX0_heldCount_X0_isHeld : GoodIn wsX0_heldCount (wsV RX0 120 RX0 yX0_isHeld wsX0_isHeld) := goodIn_app (goodIn_of _ (by decide +kernel)) ggX0_heldCount_X0_isHeld
theorem dX0_heldCount_0 : decode cX0_heldCount 0 = .ok (.iconst 0, 1) := by decide +kernel
theorem dX0_heldCount_1 : decode cX0_heldCount 1 = .ok (.istore_n 1, 1) := by decide +kernel
theorem dX0_heldCount_2 : decode cX0_heldCount 2 = .ok (.iconst 0, 1) := by decide +kernel
theorem dX0_heldCount_3 : decode cX0_heldCount 3 = .ok (.istore_n 2, 1) := by decide +kernel
theorem dX0_heldCount_4 : decode cX0_heldCount 4 = .ok (.iload_n 2, 1) := by decide +kernel
theorem dX0_heldCount_5 : decode cX0_heldCount 5 = .ok (.bipush 20, 2) := by decide +kernel
theorem dX0_heldCount_7 : decode cX0_heldCount 7 = .ok (.if_icmp .ge 20, 3) := by decide +kernel
theorem dX0_heldCount_10 : decode cX0_heldCount 10 = .ok (.aload_n 0, 1) := by decide +kernel
theorem dX0_heldCount_11 : decode cX0_heldCount 11 = .ok (.iload_n 2, 1) := by decide +kernel
theorem dX0_heldCount_12 : decode cX0_heldCount 12 = .ok (.invokevirtual 120, 3) := by decide +kernel
theorem dX0_heldCount_15 : decode cX0_heldCount 15 = .ok (.ifCond .eq 6, 3) := by decide +kernel
theorem dX0_heldCount_18 : decode cX0_heldCount 18 = .ok (.iinc 1 1, 3) := by decide +kernel
theorem dX0_heldCount_21 : decode cX0_heldCount 21 = .ok (.iinc 2 1, 3) := by decide +kernel
theorem dX0_heldCount_24 : decode cX0_heldCount 24 = .ok (.goto (-20), 3) := by decide +kernel
theorem dX0_heldCount_27 : decode cX0_heldCount 27 = .ok (.iload_n 1, 1) := by decide +kernel
theorem dX0_heldCount_28 : decode cX0_heldCount 28 = .ok (.ireturn, 1) := by decide +kernel
set_option maxRecDepth 20000 in
theorem ggX0_isOpen_X0_isHeld : GoodIn wsX0_isOpen wsX0_isHeld := goodIn_r _ [7, 8, 9, 10, 6, 11, 12, 2, 1, 13, 23, 24, 25, 26, 27, 28, 29, 14, 15, 16, 17, 18, 19, 20, 21, 22] (by decide +kernel) (by decide +kernel)
set_option maxRecDepth 20000 in
theorem gX0_isOpen_X0_isHeld : GoodIn wsX0_isOpen (wsV RX0 120 RX0 yX0_isHeld wsX0_isHeld) := goodIn_app (goodIn_of _ (by decide +kernel)) ggX0_isOpen_X0_isHeld
theorem dX0_isOpen_0 : decode cX0_isOpen 0 = .ok (.aload_n 1, 1) := by decide +kernel
theorem dX0_isOpen_1 : decode cX0_isOpen 1 = .ok (.getfield 60, 3) := by decide +kernel
theorem dX0_isOpen_4 : decode cX0_isOpen 4 = .ok (.ifCond .lt 18, 3) := by decide +kernel
theorem dX0_isOpen_7 : decode cX0_isOpen 7 = .ok (.aload_n 0, 1) := by decide +kernel
theorem dX0_isOpen_8 : decode cX0_isOpen 8 = .ok (.aload_n 1, 1) := by decide +kernel
theorem dX0_isOpen_9 : decode cX0_isOpen 9 = .ok (.getfield 83, 3) := by decide +kernel
theorem dX0_isOpen_12 : decode cX0_isOpen 12 = .ok (.invokevirtual 120, 3) := by decide +kernel
theorem dX0_isOpen_15 : decode cX0_isOpen 15 = .ok (.ifCond .ne 7, 3) := by decide +kernel
theorem dX0_isOpen_18 : decode cX0_isOpen 18 = .ok (.iconst 1, 1) := by decide +kernel
theorem dX0_isOpen_19 : decode cX0_isOpen 19 = .ok (.goto 4, 3) := by decide +kernel
theorem dX0_isOpen_22 : decode cX0_isOpen 22 = .ok (.iconst 0, 1) := by decide +kernel
theorem dX0_isOpen_23 : decode cX0_isOpen 23 = .ok (.ireturn, 1) := by decide +kernel
set_option maxRecDepth 20000 in
theorem ggX0_openRule_X0_isOpen : GoodIn wsX0_openRule wsX0_isOpen := goodIn_r _ [7, 8, 9, 10, 11, 12, 6, 13, 14, 15, 16, 17, 1, 2, 25, 26, 27, 28, 29, 30, 31, 32, 33, 18, 19, 20, 21, 22, 23, 24] (by decide +kernel) (by decide +kernel)
set_option maxRecDepth 20000 in
theorem gX0_openRule_X0_isOpen : GoodIn wsX0_openRule (wsV RX0 128 RX0 yX0_isOpen wsX0_isOpen) := goodIn_app (goodIn_of _ (by decide +kernel)) ggX0_openRule_X0_isOpen
theorem dX0_openRule_0 : decode cX0_openRule 0 = .ok (.iconst 0, 1) := by decide +kernel
theorem dX0_openRule_1 : decode cX0_openRule 1 = .ok (.istore_n 2, 1) := by decide +kernel
theorem dX0_openRule_2 : decode cX0_openRule 2 = .ok (.aload_n 0, 1) := by decide +kernel
theorem dX0_openRule_3 : decode cX0_openRule 3 = .ok (.getfield 9, 3) := by decide +kernel
theorem dX0_openRule_6 : decode cX0_openRule 6 = .ok (.astore_n 3, 1) := by decide +kernel
theorem dX0_openRule_7 : decode cX0_openRule 7 = .ok (.aload_n 3, 1) := by decide +kernel
theorem dX0_openRule_8 : decode cX0_openRule 8 = .ok (.ifnull 29, 3) := by decide +kernel
theorem dX0_openRule_11 : decode cX0_openRule 11 = .ok (.aload_n 0, 1) := by decide +kernel
theorem dX0_openRule_12 : decode cX0_openRule 12 = .ok (.aload_n 3, 1) := by decide +kernel
theorem dX0_openRule_13 : decode cX0_openRule 13 = .ok (.invokevirtual 128, 3) := by decide +kernel
theorem dX0_openRule_16 : decode cX0_openRule 16 = .ok (.ifCond .eq 13, 3) := by decide +kernel
theorem dX0_openRule_19 : decode cX0_openRule 19 = .ok (.iload_n 2, 1) := by decide +kernel
theorem dX0_openRule_20 : decode cX0_openRule 20 = .ok (.iload_n 1, 1) := by decide +kernel
theorem dX0_openRule_21 : decode cX0_openRule 21 = .ok (.if_icmp .ne 5, 3) := by decide +kernel
theorem dX0_openRule_24 : decode cX0_openRule 24 = .ok (.aload_n 3, 1) := by decide +kernel
theorem dX0_openRule_25 : decode cX0_openRule 25 = .ok (.areturn, 1) := by decide +kernel
theorem dX0_openRule_26 : decode cX0_openRule 26 = .ok (.iinc 2 1, 3) := by decide +kernel
theorem dX0_openRule_29 : decode cX0_openRule 29 = .ok (.aload_n 3, 1) := by decide +kernel
theorem dX0_openRule_30 : decode cX0_openRule 30 = .ok (.getfield 54, 3) := by decide +kernel
theorem dX0_openRule_33 : decode cX0_openRule 33 = .ok (.astore_n 3, 1) := by decide +kernel
theorem dX0_openRule_34 : decode cX0_openRule 34 = .ok (.goto (-27), 3) := by decide +kernel
theorem dX0_openRule_37 : decode cX0_openRule 37 = .ok (.aconst_null, 1) := by decide +kernel
theorem dX0_openRule_38 : decode cX0_openRule 38 = .ok (.areturn, 1) := by decide +kernel
set_option maxRecDepth 20000 in
theorem ggX0_isFirstToLack_X0_isOpen : GoodIn wsX0_isFirstToLack wsX0_isOpen := goodIn_r _ [9, 3, 10, 11, 12, 13, 8, 14, 15, 16, 17, 18, 1, 4, 26, 27, 28, 29, 30, 31, 32, 33, 34, 19, 20, 21, 22, 23, 24, 25] (by decide +kernel) (by decide +kernel)
set_option maxRecDepth 20000 in
theorem gX0_isFirstToLack_X0_isOpen : GoodIn wsX0_isFirstToLack (wsV RX0 128 RX0 yX0_isOpen wsX0_isOpen) := goodIn_app (goodIn_of _ (by decide +kernel)) ggX0_isFirstToLack_X0_isOpen
theorem dX0_isFirstToLack_0 : decode cX0_isFirstToLack 0 = .ok (.aload_n 0, 1) := by decide +kernel
theorem dX0_isFirstToLack_1 : decode cX0_isFirstToLack 1 = .ok (.aload_n 1, 1) := by decide +kernel
theorem dX0_isFirstToLack_2 : decode cX0_isFirstToLack 2 = .ok (.invokevirtual 128, 3) := by decide +kernel
theorem dX0_isFirstToLack_5 : decode cX0_isFirstToLack 5 = .ok (.ifCond .ne 5, 3) := by decide +kernel
theorem dX0_isFirstToLack_8 : decode cX0_isFirstToLack 8 = .ok (.iconst 0, 1) := by decide +kernel
theorem dX0_isFirstToLack_9 : decode cX0_isFirstToLack 9 = .ok (.ireturn, 1) := by decide +kernel
theorem dX0_isFirstToLack_10 : decode cX0_isFirstToLack 10 = .ok (.aload_n 0, 1) := by decide +kernel
theorem dX0_isFirstToLack_11 : decode cX0_isFirstToLack 11 = .ok (.getfield 9, 3) := by decide +kernel
theorem dX0_isFirstToLack_14 : decode cX0_isFirstToLack 14 = .ok (.astore_n 2, 1) := by decide +kernel
theorem dX0_isFirstToLack_15 : decode cX0_isFirstToLack 15 = .ok (.aload_n 2, 1) := by decide +kernel
theorem dX0_isFirstToLack_16 : decode cX0_isFirstToLack 16 = .ok (.ifnull 43, 3) := by decide +kernel
theorem dX0_isFirstToLack_19 : decode cX0_isFirstToLack 19 = .ok (.aload_n 2, 1) := by decide +kernel
theorem dX0_isFirstToLack_20 : decode cX0_isFirstToLack 20 = .ok (.getfield 46, 3) := by decide +kernel
theorem dX0_isFirstToLack_23 : decode cX0_isFirstToLack 23 = .ok (.aload_n 1, 1) := by decide +kernel
theorem dX0_isFirstToLack_24 : decode cX0_isFirstToLack 24 = .ok (.getfield 46, 3) := by decide +kernel
theorem dX0_isFirstToLack_27 : decode cX0_isFirstToLack 27 = .ok (.if_icmp .ge 32, 3) := by decide +kernel
theorem dX0_isFirstToLack_30 : decode cX0_isFirstToLack 30 = .ok (.aload_n 2, 1) := by decide +kernel
theorem dX0_isFirstToLack_31 : decode cX0_isFirstToLack 31 = .ok (.getfield 60, 3) := by decide +kernel
theorem dX0_isFirstToLack_34 : decode cX0_isFirstToLack 34 = .ok (.aload_n 1, 1) := by decide +kernel
theorem dX0_isFirstToLack_35 : decode cX0_isFirstToLack 35 = .ok (.getfield 60, 3) := by decide +kernel
theorem dX0_isFirstToLack_38 : decode cX0_isFirstToLack 38 = .ok (.if_icmp .ne 13, 3) := by decide +kernel
theorem dX0_isFirstToLack_41 : decode cX0_isFirstToLack 41 = .ok (.aload_n 0, 1) := by decide +kernel
theorem dX0_isFirstToLack_42 : decode cX0_isFirstToLack 42 = .ok (.aload_n 2, 1) := by decide +kernel
theorem dX0_isFirstToLack_43 : decode cX0_isFirstToLack 43 = .ok (.invokevirtual 128, 3) := by decide +kernel
theorem dX0_isFirstToLack_46 : decode cX0_isFirstToLack 46 = .ok (.ifCond .eq 5, 3) := by decide +kernel
theorem dX0_isFirstToLack_49 : decode cX0_isFirstToLack 49 = .ok (.iconst 0, 1) := by decide +kernel
theorem dX0_isFirstToLack_50 : decode cX0_isFirstToLack 50 = .ok (.ireturn, 1) := by decide +kernel
theorem dX0_isFirstToLack_51 : decode cX0_isFirstToLack 51 = .ok (.aload_n 2, 1) := by decide +kernel
theorem dX0_isFirstToLack_52 : decode cX0_isFirstToLack 52 = .ok (.getfield 54, 3) := by decide +kernel
theorem dX0_isFirstToLack_55 : decode cX0_isFirstToLack 55 = .ok (.astore_n 2, 1) := by decide +kernel
theorem dX0_isFirstToLack_56 : decode cX0_isFirstToLack 56 = .ok (.goto (-41), 3) := by decide +kernel
theorem dX0_isFirstToLack_59 : decode cX0_isFirstToLack 59 = .ok (.iconst 1, 1) := by decide +kernel
theorem dX0_isFirstToLack_60 : decode cX0_isFirstToLack 60 = .ok (.ireturn, 1) := by decide +kernel
theorem dX1_init_0 : decode cX1_init 0 = .ok (.aload_n 0, 1) := by decide +kernel
theorem dX1_init_1 : decode cX1_init 1 = .ok (.invokespecial 1, 3) := by decide +kernel
theorem dX1_init_4 : decode cX1_init 4 = .ok (.aload_n 0, 1) := by decide +kernel
theorem dX1_init_5 : decode cX1_init 5 = .ok (.aconst_null, 1) := by decide +kernel
theorem dX1_init_6 : decode cX1_init 6 = .ok (.putfield 7, 3) := by decide +kernel
theorem dX1_init_9 : decode cX1_init 9 = .ok (.aload_n 0, 1) := by decide +kernel
theorem dX1_init_10 : decode cX1_init 10 = .ok (.iload_n 1, 1) := by decide +kernel
theorem dX1_init_11 : decode cX1_init 11 = .ok (.putfield 13, 3) := by decide +kernel
theorem dX1_init_14 : decode cX1_init 14 = .ok (.return_, 1) := by decide +kernel
set_option maxRecDepth 20000 in
theorem ggX2_init_J7_fill_53178 : GoodIn wsX2_init wsJ7_fill_53178 := goodIn_r _ [15] (by decide +kernel) (by decide +kernel)
set_option maxRecDepth 20000 in
theorem gX2_init_J7_fill_53178 : GoodIn wsX2_init (va_wsS RX2 30 yJ7_fill_53178 wsJ7_fill_53178) := goodIn_app (goodIn_of _ (by decide +kernel)) ggX2_init_J7_fill_53178
theorem dX2_init_0 : decode cX2_init 0 = .ok (.aload_n 0, 1) := by decide +kernel
theorem dX2_init_1 : decode cX2_init 1 = .ok (.invokespecial 3, 3) := by decide +kernel
theorem dX2_init_4 : decode cX2_init 4 = .ok (.aload_n 0, 1) := by decide +kernel
theorem dX2_init_5 : decode cX2_init 5 = .ok (.iconst 1, 1) := by decide +kernel
theorem dX2_init_6 : decode cX2_init 6 = .ok (.putfield 9, 3) := by decide +kernel
theorem dX2_init_9 : decode cX2_init 9 = .ok (.aload_n 0, 1) := by decide +kernel
theorem dX2_init_10 : decode cX2_init 10 = .ok (.bipush 16, 2) := by decide +kernel
theorem dX2_init_12 : decode cX2_init 12 = .ok (.newarray .long, 2) := by decide +kernel
theorem dX2_init_14 : decode cX2_init 14 = .ok (.putfield 15, 3) := by decide +kernel
theorem dX2_init_17 : decode cX2_init 17 = .ok (.aload_n 0, 1) := by decide +kernel
theorem dX2_init_18 : decode cX2_init 18 = .ok (.bipush 16, 2) := by decide +kernel
theorem dX2_init_20 : decode cX2_init 20 = .ok (.newarray .long, 2) := by decide +kernel
theorem dX2_init_22 : decode cX2_init 22 = .ok (.putfield 19, 3) := by decide +kernel
theorem dX2_init_25 : decode cX2_init 25 = .ok (.aload_n 0, 1) := by decide +kernel
theorem dX2_init_26 : decode cX2_init 26 = .ok (.bipush 16, 2) := by decide +kernel
theorem dX2_init_28 : decode cX2_init 28 = .ok (.newarray .boolean, 2) := by decide +kernel
theorem dX2_init_30 : decode cX2_init 30 = .ok (.putfield 22, 3) := by decide +kernel
theorem dX2_init_33 : decode cX2_init 33 = .ok (.aload_n 0, 1) := by decide +kernel
theorem dX2_init_34 : decode cX2_init 34 = .ok (.bipush 8, 2) := by decide +kernel
theorem dX2_init_36 : decode cX2_init 36 = .ok (.newarray .int, 2) := by decide +kernel
theorem dX2_init_38 : decode cX2_init 38 = .ok (.putfield 26, 3) := by decide +kernel
theorem dX2_init_41 : decode cX2_init 41 = .ok (.aload_n 0, 1) := by decide +kernel
theorem dX2_init_42 : decode cX2_init 42 = .ok (.getfield 26, 3) := by decide +kernel
theorem dX2_init_45 : decode cX2_init 45 = .ok (.iconst (-1), 1) := by decide +kernel
theorem dX2_init_46 : decode cX2_init 46 = .ok (.invokestatic 30, 3) := by decide +kernel
theorem dX2_init_49 : decode cX2_init 49 = .ok (.return_, 1) := by decide +kernel
theorem dX2_setSpan_0 : decode cX2_setSpan 0 = .ok (.iload_n 1, 1) := by decide +kernel
theorem dX2_setSpan_1 : decode cX2_setSpan 1 = .ok (.ifCond .lt 31, 3) := by decide +kernel
theorem dX2_setSpan_4 : decode cX2_setSpan 4 = .ok (.iload_n 1, 1) := by decide +kernel
theorem dX2_setSpan_5 : decode cX2_setSpan 5 = .ok (.bipush 16, 2) := by decide +kernel
theorem dX2_setSpan_7 : decode cX2_setSpan 7 = .ok (.if_icmp .ge 25, 3) := by decide +kernel
theorem dX2_setSpan_10 : decode cX2_setSpan 10 = .ok (.lload_n 2, 1) := by decide +kernel
theorem dX2_setSpan_11 : decode cX2_setSpan 11 = .ok (.lconst 0, 1) := by decide +kernel
theorem dX2_setSpan_12 : decode cX2_setSpan 12 = .ok (.lcmp, 1) := by decide +kernel
theorem dX2_setSpan_13 : decode cX2_setSpan 13 = .ok (.ifCond .lt 19, 3) := by decide +kernel
theorem dX2_setSpan_16 : decode cX2_setSpan 16 = .ok (.lload_n 2, 1) := by decide +kernel
theorem dX2_setSpan_17 : decode cX2_setSpan 17 = .ok (.lload 4, 2) := by decide +kernel
theorem dX2_setSpan_19 : decode cX2_setSpan 19 = .ok (.lcmp, 1) := by decide +kernel
theorem dX2_setSpan_20 : decode cX2_setSpan 20 = .ok (.ifCond .gt 12, 3) := by decide +kernel
theorem dX2_setSpan_23 : decode cX2_setSpan 23 = .ok (.lload 4, 2) := by decide +kernel
theorem dX2_setSpan_25 : decode cX2_setSpan 25 = .ok (.ldc2_w 36, 3) := by decide +kernel
theorem dX2_setSpan_28 : decode cX2_setSpan 28 = .ok (.lcmp, 1) := by decide +kernel
theorem dX2_setSpan_29 : decode cX2_setSpan 29 = .ok (.ifCond .le 5, 3) := by decide +kernel
theorem dX2_setSpan_32 : decode cX2_setSpan 32 = .ok (.iconst 0, 1) := by decide +kernel
theorem dX2_setSpan_33 : decode cX2_setSpan 33 = .ok (.ireturn, 1) := by decide +kernel
theorem dX2_setSpan_34 : decode cX2_setSpan 34 = .ok (.aload_n 0, 1) := by decide +kernel
theorem dX2_setSpan_35 : decode cX2_setSpan 35 = .ok (.getfield 15, 3) := by decide +kernel
theorem dX2_setSpan_38 : decode cX2_setSpan 38 = .ok (.iload_n 1, 1) := by decide +kernel
theorem dX2_setSpan_39 : decode cX2_setSpan 39 = .ok (.lload_n 2, 1) := by decide +kernel
theorem dX2_setSpan_40 : decode cX2_setSpan 40 = .ok (.lastore, 1) := by decide +kernel
theorem dX2_setSpan_41 : decode cX2_setSpan 41 = .ok (.aload_n 0, 1) := by decide +kernel
theorem dX2_setSpan_42 : decode cX2_setSpan 42 = .ok (.getfield 19, 3) := by decide +kernel
theorem dX2_setSpan_45 : decode cX2_setSpan 45 = .ok (.iload_n 1, 1) := by decide +kernel
theorem dX2_setSpan_46 : decode cX2_setSpan 46 = .ok (.lload 4, 2) := by decide +kernel
theorem dX2_setSpan_48 : decode cX2_setSpan 48 = .ok (.lastore, 1) := by decide +kernel
theorem dX2_setSpan_49 : decode cX2_setSpan 49 = .ok (.aload_n 0, 1) := by decide +kernel
theorem dX2_setSpan_50 : decode cX2_setSpan 50 = .ok (.getfield 22, 3) := by decide +kernel
theorem dX2_setSpan_53 : decode cX2_setSpan 53 = .ok (.iload_n 1, 1) := by decide +kernel
theorem dX2_setSpan_54 : decode cX2_setSpan 54 = .ok (.iconst 1, 1) := by decide +kernel
theorem dX2_setSpan_55 : decode cX2_setSpan 55 = .ok (.bastore, 1) := by decide +kernel
theorem dX2_setSpan_56 : decode cX2_setSpan 56 = .ok (.iconst 1, 1) := by decide +kernel
theorem dX2_setSpan_57 : decode cX2_setSpan 57 = .ok (.ireturn, 1) := by decide +kernel
theorem dX2_setResult_0 : decode cX2_setResult 0 = .ok (.iload_n 1, 1) := by decide +kernel
theorem dX2_setResult_1 : decode cX2_setResult 1 = .ok (.ifCond .lt 20, 3) := by decide +kernel
theorem dX2_setResult_4 : decode cX2_setResult 4 = .ok (.iload_n 1, 1) := by decide +kernel
theorem dX2_setResult_5 : decode cX2_setResult 5 = .ok (.bipush 8, 2) := by decide +kernel
theorem dX2_setResult_7 : decode cX2_setResult 7 = .ok (.if_icmp .ge 14, 3) := by decide +kernel
theorem dX2_setResult_10 : decode cX2_setResult 10 = .ok (.iload_n 2, 1) := by decide +kernel
theorem dX2_setResult_11 : decode cX2_setResult 11 = .ok (.iconst (-1), 1) := by decide +kernel
theorem dX2_setResult_12 : decode cX2_setResult 12 = .ok (.if_icmp .lt 9, 3) := by decide +kernel
theorem dX2_setResult_15 : decode cX2_setResult 15 = .ok (.iload_n 2, 1) := by decide +kernel
theorem dX2_setResult_16 : decode cX2_setResult 16 = .ok (.bipush 10, 2) := by decide +kernel
theorem dX2_setResult_18 : decode cX2_setResult 18 = .ok (.if_icmp .lt 5, 3) := by decide +kernel
theorem dX2_setResult_21 : decode cX2_setResult 21 = .ok (.iconst 0, 1) := by decide +kernel
theorem dX2_setResult_22 : decode cX2_setResult 22 = .ok (.ireturn, 1) := by decide +kernel
theorem dX2_setResult_23 : decode cX2_setResult 23 = .ok (.aload_n 0, 1) := by decide +kernel
theorem dX2_setResult_24 : decode cX2_setResult 24 = .ok (.getfield 26, 3) := by decide +kernel
theorem dX2_setResult_27 : decode cX2_setResult 27 = .ok (.iload_n 1, 1) := by decide +kernel
theorem dX2_setResult_28 : decode cX2_setResult 28 = .ok (.iload_n 2, 1) := by decide +kernel
theorem dX2_setResult_29 : decode cX2_setResult 29 = .ok (.iastore, 1) := by decide +kernel
theorem dX2_setResult_30 : decode cX2_setResult 30 = .ok (.iconst 1, 1) := by decide +kernel
theorem dX2_setResult_31 : decode cX2_setResult 31 = .ok (.ireturn, 1) := by decide +kernel
set_option maxRecDepth 20000 in
theorem ggX2_forget_J7_fill_53178 : GoodIn wsX2_forget wsJ7_fill_53178 := goodIn_r _ [6] (by decide +kernel) (by decide +kernel)
set_option maxRecDepth 20000 in
theorem gX2_forget_J7_fill_53178 : GoodIn wsX2_forget (va_wsS RX2 30 yJ7_fill_53178 wsJ7_fill_53178) := goodIn_app (goodIn_of _ (by decide +kernel)) ggX2_forget_J7_fill_53178
theorem dX2_forget_0 : decode cX2_forget 0 = .ok (.iconst 0, 1) := by decide +kernel
theorem dX2_forget_1 : decode cX2_forget 1 = .ok (.istore_n 1, 1) := by decide +kernel
theorem dX2_forget_2 : decode cX2_forget 2 = .ok (.iload_n 1, 1) := by decide +kernel
theorem dX2_forget_3 : decode cX2_forget 3 = .ok (.bipush 16, 2) := by decide +kernel
theorem dX2_forget_5 : decode cX2_forget 5 = .ok (.if_icmp .ge 16, 3) := by decide +kernel
theorem dX2_forget_8 : decode cX2_forget 8 = .ok (.aload_n 0, 1) := by decide +kernel
theorem dX2_forget_9 : decode cX2_forget 9 = .ok (.getfield 22, 3) := by decide +kernel
theorem dX2_forget_12 : decode cX2_forget 12 = .ok (.iload_n 1, 1) := by decide +kernel
theorem dX2_forget_13 : decode cX2_forget 13 = .ok (.iconst 0, 1) := by decide +kernel
theorem dX2_forget_14 : decode cX2_forget 14 = .ok (.bastore, 1) := by decide +kernel
theorem dX2_forget_15 : decode cX2_forget 15 = .ok (.iinc 1 1, 3) := by decide +kernel
theorem dX2_forget_18 : decode cX2_forget 18 = .ok (.goto (-16), 3) := by decide +kernel
theorem dX2_forget_21 : decode cX2_forget 21 = .ok (.aload_n 0, 1) := by decide +kernel
theorem dX2_forget_22 : decode cX2_forget 22 = .ok (.getfield 26, 3) := by decide +kernel
theorem dX2_forget_25 : decode cX2_forget 25 = .ok (.iconst (-1), 1) := by decide +kernel
theorem dX2_forget_26 : decode cX2_forget 26 = .ok (.invokestatic 30, 3) := by decide +kernel
theorem dX2_forget_29 : decode cX2_forget 29 = .ok (.return_, 1) := by decide +kernel
theorem dX2_resultOf_0 : decode cX2_resultOf 0 = .ok (.iload_n 1, 1) := by decide +kernel
theorem dX2_resultOf_1 : decode cX2_resultOf 1 = .ok (.ifCond .lt 9, 3) := by decide +kernel
theorem dX2_resultOf_4 : decode cX2_resultOf 4 = .ok (.iload_n 1, 1) := by decide +kernel
theorem dX2_resultOf_5 : decode cX2_resultOf 5 = .ok (.bipush 8, 2) := by decide +kernel
theorem dX2_resultOf_7 : decode cX2_resultOf 7 = .ok (.if_icmp .lt 7, 3) := by decide +kernel
theorem dX2_resultOf_10 : decode cX2_resultOf 10 = .ok (.iconst (-1), 1) := by decide +kernel
theorem dX2_resultOf_11 : decode cX2_resultOf 11 = .ok (.goto 9, 3) := by decide +kernel
theorem dX2_resultOf_14 : decode cX2_resultOf 14 = .ok (.aload_n 0, 1) := by decide +kernel
theorem dX2_resultOf_15 : decode cX2_resultOf 15 = .ok (.getfield 26, 3) := by decide +kernel
theorem dX2_resultOf_18 : decode cX2_resultOf 18 = .ok (.iload_n 1, 1) := by decide +kernel
theorem dX2_resultOf_19 : decode cX2_resultOf 19 = .ok (.iaload, 1) := by decide +kernel
theorem dX2_resultOf_20 : decode cX2_resultOf 20 = .ok (.ireturn, 1) := by decide +kernel
theorem dX2_hasSpan_0 : decode cX2_hasSpan 0 = .ok (.iload_n 1, 1) := by decide +kernel
theorem dX2_hasSpan_1 : decode cX2_hasSpan 1 = .ok (.ifCond .lt 22, 3) := by decide +kernel
theorem dX2_hasSpan_4 : decode cX2_hasSpan 4 = .ok (.iload_n 1, 1) := by decide +kernel
theorem dX2_hasSpan_5 : decode cX2_hasSpan 5 = .ok (.bipush 16, 2) := by decide +kernel
theorem dX2_hasSpan_7 : decode cX2_hasSpan 7 = .ok (.if_icmp .ge 16, 3) := by decide +kernel
theorem dX2_hasSpan_10 : decode cX2_hasSpan 10 = .ok (.aload_n 0, 1) := by decide +kernel
theorem dX2_hasSpan_11 : decode cX2_hasSpan 11 = .ok (.getfield 22, 3) := by decide +kernel
theorem dX2_hasSpan_14 : decode cX2_hasSpan 14 = .ok (.iload_n 1, 1) := by decide +kernel
theorem dX2_hasSpan_15 : decode cX2_hasSpan 15 = .ok (.baload, 1) := by decide +kernel
theorem dX2_hasSpan_16 : decode cX2_hasSpan 16 = .ok (.ifCond .eq 7, 3) := by decide +kernel
theorem dX2_hasSpan_19 : decode cX2_hasSpan 19 = .ok (.iconst 1, 1) := by decide +kernel
theorem dX2_hasSpan_20 : decode cX2_hasSpan 20 = .ok (.goto 4, 3) := by decide +kernel
theorem dX2_hasSpan_23 : decode cX2_hasSpan 23 = .ok (.iconst 0, 1) := by decide +kernel
theorem dX2_hasSpan_24 : decode cX2_hasSpan 24 = .ok (.ireturn, 1) := by decide +kernel
set_option maxRecDepth 20000 in
theorem ggX2_testVerdict_X2_resultOf : GoodIn wsX2_testVerdict wsX2_resultOf := goodIn_r _ [8, 9, 17, 18, 19, 20, 21] (by decide +kernel) (by decide +kernel)
set_option maxRecDepth 20000 in
theorem gX2_testVerdict_X2_resultOf : GoodIn wsX2_testVerdict (wsV RX2 44 RX2 yX2_resultOf wsX2_resultOf) := goodIn_app (goodIn_of _ (by decide +kernel)) ggX2_testVerdict_X2_resultOf
theorem dX2_testVerdict_0 : decode cX2_testVerdict 0 = .ok (.aload_n 0, 1) := by decide +kernel
theorem dX2_testVerdict_1 : decode cX2_testVerdict 1 = .ok (.aload_n 1, 1) := by decide +kernel
theorem dX2_testVerdict_2 : decode cX2_testVerdict 2 = .ok (.getfield 38, 3) := by decide +kernel
theorem dX2_testVerdict_5 : decode cX2_testVerdict 5 = .ok (.invokevirtual 44, 3) := by decide +kernel
theorem dX2_testVerdict_8 : decode cX2_testVerdict 8 = .ok (.istore_n 2, 1) := by decide +kernel
theorem dX2_testVerdict_9 : decode cX2_testVerdict 9 = .ok (.iload_n 2, 1) := by decide +kernel
theorem dX2_testVerdict_10 : decode cX2_testVerdict 10 = .ok (.iconst (-1), 1) := by decide +kernel
theorem dX2_testVerdict_11 : decode cX2_testVerdict 11 = .ok (.if_icmp .ne 11, 3) := by decide +kernel
theorem dX2_testVerdict_14 : decode cX2_testVerdict 14 = .ok (.bipush 100, 2) := by decide +kernel
theorem dX2_testVerdict_16 : decode cX2_testVerdict 16 = .ok (.aload_n 1, 1) := by decide +kernel
theorem dX2_testVerdict_17 : decode cX2_testVerdict 17 = .ok (.getfield 38, 3) := by decide +kernel
theorem dX2_testVerdict_20 : decode cX2_testVerdict 20 = .ok (.iadd, 1) := by decide +kernel
theorem dX2_testVerdict_21 : decode cX2_testVerdict 21 = .ok (.ireturn, 1) := by decide +kernel
theorem dX2_testVerdict_22 : decode cX2_testVerdict 22 = .ok (.iload_n 2, 1) := by decide +kernel
theorem dX2_testVerdict_23 : decode cX2_testVerdict 23 = .ok (.aload_n 1, 1) := by decide +kernel
theorem dX2_testVerdict_24 : decode cX2_testVerdict 24 = .ok (.getfield 48, 3) := by decide +kernel
theorem dX2_testVerdict_27 : decode cX2_testVerdict 27 = .ok (.if_icmp .ne 7, 3) := by decide +kernel
theorem dX2_testVerdict_30 : decode cX2_testVerdict 30 = .ok (.iconst 1, 1) := by decide +kernel
theorem dX2_testVerdict_31 : decode cX2_testVerdict 31 = .ok (.goto 4, 3) := by decide +kernel
theorem dX2_testVerdict_34 : decode cX2_testVerdict 34 = .ok (.iconst 0, 1) := by decide +kernel
theorem dX2_testVerdict_35 : decode cX2_testVerdict 35 = .ok (.istore_n 3, 1) := by decide +kernel
theorem dX2_testVerdict_36 : decode cX2_testVerdict 36 = .ok (.iload_n 3, 1) := by decide +kernel
theorem dX2_testVerdict_37 : decode cX2_testVerdict 37 = .ok (.aload_n 1, 1) := by decide +kernel
theorem dX2_testVerdict_38 : decode cX2_testVerdict 38 = .ok (.getfield 51, 3) := by decide +kernel
theorem dX2_testVerdict_41 : decode cX2_testVerdict 41 = .ok (.if_icmp .eq 8, 3) := by decide +kernel
theorem dX2_testVerdict_44 : decode cX2_testVerdict 44 = .ok (.bipush (-2), 2) := by decide +kernel
theorem dX2_testVerdict_46 : decode cX2_testVerdict 46 = .ok (.goto 5, 3) := by decide +kernel
theorem dX2_testVerdict_49 : decode cX2_testVerdict 49 = .ok (.bipush (-3), 2) := by decide +kernel
theorem dX2_testVerdict_51 : decode cX2_testVerdict 51 = .ok (.ireturn, 1) := by decide +kernel
set_option maxRecDepth 20000 in
theorem ggX2_sumVerdict_X2_lackOf : GoodIn wsX2_sumVerdict wsX2_lackOf := goodIn_r _ [8, 9, 10, 11, 12, 13, 14, 15, 7, 16, 17, 36, 37, 38, 39, 40, 41, 42, 43, 44, 45, 46, 47, 48, 31, 32, 33, 34, 35] (by decide +kernel) (by decide +kernel)
set_option maxRecDepth 20000 in
theorem gX2_sumVerdict_X2_lackOf : GoodIn wsX2_sumVerdict (wsV RX2 54 RX2 yX2_lackOf wsX2_lackOf) := goodIn_app (goodIn_of _ (by decide +kernel)) ggX2_sumVerdict_X2_lackOf
set_option maxRecDepth 20000 in
theorem ggX2_sumVerdict_X2_sumAt : GoodIn wsX2_sumVerdict wsX2_sumAt := goodIn_r _ [21, 9, 10, 12, 22, 23, 24, 7, 25, 11, 26, 27, 28, 29, 30, 13, 14, 15, 16, 17, 36, 37, 38, 39, 40, 41, 42, 43, 44, 45, 46, 47, 48, 31, 32, 33, 34, 35] (by decide +kernel) (by decide +kernel)
set_option maxRecDepth 20000 in
theorem gX2_sumVerdict_X2_sumAt : GoodIn wsX2_sumVerdict (wsV RX2 58 RX2 yX2_sumAt wsX2_sumAt) := goodIn_app (goodIn_of _ (by decide +kernel)) ggX2_sumVerdict_X2_sumAt
theorem dX2_sumVerdict_0 : decode cX2_sumVerdict 0 = .ok (.aload_n 0, 1) := by decide +kernel
theorem dX2_sumVerdict_1 : decode cX2_sumVerdict 1 = .ok (.aload_n 1, 1) := by decide +kernel
theorem dX2_sumVerdict_2 : decode cX2_sumVerdict 2 = .ok (.invokevirtual 54, 3) := by decide +kernel
theorem dX2_sumVerdict_5 : decode cX2_sumVerdict 5 = .ok (.istore_n 2, 1) := by decide +kernel
theorem dX2_sumVerdict_6 : decode cX2_sumVerdict 6 = .ok (.iload_n 2, 1) := by decide +kernel
theorem dX2_sumVerdict_7 : decode cX2_sumVerdict 7 = .ok (.iconst (-1), 1) := by decide +kernel
theorem dX2_sumVerdict_8 : decode cX2_sumVerdict 8 = .ok (.if_icmp .eq 5, 3) := by decide +kernel
theorem dX2_sumVerdict_11 : decode cX2_sumVerdict 11 = .ok (.iload_n 2, 1) := by decide +kernel
theorem dX2_sumVerdict_12 : decode cX2_sumVerdict 12 = .ok (.ireturn, 1) := by decide +kernel
theorem dX2_sumVerdict_13 : decode cX2_sumVerdict 13 = .ok (.aload_n 0, 1) := by decide +kernel
theorem dX2_sumVerdict_14 : decode cX2_sumVerdict 14 = .ok (.aload_n 1, 1) := by decide +kernel
theorem dX2_sumVerdict_15 : decode cX2_sumVerdict 15 = .ok (.aload_n 0, 1) := by decide +kernel
theorem dX2_sumVerdict_16 : decode cX2_sumVerdict 16 = .ok (.getfield 9, 3) := by decide +kernel
theorem dX2_sumVerdict_19 : decode cX2_sumVerdict 19 = .ok (.aload_n 1, 1) := by decide +kernel
theorem dX2_sumVerdict_20 : decode cX2_sumVerdict 20 = .ok (.getfield 51, 3) := by decide +kernel
theorem dX2_sumVerdict_23 : decode cX2_sumVerdict 23 = .ok (.if_icmp .eq 7, 3) := by decide +kernel
theorem dX2_sumVerdict_26 : decode cX2_sumVerdict 26 = .ok (.iconst 1, 1) := by decide +kernel
theorem dX2_sumVerdict_27 : decode cX2_sumVerdict 27 = .ok (.goto 4, 3) := by decide +kernel
theorem dX2_sumVerdict_30 : decode cX2_sumVerdict 30 = .ok (.iconst 0, 1) := by decide +kernel
theorem dX2_sumVerdict_31 : decode cX2_sumVerdict 31 = .ok (.iconst (-1), 1) := by decide +kernel
theorem dX2_sumVerdict_32 : decode cX2_sumVerdict 32 = .ok (.invokevirtual 58, 3) := by decide +kernel
theorem dX2_sumVerdict_35 : decode cX2_sumVerdict 35 = .ok (.lstore_n 3, 1) := by decide +kernel
theorem dX2_sumVerdict_36 : decode cX2_sumVerdict 36 = .ok (.aload_n 1, 1) := by decide +kernel
theorem dX2_sumVerdict_37 : decode cX2_sumVerdict 37 = .ok (.getfield 51, 3) := by decide +kernel
theorem dX2_sumVerdict_40 : decode cX2_sumVerdict 40 = .ok (.ifCond .eq 21, 3) := by decide +kernel
theorem dX2_sumVerdict_43 : decode cX2_sumVerdict 43 = .ok (.lload_n 3, 1) := by decide +kernel
theorem dX2_sumVerdict_44 : decode cX2_sumVerdict 44 = .ok (.aload_n 1, 1) := by decide +kernel
theorem dX2_sumVerdict_45 : decode cX2_sumVerdict 45 = .ok (.getfield 48, 3) := by decide +kernel
theorem dX2_sumVerdict_48 : decode cX2_sumVerdict 48 = .ok (.i2l, 1) := by decide +kernel
theorem dX2_sumVerdict_49 : decode cX2_sumVerdict 49 = .ok (.lcmp, 1) := by decide +kernel
theorem dX2_sumVerdict_50 : decode cX2_sumVerdict 50 = .ok (.ifCond .ge 7, 3) := by decide +kernel
theorem dX2_sumVerdict_53 : decode cX2_sumVerdict 53 = .ok (.iconst 1, 1) := by decide +kernel
theorem dX2_sumVerdict_54 : decode cX2_sumVerdict 54 = .ok (.goto 22, 3) := by decide +kernel
theorem dX2_sumVerdict_57 : decode cX2_sumVerdict 57 = .ok (.iconst 0, 1) := by decide +kernel
theorem dX2_sumVerdict_58 : decode cX2_sumVerdict 58 = .ok (.goto 18, 3) := by decide +kernel
theorem dX2_sumVerdict_61 : decode cX2_sumVerdict 61 = .ok (.lload_n 3, 1) := by decide +kernel
theorem dX2_sumVerdict_62 : decode cX2_sumVerdict 62 = .ok (.aload_n 1, 1) := by decide +kernel
theorem dX2_sumVerdict_63 : decode cX2_sumVerdict 63 = .ok (.getfield 48, 3) := by decide +kernel
theorem dX2_sumVerdict_66 : decode cX2_sumVerdict 66 = .ok (.i2l, 1) := by decide +kernel
theorem dX2_sumVerdict_67 : decode cX2_sumVerdict 67 = .ok (.lcmp, 1) := by decide +kernel
theorem dX2_sumVerdict_68 : decode cX2_sumVerdict 68 = .ok (.ifCond .le 7, 3) := by decide +kernel
theorem dX2_sumVerdict_71 : decode cX2_sumVerdict 71 = .ok (.iconst 1, 1) := by decide +kernel
theorem dX2_sumVerdict_72 : decode cX2_sumVerdict 72 = .ok (.goto 4, 3) := by decide +kernel
theorem dX2_sumVerdict_75 : decode cX2_sumVerdict 75 = .ok (.iconst 0, 1) := by decide +kernel
theorem dX2_sumVerdict_76 : decode cX2_sumVerdict 76 = .ok (.istore 5, 2) := by decide +kernel
theorem dX2_sumVerdict_78 : decode cX2_sumVerdict 78 = .ok (.iload 5, 2) := by decide +kernel
theorem dX2_sumVerdict_80 : decode cX2_sumVerdict 80 = .ok (.ifCond .eq 8, 3) := by decide +kernel
theorem dX2_sumVerdict_83 : decode cX2_sumVerdict 83 = .ok (.bipush (-2), 2) := by decide +kernel
theorem dX2_sumVerdict_85 : decode cX2_sumVerdict 85 = .ok (.goto 5, 3) := by decide +kernel
theorem dX2_sumVerdict_88 : decode cX2_sumVerdict 88 = .ok (.bipush (-3), 2) := by decide +kernel
theorem dX2_sumVerdict_90 : decode cX2_sumVerdict 90 = .ok (.ireturn, 1) := by decide +kernel
set_option maxRecDepth 20000 in
theorem ggX2_lackOf_X2_hasSpan : GoodIn wsX2_lackOf wsX2_hasSpan := goodIn_r _ [9, 10, 24, 25, 26, 27, 28] (by decide +kernel) (by decide +kernel)
set_option maxRecDepth 20000 in
theorem gX2_lackOf_X2_hasSpan : GoodIn wsX2_lackOf (wsV RX2 71 RX2 yX2_hasSpan wsX2_hasSpan) := goodIn_app (goodIn_of _ (by decide +kernel)) ggX2_lackOf_X2_hasSpan
theorem dX2_lackOf_0 : decode cX2_lackOf 0 = .ok (.aload_n 1, 1) := by decide +kernel
theorem dX2_lackOf_1 : decode cX2_lackOf 1 = .ok (.getfield 62, 3) := by decide +kernel
theorem dX2_lackOf_4 : decode cX2_lackOf 4 = .ok (.astore_n 2, 1) := by decide +kernel
theorem dX2_lackOf_5 : decode cX2_lackOf 5 = .ok (.aload_n 2, 1) := by decide +kernel
theorem dX2_lackOf_6 : decode cX2_lackOf 6 = .ok (.ifnull 43, 3) := by decide +kernel
theorem dX2_lackOf_9 : decode cX2_lackOf 9 = .ok (.aload_n 0, 1) := by decide +kernel
theorem dX2_lackOf_10 : decode cX2_lackOf 10 = .ok (.aload_n 2, 1) := by decide +kernel
theorem dX2_lackOf_11 : decode cX2_lackOf 11 = .ok (.getfield 66, 3) := by decide +kernel
theorem dX2_lackOf_14 : decode cX2_lackOf 14 = .ok (.invokevirtual 71, 3) := by decide +kernel
theorem dX2_lackOf_17 : decode cX2_lackOf 17 = .ok (.ifCond .ne 8, 3) := by decide +kernel
theorem dX2_lackOf_20 : decode cX2_lackOf 20 = .ok (.aload_n 2, 1) := by decide +kernel
theorem dX2_lackOf_21 : decode cX2_lackOf 21 = .ok (.getfield 66, 3) := by decide +kernel
theorem dX2_lackOf_24 : decode cX2_lackOf 24 = .ok (.ireturn, 1) := by decide +kernel
theorem dX2_lackOf_25 : decode cX2_lackOf 25 = .ok (.aload_n 2, 1) := by decide +kernel
theorem dX2_lackOf_26 : decode cX2_lackOf 26 = .ok (.getfield 75, 3) := by decide +kernel
theorem dX2_lackOf_29 : decode cX2_lackOf 29 = .ok (.ifCond .ne 12, 3) := by decide +kernel
theorem dX2_lackOf_32 : decode cX2_lackOf 32 = .ok (.sipush 200, 3) := by decide +kernel
theorem dX2_lackOf_35 : decode cX2_lackOf 35 = .ok (.aload_n 2, 1) := by decide +kernel
theorem dX2_lackOf_36 : decode cX2_lackOf 36 = .ok (.getfield 66, 3) := by decide +kernel
theorem dX2_lackOf_39 : decode cX2_lackOf 39 = .ok (.iadd, 1) := by decide +kernel
theorem dX2_lackOf_40 : decode cX2_lackOf 40 = .ok (.ireturn, 1) := by decide +kernel
theorem dX2_lackOf_41 : decode cX2_lackOf 41 = .ok (.aload_n 2, 1) := by decide +kernel
theorem dX2_lackOf_42 : decode cX2_lackOf 42 = .ok (.getfield 78, 3) := by decide +kernel
theorem dX2_lackOf_45 : decode cX2_lackOf 45 = .ok (.astore_n 2, 1) := by decide +kernel
theorem dX2_lackOf_46 : decode cX2_lackOf 46 = .ok (.goto (-41), 3) := by decide +kernel
theorem dX2_lackOf_49 : decode cX2_lackOf 49 = .ok (.iconst (-1), 1) := by decide +kernel
theorem dX2_lackOf_50 : decode cX2_lackOf 50 = .ok (.ireturn, 1) := by decide +kernel
set_option maxRecDepth 20000 in
theorem ggX2_sumAt_X2_shareOf : GoodIn wsX2_sumAt wsX2_shareOf := goodIn_r _ [8, 2, 9, 10, 11, 12, 13, 14, 15, 16, 17, 7, 18, 19, 27, 28, 29, 30, 31, 32, 33, 34, 35, 36, 37] (by decide +kernel) (by decide +kernel)
set_option maxRecDepth 20000 in
theorem gX2_sumAt_X2_shareOf : GoodIn wsX2_sumAt (wsV RX2 81 RX2 yX2_shareOf wsX2_shareOf) := goodIn_app (goodIn_of _ (by decide +kernel)) ggX2_sumAt_X2_shareOf
theorem dX2_sumAt_0 : decode cX2_sumAt 0 = .ok (.lconst 0, 1) := by decide +kernel
theorem dX2_sumAt_1 : decode cX2_sumAt 1 = .ok (.lstore 4, 2) := by decide +kernel
theorem dX2_sumAt_3 : decode cX2_sumAt 3 = .ok (.aload_n 1, 1) := by decide +kernel
theorem dX2_sumAt_4 : decode cX2_sumAt 4 = .ok (.getfield 62, 3) := by decide +kernel
theorem dX2_sumAt_7 : decode cX2_sumAt 7 = .ok (.astore 6, 2) := by decide +kernel
theorem dX2_sumAt_9 : decode cX2_sumAt 9 = .ok (.aload 6, 2) := by decide +kernel
theorem dX2_sumAt_11 : decode cX2_sumAt 11 = .ok (.ifnull 39, 3) := by decide +kernel
theorem dX2_sumAt_14 : decode cX2_sumAt 14 = .ok (.iload_n 3, 1) := by decide +kernel
theorem dX2_sumAt_15 : decode cX2_sumAt 15 = .ok (.iconst (-1), 1) := by decide +kernel
theorem dX2_sumAt_16 : decode cX2_sumAt 16 = .ok (.if_icmp .eq 12, 3) := by decide +kernel
theorem dX2_sumAt_19 : decode cX2_sumAt 19 = .ok (.iload_n 3, 1) := by decide +kernel
theorem dX2_sumAt_20 : decode cX2_sumAt 20 = .ok (.aload 6, 2) := by decide +kernel
theorem dX2_sumAt_22 : decode cX2_sumAt 22 = .ok (.getfield 66, 3) := by decide +kernel
theorem dX2_sumAt_25 : decode cX2_sumAt 25 = .ok (.if_icmp .ne 15, 3) := by decide +kernel
theorem dX2_sumAt_28 : decode cX2_sumAt 28 = .ok (.lload 4, 2) := by decide +kernel
theorem dX2_sumAt_30 : decode cX2_sumAt 30 = .ok (.aload_n 0, 1) := by decide +kernel
theorem dX2_sumAt_31 : decode cX2_sumAt 31 = .ok (.aload 6, 2) := by decide +kernel
theorem dX2_sumAt_33 : decode cX2_sumAt 33 = .ok (.iload_n 2, 1) := by decide +kernel
theorem dX2_sumAt_34 : decode cX2_sumAt 34 = .ok (.invokevirtual 81, 3) := by decide +kernel
theorem dX2_sumAt_37 : decode cX2_sumAt 37 = .ok (.ladd, 1) := by decide +kernel
theorem dX2_sumAt_38 : decode cX2_sumAt 38 = .ok (.lstore 4, 2) := by decide +kernel
theorem dX2_sumAt_40 : decode cX2_sumAt 40 = .ok (.aload 6, 2) := by decide +kernel
theorem dX2_sumAt_42 : decode cX2_sumAt 42 = .ok (.getfield 78, 3) := by decide +kernel
theorem dX2_sumAt_45 : decode cX2_sumAt 45 = .ok (.astore 6, 2) := by decide +kernel
theorem dX2_sumAt_47 : decode cX2_sumAt 47 = .ok (.goto (-38), 3) := by decide +kernel
theorem dX2_sumAt_50 : decode cX2_sumAt 50 = .ok (.lload 4, 2) := by decide +kernel
theorem dX2_sumAt_52 : decode cX2_sumAt 52 = .ok (.lreturn, 1) := by decide +kernel
set_option maxRecDepth 20000 in
theorem ggX2_shareOf_X2_hasSpan : GoodIn wsX2_shareOf wsX2_hasSpan := goodIn_r _ [12, 13, 20, 21, 22, 23, 24] (by decide +kernel) (by decide +kernel)
set_option maxRecDepth 20000 in
theorem gX2_shareOf_X2_hasSpan : GoodIn wsX2_shareOf (wsV RX2 71 RX2 yX2_hasSpan wsX2_hasSpan) := goodIn_app (goodIn_of _ (by decide +kernel)) ggX2_shareOf_X2_hasSpan
theorem dX2_shareOf_0 : decode cX2_shareOf 0 = .ok (.aload_n 0, 1) := by decide +kernel
theorem dX2_shareOf_1 : decode cX2_shareOf 1 = .ok (.aload_n 1, 1) := by decide +kernel
theorem dX2_shareOf_2 : decode cX2_shareOf 2 = .ok (.getfield 66, 3) := by decide +kernel
theorem dX2_shareOf_5 : decode cX2_shareOf 5 = .ok (.invokevirtual 71, 3) := by decide +kernel
theorem dX2_shareOf_8 : decode cX2_shareOf 8 = .ok (.ifCond .eq 10, 3) := by decide +kernel
theorem dX2_shareOf_11 : decode cX2_shareOf 11 = .ok (.aload_n 1, 1) := by decide +kernel
theorem dX2_shareOf_12 : decode cX2_shareOf 12 = .ok (.getfield 75, 3) := by decide +kernel
theorem dX2_shareOf_15 : decode cX2_shareOf 15 = .ok (.ifCond .ne 5, 3) := by decide +kernel
theorem dX2_shareOf_18 : decode cX2_shareOf 18 = .ok (.lconst 0, 1) := by decide +kernel
theorem dX2_shareOf_19 : decode cX2_shareOf 19 = .ok (.lreturn, 1) := by decide +kernel
theorem dX2_shareOf_20 : decode cX2_shareOf 20 = .ok (.iload_n 2, 1) := by decide +kernel
theorem dX2_shareOf_21 : decode cX2_shareOf 21 = .ok (.aload_n 1, 1) := by decide +kernel
theorem dX2_shareOf_22 : decode cX2_shareOf 22 = .ok (.getfield 85, 3) := by decide +kernel
theorem dX2_shareOf_25 : decode cX2_shareOf 25 = .ok (.if_icmp .eq 15, 3) := by decide +kernel
theorem dX2_shareOf_28 : decode cX2_shareOf 28 = .ok (.aload_n 0, 1) := by decide +kernel
theorem dX2_shareOf_29 : decode cX2_shareOf 29 = .ok (.getfield 19, 3) := by decide +kernel
theorem dX2_shareOf_32 : decode cX2_shareOf 32 = .ok (.aload_n 1, 1) := by decide +kernel
theorem dX2_shareOf_33 : decode cX2_shareOf 33 = .ok (.getfield 66, 3) := by decide +kernel
theorem dX2_shareOf_36 : decode cX2_shareOf 36 = .ok (.laload, 1) := by decide +kernel
theorem dX2_shareOf_37 : decode cX2_shareOf 37 = .ok (.goto 12, 3) := by decide +kernel
theorem dX2_shareOf_40 : decode cX2_shareOf 40 = .ok (.aload_n 0, 1) := by decide +kernel
theorem dX2_shareOf_41 : decode cX2_shareOf 41 = .ok (.getfield 15, 3) := by decide +kernel
theorem dX2_shareOf_44 : decode cX2_shareOf 44 = .ok (.aload_n 1, 1) := by decide +kernel
theorem dX2_shareOf_45 : decode cX2_shareOf 45 = .ok (.getfield 66, 3) := by decide +kernel
theorem dX2_shareOf_48 : decode cX2_shareOf 48 = .ok (.laload, 1) := by decide +kernel
theorem dX2_shareOf_49 : decode cX2_shareOf 49 = .ok (.lstore_n 3, 1) := by decide +kernel
theorem dX2_shareOf_50 : decode cX2_shareOf 50 = .ok (.lload_n 3, 1) := by decide +kernel
theorem dX2_shareOf_51 : decode cX2_shareOf 51 = .ok (.aload_n 1, 1) := by decide +kernel
theorem dX2_shareOf_52 : decode cX2_shareOf 52 = .ok (.getfield 88, 3) := by decide +kernel
theorem dX2_shareOf_55 : decode cX2_shareOf 55 = .ok (.i2l, 1) := by decide +kernel
theorem dX2_shareOf_56 : decode cX2_shareOf 56 = .ok (.lcmp, 1) := by decide +kernel
theorem dX2_shareOf_57 : decode cX2_shareOf 57 = .ok (.ifCond .ge 5, 3) := by decide +kernel
theorem dX2_shareOf_60 : decode cX2_shareOf 60 = .ok (.lconst 0, 1) := by decide +kernel
theorem dX2_shareOf_61 : decode cX2_shareOf 61 = .ok (.lstore_n 3, 1) := by decide +kernel
theorem dX2_shareOf_62 : decode cX2_shareOf 62 = .ok (.lload_n 3, 1) := by decide +kernel
theorem dX2_shareOf_63 : decode cX2_shareOf 63 = .ok (.aload_n 1, 1) := by decide +kernel
theorem dX2_shareOf_64 : decode cX2_shareOf 64 = .ok (.getfield 91, 3) := by decide +kernel
theorem dX2_shareOf_67 : decode cX2_shareOf 67 = .ok (.i2l, 1) := by decide +kernel
theorem dX2_shareOf_68 : decode cX2_shareOf 68 = .ok (.lmul, 1) := by decide +kernel
theorem dX2_shareOf_69 : decode cX2_shareOf 69 = .ok (.aload_n 1, 1) := by decide +kernel
theorem dX2_shareOf_70 : decode cX2_shareOf 70 = .ok (.getfield 75, 3) := by decide +kernel
theorem dX2_shareOf_73 : decode cX2_shareOf 73 = .ok (.i2l, 1) := by decide +kernel
theorem dX2_shareOf_74 : decode cX2_shareOf 74 = .ok (.ldiv, 1) := by decide +kernel
theorem dX2_shareOf_75 : decode cX2_shareOf 75 = .ok (.lstore 5, 2) := by decide +kernel
theorem dX2_shareOf_77 : decode cX2_shareOf 77 = .ok (.aload_n 1, 1) := by decide +kernel
theorem dX2_shareOf_78 : decode cX2_shareOf 78 = .ok (.getfield 85, 3) := by decide +kernel
theorem dX2_shareOf_81 : decode cX2_shareOf 81 = .ok (.ifCond .eq 9, 3) := by decide +kernel
theorem dX2_shareOf_84 : decode cX2_shareOf 84 = .ok (.lload 5, 2) := by decide +kernel
theorem dX2_shareOf_86 : decode cX2_shareOf 86 = .ok (.lneg, 1) := by decide +kernel
theorem dX2_shareOf_87 : decode cX2_shareOf 87 = .ok (.goto 5, 3) := by decide +kernel
theorem dX2_shareOf_90 : decode cX2_shareOf 90 = .ok (.lload 5, 2) := by decide +kernel
theorem dX2_shareOf_92 : decode cX2_shareOf 92 = .ok (.lreturn, 1) := by decide +kernel
theorem dX3_init_0 : decode cX3_init 0 = .ok (.aload_n 0, 1) := by decide +kernel
theorem dX3_init_1 : decode cX3_init 1 = .ok (.invokespecial 3, 3) := by decide +kernel
theorem dX3_init_4 : decode cX3_init 4 = .ok (.aload_n 0, 1) := by decide +kernel
theorem dX3_init_5 : decode cX3_init 5 = .ok (.iconst 0, 1) := by decide +kernel
theorem dX3_init_6 : decode cX3_init 6 = .ok (.putfield 9, 3) := by decide +kernel
theorem dX3_init_9 : decode cX3_init 9 = .ok (.aload_n 0, 1) := by decide +kernel
theorem dX3_init_10 : decode cX3_init 10 = .ok (.iconst (-1), 1) := by decide +kernel
theorem dX3_init_11 : decode cX3_init 11 = .ok (.putfield 15, 3) := by decide +kernel
theorem dX3_init_14 : decode cX3_init 14 = .ok (.aload_n 0, 1) := by decide +kernel
theorem dX3_init_15 : decode cX3_init 15 = .ok (.aconst_null, 1) := by decide +kernel
theorem dX3_init_16 : decode cX3_init 16 = .ok (.putfield 19, 3) := by decide +kernel
theorem dX3_init_19 : decode cX3_init 19 = .ok (.aload_n 0, 1) := by decide +kernel
theorem dX3_init_20 : decode cX3_init 20 = .ok (.aconst_null, 1) := by decide +kernel
theorem dX3_init_21 : decode cX3_init 21 = .ok (.putfield 23, 3) := by decide +kernel
theorem dX3_init_24 : decode cX3_init 24 = .ok (.aload_n 0, 1) := by decide +kernel
theorem dX3_init_25 : decode cX3_init 25 = .ok (.aconst_null, 1) := by decide +kernel
theorem dX3_init_26 : decode cX3_init 26 = .ok (.putfield 27, 3) := by decide +kernel
theorem dX3_init_29 : decode cX3_init 29 = .ok (.aload_n 0, 1) := by decide +kernel
theorem dX3_init_30 : decode cX3_init 30 = .ok (.iload_n 1, 1) := by decide +kernel
theorem dX3_init_31 : decode cX3_init 31 = .ok (.putfield 30, 3) := by decide +kernel
theorem dX3_init_34 : decode cX3_init 34 = .ok (.aload_n 0, 1) := by decide +kernel
theorem dX3_init_35 : decode cX3_init 35 = .ok (.iload_n 2, 1) := by decide +kernel
theorem dX3_init_36 : decode cX3_init 36 = .ok (.putfield 33, 3) := by decide +kernel
theorem dX3_init_39 : decode cX3_init 39 = .ok (.return_, 1) := by decide +kernel
theorem dX3_addTerm_0 : decode cX3_addTerm 0 = .ok (.aload_n 0, 1) := by decide +kernel
theorem dX3_addTerm_1 : decode cX3_addTerm 1 = .ok (.getfield 27, 3) := by decide +kernel
theorem dX3_addTerm_4 : decode cX3_addTerm 4 = .ok (.ifnonnull 11, 3) := by decide +kernel
theorem dX3_addTerm_7 : decode cX3_addTerm 7 = .ok (.aload_n 0, 1) := by decide +kernel
theorem dX3_addTerm_8 : decode cX3_addTerm 8 = .ok (.aload_n 1, 1) := by decide +kernel
theorem dX3_addTerm_9 : decode cX3_addTerm 9 = .ok (.putfield 23, 3) := by decide +kernel
theorem dX3_addTerm_12 : decode cX3_addTerm 12 = .ok (.goto 11, 3) := by decide +kernel
theorem dX3_addTerm_15 : decode cX3_addTerm 15 = .ok (.aload_n 0, 1) := by decide +kernel
theorem dX3_addTerm_16 : decode cX3_addTerm 16 = .ok (.getfield 27, 3) := by decide +kernel
theorem dX3_addTerm_19 : decode cX3_addTerm 19 = .ok (.aload_n 1, 1) := by decide +kernel
theorem dX3_addTerm_20 : decode cX3_addTerm 20 = .ok (.putfield 36, 3) := by decide +kernel
theorem dX3_addTerm_23 : decode cX3_addTerm 23 = .ok (.aload_n 0, 1) := by decide +kernel
theorem dX3_addTerm_24 : decode cX3_addTerm 24 = .ok (.aload_n 1, 1) := by decide +kernel
theorem dX3_addTerm_25 : decode cX3_addTerm 25 = .ok (.putfield 27, 3) := by decide +kernel
theorem dX3_addTerm_28 : decode cX3_addTerm 28 = .ok (.return_, 1) := by decide +kernel
set_option maxRecDepth 20000 in
theorem ggX5_init_X0_init : GoodIn wsX5_init wsX0_init := goodIn_r _ [10, 11, 2, 3, 12, 13, 14, 15, 16, 17, 18, 19, 20, 21, 22, 23, 24, 25] (by decide +kernel) (by decide +kernel)
set_option maxRecDepth 20000 in
theorem gX5_init_X0_init_n11 : GoodIn wsX5_init (wsX0_init) := ggX5_init_X0_init
