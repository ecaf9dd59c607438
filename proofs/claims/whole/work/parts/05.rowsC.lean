theorem dX9_init_0 : decode cX9_init 0 = .ok (.aload_n 0, 1) := by decide +kernel
theorem dX9_init_1 : decode cX9_init 1 = .ok (.invokespecial 1, 3) := by decide +kernel
theorem dX9_init_4 : decode cX9_init 4 = .ok (.aload_n 0, 1) := by decide +kernel
theorem dX9_init_5 : decode cX9_init 5 = .ok (.sipush 3000, 3) := by decide +kernel
theorem dX9_init_8 : decode cX9_init 8 = .ok (.newarray .byte, 2) := by decide +kernel
theorem dX9_init_10 : decode cX9_init 10 = .ok (.putfield 9, 3) := by decide +kernel
theorem dX9_init_13 : decode cX9_init 13 = .ok (.aload_n 0, 1) := by decide +kernel
theorem dX9_init_14 : decode cX9_init 14 = .ok (.iconst 0, 1) := by decide +kernel
theorem dX9_init_15 : decode cX9_init 15 = .ok (.putfield 13, 3) := by decide +kernel
theorem dX9_init_18 : decode cX9_init 18 = .ok (.aload_n 0, 1) := by decide +kernel
theorem dX9_init_19 : decode cX9_init 19 = .ok (.sipush 3000, 3) := by decide +kernel
theorem dX9_init_22 : decode cX9_init 22 = .ok (.newarray .byte, 2) := by decide +kernel
theorem dX9_init_24 : decode cX9_init 24 = .ok (.putfield 17, 3) := by decide +kernel
theorem dX9_init_27 : decode cX9_init 27 = .ok (.aload_n 0, 1) := by decide +kernel
theorem dX9_init_28 : decode cX9_init 28 = .ok (.iconst 0, 1) := by decide +kernel
theorem dX9_init_29 : decode cX9_init 29 = .ok (.putfield 20, 3) := by decide +kernel
theorem dX9_init_32 : decode cX9_init 32 = .ok (.aload_n 0, 1) := by decide +kernel
theorem dX9_init_33 : decode cX9_init 33 = .ok (.new 23, 3) := by decide +kernel
theorem dX9_init_36 : decode cX9_init 36 = .ok (.dup, 1) := by decide +kernel
theorem dX9_init_37 : decode cX9_init 37 = .ok (.invokespecial 25, 3) := by decide +kernel
theorem dX9_init_40 : decode cX9_init 40 = .ok (.putfield 26, 3) := by decide +kernel
theorem dX9_init_43 : decode cX9_init 43 = .ok (.aload_n 0, 1) := by decide +kernel
theorem dX9_init_44 : decode cX9_init 44 = .ok (.new 30, 3) := by decide +kernel
theorem dX9_init_47 : decode cX9_init 47 = .ok (.dup, 1) := by decide +kernel
theorem dX9_init_48 : decode cX9_init 48 = .ok (.invokespecial 32, 3) := by decide +kernel
theorem dX9_init_51 : decode cX9_init 51 = .ok (.putfield 33, 3) := by decide +kernel
theorem dX9_init_54 : decode cX9_init 54 = .ok (.aload_n 0, 1) := by decide +kernel
theorem dX9_init_55 : decode cX9_init 55 = .ok (.new 37, 3) := by decide +kernel
theorem dX9_init_58 : decode cX9_init 58 = .ok (.dup, 1) := by decide +kernel
theorem dX9_init_59 : decode cX9_init 59 = .ok (.invokespecial 39, 3) := by decide +kernel
theorem dX9_init_62 : decode cX9_init 62 = .ok (.putfield 40, 3) := by decide +kernel
theorem dX9_init_65 : decode cX9_init 65 = .ok (.return_, 1) := by decide +kernel
theorem dX9_unit_0 : decode cX9_unit 0 = .ok (.iload_n 1, 1) := by decide +kernel
theorem dX9_unit_1 : decode cX9_unit 1 = .ok (.ifCond .lt 22, 3) := by decide +kernel
theorem dX9_unit_4 : decode cX9_unit 4 = .ok (.iload_n 1, 1) := by decide +kernel
theorem dX9_unit_5 : decode cX9_unit 5 = .ok (.sipush 255, 3) := by decide +kernel
theorem dX9_unit_8 : decode cX9_unit 8 = .ok (.if_icmp .gt 15, 3) := by decide +kernel
theorem dX9_unit_11 : decode cX9_unit 11 = .ok (.aload_n 0, 1) := by decide +kernel
theorem dX9_unit_12 : decode cX9_unit 12 = .ok (.getfield 13, 3) := by decide +kernel
theorem dX9_unit_15 : decode cX9_unit 15 = .ok (.aload_n 0, 1) := by decide +kernel
theorem dX9_unit_16 : decode cX9_unit 16 = .ok (.getfield 9, 3) := by decide +kernel
theorem dX9_unit_19 : decode cX9_unit 19 = .ok (.arraylength, 1) := by decide +kernel
theorem dX9_unit_20 : decode cX9_unit 20 = .ok (.if_icmp .lt 5, 3) := by decide +kernel
theorem dX9_unit_23 : decode cX9_unit 23 = .ok (.iconst 0, 1) := by decide +kernel
theorem dX9_unit_24 : decode cX9_unit 24 = .ok (.ireturn, 1) := by decide +kernel
theorem dX9_unit_25 : decode cX9_unit 25 = .ok (.aload_n 0, 1) := by decide +kernel
theorem dX9_unit_26 : decode cX9_unit 26 = .ok (.getfield 9, 3) := by decide +kernel
theorem dX9_unit_29 : decode cX9_unit 29 = .ok (.aload_n 0, 1) := by decide +kernel
theorem dX9_unit_30 : decode cX9_unit 30 = .ok (.getfield 13, 3) := by decide +kernel
theorem dX9_unit_33 : decode cX9_unit 33 = .ok (.iload_n 1, 1) := by decide +kernel
theorem dX9_unit_34 : decode cX9_unit 34 = .ok (.i2b, 1) := by decide +kernel
theorem dX9_unit_35 : decode cX9_unit 35 = .ok (.bastore, 1) := by decide +kernel
theorem dX9_unit_36 : decode cX9_unit 36 = .ok (.aload_n 0, 1) := by decide +kernel
theorem dX9_unit_37 : decode cX9_unit 37 = .ok (.dup, 1) := by decide +kernel
theorem dX9_unit_38 : decode cX9_unit 38 = .ok (.getfield 13, 3) := by decide +kernel
theorem dX9_unit_41 : decode cX9_unit 41 = .ok (.iconst 1, 1) := by decide +kernel
theorem dX9_unit_42 : decode cX9_unit 42 = .ok (.iadd, 1) := by decide +kernel
theorem dX9_unit_43 : decode cX9_unit 43 = .ok (.putfield 13, 3) := by decide +kernel
theorem dX9_unit_46 : decode cX9_unit 46 = .ok (.iconst 1, 1) := by decide +kernel
theorem dX9_unit_47 : decode cX9_unit 47 = .ok (.ireturn, 1) := by decide +kernel
set_option maxRecDepth 20000 in
theorem ggX9_read_X8_split : GoodIn wsX9_read wsX8_split := goodIn_r _ [15, 16, 17, 18, 19, 20, 21, 22, 23, 24, 25, 26, 27, 14, 28, 29, 30, 31, 32, 33, 34, 35, 36, 37, 38, 39, 40, 41, 42, 43, 44, 45, 46, 47, 48, 49, 50, 51, 52, 53, 54, 55, 56, 57, 58, 59, 60, 61, 62, 63, 64, 65, 66, 67, 68, 69, 70, 71, 72, 73, 74, 75, 76, 77, 78, 79, 80, 81, 82, 83, 84, 85, 278, 279, 280] (by decide +kernel) (by decide +kernel)
set_option maxRecDepth 20000 in
theorem gX9_read_X8_split : GoodIn wsX9_read (wsV RX9 44 RX8 yX8_split wsX8_split) := goodIn_app (goodIn_of _ (by decide +kernel)) ggX9_read_X8_split
set_option maxRecDepth 20000 in
theorem ggX9_read_X5_init : GoodIn wsX9_read wsX5_init := goodIn_r _ [88, 89, 90, 91, 92, 93, 94, 95, 96, 97, 98, 99, 100, 101, 102, 103, 104, 105, 106, 271, 272, 273, 274, 275, 276, 277, 269, 270] (by decide +kernel) (by decide +kernel)
set_option maxRecDepth 20000 in
theorem gX9_read_X5_init : GoodIn wsX9_read (wsX5_init) := ggX9_read_X5_init
set_option maxRecDepth 20000 in
theorem ggX9_read_X5_readText : GoodIn wsX9_read wsX5_readText := goodIn_r _ [110, 96, 111, 112, 113, 114, 14, 115, 21, 20, 116, 117, 118, 119, 22, 30, 120, 121, 122, 6, 123, 95, 124, 125, 126, 127, 94, 128, 104, 129, 130, 131, 132, 133, 134, 135, 136, 137, 138, 139, 140, 103, 141, 105, 142, 143, 144, 145, 90, 91, 146, 147, 148, 149, 150, 151, 152, 153, 154, 155, 156, 157, 158, 159, 160, 161, 162, 163, 164, 165, 166, 167, 168, 169, 170, 171, 172, 173, 174, 175, 176, 177, 178, 179, 180, 181, 182, 183, 184, 185, 186, 187, 188, 189, 190, 191, 192, 193, 194, 195, 196, 197, 198, 199, 200, 201, 202, 203, 204, 205, 206, 207, 208, 209, 210, 211, 212, 213, 214, 215, 216, 217, 218, 219, 220, 221, 222, 223, 224, 225, 226, 227, 228, 229, 230, 231, 232, 233, 234, 235, 236, 237, 238, 239, 240, 241, 242, 243, 244, 245, 246, 247, 102, 248, 249, 101, 100, 250, 269, 270, 278, 279, 280, 271, 272, 273, 274, 275, 276, 277, 281, 282, 283, 284, 285, 286, 287, 288, 289, 290, 291, 292, 293, 294, 295, 296, 297, 298, 299, 300, 301, 302, 303, 304] (by decide +kernel) (by decide +kernel)
set_option maxRecDepth 20000 in
theorem gX9_read_X5_readText : GoodIn wsX9_read (wsV RX9 53 RX5 yX5_readText wsX5_readText) := goodIn_app (goodIn_of _ (by decide +kernel)) ggX9_read_X5_readText
set_option maxRecDepth 20000 in
theorem ggX9_read_X9_keepText : GoodIn wsX9_read wsX9_keepText := goodIn_r _ [254, 255, 3, 2, 256, 23, 24, 25, 257, 258, 259, 260, 261, 262, 263, 264, 265, 266, 267, 268] (by decide +kernel) (by decide +kernel)
set_option maxRecDepth 20000 in
theorem gX9_read_X9_keepText : GoodIn wsX9_read (wsV RX9 57 RX9 yX9_keepText wsX9_keepText) := goodIn_app (goodIn_of _ (by decide +kernel)) ggX9_read_X9_keepText
theorem dX9_read_0 : decode cX9_read 0 = .ok (.aload_n 0, 1) := by decide +kernel
theorem dX9_read_1 : decode cX9_read 1 = .ok (.getfield 26, 3) := by decide +kernel
theorem dX9_read_4 : decode cX9_read 4 = .ok (.aload_n 0, 1) := by decide +kernel
theorem dX9_read_5 : decode cX9_read 5 = .ok (.getfield 9, 3) := by decide +kernel
theorem dX9_read_8 : decode cX9_read 8 = .ok (.aload_n 0, 1) := by decide +kernel
theorem dX9_read_9 : decode cX9_read 9 = .ok (.getfield 13, 3) := by decide +kernel
theorem dX9_read_12 : decode cX9_read 12 = .ok (.invokevirtual 44, 3) := by decide +kernel
theorem dX9_read_15 : decode cX9_read 15 = .ok (.new 48, 3) := by decide +kernel
theorem dX9_read_18 : decode cX9_read 18 = .ok (.dup, 1) := by decide +kernel
theorem dX9_read_19 : decode cX9_read 19 = .ok (.aload_n 0, 1) := by decide +kernel
theorem dX9_read_20 : decode cX9_read 20 = .ok (.getfield 26, 3) := by decide +kernel
theorem dX9_read_23 : decode cX9_read 23 = .ok (.invokespecial 50, 3) := by decide +kernel
theorem dX9_read_26 : decode cX9_read 26 = .ok (.astore_n 1, 1) := by decide +kernel
theorem dX9_read_27 : decode cX9_read 27 = .ok (.aload_n 1, 1) := by decide +kernel
theorem dX9_read_28 : decode cX9_read 28 = .ok (.invokevirtual 53, 3) := by decide +kernel
theorem dX9_read_31 : decode cX9_read 31 = .ok (.istore_n 2, 1) := by decide +kernel
theorem dX9_read_32 : decode cX9_read 32 = .ok (.iload_n 2, 1) := by decide +kernel
theorem dX9_read_33 : decode cX9_read 33 = .ok (.ifCond .eq 15, 3) := by decide +kernel
theorem dX9_read_36 : decode cX9_read 36 = .ok (.aload_n 0, 1) := by decide +kernel
theorem dX9_read_37 : decode cX9_read 37 = .ok (.invokevirtual 57, 3) := by decide +kernel
theorem dX9_read_40 : decode cX9_read 40 = .ok (.aload_n 0, 1) := by decide +kernel
theorem dX9_read_41 : decode cX9_read 41 = .ok (.aload_n 1, 1) := by decide +kernel
theorem dX9_read_42 : decode cX9_read 42 = .ok (.getfield 60, 3) := by decide +kernel
theorem dX9_read_45 : decode cX9_read 45 = .ok (.putfield 40, 3) := by decide +kernel
theorem dX9_read_48 : decode cX9_read 48 = .ok (.aload_n 0, 1) := by decide +kernel
theorem dX9_read_49 : decode cX9_read 49 = .ok (.iconst 0, 1) := by decide +kernel
theorem dX9_read_50 : decode cX9_read 50 = .ok (.putfield 13, 3) := by decide +kernel
theorem dX9_read_53 : decode cX9_read 53 = .ok (.iload_n 2, 1) := by decide +kernel
theorem dX9_read_54 : decode cX9_read 54 = .ok (.ifCond .eq 13, 3) := by decide +kernel
theorem dX9_read_57 : decode cX9_read 57 = .ok (.aload_n 0, 1) := by decide +kernel
theorem dX9_read_58 : decode cX9_read 58 = .ok (.getfield 40, 3) := by decide +kernel
theorem dX9_read_61 : decode cX9_read 61 = .ok (.getfield 61, 3) := by decide +kernel
theorem dX9_read_64 : decode cX9_read 64 = .ok (.goto 12, 3) := by decide +kernel
theorem dX9_read_67 : decode cX9_read 67 = .ok (.iconst (-1), 1) := by decide +kernel
theorem dX9_read_68 : decode cX9_read 68 = .ok (.aload_n 0, 1) := by decide +kernel
theorem dX9_read_69 : decode cX9_read 69 = .ok (.getfield 26, 3) := by decide +kernel
theorem dX9_read_72 : decode cX9_read 72 = .ok (.getfield 64, 3) := by decide +kernel
theorem dX9_read_75 : decode cX9_read 75 = .ok (.isub, 1) := by decide +kernel
theorem dX9_read_76 : decode cX9_read 76 = .ok (.ireturn, 1) := by decide +kernel
set_option maxRecDepth 20000 in
theorem ggX9_edition_X0_actingOn : GoodIn wsX9_edition wsX0_actingOn := goodIn_r _ [6, 7, 8, 9, 17, 18, 19, 20, 21, 22, 23, 24, 25] (by decide +kernel) (by decide +kernel)
set_option maxRecDepth 20000 in
theorem gX9_edition_X0_actingOn : GoodIn wsX9_edition (wsV RX9 67 RX0 yX0_actingOn wsX0_actingOn) := goodIn_app (goodIn_of _ (by decide +kernel)) ggX9_edition_X0_actingOn
theorem dX9_edition_0 : decode cX9_edition 0 = .ok (.aload_n 0, 1) := by decide +kernel
theorem dX9_edition_1 : decode cX9_edition 1 = .ok (.getfield 40, 3) := by decide +kernel
theorem dX9_edition_4 : decode cX9_edition 4 = .ok (.lload_n 1, 1) := by decide +kernel
theorem dX9_edition_5 : decode cX9_edition 5 = .ok (.invokevirtual 67, 3) := by decide +kernel
theorem dX9_edition_8 : decode cX9_edition 8 = .ok (.ireturn, 1) := by decide +kernel
set_option maxRecDepth 20000 in
theorem ggX9_part_X2_setSpan : GoodIn wsX9_part wsX2_setSpan := goodIn_r _ [6, 7, 8, 9, 10, 18, 19, 20, 21, 22] (by decide +kernel) (by decide +kernel)
set_option maxRecDepth 20000 in
theorem gX9_part_X2_setSpan : GoodIn wsX9_part (wsV RX9 71 RX2 yX2_setSpan wsX2_setSpan) := goodIn_app (goodIn_of _ (by decide +kernel)) ggX9_part_X2_setSpan
theorem dX9_part_0 : decode cX9_part 0 = .ok (.aload_n 0, 1) := by decide +kernel
theorem dX9_part_1 : decode cX9_part 1 = .ok (.getfield 33, 3) := by decide +kernel
theorem dX9_part_4 : decode cX9_part 4 = .ok (.iload_n 1, 1) := by decide +kernel
theorem dX9_part_5 : decode cX9_part 5 = .ok (.lload_n 2, 1) := by decide +kernel
theorem dX9_part_6 : decode cX9_part 6 = .ok (.lload 4, 2) := by decide +kernel
theorem dX9_part_8 : decode cX9_part 8 = .ok (.invokevirtual 71, 3) := by decide +kernel
theorem dX9_part_11 : decode cX9_part 11 = .ok (.ireturn, 1) := by decide +kernel
set_option maxRecDepth 20000 in
theorem ggX9_test_X2_setResult : GoodIn wsX9_test wsX2_setResult := goodIn_r _ [6, 7, 15, 16, 17, 18, 19] (by decide +kernel) (by decide +kernel)
set_option maxRecDepth 20000 in
theorem gX9_test_X2_setResult : GoodIn wsX9_test (wsV RX9 75 RX2 yX2_setResult wsX2_setResult) := goodIn_app (goodIn_of _ (by decide +kernel)) ggX9_test_X2_setResult
theorem dX9_test_0 : decode cX9_test 0 = .ok (.aload_n 0, 1) := by decide +kernel
theorem dX9_test_1 : decode cX9_test 1 = .ok (.getfield 33, 3) := by decide +kernel
theorem dX9_test_4 : decode cX9_test 4 = .ok (.iload_n 1, 1) := by decide +kernel
theorem dX9_test_5 : decode cX9_test 5 = .ok (.iload_n 2, 1) := by decide +kernel
theorem dX9_test_6 : decode cX9_test 6 = .ok (.invokevirtual 75, 3) := by decide +kernel
theorem dX9_test_9 : decode cX9_test 9 = .ok (.ireturn, 1) := by decide +kernel
set_option maxRecDepth 20000 in
theorem ggX9_clearParts_X2_forget : GoodIn wsX9_clearParts wsX2_forget := goodIn_r _ [6, 7, 8, 9, 10, 11, 12, 20, 21, 22, 23, 24] (by decide +kernel) (by decide +kernel)
set_option maxRecDepth 20000 in
theorem gX9_clearParts_X2_forget : GoodIn wsX9_clearParts (wsV RX9 79 RX2 yX2_forget wsX2_forget) := goodIn_app (goodIn_of _ (by decide +kernel)) ggX9_clearParts_X2_forget
theorem dX9_clearParts_0 : decode cX9_clearParts 0 = .ok (.aload_n 0, 1) := by decide +kernel
theorem dX9_clearParts_1 : decode cX9_clearParts 1 = .ok (.getfield 33, 3) := by decide +kernel
theorem dX9_clearParts_4 : decode cX9_clearParts 4 = .ok (.invokevirtual 79, 3) := by decide +kernel
theorem dX9_clearParts_7 : decode cX9_clearParts 7 = .ok (.return_, 1) := by decide +kernel
theorem dX9_way_0 : decode cX9_way 0 = .ok (.aload_n 0, 1) := by decide +kernel
theorem dX9_way_1 : decode cX9_way 1 = .ok (.getfield 33, 3) := by decide +kernel
theorem dX9_way_4 : decode cX9_way 4 = .ok (.getfield 82, 3) := by decide +kernel
theorem dX9_way_7 : decode cX9_way 7 = .ok (.istore_n 2, 1) := by decide +kernel
theorem dX9_way_8 : decode cX9_way 8 = .ok (.aload_n 0, 1) := by decide +kernel
theorem dX9_way_9 : decode cX9_way 9 = .ok (.getfield 33, 3) := by decide +kernel
theorem dX9_way_12 : decode cX9_way 12 = .ok (.iload_n 1, 1) := by decide +kernel
theorem dX9_way_13 : decode cX9_way 13 = .ok (.putfield 82, 3) := by decide +kernel
theorem dX9_way_16 : decode cX9_way 16 = .ok (.iload_n 2, 1) := by decide +kernel
theorem dX9_way_17 : decode cX9_way 17 = .ok (.ireturn, 1) := by decide +kernel
set_option maxRecDepth 20000 in
theorem ggX9_run_X0_lookAt : GoodIn wsX9_run wsX0_lookAt := goodIn_r _ [7, 8, 9, 10, 11, 12, 13, 14, 15, 16, 6, 17, 18, 19, 20, 21, 22, 23, 24, 25, 26, 27, 28, 29, 30, 31, 32, 33, 34, 35, 36, 37, 38, 39, 40, 41, 42, 43, 44, 45, 46, 47, 48, 49, 50, 51, 52, 53, 54, 55, 56, 57, 58, 59, 60, 61, 62, 63, 64, 65, 66, 67, 68, 69, 70, 71, 72, 73, 74, 75, 76, 77, 78, 79, 80, 81, 82, 83, 84, 85, 86, 87, 88, 89, 90, 91, 92, 93, 94, 95, 96, 97, 98, 99, 100, 101, 102, 103, 104, 105, 106, 107, 108, 109, 110, 111, 112, 113, 114, 115, 116, 117, 118, 119, 127, 128, 129, 130, 131, 132, 133, 134, 135, 136, 137, 138, 139, 140, 141, 142, 143, 144, 145, 146, 147, 148, 149, 150, 151, 152, 153, 154, 155, 156, 157, 158, 159, 160, 161, 162] (by decide +kernel) (by decide +kernel)
set_option maxRecDepth 20000 in
theorem gX9_run_X0_lookAt : GoodIn wsX9_run (wsV RX9 86 RX0 yX0_lookAt wsX0_lookAt) := goodIn_app (goodIn_of _ (by decide +kernel)) ggX9_run_X0_lookAt
theorem dX9_run_0 : decode cX9_run 0 = .ok (.aload_n 0, 1) := by decide +kernel
theorem dX9_run_1 : decode cX9_run 1 = .ok (.getfield 40, 3) := by decide +kernel
theorem dX9_run_4 : decode cX9_run 4 = .ok (.lload_n 1, 1) := by decide +kernel
theorem dX9_run_5 : decode cX9_run 5 = .ok (.aload_n 0, 1) := by decide +kernel
theorem dX9_run_6 : decode cX9_run 6 = .ok (.getfield 33, 3) := by decide +kernel
theorem dX9_run_9 : decode cX9_run 9 = .ok (.invokevirtual 86, 3) := by decide +kernel
theorem dX9_run_12 : decode cX9_run 12 = .ok (.ireturn, 1) := by decide +kernel
set_option maxRecDepth 20000 in
theorem ggX9_walk_X8_split : GoodIn wsX9_walk wsX8_split := goodIn_r _ [14, 15, 16, 17, 18, 19, 20, 21, 22, 23, 24, 25, 26, 13, 27, 28, 29, 30, 31, 32, 33, 34, 35, 36, 37, 38, 39, 40, 41, 42, 43, 44, 45, 46, 47, 48, 49, 50, 51, 52, 53, 54, 55, 56, 57, 58, 59, 60, 61, 62, 63, 64, 65, 66, 67, 68, 69, 70, 71, 72, 73, 74, 75, 76, 77, 78, 79, 80, 81, 82, 83, 84, 364, 365, 366] (by decide +kernel) (by decide +kernel)
set_option maxRecDepth 20000 in
theorem gX9_walk_X8_split : GoodIn wsX9_walk (wsV RX9 44 RX8 yX8_split wsX8_split) := goodIn_app (goodIn_of _ (by decide +kernel)) ggX9_walk_X8_split
set_option maxRecDepth 20000 in
theorem ggX9_walk_X5_init : GoodIn wsX9_walk wsX5_init := goodIn_r _ [87, 88, 89, 90, 91, 92, 93, 94, 95, 96, 97, 98, 99, 100, 101, 102, 103, 104, 105, 367, 368, 369, 370, 371, 372, 373, 362, 363] (by decide +kernel) (by decide +kernel)
set_option maxRecDepth 20000 in
theorem gX9_walk_X5_init : GoodIn wsX9_walk (wsX5_init) := ggX9_walk_X5_init
set_option maxRecDepth 20000 in
theorem ggX9_walk_X5_readText : GoodIn wsX9_walk wsX5_readText := goodIn_r _ [109, 95, 110, 111, 112, 113, 13, 114, 20, 19, 115, 116, 117, 118, 21, 29, 119, 120, 121, 6, 122, 94, 123, 124, 125, 126, 93, 127, 103, 128, 129, 130, 131, 132, 133, 134, 135, 136, 137, 138, 139, 102, 140, 104, 141, 142, 143, 144, 89, 90, 145, 146, 147, 148, 149, 150, 151, 152, 153, 154, 155, 156, 157, 158, 159, 160, 161, 162, 163, 164, 165, 166, 167, 168, 169, 170, 171, 172, 173, 174, 175, 176, 177, 178, 179, 180, 181, 182, 183, 184, 185, 186, 187, 188, 189, 190, 191, 192, 193, 194, 195, 196, 197, 198, 199, 200, 201, 202, 203, 204, 205, 206, 207, 208, 209, 210, 211, 212, 213, 214, 215, 216, 217, 218, 219, 220, 221, 222, 223, 224, 225, 226, 227, 228, 229, 230, 231, 232, 233, 234, 235, 236, 237, 238, 239, 240, 241, 242, 243, 244, 245, 246, 101, 247, 248, 100, 99, 249, 362, 363, 364, 365, 366, 367, 368, 369, 370, 371, 372, 373, 374, 375, 376, 377, 378, 379, 380, 381, 382, 383, 384, 385, 386, 387, 388, 389, 390, 391, 392, 393, 394, 395, 396, 397] (by decide +kernel) (by decide +kernel)
set_option maxRecDepth 20000 in
theorem gX9_walk_X5_readText : GoodIn wsX9_walk (wsV RX9 53 RX5 yX5_readText wsX5_readText) := goodIn_app (goodIn_of _ (by decide +kernel)) ggX9_walk_X5_readText
set_option maxRecDepth 20000 in
theorem ggX9_walk_X0_lookAt : GoodIn wsX9_walk wsX0_lookAt := goodIn_r _ [253, 105, 99, 254, 249, 248, 247, 255, 256, 257, 93, 258, 102, 128, 140, 259, 260, 261, 262, 263, 264, 265, 266, 158, 267, 170, 268, 242, 269, 270, 271, 272, 273, 274, 275, 276, 277, 278, 279, 280, 281, 282, 283, 284, 285, 286, 287, 288, 289, 290, 291, 292, 293, 294, 295, 296, 297, 298, 299, 300, 301, 302, 303, 304, 305, 306, 307, 308, 309, 310, 311, 312, 313, 314, 315, 316, 317, 318, 319, 320, 321, 322, 323, 324, 325, 326, 327, 328, 329, 330, 331, 332, 333, 334, 335, 336, 337, 338, 339, 340, 341, 342, 343, 344, 345, 346, 347, 348, 349, 350, 351, 352, 353, 354, 367, 368, 369, 370, 371, 372, 373, 376, 377, 378, 379, 380, 381, 382, 383, 384, 374, 375, 385, 386, 387, 388, 389, 390, 391, 398, 399, 400, 401, 402, 392, 393, 394, 395, 396, 397] (by decide +kernel) (by decide +kernel)
set_option maxRecDepth 20000 in
theorem gX9_walk_X0_lookAt : GoodIn wsX9_walk (wsV RX9 86 RX0 yX0_lookAt wsX0_lookAt) := goodIn_app (goodIn_of _ (by decide +kernel)) ggX9_walk_X0_lookAt
theorem dX9_walk_0 : decode cX9_walk 0 = .ok (.aload_n 0, 1) := by decide +kernel
theorem dX9_walk_1 : decode cX9_walk 1 = .ok (.getfield 26, 3) := by decide +kernel
theorem dX9_walk_4 : decode cX9_walk 4 = .ok (.aload_n 0, 1) := by decide +kernel
theorem dX9_walk_5 : decode cX9_walk 5 = .ok (.getfield 17, 3) := by decide +kernel
theorem dX9_walk_8 : decode cX9_walk 8 = .ok (.aload_n 0, 1) := by decide +kernel
theorem dX9_walk_9 : decode cX9_walk 9 = .ok (.getfield 20, 3) := by decide +kernel
theorem dX9_walk_12 : decode cX9_walk 12 = .ok (.invokevirtual 44, 3) := by decide +kernel
theorem dX9_walk_15 : decode cX9_walk 15 = .ok (.new 48, 3) := by decide +kernel
theorem dX9_walk_18 : decode cX9_walk 18 = .ok (.dup, 1) := by decide +kernel
theorem dX9_walk_19 : decode cX9_walk 19 = .ok (.aload_n 0, 1) := by decide +kernel
theorem dX9_walk_20 : decode cX9_walk 20 = .ok (.getfield 26, 3) := by decide +kernel
theorem dX9_walk_23 : decode cX9_walk 23 = .ok (.invokespecial 50, 3) := by decide +kernel
theorem dX9_walk_26 : decode cX9_walk 26 = .ok (.astore_n 3, 1) := by decide +kernel
theorem dX9_walk_27 : decode cX9_walk 27 = .ok (.aload_n 3, 1) := by decide +kernel
theorem dX9_walk_28 : decode cX9_walk 28 = .ok (.invokevirtual 53, 3) := by decide +kernel
theorem dX9_walk_31 : decode cX9_walk 31 = .ok (.ifCond .eq 11, 3) := by decide +kernel
theorem dX9_walk_34 : decode cX9_walk 34 = .ok (.aload_n 0, 1) := by decide +kernel
theorem dX9_walk_35 : decode cX9_walk 35 = .ok (.aload_n 3, 1) := by decide +kernel
theorem dX9_walk_36 : decode cX9_walk 36 = .ok (.getfield 60, 3) := by decide +kernel
theorem dX9_walk_39 : decode cX9_walk 39 = .ok (.putfield 40, 3) := by decide +kernel
theorem dX9_walk_42 : decode cX9_walk 42 = .ok (.aload_n 0, 1) := by decide +kernel
theorem dX9_walk_43 : decode cX9_walk 43 = .ok (.getfield 40, 3) := by decide +kernel
theorem dX9_walk_46 : decode cX9_walk 46 = .ok (.lload_n 1, 1) := by decide +kernel
theorem dX9_walk_47 : decode cX9_walk 47 = .ok (.aload_n 0, 1) := by decide +kernel
theorem dX9_walk_48 : decode cX9_walk 48 = .ok (.getfield 33, 3) := by decide +kernel
theorem dX9_walk_51 : decode cX9_walk 51 = .ok (.invokevirtual 86, 3) := by decide +kernel
theorem dX9_walk_54 : decode cX9_walk 54 = .ok (.ireturn, 1) := by decide +kernel
set_option maxRecDepth 20000 in
theorem ggX9_cls_X0_isHeld : GoodIn wsX9_cls wsX0_isHeld := goodIn_r _ [6, 7, 8, 9, 5, 10, 11, 12, 13, 14, 22, 23, 24, 25, 26, 27, 28, 29, 30, 31, 32, 33, 34, 35, 36, 37] (by decide +kernel) (by decide +kernel)
set_option maxRecDepth 20000 in
theorem gX9_cls_X0_isHeld : GoodIn wsX9_cls (wsV RX9 90 RX0 yX0_isHeld wsX0_isHeld) := goodIn_app (goodIn_of _ (by decide +kernel)) ggX9_cls_X0_isHeld
theorem dX9_cls_0 : decode cX9_cls 0 = .ok (.iconst 0, 1) := by decide +kernel
theorem dX9_cls_1 : decode cX9_cls 1 = .ok (.istore_n 2, 1) := by decide +kernel
theorem dX9_cls_2 : decode cX9_cls 2 = .ok (.iconst 0, 1) := by decide +kernel
theorem dX9_cls_3 : decode cX9_cls 3 = .ok (.istore_n 3, 1) := by decide +kernel
theorem dX9_cls_4 : decode cX9_cls 4 = .ok (.iload_n 3, 1) := by decide +kernel
theorem dX9_cls_5 : decode cX9_cls 5 = .ok (.bipush 20, 2) := by decide +kernel
theorem dX9_cls_7 : decode cX9_cls 7 = .ok (.if_icmp .ge 30, 3) := by decide +kernel
theorem dX9_cls_10 : decode cX9_cls 10 = .ok (.aload_n 0, 1) := by decide +kernel
theorem dX9_cls_11 : decode cX9_cls 11 = .ok (.getfield 40, 3) := by decide +kernel
theorem dX9_cls_14 : decode cX9_cls 14 = .ok (.iload_n 3, 1) := by decide +kernel
theorem dX9_cls_15 : decode cX9_cls 15 = .ok (.invokevirtual 90, 3) := by decide +kernel
theorem dX9_cls_18 : decode cX9_cls 18 = .ok (.ifCond .eq 13, 3) := by decide +kernel
theorem dX9_cls_21 : decode cX9_cls 21 = .ok (.iload_n 2, 1) := by decide +kernel
theorem dX9_cls_22 : decode cX9_cls 22 = .ok (.iload_n 1, 1) := by decide +kernel
theorem dX9_cls_23 : decode cX9_cls 23 = .ok (.if_icmp .ne 5, 3) := by decide +kernel
theorem dX9_cls_26 : decode cX9_cls 26 = .ok (.iload_n 3, 1) := by decide +kernel
theorem dX9_cls_27 : decode cX9_cls 27 = .ok (.ireturn, 1) := by decide +kernel
theorem dX9_cls_28 : decode cX9_cls 28 = .ok (.iinc 2 1, 3) := by decide +kernel
theorem dX9_cls_31 : decode cX9_cls 31 = .ok (.iinc 3 1, 3) := by decide +kernel
theorem dX9_cls_34 : decode cX9_cls 34 = .ok (.goto (-30), 3) := by decide +kernel
theorem dX9_cls_37 : decode cX9_cls 37 = .ok (.iconst (-1), 1) := by decide +kernel
theorem dX9_cls_38 : decode cX9_cls 38 = .ok (.ireturn, 1) := by decide +kernel
set_option maxRecDepth 20000 in
theorem ggX9_mark_X0_isFirstToHold : GoodIn wsX9_mark wsX0_isFirstToHold := goodIn_r _ [9, 10, 11, 12, 13, 14, 8, 15, 16, 17, 18, 33, 34, 35, 36, 37, 38, 39, 40, 41, 26, 27, 28, 29, 30, 31, 32] (by decide +kernel) (by decide +kernel)
set_option maxRecDepth 20000 in
theorem gX9_mark_X0_isFirstToHold : GoodIn wsX9_mark (wsV RX9 98 RX0 yX0_isFirstToHold wsX0_isFirstToHold) := goodIn_app (goodIn_of _ (by decide +kernel)) ggX9_mark_X0_isFirstToHold
theorem dX9_mark_0 : decode cX9_mark 0 = .ok (.iconst 0, 1) := by decide +kernel
theorem dX9_mark_1 : decode cX9_mark 1 = .ok (.istore_n 2, 1) := by decide +kernel
theorem dX9_mark_2 : decode cX9_mark 2 = .ok (.aload_n 0, 1) := by decide +kernel
theorem dX9_mark_3 : decode cX9_mark 3 = .ok (.getfield 40, 3) := by decide +kernel
theorem dX9_mark_6 : decode cX9_mark 6 = .ok (.getfield 94, 3) := by decide +kernel
theorem dX9_mark_9 : decode cX9_mark 9 = .ok (.astore_n 3, 1) := by decide +kernel
theorem dX9_mark_10 : decode cX9_mark 10 = .ok (.aload_n 3, 1) := by decide +kernel
theorem dX9_mark_11 : decode cX9_mark 11 = .ok (.ifnull 35, 3) := by decide +kernel
theorem dX9_mark_14 : decode cX9_mark 14 = .ok (.aload_n 0, 1) := by decide +kernel
theorem dX9_mark_15 : decode cX9_mark 15 = .ok (.getfield 40, 3) := by decide +kernel
theorem dX9_mark_18 : decode cX9_mark 18 = .ok (.aload_n 3, 1) := by decide +kernel
theorem dX9_mark_19 : decode cX9_mark 19 = .ok (.invokevirtual 98, 3) := by decide +kernel
theorem dX9_mark_22 : decode cX9_mark 22 = .ok (.ifCond .eq 16, 3) := by decide +kernel
theorem dX9_mark_25 : decode cX9_mark 25 = .ok (.iload_n 2, 1) := by decide +kernel
theorem dX9_mark_26 : decode cX9_mark 26 = .ok (.iload_n 1, 1) := by decide +kernel
theorem dX9_mark_27 : decode cX9_mark 27 = .ok (.if_icmp .ne 8, 3) := by decide +kernel
theorem dX9_mark_30 : decode cX9_mark 30 = .ok (.aload_n 3, 1) := by decide +kernel
theorem dX9_mark_31 : decode cX9_mark 31 = .ok (.getfield 102, 3) := by decide +kernel
theorem dX9_mark_34 : decode cX9_mark 34 = .ok (.ireturn, 1) := by decide +kernel
theorem dX9_mark_35 : decode cX9_mark 35 = .ok (.iinc 2 1, 3) := by decide +kernel
theorem dX9_mark_38 : decode cX9_mark 38 = .ok (.aload_n 3, 1) := by decide +kernel
theorem dX9_mark_39 : decode cX9_mark 39 = .ok (.getfield 107, 3) := by decide +kernel
theorem dX9_mark_42 : decode cX9_mark 42 = .ok (.astore_n 3, 1) := by decide +kernel
theorem dX9_mark_43 : decode cX9_mark 43 = .ok (.goto (-33), 3) := by decide +kernel
theorem dX9_mark_46 : decode cX9_mark 46 = .ok (.iconst (-1), 1) := by decide +kernel
theorem dX9_mark_47 : decode cX9_mark 47 = .ok (.ireturn, 1) := by decide +kernel
set_option maxRecDepth 20000 in
theorem ggX9_moving_X9_cls : GoodIn wsX9_moving wsX9_cls := goodIn_r _ [5, 6, 7, 8, 9, 10, 11, 12, 13, 14, 15, 16, 17, 18, 19, 20, 21, 22, 23, 24, 25, 26, 27, 28, 29, 30, 31, 32, 33, 34, 35, 36, 37, 38, 39, 40, 41, 42] (by decide +kernel) (by decide +kernel)
set_option maxRecDepth 20000 in
theorem gX9_moving_X9_cls : GoodIn wsX9_moving (wsV RX9 110 RX9 yX9_cls wsX9_cls) := goodIn_app (goodIn_of _ (by decide +kernel)) ggX9_moving_X9_cls
theorem dX9_moving_0 : decode cX9_moving 0 = .ok (.aload_n 0, 1) := by decide +kernel
theorem dX9_moving_1 : decode cX9_moving 1 = .ok (.iconst 0, 1) := by decide +kernel
theorem dX9_moving_2 : decode cX9_moving 2 = .ok (.invokevirtual 110, 3) := by decide +kernel
theorem dX9_moving_5 : decode cX9_moving 5 = .ok (.ireturn, 1) := by decide +kernel
set_option maxRecDepth 20000 in
theorem ggX9_open_X0_openRule : GoodIn wsX9_open wsX0_openRule := goodIn_r _ [9, 10, 11, 12, 13, 14, 8, 15, 16, 17, 18, 19, 20, 21, 22, 23, 24, 25, 42, 43, 44, 45, 46, 47, 48, 33, 34, 35, 36, 37, 38, 39, 40, 41] (by decide +kernel) (by decide +kernel)
set_option maxRecDepth 20000 in
theorem gX9_open_X0_openRule : GoodIn wsX9_open (wsV RX9 113 RX0 yX0_openRule wsX0_openRule) := goodIn_app (goodIn_of _ (by decide +kernel)) ggX9_open_X0_openRule
theorem dX9_open_0 : decode cX9_open 0 = .ok (.aload_n 0, 1) := by decide +kernel
theorem dX9_open_1 : decode cX9_open 1 = .ok (.getfield 40, 3) := by decide +kernel
theorem dX9_open_4 : decode cX9_open 4 = .ok (.iload_n 1, 1) := by decide +kernel
theorem dX9_open_5 : decode cX9_open 5 = .ok (.invokevirtual 113, 3) := by decide +kernel
theorem dX9_open_8 : decode cX9_open 8 = .ok (.astore_n 3, 1) := by decide +kernel
theorem dX9_open_9 : decode cX9_open 9 = .ok (.aload_n 3, 1) := by decide +kernel
theorem dX9_open_10 : decode cX9_open 10 = .ok (.ifnonnull 5, 3) := by decide +kernel
theorem dX9_open_13 : decode cX9_open 13 = .ok (.iconst (-1), 1) := by decide +kernel
theorem dX9_open_14 : decode cX9_open 14 = .ok (.ireturn, 1) := by decide +kernel
theorem dX9_open_15 : decode cX9_open 15 = .ok (.iload_n 2, 1) := by decide +kernel
theorem dX9_open_16 : decode cX9_open 16 = .ok (.tableswitch 43 0 2 #[28, 33, 38], 28) := by decide +kernel
theorem dX9_open_44 : decode cX9_open 44 = .ok (.aload_n 3, 1) := by decide +kernel
theorem dX9_open_45 : decode cX9_open 45 = .ok (.getfield 117, 3) := by decide +kernel
theorem dX9_open_48 : decode cX9_open 48 = .ok (.ireturn, 1) := by decide +kernel
theorem dX9_open_49 : decode cX9_open 49 = .ok (.aload_n 3, 1) := by decide +kernel
theorem dX9_open_50 : decode cX9_open 50 = .ok (.getfield 102, 3) := by decide +kernel
theorem dX9_open_53 : decode cX9_open 53 = .ok (.ireturn, 1) := by decide +kernel
theorem dX9_open_54 : decode cX9_open 54 = .ok (.aload_n 3, 1) := by decide +kernel
theorem dX9_open_55 : decode cX9_open 55 = .ok (.getfield 120, 3) := by decide +kernel
theorem dX9_open_58 : decode cX9_open 58 = .ok (.ireturn, 1) := by decide +kernel
theorem dX9_open_59 : decode cX9_open 59 = .ok (.iconst (-1), 1) := by decide +kernel
theorem dX9_open_60 : decode cX9_open 60 = .ok (.ireturn, 1) := by decide +kernel
set_option maxRecDepth 20000 in
theorem ggX9_missing_X0_isFirstToLack : GoodIn wsX9_missing wsX0_isFirstToLack := goodIn_r _ [9, 10, 11, 12, 13, 14, 15, 16, 8, 17, 18, 19, 20, 21, 22, 23, 24, 25, 26, 34, 35, 36, 37, 38, 39, 40, 41, 42, 43, 44, 45, 46, 47, 48, 49] (by decide +kernel) (by decide +kernel)
set_option maxRecDepth 20000 in
theorem gX9_missing_X0_isFirstToLack : GoodIn wsX9_missing (wsV RX9 123 RX0 yX0_isFirstToLack wsX0_isFirstToLack) := goodIn_app (goodIn_of _ (by decide +kernel)) ggX9_missing_X0_isFirstToLack
theorem dX9_missing_0 : decode cX9_missing 0 = .ok (.iconst 0, 1) := by decide +kernel
theorem dX9_missing_1 : decode cX9_missing 1 = .ok (.istore_n 2, 1) := by decide +kernel
theorem dX9_missing_2 : decode cX9_missing 2 = .ok (.aload_n 0, 1) := by decide +kernel
theorem dX9_missing_3 : decode cX9_missing 3 = .ok (.getfield 40, 3) := by decide +kernel
theorem dX9_missing_6 : decode cX9_missing 6 = .ok (.getfield 94, 3) := by decide +kernel
theorem dX9_missing_9 : decode cX9_missing 9 = .ok (.astore_n 3, 1) := by decide +kernel
theorem dX9_missing_10 : decode cX9_missing 10 = .ok (.aload_n 3, 1) := by decide +kernel
theorem dX9_missing_11 : decode cX9_missing 11 = .ok (.ifnull 35, 3) := by decide +kernel
theorem dX9_missing_14 : decode cX9_missing 14 = .ok (.aload_n 0, 1) := by decide +kernel
theorem dX9_missing_15 : decode cX9_missing 15 = .ok (.getfield 40, 3) := by decide +kernel
theorem dX9_missing_18 : decode cX9_missing 18 = .ok (.aload_n 3, 1) := by decide +kernel
theorem dX9_missing_19 : decode cX9_missing 19 = .ok (.invokevirtual 123, 3) := by decide +kernel
theorem dX9_missing_22 : decode cX9_missing 22 = .ok (.ifCond .eq 16, 3) := by decide +kernel
theorem dX9_missing_25 : decode cX9_missing 25 = .ok (.iload_n 2, 1) := by decide +kernel
theorem dX9_missing_26 : decode cX9_missing 26 = .ok (.iload_n 1, 1) := by decide +kernel
theorem dX9_missing_27 : decode cX9_missing 27 = .ok (.if_icmp .ne 8, 3) := by decide +kernel
theorem dX9_missing_30 : decode cX9_missing 30 = .ok (.aload_n 3, 1) := by decide +kernel
theorem dX9_missing_31 : decode cX9_missing 31 = .ok (.getfield 120, 3) := by decide +kernel
theorem dX9_missing_34 : decode cX9_missing 34 = .ok (.ireturn, 1) := by decide +kernel
theorem dX9_missing_35 : decode cX9_missing 35 = .ok (.iinc 2 1, 3) := by decide +kernel
theorem dX9_missing_38 : decode cX9_missing 38 = .ok (.aload_n 3, 1) := by decide +kernel
theorem dX9_missing_39 : decode cX9_missing 39 = .ok (.getfield 107, 3) := by decide +kernel
theorem dX9_missing_42 : decode cX9_missing 42 = .ok (.astore_n 3, 1) := by decide +kernel
theorem dX9_missing_43 : decode cX9_missing 43 = .ok (.goto (-33), 3) := by decide +kernel
theorem dX9_missing_46 : decode cX9_missing 46 = .ok (.iconst (-1), 1) := by decide +kernel
theorem dX9_missing_47 : decode cX9_missing 47 = .ok (.ireturn, 1) := by decide +kernel
set_option maxRecDepth 20000 in
theorem ggX9_explain_X0_heldBy : GoodIn wsX9_explain wsX0_heldBy := goodIn_r _ [9, 10, 11, 12, 13, 30, 31, 32, 33, 34, 35, 36, 21, 22, 23, 24, 25, 26, 27, 28, 29] (by decide +kernel) (by decide +kernel)
set_option maxRecDepth 20000 in
theorem gX9_explain_X0_heldBy : GoodIn wsX9_explain (wsV RX9 126 RX0 yX0_heldBy wsX0_heldBy) := goodIn_app (goodIn_of _ (by decide +kernel)) ggX9_explain_X0_heldBy
theorem dX9_explain_0 : decode cX9_explain 0 = .ok (.aload_n 0, 1) := by decide +kernel
theorem dX9_explain_1 : decode cX9_explain 1 = .ok (.getfield 40, 3) := by decide +kernel
theorem dX9_explain_4 : decode cX9_explain 4 = .ok (.iload_n 1, 1) := by decide +kernel
theorem dX9_explain_5 : decode cX9_explain 5 = .ok (.iload_n 2, 1) := by decide +kernel
theorem dX9_explain_6 : decode cX9_explain 6 = .ok (.invokevirtual 126, 3) := by decide +kernel
theorem dX9_explain_9 : decode cX9_explain 9 = .ok (.astore 4, 2) := by decide +kernel
theorem dX9_explain_11 : decode cX9_explain 11 = .ok (.aload 4, 2) := by decide +kernel
theorem dX9_explain_13 : decode cX9_explain 13 = .ok (.ifnonnull 5, 3) := by decide +kernel
theorem dX9_explain_16 : decode cX9_explain 16 = .ok (.iconst (-1), 1) := by decide +kernel
theorem dX9_explain_17 : decode cX9_explain 17 = .ok (.ireturn, 1) := by decide +kernel
theorem dX9_explain_18 : decode cX9_explain 18 = .ok (.iload_n 3, 1) := by decide +kernel
theorem dX9_explain_19 : decode cX9_explain 19 = .ok (.tableswitch 43 0 2 #[25, 31, 37], 25) := by decide +kernel
theorem dX9_explain_44 : decode cX9_explain 44 = .ok (.aload 4, 2) := by decide +kernel
theorem dX9_explain_46 : decode cX9_explain 46 = .ok (.getfield 117, 3) := by decide +kernel
theorem dX9_explain_49 : decode cX9_explain 49 = .ok (.ireturn, 1) := by decide +kernel
theorem dX9_explain_50 : decode cX9_explain 50 = .ok (.aload 4, 2) := by decide +kernel
theorem dX9_explain_52 : decode cX9_explain 52 = .ok (.getfield 130, 3) := by decide +kernel
theorem dX9_explain_55 : decode cX9_explain 55 = .ok (.ireturn, 1) := by decide +kernel
theorem dX9_explain_56 : decode cX9_explain 56 = .ok (.aload 4, 2) := by decide +kernel
theorem dX9_explain_58 : decode cX9_explain 58 = .ok (.getfield 133, 3) := by decide +kernel
theorem dX9_explain_61 : decode cX9_explain 61 = .ok (.ireturn, 1) := by decide +kernel
theorem dX9_explain_62 : decode cX9_explain 62 = .ok (.iconst (-1), 1) := by decide +kernel
theorem dX9_explain_63 : decode cX9_explain 63 = .ok (.ireturn, 1) := by decide +kernel
set_option maxRecDepth 20000 in
theorem ggX9_limit_X6_leastOver : GoodIn wsX9_limit wsX6_leastOver := goodIn_r _ [12, 13, 14, 15, 16, 17, 32, 33, 34, 35, 36, 37, 38, 39, 40, 41, 42, 43, 44, 45, 46, 47] (by decide +kernel) (by decide +kernel)
set_option maxRecDepth 20000 in
theorem gX9_limit_X6_leastOver : GoodIn wsX9_limit (wsV RX9 144 RX6 yX6_leastOver wsX6_leastOver) := goodIn_app (goodIn_of _ (by decide +kernel)) ggX9_limit_X6_leastOver
theorem dX9_limit_0 : decode cX9_limit 0 = .ok (.ldc2_w 136, 3) := by decide +kernel
theorem dX9_limit_3 : decode cX9_limit 3 = .ok (.lstore_n 2, 1) := by decide +kernel
theorem dX9_limit_4 : decode cX9_limit 4 = .ok (.aload_n 0, 1) := by decide +kernel
theorem dX9_limit_5 : decode cX9_limit 5 = .ok (.getfield 40, 3) := by decide +kernel
theorem dX9_limit_8 : decode cX9_limit 8 = .ok (.getfield 94, 3) := by decide +kernel
theorem dX9_limit_11 : decode cX9_limit 11 = .ok (.astore 4, 2) := by decide +kernel
theorem dX9_limit_13 : decode cX9_limit 13 = .ok (.aload 4, 2) := by decide +kernel
theorem dX9_limit_15 : decode cX9_limit 15 = .ok (.ifnull 70, 3) := by decide +kernel
theorem dX9_limit_18 : decode cX9_limit 18 = .ok (.aload 4, 2) := by decide +kernel
theorem dX9_limit_20 : decode cX9_limit 20 = .ok (.getfield 138, 3) := by decide +kernel
theorem dX9_limit_23 : decode cX9_limit 23 = .ok (.aload_n 0, 1) := by decide +kernel
theorem dX9_limit_24 : decode cX9_limit 24 = .ok (.getfield 40, 3) := by decide +kernel
theorem dX9_limit_27 : decode cX9_limit 27 = .ok (.getfield 141, 3) := by decide +kernel
theorem dX9_limit_30 : decode cX9_limit 30 = .ok (.if_icmp .ne 45, 3) := by decide +kernel
theorem dX9_limit_33 : decode cX9_limit 33 = .ok (.aload 4, 2) := by decide +kernel
theorem dX9_limit_35 : decode cX9_limit 35 = .ok (.getfield 102, 3) := by decide +kernel
theorem dX9_limit_38 : decode cX9_limit 38 = .ok (.iload_n 1, 1) := by decide +kernel
theorem dX9_limit_39 : decode cX9_limit 39 = .ok (.if_icmp .ne 36, 3) := by decide +kernel
theorem dX9_limit_42 : decode cX9_limit 42 = .ok (.aload 4, 2) := by decide +kernel
theorem dX9_limit_44 : decode cX9_limit 44 = .ok (.invokevirtual 144, 3) := by decide +kernel
theorem dX9_limit_47 : decode cX9_limit 47 = .ok (.istore 5, 2) := by decide +kernel
theorem dX9_limit_49 : decode cX9_limit 49 = .ok (.iload 5, 2) := by decide +kernel
theorem dX9_limit_51 : decode cX9_limit 51 = .ok (.iconst (-1), 1) := by decide +kernel
theorem dX9_limit_52 : decode cX9_limit 52 = .ok (.if_icmp .eq 23, 3) := by decide +kernel
theorem dX9_limit_55 : decode cX9_limit 55 = .ok (.lload_n 2, 1) := by decide +kernel
theorem dX9_limit_56 : decode cX9_limit 56 = .ok (.ldc2_w 136, 3) := by decide +kernel
theorem dX9_limit_59 : decode cX9_limit 59 = .ok (.lcmp, 1) := by decide +kernel
theorem dX9_limit_60 : decode cX9_limit 60 = .ok (.ifCond .eq 11, 3) := by decide +kernel
theorem dX9_limit_63 : decode cX9_limit 63 = .ok (.iload 5, 2) := by decide +kernel
theorem dX9_limit_65 : decode cX9_limit 65 = .ok (.i2l, 1) := by decide +kernel
theorem dX9_limit_66 : decode cX9_limit 66 = .ok (.lload_n 2, 1) := by decide +kernel
theorem dX9_limit_67 : decode cX9_limit 67 = .ok (.lcmp, 1) := by decide +kernel
theorem dX9_limit_68 : decode cX9_limit 68 = .ok (.ifCond .ge 7, 3) := by decide +kernel
theorem dX9_limit_71 : decode cX9_limit 71 = .ok (.iload 5, 2) := by decide +kernel
theorem dX9_limit_73 : decode cX9_limit 73 = .ok (.i2l, 1) := by decide +kernel
theorem dX9_limit_74 : decode cX9_limit 74 = .ok (.lstore_n 2, 1) := by decide +kernel
theorem dX9_limit_75 : decode cX9_limit 75 = .ok (.aload 4, 2) := by decide +kernel
theorem dX9_limit_77 : decode cX9_limit 77 = .ok (.getfield 107, 3) := by decide +kernel
theorem dX9_limit_80 : decode cX9_limit 80 = .ok (.astore 4, 2) := by decide +kernel
theorem dX9_limit_82 : decode cX9_limit 82 = .ok (.goto (-69), 3) := by decide +kernel
theorem dX9_limit_85 : decode cX9_limit 85 = .ok (.lload_n 2, 1) := by decide +kernel
theorem dX9_limit_86 : decode cX9_limit 86 = .ok (.lreturn, 1) := by decide +kernel
set_option maxRecDepth 20000 in
theorem ggX9_sum_X0_ruleAt : GoodIn wsX9_sum wsX0_ruleAt := goodIn_r _ [7, 8, 9, 10, 53, 54, 55, 56, 57, 58, 59, 60, 61, 62, 63, 64, 65, 66, 67, 68] (by decide +kernel) (by decide +kernel)
set_option maxRecDepth 20000 in
theorem gX9_sum_X0_ruleAt : GoodIn wsX9_sum (wsV RX9 148 RX0 yX0_ruleAt wsX0_ruleAt) := goodIn_app (goodIn_of _ (by decide +kernel)) ggX9_sum_X0_ruleAt
set_option maxRecDepth 20000 in
theorem ggX9_sum_X6_firstSum : GoodIn wsX9_sum wsX6_firstSum := goodIn_r _ [15, 16, 17, 18, 60, 61, 62, 63, 64, 65, 66, 67, 68, 69, 70, 71, 72, 73, 74, 75] (by decide +kernel) (by decide +kernel)
set_option maxRecDepth 20000 in
theorem gX9_sum_X6_firstSum : GoodIn wsX9_sum (wsV RX9 151 RX6 yX6_firstSum wsX6_firstSum) := goodIn_app (goodIn_of _ (by decide +kernel)) ggX9_sum_X6_firstSum
set_option maxRecDepth 20000 in
theorem ggX9_sum_X2_lackOf : GoodIn wsX9_sum wsX2_lackOf := goodIn_r _ [23, 24, 25, 26, 27, 28, 29, 30, 22, 31, 32, 69, 70, 71, 72, 73, 74, 75, 76, 77, 78, 79, 80, 81, 82, 83, 84, 85, 86] (by decide +kernel) (by decide +kernel)
set_option maxRecDepth 20000 in
theorem gX9_sum_X2_lackOf : GoodIn wsX9_sum (wsV RX9 155 RX2 yX2_lackOf wsX2_lackOf) := goodIn_app (goodIn_of _ (by decide +kernel)) ggX9_sum_X2_lackOf
set_option maxRecDepth 20000 in
theorem ggX9_sum_X2_sumAt : GoodIn wsX9_sum wsX2_sumAt := goodIn_r _ [36, 24, 25, 27, 37, 38, 39, 22, 40, 26, 41, 42, 43, 44, 45, 28, 29, 30, 31, 32, 69, 70, 71, 72, 73, 74, 75, 76, 77, 78, 79, 80, 81, 82, 83, 84, 85, 86] (by decide +kernel) (by decide +kernel)
set_option maxRecDepth 20000 in
theorem gX9_sum_X2_sumAt : GoodIn wsX9_sum (wsV RX9 159 RX2 yX2_sumAt wsX2_sumAt) := goodIn_app (goodIn_of _ (by decide +kernel)) ggX9_sum_X2_sumAt
theorem dX9_sum_0 : decode cX9_sum 0 = .ok (.iload_n 2, 1) := by decide +kernel
theorem dX9_sum_1 : decode cX9_sum 1 = .ok (.ifCond .eq 10, 3) := by decide +kernel
theorem dX9_sum_4 : decode cX9_sum 4 = .ok (.iload_n 2, 1) := by decide +kernel
theorem dX9_sum_5 : decode cX9_sum 5 = .ok (.iconst 1, 1) := by decide +kernel
theorem dX9_sum_6 : decode cX9_sum 6 = .ok (.if_icmp .eq 5, 3) := by decide +kernel
theorem dX9_sum_9 : decode cX9_sum 9 = .ok (.lconst 0, 1) := by decide +kernel
theorem dX9_sum_10 : decode cX9_sum 10 = .ok (.lreturn, 1) := by decide +kernel
theorem dX9_sum_11 : decode cX9_sum 11 = .ok (.aload_n 0, 1) := by decide +kernel
theorem dX9_sum_12 : decode cX9_sum 12 = .ok (.getfield 40, 3) := by decide +kernel
theorem dX9_sum_15 : decode cX9_sum 15 = .ok (.iload_n 1, 1) := by decide +kernel
theorem dX9_sum_16 : decode cX9_sum 16 = .ok (.invokevirtual 148, 3) := by decide +kernel
theorem dX9_sum_19 : decode cX9_sum 19 = .ok (.astore 4, 2) := by decide +kernel
theorem dX9_sum_21 : decode cX9_sum 21 = .ok (.aload 4, 2) := by decide +kernel
theorem dX9_sum_23 : decode cX9_sum 23 = .ok (.ifnonnull 7, 3) := by decide +kernel
theorem dX9_sum_26 : decode cX9_sum 26 = .ok (.aconst_null, 1) := by decide +kernel
theorem dX9_sum_27 : decode cX9_sum 27 = .ok (.goto 8, 3) := by decide +kernel
theorem dX9_sum_30 : decode cX9_sum 30 = .ok (.aload 4, 2) := by decide +kernel
theorem dX9_sum_32 : decode cX9_sum 32 = .ok (.invokevirtual 151, 3) := by decide +kernel
theorem dX9_sum_35 : decode cX9_sum 35 = .ok (.astore 5, 2) := by decide +kernel
theorem dX9_sum_37 : decode cX9_sum 37 = .ok (.aload 5, 2) := by decide +kernel
theorem dX9_sum_39 : decode cX9_sum 39 = .ok (.ifnull 16, 3) := by decide +kernel
theorem dX9_sum_42 : decode cX9_sum 42 = .ok (.aload_n 0, 1) := by decide +kernel
theorem dX9_sum_43 : decode cX9_sum 43 = .ok (.getfield 33, 3) := by decide +kernel
theorem dX9_sum_46 : decode cX9_sum 46 = .ok (.aload 5, 2) := by decide +kernel
theorem dX9_sum_48 : decode cX9_sum 48 = .ok (.invokevirtual 155, 3) := by decide +kernel
theorem dX9_sum_51 : decode cX9_sum 51 = .ok (.iconst (-1), 1) := by decide +kernel
theorem dX9_sum_52 : decode cX9_sum 52 = .ok (.if_icmp .eq 5, 3) := by decide +kernel
theorem dX9_sum_55 : decode cX9_sum 55 = .ok (.lconst 0, 1) := by decide +kernel
theorem dX9_sum_56 : decode cX9_sum 56 = .ok (.lreturn, 1) := by decide +kernel
theorem dX9_sum_57 : decode cX9_sum 57 = .ok (.aload_n 0, 1) := by decide +kernel
theorem dX9_sum_58 : decode cX9_sum 58 = .ok (.getfield 33, 3) := by decide +kernel
theorem dX9_sum_61 : decode cX9_sum 61 = .ok (.aload 5, 2) := by decide +kernel
theorem dX9_sum_63 : decode cX9_sum 63 = .ok (.iload_n 2, 1) := by decide +kernel
theorem dX9_sum_64 : decode cX9_sum 64 = .ok (.iconst 1, 1) := by decide +kernel
theorem dX9_sum_65 : decode cX9_sum 65 = .ok (.if_icmp .ne 7, 3) := by decide +kernel
theorem dX9_sum_68 : decode cX9_sum 68 = .ok (.iconst 1, 1) := by decide +kernel
theorem dX9_sum_69 : decode cX9_sum 69 = .ok (.goto 4, 3) := by decide +kernel
theorem dX9_sum_72 : decode cX9_sum 72 = .ok (.iconst 0, 1) := by decide +kernel
theorem dX9_sum_73 : decode cX9_sum 73 = .ok (.iload_n 3, 1) := by decide +kernel
theorem dX9_sum_74 : decode cX9_sum 74 = .ok (.invokevirtual 159, 3) := by decide +kernel
theorem dX9_sum_77 : decode cX9_sum 77 = .ok (.lreturn, 1) := by decide +kernel
set_option maxRecDepth 20000 in
theorem ggX9_table_X0_ruleAt : GoodIn wsX9_table wsX0_ruleAt := goodIn_r _ [10, 11, 12, 13, 41, 42, 43, 44, 45, 46, 47, 48, 49, 50, 51, 52, 53, 54, 55, 56] (by decide +kernel) (by decide +kernel)
set_option maxRecDepth 20000 in
theorem gX9_table_X0_ruleAt : GoodIn wsX9_table (wsV RX9 148 RX0 yX0_ruleAt wsX0_ruleAt) := goodIn_app (goodIn_of _ (by decide +kernel)) ggX9_table_X0_ruleAt
set_option maxRecDepth 20000 in
theorem ggX9_table_X6_itemAt : GoodIn wsX9_table wsX6_itemAt := goodIn_r _ [18, 19, 20, 48, 49, 50, 51, 52, 53, 54, 55, 56, 34, 35, 36, 37, 38, 39, 40] (by decide +kernel) (by decide +kernel)
set_option maxRecDepth 20000 in
theorem gX9_table_X6_itemAt : GoodIn wsX9_table (wsV RX9 163 RX6 yX6_itemAt wsX6_itemAt) := goodIn_app (goodIn_of _ (by decide +kernel)) ggX9_table_X6_itemAt
theorem dX9_table_0 : decode cX9_table 0 = .ok (.aload_n 0, 1) := by decide +kernel
theorem dX9_table_1 : decode cX9_table 1 = .ok (.getfield 40, 3) := by decide +kernel
theorem dX9_table_4 : decode cX9_table 4 = .ok (.iload_n 1, 1) := by decide +kernel
theorem dX9_table_5 : decode cX9_table 5 = .ok (.invokevirtual 148, 3) := by decide +kernel
theorem dX9_table_8 : decode cX9_table 8 = .ok (.astore_n 3, 1) := by decide +kernel
theorem dX9_table_9 : decode cX9_table 9 = .ok (.aload_n 3, 1) := by decide +kernel
theorem dX9_table_10 : decode cX9_table 10 = .ok (.ifnonnull 7, 3) := by decide +kernel
theorem dX9_table_13 : decode cX9_table 13 = .ok (.aconst_null, 1) := by decide +kernel
theorem dX9_table_14 : decode cX9_table 14 = .ok (.goto 8, 3) := by decide +kernel
theorem dX9_table_17 : decode cX9_table 17 = .ok (.aload_n 3, 1) := by decide +kernel
theorem dX9_table_18 : decode cX9_table 18 = .ok (.iload_n 2, 1) := by decide +kernel
theorem dX9_table_19 : decode cX9_table 19 = .ok (.invokevirtual 163, 3) := by decide +kernel
theorem dX9_table_22 : decode cX9_table 22 = .ok (.astore 4, 2) := by decide +kernel
theorem dX9_table_24 : decode cX9_table 24 = .ok (.aload 4, 2) := by decide +kernel
theorem dX9_table_26 : decode cX9_table 26 = .ok (.ifnonnull 13, 3) := by decide +kernel
theorem dX9_table_29 : decode cX9_table 29 = .ok (.new 167, 3) := by decide +kernel
theorem dX9_table_32 : decode cX9_table 32 = .ok (.dup, 1) := by decide +kernel
theorem dX9_table_33 : decode cX9_table 33 = .ok (.ldc 169, 2) := by decide +kernel
theorem dX9_table_35 : decode cX9_table 35 = .ok (.invokespecial 171, 3) := by decide +kernel
theorem dX9_table_38 : decode cX9_table 38 = .ok (.athrow, 1) := by decide +kernel
theorem dX9_table_39 : decode cX9_table 39 = .ok (.aload 4, 2) := by decide +kernel
theorem dX9_table_41 : decode cX9_table 41 = .ok (.getfield 174, 3) := by decide +kernel
theorem dX9_table_44 : decode cX9_table 44 = .ok (.ireturn, 1) := by decide +kernel
theorem dX9_write_0 : decode cX9_write 0 = .ok (.iload_n 1, 1) := by decide +kernel
theorem dX9_write_1 : decode cX9_write 1 = .ok (.ifCond .lt 20, 3) := by decide +kernel
theorem dX9_write_4 : decode cX9_write 4 = .ok (.iload_n 1, 1) := by decide +kernel
theorem dX9_write_5 : decode cX9_write 5 = .ok (.aload_n 0, 1) := by decide +kernel
theorem dX9_write_6 : decode cX9_write 6 = .ok (.getfield 20, 3) := by decide +kernel
theorem dX9_write_9 : decode cX9_write 9 = .ok (.if_icmp .ge 12, 3) := by decide +kernel
theorem dX9_write_12 : decode cX9_write 12 = .ok (.iload_n 1, 1) := by decide +kernel
theorem dX9_write_13 : decode cX9_write 13 = .ok (.aload_n 0, 1) := by decide +kernel
theorem dX9_write_14 : decode cX9_write 14 = .ok (.getfield 17, 3) := by decide +kernel
theorem dX9_write_17 : decode cX9_write 17 = .ok (.arraylength, 1) := by decide +kernel
theorem dX9_write_18 : decode cX9_write 18 = .ok (.if_icmp .lt 5, 3) := by decide +kernel
theorem dX9_write_21 : decode cX9_write 21 = .ok (.iconst (-1), 1) := by decide +kernel
theorem dX9_write_22 : decode cX9_write 22 = .ok (.ireturn, 1) := by decide +kernel
theorem dX9_write_23 : decode cX9_write 23 = .ok (.aload_n 0, 1) := by decide +kernel
theorem dX9_write_24 : decode cX9_write 24 = .ok (.getfield 17, 3) := by decide +kernel
theorem dX9_write_27 : decode cX9_write 27 = .ok (.iload_n 1, 1) := by decide +kernel
theorem dX9_write_28 : decode cX9_write 28 = .ok (.baload, 1) := by decide +kernel
theorem dX9_write_29 : decode cX9_write 29 = .ok (.sipush 255, 3) := by decide +kernel
theorem dX9_write_32 : decode cX9_write 32 = .ok (.iand, 1) := by decide +kernel
theorem dX9_write_33 : decode cX9_write 33 = .ok (.ireturn, 1) := by decide +kernel
set_option maxRecDepth 20000 in
theorem ggX9_keepText_X9_isGap : GoodIn wsX9_keepText wsX9_isGap := goodIn_r _ [7] (by decide +kernel) (by decide +kernel)
set_option maxRecDepth 20000 in
theorem gX9_keepText_X9_isGap : GoodIn wsX9_keepText (va_wsS RX9 179 yX9_isGap wsX9_isGap) := goodIn_app (goodIn_of _ (by decide +kernel)) ggX9_keepText_X9_isGap
set_option maxRecDepth 20000 in
theorem ggX9_keepText_X9_keepByte : GoodIn wsX9_keepText wsX9_keepByte := goodIn_r _ [11, 1, 12, 13, 14, 15, 16, 17, 18, 19] (by decide +kernel) (by decide +kernel)
set_option maxRecDepth 20000 in
theorem gX9_keepText_X9_keepByte : GoodIn wsX9_keepText (wsV RX9 183 RX9 yX9_keepByte wsX9_keepByte) := goodIn_app (goodIn_of _ (by decide +kernel)) ggX9_keepText_X9_keepByte
theorem dX9_keepText_0 : decode cX9_keepText 0 = .ok (.aload_n 0, 1) := by decide +kernel
theorem dX9_keepText_1 : decode cX9_keepText 1 = .ok (.iconst 0, 1) := by decide +kernel
theorem dX9_keepText_2 : decode cX9_keepText 2 = .ok (.putfield 20, 3) := by decide +kernel
theorem dX9_keepText_5 : decode cX9_keepText 5 = .ok (.iconst 0, 1) := by decide +kernel
theorem dX9_keepText_6 : decode cX9_keepText 6 = .ok (.istore_n 1, 1) := by decide +kernel
theorem dX9_keepText_7 : decode cX9_keepText 7 = .ok (.iconst 0, 1) := by decide +kernel
theorem dX9_keepText_8 : decode cX9_keepText 8 = .ok (.istore_n 2, 1) := by decide +kernel
theorem dX9_keepText_9 : decode cX9_keepText 9 = .ok (.iload_n 2, 1) := by decide +kernel
theorem dX9_keepText_10 : decode cX9_keepText 10 = .ok (.aload_n 0, 1) := by decide +kernel
theorem dX9_keepText_11 : decode cX9_keepText 11 = .ok (.getfield 13, 3) := by decide +kernel
theorem dX9_keepText_14 : decode cX9_keepText 14 = .ok (.if_icmp .ge 68, 3) := by decide +kernel
theorem dX9_keepText_17 : decode cX9_keepText 17 = .ok (.iload_n 2, 1) := by decide +kernel
theorem dX9_keepText_18 : decode cX9_keepText 18 = .ok (.aload_n 0, 1) := by decide +kernel
theorem dX9_keepText_19 : decode cX9_keepText 19 = .ok (.getfield 9, 3) := by decide +kernel
theorem dX9_keepText_22 : decode cX9_keepText 22 = .ok (.arraylength, 1) := by decide +kernel
theorem dX9_keepText_23 : decode cX9_keepText 23 = .ok (.if_icmp .ge 59, 3) := by decide +kernel
theorem dX9_keepText_26 : decode cX9_keepText 26 = .ok (.aload_n 0, 1) := by decide +kernel
theorem dX9_keepText_27 : decode cX9_keepText 27 = .ok (.getfield 9, 3) := by decide +kernel
theorem dX9_keepText_30 : decode cX9_keepText 30 = .ok (.iload_n 2, 1) := by decide +kernel
theorem dX9_keepText_31 : decode cX9_keepText 31 = .ok (.baload, 1) := by decide +kernel
theorem dX9_keepText_32 : decode cX9_keepText 32 = .ok (.invokestatic 179, 3) := by decide +kernel
theorem dX9_keepText_35 : decode cX9_keepText 35 = .ok (.ifCond .eq 19, 3) := by decide +kernel
theorem dX9_keepText_38 : decode cX9_keepText 38 = .ok (.aload_n 0, 1) := by decide +kernel
theorem dX9_keepText_39 : decode cX9_keepText 39 = .ok (.getfield 20, 3) := by decide +kernel
theorem dX9_keepText_42 : decode cX9_keepText 42 = .ok (.ifCond .le 7, 3) := by decide +kernel
theorem dX9_keepText_45 : decode cX9_keepText 45 = .ok (.iconst 1, 1) := by decide +kernel
theorem dX9_keepText_46 : decode cX9_keepText 46 = .ok (.goto 4, 3) := by decide +kernel
theorem dX9_keepText_49 : decode cX9_keepText 49 = .ok (.iconst 0, 1) := by decide +kernel
theorem dX9_keepText_50 : decode cX9_keepText 50 = .ok (.istore_n 1, 1) := by decide +kernel
theorem dX9_keepText_51 : decode cX9_keepText 51 = .ok (.goto 25, 3) := by decide +kernel
theorem dX9_keepText_54 : decode cX9_keepText 54 = .ok (.iload_n 1, 1) := by decide +kernel
theorem dX9_keepText_55 : decode cX9_keepText 55 = .ok (.ifCond .eq 11, 3) := by decide +kernel
theorem dX9_keepText_58 : decode cX9_keepText 58 = .ok (.aload_n 0, 1) := by decide +kernel
theorem dX9_keepText_59 : decode cX9_keepText 59 = .ok (.bipush 32, 2) := by decide +kernel
theorem dX9_keepText_61 : decode cX9_keepText 61 = .ok (.invokevirtual 183, 3) := by decide +kernel
theorem dX9_keepText_64 : decode cX9_keepText 64 = .ok (.iconst 0, 1) := by decide +kernel
theorem dX9_keepText_65 : decode cX9_keepText 65 = .ok (.istore_n 1, 1) := by decide +kernel
theorem dX9_keepText_66 : decode cX9_keepText 66 = .ok (.aload_n 0, 1) := by decide +kernel
theorem dX9_keepText_67 : decode cX9_keepText 67 = .ok (.aload_n 0, 1) := by decide +kernel
theorem dX9_keepText_68 : decode cX9_keepText 68 = .ok (.getfield 9, 3) := by decide +kernel
theorem dX9_keepText_71 : decode cX9_keepText 71 = .ok (.iload_n 2, 1) := by decide +kernel
theorem dX9_keepText_72 : decode cX9_keepText 72 = .ok (.baload, 1) := by decide +kernel
theorem dX9_keepText_73 : decode cX9_keepText 73 = .ok (.invokevirtual 183, 3) := by decide +kernel
theorem dX9_keepText_76 : decode cX9_keepText 76 = .ok (.iinc 2 1, 3) := by decide +kernel
theorem dX9_keepText_79 : decode cX9_keepText 79 = .ok (.goto (-70), 3) := by decide +kernel
theorem dX9_keepText_82 : decode cX9_keepText 82 = .ok (.return_, 1) := by decide +kernel
theorem dX9_keepByte_0 : decode cX9_keepByte 0 = .ok (.aload_n 0, 1) := by decide +kernel
theorem dX9_keepByte_1 : decode cX9_keepByte 1 = .ok (.getfield 20, 3) := by decide +kernel
theorem dX9_keepByte_4 : decode cX9_keepByte 4 = .ok (.ifCond .lt 35, 3) := by decide +kernel
theorem dX9_keepByte_7 : decode cX9_keepByte 7 = .ok (.aload_n 0, 1) := by decide +kernel
theorem dX9_keepByte_8 : decode cX9_keepByte 8 = .ok (.getfield 20, 3) := by decide +kernel
theorem dX9_keepByte_11 : decode cX9_keepByte 11 = .ok (.aload_n 0, 1) := by decide +kernel
theorem dX9_keepByte_12 : decode cX9_keepByte 12 = .ok (.getfield 17, 3) := by decide +kernel
theorem dX9_keepByte_15 : decode cX9_keepByte 15 = .ok (.arraylength, 1) := by decide +kernel
theorem dX9_keepByte_16 : decode cX9_keepByte 16 = .ok (.if_icmp .ge 23, 3) := by decide +kernel
theorem dX9_keepByte_19 : decode cX9_keepByte 19 = .ok (.aload_n 0, 1) := by decide +kernel
theorem dX9_keepByte_20 : decode cX9_keepByte 20 = .ok (.getfield 17, 3) := by decide +kernel
theorem dX9_keepByte_23 : decode cX9_keepByte 23 = .ok (.aload_n 0, 1) := by decide +kernel
theorem dX9_keepByte_24 : decode cX9_keepByte 24 = .ok (.getfield 20, 3) := by decide +kernel
theorem dX9_keepByte_27 : decode cX9_keepByte 27 = .ok (.iload_n 1, 1) := by decide +kernel
theorem dX9_keepByte_28 : decode cX9_keepByte 28 = .ok (.bastore, 1) := by decide +kernel
theorem dX9_keepByte_29 : decode cX9_keepByte 29 = .ok (.aload_n 0, 1) := by decide +kernel
theorem dX9_keepByte_30 : decode cX9_keepByte 30 = .ok (.dup, 1) := by decide +kernel
theorem dX9_keepByte_31 : decode cX9_keepByte 31 = .ok (.getfield 20, 3) := by decide +kernel
theorem dX9_keepByte_34 : decode cX9_keepByte 34 = .ok (.iconst 1, 1) := by decide +kernel
theorem dX9_keepByte_35 : decode cX9_keepByte 35 = .ok (.iadd, 1) := by decide +kernel
theorem dX9_keepByte_36 : decode cX9_keepByte 36 = .ok (.putfield 20, 3) := by decide +kernel
theorem dX9_keepByte_39 : decode cX9_keepByte 39 = .ok (.return_, 1) := by decide +kernel
theorem dX9_isGap_0 : decode cX9_isGap 0 = .ok (.iload_n 0, 1) := by decide +kernel
theorem dX9_isGap_1 : decode cX9_isGap 1 = .ok (.bipush 32, 2) := by decide +kernel
theorem dX9_isGap_3 : decode cX9_isGap 3 = .ok (.if_icmp .eq 9, 3) := by decide +kernel
theorem dX9_isGap_6 : decode cX9_isGap 6 = .ok (.iload_n 0, 1) := by decide +kernel
theorem dX9_isGap_7 : decode cX9_isGap 7 = .ok (.bipush 10, 2) := by decide +kernel
theorem dX9_isGap_9 : decode cX9_isGap 9 = .ok (.if_icmp .ne 7, 3) := by decide +kernel
theorem dX9_isGap_12 : decode cX9_isGap 12 = .ok (.iconst 1, 1) := by decide +kernel
theorem dX9_isGap_13 : decode cX9_isGap 13 = .ok (.goto 4, 3) := by decide +kernel
theorem dX9_isGap_16 : decode cX9_isGap 16 = .ok (.iconst 0, 1) := by decide +kernel
theorem dX9_isGap_17 : decode cX9_isGap 17 = .ok (.ireturn, 1) := by decide +kernel
theorem dX10_init_0 : decode cX10_init 0 = .ok (.aload_n 0, 1) := by decide +kernel
theorem dX10_init_1 : decode cX10_init 1 = .ok (.invokespecial 1, 3) := by decide +kernel
theorem dX10_init_4 : decode cX10_init 4 = .ok (.aload_n 0, 1) := by decide +kernel
theorem dX10_init_5 : decode cX10_init 5 = .ok (.sipush 3000, 3) := by decide +kernel
theorem dX10_init_8 : decode cX10_init 8 = .ok (.newarray .byte, 2) := by decide +kernel
theorem dX10_init_10 : decode cX10_init 10 = .ok (.putfield 7, 3) := by decide +kernel
theorem dX10_init_13 : decode cX10_init 13 = .ok (.aload_n 0, 1) := by decide +kernel
theorem dX10_init_14 : decode cX10_init 14 = .ok (.sipush 3000, 3) := by decide +kernel
theorem dX10_init_17 : decode cX10_init 17 = .ok (.newarray .byte, 2) := by decide +kernel
theorem dX10_init_19 : decode cX10_init 19 = .ok (.putfield 13, 3) := by decide +kernel
theorem dX10_init_22 : decode cX10_init 22 = .ok (.aload_n 0, 1) := by decide +kernel
theorem dX10_init_23 : decode cX10_init 23 = .ok (.sipush 1501, 3) := by decide +kernel
theorem dX10_init_26 : decode cX10_init 26 = .ok (.newarray .int, 2) := by decide +kernel
theorem dX10_init_28 : decode cX10_init 28 = .ok (.putfield 16, 3) := by decide +kernel
theorem dX10_init_31 : decode cX10_init 31 = .ok (.aload_n 0, 1) := by decide +kernel
theorem dX10_init_32 : decode cX10_init 32 = .ok (.sipush 1501, 3) := by decide +kernel
theorem dX10_init_35 : decode cX10_init 35 = .ok (.newarray .int, 2) := by decide +kernel
theorem dX10_init_37 : decode cX10_init 37 = .ok (.putfield 20, 3) := by decide +kernel
theorem dX10_init_40 : decode cX10_init 40 = .ok (.aload_n 0, 1) := by decide +kernel
theorem dX10_init_41 : decode cX10_init 41 = .ok (.sipush 1501, 3) := by decide +kernel
theorem dX10_init_44 : decode cX10_init 44 = .ok (.newarray .int, 2) := by decide +kernel
theorem dX10_init_46 : decode cX10_init 46 = .ok (.putfield 23, 3) := by decide +kernel
theorem dX10_init_49 : decode cX10_init 49 = .ok (.aload_n 0, 1) := by decide +kernel
theorem dX10_init_50 : decode cX10_init 50 = .ok (.sipush 1501, 3) := by decide +kernel
theorem dX10_init_53 : decode cX10_init 53 = .ok (.newarray .int, 2) := by decide +kernel
theorem dX10_init_55 : decode cX10_init 55 = .ok (.putfield 26, 3) := by decide +kernel
theorem dX10_init_58 : decode cX10_init 58 = .ok (.aload_n 0, 1) := by decide +kernel
theorem dX10_init_59 : decode cX10_init 59 = .ok (.bipush 60, 2) := by decide +kernel
theorem dX10_init_61 : decode cX10_init 61 = .ok (.newarray .int, 2) := by decide +kernel
theorem dX10_init_63 : decode cX10_init 63 = .ok (.putfield 29, 3) := by decide +kernel
theorem dX10_init_66 : decode cX10_init 66 = .ok (.aload_n 0, 1) := by decide +kernel
theorem dX10_init_67 : decode cX10_init 67 = .ok (.bipush 60, 2) := by decide +kernel
theorem dX10_init_69 : decode cX10_init 69 = .ok (.newarray .int, 2) := by decide +kernel
theorem dX10_init_71 : decode cX10_init 71 = .ok (.putfield 32, 3) := by decide +kernel
theorem dX10_init_74 : decode cX10_init 74 = .ok (.aload_n 0, 1) := by decide +kernel
theorem dX10_init_75 : decode cX10_init 75 = .ok (.sipush 1500, 3) := by decide +kernel
theorem dX10_init_78 : decode cX10_init 78 = .ok (.newarray .int, 2) := by decide +kernel
theorem dX10_init_80 : decode cX10_init 80 = .ok (.putfield 35, 3) := by decide +kernel
theorem dX10_init_83 : decode cX10_init 83 = .ok (.aload_n 0, 1) := by decide +kernel
theorem dX10_init_84 : decode cX10_init 84 = .ok (.bipush 16, 2) := by decide +kernel
theorem dX10_init_86 : decode cX10_init 86 = .ok (.newarray .int, 2) := by decide +kernel
theorem dX10_init_88 : decode cX10_init 88 = .ok (.putfield 38, 3) := by decide +kernel
theorem dX10_init_91 : decode cX10_init 91 = .ok (.aload_n 0, 1) := by decide +kernel
theorem dX10_init_92 : decode cX10_init 92 = .ok (.bipush 16, 2) := by decide +kernel
theorem dX10_init_94 : decode cX10_init 94 = .ok (.newarray .int, 2) := by decide +kernel
theorem dX10_init_96 : decode cX10_init 96 = .ok (.putfield 41, 3) := by decide +kernel
theorem dX10_init_99 : decode cX10_init 99 = .ok (.aload_n 0, 1) := by decide +kernel
theorem dX10_init_100 : decode cX10_init 100 = .ok (.bipush 16, 2) := by decide +kernel
theorem dX10_init_102 : decode cX10_init 102 = .ok (.newarray .boolean, 2) := by decide +kernel
theorem dX10_init_104 : decode cX10_init 104 = .ok (.putfield 44, 3) := by decide +kernel
theorem dX10_init_107 : decode cX10_init 107 = .ok (.aload_n 0, 1) := by decide +kernel
theorem dX10_init_108 : decode cX10_init 108 = .ok (.bipush 8, 2) := by decide +kernel
theorem dX10_init_110 : decode cX10_init 110 = .ok (.newarray .int, 2) := by decide +kernel
theorem dX10_init_112 : decode cX10_init 112 = .ok (.putfield 48, 3) := by decide +kernel
theorem dX10_init_115 : decode cX10_init 115 = .ok (.aload_n 0, 1) := by decide +kernel
theorem dX10_init_116 : decode cX10_init 116 = .ok (.iconst 1, 1) := by decide +kernel
theorem dX10_init_117 : decode cX10_init 117 = .ok (.putfield 51, 3) := by decide +kernel
theorem dX10_init_120 : decode cX10_init 120 = .ok (.aload_n 0, 1) := by decide +kernel
theorem dX10_init_121 : decode cX10_init 121 = .ok (.iconst (-1), 1) := by decide +kernel
theorem dX10_init_122 : decode cX10_init 122 = .ok (.putfield 55, 3) := by decide +kernel
theorem dX10_init_125 : decode cX10_init 125 = .ok (.aload_n 0, 1) := by decide +kernel
theorem dX10_init_126 : decode cX10_init 126 = .ok (.bipush 60, 2) := by decide +kernel
theorem dX10_init_128 : decode cX10_init 128 = .ok (.newarray .int, 2) := by decide +kernel
theorem dX10_init_130 : decode cX10_init 130 = .ok (.putfield 59, 3) := by decide +kernel
theorem dX10_init_133 : decode cX10_init 133 = .ok (.aload_n 0, 1) := by decide +kernel
theorem dX10_init_134 : decode cX10_init 134 = .ok (.bipush 60, 2) := by decide +kernel
theorem dX10_init_136 : decode cX10_init 136 = .ok (.newarray .int, 2) := by decide +kernel
theorem dX10_init_138 : decode cX10_init 138 = .ok (.putfield 62, 3) := by decide +kernel
theorem dX10_init_141 : decode cX10_init 141 = .ok (.aload_n 0, 1) := by decide +kernel
theorem dX10_init_142 : decode cX10_init 142 = .ok (.bipush 20, 2) := by decide +kernel
theorem dX10_init_144 : decode cX10_init 144 = .ok (.newarray .int, 2) := by decide +kernel
theorem dX10_init_146 : decode cX10_init 146 = .ok (.putfield 65, 3) := by decide +kernel
theorem dX10_init_149 : decode cX10_init 149 = .ok (.iconst 0, 1) := by decide +kernel
theorem dX10_init_150 : decode cX10_init 150 = .ok (.istore_n 1, 1) := by decide +kernel
theorem dX10_init_151 : decode cX10_init 151 = .ok (.iload_n 1, 1) := by decide +kernel
theorem dX10_init_152 : decode cX10_init 152 = .ok (.bipush 7, 2) := by decide +kernel
theorem dX10_init_154 : decode cX10_init 154 = .ok (.if_icmp .gt 16, 3) := by decide +kernel
theorem dX10_init_157 : decode cX10_init 157 = .ok (.aload_n 0, 1) := by decide +kernel
theorem dX10_init_158 : decode cX10_init 158 = .ok (.getfield 48, 3) := by decide +kernel
theorem dX10_init_161 : decode cX10_init 161 = .ok (.iload_n 1, 1) := by decide +kernel
theorem dX10_init_162 : decode cX10_init 162 = .ok (.iconst (-1), 1) := by decide +kernel
theorem dX10_init_163 : decode cX10_init 163 = .ok (.iastore, 1) := by decide +kernel
theorem dX10_init_164 : decode cX10_init 164 = .ok (.iinc 1 1, 3) := by decide +kernel
theorem dX10_init_167 : decode cX10_init 167 = .ok (.goto (-16), 3) := by decide +kernel
theorem dX10_init_170 : decode cX10_init 170 = .ok (.return_, 1) := by decide +kernel
