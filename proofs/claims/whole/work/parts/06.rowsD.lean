theorem dX10_thrown_0 : decode cX10_thrown 0 = .ok (.aload_n 0, 1) := by decide +kernel
theorem dX10_thrown_1 : decode cX10_thrown 1 = .ok (.getfield 68, 3) := by decide +kernel
theorem dX10_thrown_4 : decode cX10_thrown 4 = .ok (.ireturn, 1) := by decide +kernel
theorem dX10_unit_0 : decode cX10_unit 0 = .ok (.aload_n 0, 1) := by decide +kernel
theorem dX10_unit_1 : decode cX10_unit 1 = .ok (.iconst 0, 1) := by decide +kernel
theorem dX10_unit_2 : decode cX10_unit 2 = .ok (.putfield 68, 3) := by decide +kernel
theorem dX10_unit_5 : decode cX10_unit 5 = .ok (.iload_n 1, 1) := by decide +kernel
theorem dX10_unit_6 : decode cX10_unit 6 = .ok (.ifCond .lt 20, 3) := by decide +kernel
theorem dX10_unit_9 : decode cX10_unit 9 = .ok (.iload_n 1, 1) := by decide +kernel
theorem dX10_unit_10 : decode cX10_unit 10 = .ok (.sipush 255, 3) := by decide +kernel
theorem dX10_unit_13 : decode cX10_unit 13 = .ok (.if_icmp .gt 13, 3) := by decide +kernel
theorem dX10_unit_16 : decode cX10_unit 16 = .ok (.aload_n 0, 1) := by decide +kernel
theorem dX10_unit_17 : decode cX10_unit 17 = .ok (.getfield 71, 3) := by decide +kernel
theorem dX10_unit_20 : decode cX10_unit 20 = .ok (.sipush 3000, 3) := by decide +kernel
theorem dX10_unit_23 : decode cX10_unit 23 = .ok (.if_icmp .ne 5, 3) := by decide +kernel
theorem dX10_unit_26 : decode cX10_unit 26 = .ok (.iconst 0, 1) := by decide +kernel
theorem dX10_unit_27 : decode cX10_unit 27 = .ok (.ireturn, 1) := by decide +kernel
theorem dX10_unit_28 : decode cX10_unit 28 = .ok (.aload_n 0, 1) := by decide +kernel
theorem dX10_unit_29 : decode cX10_unit 29 = .ok (.getfield 7, 3) := by decide +kernel
theorem dX10_unit_32 : decode cX10_unit 32 = .ok (.aload_n 0, 1) := by decide +kernel
theorem dX10_unit_33 : decode cX10_unit 33 = .ok (.getfield 71, 3) := by decide +kernel
theorem dX10_unit_36 : decode cX10_unit 36 = .ok (.iload_n 1, 1) := by decide +kernel
theorem dX10_unit_37 : decode cX10_unit 37 = .ok (.i2b, 1) := by decide +kernel
theorem dX10_unit_38 : decode cX10_unit 38 = .ok (.bastore, 1) := by decide +kernel
theorem dX10_unit_39 : decode cX10_unit 39 = .ok (.aload_n 0, 1) := by decide +kernel
theorem dX10_unit_40 : decode cX10_unit 40 = .ok (.dup, 1) := by decide +kernel
theorem dX10_unit_41 : decode cX10_unit 41 = .ok (.getfield 71, 3) := by decide +kernel
theorem dX10_unit_44 : decode cX10_unit 44 = .ok (.iconst 1, 1) := by decide +kernel
theorem dX10_unit_45 : decode cX10_unit 45 = .ok (.iadd, 1) := by decide +kernel
theorem dX10_unit_46 : decode cX10_unit 46 = .ok (.putfield 71, 3) := by decide +kernel
theorem dX10_unit_49 : decode cX10_unit 49 = .ok (.iconst 1, 1) := by decide +kernel
theorem dX10_unit_50 : decode cX10_unit 50 = .ok (.ireturn, 1) := by decide +kernel
theorem dX10_isGap_0 : decode cX10_isGap 0 = .ok (.iload_n 0, 1) := by decide +kernel
theorem dX10_isGap_1 : decode cX10_isGap 1 = .ok (.bipush 32, 2) := by decide +kernel
theorem dX10_isGap_3 : decode cX10_isGap 3 = .ok (.if_icmp .eq 9, 3) := by decide +kernel
theorem dX10_isGap_6 : decode cX10_isGap 6 = .ok (.iload_n 0, 1) := by decide +kernel
theorem dX10_isGap_7 : decode cX10_isGap 7 = .ok (.bipush 10, 2) := by decide +kernel
theorem dX10_isGap_9 : decode cX10_isGap 9 = .ok (.if_icmp .ne 7, 3) := by decide +kernel
theorem dX10_isGap_12 : decode cX10_isGap 12 = .ok (.iconst 1, 1) := by decide +kernel
theorem dX10_isGap_13 : decode cX10_isGap 13 = .ok (.goto 4, 3) := by decide +kernel
theorem dX10_isGap_16 : decode cX10_isGap 16 = .ok (.iconst 0, 1) := by decide +kernel
theorem dX10_isGap_17 : decode cX10_isGap 17 = .ok (.ireturn, 1) := by decide +kernel
set_option maxRecDepth 20000 in
theorem ggX10_split_X10_isGap : GoodIn wsX10_split wsX10_isGap := goodIn_r _ [9] (by decide +kernel) (by decide +kernel)
set_option maxRecDepth 20000 in
theorem gX10_split_X10_isGap : GoodIn wsX10_split (va_wsS RX10 77 yX10_isGap wsX10_isGap) := goodIn_app (goodIn_of _ (by decide +kernel)) ggX10_split_X10_isGap
theorem dX10_split_0 : decode cX10_split 0 = .ok (.aload_n 0, 1) := by decide +kernel
theorem dX10_split_1 : decode cX10_split 1 = .ok (.iconst 0, 1) := by decide +kernel
theorem dX10_split_2 : decode cX10_split 2 = .ok (.putfield 74, 3) := by decide +kernel
theorem dX10_split_5 : decode cX10_split 5 = .ok (.iconst 0, 1) := by decide +kernel
theorem dX10_split_6 : decode cX10_split 6 = .ok (.istore_n 1, 1) := by decide +kernel
theorem dX10_split_7 : decode cX10_split 7 = .ok (.iload_n 1, 1) := by decide +kernel
theorem dX10_split_8 : decode cX10_split 8 = .ok (.aload_n 0, 1) := by decide +kernel
theorem dX10_split_9 : decode cX10_split 9 = .ok (.getfield 71, 3) := by decide +kernel
theorem dX10_split_12 : decode cX10_split 12 = .ok (.if_icmp .ge 73, 3) := by decide +kernel
theorem dX10_split_15 : decode cX10_split 15 = .ok (.iload_n 1, 1) := by decide +kernel
theorem dX10_split_16 : decode cX10_split 16 = .ok (.istore_n 2, 1) := by decide +kernel
theorem dX10_split_17 : decode cX10_split 17 = .ok (.iload_n 2, 1) := by decide +kernel
theorem dX10_split_18 : decode cX10_split 18 = .ok (.aload_n 0, 1) := by decide +kernel
theorem dX10_split_19 : decode cX10_split 19 = .ok (.getfield 71, 3) := by decide +kernel
theorem dX10_split_22 : decode cX10_split 22 = .ok (.if_icmp .ge 21, 3) := by decide +kernel
theorem dX10_split_25 : decode cX10_split 25 = .ok (.aload_n 0, 1) := by decide +kernel
theorem dX10_split_26 : decode cX10_split 26 = .ok (.getfield 7, 3) := by decide +kernel
theorem dX10_split_29 : decode cX10_split 29 = .ok (.iload_n 2, 1) := by decide +kernel
theorem dX10_split_30 : decode cX10_split 30 = .ok (.baload, 1) := by decide +kernel
theorem dX10_split_31 : decode cX10_split 31 = .ok (.invokestatic 77, 3) := by decide +kernel
theorem dX10_split_34 : decode cX10_split 34 = .ok (.ifCond .ne 9, 3) := by decide +kernel
theorem dX10_split_37 : decode cX10_split 37 = .ok (.iinc 2 1, 3) := by decide +kernel
theorem dX10_split_40 : decode cX10_split 40 = .ok (.goto (-23), 3) := by decide +kernel
theorem dX10_split_43 : decode cX10_split 43 = .ok (.iload_n 2, 1) := by decide +kernel
theorem dX10_split_44 : decode cX10_split 44 = .ok (.iload_n 1, 1) := by decide +kernel
theorem dX10_split_45 : decode cX10_split 45 = .ok (.if_icmp .le 33, 3) := by decide +kernel
theorem dX10_split_48 : decode cX10_split 48 = .ok (.aload_n 0, 1) := by decide +kernel
theorem dX10_split_49 : decode cX10_split 49 = .ok (.getfield 23, 3) := by decide +kernel
theorem dX10_split_52 : decode cX10_split 52 = .ok (.aload_n 0, 1) := by decide +kernel
theorem dX10_split_53 : decode cX10_split 53 = .ok (.getfield 74, 3) := by decide +kernel
theorem dX10_split_56 : decode cX10_split 56 = .ok (.iload_n 1, 1) := by decide +kernel
theorem dX10_split_57 : decode cX10_split 57 = .ok (.iastore, 1) := by decide +kernel
theorem dX10_split_58 : decode cX10_split 58 = .ok (.aload_n 0, 1) := by decide +kernel
theorem dX10_split_59 : decode cX10_split 59 = .ok (.getfield 26, 3) := by decide +kernel
theorem dX10_split_62 : decode cX10_split 62 = .ok (.aload_n 0, 1) := by decide +kernel
theorem dX10_split_63 : decode cX10_split 63 = .ok (.getfield 74, 3) := by decide +kernel
theorem dX10_split_66 : decode cX10_split 66 = .ok (.iload_n 2, 1) := by decide +kernel
theorem dX10_split_67 : decode cX10_split 67 = .ok (.iastore, 1) := by decide +kernel
theorem dX10_split_68 : decode cX10_split 68 = .ok (.aload_n 0, 1) := by decide +kernel
theorem dX10_split_69 : decode cX10_split 69 = .ok (.dup, 1) := by decide +kernel
theorem dX10_split_70 : decode cX10_split 70 = .ok (.getfield 74, 3) := by decide +kernel
theorem dX10_split_73 : decode cX10_split 73 = .ok (.iconst 1, 1) := by decide +kernel
theorem dX10_split_74 : decode cX10_split 74 = .ok (.iadd, 1) := by decide +kernel
theorem dX10_split_75 : decode cX10_split 75 = .ok (.putfield 74, 3) := by decide +kernel
theorem dX10_split_78 : decode cX10_split 78 = .ok (.iload_n 2, 1) := by decide +kernel
theorem dX10_split_79 : decode cX10_split 79 = .ok (.iconst 1, 1) := by decide +kernel
theorem dX10_split_80 : decode cX10_split 80 = .ok (.iadd, 1) := by decide +kernel
theorem dX10_split_81 : decode cX10_split 81 = .ok (.istore_n 1, 1) := by decide +kernel
theorem dX10_split_82 : decode cX10_split 82 = .ok (.goto (-75), 3) := by decide +kernel
theorem dX10_split_85 : decode cX10_split 85 = .ok (.return_, 1) := by decide +kernel
theorem dX10_wordOf_0 : decode cX10_wordOf 0 = .ok (.lconst 1, 1) := by decide +kernel
theorem dX10_wordOf_1 : decode cX10_wordOf 1 = .ok (.lstore 4, 2) := by decide +kernel
theorem dX10_wordOf_3 : decode cX10_wordOf 3 = .ok (.aload_n 1, 1) := by decide +kernel
theorem dX10_wordOf_4 : decode cX10_wordOf 4 = .ok (.iload_n 3, 1) := by decide +kernel
theorem dX10_wordOf_5 : decode cX10_wordOf 5 = .ok (.iaload, 1) := by decide +kernel
theorem dX10_wordOf_6 : decode cX10_wordOf 6 = .ok (.istore 6, 2) := by decide +kernel
theorem dX10_wordOf_8 : decode cX10_wordOf 8 = .ok (.iload 6, 2) := by decide +kernel
theorem dX10_wordOf_10 : decode cX10_wordOf 10 = .ok (.aload_n 2, 1) := by decide +kernel
theorem dX10_wordOf_11 : decode cX10_wordOf 11 = .ok (.iload_n 3, 1) := by decide +kernel
theorem dX10_wordOf_12 : decode cX10_wordOf 12 = .ok (.iaload, 1) := by decide +kernel
theorem dX10_wordOf_13 : decode cX10_wordOf 13 = .ok (.if_icmp .ge 39, 3) := by decide +kernel
theorem dX10_wordOf_16 : decode cX10_wordOf 16 = .ok (.aload_n 2, 1) := by decide +kernel
theorem dX10_wordOf_17 : decode cX10_wordOf 17 = .ok (.iload_n 3, 1) := by decide +kernel
theorem dX10_wordOf_18 : decode cX10_wordOf 18 = .ok (.iaload, 1) := by decide +kernel
theorem dX10_wordOf_19 : decode cX10_wordOf 19 = .ok (.aload_n 1, 1) := by decide +kernel
theorem dX10_wordOf_20 : decode cX10_wordOf 20 = .ok (.iload_n 3, 1) := by decide +kernel
theorem dX10_wordOf_21 : decode cX10_wordOf 21 = .ok (.iaload, 1) := by decide +kernel
theorem dX10_wordOf_22 : decode cX10_wordOf 22 = .ok (.isub, 1) := by decide +kernel
theorem dX10_wordOf_23 : decode cX10_wordOf 23 = .ok (.bipush 8, 2) := by decide +kernel
theorem dX10_wordOf_25 : decode cX10_wordOf 25 = .ok (.if_icmp .ge 27, 3) := by decide +kernel
theorem dX10_wordOf_28 : decode cX10_wordOf 28 = .ok (.ldc2_w 81, 3) := by decide +kernel
theorem dX10_wordOf_31 : decode cX10_wordOf 31 = .ok (.lload 4, 2) := by decide +kernel
theorem dX10_wordOf_33 : decode cX10_wordOf 33 = .ok (.lmul, 1) := by decide +kernel
theorem dX10_wordOf_34 : decode cX10_wordOf 34 = .ok (.aload_n 0, 1) := by decide +kernel
theorem dX10_wordOf_35 : decode cX10_wordOf 35 = .ok (.iload 6, 2) := by decide +kernel
theorem dX10_wordOf_37 : decode cX10_wordOf 37 = .ok (.baload, 1) := by decide +kernel
theorem dX10_wordOf_38 : decode cX10_wordOf 38 = .ok (.sipush 255, 3) := by decide +kernel
theorem dX10_wordOf_41 : decode cX10_wordOf 41 = .ok (.iand, 1) := by decide +kernel
theorem dX10_wordOf_42 : decode cX10_wordOf 42 = .ok (.i2l, 1) := by decide +kernel
theorem dX10_wordOf_43 : decode cX10_wordOf 43 = .ok (.ladd, 1) := by decide +kernel
theorem dX10_wordOf_44 : decode cX10_wordOf 44 = .ok (.lstore 4, 2) := by decide +kernel
theorem dX10_wordOf_46 : decode cX10_wordOf 46 = .ok (.iinc 6 1, 3) := by decide +kernel
theorem dX10_wordOf_49 : decode cX10_wordOf 49 = .ok (.goto (-41), 3) := by decide +kernel
theorem dX10_wordOf_52 : decode cX10_wordOf 52 = .ok (.lload 4, 2) := by decide +kernel
theorem dX10_wordOf_54 : decode cX10_wordOf 54 = .ok (.lreturn, 1) := by decide +kernel
theorem dX10_numberOf_0 : decode cX10_numberOf 0 = .ok (.aload_n 2, 1) := by decide +kernel
theorem dX10_numberOf_1 : decode cX10_numberOf 1 = .ok (.iload_n 3, 1) := by decide +kernel
theorem dX10_numberOf_2 : decode cX10_numberOf 2 = .ok (.iaload, 1) := by decide +kernel
theorem dX10_numberOf_3 : decode cX10_numberOf 3 = .ok (.aload_n 1, 1) := by decide +kernel
theorem dX10_numberOf_4 : decode cX10_numberOf 4 = .ok (.iload_n 3, 1) := by decide +kernel
theorem dX10_numberOf_5 : decode cX10_numberOf 5 = .ok (.iaload, 1) := by decide +kernel
theorem dX10_numberOf_6 : decode cX10_numberOf 6 = .ok (.isub, 1) := by decide +kernel
theorem dX10_numberOf_7 : decode cX10_numberOf 7 = .ok (.istore 4, 2) := by decide +kernel
theorem dX10_numberOf_9 : decode cX10_numberOf 9 = .ok (.iload 4, 2) := by decide +kernel
theorem dX10_numberOf_11 : decode cX10_numberOf 11 = .ok (.bipush 9, 2) := by decide +kernel
theorem dX10_numberOf_13 : decode cX10_numberOf 13 = .ok (.if_icmp .le 7, 3) := by decide +kernel
theorem dX10_numberOf_16 : decode cX10_numberOf 16 = .ok (.iconst (-1), 1) := by decide +kernel
theorem dX10_numberOf_17 : decode cX10_numberOf 17 = .ok (.goto 4, 3) := by decide +kernel
theorem dX10_numberOf_20 : decode cX10_numberOf 20 = .ok (.iconst 0, 1) := by decide +kernel
theorem dX10_numberOf_21 : decode cX10_numberOf 21 = .ok (.istore 5, 2) := by decide +kernel
theorem dX10_numberOf_23 : decode cX10_numberOf 23 = .ok (.iconst 0, 1) := by decide +kernel
theorem dX10_numberOf_24 : decode cX10_numberOf 24 = .ok (.istore 6, 2) := by decide +kernel
theorem dX10_numberOf_26 : decode cX10_numberOf 26 = .ok (.iload 6, 2) := by decide +kernel
theorem dX10_numberOf_28 : decode cX10_numberOf 28 = .ok (.iload 4, 2) := by decide +kernel
theorem dX10_numberOf_30 : decode cX10_numberOf 30 = .ok (.if_icmp .ge 53, 3) := by decide +kernel
theorem dX10_numberOf_33 : decode cX10_numberOf 33 = .ok (.iload 5, 2) := by decide +kernel
theorem dX10_numberOf_35 : decode cX10_numberOf 35 = .ok (.ifCond .lt 48, 3) := by decide +kernel
theorem dX10_numberOf_38 : decode cX10_numberOf 38 = .ok (.aload_n 0, 1) := by decide +kernel
theorem dX10_numberOf_39 : decode cX10_numberOf 39 = .ok (.aload_n 1, 1) := by decide +kernel
theorem dX10_numberOf_40 : decode cX10_numberOf 40 = .ok (.iload_n 3, 1) := by decide +kernel
theorem dX10_numberOf_41 : decode cX10_numberOf 41 = .ok (.iaload, 1) := by decide +kernel
theorem dX10_numberOf_42 : decode cX10_numberOf 42 = .ok (.iload 6, 2) := by decide +kernel
theorem dX10_numberOf_44 : decode cX10_numberOf 44 = .ok (.iadd, 1) := by decide +kernel
theorem dX10_numberOf_45 : decode cX10_numberOf 45 = .ok (.baload, 1) := by decide +kernel
theorem dX10_numberOf_46 : decode cX10_numberOf 46 = .ok (.bipush 48, 2) := by decide +kernel
theorem dX10_numberOf_48 : decode cX10_numberOf 48 = .ok (.isub, 1) := by decide +kernel
theorem dX10_numberOf_49 : decode cX10_numberOf 49 = .ok (.istore 7, 2) := by decide +kernel
theorem dX10_numberOf_51 : decode cX10_numberOf 51 = .ok (.iload 7, 2) := by decide +kernel
theorem dX10_numberOf_53 : decode cX10_numberOf 53 = .ok (.ifCond .lt 10, 3) := by decide +kernel
theorem dX10_numberOf_56 : decode cX10_numberOf 56 = .ok (.iload 7, 2) := by decide +kernel
theorem dX10_numberOf_58 : decode cX10_numberOf 58 = .ok (.bipush 9, 2) := by decide +kernel
theorem dX10_numberOf_60 : decode cX10_numberOf 60 = .ok (.if_icmp .le 7, 3) := by decide +kernel
theorem dX10_numberOf_63 : decode cX10_numberOf 63 = .ok (.iconst (-1), 1) := by decide +kernel
theorem dX10_numberOf_64 : decode cX10_numberOf 64 = .ok (.goto 11, 3) := by decide +kernel
theorem dX10_numberOf_67 : decode cX10_numberOf 67 = .ok (.bipush 10, 2) := by decide +kernel
theorem dX10_numberOf_69 : decode cX10_numberOf 69 = .ok (.iload 5, 2) := by decide +kernel
theorem dX10_numberOf_71 : decode cX10_numberOf 71 = .ok (.imul, 1) := by decide +kernel
theorem dX10_numberOf_72 : decode cX10_numberOf 72 = .ok (.iload 7, 2) := by decide +kernel
theorem dX10_numberOf_74 : decode cX10_numberOf 74 = .ok (.iadd, 1) := by decide +kernel
theorem dX10_numberOf_75 : decode cX10_numberOf 75 = .ok (.istore 5, 2) := by decide +kernel
theorem dX10_numberOf_77 : decode cX10_numberOf 77 = .ok (.iinc 6 1, 3) := by decide +kernel
theorem dX10_numberOf_80 : decode cX10_numberOf 80 = .ok (.goto (-54), 3) := by decide +kernel
theorem dX10_numberOf_83 : decode cX10_numberOf 83 = .ok (.iload 5, 2) := by decide +kernel
theorem dX10_numberOf_85 : decode cX10_numberOf 85 = .ok (.ireturn, 1) := by decide +kernel
set_option maxRecDepth 20000 in
theorem ggX10_sees_X10_wordOf : GoodIn wsX10_sees wsX10_wordOf := goodIn_r _ [9, 10] (by decide +kernel) (by decide +kernel)
set_option maxRecDepth 20000 in
theorem gX10_sees_X10_wordOf : GoodIn wsX10_sees (va_wsS RX10 86 yX10_wordOf wsX10_wordOf) := goodIn_app (goodIn_of _ (by decide +kernel)) ggX10_sees_X10_wordOf
theorem dX10_sees_0 : decode cX10_sees 0 = .ok (.aload_n 0, 1) := by decide +kernel
theorem dX10_sees_1 : decode cX10_sees 1 = .ok (.getfield 83, 3) := by decide +kernel
theorem dX10_sees_4 : decode cX10_sees 4 = .ok (.aload_n 0, 1) := by decide +kernel
theorem dX10_sees_5 : decode cX10_sees 5 = .ok (.getfield 74, 3) := by decide +kernel
theorem dX10_sees_8 : decode cX10_sees 8 = .ok (.if_icmp .ge 31, 3) := by decide +kernel
theorem dX10_sees_11 : decode cX10_sees 11 = .ok (.aload_n 0, 1) := by decide +kernel
theorem dX10_sees_12 : decode cX10_sees 12 = .ok (.getfield 7, 3) := by decide +kernel
theorem dX10_sees_15 : decode cX10_sees 15 = .ok (.aload_n 0, 1) := by decide +kernel
theorem dX10_sees_16 : decode cX10_sees 16 = .ok (.getfield 23, 3) := by decide +kernel
theorem dX10_sees_19 : decode cX10_sees 19 = .ok (.aload_n 0, 1) := by decide +kernel
theorem dX10_sees_20 : decode cX10_sees 20 = .ok (.getfield 26, 3) := by decide +kernel
theorem dX10_sees_23 : decode cX10_sees 23 = .ok (.aload_n 0, 1) := by decide +kernel
theorem dX10_sees_24 : decode cX10_sees 24 = .ok (.getfield 83, 3) := by decide +kernel
theorem dX10_sees_27 : decode cX10_sees 27 = .ok (.invokestatic 86, 3) := by decide +kernel
theorem dX10_sees_30 : decode cX10_sees 30 = .ok (.lload_n 1, 1) := by decide +kernel
theorem dX10_sees_31 : decode cX10_sees 31 = .ok (.lcmp, 1) := by decide +kernel
theorem dX10_sees_32 : decode cX10_sees 32 = .ok (.ifCond .ne 7, 3) := by decide +kernel
theorem dX10_sees_35 : decode cX10_sees 35 = .ok (.iconst 1, 1) := by decide +kernel
theorem dX10_sees_36 : decode cX10_sees 36 = .ok (.goto 4, 3) := by decide +kernel
theorem dX10_sees_39 : decode cX10_sees 39 = .ok (.iconst 0, 1) := by decide +kernel
theorem dX10_sees_40 : decode cX10_sees 40 = .ok (.ireturn, 1) := by decide +kernel
set_option maxRecDepth 20000 in
theorem ggX10_eats_X10_sees : GoodIn wsX10_eats wsX10_sees := goodIn_r _ [6, 1, 7, 8, 9, 10, 11, 12, 5, 13, 14, 15, 16, 17, 18, 19, 20, 21, 22, 23, 24, 25, 26, 27, 28, 29, 30, 31, 32, 33, 34, 35, 36, 37, 38, 39, 40, 41, 42, 43] (by decide +kernel) (by decide +kernel)
set_option maxRecDepth 20000 in
theorem gX10_eats_X10_sees : GoodIn wsX10_eats (wsV RX10 90 RX10 yX10_sees wsX10_sees) := goodIn_app (goodIn_of _ (by decide +kernel)) ggX10_eats_X10_sees
theorem dX10_eats_0 : decode cX10_eats 0 = .ok (.aload_n 0, 1) := by decide +kernel
theorem dX10_eats_1 : decode cX10_eats 1 = .ok (.lload_n 1, 1) := by decide +kernel
theorem dX10_eats_2 : decode cX10_eats 2 = .ok (.invokevirtual 90, 3) := by decide +kernel
theorem dX10_eats_5 : decode cX10_eats 5 = .ok (.istore_n 3, 1) := by decide +kernel
theorem dX10_eats_6 : decode cX10_eats 6 = .ok (.aload_n 0, 1) := by decide +kernel
theorem dX10_eats_7 : decode cX10_eats 7 = .ok (.iload_n 3, 1) := by decide +kernel
theorem dX10_eats_8 : decode cX10_eats 8 = .ok (.ifCond .eq 12, 3) := by decide +kernel
theorem dX10_eats_11 : decode cX10_eats 11 = .ok (.aload_n 0, 1) := by decide +kernel
theorem dX10_eats_12 : decode cX10_eats 12 = .ok (.getfield 83, 3) := by decide +kernel
theorem dX10_eats_15 : decode cX10_eats 15 = .ok (.iconst 1, 1) := by decide +kernel
theorem dX10_eats_16 : decode cX10_eats 16 = .ok (.iadd, 1) := by decide +kernel
theorem dX10_eats_17 : decode cX10_eats 17 = .ok (.goto 7, 3) := by decide +kernel
theorem dX10_eats_20 : decode cX10_eats 20 = .ok (.aload_n 0, 1) := by decide +kernel
theorem dX10_eats_21 : decode cX10_eats 21 = .ok (.getfield 83, 3) := by decide +kernel
theorem dX10_eats_24 : decode cX10_eats 24 = .ok (.putfield 83, 3) := by decide +kernel
theorem dX10_eats_27 : decode cX10_eats 27 = .ok (.iload_n 3, 1) := by decide +kernel
theorem dX10_eats_28 : decode cX10_eats 28 = .ok (.ireturn, 1) := by decide +kernel
set_option maxRecDepth 20000 in
theorem ggX10_eatsNumber_X10_numberOf : GoodIn wsX10_eatsNumber wsX10_numberOf := goodIn_r _ [9] (by decide +kernel) (by decide +kernel)
set_option maxRecDepth 20000 in
theorem gX10_eatsNumber_X10_numberOf : GoodIn wsX10_eatsNumber (va_wsS RX10 94 yX10_numberOf wsX10_numberOf) := goodIn_app (goodIn_of _ (by decide +kernel)) ggX10_eatsNumber_X10_numberOf
theorem dX10_eatsNumber_0 : decode cX10_eatsNumber 0 = .ok (.aload_n 0, 1) := by decide +kernel
theorem dX10_eatsNumber_1 : decode cX10_eatsNumber 1 = .ok (.getfield 83, 3) := by decide +kernel
theorem dX10_eatsNumber_4 : decode cX10_eatsNumber 4 = .ok (.aload_n 0, 1) := by decide +kernel
theorem dX10_eatsNumber_5 : decode cX10_eatsNumber 5 = .ok (.getfield 74, 3) := by decide +kernel
theorem dX10_eatsNumber_8 : decode cX10_eatsNumber 8 = .ok (.if_icmp .ge 25, 3) := by decide +kernel
theorem dX10_eatsNumber_11 : decode cX10_eatsNumber 11 = .ok (.aload_n 0, 1) := by decide +kernel
theorem dX10_eatsNumber_12 : decode cX10_eatsNumber 12 = .ok (.getfield 7, 3) := by decide +kernel
theorem dX10_eatsNumber_15 : decode cX10_eatsNumber 15 = .ok (.aload_n 0, 1) := by decide +kernel
theorem dX10_eatsNumber_16 : decode cX10_eatsNumber 16 = .ok (.getfield 23, 3) := by decide +kernel
theorem dX10_eatsNumber_19 : decode cX10_eatsNumber 19 = .ok (.aload_n 0, 1) := by decide +kernel
theorem dX10_eatsNumber_20 : decode cX10_eatsNumber 20 = .ok (.getfield 26, 3) := by decide +kernel
theorem dX10_eatsNumber_23 : decode cX10_eatsNumber 23 = .ok (.aload_n 0, 1) := by decide +kernel
theorem dX10_eatsNumber_24 : decode cX10_eatsNumber 24 = .ok (.getfield 83, 3) := by decide +kernel
theorem dX10_eatsNumber_27 : decode cX10_eatsNumber 27 = .ok (.invokestatic 94, 3) := by decide +kernel
theorem dX10_eatsNumber_30 : decode cX10_eatsNumber 30 = .ok (.goto 4, 3) := by decide +kernel
theorem dX10_eatsNumber_33 : decode cX10_eatsNumber 33 = .ok (.iconst (-1), 1) := by decide +kernel
theorem dX10_eatsNumber_34 : decode cX10_eatsNumber 34 = .ok (.istore_n 3, 1) := by decide +kernel
theorem dX10_eatsNumber_35 : decode cX10_eatsNumber 35 = .ok (.iload_n 3, 1) := by decide +kernel
theorem dX10_eatsNumber_36 : decode cX10_eatsNumber 36 = .ok (.ifCond .lt 17, 3) := by decide +kernel
theorem dX10_eatsNumber_39 : decode cX10_eatsNumber 39 = .ok (.iload_n 3, 1) := by decide +kernel
theorem dX10_eatsNumber_40 : decode cX10_eatsNumber 40 = .ok (.iload_n 1, 1) := by decide +kernel
theorem dX10_eatsNumber_41 : decode cX10_eatsNumber 41 = .ok (.if_icmp .lt 12, 3) := by decide +kernel
theorem dX10_eatsNumber_44 : decode cX10_eatsNumber 44 = .ok (.iload_n 3, 1) := by decide +kernel
theorem dX10_eatsNumber_45 : decode cX10_eatsNumber 45 = .ok (.iload_n 2, 1) := by decide +kernel
theorem dX10_eatsNumber_46 : decode cX10_eatsNumber 46 = .ok (.if_icmp .gt 7, 3) := by decide +kernel
theorem dX10_eatsNumber_49 : decode cX10_eatsNumber 49 = .ok (.iconst 1, 1) := by decide +kernel
theorem dX10_eatsNumber_50 : decode cX10_eatsNumber 50 = .ok (.goto 4, 3) := by decide +kernel
theorem dX10_eatsNumber_53 : decode cX10_eatsNumber 53 = .ok (.iconst 0, 1) := by decide +kernel
theorem dX10_eatsNumber_54 : decode cX10_eatsNumber 54 = .ok (.istore 4, 2) := by decide +kernel
theorem dX10_eatsNumber_56 : decode cX10_eatsNumber 56 = .ok (.aload_n 0, 1) := by decide +kernel
theorem dX10_eatsNumber_57 : decode cX10_eatsNumber 57 = .ok (.iload 4, 2) := by decide +kernel
theorem dX10_eatsNumber_59 : decode cX10_eatsNumber 59 = .ok (.ifCond .eq 12, 3) := by decide +kernel
theorem dX10_eatsNumber_62 : decode cX10_eatsNumber 62 = .ok (.aload_n 0, 1) := by decide +kernel
theorem dX10_eatsNumber_63 : decode cX10_eatsNumber 63 = .ok (.getfield 83, 3) := by decide +kernel
theorem dX10_eatsNumber_66 : decode cX10_eatsNumber 66 = .ok (.iconst 1, 1) := by decide +kernel
theorem dX10_eatsNumber_67 : decode cX10_eatsNumber 67 = .ok (.iadd, 1) := by decide +kernel
theorem dX10_eatsNumber_68 : decode cX10_eatsNumber 68 = .ok (.goto 7, 3) := by decide +kernel
theorem dX10_eatsNumber_71 : decode cX10_eatsNumber 71 = .ok (.aload_n 0, 1) := by decide +kernel
theorem dX10_eatsNumber_72 : decode cX10_eatsNumber 72 = .ok (.getfield 83, 3) := by decide +kernel
theorem dX10_eatsNumber_75 : decode cX10_eatsNumber 75 = .ok (.putfield 83, 3) := by decide +kernel
theorem dX10_eatsNumber_78 : decode cX10_eatsNumber 78 = .ok (.iload 4, 2) := by decide +kernel
theorem dX10_eatsNumber_80 : decode cX10_eatsNumber 80 = .ok (.ireturn, 1) := by decide +kernel
set_option maxRecDepth 20000 in
theorem ggX10_eatsTerm_X10_eats : GoodIn wsX10_eatsTerm wsX10_eats := goodIn_r _ [11, 12, 13, 14, 15, 10, 16, 17, 18, 19, 20, 21, 22, 23, 24, 32, 33, 34, 35, 36, 37, 38, 39, 40, 41, 42, 43, 44, 45, 46, 47, 48, 49, 50, 51, 52, 53, 54, 55, 56, 57, 58, 59, 60] (by decide +kernel) (by decide +kernel)
set_option maxRecDepth 20000 in
theorem gX10_eatsTerm_X10_eats : GoodIn wsX10_eatsTerm (wsV RX10 100 RX10 yX10_eats wsX10_eats) := goodIn_app (goodIn_of _ (by decide +kernel)) ggX10_eatsTerm_X10_eats
set_option maxRecDepth 20000 in
theorem ggX10_eatsTerm_X10_eatsNumber : GoodIn wsX10_eatsTerm wsX10_eatsNumber := goodIn_r _ [28, 12, 17, 18, 19, 20, 29, 30, 10, 31, 32, 33, 34, 35, 36, 37, 38, 39, 40, 41, 42, 43, 44, 45, 46, 47, 48, 49, 50, 51, 52, 53, 54, 55, 56, 57, 58, 59, 60] (by decide +kernel) (by decide +kernel)
set_option maxRecDepth 20000 in
theorem gX10_eatsTerm_X10_eatsNumber : GoodIn wsX10_eatsTerm (wsV RX10 105 RX10 yX10_eatsNumber wsX10_eatsNumber) := goodIn_app (goodIn_of _ (by decide +kernel)) ggX10_eatsTerm_X10_eatsNumber
theorem dX10_eatsTerm_0 : decode cX10_eatsTerm 0 = .ok (.aload_n 0, 1) := by decide +kernel
theorem dX10_eatsTerm_1 : decode cX10_eatsTerm 1 = .ok (.ldc2_w 98, 3) := by decide +kernel
theorem dX10_eatsTerm_4 : decode cX10_eatsTerm 4 = .ok (.invokevirtual 100, 3) := by decide +kernel
theorem dX10_eatsTerm_7 : decode cX10_eatsTerm 7 = .ok (.ifCond .ne 15, 3) := by decide +kernel
theorem dX10_eatsTerm_10 : decode cX10_eatsTerm 10 = .ok (.aload_n 0, 1) := by decide +kernel
theorem dX10_eatsTerm_11 : decode cX10_eatsTerm 11 = .ok (.ldc2_w 103, 3) := by decide +kernel
theorem dX10_eatsTerm_14 : decode cX10_eatsTerm 14 = .ok (.invokevirtual 100, 3) := by decide +kernel
theorem dX10_eatsTerm_17 : decode cX10_eatsTerm 17 = .ok (.ifCond .ne 5, 3) := by decide +kernel
theorem dX10_eatsTerm_20 : decode cX10_eatsTerm 20 = .ok (.iconst 0, 1) := by decide +kernel
theorem dX10_eatsTerm_21 : decode cX10_eatsTerm 21 = .ok (.ireturn, 1) := by decide +kernel
theorem dX10_eatsTerm_22 : decode cX10_eatsTerm 22 = .ok (.aload_n 0, 1) := by decide +kernel
theorem dX10_eatsTerm_23 : decode cX10_eatsTerm 23 = .ok (.iconst 0, 1) := by decide +kernel
theorem dX10_eatsTerm_24 : decode cX10_eatsTerm 24 = .ok (.sipush 1000, 3) := by decide +kernel
theorem dX10_eatsTerm_27 : decode cX10_eatsTerm 27 = .ok (.invokevirtual 105, 3) := by decide +kernel
theorem dX10_eatsTerm_30 : decode cX10_eatsTerm 30 = .ok (.ifCond .eq 27, 3) := by decide +kernel
theorem dX10_eatsTerm_33 : decode cX10_eatsTerm 33 = .ok (.aload_n 0, 1) := by decide +kernel
theorem dX10_eatsTerm_34 : decode cX10_eatsTerm 34 = .ok (.ldc2_w 109, 3) := by decide +kernel
theorem dX10_eatsTerm_37 : decode cX10_eatsTerm 37 = .ok (.invokevirtual 100, 3) := by decide +kernel
theorem dX10_eatsTerm_40 : decode cX10_eatsTerm 40 = .ok (.ifCond .eq 17, 3) := by decide +kernel
theorem dX10_eatsTerm_43 : decode cX10_eatsTerm 43 = .ok (.aload_n 0, 1) := by decide +kernel
theorem dX10_eatsTerm_44 : decode cX10_eatsTerm 44 = .ok (.iconst 0, 1) := by decide +kernel
theorem dX10_eatsTerm_45 : decode cX10_eatsTerm 45 = .ok (.bipush 15, 2) := by decide +kernel
theorem dX10_eatsTerm_47 : decode cX10_eatsTerm 47 = .ok (.invokevirtual 105, 3) := by decide +kernel
theorem dX10_eatsTerm_50 : decode cX10_eatsTerm 50 = .ok (.ifCond .eq 7, 3) := by decide +kernel
theorem dX10_eatsTerm_53 : decode cX10_eatsTerm 53 = .ok (.iconst 1, 1) := by decide +kernel
theorem dX10_eatsTerm_54 : decode cX10_eatsTerm 54 = .ok (.goto 4, 3) := by decide +kernel
theorem dX10_eatsTerm_57 : decode cX10_eatsTerm 57 = .ok (.iconst 0, 1) := by decide +kernel
theorem dX10_eatsTerm_58 : decode cX10_eatsTerm 58 = .ok (.istore_n 1, 1) := by decide +kernel
theorem dX10_eatsTerm_59 : decode cX10_eatsTerm 59 = .ok (.iload_n 1, 1) := by decide +kernel
theorem dX10_eatsTerm_60 : decode cX10_eatsTerm 60 = .ok (.ifCond .eq 21, 3) := by decide +kernel
theorem dX10_eatsTerm_63 : decode cX10_eatsTerm 63 = .ok (.aload_n 0, 1) := by decide +kernel
theorem dX10_eatsTerm_64 : decode cX10_eatsTerm 64 = .ok (.ldc2_w 111, 3) := by decide +kernel
theorem dX10_eatsTerm_67 : decode cX10_eatsTerm 67 = .ok (.invokevirtual 100, 3) := by decide +kernel
theorem dX10_eatsTerm_70 : decode cX10_eatsTerm 70 = .ok (.ifCond .eq 11, 3) := by decide +kernel
theorem dX10_eatsTerm_73 : decode cX10_eatsTerm 73 = .ok (.aload_n 0, 1) := by decide +kernel
theorem dX10_eatsTerm_74 : decode cX10_eatsTerm 74 = .ok (.iconst 0, 1) := by decide +kernel
theorem dX10_eatsTerm_75 : decode cX10_eatsTerm 75 = .ok (.ldc 113, 2) := by decide +kernel
theorem dX10_eatsTerm_77 : decode cX10_eatsTerm 77 = .ok (.invokevirtual 105, 3) := by decide +kernel
theorem dX10_eatsTerm_80 : decode cX10_eatsTerm 80 = .ok (.istore_n 1, 1) := by decide +kernel
theorem dX10_eatsTerm_81 : decode cX10_eatsTerm 81 = .ok (.iload_n 1, 1) := by decide +kernel
theorem dX10_eatsTerm_82 : decode cX10_eatsTerm 82 = .ok (.ifCond .eq 22, 3) := by decide +kernel
theorem dX10_eatsTerm_85 : decode cX10_eatsTerm 85 = .ok (.aload_n 0, 1) := by decide +kernel
theorem dX10_eatsTerm_86 : decode cX10_eatsTerm 86 = .ok (.ldc2_w 114, 3) := by decide +kernel
theorem dX10_eatsTerm_89 : decode cX10_eatsTerm 89 = .ok (.invokevirtual 100, 3) := by decide +kernel
theorem dX10_eatsTerm_92 : decode cX10_eatsTerm 92 = .ok (.ifCond .eq 12, 3) := by decide +kernel
theorem dX10_eatsTerm_95 : decode cX10_eatsTerm 95 = .ok (.aload_n 0, 1) := by decide +kernel
theorem dX10_eatsTerm_96 : decode cX10_eatsTerm 96 = .ok (.iconst 0, 1) := by decide +kernel
theorem dX10_eatsTerm_97 : decode cX10_eatsTerm 97 = .ok (.sipush 999, 3) := by decide +kernel
theorem dX10_eatsTerm_100 : decode cX10_eatsTerm 100 = .ok (.invokevirtual 105, 3) := by decide +kernel
theorem dX10_eatsTerm_103 : decode cX10_eatsTerm 103 = .ok (.istore_n 1, 1) := by decide +kernel
theorem dX10_eatsTerm_104 : decode cX10_eatsTerm 104 = .ok (.iload_n 1, 1) := by decide +kernel
theorem dX10_eatsTerm_105 : decode cX10_eatsTerm 105 = .ok (.ireturn, 1) := by decide +kernel
set_option maxRecDepth 20000 in
theorem ggX10_eatsSum_X10_eatsTerm : GoodIn wsX10_eatsSum wsX10_eatsTerm := goodIn_r _ [10, 1, 2, 11, 12, 5, 13, 14, 15, 16, 9, 17, 18, 19, 20, 21, 22, 23, 24, 25, 26, 27, 28, 29, 30, 31, 32, 33, 34, 35, 36, 37, 38, 39, 40, 41, 42, 43, 44, 45, 46, 47, 48, 49, 50, 51, 52, 53, 54, 55, 56, 57, 58, 59, 60, 61, 62, 63, 64, 65, 66] (by decide +kernel) (by decide +kernel)
set_option maxRecDepth 20000 in
theorem gX10_eatsSum_X10_eatsTerm : GoodIn wsX10_eatsSum (wsV RX10 116 RX10 yX10_eatsTerm wsX10_eatsTerm) := goodIn_app (goodIn_of _ (by decide +kernel)) ggX10_eatsSum_X10_eatsTerm
set_option maxRecDepth 20000 in
theorem ggX10_eatsSum_X10_sees : GoodIn wsX10_eatsSum wsX10_sees := goodIn_r _ [22, 18, 23, 24, 25, 26, 27, 28, 9, 29, 30, 38, 39, 40, 41, 42, 43, 44, 45, 46, 47, 48, 49, 50, 51, 52, 53, 54, 55, 56, 57, 58, 59, 60, 61, 62, 63, 64, 65, 66] (by decide +kernel) (by decide +kernel)
set_option maxRecDepth 20000 in
theorem gX10_eatsSum_X10_sees : GoodIn wsX10_eatsSum (wsV RX10 90 RX10 yX10_sees wsX10_sees) := goodIn_app (goodIn_of _ (by decide +kernel)) ggX10_eatsSum_X10_sees
set_option maxRecDepth 20000 in
theorem ggX10_eatsSum_X10_eats : GoodIn wsX10_eatsSum wsX10_eats := goodIn_r _ [17, 18, 19, 20, 21, 9, 22, 23, 24, 25, 26, 27, 28, 29, 30, 38, 39, 40, 41, 42, 43, 44, 45, 46, 47, 48, 49, 50, 51, 52, 53, 54, 55, 56, 57, 58, 59, 60, 61, 62, 63, 64, 65, 66] (by decide +kernel) (by decide +kernel)
set_option maxRecDepth 20000 in
theorem gX10_eatsSum_X10_eats : GoodIn wsX10_eatsSum (wsV RX10 100 RX10 yX10_eats wsX10_eats) := goodIn_app (goodIn_of _ (by decide +kernel)) ggX10_eatsSum_X10_eats
set_option maxRecDepth 20000 in
theorem ggX10_eatsSum_X10_eatsNumber : GoodIn wsX10_eatsSum wsX10_eatsNumber := goodIn_r _ [34, 18, 23, 24, 25, 26, 35, 36, 9, 37, 38, 39, 40, 41, 42, 43, 44, 45, 46, 47, 48, 49, 50, 51, 52, 53, 54, 55, 56, 57, 58, 59, 60, 61, 62, 63, 64, 65, 66] (by decide +kernel) (by decide +kernel)
set_option maxRecDepth 20000 in
theorem gX10_eatsSum_X10_eatsNumber : GoodIn wsX10_eatsSum (wsV RX10 105 RX10 yX10_eatsNumber wsX10_eatsNumber) := goodIn_app (goodIn_of _ (by decide +kernel)) ggX10_eatsSum_X10_eatsNumber
theorem dX10_eatsSum_0 : decode cX10_eatsSum 0 = .ok (.aload_n 0, 1) := by decide +kernel
theorem dX10_eatsSum_1 : decode cX10_eatsSum 1 = .ok (.invokevirtual 116, 3) := by decide +kernel
theorem dX10_eatsSum_4 : decode cX10_eatsSum 4 = .ok (.istore_n 1, 1) := by decide +kernel
theorem dX10_eatsSum_5 : decode cX10_eatsSum 5 = .ok (.iload_n 1, 1) := by decide +kernel
theorem dX10_eatsSum_6 : decode cX10_eatsSum 6 = .ok (.ifCond .eq 31, 3) := by decide +kernel
theorem dX10_eatsSum_9 : decode cX10_eatsSum 9 = .ok (.aload_n 0, 1) := by decide +kernel
theorem dX10_eatsSum_10 : decode cX10_eatsSum 10 = .ok (.ldc2_w 98, 3) := by decide +kernel
theorem dX10_eatsSum_13 : decode cX10_eatsSum 13 = .ok (.invokevirtual 90, 3) := by decide +kernel
theorem dX10_eatsSum_16 : decode cX10_eatsSum 16 = .ok (.ifCond .ne 13, 3) := by decide +kernel
theorem dX10_eatsSum_19 : decode cX10_eatsSum 19 = .ok (.aload_n 0, 1) := by decide +kernel
theorem dX10_eatsSum_20 : decode cX10_eatsSum 20 = .ok (.ldc2_w 103, 3) := by decide +kernel
theorem dX10_eatsSum_23 : decode cX10_eatsSum 23 = .ok (.invokevirtual 90, 3) := by decide +kernel
theorem dX10_eatsSum_26 : decode cX10_eatsSum 26 = .ok (.ifCond .eq 11, 3) := by decide +kernel
theorem dX10_eatsSum_29 : decode cX10_eatsSum 29 = .ok (.aload_n 0, 1) := by decide +kernel
theorem dX10_eatsSum_30 : decode cX10_eatsSum 30 = .ok (.invokevirtual 116, 3) := by decide +kernel
theorem dX10_eatsSum_33 : decode cX10_eatsSum 33 = .ok (.istore_n 1, 1) := by decide +kernel
theorem dX10_eatsSum_34 : decode cX10_eatsSum 34 = .ok (.goto (-29), 3) := by decide +kernel
theorem dX10_eatsSum_37 : decode cX10_eatsSum 37 = .ok (.iload_n 1, 1) := by decide +kernel
theorem dX10_eatsSum_38 : decode cX10_eatsSum 38 = .ok (.ifCond .eq 37, 3) := by decide +kernel
theorem dX10_eatsSum_41 : decode cX10_eatsSum 41 = .ok (.aload_n 0, 1) := by decide +kernel
theorem dX10_eatsSum_42 : decode cX10_eatsSum 42 = .ok (.ldc2_w 120, 3) := by decide +kernel
theorem dX10_eatsSum_45 : decode cX10_eatsSum 45 = .ok (.invokevirtual 100, 3) := by decide +kernel
theorem dX10_eatsSum_48 : decode cX10_eatsSum 48 = .ok (.ifCond .ne 13, 3) := by decide +kernel
theorem dX10_eatsSum_51 : decode cX10_eatsSum 51 = .ok (.aload_n 0, 1) := by decide +kernel
theorem dX10_eatsSum_52 : decode cX10_eatsSum 52 = .ok (.ldc2_w 122, 3) := by decide +kernel
theorem dX10_eatsSum_55 : decode cX10_eatsSum 55 = .ok (.invokevirtual 100, 3) := by decide +kernel
theorem dX10_eatsSum_58 : decode cX10_eatsSum 58 = .ok (.ifCond .eq 17, 3) := by decide +kernel
theorem dX10_eatsSum_61 : decode cX10_eatsSum 61 = .ok (.aload_n 0, 1) := by decide +kernel
theorem dX10_eatsSum_62 : decode cX10_eatsSum 62 = .ok (.iconst 0, 1) := by decide +kernel
theorem dX10_eatsSum_63 : decode cX10_eatsSum 63 = .ok (.ldc 113, 2) := by decide +kernel
theorem dX10_eatsSum_65 : decode cX10_eatsSum 65 = .ok (.invokevirtual 105, 3) := by decide +kernel
theorem dX10_eatsSum_68 : decode cX10_eatsSum 68 = .ok (.ifCond .eq 7, 3) := by decide +kernel
theorem dX10_eatsSum_71 : decode cX10_eatsSum 71 = .ok (.iconst 1, 1) := by decide +kernel
theorem dX10_eatsSum_72 : decode cX10_eatsSum 72 = .ok (.goto 4, 3) := by decide +kernel
theorem dX10_eatsSum_75 : decode cX10_eatsSum 75 = .ok (.iconst 0, 1) := by decide +kernel
theorem dX10_eatsSum_76 : decode cX10_eatsSum 76 = .ok (.ireturn, 1) := by decide +kernel
set_option maxRecDepth 20000 in
theorem ggX10_eatsItem_X10_eats : GoodIn wsX10_eatsItem wsX10_eats := goodIn_r _ [10, 11, 12, 13, 14, 9, 15, 16, 17, 18, 19, 20, 21, 22, 23, 47, 48, 49, 50, 51, 52, 53, 54, 55, 56, 57, 58, 59, 60, 61, 62, 63, 64, 65, 66, 67, 68, 69, 70, 71, 72, 73, 74, 75] (by decide +kernel) (by decide +kernel)
set_option maxRecDepth 20000 in
theorem gX10_eatsItem_X10_eats : GoodIn wsX10_eatsItem (wsV RX10 100 RX10 yX10_eats wsX10_eats) := goodIn_app (goodIn_of _ (by decide +kernel)) ggX10_eatsItem_X10_eats
set_option maxRecDepth 20000 in
theorem ggX10_eatsItem_X10_eatsNumber : GoodIn wsX10_eatsItem wsX10_eatsNumber := goodIn_r _ [27, 11, 16, 17, 18, 19, 28, 29, 9, 30, 47, 48, 49, 50, 51, 52, 53, 54, 55, 56, 57, 58, 59, 60, 61, 62, 63, 64, 65, 66, 67, 68, 69, 70, 71, 72, 73, 74, 75] (by decide +kernel) (by decide +kernel)
set_option maxRecDepth 20000 in
theorem gX10_eatsItem_X10_eatsNumber : GoodIn wsX10_eatsItem (wsV RX10 105 RX10 yX10_eatsNumber wsX10_eatsNumber) := goodIn_app (goodIn_of _ (by decide +kernel)) ggX10_eatsItem_X10_eatsNumber
set_option maxRecDepth 20000 in
theorem ggX10_eatsItem_X10_eatsSum : GoodIn wsX10_eatsItem wsX10_eatsSum := goodIn_r _ [34, 35, 36, 37, 38, 39, 40, 41, 42, 9, 43, 44, 45, 46, 6, 7, 8, 10, 11, 12, 13, 14, 15, 16, 17, 18, 19, 20, 21, 22, 23, 24, 25, 26, 27, 28, 29, 30, 47, 48, 49, 50, 51, 52, 53, 54, 55, 56, 57, 58, 59, 60, 61, 62, 63, 64, 65, 66, 67, 68, 69, 70, 71, 72, 73, 74, 75] (by decide +kernel) (by decide +kernel)
set_option maxRecDepth 20000 in
theorem gX10_eatsItem_X10_eatsSum : GoodIn wsX10_eatsItem (wsV RX10 134 RX10 yX10_eatsSum wsX10_eatsSum) := goodIn_app (goodIn_of _ (by decide +kernel)) ggX10_eatsItem_X10_eatsSum
theorem dX10_eatsItem_0 : decode cX10_eatsItem 0 = .ok (.aload_n 0, 1) := by decide +kernel
theorem dX10_eatsItem_1 : decode cX10_eatsItem 1 = .ok (.ldc2_w 124, 3) := by decide +kernel
theorem dX10_eatsItem_4 : decode cX10_eatsItem 4 = .ok (.invokevirtual 100, 3) := by decide +kernel
theorem dX10_eatsItem_7 : decode cX10_eatsItem 7 = .ok (.ifCond .eq 49, 3) := by decide +kernel
theorem dX10_eatsItem_10 : decode cX10_eatsItem 10 = .ok (.aload_n 0, 1) := by decide +kernel
theorem dX10_eatsItem_11 : decode cX10_eatsItem 11 = .ok (.iconst 0, 1) := by decide +kernel
theorem dX10_eatsItem_12 : decode cX10_eatsItem 12 = .ok (.bipush 7, 2) := by decide +kernel
theorem dX10_eatsItem_14 : decode cX10_eatsItem 14 = .ok (.invokevirtual 105, 3) := by decide +kernel
theorem dX10_eatsItem_17 : decode cX10_eatsItem 17 = .ok (.ifCond .eq 37, 3) := by decide +kernel
theorem dX10_eatsItem_20 : decode cX10_eatsItem 20 = .ok (.aload_n 0, 1) := by decide +kernel
theorem dX10_eatsItem_21 : decode cX10_eatsItem 21 = .ok (.ldc2_w 126, 3) := by decide +kernel
theorem dX10_eatsItem_24 : decode cX10_eatsItem 24 = .ok (.invokevirtual 100, 3) := by decide +kernel
theorem dX10_eatsItem_27 : decode cX10_eatsItem 27 = .ok (.ifCond .ne 13, 3) := by decide +kernel
theorem dX10_eatsItem_30 : decode cX10_eatsItem 30 = .ok (.aload_n 0, 1) := by decide +kernel
theorem dX10_eatsItem_31 : decode cX10_eatsItem 31 = .ok (.ldc2_w 128, 3) := by decide +kernel
theorem dX10_eatsItem_34 : decode cX10_eatsItem 34 = .ok (.invokevirtual 100, 3) := by decide +kernel
theorem dX10_eatsItem_37 : decode cX10_eatsItem 37 = .ok (.ifCond .eq 17, 3) := by decide +kernel
theorem dX10_eatsItem_40 : decode cX10_eatsItem 40 = .ok (.aload_n 0, 1) := by decide +kernel
theorem dX10_eatsItem_41 : decode cX10_eatsItem 41 = .ok (.iconst 0, 1) := by decide +kernel
theorem dX10_eatsItem_42 : decode cX10_eatsItem 42 = .ok (.bipush 9, 2) := by decide +kernel
theorem dX10_eatsItem_44 : decode cX10_eatsItem 44 = .ok (.invokevirtual 105, 3) := by decide +kernel
theorem dX10_eatsItem_47 : decode cX10_eatsItem 47 = .ok (.ifCond .eq 7, 3) := by decide +kernel
theorem dX10_eatsItem_50 : decode cX10_eatsItem 50 = .ok (.iconst 1, 1) := by decide +kernel
theorem dX10_eatsItem_51 : decode cX10_eatsItem 51 = .ok (.goto 4, 3) := by decide +kernel
theorem dX10_eatsItem_54 : decode cX10_eatsItem 54 = .ok (.iconst 0, 1) := by decide +kernel
theorem dX10_eatsItem_55 : decode cX10_eatsItem 55 = .ok (.ireturn, 1) := by decide +kernel
theorem dX10_eatsItem_56 : decode cX10_eatsItem 56 = .ok (.aload_n 0, 1) := by decide +kernel
theorem dX10_eatsItem_57 : decode cX10_eatsItem 57 = .ok (.ldc2_w 130, 3) := by decide +kernel
theorem dX10_eatsItem_60 : decode cX10_eatsItem 60 = .ok (.invokevirtual 100, 3) := by decide +kernel
theorem dX10_eatsItem_63 : decode cX10_eatsItem 63 = .ok (.ifCond .eq 11, 3) := by decide +kernel
theorem dX10_eatsItem_66 : decode cX10_eatsItem 66 = .ok (.aload_n 0, 1) := by decide +kernel
theorem dX10_eatsItem_67 : decode cX10_eatsItem 67 = .ok (.iconst 0, 1) := by decide +kernel
theorem dX10_eatsItem_68 : decode cX10_eatsItem 68 = .ok (.bipush 19, 2) := by decide +kernel
theorem dX10_eatsItem_70 : decode cX10_eatsItem 70 = .ok (.invokevirtual 105, 3) := by decide +kernel
theorem dX10_eatsItem_73 : decode cX10_eatsItem 73 = .ok (.ireturn, 1) := by decide +kernel
theorem dX10_eatsItem_74 : decode cX10_eatsItem 74 = .ok (.aload_n 0, 1) := by decide +kernel
theorem dX10_eatsItem_75 : decode cX10_eatsItem 75 = .ok (.ldc2_w 132, 3) := by decide +kernel
theorem dX10_eatsItem_78 : decode cX10_eatsItem 78 = .ok (.invokevirtual 100, 3) := by decide +kernel
theorem dX10_eatsItem_81 : decode cX10_eatsItem 81 = .ok (.ifCond .eq 14, 3) := by decide +kernel
theorem dX10_eatsItem_84 : decode cX10_eatsItem 84 = .ok (.aload_n 0, 1) := by decide +kernel
theorem dX10_eatsItem_85 : decode cX10_eatsItem 85 = .ok (.invokevirtual 134, 3) := by decide +kernel
theorem dX10_eatsItem_88 : decode cX10_eatsItem 88 = .ok (.ifCond .eq 7, 3) := by decide +kernel
theorem dX10_eatsItem_91 : decode cX10_eatsItem 91 = .ok (.iconst 1, 1) := by decide +kernel
theorem dX10_eatsItem_92 : decode cX10_eatsItem 92 = .ok (.goto 4, 3) := by decide +kernel
theorem dX10_eatsItem_95 : decode cX10_eatsItem 95 = .ok (.iconst 0, 1) := by decide +kernel
theorem dX10_eatsItem_96 : decode cX10_eatsItem 96 = .ok (.ireturn, 1) := by decide +kernel
set_option maxRecDepth 20000 in
theorem ggX10_eatsRule_X10_eats : GoodIn wsX10_eatsRule wsX10_eats := goodIn_r _ [9, 10, 11, 12, 13, 8, 14, 15, 16, 17, 18, 19, 20, 21, 22, 55, 56, 57, 58, 59, 60, 61, 62, 63, 64, 65, 66, 67, 68, 69, 70, 71, 72, 73, 74, 75, 76, 77, 78, 79, 80, 81, 82, 83] (by decide +kernel) (by decide +kernel)
set_option maxRecDepth 20000 in
theorem gX10_eatsRule_X10_eats : GoodIn wsX10_eatsRule (wsV RX10 100 RX10 yX10_eats wsX10_eats) := goodIn_app (goodIn_of _ (by decide +kernel)) ggX10_eatsRule_X10_eats
set_option maxRecDepth 20000 in
theorem ggX10_eatsRule_X10_eatsNumber : GoodIn wsX10_eatsRule wsX10_eatsNumber := goodIn_r _ [26, 10, 15, 16, 17, 18, 27, 28, 8, 29, 55, 56, 57, 58, 59, 60, 61, 62, 63, 64, 65, 66, 67, 68, 69, 70, 71, 72, 73, 74, 75, 76, 77, 78, 79, 80, 81, 82, 83] (by decide +kernel) (by decide +kernel)
set_option maxRecDepth 20000 in
theorem gX10_eatsRule_X10_eatsNumber : GoodIn wsX10_eatsRule (wsV RX10 105 RX10 yX10_eatsNumber wsX10_eatsNumber) := goodIn_app (goodIn_of _ (by decide +kernel)) ggX10_eatsRule_X10_eatsNumber
set_option maxRecDepth 20000 in
theorem ggX10_eatsRule_X10_eatsItem : GoodIn wsX10_eatsRule wsX10_eatsItem := goodIn_r _ [33, 34, 35, 36, 37, 38, 5, 6, 7, 8, 9, 10, 11, 12, 13, 14, 15, 16, 17, 18, 19, 20, 21, 22, 23, 24, 25, 26, 27, 28, 29, 39, 40, 41, 42, 43, 44, 45, 46, 47, 48, 49, 50, 51, 52, 53, 54, 55, 56, 57, 58, 59, 60, 61, 62, 63, 64, 65, 66, 67, 68, 69, 70, 71, 72, 73, 74, 75, 76, 77, 78, 79, 80, 81, 82, 83] (by decide +kernel) (by decide +kernel)
set_option maxRecDepth 20000 in
theorem gX10_eatsRule_X10_eatsItem : GoodIn wsX10_eatsRule (wsV RX10 141 RX10 yX10_eatsItem wsX10_eatsItem) := goodIn_app (goodIn_of _ (by decide +kernel)) ggX10_eatsRule_X10_eatsItem
theorem dX10_eatsRule_0 : decode cX10_eatsRule 0 = .ok (.aload_n 0, 1) := by decide +kernel
theorem dX10_eatsRule_1 : decode cX10_eatsRule 1 = .ok (.ldc2_w 137, 3) := by decide +kernel
theorem dX10_eatsRule_4 : decode cX10_eatsRule 4 = .ok (.invokevirtual 100, 3) := by decide +kernel
theorem dX10_eatsRule_7 : decode cX10_eatsRule 7 = .ok (.ifCond .eq 34, 3) := by decide +kernel
theorem dX10_eatsRule_10 : decode cX10_eatsRule 10 = .ok (.aload_n 0, 1) := by decide +kernel
theorem dX10_eatsRule_11 : decode cX10_eatsRule 11 = .ok (.iconst 0, 1) := by decide +kernel
theorem dX10_eatsRule_12 : decode cX10_eatsRule 12 = .ok (.bipush 19, 2) := by decide +kernel
theorem dX10_eatsRule_14 : decode cX10_eatsRule 14 = .ok (.invokevirtual 105, 3) := by decide +kernel
theorem dX10_eatsRule_17 : decode cX10_eatsRule 17 = .ok (.ifCond .eq 24, 3) := by decide +kernel
theorem dX10_eatsRule_20 : decode cX10_eatsRule 20 = .ok (.aload_n 0, 1) := by decide +kernel
theorem dX10_eatsRule_21 : decode cX10_eatsRule 21 = .ok (.ldc2_w 139, 3) := by decide +kernel
theorem dX10_eatsRule_24 : decode cX10_eatsRule 24 = .ok (.invokevirtual 100, 3) := by decide +kernel
theorem dX10_eatsRule_27 : decode cX10_eatsRule 27 = .ok (.ifCond .eq 14, 3) := by decide +kernel
theorem dX10_eatsRule_30 : decode cX10_eatsRule 30 = .ok (.aload_n 0, 1) := by decide +kernel
theorem dX10_eatsRule_31 : decode cX10_eatsRule 31 = .ok (.invokevirtual 141, 3) := by decide +kernel
theorem dX10_eatsRule_34 : decode cX10_eatsRule 34 = .ok (.ifCond .eq 7, 3) := by decide +kernel
theorem dX10_eatsRule_37 : decode cX10_eatsRule 37 = .ok (.iconst 1, 1) := by decide +kernel
theorem dX10_eatsRule_38 : decode cX10_eatsRule 38 = .ok (.goto 4, 3) := by decide +kernel
theorem dX10_eatsRule_41 : decode cX10_eatsRule 41 = .ok (.iconst 0, 1) := by decide +kernel
theorem dX10_eatsRule_42 : decode cX10_eatsRule 42 = .ok (.istore_n 1, 1) := by decide +kernel
theorem dX10_eatsRule_43 : decode cX10_eatsRule 43 = .ok (.iload_n 1, 1) := by decide +kernel
theorem dX10_eatsRule_44 : decode cX10_eatsRule 44 = .ok (.ifCond .eq 21, 3) := by decide +kernel
theorem dX10_eatsRule_47 : decode cX10_eatsRule 47 = .ok (.aload_n 0, 1) := by decide +kernel
theorem dX10_eatsRule_48 : decode cX10_eatsRule 48 = .ok (.ldc2_w 144, 3) := by decide +kernel
theorem dX10_eatsRule_51 : decode cX10_eatsRule 51 = .ok (.invokevirtual 100, 3) := by decide +kernel
theorem dX10_eatsRule_54 : decode cX10_eatsRule 54 = .ok (.ifCond .eq 11, 3) := by decide +kernel
theorem dX10_eatsRule_57 : decode cX10_eatsRule 57 = .ok (.aload_n 0, 1) := by decide +kernel
theorem dX10_eatsRule_58 : decode cX10_eatsRule 58 = .ok (.invokevirtual 141, 3) := by decide +kernel
theorem dX10_eatsRule_61 : decode cX10_eatsRule 61 = .ok (.istore_n 1, 1) := by decide +kernel
theorem dX10_eatsRule_62 : decode cX10_eatsRule 62 = .ok (.goto (-19), 3) := by decide +kernel
theorem dX10_eatsRule_65 : decode cX10_eatsRule 65 = .ok (.iload_n 1, 1) := by decide +kernel
theorem dX10_eatsRule_66 : decode cX10_eatsRule 66 = .ok (.ifCond .eq 17, 3) := by decide +kernel
theorem dX10_eatsRule_69 : decode cX10_eatsRule 69 = .ok (.aload_n 0, 1) := by decide +kernel
theorem dX10_eatsRule_70 : decode cX10_eatsRule 70 = .ok (.ldc2_w 146, 3) := by decide +kernel
theorem dX10_eatsRule_73 : decode cX10_eatsRule 73 = .ok (.invokevirtual 100, 3) := by decide +kernel
theorem dX10_eatsRule_76 : decode cX10_eatsRule 76 = .ok (.ifCond .eq 7, 3) := by decide +kernel
theorem dX10_eatsRule_79 : decode cX10_eatsRule 79 = .ok (.iconst 1, 1) := by decide +kernel
theorem dX10_eatsRule_80 : decode cX10_eatsRule 80 = .ok (.goto 4, 3) := by decide +kernel
theorem dX10_eatsRule_83 : decode cX10_eatsRule 83 = .ok (.iconst 0, 1) := by decide +kernel
theorem dX10_eatsRule_84 : decode cX10_eatsRule 84 = .ok (.ireturn, 1) := by decide +kernel
set_option maxRecDepth 20000 in
theorem ggX10_eatsAll_X10_eats : GoodIn wsX10_eatsAll wsX10_eats := goodIn_r _ [13, 1, 14, 15, 16, 12, 17, 2, 5, 6, 7, 18, 19, 20, 21, 60, 61, 62, 63, 64, 65, 66, 67, 68, 69, 70, 71, 72, 73, 74, 75, 76, 77, 78, 79, 80, 81, 82, 83, 84, 85, 86, 87, 88] (by decide +kernel) (by decide +kernel)
set_option maxRecDepth 20000 in
theorem gX10_eatsAll_X10_eats : GoodIn wsX10_eatsAll (wsV RX10 100 RX10 yX10_eats wsX10_eats) := goodIn_app (goodIn_of _ (by decide +kernel)) ggX10_eatsAll_X10_eats
set_option maxRecDepth 20000 in
theorem ggX10_eatsAll_X10_eatsNumber : GoodIn wsX10_eatsAll wsX10_eatsNumber := goodIn_r _ [25, 1, 2, 5, 6, 7, 26, 27, 12, 28, 60, 61, 62, 63, 64, 65, 66, 67, 68, 69, 70, 71, 72, 73, 74, 75, 76, 77, 78, 79, 80, 81, 82, 83, 84, 85, 86, 87, 88] (by decide +kernel) (by decide +kernel)
set_option maxRecDepth 20000 in
theorem gX10_eatsAll_X10_eatsNumber : GoodIn wsX10_eatsAll (wsV RX10 105 RX10 yX10_eatsNumber wsX10_eatsNumber) := goodIn_app (goodIn_of _ (by decide +kernel)) ggX10_eatsAll_X10_eatsNumber
set_option maxRecDepth 20000 in
theorem ggX10_eatsAll_X10_numberOf : GoodIn wsX10_eatsAll wsX10_numberOf := goodIn_r _ [28] (by decide +kernel) (by decide +kernel)
set_option maxRecDepth 20000 in
theorem gX10_eatsAll_X10_numberOf : GoodIn wsX10_eatsAll (va_wsS RX10 94 yX10_numberOf wsX10_numberOf) := goodIn_app (goodIn_of _ (by decide +kernel)) ggX10_eatsAll_X10_numberOf
set_option maxRecDepth 20000 in
theorem ggX10_eatsAll_X10_sees : GoodIn wsX10_eatsAll wsX10_sees := goodIn_r _ [17, 1, 2, 5, 6, 7, 18, 19, 12, 20, 21, 60, 61, 62, 63, 64, 65, 66, 67, 68, 69, 70, 71, 72, 73, 74, 75, 76, 77, 78, 79, 80, 81, 82, 83, 84, 85, 86, 87, 88] (by decide +kernel) (by decide +kernel)
set_option maxRecDepth 20000 in
theorem gX10_eatsAll_X10_sees : GoodIn wsX10_eatsAll (wsV RX10 90 RX10 yX10_sees wsX10_sees) := goodIn_app (goodIn_of _ (by decide +kernel)) ggX10_eatsAll_X10_sees
set_option maxRecDepth 20000 in
theorem ggX10_eatsAll_X10_eatsRule : GoodIn wsX10_eatsAll wsX10_eatsRule := goodIn_r _ [32, 8, 33, 34, 35, 9, 10, 11, 12, 13, 1, 14, 15, 16, 17, 2, 5, 6, 7, 18, 19, 20, 21, 22, 23, 24, 25, 26, 27, 28, 36, 37, 38, 39, 40, 41, 42, 43, 44, 45, 46, 47, 48, 49, 50, 51, 52, 4, 53, 54, 55, 56, 57, 58, 59, 60, 61, 62, 63, 64, 65, 66, 67, 68, 69, 70, 71, 72, 73, 74, 75, 76, 77, 78, 79, 80, 81, 82, 83, 84, 85, 86, 87, 88] (by decide +kernel) (by decide +kernel)
set_option maxRecDepth 20000 in
theorem gX10_eatsAll_X10_eatsRule : GoodIn wsX10_eatsAll (wsV RX10 150 RX10 yX10_eatsRule wsX10_eatsRule) := goodIn_app (goodIn_of _ (by decide +kernel)) ggX10_eatsAll_X10_eatsRule
theorem dX10_eatsAll_0 : decode cX10_eatsAll 0 = .ok (.iconst 0, 1) := by decide +kernel
theorem dX10_eatsAll_1 : decode cX10_eatsAll 1 = .ok (.istore_n 1, 1) := by decide +kernel
theorem dX10_eatsAll_2 : decode cX10_eatsAll 2 = .ok (.iconst 0, 1) := by decide +kernel
theorem dX10_eatsAll_3 : decode cX10_eatsAll 3 = .ok (.istore_n 2, 1) := by decide +kernel
theorem dX10_eatsAll_4 : decode cX10_eatsAll 4 = .ok (.iconst 1, 1) := by decide +kernel
theorem dX10_eatsAll_5 : decode cX10_eatsAll 5 = .ok (.istore_n 3, 1) := by decide +kernel
theorem dX10_eatsAll_6 : decode cX10_eatsAll 6 = .ok (.iload_n 3, 1) := by decide +kernel
theorem dX10_eatsAll_7 : decode cX10_eatsAll 7 = .ok (.ifCond .eq 111, 3) := by decide +kernel
theorem dX10_eatsAll_10 : decode cX10_eatsAll 10 = .ok (.aload_n 0, 1) := by decide +kernel
theorem dX10_eatsAll_11 : decode cX10_eatsAll 11 = .ok (.getfield 83, 3) := by decide +kernel
theorem dX10_eatsAll_14 : decode cX10_eatsAll 14 = .ok (.aload_n 0, 1) := by decide +kernel
theorem dX10_eatsAll_15 : decode cX10_eatsAll 15 = .ok (.getfield 74, 3) := by decide +kernel
theorem dX10_eatsAll_18 : decode cX10_eatsAll 18 = .ok (.if_icmp .ge 100, 3) := by decide +kernel
theorem dX10_eatsAll_21 : decode cX10_eatsAll 21 = .ok (.aload_n 0, 1) := by decide +kernel
theorem dX10_eatsAll_22 : decode cX10_eatsAll 22 = .ok (.ldc2_w 148, 3) := by decide +kernel
theorem dX10_eatsAll_25 : decode cX10_eatsAll 25 = .ok (.invokevirtual 100, 3) := by decide +kernel
theorem dX10_eatsAll_28 : decode cX10_eatsAll 28 = .ok (.ifCond .eq 17, 3) := by decide +kernel
theorem dX10_eatsAll_31 : decode cX10_eatsAll 31 = .ok (.aload_n 0, 1) := by decide +kernel
theorem dX10_eatsAll_32 : decode cX10_eatsAll 32 = .ok (.iload_n 1, 1) := by decide +kernel
theorem dX10_eatsAll_33 : decode cX10_eatsAll 33 = .ok (.ldc 113, 2) := by decide +kernel
theorem dX10_eatsAll_35 : decode cX10_eatsAll 35 = .ok (.invokevirtual 105, 3) := by decide +kernel
theorem dX10_eatsAll_38 : decode cX10_eatsAll 38 = .ok (.ifCond .eq 7, 3) := by decide +kernel
theorem dX10_eatsAll_41 : decode cX10_eatsAll 41 = .ok (.iconst 1, 1) := by decide +kernel
theorem dX10_eatsAll_42 : decode cX10_eatsAll 42 = .ok (.goto 4, 3) := by decide +kernel
theorem dX10_eatsAll_45 : decode cX10_eatsAll 45 = .ok (.iconst 0, 1) := by decide +kernel
theorem dX10_eatsAll_46 : decode cX10_eatsAll 46 = .ok (.istore_n 3, 1) := by decide +kernel
theorem dX10_eatsAll_47 : decode cX10_eatsAll 47 = .ok (.iload_n 3, 1) := by decide +kernel
theorem dX10_eatsAll_48 : decode cX10_eatsAll 48 = .ok (.ifCond .eq 29, 3) := by decide +kernel
theorem dX10_eatsAll_51 : decode cX10_eatsAll 51 = .ok (.aload_n 0, 1) := by decide +kernel
theorem dX10_eatsAll_52 : decode cX10_eatsAll 52 = .ok (.getfield 7, 3) := by decide +kernel
theorem dX10_eatsAll_55 : decode cX10_eatsAll 55 = .ok (.aload_n 0, 1) := by decide +kernel
theorem dX10_eatsAll_56 : decode cX10_eatsAll 56 = .ok (.getfield 23, 3) := by decide +kernel
theorem dX10_eatsAll_59 : decode cX10_eatsAll 59 = .ok (.aload_n 0, 1) := by decide +kernel
theorem dX10_eatsAll_60 : decode cX10_eatsAll 60 = .ok (.getfield 26, 3) := by decide +kernel
theorem dX10_eatsAll_63 : decode cX10_eatsAll 63 = .ok (.aload_n 0, 1) := by decide +kernel
theorem dX10_eatsAll_64 : decode cX10_eatsAll 64 = .ok (.getfield 83, 3) := by decide +kernel
theorem dX10_eatsAll_67 : decode cX10_eatsAll 67 = .ok (.iconst 1, 1) := by decide +kernel
theorem dX10_eatsAll_68 : decode cX10_eatsAll 68 = .ok (.isub, 1) := by decide +kernel
theorem dX10_eatsAll_69 : decode cX10_eatsAll 69 = .ok (.invokestatic 94, 3) := by decide +kernel
theorem dX10_eatsAll_72 : decode cX10_eatsAll 72 = .ok (.iconst 1, 1) := by decide +kernel
theorem dX10_eatsAll_73 : decode cX10_eatsAll 73 = .ok (.iadd, 1) := by decide +kernel
theorem dX10_eatsAll_74 : decode cX10_eatsAll 74 = .ok (.goto 4, 3) := by decide +kernel
theorem dX10_eatsAll_77 : decode cX10_eatsAll 77 = .ok (.iconst 0, 1) := by decide +kernel
theorem dX10_eatsAll_78 : decode cX10_eatsAll 78 = .ok (.istore_n 1, 1) := by decide +kernel
theorem dX10_eatsAll_79 : decode cX10_eatsAll 79 = .ok (.iload_n 3, 1) := by decide +kernel
theorem dX10_eatsAll_80 : decode cX10_eatsAll 80 = .ok (.ifCond .eq (-74), 3) := by decide +kernel
theorem dX10_eatsAll_83 : decode cX10_eatsAll 83 = .ok (.aload_n 0, 1) := by decide +kernel
theorem dX10_eatsAll_84 : decode cX10_eatsAll 84 = .ok (.ldc2_w 137, 3) := by decide +kernel
theorem dX10_eatsAll_87 : decode cX10_eatsAll 87 = .ok (.invokevirtual 90, 3) := by decide +kernel
theorem dX10_eatsAll_90 : decode cX10_eatsAll 90 = .ok (.ifCond .eq (-84), 3) := by decide +kernel
theorem dX10_eatsAll_93 : decode cX10_eatsAll 93 = .ok (.iload_n 2, 1) := by decide +kernel
theorem dX10_eatsAll_94 : decode cX10_eatsAll 94 = .ok (.bipush 60, 2) := by decide +kernel
theorem dX10_eatsAll_96 : decode cX10_eatsAll 96 = .ok (.if_icmp .ge 14, 3) := by decide +kernel
theorem dX10_eatsAll_99 : decode cX10_eatsAll 99 = .ok (.aload_n 0, 1) := by decide +kernel
theorem dX10_eatsAll_100 : decode cX10_eatsAll 100 = .ok (.invokevirtual 150, 3) := by decide +kernel
theorem dX10_eatsAll_103 : decode cX10_eatsAll 103 = .ok (.ifCond .eq 7, 3) := by decide +kernel
theorem dX10_eatsAll_106 : decode cX10_eatsAll 106 = .ok (.iconst 1, 1) := by decide +kernel
theorem dX10_eatsAll_107 : decode cX10_eatsAll 107 = .ok (.goto 4, 3) := by decide +kernel
theorem dX10_eatsAll_110 : decode cX10_eatsAll 110 = .ok (.iconst 0, 1) := by decide +kernel
theorem dX10_eatsAll_111 : decode cX10_eatsAll 111 = .ok (.istore_n 3, 1) := by decide +kernel
theorem dX10_eatsAll_112 : decode cX10_eatsAll 112 = .ok (.iinc 2 1, 3) := by decide +kernel
theorem dX10_eatsAll_115 : decode cX10_eatsAll 115 = .ok (.goto (-36), 3) := by decide +kernel
theorem dX10_eatsAll_118 : decode cX10_eatsAll 118 = .ok (.iload_n 3, 1) := by decide +kernel
theorem dX10_eatsAll_119 : decode cX10_eatsAll 119 = .ok (.ireturn, 1) := by decide +kernel
set_option maxRecDepth 20000 in
theorem ggX10_read_X10_split : GoodIn wsX10_read wsX10_split := goodIn_r _ [23, 6, 3, 5, 11, 13, 24, 25, 22, 26, 97, 98, 99, 100, 101, 102, 103, 104, 105, 106, 107, 108, 109, 110, 111, 112, 113, 114, 115, 116, 117, 118, 119, 120, 121, 122, 123, 124, 125] (by decide +kernel) (by decide +kernel)
set_option maxRecDepth 20000 in
theorem gX10_read_X10_split : GoodIn wsX10_read (wsV RX10 153 RX10 yX10_split wsX10_split) := goodIn_app (goodIn_of _ (by decide +kernel)) ggX10_read_X10_split
set_option maxRecDepth 20000 in
theorem ggX10_read_X10_eatsAll : GoodIn wsX10_read wsX10_eatsAll := goodIn_r _ [30, 2, 6, 14, 31, 5, 11, 13, 16, 32, 33, 34, 22, 35, 36, 37, 38, 39, 40, 41, 42, 43, 44, 45, 46, 47, 48, 49, 50, 51, 52, 53, 54, 55, 56, 57, 58, 59, 60, 61, 62, 63, 64, 65, 66, 67, 68, 69, 70, 71, 72, 73, 74, 75, 76, 77, 78, 79, 80, 81, 97, 98, 99, 100, 101, 102, 103, 104, 105, 106, 107, 108, 109, 110, 111, 112, 113, 114, 115, 116, 117, 118, 119, 120, 121, 122, 123, 124, 125] (by decide +kernel) (by decide +kernel)
set_option maxRecDepth 20000 in
theorem gX10_read_X10_eatsAll : GoodIn wsX10_read (wsV RX10 156 RX10 yX10_eatsAll wsX10_eatsAll) := goodIn_app (goodIn_of _ (by decide +kernel)) ggX10_read_X10_eatsAll
set_option maxRecDepth 20000 in
theorem ggX10_read_X10_has : GoodIn wsX10_read wsX10_has := goodIn_r _ [85, 7, 4, 10, 12, 40, 41, 22, 42, 43, 97, 98, 99, 100, 101, 102, 103, 104, 105, 106, 107, 108, 109, 110, 111, 112, 113, 114, 115, 116, 117, 118, 119, 120, 121, 122, 123, 124, 125] (by decide +kernel) (by decide +kernel)
set_option maxRecDepth 20000 in
theorem gX10_read_X10_has : GoodIn wsX10_read (wsV RX10 168 RX10 yX10_has wsX10_has) := goodIn_app (goodIn_of _ (by decide +kernel)) ggX10_read_X10_has
set_option maxRecDepth 20000 in
theorem ggX10_read_X10_number : GoodIn wsX10_read wsX10_number := goodIn_r _ [89, 4, 10, 12, 48, 49, 22, 50, 97, 98, 99, 100, 101, 102, 103, 104, 105, 106, 107, 108, 109, 110, 111, 112, 113, 114, 115, 116, 117, 118, 119, 120, 121, 122, 123, 124, 125] (by decide +kernel) (by decide +kernel)
set_option maxRecDepth 20000 in
theorem gX10_read_X10_number : GoodIn wsX10_read (wsV RX10 172 RX10 yX10_number wsX10_number) := goodIn_app (goodIn_of _ (by decide +kernel)) ggX10_read_X10_number
set_option maxRecDepth 20000 in
theorem ggX10_read_X10_forget : GoodIn wsX10_read wsX10_forget := goodIn_r _ [93, 94, 95, 96, 97, 98, 99, 100, 101, 102, 103, 104, 105, 106, 107, 108, 109, 110, 111, 112, 113, 114, 115, 116, 117, 118, 119, 120, 121, 122, 123, 124, 125] (by decide +kernel) (by decide +kernel)
set_option maxRecDepth 20000 in
theorem gX10_read_X10_forget : GoodIn wsX10_read (wsV RX10 176 RX10 yX10_forget wsX10_forget) := goodIn_app (goodIn_of _ (by decide +kernel)) ggX10_read_X10_forget
theorem dX10_read_0 : decode cX10_read 0 = .ok (.aload_n 0, 1) := by decide +kernel
theorem dX10_read_1 : decode cX10_read 1 = .ok (.iconst 0, 1) := by decide +kernel
theorem dX10_read_2 : decode cX10_read 2 = .ok (.putfield 68, 3) := by decide +kernel
theorem dX10_read_5 : decode cX10_read 5 = .ok (.aload_n 0, 1) := by decide +kernel
theorem dX10_read_6 : decode cX10_read 6 = .ok (.invokevirtual 153, 3) := by decide +kernel
theorem dX10_read_9 : decode cX10_read 9 = .ok (.aload_n 0, 1) := by decide +kernel
theorem dX10_read_10 : decode cX10_read 10 = .ok (.iconst 0, 1) := by decide +kernel
theorem dX10_read_11 : decode cX10_read 11 = .ok (.putfield 83, 3) := by decide +kernel
theorem dX10_read_14 : decode cX10_read 14 = .ok (.aload_n 0, 1) := by decide +kernel
theorem dX10_read_15 : decode cX10_read 15 = .ok (.invokevirtual 156, 3) := by decide +kernel
theorem dX10_read_18 : decode cX10_read 18 = .ok (.istore_n 1, 1) := by decide +kernel
theorem dX10_read_19 : decode cX10_read 19 = .ok (.aload_n 0, 1) := by decide +kernel
theorem dX10_read_20 : decode cX10_read 20 = .ok (.getfield 83, 3) := by decide +kernel
theorem dX10_read_23 : decode cX10_read 23 = .ok (.istore_n 2, 1) := by decide +kernel
theorem dX10_read_24 : decode cX10_read 24 = .ok (.aload_n 0, 1) := by decide +kernel
theorem dX10_read_25 : decode cX10_read 25 = .ok (.getfield 71, 3) := by decide +kernel
theorem dX10_read_28 : decode cX10_read 28 = .ok (.istore_n 3, 1) := by decide +kernel
theorem dX10_read_29 : decode cX10_read 29 = .ok (.aload_n 0, 1) := by decide +kernel
theorem dX10_read_30 : decode cX10_read 30 = .ok (.iconst 0, 1) := by decide +kernel
theorem dX10_read_31 : decode cX10_read 31 = .ok (.putfield 71, 3) := by decide +kernel
theorem dX10_read_34 : decode cX10_read 34 = .ok (.iload_n 1, 1) := by decide +kernel
theorem dX10_read_35 : decode cX10_read 35 = .ok (.ifCond .ne 7, 3) := by decide +kernel
theorem dX10_read_38 : decode cX10_read 38 = .ok (.iconst (-1), 1) := by decide +kernel
theorem dX10_read_39 : decode cX10_read 39 = .ok (.iload_n 2, 1) := by decide +kernel
theorem dX10_read_40 : decode cX10_read 40 = .ok (.isub, 1) := by decide +kernel
theorem dX10_read_41 : decode cX10_read 41 = .ok (.ireturn, 1) := by decide +kernel
theorem dX10_read_42 : decode cX10_read 42 = .ok (.iconst 0, 1) := by decide +kernel
theorem dX10_read_43 : decode cX10_read 43 = .ok (.istore 4, 2) := by decide +kernel
theorem dX10_read_45 : decode cX10_read 45 = .ok (.iload 4, 2) := by decide +kernel
theorem dX10_read_47 : decode cX10_read 47 = .ok (.iload_n 3, 1) := by decide +kernel
theorem dX10_read_48 : decode cX10_read 48 = .ok (.if_icmp .ge 23, 3) := by decide +kernel
theorem dX10_read_51 : decode cX10_read 51 = .ok (.aload_n 0, 1) := by decide +kernel
theorem dX10_read_52 : decode cX10_read 52 = .ok (.getfield 13, 3) := by decide +kernel
theorem dX10_read_55 : decode cX10_read 55 = .ok (.iload 4, 2) := by decide +kernel
theorem dX10_read_57 : decode cX10_read 57 = .ok (.aload_n 0, 1) := by decide +kernel
theorem dX10_read_58 : decode cX10_read 58 = .ok (.getfield 7, 3) := by decide +kernel
theorem dX10_read_61 : decode cX10_read 61 = .ok (.iload 4, 2) := by decide +kernel
theorem dX10_read_63 : decode cX10_read 63 = .ok (.baload, 1) := by decide +kernel
theorem dX10_read_64 : decode cX10_read 64 = .ok (.bastore, 1) := by decide +kernel
theorem dX10_read_65 : decode cX10_read 65 = .ok (.iinc 4 1, 3) := by decide +kernel
theorem dX10_read_68 : decode cX10_read 68 = .ok (.goto (-23), 3) := by decide +kernel
theorem dX10_read_71 : decode cX10_read 71 = .ok (.aload_n 0, 1) := by decide +kernel
theorem dX10_read_72 : decode cX10_read 72 = .ok (.aload_n 0, 1) := by decide +kernel
theorem dX10_read_73 : decode cX10_read 73 = .ok (.getfield 74, 3) := by decide +kernel
theorem dX10_read_76 : decode cX10_read 76 = .ok (.putfield 159, 3) := by decide +kernel
theorem dX10_read_79 : decode cX10_read 79 = .ok (.aload_n 0, 1) := by decide +kernel
theorem dX10_read_80 : decode cX10_read 80 = .ok (.iconst 0, 1) := by decide +kernel
theorem dX10_read_81 : decode cX10_read 81 = .ok (.putfield 162, 3) := by decide +kernel
theorem dX10_read_84 : decode cX10_read 84 = .ok (.aload_n 0, 1) := by decide +kernel
theorem dX10_read_85 : decode cX10_read 85 = .ok (.iconst 0, 1) := by decide +kernel
theorem dX10_read_86 : decode cX10_read 86 = .ok (.putfield 165, 3) := by decide +kernel
theorem dX10_read_89 : decode cX10_read 89 = .ok (.iconst 0, 1) := by decide +kernel
theorem dX10_read_90 : decode cX10_read 90 = .ok (.istore 4, 2) := by decide +kernel
theorem dX10_read_92 : decode cX10_read 92 = .ok (.iload 4, 2) := by decide +kernel
theorem dX10_read_94 : decode cX10_read 94 = .ok (.aload_n 0, 1) := by decide +kernel
theorem dX10_read_95 : decode cX10_read 95 = .ok (.getfield 159, 3) := by decide +kernel
theorem dX10_read_98 : decode cX10_read 98 = .ok (.if_icmp .ge 37, 3) := by decide +kernel
theorem dX10_read_101 : decode cX10_read 101 = .ok (.aload_n 0, 1) := by decide +kernel
theorem dX10_read_102 : decode cX10_read 102 = .ok (.getfield 16, 3) := by decide +kernel
theorem dX10_read_105 : decode cX10_read 105 = .ok (.iload 4, 2) := by decide +kernel
theorem dX10_read_107 : decode cX10_read 107 = .ok (.aload_n 0, 1) := by decide +kernel
theorem dX10_read_108 : decode cX10_read 108 = .ok (.getfield 23, 3) := by decide +kernel
theorem dX10_read_111 : decode cX10_read 111 = .ok (.iload 4, 2) := by decide +kernel
theorem dX10_read_113 : decode cX10_read 113 = .ok (.iaload, 1) := by decide +kernel
theorem dX10_read_114 : decode cX10_read 114 = .ok (.iastore, 1) := by decide +kernel
theorem dX10_read_115 : decode cX10_read 115 = .ok (.aload_n 0, 1) := by decide +kernel
theorem dX10_read_116 : decode cX10_read 116 = .ok (.getfield 20, 3) := by decide +kernel
theorem dX10_read_119 : decode cX10_read 119 = .ok (.iload 4, 2) := by decide +kernel
theorem dX10_read_121 : decode cX10_read 121 = .ok (.aload_n 0, 1) := by decide +kernel
theorem dX10_read_122 : decode cX10_read 122 = .ok (.getfield 26, 3) := by decide +kernel
theorem dX10_read_125 : decode cX10_read 125 = .ok (.iload 4, 2) := by decide +kernel
theorem dX10_read_127 : decode cX10_read 127 = .ok (.iaload, 1) := by decide +kernel
theorem dX10_read_128 : decode cX10_read 128 = .ok (.iastore, 1) := by decide +kernel
theorem dX10_read_129 : decode cX10_read 129 = .ok (.iinc 4 1, 3) := by decide +kernel
theorem dX10_read_132 : decode cX10_read 132 = .ok (.goto (-40), 3) := by decide +kernel
theorem dX10_read_135 : decode cX10_read 135 = .ok (.iconst 0, 1) := by decide +kernel
theorem dX10_read_136 : decode cX10_read 136 = .ok (.istore 4, 2) := by decide +kernel
theorem dX10_read_138 : decode cX10_read 138 = .ok (.iload 4, 2) := by decide +kernel
theorem dX10_read_140 : decode cX10_read 140 = .ok (.aload_n 0, 1) := by decide +kernel
theorem dX10_read_141 : decode cX10_read 141 = .ok (.getfield 159, 3) := by decide +kernel
theorem dX10_read_144 : decode cX10_read 144 = .ok (.if_icmp .ge 96, 3) := by decide +kernel
theorem dX10_read_147 : decode cX10_read 147 = .ok (.aload_n 0, 1) := by decide +kernel
theorem dX10_read_148 : decode cX10_read 148 = .ok (.iload 4, 2) := by decide +kernel
theorem dX10_read_150 : decode cX10_read 150 = .ok (.ldc2_w 148, 3) := by decide +kernel
theorem dX10_read_153 : decode cX10_read 153 = .ok (.invokevirtual 168, 3) := by decide +kernel
theorem dX10_read_156 : decode cX10_read 156 = .ok (.ifCond .eq 30, 3) := by decide +kernel
theorem dX10_read_159 : decode cX10_read 159 = .ok (.aload_n 0, 1) := by decide +kernel
theorem dX10_read_160 : decode cX10_read 160 = .ok (.getfield 35, 3) := by decide +kernel
theorem dX10_read_163 : decode cX10_read 163 = .ok (.aload_n 0, 1) := by decide +kernel
theorem dX10_read_164 : decode cX10_read 164 = .ok (.getfield 165, 3) := by decide +kernel
theorem dX10_read_167 : decode cX10_read 167 = .ok (.aload_n 0, 1) := by decide +kernel
theorem dX10_read_168 : decode cX10_read 168 = .ok (.iload 4, 2) := by decide +kernel
theorem dX10_read_170 : decode cX10_read 170 = .ok (.iconst 1, 1) := by decide +kernel
theorem dX10_read_171 : decode cX10_read 171 = .ok (.iadd, 1) := by decide +kernel
theorem dX10_read_172 : decode cX10_read 172 = .ok (.invokevirtual 172, 3) := by decide +kernel
theorem dX10_read_175 : decode cX10_read 175 = .ok (.iastore, 1) := by decide +kernel
theorem dX10_read_176 : decode cX10_read 176 = .ok (.aload_n 0, 1) := by decide +kernel
theorem dX10_read_177 : decode cX10_read 177 = .ok (.dup, 1) := by decide +kernel
theorem dX10_read_178 : decode cX10_read 178 = .ok (.getfield 165, 3) := by decide +kernel
theorem dX10_read_181 : decode cX10_read 181 = .ok (.iconst 1, 1) := by decide +kernel
theorem dX10_read_182 : decode cX10_read 182 = .ok (.iadd, 1) := by decide +kernel
theorem dX10_read_183 : decode cX10_read 183 = .ok (.putfield 165, 3) := by decide +kernel
theorem dX10_read_186 : decode cX10_read 186 = .ok (.aload_n 0, 1) := by decide +kernel
theorem dX10_read_187 : decode cX10_read 187 = .ok (.iload 4, 2) := by decide +kernel
theorem dX10_read_189 : decode cX10_read 189 = .ok (.ldc2_w 137, 3) := by decide +kernel
theorem dX10_read_192 : decode cX10_read 192 = .ok (.invokevirtual 168, 3) := by decide +kernel
theorem dX10_read_195 : decode cX10_read 195 = .ok (.ifCond .eq 39, 3) := by decide +kernel
theorem dX10_read_198 : decode cX10_read 198 = .ok (.aload_n 0, 1) := by decide +kernel
theorem dX10_read_199 : decode cX10_read 199 = .ok (.getfield 29, 3) := by decide +kernel
theorem dX10_read_202 : decode cX10_read 202 = .ok (.aload_n 0, 1) := by decide +kernel
theorem dX10_read_203 : decode cX10_read 203 = .ok (.getfield 162, 3) := by decide +kernel
theorem dX10_read_206 : decode cX10_read 206 = .ok (.iload 4, 2) := by decide +kernel
theorem dX10_read_208 : decode cX10_read 208 = .ok (.iastore, 1) := by decide +kernel
theorem dX10_read_209 : decode cX10_read 209 = .ok (.aload_n 0, 1) := by decide +kernel
theorem dX10_read_210 : decode cX10_read 210 = .ok (.getfield 32, 3) := by decide +kernel
theorem dX10_read_213 : decode cX10_read 213 = .ok (.aload_n 0, 1) := by decide +kernel
theorem dX10_read_214 : decode cX10_read 214 = .ok (.getfield 162, 3) := by decide +kernel
theorem dX10_read_217 : decode cX10_read 217 = .ok (.aload_n 0, 1) := by decide +kernel
theorem dX10_read_218 : decode cX10_read 218 = .ok (.getfield 165, 3) := by decide +kernel
theorem dX10_read_221 : decode cX10_read 221 = .ok (.iconst 1, 1) := by decide +kernel
theorem dX10_read_222 : decode cX10_read 222 = .ok (.isub, 1) := by decide +kernel
theorem dX10_read_223 : decode cX10_read 223 = .ok (.iastore, 1) := by decide +kernel
theorem dX10_read_224 : decode cX10_read 224 = .ok (.aload_n 0, 1) := by decide +kernel
theorem dX10_read_225 : decode cX10_read 225 = .ok (.dup, 1) := by decide +kernel
theorem dX10_read_226 : decode cX10_read 226 = .ok (.getfield 162, 3) := by decide +kernel
theorem dX10_read_229 : decode cX10_read 229 = .ok (.iconst 1, 1) := by decide +kernel
theorem dX10_read_230 : decode cX10_read 230 = .ok (.iadd, 1) := by decide +kernel
theorem dX10_read_231 : decode cX10_read 231 = .ok (.putfield 162, 3) := by decide +kernel
theorem dX10_read_234 : decode cX10_read 234 = .ok (.iinc 4 1, 3) := by decide +kernel
theorem dX10_read_237 : decode cX10_read 237 = .ok (.goto (-99), 3) := by decide +kernel
theorem dX10_read_240 : decode cX10_read 240 = .ok (.aload_n 0, 1) := by decide +kernel
theorem dX10_read_241 : decode cX10_read 241 = .ok (.invokevirtual 176, 3) := by decide +kernel
theorem dX10_read_244 : decode cX10_read 244 = .ok (.aload_n 0, 1) := by decide +kernel
theorem dX10_read_245 : decode cX10_read 245 = .ok (.getfield 162, 3) := by decide +kernel
theorem dX10_read_248 : decode cX10_read 248 = .ok (.ireturn, 1) := by decide +kernel
theorem dX10_forget_0 : decode cX10_forget 0 = .ok (.aload_n 0, 1) := by decide +kernel
theorem dX10_forget_1 : decode cX10_forget 1 = .ok (.iconst (-1), 1) := by decide +kernel
theorem dX10_forget_2 : decode cX10_forget 2 = .ok (.putfield 55, 3) := by decide +kernel
theorem dX10_forget_5 : decode cX10_forget 5 = .ok (.aload_n 0, 1) := by decide +kernel
theorem dX10_forget_6 : decode cX10_forget 6 = .ok (.iconst 0, 1) := by decide +kernel
theorem dX10_forget_7 : decode cX10_forget 7 = .ok (.putfield 179, 3) := by decide +kernel
theorem dX10_forget_10 : decode cX10_forget 10 = .ok (.iconst 0, 1) := by decide +kernel
theorem dX10_forget_11 : decode cX10_forget 11 = .ok (.istore_n 1, 1) := by decide +kernel
theorem dX10_forget_12 : decode cX10_forget 12 = .ok (.iload_n 1, 1) := by decide +kernel
theorem dX10_forget_13 : decode cX10_forget 13 = .ok (.bipush 60, 2) := by decide +kernel
theorem dX10_forget_15 : decode cX10_forget 15 = .ok (.if_icmp .ge 16, 3) := by decide +kernel
theorem dX10_forget_18 : decode cX10_forget 18 = .ok (.aload_n 0, 1) := by decide +kernel
theorem dX10_forget_19 : decode cX10_forget 19 = .ok (.getfield 59, 3) := by decide +kernel
theorem dX10_forget_22 : decode cX10_forget 22 = .ok (.iload_n 1, 1) := by decide +kernel
theorem dX10_forget_23 : decode cX10_forget 23 = .ok (.iconst 0, 1) := by decide +kernel
theorem dX10_forget_24 : decode cX10_forget 24 = .ok (.iastore, 1) := by decide +kernel
theorem dX10_forget_25 : decode cX10_forget 25 = .ok (.iinc 1 1, 3) := by decide +kernel
theorem dX10_forget_28 : decode cX10_forget 28 = .ok (.goto (-16), 3) := by decide +kernel
theorem dX10_forget_31 : decode cX10_forget 31 = .ok (.return_, 1) := by decide +kernel
set_option maxRecDepth 20000 in
theorem ggX10_has_X10_wordOf : GoodIn wsX10_has wsX10_wordOf := goodIn_r _ [8, 9] (by decide +kernel) (by decide +kernel)
set_option maxRecDepth 20000 in
theorem gX10_has_X10_wordOf : GoodIn wsX10_has (va_wsS RX10 86 yX10_wordOf wsX10_wordOf) := goodIn_app (goodIn_of _ (by decide +kernel)) ggX10_has_X10_wordOf
theorem dX10_has_0 : decode cX10_has 0 = .ok (.iload_n 1, 1) := by decide +kernel
theorem dX10_has_1 : decode cX10_has 1 = .ok (.aload_n 0, 1) := by decide +kernel
theorem dX10_has_2 : decode cX10_has 2 = .ok (.getfield 159, 3) := by decide +kernel
theorem dX10_has_5 : decode cX10_has 5 = .ok (.if_icmp .ge 28, 3) := by decide +kernel
theorem dX10_has_8 : decode cX10_has 8 = .ok (.aload_n 0, 1) := by decide +kernel
theorem dX10_has_9 : decode cX10_has 9 = .ok (.getfield 13, 3) := by decide +kernel
theorem dX10_has_12 : decode cX10_has 12 = .ok (.aload_n 0, 1) := by decide +kernel
theorem dX10_has_13 : decode cX10_has 13 = .ok (.getfield 16, 3) := by decide +kernel
theorem dX10_has_16 : decode cX10_has 16 = .ok (.aload_n 0, 1) := by decide +kernel
theorem dX10_has_17 : decode cX10_has 17 = .ok (.getfield 20, 3) := by decide +kernel
theorem dX10_has_20 : decode cX10_has 20 = .ok (.iload_n 1, 1) := by decide +kernel
theorem dX10_has_21 : decode cX10_has 21 = .ok (.invokestatic 86, 3) := by decide +kernel
theorem dX10_has_24 : decode cX10_has 24 = .ok (.lload_n 2, 1) := by decide +kernel
theorem dX10_has_25 : decode cX10_has 25 = .ok (.lcmp, 1) := by decide +kernel
theorem dX10_has_26 : decode cX10_has 26 = .ok (.ifCond .ne 7, 3) := by decide +kernel
theorem dX10_has_29 : decode cX10_has 29 = .ok (.iconst 1, 1) := by decide +kernel
theorem dX10_has_30 : decode cX10_has 30 = .ok (.goto 4, 3) := by decide +kernel
theorem dX10_has_33 : decode cX10_has 33 = .ok (.iconst 0, 1) := by decide +kernel
theorem dX10_has_34 : decode cX10_has 34 = .ok (.ireturn, 1) := by decide +kernel
set_option maxRecDepth 20000 in
theorem ggX10_number_X10_numberOf : GoodIn wsX10_number wsX10_numberOf := goodIn_r _ [7] (by decide +kernel) (by decide +kernel)
set_option maxRecDepth 20000 in
theorem gX10_number_X10_numberOf : GoodIn wsX10_number (va_wsS RX10 94 yX10_numberOf wsX10_numberOf) := goodIn_app (goodIn_of _ (by decide +kernel)) ggX10_number_X10_numberOf
theorem dX10_number_0 : decode cX10_number 0 = .ok (.aload_n 0, 1) := by decide +kernel
theorem dX10_number_1 : decode cX10_number 1 = .ok (.getfield 13, 3) := by decide +kernel
theorem dX10_number_4 : decode cX10_number 4 = .ok (.aload_n 0, 1) := by decide +kernel
theorem dX10_number_5 : decode cX10_number 5 = .ok (.getfield 16, 3) := by decide +kernel
theorem dX10_number_8 : decode cX10_number 8 = .ok (.aload_n 0, 1) := by decide +kernel
theorem dX10_number_9 : decode cX10_number 9 = .ok (.getfield 20, 3) := by decide +kernel
theorem dX10_number_12 : decode cX10_number 12 = .ok (.iload_n 1, 1) := by decide +kernel
theorem dX10_number_13 : decode cX10_number 13 = .ok (.invokestatic 94, 3) := by decide +kernel
theorem dX10_number_16 : decode cX10_number 16 = .ok (.ireturn, 1) := by decide +kernel
theorem dX10_write_0 : decode cX10_write 0 = .ok (.aload_n 0, 1) := by decide +kernel
theorem dX10_write_1 : decode cX10_write 1 = .ok (.iconst 0, 1) := by decide +kernel
theorem dX10_write_2 : decode cX10_write 2 = .ok (.putfield 68, 3) := by decide +kernel
theorem dX10_write_5 : decode cX10_write 5 = .ok (.iconst 0, 1) := by decide +kernel
theorem dX10_write_6 : decode cX10_write 6 = .ok (.istore_n 2, 1) := by decide +kernel
theorem dX10_write_7 : decode cX10_write 7 = .ok (.iconst 0, 1) := by decide +kernel
theorem dX10_write_8 : decode cX10_write 8 = .ok (.istore_n 3, 1) := by decide +kernel
theorem dX10_write_9 : decode cX10_write 9 = .ok (.iload_n 3, 1) := by decide +kernel
theorem dX10_write_10 : decode cX10_write 10 = .ok (.aload_n 0, 1) := by decide +kernel
theorem dX10_write_11 : decode cX10_write 11 = .ok (.getfield 159, 3) := by decide +kernel
theorem dX10_write_14 : decode cX10_write 14 = .ok (.if_icmp .ge 85, 3) := by decide +kernel
theorem dX10_write_17 : decode cX10_write 17 = .ok (.aload_n 0, 1) := by decide +kernel
theorem dX10_write_18 : decode cX10_write 18 = .ok (.getfield 20, 3) := by decide +kernel
theorem dX10_write_21 : decode cX10_write 21 = .ok (.iload_n 3, 1) := by decide +kernel
theorem dX10_write_22 : decode cX10_write 22 = .ok (.iaload, 1) := by decide +kernel
theorem dX10_write_23 : decode cX10_write 23 = .ok (.aload_n 0, 1) := by decide +kernel
theorem dX10_write_24 : decode cX10_write 24 = .ok (.getfield 16, 3) := by decide +kernel
theorem dX10_write_27 : decode cX10_write 27 = .ok (.iload_n 3, 1) := by decide +kernel
theorem dX10_write_28 : decode cX10_write 28 = .ok (.iaload, 1) := by decide +kernel
theorem dX10_write_29 : decode cX10_write 29 = .ok (.isub, 1) := by decide +kernel
theorem dX10_write_30 : decode cX10_write 30 = .ok (.istore 4, 2) := by decide +kernel
theorem dX10_write_32 : decode cX10_write 32 = .ok (.iload_n 1, 1) := by decide +kernel
theorem dX10_write_33 : decode cX10_write 33 = .ok (.iload_n 2, 1) := by decide +kernel
theorem dX10_write_34 : decode cX10_write 34 = .ok (.if_icmp .lt 31, 3) := by decide +kernel
theorem dX10_write_37 : decode cX10_write 37 = .ok (.iload_n 1, 1) := by decide +kernel
theorem dX10_write_38 : decode cX10_write 38 = .ok (.iload_n 2, 1) := by decide +kernel
theorem dX10_write_39 : decode cX10_write 39 = .ok (.iload 4, 2) := by decide +kernel
theorem dX10_write_41 : decode cX10_write 41 = .ok (.iadd, 1) := by decide +kernel
theorem dX10_write_42 : decode cX10_write 42 = .ok (.if_icmp .ge 23, 3) := by decide +kernel
theorem dX10_write_45 : decode cX10_write 45 = .ok (.aload_n 0, 1) := by decide +kernel
theorem dX10_write_46 : decode cX10_write 46 = .ok (.getfield 13, 3) := by decide +kernel
theorem dX10_write_49 : decode cX10_write 49 = .ok (.aload_n 0, 1) := by decide +kernel
theorem dX10_write_50 : decode cX10_write 50 = .ok (.getfield 16, 3) := by decide +kernel
theorem dX10_write_53 : decode cX10_write 53 = .ok (.iload_n 3, 1) := by decide +kernel
theorem dX10_write_54 : decode cX10_write 54 = .ok (.iaload, 1) := by decide +kernel
theorem dX10_write_55 : decode cX10_write 55 = .ok (.iload_n 1, 1) := by decide +kernel
theorem dX10_write_56 : decode cX10_write 56 = .ok (.iadd, 1) := by decide +kernel
theorem dX10_write_57 : decode cX10_write 57 = .ok (.iload_n 2, 1) := by decide +kernel
theorem dX10_write_58 : decode cX10_write 58 = .ok (.isub, 1) := by decide +kernel
theorem dX10_write_59 : decode cX10_write 59 = .ok (.baload, 1) := by decide +kernel
theorem dX10_write_60 : decode cX10_write 60 = .ok (.sipush 255, 3) := by decide +kernel
theorem dX10_write_63 : decode cX10_write 63 = .ok (.iand, 1) := by decide +kernel
theorem dX10_write_64 : decode cX10_write 64 = .ok (.ireturn, 1) := by decide +kernel
theorem dX10_write_65 : decode cX10_write 65 = .ok (.iload_n 1, 1) := by decide +kernel
theorem dX10_write_66 : decode cX10_write 66 = .ok (.iload_n 2, 1) := by decide +kernel
theorem dX10_write_67 : decode cX10_write 67 = .ok (.iload 4, 2) := by decide +kernel
theorem dX10_write_69 : decode cX10_write 69 = .ok (.iadd, 1) := by decide +kernel
theorem dX10_write_70 : decode cX10_write 70 = .ok (.if_icmp .ne 16, 3) := by decide +kernel
theorem dX10_write_73 : decode cX10_write 73 = .ok (.iload_n 3, 1) := by decide +kernel
theorem dX10_write_74 : decode cX10_write 74 = .ok (.iconst 1, 1) := by decide +kernel
theorem dX10_write_75 : decode cX10_write 75 = .ok (.iadd, 1) := by decide +kernel
theorem dX10_write_76 : decode cX10_write 76 = .ok (.aload_n 0, 1) := by decide +kernel
theorem dX10_write_77 : decode cX10_write 77 = .ok (.getfield 159, 3) := by decide +kernel
theorem dX10_write_80 : decode cX10_write 80 = .ok (.if_icmp .ge 6, 3) := by decide +kernel
theorem dX10_write_83 : decode cX10_write 83 = .ok (.bipush 32, 2) := by decide +kernel
theorem dX10_write_85 : decode cX10_write 85 = .ok (.ireturn, 1) := by decide +kernel
theorem dX10_write_86 : decode cX10_write 86 = .ok (.iload_n 2, 1) := by decide +kernel
theorem dX10_write_87 : decode cX10_write 87 = .ok (.iload 4, 2) := by decide +kernel
theorem dX10_write_89 : decode cX10_write 89 = .ok (.iconst 1, 1) := by decide +kernel
theorem dX10_write_90 : decode cX10_write 90 = .ok (.iadd, 1) := by decide +kernel
theorem dX10_write_91 : decode cX10_write 91 = .ok (.iadd, 1) := by decide +kernel
theorem dX10_write_92 : decode cX10_write 92 = .ok (.istore_n 2, 1) := by decide +kernel
theorem dX10_write_93 : decode cX10_write 93 = .ok (.iinc 3 1, 3) := by decide +kernel
theorem dX10_write_96 : decode cX10_write 96 = .ok (.goto (-87), 3) := by decide +kernel
theorem dX10_write_99 : decode cX10_write 99 = .ok (.iconst (-1), 1) := by decide +kernel
theorem dX10_write_100 : decode cX10_write 100 = .ok (.ireturn, 1) := by decide +kernel
theorem dX10_part_0 : decode cX10_part 0 = .ok (.aload_n 0, 1) := by decide +kernel
theorem dX10_part_1 : decode cX10_part 1 = .ok (.iconst 0, 1) := by decide +kernel
theorem dX10_part_2 : decode cX10_part 2 = .ok (.putfield 68, 3) := by decide +kernel
theorem dX10_part_5 : decode cX10_part 5 = .ok (.iload_n 1, 1) := by decide +kernel
theorem dX10_part_6 : decode cX10_part 6 = .ok (.ifCond .lt 31, 3) := by decide +kernel
theorem dX10_part_9 : decode cX10_part 9 = .ok (.iload_n 1, 1) := by decide +kernel
theorem dX10_part_10 : decode cX10_part 10 = .ok (.bipush 15, 2) := by decide +kernel
theorem dX10_part_12 : decode cX10_part 12 = .ok (.if_icmp .gt 25, 3) := by decide +kernel
theorem dX10_part_15 : decode cX10_part 15 = .ok (.lload_n 2, 1) := by decide +kernel
theorem dX10_part_16 : decode cX10_part 16 = .ok (.lconst 0, 1) := by decide +kernel
theorem dX10_part_17 : decode cX10_part 17 = .ok (.lcmp, 1) := by decide +kernel
theorem dX10_part_18 : decode cX10_part 18 = .ok (.ifCond .lt 19, 3) := by decide +kernel
theorem dX10_part_21 : decode cX10_part 21 = .ok (.lload_n 2, 1) := by decide +kernel
theorem dX10_part_22 : decode cX10_part 22 = .ok (.lload 4, 2) := by decide +kernel
theorem dX10_part_24 : decode cX10_part 24 = .ok (.lcmp, 1) := by decide +kernel
theorem dX10_part_25 : decode cX10_part 25 = .ok (.ifCond .gt 12, 3) := by decide +kernel
theorem dX10_part_28 : decode cX10_part 28 = .ok (.lload 4, 2) := by decide +kernel
theorem dX10_part_30 : decode cX10_part 30 = .ok (.ldc2_w 182, 3) := by decide +kernel
theorem dX10_part_33 : decode cX10_part 33 = .ok (.lcmp, 1) := by decide +kernel
theorem dX10_part_34 : decode cX10_part 34 = .ok (.ifCond .le 5, 3) := by decide +kernel
theorem dX10_part_37 : decode cX10_part 37 = .ok (.iconst 0, 1) := by decide +kernel
theorem dX10_part_38 : decode cX10_part 38 = .ok (.ireturn, 1) := by decide +kernel
theorem dX10_part_39 : decode cX10_part 39 = .ok (.aload_n 0, 1) := by decide +kernel
theorem dX10_part_40 : decode cX10_part 40 = .ok (.getfield 44, 3) := by decide +kernel
theorem dX10_part_43 : decode cX10_part 43 = .ok (.iload_n 1, 1) := by decide +kernel
theorem dX10_part_44 : decode cX10_part 44 = .ok (.iconst 1, 1) := by decide +kernel
theorem dX10_part_45 : decode cX10_part 45 = .ok (.bastore, 1) := by decide +kernel
theorem dX10_part_46 : decode cX10_part 46 = .ok (.aload_n 0, 1) := by decide +kernel
theorem dX10_part_47 : decode cX10_part 47 = .ok (.getfield 38, 3) := by decide +kernel
theorem dX10_part_50 : decode cX10_part 50 = .ok (.iload_n 1, 1) := by decide +kernel
theorem dX10_part_51 : decode cX10_part 51 = .ok (.lload_n 2, 1) := by decide +kernel
theorem dX10_part_52 : decode cX10_part 52 = .ok (.l2i, 1) := by decide +kernel
theorem dX10_part_53 : decode cX10_part 53 = .ok (.iastore, 1) := by decide +kernel
theorem dX10_part_54 : decode cX10_part 54 = .ok (.aload_n 0, 1) := by decide +kernel
theorem dX10_part_55 : decode cX10_part 55 = .ok (.getfield 41, 3) := by decide +kernel
theorem dX10_part_58 : decode cX10_part 58 = .ok (.iload_n 1, 1) := by decide +kernel
theorem dX10_part_59 : decode cX10_part 59 = .ok (.lload 4, 2) := by decide +kernel
theorem dX10_part_61 : decode cX10_part 61 = .ok (.l2i, 1) := by decide +kernel
theorem dX10_part_62 : decode cX10_part 62 = .ok (.iastore, 1) := by decide +kernel
theorem dX10_part_63 : decode cX10_part 63 = .ok (.iconst 1, 1) := by decide +kernel
theorem dX10_part_64 : decode cX10_part 64 = .ok (.ireturn, 1) := by decide +kernel
theorem dX10_test_0 : decode cX10_test 0 = .ok (.aload_n 0, 1) := by decide +kernel
theorem dX10_test_1 : decode cX10_test 1 = .ok (.iconst 0, 1) := by decide +kernel
theorem dX10_test_2 : decode cX10_test 2 = .ok (.putfield 68, 3) := by decide +kernel
theorem dX10_test_5 : decode cX10_test 5 = .ok (.iload_n 1, 1) := by decide +kernel
theorem dX10_test_6 : decode cX10_test 6 = .ok (.ifCond .lt 20, 3) := by decide +kernel
theorem dX10_test_9 : decode cX10_test 9 = .ok (.iload_n 1, 1) := by decide +kernel
theorem dX10_test_10 : decode cX10_test 10 = .ok (.bipush 7, 2) := by decide +kernel
theorem dX10_test_12 : decode cX10_test 12 = .ok (.if_icmp .gt 14, 3) := by decide +kernel
theorem dX10_test_15 : decode cX10_test 15 = .ok (.iload_n 2, 1) := by decide +kernel
theorem dX10_test_16 : decode cX10_test 16 = .ok (.iconst (-1), 1) := by decide +kernel
theorem dX10_test_17 : decode cX10_test 17 = .ok (.if_icmp .lt 9, 3) := by decide +kernel
theorem dX10_test_20 : decode cX10_test 20 = .ok (.iload_n 2, 1) := by decide +kernel
theorem dX10_test_21 : decode cX10_test 21 = .ok (.bipush 9, 2) := by decide +kernel
theorem dX10_test_23 : decode cX10_test 23 = .ok (.if_icmp .le 5, 3) := by decide +kernel
theorem dX10_test_26 : decode cX10_test 26 = .ok (.iconst 0, 1) := by decide +kernel
theorem dX10_test_27 : decode cX10_test 27 = .ok (.ireturn, 1) := by decide +kernel
theorem dX10_test_28 : decode cX10_test 28 = .ok (.aload_n 0, 1) := by decide +kernel
theorem dX10_test_29 : decode cX10_test 29 = .ok (.getfield 48, 3) := by decide +kernel
theorem dX10_test_32 : decode cX10_test 32 = .ok (.iload_n 1, 1) := by decide +kernel
theorem dX10_test_33 : decode cX10_test 33 = .ok (.iload_n 2, 1) := by decide +kernel
theorem dX10_test_34 : decode cX10_test 34 = .ok (.iastore, 1) := by decide +kernel
theorem dX10_test_35 : decode cX10_test 35 = .ok (.iconst 1, 1) := by decide +kernel
theorem dX10_test_36 : decode cX10_test 36 = .ok (.ireturn, 1) := by decide +kernel
theorem dX10_clearParts_0 : decode cX10_clearParts 0 = .ok (.aload_n 0, 1) := by decide +kernel
theorem dX10_clearParts_1 : decode cX10_clearParts 1 = .ok (.iconst 0, 1) := by decide +kernel
theorem dX10_clearParts_2 : decode cX10_clearParts 2 = .ok (.putfield 68, 3) := by decide +kernel
theorem dX10_clearParts_5 : decode cX10_clearParts 5 = .ok (.iconst 0, 1) := by decide +kernel
theorem dX10_clearParts_6 : decode cX10_clearParts 6 = .ok (.istore_n 1, 1) := by decide +kernel
theorem dX10_clearParts_7 : decode cX10_clearParts 7 = .ok (.iload_n 1, 1) := by decide +kernel
theorem dX10_clearParts_8 : decode cX10_clearParts 8 = .ok (.bipush 15, 2) := by decide +kernel
theorem dX10_clearParts_10 : decode cX10_clearParts 10 = .ok (.if_icmp .gt 16, 3) := by decide +kernel
theorem dX10_clearParts_13 : decode cX10_clearParts 13 = .ok (.aload_n 0, 1) := by decide +kernel
theorem dX10_clearParts_14 : decode cX10_clearParts 14 = .ok (.getfield 44, 3) := by decide +kernel
theorem dX10_clearParts_17 : decode cX10_clearParts 17 = .ok (.iload_n 1, 1) := by decide +kernel
theorem dX10_clearParts_18 : decode cX10_clearParts 18 = .ok (.iconst 0, 1) := by decide +kernel
theorem dX10_clearParts_19 : decode cX10_clearParts 19 = .ok (.bastore, 1) := by decide +kernel
theorem dX10_clearParts_20 : decode cX10_clearParts 20 = .ok (.iinc 1 1, 3) := by decide +kernel
theorem dX10_clearParts_23 : decode cX10_clearParts 23 = .ok (.goto (-16), 3) := by decide +kernel
theorem dX10_clearParts_26 : decode cX10_clearParts 26 = .ok (.iconst 0, 1) := by decide +kernel
theorem dX10_clearParts_27 : decode cX10_clearParts 27 = .ok (.istore_n 1, 1) := by decide +kernel
theorem dX10_clearParts_28 : decode cX10_clearParts 28 = .ok (.iload_n 1, 1) := by decide +kernel
theorem dX10_clearParts_29 : decode cX10_clearParts 29 = .ok (.bipush 7, 2) := by decide +kernel
theorem dX10_clearParts_31 : decode cX10_clearParts 31 = .ok (.if_icmp .gt 16, 3) := by decide +kernel
theorem dX10_clearParts_34 : decode cX10_clearParts 34 = .ok (.aload_n 0, 1) := by decide +kernel
theorem dX10_clearParts_35 : decode cX10_clearParts 35 = .ok (.getfield 48, 3) := by decide +kernel
theorem dX10_clearParts_38 : decode cX10_clearParts 38 = .ok (.iload_n 1, 1) := by decide +kernel
theorem dX10_clearParts_39 : decode cX10_clearParts 39 = .ok (.iconst (-1), 1) := by decide +kernel
theorem dX10_clearParts_40 : decode cX10_clearParts 40 = .ok (.iastore, 1) := by decide +kernel
theorem dX10_clearParts_41 : decode cX10_clearParts 41 = .ok (.iinc 1 1, 3) := by decide +kernel
theorem dX10_clearParts_44 : decode cX10_clearParts 44 = .ok (.goto (-16), 3) := by decide +kernel
theorem dX10_clearParts_47 : decode cX10_clearParts 47 = .ok (.return_, 1) := by decide +kernel
theorem dX10_way_0 : decode cX10_way 0 = .ok (.aload_n 0, 1) := by decide +kernel
theorem dX10_way_1 : decode cX10_way 1 = .ok (.iconst 0, 1) := by decide +kernel
theorem dX10_way_2 : decode cX10_way 2 = .ok (.putfield 68, 3) := by decide +kernel
theorem dX10_way_5 : decode cX10_way 5 = .ok (.aload_n 0, 1) := by decide +kernel
theorem dX10_way_6 : decode cX10_way 6 = .ok (.getfield 51, 3) := by decide +kernel
theorem dX10_way_9 : decode cX10_way 9 = .ok (.istore_n 2, 1) := by decide +kernel
theorem dX10_way_10 : decode cX10_way 10 = .ok (.aload_n 0, 1) := by decide +kernel
theorem dX10_way_11 : decode cX10_way 11 = .ok (.iload_n 1, 1) := by decide +kernel
theorem dX10_way_12 : decode cX10_way 12 = .ok (.putfield 51, 3) := by decide +kernel
theorem dX10_way_15 : decode cX10_way 15 = .ok (.iload_n 2, 1) := by decide +kernel
theorem dX10_way_16 : decode cX10_way 16 = .ok (.ireturn, 1) := by decide +kernel
set_option maxRecDepth 20000 in
theorem ggX10_nextItem_X10_has : GoodIn wsX10_nextItem wsX10_has := goodIn_r _ [7, 8, 9, 10, 11, 12, 13, 6, 14, 15, 16, 17, 18, 19, 20, 21, 22, 23, 24, 25, 26, 27, 28, 29, 30, 31, 32, 33, 34, 35, 36, 37, 38, 39, 40, 41, 42, 43, 44] (by decide +kernel) (by decide +kernel)
set_option maxRecDepth 20000 in
theorem gX10_nextItem_X10_has : GoodIn wsX10_nextItem (wsV RX10 168 RX10 yX10_has wsX10_has) := goodIn_app (goodIn_of _ (by decide +kernel)) ggX10_nextItem_X10_has
theorem dX10_nextItem_0 : decode cX10_nextItem 0 = .ok (.iload_n 1, 1) := by decide +kernel
theorem dX10_nextItem_1 : decode cX10_nextItem 1 = .ok (.istore_n 2, 1) := by decide +kernel
theorem dX10_nextItem_2 : decode cX10_nextItem 2 = .ok (.aload_n 0, 1) := by decide +kernel
theorem dX10_nextItem_3 : decode cX10_nextItem 3 = .ok (.iload_n 2, 1) := by decide +kernel
theorem dX10_nextItem_4 : decode cX10_nextItem 4 = .ok (.ldc2_w 144, 3) := by decide +kernel
theorem dX10_nextItem_7 : decode cX10_nextItem 7 = .ok (.invokevirtual 168, 3) := by decide +kernel
theorem dX10_nextItem_10 : decode cX10_nextItem 10 = .ok (.ifCond .ne 20, 3) := by decide +kernel
theorem dX10_nextItem_13 : decode cX10_nextItem 13 = .ok (.aload_n 0, 1) := by decide +kernel
theorem dX10_nextItem_14 : decode cX10_nextItem 14 = .ok (.iload_n 2, 1) := by decide +kernel
theorem dX10_nextItem_15 : decode cX10_nextItem 15 = .ok (.ldc2_w 146, 3) := by decide +kernel
theorem dX10_nextItem_18 : decode cX10_nextItem 18 = .ok (.invokevirtual 168, 3) := by decide +kernel
theorem dX10_nextItem_21 : decode cX10_nextItem 21 = .ok (.ifCond .ne 9, 3) := by decide +kernel
theorem dX10_nextItem_24 : decode cX10_nextItem 24 = .ok (.iinc 2 1, 3) := by decide +kernel
theorem dX10_nextItem_27 : decode cX10_nextItem 27 = .ok (.goto (-25), 3) := by decide +kernel
theorem dX10_nextItem_30 : decode cX10_nextItem 30 = .ok (.aload_n 0, 1) := by decide +kernel
theorem dX10_nextItem_31 : decode cX10_nextItem 31 = .ok (.iload_n 2, 1) := by decide +kernel
theorem dX10_nextItem_32 : decode cX10_nextItem 32 = .ok (.ldc2_w 144, 3) := by decide +kernel
theorem dX10_nextItem_35 : decode cX10_nextItem 35 = .ok (.invokevirtual 168, 3) := by decide +kernel
theorem dX10_nextItem_38 : decode cX10_nextItem 38 = .ok (.ifCond .eq 9, 3) := by decide +kernel
theorem dX10_nextItem_41 : decode cX10_nextItem 41 = .ok (.iload_n 2, 1) := by decide +kernel
theorem dX10_nextItem_42 : decode cX10_nextItem 42 = .ok (.iconst 1, 1) := by decide +kernel
theorem dX10_nextItem_43 : decode cX10_nextItem 43 = .ok (.iadd, 1) := by decide +kernel
theorem dX10_nextItem_44 : decode cX10_nextItem 44 = .ok (.goto 4, 3) := by decide +kernel
theorem dX10_nextItem_47 : decode cX10_nextItem 47 = .ok (.iconst (-1), 1) := by decide +kernel
theorem dX10_nextItem_48 : decode cX10_nextItem 48 = .ok (.ireturn, 1) := by decide +kernel
