theorem dX3_solve_5 : decode cX3_solve 5 = .ok (.invokevirtual 76, 3) := by decide +kernel
theorem dX3_solve_8 : decode cX3_solve 8 = .ok (.iconst (-1), 1) := by decide +kernel
theorem dX3_solve_9 : decode cX3_solve 9 = .ok (.if_icmp .eq 7, 3) := by decide +kernel
theorem dX3_solve_12 : decode cX3_solve 12 = .ok (.iconst 1, 1) := by decide +kernel
theorem dX3_solve_13 : decode cX3_solve 13 = .ok (.goto 4, 3) := by decide +kernel
theorem dX3_solve_16 : decode cX3_solve 16 = .ok (.iconst 0, 1) := by decide +kernel
theorem dX3_solve_17 : decode cX3_solve 17 = .ok (.ireturn, 1) := by decide +kernel
set_option maxRecDepth 20000 in
theorem ggX3_least_X3_firstModelUnder : GoodIn wsX3_least wsX3_firstModelUnder := goodIn_r _ [6, 7, 8, 9, 10, 11, 12, 5, 13, 14, 15, 16, 17, 18, 19, 20, 21, 22, 23, 24, 25, 26, 27, 28, 29, 30, 31, 32, 33, 34, 35, 36, 37, 38, 39, 40, 41, 42, 43, 44, 45, 46, 47, 48, 49, 50, 51, 52, 53, 54, 55, 56, 57, 58, 59, 60, 61, 62, 63, 64, 65, 66, 67, 68, 69, 70, 71, 72, 73, 74, 75, 76, 77, 78, 79, 80, 81, 82, 83, 84, 85, 86, 87, 88, 89, 90, 91, 92, 93, 94, 95, 96, 97, 98, 99, 100, 101, 102, 103, 104, 105, 106, 107, 108, 109, 110, 111, 112, 113, 114, 115, 116, 117, 118, 119] (by decide +kernel) (by decide +kernel)
set_option maxRecDepth 20000 in
theorem gX3_least_X3_firstModelUnder : GoodIn wsX3_least (wsV RX3 76 RX3 yX3_firstModelUnder wsX3_firstModelUnder) := goodIn_app (goodIn_of _ (by decide +kernel)) ggX3_least_X3_firstModelUnder
theorem dX3_least_0 : decode cX3_least 0 = .ok (.aload_n 0, 1) := by decide +kernel
theorem dX3_least_1 : decode cX3_least 1 = .ok (.ldc2_w 74, 3) := by decide +kernel
theorem dX3_least_4 : decode cX3_least 4 = .ok (.iconst 0, 1) := by decide +kernel
theorem dX3_least_5 : decode cX3_least 5 = .ok (.invokevirtual 76, 3) := by decide +kernel
theorem dX3_least_8 : decode cX3_least 8 = .ok (.ireturn, 1) := by decide +kernel
set_option maxRecDepth 20000 in
theorem ggX3_implied_X3_isLiteral : GoodIn wsX3_implied wsX3_isLiteral := goodIn_r _ [6, 7, 100, 101, 102, 103, 104, 105, 106, 107, 108, 109] (by decide +kernel) (by decide +kernel)
set_option maxRecDepth 20000 in
theorem gX3_implied_X3_isLiteral : GoodIn wsX3_implied (wsV RX3 42 RX3 yX3_isLiteral wsX3_isLiteral) := goodIn_app (goodIn_of _ (by decide +kernel)) ggX3_implied_X3_isLiteral
set_option maxRecDepth 20000 in
theorem ggX3_implied_X3_firstModelUnder : GoodIn wsX3_implied wsX3_firstModelUnder := goodIn_r _ [11, 12, 13, 14, 15, 16, 17, 5, 18, 7, 19, 20, 21, 22, 23, 24, 25, 26, 27, 28, 29, 30, 31, 32, 33, 34, 35, 36, 37, 38, 39, 40, 41, 42, 43, 44, 45, 46, 47, 48, 49, 50, 51, 52, 53, 54, 55, 56, 57, 58, 59, 60, 61, 62, 63, 64, 65, 66, 67, 68, 69, 70, 71, 72, 73, 74, 75, 76, 77, 78, 79, 80, 81, 82, 83, 84, 85, 86, 87, 88, 89, 90, 91, 92, 93, 94, 95, 96, 97, 98, 99, 100, 101, 102, 103, 104, 105, 106, 107, 108, 109, 110, 111, 112, 113, 114, 115, 116, 117, 118, 119, 120, 121, 122, 123] (by decide +kernel) (by decide +kernel)
set_option maxRecDepth 20000 in
theorem gX3_implied_X3_firstModelUnder : GoodIn wsX3_implied (wsV RX3 76 RX3 yX3_firstModelUnder wsX3_firstModelUnder) := goodIn_app (goodIn_of _ (by decide +kernel)) ggX3_implied_X3_firstModelUnder
theorem dX3_implied_0 : decode cX3_implied 0 = .ok (.aload_n 0, 1) := by decide +kernel
theorem dX3_implied_1 : decode cX3_implied 1 = .ok (.iload_n 1, 1) := by decide +kernel
theorem dX3_implied_2 : decode cX3_implied 2 = .ok (.invokevirtual 42, 3) := by decide +kernel
theorem dX3_implied_5 : decode cX3_implied 5 = .ok (.ifCond .eq 15, 3) := by decide +kernel
theorem dX3_implied_8 : decode cX3_implied 8 = .ok (.aload_n 0, 1) := by decide +kernel
theorem dX3_implied_9 : decode cX3_implied 9 = .ok (.ldc2_w 74, 3) := by decide +kernel
theorem dX3_implied_12 : decode cX3_implied 12 = .ok (.iconst 0, 1) := by decide +kernel
theorem dX3_implied_13 : decode cX3_implied 13 = .ok (.invokevirtual 76, 3) := by decide +kernel
theorem dX3_implied_16 : decode cX3_implied 16 = .ok (.iconst (-1), 1) := by decide +kernel
theorem dX3_implied_17 : decode cX3_implied 17 = .ok (.if_icmp .ne 5, 3) := by decide +kernel
theorem dX3_implied_20 : decode cX3_implied 20 = .ok (.iconst (-1), 1) := by decide +kernel
theorem dX3_implied_21 : decode cX3_implied 21 = .ok (.ireturn, 1) := by decide +kernel
theorem dX3_implied_22 : decode cX3_implied 22 = .ok (.aload_n 0, 1) := by decide +kernel
theorem dX3_implied_23 : decode cX3_implied 23 = .ok (.ldc2_w 74, 3) := by decide +kernel
theorem dX3_implied_26 : decode cX3_implied 26 = .ok (.iload_n 1, 1) := by decide +kernel
theorem dX3_implied_27 : decode cX3_implied 27 = .ok (.ineg, 1) := by decide +kernel
theorem dX3_implied_28 : decode cX3_implied 28 = .ok (.invokevirtual 76, 3) := by decide +kernel
theorem dX3_implied_31 : decode cX3_implied 31 = .ok (.iconst (-1), 1) := by decide +kernel
theorem dX3_implied_32 : decode cX3_implied 32 = .ok (.if_icmp .ne 7, 3) := by decide +kernel
theorem dX3_implied_35 : decode cX3_implied 35 = .ok (.iconst 1, 1) := by decide +kernel
theorem dX3_implied_36 : decode cX3_implied 36 = .ok (.goto 4, 3) := by decide +kernel
theorem dX3_implied_39 : decode cX3_implied 39 = .ok (.iconst 0, 1) := by decide +kernel
theorem dX3_implied_40 : decode cX3_implied 40 = .ok (.ireturn, 1) := by decide +kernel
set_option maxRecDepth 20000 in
theorem ggX3_core_X3_firstModelUnder : GoodIn wsX3_core wsX3_firstModelUnder := goodIn_r _ [7, 2, 8, 9, 10, 11, 12, 6, 13, 14, 15, 16, 17, 18, 19, 20, 21, 22, 23, 24, 25, 26, 27, 28, 29, 30, 31, 32, 33, 34, 35, 36, 37, 38, 39, 40, 41, 42, 43, 44, 45, 46, 47, 48, 49, 50, 51, 52, 53, 54, 55, 56, 57, 58, 59, 60, 61, 62, 63, 64, 65, 66, 67, 68, 69, 70, 71, 72, 73, 74, 75, 76, 77, 78, 79, 80, 81, 82, 83, 84, 85, 86, 87, 88, 89, 90, 91, 92, 93, 94, 95, 96, 97, 98, 99, 100, 101, 102, 103, 104, 105, 106, 107, 108, 109, 110, 111, 112, 113, 114, 115, 116, 117, 118, 119] (by decide +kernel) (by decide +kernel)
set_option maxRecDepth 20000 in
theorem gX3_core_X3_firstModelUnder : GoodIn wsX3_core (wsV RX3 76 RX3 yX3_firstModelUnder wsX3_firstModelUnder) := goodIn_app (goodIn_of _ (by decide +kernel)) ggX3_core_X3_firstModelUnder
theorem dX3_core_0 : decode cX3_core 0 = .ok (.aload_n 0, 1) := by decide +kernel
theorem dX3_core_1 : decode cX3_core 1 = .ok (.ldc2_w 74, 3) := by decide +kernel
theorem dX3_core_4 : decode cX3_core 4 = .ok (.iconst 0, 1) := by decide +kernel
theorem dX3_core_5 : decode cX3_core 5 = .ok (.invokevirtual 76, 3) := by decide +kernel
theorem dX3_core_8 : decode cX3_core 8 = .ok (.iconst (-1), 1) := by decide +kernel
theorem dX3_core_9 : decode cX3_core 9 = .ok (.if_icmp .eq 5, 3) := by decide +kernel
theorem dX3_core_12 : decode cX3_core 12 = .ok (.lconst 0, 1) := by decide +kernel
theorem dX3_core_13 : decode cX3_core 13 = .ok (.lreturn, 1) := by decide +kernel
theorem dX3_core_14 : decode cX3_core 14 = .ok (.lconst 1, 1) := by decide +kernel
theorem dX3_core_15 : decode cX3_core 15 = .ok (.aload_n 0, 1) := by decide +kernel
theorem dX3_core_16 : decode cX3_core 16 = .ok (.getfield 71, 3) := by decide +kernel
theorem dX3_core_19 : decode cX3_core 19 = .ok (.lshl, 1) := by decide +kernel
theorem dX3_core_20 : decode cX3_core 20 = .ok (.lconst 1, 1) := by decide +kernel
theorem dX3_core_21 : decode cX3_core 21 = .ok (.lsub, 1) := by decide +kernel
theorem dX3_core_22 : decode cX3_core 22 = .ok (.lstore_n 1, 1) := by decide +kernel
theorem dX3_core_23 : decode cX3_core 23 = .ok (.iconst 0, 1) := by decide +kernel
theorem dX3_core_24 : decode cX3_core 24 = .ok (.istore_n 3, 1) := by decide +kernel
theorem dX3_core_25 : decode cX3_core 25 = .ok (.iload_n 3, 1) := by decide +kernel
theorem dX3_core_26 : decode cX3_core 26 = .ok (.aload_n 0, 1) := by decide +kernel
theorem dX3_core_27 : decode cX3_core 27 = .ok (.getfield 71, 3) := by decide +kernel
theorem dX3_core_30 : decode cX3_core 30 = .ok (.if_icmp .ge 34, 3) := by decide +kernel
theorem dX3_core_33 : decode cX3_core 33 = .ok (.lload_n 1, 1) := by decide +kernel
theorem dX3_core_34 : decode cX3_core 34 = .ok (.lconst 1, 1) := by decide +kernel
theorem dX3_core_35 : decode cX3_core 35 = .ok (.iload_n 3, 1) := by decide +kernel
theorem dX3_core_36 : decode cX3_core 36 = .ok (.lshl, 1) := by decide +kernel
theorem dX3_core_37 : decode cX3_core 37 = .ok (.ldc2_w 74, 3) := by decide +kernel
theorem dX3_core_40 : decode cX3_core 40 = .ok (.lxor, 1) := by decide +kernel
theorem dX3_core_41 : decode cX3_core 41 = .ok (.land, 1) := by decide +kernel
theorem dX3_core_42 : decode cX3_core 42 = .ok (.lstore 4, 2) := by decide +kernel
theorem dX3_core_44 : decode cX3_core 44 = .ok (.aload_n 0, 1) := by decide +kernel
theorem dX3_core_45 : decode cX3_core 45 = .ok (.lload 4, 2) := by decide +kernel
theorem dX3_core_47 : decode cX3_core 47 = .ok (.iconst 0, 1) := by decide +kernel
theorem dX3_core_48 : decode cX3_core 48 = .ok (.invokevirtual 76, 3) := by decide +kernel
theorem dX3_core_51 : decode cX3_core 51 = .ok (.iconst (-1), 1) := by decide +kernel
theorem dX3_core_52 : decode cX3_core 52 = .ok (.if_icmp .ne 6, 3) := by decide +kernel
theorem dX3_core_55 : decode cX3_core 55 = .ok (.lload 4, 2) := by decide +kernel
theorem dX3_core_57 : decode cX3_core 57 = .ok (.lstore_n 1, 1) := by decide +kernel
theorem dX3_core_58 : decode cX3_core 58 = .ok (.iinc 3 1, 3) := by decide +kernel
theorem dX3_core_61 : decode cX3_core 61 = .ok (.goto (-36), 3) := by decide +kernel
theorem dX3_core_64 : decode cX3_core 64 = .ok (.lload_n 1, 1) := by decide +kernel
theorem dX3_core_65 : decode cX3_core 65 = .ok (.lreturn, 1) := by decide +kernel
theorem dX3_isLiteral_0 : decode cX3_isLiteral 0 = .ok (.iload_n 1, 1) := by decide +kernel
theorem dX3_isLiteral_1 : decode cX3_isLiteral 1 = .ok (.ifCond .eq 24, 3) := by decide +kernel
theorem dX3_isLiteral_4 : decode cX3_isLiteral 4 = .ok (.iload_n 1, 1) := by decide +kernel
theorem dX3_isLiteral_5 : decode cX3_isLiteral 5 = .ok (.aload_n 0, 1) := by decide +kernel
theorem dX3_isLiteral_6 : decode cX3_isLiteral 6 = .ok (.getfield 18, 3) := by decide +kernel
theorem dX3_isLiteral_9 : decode cX3_isLiteral 9 = .ok (.ineg, 1) := by decide +kernel
theorem dX3_isLiteral_10 : decode cX3_isLiteral 10 = .ok (.if_icmp .lt 15, 3) := by decide +kernel
theorem dX3_isLiteral_13 : decode cX3_isLiteral 13 = .ok (.iload_n 1, 1) := by decide +kernel
theorem dX3_isLiteral_14 : decode cX3_isLiteral 14 = .ok (.aload_n 0, 1) := by decide +kernel
theorem dX3_isLiteral_15 : decode cX3_isLiteral 15 = .ok (.getfield 18, 3) := by decide +kernel
theorem dX3_isLiteral_18 : decode cX3_isLiteral 18 = .ok (.if_icmp .gt 7, 3) := by decide +kernel
theorem dX3_isLiteral_21 : decode cX3_isLiteral 21 = .ok (.iconst 1, 1) := by decide +kernel
theorem dX3_isLiteral_22 : decode cX3_isLiteral 22 = .ok (.goto 4, 3) := by decide +kernel
theorem dX3_isLiteral_25 : decode cX3_isLiteral 25 = .ok (.iconst 0, 1) := by decide +kernel
theorem dX3_isLiteral_26 : decode cX3_isLiteral 26 = .ok (.ireturn, 1) := by decide +kernel
theorem dX3_bitOf_0 : decode cX3_bitOf 0 = .ok (.iconst 1, 1) := by decide +kernel
theorem dX3_bitOf_1 : decode cX3_bitOf 1 = .ok (.aload_n 0, 1) := by decide +kernel
theorem dX3_bitOf_2 : decode cX3_bitOf 2 = .ok (.getfield 18, 3) := by decide +kernel
theorem dX3_bitOf_5 : decode cX3_bitOf 5 = .ok (.iload_n 1, 1) := by decide +kernel
theorem dX3_bitOf_6 : decode cX3_bitOf 6 = .ok (.invokestatic 86, 3) := by decide +kernel
theorem dX3_bitOf_9 : decode cX3_bitOf 9 = .ok (.isub, 1) := by decide +kernel
theorem dX3_bitOf_10 : decode cX3_bitOf 10 = .ok (.ishl, 1) := by decide +kernel
theorem dX3_bitOf_11 : decode cX3_bitOf 11 = .ok (.ireturn, 1) := by decide +kernel
set_option maxRecDepth 20000 in
theorem ggX3_takeMadeClause_X0_give : GoodIn wsX3_takeMadeClause wsX0_give := goodIn_r _ [8, 9, 10, 11, 12, 23, 24, 25, 26] (by decide +kernel) (by decide +kernel)
set_option maxRecDepth 20000 in
theorem gX3_takeMadeClause_X0_give : GoodIn wsX3_takeMadeClause (wsV RX3 89 RX0 yX0_give wsX0_give) := goodIn_app (goodIn_of _ (by decide +kernel)) ggX3_takeMadeClause_X0_give
theorem dX3_takeMadeClause_0 : decode cX3_takeMadeClause 0 = .ok (.aload_n 0, 1) := by decide +kernel
theorem dX3_takeMadeClause_1 : decode cX3_takeMadeClause 1 = .ok (.getfield 49, 3) := by decide +kernel
theorem dX3_takeMadeClause_4 : decode cX3_takeMadeClause 4 = .ok (.aload_n 0, 1) := by decide +kernel
theorem dX3_takeMadeClause_5 : decode cX3_takeMadeClause 5 = .ok (.getfield 56, 3) := by decide +kernel
theorem dX3_takeMadeClause_8 : decode cX3_takeMadeClause 8 = .ok (.iand, 1) := by decide +kernel
theorem dX3_takeMadeClause_9 : decode cX3_takeMadeClause 9 = .ok (.ifCond .ne 18, 3) := by decide +kernel
theorem dX3_takeMadeClause_12 : decode cX3_takeMadeClause 12 = .ok (.aload_n 0, 1) := by decide +kernel
theorem dX3_takeMadeClause_13 : decode cX3_takeMadeClause 13 = .ok (.getfield 25, 3) := by decide +kernel
theorem dX3_takeMadeClause_16 : decode cX3_takeMadeClause 16 = .ok (.aload_n 0, 1) := by decide +kernel
theorem dX3_takeMadeClause_17 : decode cX3_takeMadeClause 17 = .ok (.getfield 49, 3) := by decide +kernel
theorem dX3_takeMadeClause_20 : decode cX3_takeMadeClause 20 = .ok (.aload_n 0, 1) := by decide +kernel
theorem dX3_takeMadeClause_21 : decode cX3_takeMadeClause 21 = .ok (.getfield 56, 3) := by decide +kernel
theorem dX3_takeMadeClause_24 : decode cX3_takeMadeClause 24 = .ok (.invokevirtual 89, 3) := by decide +kernel
theorem dX3_takeMadeClause_27 : decode cX3_takeMadeClause 27 = .ok (.return_, 1) := by decide +kernel
theorem dX3_forgetMadeClause_0 : decode cX3_forgetMadeClause 0 = .ok (.aload_n 0, 1) := by decide +kernel
theorem dX3_forgetMadeClause_1 : decode cX3_forgetMadeClause 1 = .ok (.iconst 0, 1) := by decide +kernel
theorem dX3_forgetMadeClause_2 : decode cX3_forgetMadeClause 2 = .ok (.putfield 49, 3) := by decide +kernel
theorem dX3_forgetMadeClause_5 : decode cX3_forgetMadeClause 5 = .ok (.aload_n 0, 1) := by decide +kernel
theorem dX3_forgetMadeClause_6 : decode cX3_forgetMadeClause 6 = .ok (.iconst 0, 1) := by decide +kernel
theorem dX3_forgetMadeClause_7 : decode cX3_forgetMadeClause 7 = .ok (.putfield 56, 3) := by decide +kernel
theorem dX3_forgetMadeClause_10 : decode cX3_forgetMadeClause 10 = .ok (.aload_n 0, 1) := by decide +kernel
theorem dX3_forgetMadeClause_11 : decode cX3_forgetMadeClause 11 = .ok (.iconst 0, 1) := by decide +kernel
theorem dX3_forgetMadeClause_12 : decode cX3_forgetMadeClause 12 = .ok (.putfield 46, 3) := by decide +kernel
theorem dX3_forgetMadeClause_15 : decode cX3_forgetMadeClause 15 = .ok (.return_, 1) := by decide +kernel
set_option maxRecDepth 20000 in
theorem ggX3_firstModelUnder_X3_bitOf : GoodIn wsX3_firstModelUnder wsX3_bitOf := goodIn_r _ [8, 9, 10, 11, 12, 13, 91, 92, 93, 94, 95, 96, 97, 98, 99, 100] (by decide +kernel) (by decide +kernel)
set_option maxRecDepth 20000 in
theorem gX3_firstModelUnder_X3_bitOf : GoodIn wsX3_firstModelUnder (wsV RX3 52 RX3 yX3_bitOf wsX3_bitOf) := goodIn_app (goodIn_of _ (by decide +kernel)) ggX3_firstModelUnder_X3_bitOf
set_option maxRecDepth 20000 in
theorem ggX3_firstModelUnder_X1_firstModel : GoodIn wsX3_firstModelUnder wsX1_firstModel := goodIn_r _ [18, 19, 20, 21, 22, 23, 24, 25, 26, 27, 28, 29, 30, 31, 32, 33, 34, 35, 36, 37, 38, 39, 40, 41, 42, 43, 44, 17, 45, 46, 47, 48, 49, 50, 51, 52, 53, 54, 55, 56, 57, 58, 59, 60, 61, 62, 63, 64, 65, 66, 67, 68, 69, 70, 71, 72, 73, 74, 75, 76, 77, 78, 79, 80, 81, 82, 83, 84, 85, 86, 12, 87, 88, 89, 90, 101, 102, 103, 104, 105, 106, 107, 108, 109, 110, 111, 112, 113, 114] (by decide +kernel) (by decide +kernel)
set_option maxRecDepth 20000 in
theorem gX3_firstModelUnder_X1_firstModel : GoodIn wsX3_firstModelUnder (wsV RX3 93 RX1 yX1_firstModel wsX1_firstModel) := goodIn_app (goodIn_of _ (by decide +kernel)) ggX3_firstModelUnder_X1_firstModel
theorem dX3_firstModelUnder_0 : decode cX3_firstModelUnder 0 = .ok (.iload_n 3, 1) := by decide +kernel
theorem dX3_firstModelUnder_1 : decode cX3_firstModelUnder 1 = .ok (.ifCond .le 11, 3) := by decide +kernel
theorem dX3_firstModelUnder_4 : decode cX3_firstModelUnder 4 = .ok (.aload_n 0, 1) := by decide +kernel
theorem dX3_firstModelUnder_5 : decode cX3_firstModelUnder 5 = .ok (.iload_n 3, 1) := by decide +kernel
theorem dX3_firstModelUnder_6 : decode cX3_firstModelUnder 6 = .ok (.invokevirtual 52, 3) := by decide +kernel
theorem dX3_firstModelUnder_9 : decode cX3_firstModelUnder 9 = .ok (.goto 4, 3) := by decide +kernel
theorem dX3_firstModelUnder_12 : decode cX3_firstModelUnder 12 = .ok (.iconst 0, 1) := by decide +kernel
theorem dX3_firstModelUnder_13 : decode cX3_firstModelUnder 13 = .ok (.istore 4, 2) := by decide +kernel
theorem dX3_firstModelUnder_15 : decode cX3_firstModelUnder 15 = .ok (.iload_n 3, 1) := by decide +kernel
theorem dX3_firstModelUnder_16 : decode cX3_firstModelUnder 16 = .ok (.ifCond .ge 11, 3) := by decide +kernel
theorem dX3_firstModelUnder_19 : decode cX3_firstModelUnder 19 = .ok (.aload_n 0, 1) := by decide +kernel
theorem dX3_firstModelUnder_20 : decode cX3_firstModelUnder 20 = .ok (.iload_n 3, 1) := by decide +kernel
theorem dX3_firstModelUnder_21 : decode cX3_firstModelUnder 21 = .ok (.invokevirtual 52, 3) := by decide +kernel
theorem dX3_firstModelUnder_24 : decode cX3_firstModelUnder 24 = .ok (.goto 4, 3) := by decide +kernel
theorem dX3_firstModelUnder_27 : decode cX3_firstModelUnder 27 = .ok (.iconst 0, 1) := by decide +kernel
theorem dX3_firstModelUnder_28 : decode cX3_firstModelUnder 28 = .ok (.istore 5, 2) := by decide +kernel
theorem dX3_firstModelUnder_30 : decode cX3_firstModelUnder 30 = .ok (.iconst 0, 1) := by decide +kernel
theorem dX3_firstModelUnder_31 : decode cX3_firstModelUnder 31 = .ok (.istore 6, 2) := by decide +kernel
theorem dX3_firstModelUnder_33 : decode cX3_firstModelUnder 33 = .ok (.iload 6, 2) := by decide +kernel
theorem dX3_firstModelUnder_35 : decode cX3_firstModelUnder 35 = .ok (.aload_n 0, 1) := by decide +kernel
theorem dX3_firstModelUnder_36 : decode cX3_firstModelUnder 36 = .ok (.getfield 71, 3) := by decide +kernel
theorem dX3_firstModelUnder_39 : decode cX3_firstModelUnder 39 = .ok (.if_icmp .ge 68, 3) := by decide +kernel
theorem dX3_firstModelUnder_42 : decode cX3_firstModelUnder 42 = .ok (.lload_n 1, 1) := by decide +kernel
theorem dX3_firstModelUnder_43 : decode cX3_firstModelUnder 43 = .ok (.iload 6, 2) := by decide +kernel
theorem dX3_firstModelUnder_45 : decode cX3_firstModelUnder 45 = .ok (.lushr, 1) := by decide +kernel
theorem dX3_firstModelUnder_46 : decode cX3_firstModelUnder 46 = .ok (.lconst 1, 1) := by decide +kernel
theorem dX3_firstModelUnder_47 : decode cX3_firstModelUnder 47 = .ok (.land, 1) := by decide +kernel
theorem dX3_firstModelUnder_48 : decode cX3_firstModelUnder 48 = .ok (.lconst 0, 1) := by decide +kernel
theorem dX3_firstModelUnder_49 : decode cX3_firstModelUnder 49 = .ok (.lcmp, 1) := by decide +kernel
theorem dX3_firstModelUnder_50 : decode cX3_firstModelUnder 50 = .ok (.ifCond .ne 6, 3) := by decide +kernel
theorem dX3_firstModelUnder_53 : decode cX3_firstModelUnder 53 = .ok (.goto 48, 3) := by decide +kernel
theorem dX3_firstModelUnder_56 : decode cX3_firstModelUnder 56 = .ok (.aload_n 0, 1) := by decide +kernel
theorem dX3_firstModelUnder_57 : decode cX3_firstModelUnder 57 = .ok (.getfield 38, 3) := by decide +kernel
theorem dX3_firstModelUnder_60 : decode cX3_firstModelUnder 60 = .ok (.iload 6, 2) := by decide +kernel
theorem dX3_firstModelUnder_62 : decode cX3_firstModelUnder 62 = .ok (.iaload, 1) := by decide +kernel
theorem dX3_firstModelUnder_63 : decode cX3_firstModelUnder 63 = .ok (.ifCond .le 22, 3) := by decide +kernel
theorem dX3_firstModelUnder_66 : decode cX3_firstModelUnder 66 = .ok (.iload 4, 2) := by decide +kernel
theorem dX3_firstModelUnder_68 : decode cX3_firstModelUnder 68 = .ok (.aload_n 0, 1) := by decide +kernel
theorem dX3_firstModelUnder_69 : decode cX3_firstModelUnder 69 = .ok (.aload_n 0, 1) := by decide +kernel
theorem dX3_firstModelUnder_70 : decode cX3_firstModelUnder 70 = .ok (.getfield 38, 3) := by decide +kernel
theorem dX3_firstModelUnder_73 : decode cX3_firstModelUnder 73 = .ok (.iload 6, 2) := by decide +kernel
theorem dX3_firstModelUnder_75 : decode cX3_firstModelUnder 75 = .ok (.iaload, 1) := by decide +kernel
theorem dX3_firstModelUnder_76 : decode cX3_firstModelUnder 76 = .ok (.invokevirtual 52, 3) := by decide +kernel
theorem dX3_firstModelUnder_79 : decode cX3_firstModelUnder 79 = .ok (.ior, 1) := by decide +kernel
theorem dX3_firstModelUnder_80 : decode cX3_firstModelUnder 80 = .ok (.istore 4, 2) := by decide +kernel
theorem dX3_firstModelUnder_82 : decode cX3_firstModelUnder 82 = .ok (.goto 19, 3) := by decide +kernel
theorem dX3_firstModelUnder_85 : decode cX3_firstModelUnder 85 = .ok (.iload 5, 2) := by decide +kernel
theorem dX3_firstModelUnder_87 : decode cX3_firstModelUnder 87 = .ok (.aload_n 0, 1) := by decide +kernel
theorem dX3_firstModelUnder_88 : decode cX3_firstModelUnder 88 = .ok (.aload_n 0, 1) := by decide +kernel
theorem dX3_firstModelUnder_89 : decode cX3_firstModelUnder 89 = .ok (.getfield 38, 3) := by decide +kernel
theorem dX3_firstModelUnder_92 : decode cX3_firstModelUnder 92 = .ok (.iload 6, 2) := by decide +kernel
theorem dX3_firstModelUnder_94 : decode cX3_firstModelUnder 94 = .ok (.iaload, 1) := by decide +kernel
theorem dX3_firstModelUnder_95 : decode cX3_firstModelUnder 95 = .ok (.invokevirtual 52, 3) := by decide +kernel
theorem dX3_firstModelUnder_98 : decode cX3_firstModelUnder 98 = .ok (.ior, 1) := by decide +kernel
theorem dX3_firstModelUnder_99 : decode cX3_firstModelUnder 99 = .ok (.istore 5, 2) := by decide +kernel
theorem dX3_firstModelUnder_101 : decode cX3_firstModelUnder 101 = .ok (.iinc 6 1, 3) := by decide +kernel
theorem dX3_firstModelUnder_104 : decode cX3_firstModelUnder 104 = .ok (.goto (-71), 3) := by decide +kernel
theorem dX3_firstModelUnder_107 : decode cX3_firstModelUnder 107 = .ok (.aload_n 0, 1) := by decide +kernel
theorem dX3_firstModelUnder_108 : decode cX3_firstModelUnder 108 = .ok (.getfield 34, 3) := by decide +kernel
theorem dX3_firstModelUnder_111 : decode cX3_firstModelUnder 111 = .ok (.iload 4, 2) := by decide +kernel
theorem dX3_firstModelUnder_113 : decode cX3_firstModelUnder 113 = .ok (.iload 5, 2) := by decide +kernel
theorem dX3_firstModelUnder_115 : decode cX3_firstModelUnder 115 = .ok (.invokevirtual 93, 3) := by decide +kernel
theorem dX3_firstModelUnder_118 : decode cX3_firstModelUnder 118 = .ok (.ireturn, 1) := by decide +kernel
theorem dJ9_abs_0f7a4_0 : decode cJ9_abs_0f7a4 0 = .ok (.iload_n 0, 1) := by decide +kernel
theorem dJ9_abs_0f7a4_1 : decode cJ9_abs_0f7a4 1 = .ok (.ifCond .ge 8, 3) := by decide +kernel
theorem dJ9_abs_0f7a4_4 : decode cJ9_abs_0f7a4 4 = .ok (.iload_n 0, 1) := by decide +kernel
theorem dJ9_abs_0f7a4_5 : decode cJ9_abs_0f7a4 5 = .ok (.ineg, 1) := by decide +kernel
theorem dJ9_abs_0f7a4_6 : decode cJ9_abs_0f7a4 6 = .ok (.goto 4, 3) := by decide +kernel
theorem dJ9_abs_0f7a4_9 : decode cJ9_abs_0f7a4 9 = .ok (.iload_n 0, 1) := by decide +kernel
theorem dJ9_abs_0f7a4_10 : decode cJ9_abs_0f7a4 10 = .ok (.ireturn, 1) := by decide +kernel
theorem dJ9_max_7cf53_0 : decode cJ9_max_7cf53 0 = .ok (.iload_n 0, 1) := by decide +kernel
theorem dJ9_max_7cf53_1 : decode cJ9_max_7cf53 1 = .ok (.iload_n 1, 1) := by decide +kernel
theorem dJ9_max_7cf53_2 : decode cJ9_max_7cf53 2 = .ok (.if_icmp .lt 7, 3) := by decide +kernel
theorem dJ9_max_7cf53_5 : decode cJ9_max_7cf53 5 = .ok (.iload_n 0, 1) := by decide +kernel
theorem dJ9_max_7cf53_6 : decode cJ9_max_7cf53 6 = .ok (.goto 4, 3) := by decide +kernel
theorem dJ9_max_7cf53_9 : decode cJ9_max_7cf53 9 = .ok (.iload_n 1, 1) := by decide +kernel
theorem dJ9_max_7cf53_10 : decode cJ9_max_7cf53 10 = .ok (.ireturn, 1) := by decide +kernel
theorem dJ9_min_7cf53_0 : decode cJ9_min_7cf53 0 = .ok (.iload_n 0, 1) := by decide +kernel
theorem dJ9_min_7cf53_1 : decode cJ9_min_7cf53 1 = .ok (.iload_n 1, 1) := by decide +kernel
theorem dJ9_min_7cf53_2 : decode cJ9_min_7cf53 2 = .ok (.if_icmp .gt 7, 3) := by decide +kernel
theorem dJ9_min_7cf53_5 : decode cJ9_min_7cf53 5 = .ok (.iload_n 0, 1) := by decide +kernel
theorem dJ9_min_7cf53_6 : decode cJ9_min_7cf53 6 = .ok (.goto 4, 3) := by decide +kernel
theorem dJ9_min_7cf53_9 : decode cJ9_min_7cf53 9 = .ok (.iload_n 1, 1) := by decide +kernel
theorem dJ9_min_7cf53_10 : decode cJ9_min_7cf53 10 = .ok (.ireturn, 1) := by decide +kernel
set_option maxRecDepth 20000 in
theorem ggL_law_X3_init : GoodIn wsL_law wsX3_init := goodIn_r _ [5, 6, 7, 8, 9, 10, 11, 12, 13, 14, 15, 16, 17, 18, 19, 20, 21, 22, 23, 24, 25, 26, 27, 28, 29, 30, 31, 32, 33, 34, 35, 36, 37, 38, 39, 40, 41, 42, 43, 44, 45, 46, 47, 48, 49, 178, 179, 180, 181, 182, 183, 184, 185, 186, 187, 188, 189, 190, 191, 192, 193, 194, 195, 196, 197, 198, 199, 200, 201] (by decide +kernel) (by decide +kernel)
set_option maxRecDepth 20000 in
theorem gL_law_X3_init : GoodIn wsL_law (wsX3_init) := ggL_law_X3_init
set_option maxRecDepth 20000 in
theorem ggL_law_X3_add : GoodIn wsL_law wsX3_add := goodIn_r _ [53, 54, 55, 56, 57, 58, 59, 2, 60, 16, 61, 62, 63, 64, 65, 66, 11, 67, 178, 179, 180, 181, 182, 183, 184, 185, 186, 187] (by decide +kernel) (by decide +kernel)
set_option maxRecDepth 20000 in
theorem gL_law_X3_add : GoodIn wsL_law (wsV RL 21 RX3 yX3_add wsX3_add) := goodIn_app (goodIn_of _ (by decide +kernel)) ggL_law_X3_add
set_option maxRecDepth 20000 in
theorem ggL_law_X3_close : GoodIn wsL_law wsX3_close := goodIn_r _ [71, 72, 73, 54, 74, 75, 76, 2, 77, 55, 56, 20, 78, 79, 80, 19, 81, 82, 83, 31, 32, 84, 85, 86, 87, 178, 179, 180, 181, 182, 183, 184, 185, 186, 187, 188, 189, 190, 191] (by decide +kernel) (by decide +kernel)
set_option maxRecDepth 20000 in
theorem gL_law_X3_close : GoodIn wsL_law (wsV RL 26 RX3 yX3_close wsX3_close) := goodIn_app (goodIn_of _ (by decide +kernel)) ggL_law_X3_close
set_option maxRecDepth 20000 in
theorem ggL_law_X3_assume : GoodIn wsL_law wsX3_assume := goodIn_r _ [91, 92, 26, 57, 58, 59, 2, 60, 16, 178, 179, 180, 181, 182, 183, 184, 185, 186, 187] (by decide +kernel) (by decide +kernel)
set_option maxRecDepth 20000 in
theorem gL_law_X3_assume : GoodIn wsL_law (wsV RL 31 RX3 yX3_assume wsX3_assume) := goodIn_app (goodIn_of _ (by decide +kernel)) ggL_law_X3_assume
set_option maxRecDepth 20000 in
theorem ggL_law_X3_retract : GoodIn wsL_law wsX3_retract := goodIn_r _ [96, 92, 178, 179, 180, 181, 182, 183, 184, 185, 186, 187] (by decide +kernel) (by decide +kernel)
set_option maxRecDepth 20000 in
theorem gL_law_X3_retract : GoodIn wsL_law (wsV RL 36 RX3 yX3_retract wsX3_retract) := goodIn_app (goodIn_of _ (by decide +kernel)) ggL_law_X3_retract
set_option maxRecDepth 20000 in
theorem ggL_law_X3_solve : GoodIn wsL_law wsX3_solve := goodIn_r _ [100, 101, 102, 103, 104, 2, 105, 92, 26, 24, 61, 62, 63, 64, 16, 65, 66, 11, 67, 106, 107, 108, 23, 109, 38, 42, 110, 111, 112, 19, 113, 83, 82, 114, 115, 116, 41, 117, 118, 119, 120, 121, 122, 123, 124, 48, 49, 125, 126, 127, 128, 37, 129, 130, 131, 132, 133, 134, 135, 136, 43, 137, 138, 139, 140, 141, 142, 143, 144, 145, 31, 146, 147, 148, 149, 32, 150, 151, 152, 153, 154, 155, 156, 157, 158, 159, 160, 161, 162, 163, 164, 14, 15, 165, 10, 12, 178, 179, 180, 181, 182, 183, 184, 185, 186, 187, 192, 193, 194, 195, 196, 188, 189, 190, 191, 197, 198, 199, 200, 201] (by decide +kernel) (by decide +kernel)
set_option maxRecDepth 20000 in
theorem gL_law_X3_solve : GoodIn wsL_law (wsV RL 40 RX3 yX3_solve wsX3_solve) := goodIn_app (goodIn_of _ (by decide +kernel)) ggL_law_X3_solve
set_option maxRecDepth 20000 in
theorem ggL_law_X3_least : GoodIn wsL_law wsX3_least := goodIn_r _ [169, 101, 102, 103, 104, 2, 105, 92, 26, 24, 61, 62, 63, 64, 16, 65, 66, 11, 67, 106, 107, 108, 23, 109, 38, 42, 110, 111, 112, 19, 113, 83, 82, 114, 115, 116, 41, 117, 118, 119, 120, 121, 122, 123, 124, 48, 49, 125, 126, 127, 128, 37, 129, 130, 131, 132, 133, 134, 135, 136, 43, 137, 138, 139, 140, 141, 142, 143, 144, 145, 31, 146, 147, 148, 149, 32, 150, 151, 152, 153, 154, 155, 156, 157, 158, 159, 160, 161, 162, 163, 164, 14, 15, 165, 10, 12, 178, 179, 180, 181, 182, 183, 184, 185, 186, 187, 192, 193, 194, 195, 196, 188, 189, 190, 191, 197, 198, 199, 200, 201] (by decide +kernel) (by decide +kernel)
set_option maxRecDepth 20000 in
theorem gL_law_X3_least : GoodIn wsL_law (wsV RL 45 RX3 yX3_least wsX3_least) := goodIn_app (goodIn_of _ (by decide +kernel)) ggL_law_X3_least
set_option maxRecDepth 20000 in
theorem ggL_law_X3_implied : GoodIn wsL_law wsX3_implied := goodIn_r _ [173, 101, 57, 58, 59, 2, 60, 16, 102, 103, 104, 105, 92, 26, 24, 61, 62, 63, 64, 65, 66, 11, 67, 106, 107, 108, 23, 109, 38, 42, 110, 111, 112, 19, 113, 83, 82, 114, 115, 116, 41, 117, 118, 119, 120, 121, 122, 123, 124, 48, 49, 125, 126, 127, 128, 37, 129, 130, 131, 132, 133, 134, 135, 136, 43, 137, 138, 139, 140, 141, 142, 143, 144, 145, 31, 146, 147, 148, 149, 32, 150, 151, 152, 153, 154, 155, 156, 157, 158, 159, 160, 161, 162, 163, 164, 14, 15, 165, 10, 12, 178, 179, 180, 181, 182, 183, 184, 185, 186, 187, 192, 193, 194, 195, 196, 188, 189, 190, 191, 197, 198, 199, 200, 201] (by decide +kernel) (by decide +kernel)
set_option maxRecDepth 20000 in
theorem gL_law_X3_implied : GoodIn wsL_law (wsV RL 49 RX3 yX3_implied wsX3_implied) := goodIn_app (goodIn_of _ (by decide +kernel)) ggL_law_X3_implied
set_option maxRecDepth 20000 in
theorem ggL_law_X3_core : GoodIn wsL_law wsX3_core := goodIn_r _ [177, 101, 92, 102, 103, 104, 2, 105, 26, 24, 61, 62, 63, 64, 16, 65, 66, 11, 67, 106, 107, 108, 23, 109, 38, 42, 110, 111, 112, 19, 113, 83, 82, 114, 115, 116, 41, 117, 118, 119, 120, 121, 122, 123, 124, 48, 49, 125, 126, 127, 128, 37, 129, 130, 131, 132, 133, 134, 135, 136, 43, 137, 138, 139, 140, 141, 142, 143, 144, 145, 31, 146, 147, 148, 149, 32, 150, 151, 152, 153, 154, 155, 156, 157, 158, 159, 160, 161, 162, 163, 164, 14, 15, 165, 10, 12, 178, 179, 180, 181, 182, 183, 184, 185, 186, 187, 192, 193, 194, 195, 196, 188, 189, 190, 191, 197, 198, 199, 200, 201] (by decide +kernel) (by decide +kernel)
set_option maxRecDepth 20000 in
theorem gL_law_X3_core : GoodIn wsL_law (wsV RL 53 RX3 yX3_core wsX3_core) := goodIn_app (goodIn_of _ (by decide +kernel)) ggL_law_X3_core
theorem dL_law_0 : decode cL_law 0 = .ok (.new 7, 3) := by decide +kernel
theorem dL_law_3 : decode cL_law 3 = .ok (.dup, 1) := by decide +kernel
theorem dL_law_4 : decode cL_law 4 = .ok (.aload_n 0, 1) := by decide +kernel
theorem dL_law_5 : decode cL_law 5 = .ok (.iconst 0, 1) := by decide +kernel
theorem dL_law_6 : decode cL_law 6 = .ok (.invokestatic 9, 3) := by decide +kernel
theorem dL_law_9 : decode cL_law 9 = .ok (.invokespecial 15, 3) := by decide +kernel
theorem dL_law_12 : decode cL_law 12 = .ok (.astore_n 1, 1) := by decide +kernel
theorem dL_law_13 : decode cL_law 13 = .ok (.new 18, 3) := by decide +kernel
theorem dL_law_16 : decode cL_law 16 = .ok (.dup, 1) := by decide +kernel
theorem dL_law_17 : decode cL_law 17 = .ok (.aload_n 0, 1) := by decide +kernel
theorem dL_law_18 : decode cL_law 18 = .ok (.iconst 0, 1) := by decide +kernel
theorem dL_law_19 : decode cL_law 19 = .ok (.invokestatic 9, 3) := by decide +kernel
theorem dL_law_22 : decode cL_law 22 = .ok (.invokespecial 20, 3) := by decide +kernel
theorem dL_law_25 : decode cL_law 25 = .ok (.astore_n 2, 1) := by decide +kernel
theorem dL_law_26 : decode cL_law 26 = .ok (.iconst 1, 1) := by decide +kernel
theorem dL_law_27 : decode cL_law 27 = .ok (.istore_n 3, 1) := by decide +kernel
theorem dL_law_28 : decode cL_law 28 = .ok (.iload_n 3, 1) := by decide +kernel
theorem dL_law_29 : decode cL_law 29 = .ok (.aload_n 0, 1) := by decide +kernel
theorem dL_law_30 : decode cL_law 30 = .ok (.arraylength, 1) := by decide +kernel
theorem dL_law_31 : decode cL_law 31 = .ok (.iconst 2, 1) := by decide +kernel
theorem dL_law_32 : decode cL_law 32 = .ok (.isub, 1) := by decide +kernel
theorem dL_law_33 : decode cL_law 33 = .ok (.if_icmp .gt 248, 3) := by decide +kernel
theorem dL_law_36 : decode cL_law 36 = .ok (.aload_n 0, 1) := by decide +kernel
theorem dL_law_37 : decode cL_law 37 = .ok (.iload_n 3, 1) := by decide +kernel
theorem dL_law_38 : decode cL_law 38 = .ok (.iaload, 1) := by decide +kernel
theorem dL_law_39 : decode cL_law 39 = .ok (.bipush 15, 2) := by decide +kernel
theorem dL_law_41 : decode cL_law 41 = .ok (.iand, 1) := by decide +kernel
theorem dL_law_42 : decode cL_law 42 = .ok (.tableswitch 233 0 9 #[54, 77, 90, 113, 136, 149, 162, 185, 199, 222], 54) := by decide +kernel
theorem dL_law_96 : decode cL_law 96 = .ok (.aload_n 1, 1) := by decide +kernel
theorem dL_law_97 : decode cL_law 97 = .ok (.aload_n 0, 1) := by decide +kernel
theorem dL_law_98 : decode cL_law 98 = .ok (.iload_n 3, 1) := by decide +kernel
theorem dL_law_99 : decode cL_law 99 = .ok (.iconst 1, 1) := by decide +kernel
theorem dL_law_100 : decode cL_law 100 = .ok (.iadd, 1) := by decide +kernel
theorem dL_law_101 : decode cL_law 101 = .ok (.iaload, 1) := by decide +kernel
theorem dL_law_102 : decode cL_law 102 = .ok (.invokevirtual 21, 3) := by decide +kernel
theorem dL_law_105 : decode cL_law 105 = .ok (.aload_n 2, 1) := by decide +kernel
theorem dL_law_106 : decode cL_law 106 = .ok (.aload_n 0, 1) := by decide +kernel
theorem dL_law_107 : decode cL_law 107 = .ok (.iload_n 3, 1) := by decide +kernel
theorem dL_law_108 : decode cL_law 108 = .ok (.iconst 1, 1) := by decide +kernel
theorem dL_law_109 : decode cL_law 109 = .ok (.iadd, 1) := by decide +kernel
theorem dL_law_110 : decode cL_law 110 = .ok (.iaload, 1) := by decide +kernel
theorem dL_law_111 : decode cL_law 111 = .ok (.invokevirtual 25, 3) := by decide +kernel
theorem dL_law_114 : decode cL_law 114 = .ok (.if_icmp .eq 161, 3) := by decide +kernel
theorem dL_law_117 : decode cL_law 117 = .ok (.iconst 0, 1) := by decide +kernel
theorem dL_law_118 : decode cL_law 118 = .ok (.ireturn, 1) := by decide +kernel
theorem dL_law_119 : decode cL_law 119 = .ok (.aload_n 1, 1) := by decide +kernel
theorem dL_law_120 : decode cL_law 120 = .ok (.invokevirtual 26, 3) := by decide +kernel
theorem dL_law_123 : decode cL_law 123 = .ok (.aload_n 2, 1) := by decide +kernel
theorem dL_law_124 : decode cL_law 124 = .ok (.invokevirtual 30, 3) := by decide +kernel
theorem dL_law_127 : decode cL_law 127 = .ok (.if_icmp .eq 148, 3) := by decide +kernel
theorem dL_law_130 : decode cL_law 130 = .ok (.iconst 0, 1) := by decide +kernel
theorem dL_law_131 : decode cL_law 131 = .ok (.ireturn, 1) := by decide +kernel
theorem dL_law_132 : decode cL_law 132 = .ok (.aload_n 1, 1) := by decide +kernel
theorem dL_law_133 : decode cL_law 133 = .ok (.aload_n 0, 1) := by decide +kernel
theorem dL_law_134 : decode cL_law 134 = .ok (.iload_n 3, 1) := by decide +kernel
theorem dL_law_135 : decode cL_law 135 = .ok (.iconst 1, 1) := by decide +kernel
theorem dL_law_136 : decode cL_law 136 = .ok (.iadd, 1) := by decide +kernel
theorem dL_law_137 : decode cL_law 137 = .ok (.iaload, 1) := by decide +kernel
theorem dL_law_138 : decode cL_law 138 = .ok (.invokevirtual 31, 3) := by decide +kernel
theorem dL_law_141 : decode cL_law 141 = .ok (.aload_n 2, 1) := by decide +kernel
theorem dL_law_142 : decode cL_law 142 = .ok (.aload_n 0, 1) := by decide +kernel
theorem dL_law_143 : decode cL_law 143 = .ok (.iload_n 3, 1) := by decide +kernel
theorem dL_law_144 : decode cL_law 144 = .ok (.iconst 1, 1) := by decide +kernel
theorem dL_law_145 : decode cL_law 145 = .ok (.iadd, 1) := by decide +kernel
theorem dL_law_146 : decode cL_law 146 = .ok (.iaload, 1) := by decide +kernel
theorem dL_law_147 : decode cL_law 147 = .ok (.invokevirtual 35, 3) := by decide +kernel
theorem dL_law_150 : decode cL_law 150 = .ok (.if_icmp .eq 125, 3) := by decide +kernel
theorem dL_law_153 : decode cL_law 153 = .ok (.iconst 0, 1) := by decide +kernel
theorem dL_law_154 : decode cL_law 154 = .ok (.ireturn, 1) := by decide +kernel
theorem dL_law_155 : decode cL_law 155 = .ok (.aload_n 1, 1) := by decide +kernel
theorem dL_law_156 : decode cL_law 156 = .ok (.aload_n 0, 1) := by decide +kernel
theorem dL_law_157 : decode cL_law 157 = .ok (.iload_n 3, 1) := by decide +kernel
theorem dL_law_158 : decode cL_law 158 = .ok (.iconst 1, 1) := by decide +kernel
theorem dL_law_159 : decode cL_law 159 = .ok (.iadd, 1) := by decide +kernel
theorem dL_law_160 : decode cL_law 160 = .ok (.iaload, 1) := by decide +kernel
theorem dL_law_161 : decode cL_law 161 = .ok (.invokevirtual 36, 3) := by decide +kernel
theorem dL_law_164 : decode cL_law 164 = .ok (.aload_n 2, 1) := by decide +kernel
theorem dL_law_165 : decode cL_law 165 = .ok (.aload_n 0, 1) := by decide +kernel
theorem dL_law_166 : decode cL_law 166 = .ok (.iload_n 3, 1) := by decide +kernel
theorem dL_law_167 : decode cL_law 167 = .ok (.iconst 1, 1) := by decide +kernel
theorem dL_law_168 : decode cL_law 168 = .ok (.iadd, 1) := by decide +kernel
theorem dL_law_169 : decode cL_law 169 = .ok (.iaload, 1) := by decide +kernel
theorem dL_law_170 : decode cL_law 170 = .ok (.invokevirtual 39, 3) := by decide +kernel
theorem dL_law_173 : decode cL_law 173 = .ok (.if_icmp .eq 102, 3) := by decide +kernel
theorem dL_law_176 : decode cL_law 176 = .ok (.iconst 0, 1) := by decide +kernel
theorem dL_law_177 : decode cL_law 177 = .ok (.ireturn, 1) := by decide +kernel
theorem dL_law_178 : decode cL_law 178 = .ok (.aload_n 1, 1) := by decide +kernel
theorem dL_law_179 : decode cL_law 179 = .ok (.invokevirtual 40, 3) := by decide +kernel
theorem dL_law_182 : decode cL_law 182 = .ok (.aload_n 2, 1) := by decide +kernel
theorem dL_law_183 : decode cL_law 183 = .ok (.invokevirtual 44, 3) := by decide +kernel
theorem dL_law_186 : decode cL_law 186 = .ok (.if_icmp .eq 89, 3) := by decide +kernel
theorem dL_law_189 : decode cL_law 189 = .ok (.iconst 0, 1) := by decide +kernel
theorem dL_law_190 : decode cL_law 190 = .ok (.ireturn, 1) := by decide +kernel
theorem dL_law_191 : decode cL_law 191 = .ok (.aload_n 1, 1) := by decide +kernel
theorem dL_law_192 : decode cL_law 192 = .ok (.invokevirtual 45, 3) := by decide +kernel
theorem dL_law_195 : decode cL_law 195 = .ok (.aload_n 2, 1) := by decide +kernel
theorem dL_law_196 : decode cL_law 196 = .ok (.invokevirtual 48, 3) := by decide +kernel
theorem dL_law_199 : decode cL_law 199 = .ok (.if_icmp .eq 76, 3) := by decide +kernel
theorem dL_law_202 : decode cL_law 202 = .ok (.iconst 0, 1) := by decide +kernel
theorem dL_law_203 : decode cL_law 203 = .ok (.ireturn, 1) := by decide +kernel
theorem dL_law_204 : decode cL_law 204 = .ok (.aload_n 1, 1) := by decide +kernel
theorem dL_law_205 : decode cL_law 205 = .ok (.aload_n 0, 1) := by decide +kernel
theorem dL_law_206 : decode cL_law 206 = .ok (.iload_n 3, 1) := by decide +kernel
theorem dL_law_207 : decode cL_law 207 = .ok (.iconst 1, 1) := by decide +kernel
theorem dL_law_208 : decode cL_law 208 = .ok (.iadd, 1) := by decide +kernel
theorem dL_law_209 : decode cL_law 209 = .ok (.iaload, 1) := by decide +kernel
theorem dL_law_210 : decode cL_law 210 = .ok (.invokevirtual 49, 3) := by decide +kernel
theorem dL_law_213 : decode cL_law 213 = .ok (.aload_n 2, 1) := by decide +kernel
theorem dL_law_214 : decode cL_law 214 = .ok (.aload_n 0, 1) := by decide +kernel
theorem dL_law_215 : decode cL_law 215 = .ok (.iload_n 3, 1) := by decide +kernel
theorem dL_law_216 : decode cL_law 216 = .ok (.iconst 1, 1) := by decide +kernel
theorem dL_law_217 : decode cL_law 217 = .ok (.iadd, 1) := by decide +kernel
theorem dL_law_218 : decode cL_law 218 = .ok (.iaload, 1) := by decide +kernel
theorem dL_law_219 : decode cL_law 219 = .ok (.invokevirtual 52, 3) := by decide +kernel
theorem dL_law_222 : decode cL_law 222 = .ok (.if_icmp .eq 53, 3) := by decide +kernel
theorem dL_law_225 : decode cL_law 225 = .ok (.iconst 0, 1) := by decide +kernel
theorem dL_law_226 : decode cL_law 226 = .ok (.ireturn, 1) := by decide +kernel
theorem dL_law_227 : decode cL_law 227 = .ok (.aload_n 1, 1) := by decide +kernel
theorem dL_law_228 : decode cL_law 228 = .ok (.invokevirtual 53, 3) := by decide +kernel
theorem dL_law_231 : decode cL_law 231 = .ok (.aload_n 2, 1) := by decide +kernel
theorem dL_law_232 : decode cL_law 232 = .ok (.invokevirtual 57, 3) := by decide +kernel
theorem dL_law_235 : decode cL_law 235 = .ok (.lcmp, 1) := by decide +kernel
theorem dL_law_236 : decode cL_law 236 = .ok (.ifCond .eq 39, 3) := by decide +kernel
theorem dL_law_239 : decode cL_law 239 = .ok (.iconst 0, 1) := by decide +kernel
theorem dL_law_240 : decode cL_law 240 = .ok (.ireturn, 1) := by decide +kernel
theorem dL_law_241 : decode cL_law 241 = .ok (.aload_n 1, 1) := by decide +kernel
theorem dL_law_242 : decode cL_law 242 = .ok (.aload_n 0, 1) := by decide +kernel
theorem dL_law_243 : decode cL_law 243 = .ok (.iload_n 3, 1) := by decide +kernel
theorem dL_law_244 : decode cL_law 244 = .ok (.iconst 1, 1) := by decide +kernel
theorem dL_law_245 : decode cL_law 245 = .ok (.iadd, 1) := by decide +kernel
theorem dL_law_246 : decode cL_law 246 = .ok (.iaload, 1) := by decide +kernel
theorem dL_law_247 : decode cL_law 247 = .ok (.invokevirtual 58, 3) := by decide +kernel
theorem dL_law_250 : decode cL_law 250 = .ok (.aload_n 2, 1) := by decide +kernel
theorem dL_law_251 : decode cL_law 251 = .ok (.aload_n 0, 1) := by decide +kernel
theorem dL_law_252 : decode cL_law 252 = .ok (.iload_n 3, 1) := by decide +kernel
theorem dL_law_253 : decode cL_law 253 = .ok (.iconst 1, 1) := by decide +kernel
theorem dL_law_254 : decode cL_law 254 = .ok (.iadd, 1) := by decide +kernel
theorem dL_law_255 : decode cL_law 255 = .ok (.iaload, 1) := by decide +kernel
theorem dL_law_256 : decode cL_law 256 = .ok (.invokevirtual 61, 3) := by decide +kernel
theorem dL_law_259 : decode cL_law 259 = .ok (.if_icmp .eq 16, 3) := by decide +kernel
theorem dL_law_262 : decode cL_law 262 = .ok (.iconst 0, 1) := by decide +kernel
theorem dL_law_263 : decode cL_law 263 = .ok (.ireturn, 1) := by decide +kernel
theorem dL_law_264 : decode cL_law 264 = .ok (.aload_n 1, 1) := by decide +kernel
theorem dL_law_265 : decode cL_law 265 = .ok (.invokevirtual 62, 3) := by decide +kernel
theorem dL_law_268 : decode cL_law 268 = .ok (.aload_n 2, 1) := by decide +kernel
theorem dL_law_269 : decode cL_law 269 = .ok (.invokevirtual 65, 3) := by decide +kernel
theorem dL_law_272 : decode cL_law 272 = .ok (.goto 3, 3) := by decide +kernel
theorem dL_law_275 : decode cL_law 275 = .ok (.iinc 3 2, 3) := by decide +kernel
theorem dL_law_278 : decode cL_law 278 = .ok (.goto (-250), 3) := by decide +kernel
theorem dL_law_281 : decode cL_law 281 = .ok (.iconst 1, 1) := by decide +kernel
theorem dL_law_282 : decode cL_law 282 = .ok (.ireturn, 1) := by decide +kernel
abbrev vwCl : List vw_C := [(RX0, TX0, 4), (RX1, TX1, 5), (RX2, TX2, 5), (RX3, TX3, 10)]

