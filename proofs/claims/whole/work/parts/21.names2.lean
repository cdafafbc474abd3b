theorem dX0_init_0 : decode cX0_init 0 = .ok (.aload_n 0, 1) := by decide +kernel
theorem dX0_init_1 : decode cX0_init 1 = .ok (.invokespecial 3, 3) := by decide +kernel
theorem dX0_init_4 : decode cX0_init 4 = .ok (.aload_n 0, 1) := by decide +kernel
theorem dX0_init_5 : decode cX0_init 5 = .ok (.sipush 664, 3) := by decide +kernel
theorem dX0_init_8 : decode cX0_init 8 = .ok (.newarray .int, 2) := by decide +kernel
theorem dX0_init_10 : decode cX0_init 10 = .ok (.putfield 9, 3) := by decide +kernel
theorem dX0_init_13 : decode cX0_init 13 = .ok (.aload_n 0, 1) := by decide +kernel
theorem dX0_init_14 : decode cX0_init 14 = .ok (.sipush 664, 3) := by decide +kernel
theorem dX0_init_17 : decode cX0_init 17 = .ok (.newarray .int, 2) := by decide +kernel
theorem dX0_init_19 : decode cX0_init 19 = .ok (.putfield 15, 3) := by decide +kernel
theorem dX0_init_22 : decode cX0_init 22 = .ok (.return_, 1) := by decide +kernel
theorem dX0_give_0 : decode cX0_give 0 = .ok (.aload_n 0, 1) := by decide +kernel
theorem dX0_give_1 : decode cX0_give 1 = .ok (.getfield 18, 3) := by decide +kernel
theorem dX0_give_4 : decode cX0_give 4 = .ok (.sipush 600, 3) := by decide +kernel
theorem dX0_give_7 : decode cX0_give 7 = .ok (.if_icmp .ge 15, 3) := by decide +kernel
theorem dX0_give_10 : decode cX0_give 10 = .ok (.aload_n 0, 1) := by decide +kernel
theorem dX0_give_11 : decode cX0_give 11 = .ok (.getfield 22, 3) := by decide +kernel
theorem dX0_give_14 : decode cX0_give 14 = .ok (.aload_n 0, 1) := by decide +kernel
theorem dX0_give_15 : decode cX0_give 15 = .ok (.getfield 9, 3) := by decide +kernel
theorem dX0_give_18 : decode cX0_give 18 = .ok (.arraylength, 1) := by decide +kernel
theorem dX0_give_19 : decode cX0_give 19 = .ok (.if_icmp .lt 4, 3) := by decide +kernel
theorem dX0_give_22 : decode cX0_give 22 = .ok (.return_, 1) := by decide +kernel
theorem dX0_give_23 : decode cX0_give 23 = .ok (.aload_n 0, 1) := by decide +kernel
theorem dX0_give_24 : decode cX0_give 24 = .ok (.getfield 9, 3) := by decide +kernel
theorem dX0_give_27 : decode cX0_give 27 = .ok (.aload_n 0, 1) := by decide +kernel
theorem dX0_give_28 : decode cX0_give 28 = .ok (.getfield 22, 3) := by decide +kernel
theorem dX0_give_31 : decode cX0_give 31 = .ok (.aload_n 0, 1) := by decide +kernel
theorem dX0_give_32 : decode cX0_give 32 = .ok (.getfield 9, 3) := by decide +kernel
theorem dX0_give_35 : decode cX0_give 35 = .ok (.aload_n 0, 1) := by decide +kernel
theorem dX0_give_36 : decode cX0_give 36 = .ok (.getfield 18, 3) := by decide +kernel
theorem dX0_give_39 : decode cX0_give 39 = .ok (.iaload, 1) := by decide +kernel
theorem dX0_give_40 : decode cX0_give 40 = .ok (.iastore, 1) := by decide +kernel
theorem dX0_give_41 : decode cX0_give 41 = .ok (.aload_n 0, 1) := by decide +kernel
theorem dX0_give_42 : decode cX0_give 42 = .ok (.getfield 15, 3) := by decide +kernel
theorem dX0_give_45 : decode cX0_give 45 = .ok (.aload_n 0, 1) := by decide +kernel
theorem dX0_give_46 : decode cX0_give 46 = .ok (.getfield 22, 3) := by decide +kernel
theorem dX0_give_49 : decode cX0_give 49 = .ok (.aload_n 0, 1) := by decide +kernel
theorem dX0_give_50 : decode cX0_give 50 = .ok (.getfield 15, 3) := by decide +kernel
theorem dX0_give_53 : decode cX0_give 53 = .ok (.aload_n 0, 1) := by decide +kernel
theorem dX0_give_54 : decode cX0_give 54 = .ok (.getfield 18, 3) := by decide +kernel
theorem dX0_give_57 : decode cX0_give 57 = .ok (.iaload, 1) := by decide +kernel
theorem dX0_give_58 : decode cX0_give 58 = .ok (.iastore, 1) := by decide +kernel
theorem dX0_give_59 : decode cX0_give 59 = .ok (.aload_n 0, 1) := by decide +kernel
theorem dX0_give_60 : decode cX0_give 60 = .ok (.getfield 9, 3) := by decide +kernel
theorem dX0_give_63 : decode cX0_give 63 = .ok (.aload_n 0, 1) := by decide +kernel
theorem dX0_give_64 : decode cX0_give 64 = .ok (.getfield 18, 3) := by decide +kernel
theorem dX0_give_67 : decode cX0_give 67 = .ok (.iload_n 1, 1) := by decide +kernel
theorem dX0_give_68 : decode cX0_give 68 = .ok (.iastore, 1) := by decide +kernel
theorem dX0_give_69 : decode cX0_give 69 = .ok (.aload_n 0, 1) := by decide +kernel
theorem dX0_give_70 : decode cX0_give 70 = .ok (.getfield 15, 3) := by decide +kernel
theorem dX0_give_73 : decode cX0_give 73 = .ok (.aload_n 0, 1) := by decide +kernel
theorem dX0_give_74 : decode cX0_give 74 = .ok (.getfield 18, 3) := by decide +kernel
theorem dX0_give_77 : decode cX0_give 77 = .ok (.iload_n 2, 1) := by decide +kernel
theorem dX0_give_78 : decode cX0_give 78 = .ok (.iastore, 1) := by decide +kernel
theorem dX0_give_79 : decode cX0_give 79 = .ok (.aload_n 0, 1) := by decide +kernel
theorem dX0_give_80 : decode cX0_give 80 = .ok (.dup, 1) := by decide +kernel
theorem dX0_give_81 : decode cX0_give 81 = .ok (.getfield 18, 3) := by decide +kernel
theorem dX0_give_84 : decode cX0_give 84 = .ok (.iconst 1, 1) := by decide +kernel
theorem dX0_give_85 : decode cX0_give 85 = .ok (.iadd, 1) := by decide +kernel
theorem dX0_give_86 : decode cX0_give 86 = .ok (.putfield 18, 3) := by decide +kernel
theorem dX0_give_89 : decode cX0_give 89 = .ok (.aload_n 0, 1) := by decide +kernel
theorem dX0_give_90 : decode cX0_give 90 = .ok (.dup, 1) := by decide +kernel
theorem dX0_give_91 : decode cX0_give 91 = .ok (.getfield 22, 3) := by decide +kernel
theorem dX0_give_94 : decode cX0_give 94 = .ok (.iconst 1, 1) := by decide +kernel
theorem dX0_give_95 : decode cX0_give 95 = .ok (.iadd, 1) := by decide +kernel
theorem dX0_give_96 : decode cX0_give 96 = .ok (.putfield 22, 3) := by decide +kernel
theorem dX0_give_99 : decode cX0_give 99 = .ok (.return_, 1) := by decide +kernel
theorem dX0_hasRoomForLesson_0 : decode cX0_hasRoomForLesson 0 = .ok (.aload_n 0, 1) := by decide +kernel
theorem dX0_hasRoomForLesson_1 : decode cX0_hasRoomForLesson 1 = .ok (.getfield 22, 3) := by decide +kernel
theorem dX0_hasRoomForLesson_4 : decode cX0_hasRoomForLesson 4 = .ok (.aload_n 0, 1) := by decide +kernel
theorem dX0_hasRoomForLesson_5 : decode cX0_hasRoomForLesson 5 = .ok (.getfield 18, 3) := by decide +kernel
theorem dX0_hasRoomForLesson_8 : decode cX0_hasRoomForLesson 8 = .ok (.isub, 1) := by decide +kernel
theorem dX0_hasRoomForLesson_9 : decode cX0_hasRoomForLesson 9 = .ok (.bipush 64, 2) := by decide +kernel
theorem dX0_hasRoomForLesson_11 : decode cX0_hasRoomForLesson 11 = .ok (.if_icmp .ge 19, 3) := by decide +kernel
theorem dX0_hasRoomForLesson_14 : decode cX0_hasRoomForLesson 14 = .ok (.aload_n 0, 1) := by decide +kernel
theorem dX0_hasRoomForLesson_15 : decode cX0_hasRoomForLesson 15 = .ok (.getfield 22, 3) := by decide +kernel
theorem dX0_hasRoomForLesson_18 : decode cX0_hasRoomForLesson 18 = .ok (.aload_n 0, 1) := by decide +kernel
theorem dX0_hasRoomForLesson_19 : decode cX0_hasRoomForLesson 19 = .ok (.getfield 9, 3) := by decide +kernel
theorem dX0_hasRoomForLesson_22 : decode cX0_hasRoomForLesson 22 = .ok (.arraylength, 1) := by decide +kernel
theorem dX0_hasRoomForLesson_23 : decode cX0_hasRoomForLesson 23 = .ok (.if_icmp .ge 7, 3) := by decide +kernel
theorem dX0_hasRoomForLesson_26 : decode cX0_hasRoomForLesson 26 = .ok (.iconst 1, 1) := by decide +kernel
theorem dX0_hasRoomForLesson_27 : decode cX0_hasRoomForLesson 27 = .ok (.goto 4, 3) := by decide +kernel
theorem dX0_hasRoomForLesson_30 : decode cX0_hasRoomForLesson 30 = .ok (.iconst 0, 1) := by decide +kernel
theorem dX0_hasRoomForLesson_31 : decode cX0_hasRoomForLesson 31 = .ok (.ireturn, 1) := by decide +kernel
set_option maxRecDepth 20000 in
theorem ggX0_keepLesson_X0_hasRoomForLesson : GoodIn wsX0_keepLesson wsX0_hasRoomForLesson := goodIn_r _ [8, 2, 9, 1, 10, 11, 12, 13] (by decide +kernel) (by decide +kernel)
set_option maxRecDepth 20000 in
theorem gX0_keepLesson_X0_hasRoomForLesson : GoodIn wsX0_keepLesson (wsV RX0 25 RX0 yX0_hasRoomForLesson wsX0_hasRoomForLesson) := goodIn_app (goodIn_of _ (by decide +kernel)) ggX0_keepLesson_X0_hasRoomForLesson
theorem dX0_keepLesson_0 : decode cX0_keepLesson 0 = .ok (.aload_n 0, 1) := by decide +kernel
theorem dX0_keepLesson_1 : decode cX0_keepLesson 1 = .ok (.invokevirtual 25, 3) := by decide +kernel
theorem dX0_keepLesson_4 : decode cX0_keepLesson 4 = .ok (.ifCond .eq 33, 3) := by decide +kernel
theorem dX0_keepLesson_7 : decode cX0_keepLesson 7 = .ok (.aload_n 0, 1) := by decide +kernel
theorem dX0_keepLesson_8 : decode cX0_keepLesson 8 = .ok (.getfield 9, 3) := by decide +kernel
theorem dX0_keepLesson_11 : decode cX0_keepLesson 11 = .ok (.aload_n 0, 1) := by decide +kernel
theorem dX0_keepLesson_12 : decode cX0_keepLesson 12 = .ok (.getfield 22, 3) := by decide +kernel
theorem dX0_keepLesson_15 : decode cX0_keepLesson 15 = .ok (.iload_n 1, 1) := by decide +kernel
theorem dX0_keepLesson_16 : decode cX0_keepLesson 16 = .ok (.iastore, 1) := by decide +kernel
theorem dX0_keepLesson_17 : decode cX0_keepLesson 17 = .ok (.aload_n 0, 1) := by decide +kernel
theorem dX0_keepLesson_18 : decode cX0_keepLesson 18 = .ok (.getfield 15, 3) := by decide +kernel
theorem dX0_keepLesson_21 : decode cX0_keepLesson 21 = .ok (.aload_n 0, 1) := by decide +kernel
theorem dX0_keepLesson_22 : decode cX0_keepLesson 22 = .ok (.getfield 22, 3) := by decide +kernel
theorem dX0_keepLesson_25 : decode cX0_keepLesson 25 = .ok (.iload_n 2, 1) := by decide +kernel
theorem dX0_keepLesson_26 : decode cX0_keepLesson 26 = .ok (.iastore, 1) := by decide +kernel
theorem dX0_keepLesson_27 : decode cX0_keepLesson 27 = .ok (.aload_n 0, 1) := by decide +kernel
theorem dX0_keepLesson_28 : decode cX0_keepLesson 28 = .ok (.dup, 1) := by decide +kernel
theorem dX0_keepLesson_29 : decode cX0_keepLesson 29 = .ok (.getfield 22, 3) := by decide +kernel
theorem dX0_keepLesson_32 : decode cX0_keepLesson 32 = .ok (.iconst 1, 1) := by decide +kernel
theorem dX0_keepLesson_33 : decode cX0_keepLesson 33 = .ok (.iadd, 1) := by decide +kernel
theorem dX0_keepLesson_34 : decode cX0_keepLesson 34 = .ok (.putfield 22, 3) := by decide +kernel
theorem dX0_keepLesson_37 : decode cX0_keepLesson 37 = .ok (.return_, 1) := by decide +kernel
theorem dX0_forgetLessonsIfMany_0 : decode cX0_forgetLessonsIfMany 0 = .ok (.aload_n 0, 1) := by decide +kernel
theorem dX0_forgetLessonsIfMany_1 : decode cX0_forgetLessonsIfMany 1 = .ok (.getfield 22, 3) := by decide +kernel
theorem dX0_forgetLessonsIfMany_4 : decode cX0_forgetLessonsIfMany 4 = .ok (.aload_n 0, 1) := by decide +kernel
theorem dX0_forgetLessonsIfMany_5 : decode cX0_forgetLessonsIfMany 5 = .ok (.getfield 18, 3) := by decide +kernel
theorem dX0_forgetLessonsIfMany_8 : decode cX0_forgetLessonsIfMany 8 = .ok (.isub, 1) := by decide +kernel
theorem dX0_forgetLessonsIfMany_9 : decode cX0_forgetLessonsIfMany 9 = .ok (.bipush 32, 2) := by decide +kernel
theorem dX0_forgetLessonsIfMany_11 : decode cX0_forgetLessonsIfMany 11 = .ok (.if_icmp .le 11, 3) := by decide +kernel
theorem dX0_forgetLessonsIfMany_14 : decode cX0_forgetLessonsIfMany 14 = .ok (.aload_n 0, 1) := by decide +kernel
theorem dX0_forgetLessonsIfMany_15 : decode cX0_forgetLessonsIfMany 15 = .ok (.aload_n 0, 1) := by decide +kernel
theorem dX0_forgetLessonsIfMany_16 : decode cX0_forgetLessonsIfMany 16 = .ok (.getfield 18, 3) := by decide +kernel
theorem dX0_forgetLessonsIfMany_19 : decode cX0_forgetLessonsIfMany 19 = .ok (.putfield 22, 3) := by decide +kernel
theorem dX0_forgetLessonsIfMany_22 : decode cX0_forgetLessonsIfMany 22 = .ok (.return_, 1) := by decide +kernel
theorem dX0_saysAlready_0 : decode cX0_saysAlready 0 = .ok (.iconst 0, 1) := by decide +kernel
theorem dX0_saysAlready_1 : decode cX0_saysAlready 1 = .ok (.istore_n 3, 1) := by decide +kernel
theorem dX0_saysAlready_2 : decode cX0_saysAlready 2 = .ok (.iload_n 3, 1) := by decide +kernel
theorem dX0_saysAlready_3 : decode cX0_saysAlready 3 = .ok (.aload_n 0, 1) := by decide +kernel
theorem dX0_saysAlready_4 : decode cX0_saysAlready 4 = .ok (.getfield 22, 3) := by decide +kernel
theorem dX0_saysAlready_7 : decode cX0_saysAlready 7 = .ok (.if_icmp .ge 37, 3) := by decide +kernel
theorem dX0_saysAlready_10 : decode cX0_saysAlready 10 = .ok (.aload_n 0, 1) := by decide +kernel
theorem dX0_saysAlready_11 : decode cX0_saysAlready 11 = .ok (.getfield 9, 3) := by decide +kernel
theorem dX0_saysAlready_14 : decode cX0_saysAlready 14 = .ok (.iload_n 3, 1) := by decide +kernel
theorem dX0_saysAlready_15 : decode cX0_saysAlready 15 = .ok (.iaload, 1) := by decide +kernel
theorem dX0_saysAlready_16 : decode cX0_saysAlready 16 = .ok (.iload_n 1, 1) := by decide +kernel
theorem dX0_saysAlready_17 : decode cX0_saysAlready 17 = .ok (.iconst (-1), 1) := by decide +kernel
theorem dX0_saysAlready_18 : decode cX0_saysAlready 18 = .ok (.ixor, 1) := by decide +kernel
theorem dX0_saysAlready_19 : decode cX0_saysAlready 19 = .ok (.iand, 1) := by decide +kernel
theorem dX0_saysAlready_20 : decode cX0_saysAlready 20 = .ok (.ifCond .ne 18, 3) := by decide +kernel
theorem dX0_saysAlready_23 : decode cX0_saysAlready 23 = .ok (.aload_n 0, 1) := by decide +kernel
theorem dX0_saysAlready_24 : decode cX0_saysAlready 24 = .ok (.getfield 15, 3) := by decide +kernel
theorem dX0_saysAlready_27 : decode cX0_saysAlready 27 = .ok (.iload_n 3, 1) := by decide +kernel
theorem dX0_saysAlready_28 : decode cX0_saysAlready 28 = .ok (.iaload, 1) := by decide +kernel
theorem dX0_saysAlready_29 : decode cX0_saysAlready 29 = .ok (.iload_n 2, 1) := by decide +kernel
theorem dX0_saysAlready_30 : decode cX0_saysAlready 30 = .ok (.iconst (-1), 1) := by decide +kernel
theorem dX0_saysAlready_31 : decode cX0_saysAlready 31 = .ok (.ixor, 1) := by decide +kernel
theorem dX0_saysAlready_32 : decode cX0_saysAlready 32 = .ok (.iand, 1) := by decide +kernel
theorem dX0_saysAlready_33 : decode cX0_saysAlready 33 = .ok (.ifCond .ne 5, 3) := by decide +kernel
theorem dX0_saysAlready_36 : decode cX0_saysAlready 36 = .ok (.iconst 1, 1) := by decide +kernel
theorem dX0_saysAlready_37 : decode cX0_saysAlready 37 = .ok (.ireturn, 1) := by decide +kernel
theorem dX0_saysAlready_38 : decode cX0_saysAlready 38 = .ok (.iinc 3 1, 3) := by decide +kernel
theorem dX0_saysAlready_41 : decode cX0_saysAlready 41 = .ok (.goto (-39), 3) := by decide +kernel
theorem dX0_saysAlready_44 : decode cX0_saysAlready 44 = .ok (.iconst 0, 1) := by decide +kernel
theorem dX0_saysAlready_45 : decode cX0_saysAlready 45 = .ok (.ireturn, 1) := by decide +kernel
set_option maxRecDepth 20000 in
theorem ggX1_init_X2_init : GoodIn wsX1_init wsX2_init := goodIn_r _ [13, 14, 2, 3, 15, 16, 17, 23, 24, 25, 26, 27] (by decide +kernel) (by decide +kernel)
set_option maxRecDepth 20000 in
theorem gX1_init_X2_init : GoodIn wsX1_init (wsX2_init) := ggX1_init_X2_init
theorem dX1_init_0 : decode cX1_init 0 = .ok (.aload_n 0, 1) := by decide +kernel
theorem dX1_init_1 : decode cX1_init 1 = .ok (.invokespecial 3, 3) := by decide +kernel
theorem dX1_init_4 : decode cX1_init 4 = .ok (.aload_n 0, 1) := by decide +kernel
theorem dX1_init_5 : decode cX1_init 5 = .ok (.iload_n 1, 1) := by decide +kernel
theorem dX1_init_6 : decode cX1_init 6 = .ok (.putfield 9, 3) := by decide +kernel
theorem dX1_init_9 : decode cX1_init 9 = .ok (.aload_n 0, 1) := by decide +kernel
theorem dX1_init_10 : decode cX1_init 10 = .ok (.aload_n 2, 1) := by decide +kernel
theorem dX1_init_11 : decode cX1_init 11 = .ok (.putfield 15, 3) := by decide +kernel
theorem dX1_init_14 : decode cX1_init 14 = .ok (.aload_n 0, 1) := by decide +kernel
theorem dX1_init_15 : decode cX1_init 15 = .ok (.new 19, 3) := by decide +kernel
theorem dX1_init_18 : decode cX1_init 18 = .ok (.dup, 1) := by decide +kernel
theorem dX1_init_19 : decode cX1_init 19 = .ok (.invokespecial 21, 3) := by decide +kernel
theorem dX1_init_22 : decode cX1_init 22 = .ok (.putfield 22, 3) := by decide +kernel
theorem dX1_init_25 : decode cX1_init 25 = .ok (.aload_n 0, 1) := by decide +kernel
theorem dX1_init_26 : decode cX1_init 26 = .ok (.new 19, 3) := by decide +kernel
theorem dX1_init_29 : decode cX1_init 29 = .ok (.dup, 1) := by decide +kernel
theorem dX1_init_30 : decode cX1_init 30 = .ok (.invokespecial 21, 3) := by decide +kernel
theorem dX1_init_33 : decode cX1_init 33 = .ok (.putfield 26, 3) := by decide +kernel
theorem dX1_init_36 : decode cX1_init 36 = .ok (.return_, 1) := by decide +kernel
set_option maxRecDepth 20000 in
theorem ggX1_firstModel_X0_forgetLessonsIfMany : GoodIn wsX1_firstModel wsX0_forgetLessonsIfMany := goodIn_r _ [7, 8, 9, 80, 81, 82, 83] (by decide +kernel) (by decide +kernel)
set_option maxRecDepth 20000 in
theorem gX1_firstModel_X0_forgetLessonsIfMany : GoodIn wsX1_firstModel (wsV RX1 29 RX0 yX0_forgetLessonsIfMany wsX0_forgetLessonsIfMany) := goodIn_app (goodIn_of _ (by decide +kernel)) ggX1_firstModel_X0_forgetLessonsIfMany
set_option maxRecDepth 20000 in
theorem ggX1_firstModel_X2_start : GoodIn wsX1_firstModel wsX2_start := goodIn_r _ [14, 15, 16, 17, 18, 19, 20, 13, 21, 22, 23, 84, 85, 86, 87, 88] (by decide +kernel) (by decide +kernel)
set_option maxRecDepth 20000 in
theorem gX1_firstModel_X2_start : GoodIn wsX1_firstModel (wsV RX1 34 RX2 yX2_start wsX2_start) := goodIn_app (goodIn_of _ (by decide +kernel)) ggX1_firstModel_X2_start
set_option maxRecDepth 20000 in
theorem ggX1_firstModel_X1_descend : GoodIn wsX1_firstModel wsX1_descend := goodIn_r _ [28, 29, 2, 1, 30, 31, 32, 13, 33, 15, 16, 17, 18, 19, 20, 21, 22, 23, 34, 35, 36, 27, 37, 38, 39, 40, 41, 42, 43, 44, 45, 46, 6, 47, 8, 9, 48, 49, 50, 51, 52, 53, 10, 11, 12, 14, 54, 55, 56, 57, 58, 59, 60, 61, 62, 63, 24, 25, 26, 64, 65, 66, 67, 68, 69, 70, 71, 72, 73, 74, 75, 76, 77, 78, 79, 84, 85, 86, 87, 88, 80, 81, 82, 83] (by decide +kernel) (by decide +kernel)
set_option maxRecDepth 20000 in
theorem gX1_firstModel_X1_descend : GoodIn wsX1_firstModel (wsV RX1 38 RX1 yX1_descend wsX1_descend) := goodIn_app (goodIn_of _ (by decide +kernel)) ggX1_firstModel_X1_descend
theorem dX1_firstModel_0 : decode cX1_firstModel 0 = .ok (.iload_n 1, 1) := by decide +kernel
theorem dX1_firstModel_1 : decode cX1_firstModel 1 = .ok (.iload_n 2, 1) := by decide +kernel
theorem dX1_firstModel_2 : decode cX1_firstModel 2 = .ok (.iand, 1) := by decide +kernel
theorem dX1_firstModel_3 : decode cX1_firstModel 3 = .ok (.ifCond .eq 5, 3) := by decide +kernel
theorem dX1_firstModel_6 : decode cX1_firstModel 6 = .ok (.iconst (-1), 1) := by decide +kernel
theorem dX1_firstModel_7 : decode cX1_firstModel 7 = .ok (.ireturn, 1) := by decide +kernel
theorem dX1_firstModel_8 : decode cX1_firstModel 8 = .ok (.aload_n 0, 1) := by decide +kernel
theorem dX1_firstModel_9 : decode cX1_firstModel 9 = .ok (.getfield 15, 3) := by decide +kernel
theorem dX1_firstModel_12 : decode cX1_firstModel 12 = .ok (.invokevirtual 29, 3) := by decide +kernel
theorem dX1_firstModel_15 : decode cX1_firstModel 15 = .ok (.aload_n 0, 1) := by decide +kernel
theorem dX1_firstModel_16 : decode cX1_firstModel 16 = .ok (.getfield 22, 3) := by decide +kernel
theorem dX1_firstModel_19 : decode cX1_firstModel 19 = .ok (.iload_n 1, 1) := by decide +kernel
theorem dX1_firstModel_20 : decode cX1_firstModel 20 = .ok (.iload_n 2, 1) := by decide +kernel
theorem dX1_firstModel_21 : decode cX1_firstModel 21 = .ok (.invokevirtual 34, 3) := by decide +kernel
theorem dX1_firstModel_24 : decode cX1_firstModel 24 = .ok (.aload_n 0, 1) := by decide +kernel
theorem dX1_firstModel_25 : decode cX1_firstModel 25 = .ok (.iconst 0, 1) := by decide +kernel
theorem dX1_firstModel_26 : decode cX1_firstModel 26 = .ok (.invokevirtual 38, 3) := by decide +kernel
theorem dX1_firstModel_29 : decode cX1_firstModel 29 = .ok (.ireturn, 1) := by decide +kernel
set_option maxRecDepth 20000 in
theorem ggX1_descend_X2_propagate : GoodIn wsX1_descend wsX2_propagate := goodIn_r _ [8, 9, 10, 11, 12, 13, 14, 7, 15, 16, 17, 75, 76, 77, 78, 79, 80, 81, 82, 83] (by decide +kernel) (by decide +kernel)
set_option maxRecDepth 20000 in
theorem gX1_descend_X2_propagate : GoodIn wsX1_descend (wsV RX1 42 RX2 yX2_propagate wsX2_propagate) := goodIn_app (goodIn_of _ (by decide +kernel)) ggX1_descend_X2_propagate
set_option maxRecDepth 20000 in
theorem ggX1_descend_X1_learn : GoodIn wsX1_descend wsX1_learn := goodIn_r _ [22, 2, 3, 23, 24, 25, 26, 27, 7, 28, 9, 16, 17, 29, 30, 31, 32, 33, 34, 35, 36, 37, 38, 39, 40, 41, 42, 43, 44, 45, 10, 11, 12, 13, 14, 15, 4, 5, 6, 8, 46, 47, 48, 49, 50, 70, 71, 72, 73, 74, 75, 76, 77, 78, 79, 80, 81, 82, 83] (by decide +kernel) (by decide +kernel)
set_option maxRecDepth 20000 in
theorem gX1_descend_X1_learn : GoodIn wsX1_descend (wsV RX1 46 RX1 yX1_learn wsX1_learn) := goodIn_app (goodIn_of _ (by decide +kernel)) ggX1_descend_X1_learn
set_option maxRecDepth 20000 in
theorem ggX1_descend_X2_firstFree : GoodIn wsX1_descend wsX2_firstFree := goodIn_r _ [54, 10, 11, 75, 76, 77, 78, 79] (by decide +kernel) (by decide +kernel)
set_option maxRecDepth 20000 in
theorem gX1_descend_X2_firstFree : GoodIn wsX1_descend (wsV RX1 50 RX2 yX2_firstFree wsX2_firstFree) := goodIn_app (goodIn_of _ (by decide +kernel)) ggX1_descend_X2_firstFree
set_option maxRecDepth 20000 in
theorem ggX1_descend_X2_assign : GoodIn wsX1_descend wsX2_assign := goodIn_r _ [15, 9, 16, 17, 10, 11, 75, 76, 77, 78, 79] (by decide +kernel) (by decide +kernel)
set_option maxRecDepth 20000 in
theorem gX1_descend_X2_assign : GoodIn wsX1_descend (wsV RX1 59 RX2 yX2_assign wsX2_assign) := goodIn_app (goodIn_of _ (by decide +kernel)) ggX1_descend_X2_assign
set_option maxRecDepth 20000 in
theorem ggX1_descend_X1_descend : GoodIn wsX1_descend wsX1_descend := goodIn_r _ [0, 1, 2, 3, 4, 5, 6, 7, 8, 9, 10, 11, 12, 13, 14, 15, 16, 17, 18, 19, 20, 21, 22, 23, 24, 25, 26, 27, 28, 29, 30, 31, 32, 33, 34, 35, 36, 37, 38, 39, 40, 41, 42, 43, 44, 45, 46, 47, 48, 49, 50, 51, 52, 53, 54, 55, 56, 57, 58, 59, 60, 61, 62, 63, 64, 65, 66, 67, 68, 69, 70, 71, 72, 73, 74, 75, 76, 77, 78, 79, 80, 81, 82, 83] (by decide +kernel) (by decide +kernel)
set_option maxRecDepth 20000 in
theorem gX1_descend_X1_descend : GoodIn wsX1_descend (wsV RX1 38 RX1 yX1_descend wsX1_descend) := goodIn_app (goodIn_of _ (by decide +kernel)) ggX1_descend_X1_descend
set_option maxRecDepth 20000 in
theorem ggX1_descend_X2_goBackTo : GoodIn wsX1_descend wsX2_goBackTo := goodIn_r _ [62, 63, 64, 65, 66, 9, 10, 16, 11, 67, 68, 69, 75, 76, 77, 78, 79] (by decide +kernel) (by decide +kernel)
set_option maxRecDepth 20000 in
theorem gX1_descend_X2_goBackTo : GoodIn wsX1_descend (wsV RX1 63 RX2 yX2_goBackTo wsX2_goBackTo) := goodIn_app (goodIn_of _ (by decide +kernel)) ggX1_descend_X2_goBackTo
theorem dX1_descend_0 : decode cX1_descend 0 = .ok (.iconst 0, 1) := by decide +kernel
theorem dX1_descend_1 : decode cX1_descend 1 = .ok (.istore_n 2, 1) := by decide +kernel
theorem dX1_descend_2 : decode cX1_descend 2 = .ok (.iconst 0, 1) := by decide +kernel
theorem dX1_descend_3 : decode cX1_descend 3 = .ok (.istore_n 3, 1) := by decide +kernel
theorem dX1_descend_4 : decode cX1_descend 4 = .ok (.iload_n 3, 1) := by decide +kernel
theorem dX1_descend_5 : decode cX1_descend 5 = .ok (.aload_n 0, 1) := by decide +kernel
theorem dX1_descend_6 : decode cX1_descend 6 = .ok (.getfield 9, 3) := by decide +kernel
theorem dX1_descend_9 : decode cX1_descend 9 = .ok (.if_icmp .gt 138, 3) := by decide +kernel
theorem dX1_descend_12 : decode cX1_descend 12 = .ok (.aload_n 0, 1) := by decide +kernel
theorem dX1_descend_13 : decode cX1_descend 13 = .ok (.getfield 22, 3) := by decide +kernel
theorem dX1_descend_16 : decode cX1_descend 16 = .ok (.aload_n 0, 1) := by decide +kernel
theorem dX1_descend_17 : decode cX1_descend 17 = .ok (.getfield 15, 3) := by decide +kernel
theorem dX1_descend_20 : decode cX1_descend 20 = .ok (.invokevirtual 42, 3) := by decide +kernel
theorem dX1_descend_23 : decode cX1_descend 23 = .ok (.istore 4, 2) := by decide +kernel
theorem dX1_descend_25 : decode cX1_descend 25 = .ok (.iload 4, 2) := by decide +kernel
theorem dX1_descend_27 : decode cX1_descend 27 = .ok (.iconst (-1), 1) := by decide +kernel
theorem dX1_descend_28 : decode cX1_descend 28 = .ok (.if_icmp .eq 11, 3) := by decide +kernel
theorem dX1_descend_31 : decode cX1_descend 31 = .ok (.aload_n 0, 1) := by decide +kernel
theorem dX1_descend_32 : decode cX1_descend 32 = .ok (.iload 4, 2) := by decide +kernel
theorem dX1_descend_34 : decode cX1_descend 34 = .ok (.invokevirtual 46, 3) := by decide +kernel
theorem dX1_descend_37 : decode cX1_descend 37 = .ok (.iconst (-1), 1) := by decide +kernel
theorem dX1_descend_38 : decode cX1_descend 38 = .ok (.ireturn, 1) := by decide +kernel
theorem dX1_descend_39 : decode cX1_descend 39 = .ok (.aload_n 0, 1) := by decide +kernel
theorem dX1_descend_40 : decode cX1_descend 40 = .ok (.getfield 22, 3) := by decide +kernel
theorem dX1_descend_43 : decode cX1_descend 43 = .ok (.aload_n 0, 1) := by decide +kernel
theorem dX1_descend_44 : decode cX1_descend 44 = .ok (.getfield 9, 3) := by decide +kernel
theorem dX1_descend_47 : decode cX1_descend 47 = .ok (.invokevirtual 50, 3) := by decide +kernel
theorem dX1_descend_50 : decode cX1_descend 50 = .ok (.istore 5, 2) := by decide +kernel
theorem dX1_descend_52 : decode cX1_descend 52 = .ok (.iload 5, 2) := by decide +kernel
theorem dX1_descend_54 : decode cX1_descend 54 = .ok (.ifCond .ne 11, 3) := by decide +kernel
theorem dX1_descend_57 : decode cX1_descend 57 = .ok (.aload_n 0, 1) := by decide +kernel
theorem dX1_descend_58 : decode cX1_descend 58 = .ok (.getfield 22, 3) := by decide +kernel
theorem dX1_descend_61 : decode cX1_descend 61 = .ok (.getfield 53, 3) := by decide +kernel
theorem dX1_descend_64 : decode cX1_descend 64 = .ok (.ireturn, 1) := by decide +kernel
theorem dX1_descend_65 : decode cX1_descend 65 = .ok (.iload_n 1, 1) := by decide +kernel
theorem dX1_descend_66 : decode cX1_descend 66 = .ok (.aload_n 0, 1) := by decide +kernel
theorem dX1_descend_67 : decode cX1_descend 67 = .ok (.getfield 9, 3) := by decide +kernel
theorem dX1_descend_70 : decode cX1_descend 70 = .ok (.if_icmp .lt 5, 3) := by decide +kernel
theorem dX1_descend_73 : decode cX1_descend 73 = .ok (.iconst (-1), 1) := by decide +kernel
theorem dX1_descend_74 : decode cX1_descend 74 = .ok (.ireturn, 1) := by decide +kernel
theorem dX1_descend_75 : decode cX1_descend 75 = .ok (.aload_n 0, 1) := by decide +kernel
theorem dX1_descend_76 : decode cX1_descend 76 = .ok (.getfield 22, 3) := by decide +kernel
theorem dX1_descend_79 : decode cX1_descend 79 = .ok (.getfield 56, 3) := by decide +kernel
theorem dX1_descend_82 : decode cX1_descend 82 = .ok (.istore 6, 2) := by decide +kernel
theorem dX1_descend_84 : decode cX1_descend 84 = .ok (.aload_n 0, 1) := by decide +kernel
theorem dX1_descend_85 : decode cX1_descend 85 = .ok (.getfield 22, 3) := by decide +kernel
theorem dX1_descend_88 : decode cX1_descend 88 = .ok (.iload 5, 2) := by decide +kernel
theorem dX1_descend_90 : decode cX1_descend 90 = .ok (.iload 5, 2) := by decide +kernel
theorem dX1_descend_92 : decode cX1_descend 92 = .ok (.iload_n 2, 1) := by decide +kernel
theorem dX1_descend_93 : decode cX1_descend 93 = .ok (.if_icmp .ne 7, 3) := by decide +kernel
theorem dX1_descend_96 : decode cX1_descend 96 = .ok (.iconst 1, 1) := by decide +kernel
theorem dX1_descend_97 : decode cX1_descend 97 = .ok (.goto 4, 3) := by decide +kernel
theorem dX1_descend_100 : decode cX1_descend 100 = .ok (.iconst 0, 1) := by decide +kernel
theorem dX1_descend_101 : decode cX1_descend 101 = .ok (.iconst 0, 1) := by decide +kernel
theorem dX1_descend_102 : decode cX1_descend 102 = .ok (.invokevirtual 59, 3) := by decide +kernel
theorem dX1_descend_105 : decode cX1_descend 105 = .ok (.aload_n 0, 1) := by decide +kernel
theorem dX1_descend_106 : decode cX1_descend 106 = .ok (.iload_n 1, 1) := by decide +kernel
theorem dX1_descend_107 : decode cX1_descend 107 = .ok (.iconst 1, 1) := by decide +kernel
theorem dX1_descend_108 : decode cX1_descend 108 = .ok (.iadd, 1) := by decide +kernel
theorem dX1_descend_109 : decode cX1_descend 109 = .ok (.invokevirtual 38, 3) := by decide +kernel
theorem dX1_descend_112 : decode cX1_descend 112 = .ok (.istore 7, 2) := by decide +kernel
theorem dX1_descend_114 : decode cX1_descend 114 = .ok (.iload 7, 2) := by decide +kernel
theorem dX1_descend_116 : decode cX1_descend 116 = .ok (.iconst (-1), 1) := by decide +kernel
theorem dX1_descend_117 : decode cX1_descend 117 = .ok (.if_icmp .ne 9, 3) := by decide +kernel
theorem dX1_descend_120 : decode cX1_descend 120 = .ok (.iload 5, 2) := by decide +kernel
theorem dX1_descend_122 : decode cX1_descend 122 = .ok (.iload_n 2, 1) := by decide +kernel
theorem dX1_descend_123 : decode cX1_descend 123 = .ok (.if_icmp .ne 6, 3) := by decide +kernel
theorem dX1_descend_126 : decode cX1_descend 126 = .ok (.iload 7, 2) := by decide +kernel
theorem dX1_descend_128 : decode cX1_descend 128 = .ok (.ireturn, 1) := by decide +kernel
theorem dX1_descend_129 : decode cX1_descend 129 = .ok (.aload_n 0, 1) := by decide +kernel
theorem dX1_descend_130 : decode cX1_descend 130 = .ok (.getfield 22, 3) := by decide +kernel
theorem dX1_descend_133 : decode cX1_descend 133 = .ok (.iload 6, 2) := by decide +kernel
theorem dX1_descend_135 : decode cX1_descend 135 = .ok (.invokevirtual 63, 3) := by decide +kernel
theorem dX1_descend_138 : decode cX1_descend 138 = .ok (.iload 5, 2) := by decide +kernel
theorem dX1_descend_140 : decode cX1_descend 140 = .ok (.istore_n 2, 1) := by decide +kernel
theorem dX1_descend_141 : decode cX1_descend 141 = .ok (.iinc 3 1, 3) := by decide +kernel
theorem dX1_descend_144 : decode cX1_descend 144 = .ok (.goto (-140), 3) := by decide +kernel
theorem dX1_descend_147 : decode cX1_descend 147 = .ok (.iconst (-1), 1) := by decide +kernel
theorem dX1_descend_148 : decode cX1_descend 148 = .ok (.ireturn, 1) := by decide +kernel
set_option maxRecDepth 20000 in
theorem ggX1_learn_X2_rootsOf : GoodIn wsX1_learn wsX2_rootsOf := goodIn_r _ [9, 10, 11, 12, 50, 51, 52, 53, 54] (by decide +kernel) (by decide +kernel)
set_option maxRecDepth 20000 in
theorem gX1_learn_X2_rootsOf : GoodIn wsX1_learn (wsV RX1 66 RX2 yX2_rootsOf wsX2_rootsOf) := goodIn_app (goodIn_of _ (by decide +kernel)) ggX1_learn_X2_rootsOf
set_option maxRecDepth 20000 in
theorem ggX1_learn_X0_hasRoomForLesson : GoodIn wsX1_learn wsX0_hasRoomForLesson := goodIn_r _ [17, 18, 19, 20, 55, 56, 57, 58] (by decide +kernel) (by decide +kernel)
set_option maxRecDepth 20000 in
theorem gX1_learn_X0_hasRoomForLesson : GoodIn wsX1_learn (wsV RX1 72 RX0 yX0_hasRoomForLesson wsX0_hasRoomForLesson) := goodIn_app (goodIn_of _ (by decide +kernel)) ggX1_learn_X0_hasRoomForLesson
set_option maxRecDepth 20000 in
theorem ggX1_learn_X0_saysAlready : GoodIn wsX1_learn wsX0_saysAlready := goodIn_r _ [24, 18, 20, 25, 55, 56, 57, 58] (by decide +kernel) (by decide +kernel)
set_option maxRecDepth 20000 in
theorem gX1_learn_X0_saysAlready : GoodIn wsX1_learn (wsV RX1 76 RX0 yX0_saysAlready wsX0_saysAlready) := goodIn_app (goodIn_of _ (by decide +kernel)) ggX1_learn_X0_saysAlready
set_option maxRecDepth 20000 in
theorem ggX1_learn_X2_start : GoodIn wsX1_learn wsX2_start := goodIn_r _ [29, 10, 30, 31, 32, 33, 34, 8, 35, 11, 12, 50, 51, 52, 53, 54] (by decide +kernel) (by decide +kernel)
set_option maxRecDepth 20000 in
theorem gX1_learn_X2_start : GoodIn wsX1_learn (wsV RX1 34 RX2 yX2_start wsX2_start) := goodIn_app (goodIn_of _ (by decide +kernel)) ggX1_learn_X2_start
set_option maxRecDepth 20000 in
theorem ggX1_learn_X2_propagate : GoodIn wsX1_learn wsX2_propagate := goodIn_r _ [39, 10, 30, 31, 32, 33, 34, 8, 35, 11, 12, 50, 51, 52, 53, 54, 55, 56, 57, 58] (by decide +kernel) (by decide +kernel)
set_option maxRecDepth 20000 in
theorem gX1_learn_X2_propagate : GoodIn wsX1_learn (wsV RX1 42 RX2 yX2_propagate wsX2_propagate) := goodIn_app (goodIn_of _ (by decide +kernel)) ggX1_learn_X2_propagate
set_option maxRecDepth 20000 in
theorem ggX1_learn_X0_keepLesson : GoodIn wsX1_learn wsX0_keepLesson := goodIn_r _ [43, 20, 18, 25, 44, 14, 15, 16, 17, 19, 55, 56, 57, 58] (by decide +kernel) (by decide +kernel)
set_option maxRecDepth 20000 in
theorem gX1_learn_X0_keepLesson : GoodIn wsX1_learn (wsV RX1 83 RX0 yX0_keepLesson wsX0_keepLesson) := goodIn_app (goodIn_of _ (by decide +kernel)) ggX1_learn_X0_keepLesson
theorem dX1_learn_0 : decode cX1_learn 0 = .ok (.aload_n 0, 1) := by decide +kernel
theorem dX1_learn_1 : decode cX1_learn 1 = .ok (.getfield 22, 3) := by decide +kernel
theorem dX1_learn_4 : decode cX1_learn 4 = .ok (.iload_n 1, 1) := by decide +kernel
theorem dX1_learn_5 : decode cX1_learn 5 = .ok (.invokevirtual 66, 3) := by decide +kernel
theorem dX1_learn_8 : decode cX1_learn 8 = .ok (.istore_n 2, 1) := by decide +kernel
theorem dX1_learn_9 : decode cX1_learn 9 = .ok (.iload_n 2, 1) := by decide +kernel
theorem dX1_learn_10 : decode cX1_learn 10 = .ok (.aload_n 0, 1) := by decide +kernel
theorem dX1_learn_11 : decode cX1_learn 11 = .ok (.getfield 22, 3) := by decide +kernel
theorem dX1_learn_14 : decode cX1_learn 14 = .ok (.getfield 69, 3) := by decide +kernel
theorem dX1_learn_17 : decode cX1_learn 17 = .ok (.iand, 1) := by decide +kernel
theorem dX1_learn_18 : decode cX1_learn 18 = .ok (.istore_n 3, 1) := by decide +kernel
theorem dX1_learn_19 : decode cX1_learn 19 = .ok (.iload_n 2, 1) := by decide +kernel
theorem dX1_learn_20 : decode cX1_learn 20 = .ok (.aload_n 0, 1) := by decide +kernel
theorem dX1_learn_21 : decode cX1_learn 21 = .ok (.getfield 22, 3) := by decide +kernel
theorem dX1_learn_24 : decode cX1_learn 24 = .ok (.getfield 53, 3) := by decide +kernel
theorem dX1_learn_27 : decode cX1_learn 27 = .ok (.iand, 1) := by decide +kernel
theorem dX1_learn_28 : decode cX1_learn 28 = .ok (.istore 4, 2) := by decide +kernel
theorem dX1_learn_30 : decode cX1_learn 30 = .ok (.aload_n 0, 1) := by decide +kernel
theorem dX1_learn_31 : decode cX1_learn 31 = .ok (.getfield 15, 3) := by decide +kernel
theorem dX1_learn_34 : decode cX1_learn 34 = .ok (.invokevirtual 72, 3) := by decide +kernel
theorem dX1_learn_37 : decode cX1_learn 37 = .ok (.ifCond .eq 16, 3) := by decide +kernel
theorem dX1_learn_40 : decode cX1_learn 40 = .ok (.aload_n 0, 1) := by decide +kernel
theorem dX1_learn_41 : decode cX1_learn 41 = .ok (.getfield 15, 3) := by decide +kernel
theorem dX1_learn_44 : decode cX1_learn 44 = .ok (.iload_n 3, 1) := by decide +kernel
theorem dX1_learn_45 : decode cX1_learn 45 = .ok (.iload 4, 2) := by decide +kernel
theorem dX1_learn_47 : decode cX1_learn 47 = .ok (.invokevirtual 76, 3) := by decide +kernel
theorem dX1_learn_50 : decode cX1_learn 50 = .ok (.ifCond .eq 4, 3) := by decide +kernel
theorem dX1_learn_53 : decode cX1_learn 53 = .ok (.return_, 1) := by decide +kernel
theorem dX1_learn_54 : decode cX1_learn 54 = .ok (.aload_n 0, 1) := by decide +kernel
theorem dX1_learn_55 : decode cX1_learn 55 = .ok (.getfield 26, 3) := by decide +kernel
theorem dX1_learn_58 : decode cX1_learn 58 = .ok (.iload 4, 2) := by decide +kernel
theorem dX1_learn_60 : decode cX1_learn 60 = .ok (.iload_n 3, 1) := by decide +kernel
theorem dX1_learn_61 : decode cX1_learn 61 = .ok (.invokevirtual 34, 3) := by decide +kernel
theorem dX1_learn_64 : decode cX1_learn 64 = .ok (.aload_n 0, 1) := by decide +kernel
theorem dX1_learn_65 : decode cX1_learn 65 = .ok (.getfield 26, 3) := by decide +kernel
theorem dX1_learn_68 : decode cX1_learn 68 = .ok (.aload_n 0, 1) := by decide +kernel
theorem dX1_learn_69 : decode cX1_learn 69 = .ok (.getfield 15, 3) := by decide +kernel
theorem dX1_learn_72 : decode cX1_learn 72 = .ok (.invokevirtual 42, 3) := by decide +kernel
theorem dX1_learn_75 : decode cX1_learn 75 = .ok (.iconst (-1), 1) := by decide +kernel
theorem dX1_learn_76 : decode cX1_learn 76 = .ok (.if_icmp .ne 16, 3) := by decide +kernel
theorem dX1_learn_79 : decode cX1_learn 79 = .ok (.aload_n 0, 1) := by decide +kernel
theorem dX1_learn_80 : decode cX1_learn 80 = .ok (.dup, 1) := by decide +kernel
theorem dX1_learn_81 : decode cX1_learn 81 = .ok (.getfield 80, 3) := by decide +kernel
theorem dX1_learn_84 : decode cX1_learn 84 = .ok (.iconst 1, 1) := by decide +kernel
theorem dX1_learn_85 : decode cX1_learn 85 = .ok (.iadd, 1) := by decide +kernel
theorem dX1_learn_86 : decode cX1_learn 86 = .ok (.putfield 80, 3) := by decide +kernel
theorem dX1_learn_89 : decode cX1_learn 89 = .ok (.goto 13, 3) := by decide +kernel
theorem dX1_learn_92 : decode cX1_learn 92 = .ok (.aload_n 0, 1) := by decide +kernel
theorem dX1_learn_93 : decode cX1_learn 93 = .ok (.getfield 15, 3) := by decide +kernel
theorem dX1_learn_96 : decode cX1_learn 96 = .ok (.iload_n 3, 1) := by decide +kernel
theorem dX1_learn_97 : decode cX1_learn 97 = .ok (.iload 4, 2) := by decide +kernel
theorem dX1_learn_99 : decode cX1_learn 99 = .ok (.invokevirtual 83, 3) := by decide +kernel
theorem dX1_learn_102 : decode cX1_learn 102 = .ok (.return_, 1) := by decide +kernel
theorem dX2_init_0 : decode cX2_init 0 = .ok (.aload_n 0, 1) := by decide +kernel
theorem dX2_init_1 : decode cX2_init 1 = .ok (.invokespecial 3, 3) := by decide +kernel
theorem dX2_init_4 : decode cX2_init 4 = .ok (.aload_n 0, 1) := by decide +kernel
theorem dX2_init_5 : decode cX2_init 5 = .ok (.bipush 16, 2) := by decide +kernel
theorem dX2_init_7 : decode cX2_init 7 = .ok (.newarray .int, 2) := by decide +kernel
theorem dX2_init_9 : decode cX2_init 9 = .ok (.putfield 9, 3) := by decide +kernel
theorem dX2_init_12 : decode cX2_init 12 = .ok (.aload_n 0, 1) := by decide +kernel
theorem dX2_init_13 : decode cX2_init 13 = .ok (.bipush 16, 2) := by decide +kernel
theorem dX2_init_15 : decode cX2_init 15 = .ok (.newarray .int, 2) := by decide +kernel
theorem dX2_init_17 : decode cX2_init 17 = .ok (.putfield 15, 3) := by decide +kernel
theorem dX2_init_20 : decode cX2_init 20 = .ok (.return_, 1) := by decide +kernel
set_option maxRecDepth 20000 in
theorem ggX2_start_X2_assign : GoodIn wsX2_start wsX2_assign := goodIn_r _ [8, 1, 9, 10, 2, 3, 11, 12, 13, 14, 15] (by decide +kernel) (by decide +kernel)
set_option maxRecDepth 20000 in
theorem gX2_start_X2_assign : GoodIn wsX2_start (wsV RX2 28 RX2 yX2_assign wsX2_assign) := goodIn_app (goodIn_of _ (by decide +kernel)) ggX2_start_X2_assign
theorem dX2_start_0 : decode cX2_start 0 = .ok (.aload_n 0, 1) := by decide +kernel
theorem dX2_start_1 : decode cX2_start 1 = .ok (.iconst 0, 1) := by decide +kernel
theorem dX2_start_2 : decode cX2_start 2 = .ok (.putfield 18, 3) := by decide +kernel
theorem dX2_start_5 : decode cX2_start 5 = .ok (.aload_n 0, 1) := by decide +kernel
theorem dX2_start_6 : decode cX2_start 6 = .ok (.iconst 0, 1) := by decide +kernel
theorem dX2_start_7 : decode cX2_start 7 = .ok (.putfield 22, 3) := by decide +kernel
theorem dX2_start_10 : decode cX2_start 10 = .ok (.aload_n 0, 1) := by decide +kernel
theorem dX2_start_11 : decode cX2_start 11 = .ok (.iconst 0, 1) := by decide +kernel
theorem dX2_start_12 : decode cX2_start 12 = .ok (.putfield 25, 3) := by decide +kernel
theorem dX2_start_15 : decode cX2_start 15 = .ok (.iconst 0, 1) := by decide +kernel
theorem dX2_start_16 : decode cX2_start 16 = .ok (.istore_n 3, 1) := by decide +kernel
theorem dX2_start_17 : decode cX2_start 17 = .ok (.iload_n 3, 1) := by decide +kernel
theorem dX2_start_18 : decode cX2_start 18 = .ok (.bipush 16, 2) := by decide +kernel
theorem dX2_start_20 : decode cX2_start 20 = .ok (.if_icmp .ge 42, 3) := by decide +kernel
theorem dX2_start_23 : decode cX2_start 23 = .ok (.iconst 1, 1) := by decide +kernel
theorem dX2_start_24 : decode cX2_start 24 = .ok (.iload_n 3, 1) := by decide +kernel
theorem dX2_start_25 : decode cX2_start 25 = .ok (.ishl, 1) := by decide +kernel
theorem dX2_start_26 : decode cX2_start 26 = .ok (.istore 4, 2) := by decide +kernel
theorem dX2_start_28 : decode cX2_start 28 = .ok (.iload_n 1, 1) := by decide +kernel
theorem dX2_start_29 : decode cX2_start 29 = .ok (.iload_n 2, 1) := by decide +kernel
theorem dX2_start_30 : decode cX2_start 30 = .ok (.ior, 1) := by decide +kernel
theorem dX2_start_31 : decode cX2_start 31 = .ok (.iload 4, 2) := by decide +kernel
theorem dX2_start_33 : decode cX2_start 33 = .ok (.iand, 1) := by decide +kernel
theorem dX2_start_34 : decode cX2_start 34 = .ok (.ifCond .eq 22, 3) := by decide +kernel
theorem dX2_start_37 : decode cX2_start 37 = .ok (.aload_n 0, 1) := by decide +kernel
theorem dX2_start_38 : decode cX2_start 38 = .ok (.iload 4, 2) := by decide +kernel
theorem dX2_start_40 : decode cX2_start 40 = .ok (.iload_n 1, 1) := by decide +kernel
theorem dX2_start_41 : decode cX2_start 41 = .ok (.iload 4, 2) := by decide +kernel
theorem dX2_start_43 : decode cX2_start 43 = .ok (.iand, 1) := by decide +kernel
theorem dX2_start_44 : decode cX2_start 44 = .ok (.ifCond .eq 7, 3) := by decide +kernel
