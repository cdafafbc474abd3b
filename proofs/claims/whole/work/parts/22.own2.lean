theorem dX3_count_0 : decode cX3_count 0 = .ok (.iload_n 1, 1) := by decide +kernel
theorem dX3_count_1 : decode cX3_count 1 = .ok (.tableswitch 63 0 4 #[35, 40, 45, 50, 55], 35) := by decide +kernel
theorem dX3_count_36 : decode cX3_count 36 = .ok (.aload_n 0, 1) := by decide +kernel
theorem dX3_count_37 : decode cX3_count 37 = .ok (.getfield 59, 3) := by decide +kernel
theorem dX3_count_40 : decode cX3_count 40 = .ok (.ireturn, 1) := by decide +kernel
theorem dX3_count_41 : decode cX3_count 41 = .ok (.aload_n 0, 1) := by decide +kernel
theorem dX3_count_42 : decode cX3_count 42 = .ok (.getfield 62, 3) := by decide +kernel
theorem dX3_count_45 : decode cX3_count 45 = .ok (.ireturn, 1) := by decide +kernel
theorem dX3_count_46 : decode cX3_count 46 = .ok (.aload_n 0, 1) := by decide +kernel
theorem dX3_count_47 : decode cX3_count 47 = .ok (.getfield 71, 3) := by decide +kernel
theorem dX3_count_50 : decode cX3_count 50 = .ok (.ireturn, 1) := by decide +kernel
theorem dX3_count_51 : decode cX3_count 51 = .ok (.aload_n 0, 1) := by decide +kernel
theorem dX3_count_52 : decode cX3_count 52 = .ok (.getfield 46, 3) := by decide +kernel
theorem dX3_count_55 : decode cX3_count 55 = .ok (.ireturn, 1) := by decide +kernel
theorem dX3_count_56 : decode cX3_count 56 = .ok (.aload_n 0, 1) := by decide +kernel
theorem dX3_count_57 : decode cX3_count 57 = .ok (.getfield 34, 3) := by decide +kernel
theorem dX3_count_60 : decode cX3_count 60 = .ok (.getfield 80, 3) := by decide +kernel
theorem dX3_count_63 : decode cX3_count 63 = .ok (.ireturn, 1) := by decide +kernel
theorem dX3_count_64 : decode cX3_count 64 = .ok (.iconst (-1), 1) := by decide +kernel
theorem dX3_count_65 : decode cX3_count 65 = .ok (.ireturn, 1) := by decide +kernel
theorem dX3_wipe_0 : decode cX3_wipe 0 = .ok (.aload_n 0, 1) := by decide +kernel
theorem dX3_wipe_1 : decode cX3_wipe 1 = .ok (.getfield 25, 3) := by decide +kernel
theorem dX3_wipe_4 : decode cX3_wipe 4 = .ok (.invokevirtual 83, 3) := by decide +kernel
theorem dX3_wipe_7 : decode cX3_wipe 7 = .ok (.aload_n 0, 1) := by decide +kernel
theorem dX3_wipe_8 : decode cX3_wipe 8 = .ok (.iconst 0, 1) := by decide +kernel
theorem dX3_wipe_9 : decode cX3_wipe 9 = .ok (.putfield 59, 3) := by decide +kernel
theorem dX3_wipe_12 : decode cX3_wipe 12 = .ok (.aload_n 0, 1) := by decide +kernel
theorem dX3_wipe_13 : decode cX3_wipe 13 = .ok (.iconst 0, 1) := by decide +kernel
theorem dX3_wipe_14 : decode cX3_wipe 14 = .ok (.putfield 62, 3) := by decide +kernel
theorem dX3_wipe_17 : decode cX3_wipe 17 = .ok (.aload_n 0, 1) := by decide +kernel
theorem dX3_wipe_18 : decode cX3_wipe 18 = .ok (.iconst 0, 1) := by decide +kernel
theorem dX3_wipe_19 : decode cX3_wipe 19 = .ok (.putfield 71, 3) := by decide +kernel
theorem dX3_wipe_22 : decode cX3_wipe 22 = .ok (.aload_n 0, 1) := by decide +kernel
theorem dX3_wipe_23 : decode cX3_wipe 23 = .ok (.invokevirtual 68, 3) := by decide +kernel
theorem dX3_wipe_26 : decode cX3_wipe 26 = .ok (.return_, 1) := by decide +kernel
theorem dX4_init_0 : decode cX4_init 0 = .ok (.aload_n 0, 1) := by decide +kernel
theorem dX4_init_1 : decode cX4_init 1 = .ok (.invokespecial 1, 3) := by decide +kernel
theorem dX4_init_4 : decode cX4_init 4 = .ok (.aload_n 0, 1) := by decide +kernel
theorem dX4_init_5 : decode cX4_init 5 = .ok (.sipush 1024, 3) := by decide +kernel
theorem dX4_init_8 : decode cX4_init 8 = .ok (.newarray .long, 2) := by decide +kernel
theorem dX4_init_10 : decode cX4_init 10 = .ok (.putfield 7, 3) := by decide +kernel
theorem dX4_init_13 : decode cX4_init 13 = .ok (.aload_n 0, 1) := by decide +kernel
theorem dX4_init_14 : decode cX4_init 14 = .ok (.sipush 1024, 3) := by decide +kernel
theorem dX4_init_17 : decode cX4_init 17 = .ok (.newarray .long, 2) := by decide +kernel
theorem dX4_init_19 : decode cX4_init 19 = .ok (.putfield 13, 3) := by decide +kernel
theorem dX4_init_22 : decode cX4_init 22 = .ok (.aload_n 0, 1) := by decide +kernel
theorem dX4_init_23 : decode cX4_init 23 = .ok (.sipush 1024, 3) := by decide +kernel
theorem dX4_init_26 : decode cX4_init 26 = .ok (.newarray .long, 2) := by decide +kernel
theorem dX4_init_28 : decode cX4_init 28 = .ok (.putfield 16, 3) := by decide +kernel
theorem dX4_init_31 : decode cX4_init 31 = .ok (.aload_n 0, 1) := by decide +kernel
theorem dX4_init_32 : decode cX4_init 32 = .ok (.bipush 20, 2) := by decide +kernel
theorem dX4_init_34 : decode cX4_init 34 = .ok (.newarray .int, 2) := by decide +kernel
theorem dX4_init_36 : decode cX4_init 36 = .ok (.putfield 19, 3) := by decide +kernel
theorem dX4_init_39 : decode cX4_init 39 = .ok (.aload_n 0, 1) := by decide +kernel
theorem dX4_init_40 : decode cX4_init 40 = .ok (.bipush 40, 2) := by decide +kernel
theorem dX4_init_42 : decode cX4_init 42 = .ok (.newarray .int, 2) := by decide +kernel
theorem dX4_init_44 : decode cX4_init 44 = .ok (.putfield 23, 3) := by decide +kernel
theorem dX4_init_47 : decode cX4_init 47 = .ok (.aload_n 0, 1) := by decide +kernel
theorem dX4_init_48 : decode cX4_init 48 = .ok (.iload_n 1, 1) := by decide +kernel
theorem dX4_init_49 : decode cX4_init 49 = .ok (.iconst 1, 1) := by decide +kernel
theorem dX4_init_50 : decode cX4_init 50 = .ok (.if_icmp .ge 7, 3) := by decide +kernel
theorem dX4_init_53 : decode cX4_init 53 = .ok (.iconst 1, 1) := by decide +kernel
theorem dX4_init_54 : decode cX4_init 54 = .ok (.goto 15, 3) := by decide +kernel
theorem dX4_init_57 : decode cX4_init 57 = .ok (.iload_n 1, 1) := by decide +kernel
theorem dX4_init_58 : decode cX4_init 58 = .ok (.bipush 16, 2) := by decide +kernel
theorem dX4_init_60 : decode cX4_init 60 = .ok (.if_icmp .le 8, 3) := by decide +kernel
theorem dX4_init_63 : decode cX4_init 63 = .ok (.bipush 16, 2) := by decide +kernel
theorem dX4_init_65 : decode cX4_init 65 = .ok (.goto 4, 3) := by decide +kernel
theorem dX4_init_68 : decode cX4_init 68 = .ok (.iload_n 1, 1) := by decide +kernel
theorem dX4_init_69 : decode cX4_init 69 = .ok (.putfield 26, 3) := by decide +kernel
theorem dX4_init_72 : decode cX4_init 72 = .ok (.aload_n 0, 1) := by decide +kernel
theorem dX4_init_73 : decode cX4_init 73 = .ok (.aload_n 0, 1) := by decide +kernel
theorem dX4_init_74 : decode cX4_init 74 = .ok (.getfield 26, 3) := by decide +kernel
theorem dX4_init_77 : decode cX4_init 77 = .ok (.bipush 6, 2) := by decide +kernel
theorem dX4_init_79 : decode cX4_init 79 = .ok (.if_icmp .ge 7, 3) := by decide +kernel
theorem dX4_init_82 : decode cX4_init 82 = .ok (.iconst 1, 1) := by decide +kernel
theorem dX4_init_83 : decode cX4_init 83 = .ok (.goto 12, 3) := by decide +kernel
theorem dX4_init_86 : decode cX4_init 86 = .ok (.iconst 1, 1) := by decide +kernel
theorem dX4_init_87 : decode cX4_init 87 = .ok (.aload_n 0, 1) := by decide +kernel
theorem dX4_init_88 : decode cX4_init 88 = .ok (.getfield 26, 3) := by decide +kernel
theorem dX4_init_91 : decode cX4_init 91 = .ok (.bipush 6, 2) := by decide +kernel
theorem dX4_init_93 : decode cX4_init 93 = .ok (.isub, 1) := by decide +kernel
theorem dX4_init_94 : decode cX4_init 94 = .ok (.ishl, 1) := by decide +kernel
theorem dX4_init_95 : decode cX4_init 95 = .ok (.putfield 30, 3) := by decide +kernel
theorem dX4_init_98 : decode cX4_init 98 = .ok (.aload_n 0, 1) := by decide +kernel
theorem dX4_init_99 : decode cX4_init 99 = .ok (.invokevirtual 33, 3) := by decide +kernel
theorem dX4_init_102 : decode cX4_init 102 = .ok (.return_, 1) := by decide +kernel
theorem dX4_clear_0 : decode cX4_clear 0 = .ok (.iconst 0, 1) := by decide +kernel
theorem dX4_clear_1 : decode cX4_clear 1 = .ok (.istore_n 1, 1) := by decide +kernel
theorem dX4_clear_2 : decode cX4_clear 2 = .ok (.iload_n 1, 1) := by decide +kernel
theorem dX4_clear_3 : decode cX4_clear 3 = .ok (.aload_n 0, 1) := by decide +kernel
theorem dX4_clear_4 : decode cX4_clear 4 = .ok (.getfield 30, 3) := by decide +kernel
theorem dX4_clear_7 : decode cX4_clear 7 = .ok (.if_icmp .ge 40, 3) := by decide +kernel
theorem dX4_clear_10 : decode cX4_clear 10 = .ok (.aload_n 0, 1) := by decide +kernel
theorem dX4_clear_11 : decode cX4_clear 11 = .ok (.getfield 7, 3) := by decide +kernel
theorem dX4_clear_14 : decode cX4_clear 14 = .ok (.iload_n 1, 1) := by decide +kernel
theorem dX4_clear_15 : decode cX4_clear 15 = .ok (.aload_n 0, 1) := by decide +kernel
theorem dX4_clear_16 : decode cX4_clear 16 = .ok (.getfield 26, 3) := by decide +kernel
theorem dX4_clear_19 : decode cX4_clear 19 = .ok (.bipush 6, 2) := by decide +kernel
theorem dX4_clear_21 : decode cX4_clear 21 = .ok (.if_icmp .ge 16, 3) := by decide +kernel
theorem dX4_clear_24 : decode cX4_clear 24 = .ok (.lconst 1, 1) := by decide +kernel
theorem dX4_clear_25 : decode cX4_clear 25 = .ok (.iconst 1, 1) := by decide +kernel
theorem dX4_clear_26 : decode cX4_clear 26 = .ok (.aload_n 0, 1) := by decide +kernel
theorem dX4_clear_27 : decode cX4_clear 27 = .ok (.getfield 26, 3) := by decide +kernel
theorem dX4_clear_30 : decode cX4_clear 30 = .ok (.ishl, 1) := by decide +kernel
theorem dX4_clear_31 : decode cX4_clear 31 = .ok (.lshl, 1) := by decide +kernel
theorem dX4_clear_32 : decode cX4_clear 32 = .ok (.lconst 1, 1) := by decide +kernel
theorem dX4_clear_33 : decode cX4_clear 33 = .ok (.lsub, 1) := by decide +kernel
theorem dX4_clear_34 : decode cX4_clear 34 = .ok (.goto 6, 3) := by decide +kernel
theorem dX4_clear_37 : decode cX4_clear 37 = .ok (.ldc2_w 39, 3) := by decide +kernel
theorem dX4_clear_40 : decode cX4_clear 40 = .ok (.lastore, 1) := by decide +kernel
theorem dX4_clear_41 : decode cX4_clear 41 = .ok (.iinc 1 1, 3) := by decide +kernel
theorem dX4_clear_44 : decode cX4_clear 44 = .ok (.goto (-42), 3) := by decide +kernel
theorem dX4_clear_47 : decode cX4_clear 47 = .ok (.aload_n 0, 1) := by decide +kernel
theorem dX4_clear_48 : decode cX4_clear 48 = .ok (.iconst 0, 1) := by decide +kernel
theorem dX4_clear_49 : decode cX4_clear 49 = .ok (.putfield 41, 3) := by decide +kernel
theorem dX4_clear_52 : decode cX4_clear 52 = .ok (.aload_n 0, 1) := by decide +kernel
theorem dX4_clear_53 : decode cX4_clear 53 = .ok (.iconst 0, 1) := by decide +kernel
theorem dX4_clear_54 : decode cX4_clear 54 = .ok (.putfield 44, 3) := by decide +kernel
theorem dX4_clear_57 : decode cX4_clear 57 = .ok (.aload_n 0, 1) := by decide +kernel
theorem dX4_clear_58 : decode cX4_clear 58 = .ok (.iconst 0, 1) := by decide +kernel
theorem dX4_clear_59 : decode cX4_clear 59 = .ok (.putfield 47, 3) := by decide +kernel
theorem dX4_clear_62 : decode cX4_clear 62 = .ok (.aload_n 0, 1) := by decide +kernel
theorem dX4_clear_63 : decode cX4_clear 63 = .ok (.iconst 0, 1) := by decide +kernel
theorem dX4_clear_64 : decode cX4_clear 64 = .ok (.putfield 50, 3) := by decide +kernel
theorem dX4_clear_67 : decode cX4_clear 67 = .ok (.return_, 1) := by decide +kernel
theorem dX4_isLiteral_0 : decode cX4_isLiteral 0 = .ok (.iload_n 1, 1) := by decide +kernel
theorem dX4_isLiteral_1 : decode cX4_isLiteral 1 = .ok (.ifCond .eq 24, 3) := by decide +kernel
theorem dX4_isLiteral_4 : decode cX4_isLiteral 4 = .ok (.iload_n 1, 1) := by decide +kernel
theorem dX4_isLiteral_5 : decode cX4_isLiteral 5 = .ok (.aload_n 0, 1) := by decide +kernel
theorem dX4_isLiteral_6 : decode cX4_isLiteral 6 = .ok (.getfield 26, 3) := by decide +kernel
theorem dX4_isLiteral_9 : decode cX4_isLiteral 9 = .ok (.ineg, 1) := by decide +kernel
theorem dX4_isLiteral_10 : decode cX4_isLiteral 10 = .ok (.if_icmp .lt 15, 3) := by decide +kernel
theorem dX4_isLiteral_13 : decode cX4_isLiteral 13 = .ok (.iload_n 1, 1) := by decide +kernel
theorem dX4_isLiteral_14 : decode cX4_isLiteral 14 = .ok (.aload_n 0, 1) := by decide +kernel
theorem dX4_isLiteral_15 : decode cX4_isLiteral 15 = .ok (.getfield 26, 3) := by decide +kernel
theorem dX4_isLiteral_18 : decode cX4_isLiteral 18 = .ok (.if_icmp .gt 7, 3) := by decide +kernel
theorem dX4_isLiteral_21 : decode cX4_isLiteral 21 = .ok (.iconst 1, 1) := by decide +kernel
theorem dX4_isLiteral_22 : decode cX4_isLiteral 22 = .ok (.goto 4, 3) := by decide +kernel
theorem dX4_isLiteral_25 : decode cX4_isLiteral 25 = .ok (.iconst 0, 1) := by decide +kernel
theorem dX4_isLiteral_26 : decode cX4_isLiteral 26 = .ok (.ireturn, 1) := by decide +kernel
theorem dX4_row_0 : decode cX4_row 0 = .ok (.aload_n 0, 1) := by decide +kernel
theorem dX4_row_1 : decode cX4_row 1 = .ok (.getfield 26, 3) := by decide +kernel
theorem dX4_row_4 : decode cX4_row 4 = .ok (.iload_n 1, 1) := by decide +kernel
theorem dX4_row_5 : decode cX4_row 5 = .ok (.ifCond .ge 8, 3) := by decide +kernel
theorem dX4_row_8 : decode cX4_row 8 = .ok (.iload_n 1, 1) := by decide +kernel
theorem dX4_row_9 : decode cX4_row 9 = .ok (.ineg, 1) := by decide +kernel
theorem dX4_row_10 : decode cX4_row 10 = .ok (.goto 4, 3) := by decide +kernel
theorem dX4_row_13 : decode cX4_row 13 = .ok (.iload_n 1, 1) := by decide +kernel
theorem dX4_row_14 : decode cX4_row 14 = .ok (.isub, 1) := by decide +kernel
theorem dX4_row_15 : decode cX4_row 15 = .ok (.istore_n 3, 1) := by decide +kernel
theorem dX4_row_16 : decode cX4_row 16 = .ok (.iload_n 3, 1) := by decide +kernel
theorem dX4_row_17 : decode cX4_row 17 = .ok (.tableswitch 87 0 5 #[39, 47, 55, 63, 71, 79], 39) := by decide +kernel
theorem dX4_row_56 : decode cX4_row 56 = .ok (.ldc2_w 53, 3) := by decide +kernel
theorem dX4_row_59 : decode cX4_row 59 = .ok (.lstore 4, 2) := by decide +kernel
theorem dX4_row_61 : decode cX4_row 61 = .ok (.goto 64, 3) := by decide +kernel
theorem dX4_row_64 : decode cX4_row 64 = .ok (.ldc2_w 55, 3) := by decide +kernel
theorem dX4_row_67 : decode cX4_row 67 = .ok (.lstore 4, 2) := by decide +kernel
theorem dX4_row_69 : decode cX4_row 69 = .ok (.goto 56, 3) := by decide +kernel
theorem dX4_row_72 : decode cX4_row 72 = .ok (.ldc2_w 57, 3) := by decide +kernel
theorem dX4_row_75 : decode cX4_row 75 = .ok (.lstore 4, 2) := by decide +kernel
theorem dX4_row_77 : decode cX4_row 77 = .ok (.goto 48, 3) := by decide +kernel
theorem dX4_row_80 : decode cX4_row 80 = .ok (.ldc2_w 59, 3) := by decide +kernel
theorem dX4_row_83 : decode cX4_row 83 = .ok (.lstore 4, 2) := by decide +kernel
theorem dX4_row_85 : decode cX4_row 85 = .ok (.goto 40, 3) := by decide +kernel
theorem dX4_row_88 : decode cX4_row 88 = .ok (.ldc2_w 61, 3) := by decide +kernel
theorem dX4_row_91 : decode cX4_row 91 = .ok (.lstore 4, 2) := by decide +kernel
theorem dX4_row_93 : decode cX4_row 93 = .ok (.goto 32, 3) := by decide +kernel
theorem dX4_row_96 : decode cX4_row 96 = .ok (.ldc2_w 63, 3) := by decide +kernel
theorem dX4_row_99 : decode cX4_row 99 = .ok (.lstore 4, 2) := by decide +kernel
theorem dX4_row_101 : decode cX4_row 101 = .ok (.goto 24, 3) := by decide +kernel
theorem dX4_row_104 : decode cX4_row 104 = .ok (.iload_n 2, 1) := by decide +kernel
theorem dX4_row_105 : decode cX4_row 105 = .ok (.iload_n 3, 1) := by decide +kernel
theorem dX4_row_106 : decode cX4_row 106 = .ok (.bipush 6, 2) := by decide +kernel
theorem dX4_row_108 : decode cX4_row 108 = .ok (.isub, 1) := by decide +kernel
theorem dX4_row_109 : decode cX4_row 109 = .ok (.ishr, 1) := by decide +kernel
theorem dX4_row_110 : decode cX4_row 110 = .ok (.iconst 1, 1) := by decide +kernel
theorem dX4_row_111 : decode cX4_row 111 = .ok (.iand, 1) := by decide +kernel
theorem dX4_row_112 : decode cX4_row 112 = .ok (.iconst 1, 1) := by decide +kernel
theorem dX4_row_113 : decode cX4_row 113 = .ok (.if_icmp .ne 9, 3) := by decide +kernel
theorem dX4_row_116 : decode cX4_row 116 = .ok (.ldc2_w 39, 3) := by decide +kernel
theorem dX4_row_119 : decode cX4_row 119 = .ok (.goto 4, 3) := by decide +kernel
theorem dX4_row_122 : decode cX4_row 122 = .ok (.lconst 0, 1) := by decide +kernel
theorem dX4_row_123 : decode cX4_row 123 = .ok (.lstore 4, 2) := by decide +kernel
theorem dX4_row_125 : decode cX4_row 125 = .ok (.iload_n 1, 1) := by decide +kernel
theorem dX4_row_126 : decode cX4_row 126 = .ok (.ifCond .ge 12, 3) := by decide +kernel
theorem dX4_row_129 : decode cX4_row 129 = .ok (.lload 4, 2) := by decide +kernel
theorem dX4_row_131 : decode cX4_row 131 = .ok (.ldc2_w 39, 3) := by decide +kernel
theorem dX4_row_134 : decode cX4_row 134 = .ok (.lxor, 1) := by decide +kernel
theorem dX4_row_135 : decode cX4_row 135 = .ok (.goto 5, 3) := by decide +kernel
theorem dX4_row_138 : decode cX4_row 138 = .ok (.lload 4, 2) := by decide +kernel
theorem dX4_row_140 : decode cX4_row 140 = .ok (.lreturn, 1) := by decide +kernel
theorem dX4_add_0 : decode cX4_add 0 = .ok (.aload_n 0, 1) := by decide +kernel
theorem dX4_add_1 : decode cX4_add 1 = .ok (.iconst 0, 1) := by decide +kernel
theorem dX4_add_2 : decode cX4_add 2 = .ok (.putfield 36, 3) := by decide +kernel
theorem dX4_add_5 : decode cX4_add 5 = .ok (.aload_n 0, 1) := by decide +kernel
theorem dX4_add_6 : decode cX4_add 6 = .ok (.iload_n 1, 1) := by decide +kernel
theorem dX4_add_7 : decode cX4_add 7 = .ok (.invokevirtual 65, 3) := by decide +kernel
theorem dX4_add_10 : decode cX4_add 10 = .ok (.ifCond .eq 12, 3) := by decide +kernel
theorem dX4_add_13 : decode cX4_add 13 = .ok (.aload_n 0, 1) := by decide +kernel
theorem dX4_add_14 : decode cX4_add 14 = .ok (.getfield 41, 3) := by decide +kernel
theorem dX4_add_17 : decode cX4_add 17 = .ok (.bipush 20, 2) := by decide +kernel
theorem dX4_add_19 : decode cX4_add 19 = .ok (.if_icmp .ne 5, 3) := by decide +kernel
theorem dX4_add_22 : decode cX4_add 22 = .ok (.iconst 0, 1) := by decide +kernel
theorem dX4_add_23 : decode cX4_add 23 = .ok (.ireturn, 1) := by decide +kernel
theorem dX4_add_24 : decode cX4_add 24 = .ok (.aload_n 0, 1) := by decide +kernel
theorem dX4_add_25 : decode cX4_add 25 = .ok (.getfield 19, 3) := by decide +kernel
theorem dX4_add_28 : decode cX4_add 28 = .ok (.aload_n 0, 1) := by decide +kernel
theorem dX4_add_29 : decode cX4_add 29 = .ok (.getfield 41, 3) := by decide +kernel
theorem dX4_add_32 : decode cX4_add 32 = .ok (.iload_n 1, 1) := by decide +kernel
theorem dX4_add_33 : decode cX4_add 33 = .ok (.iastore, 1) := by decide +kernel
theorem dX4_add_34 : decode cX4_add 34 = .ok (.aload_n 0, 1) := by decide +kernel
theorem dX4_add_35 : decode cX4_add 35 = .ok (.dup, 1) := by decide +kernel
theorem dX4_add_36 : decode cX4_add 36 = .ok (.getfield 41, 3) := by decide +kernel
theorem dX4_add_39 : decode cX4_add 39 = .ok (.iconst 1, 1) := by decide +kernel
theorem dX4_add_40 : decode cX4_add 40 = .ok (.iadd, 1) := by decide +kernel
theorem dX4_add_41 : decode cX4_add 41 = .ok (.putfield 41, 3) := by decide +kernel
theorem dX4_add_44 : decode cX4_add 44 = .ok (.iconst 1, 1) := by decide +kernel
theorem dX4_add_45 : decode cX4_add 45 = .ok (.ireturn, 1) := by decide +kernel
theorem dX4_close_0 : decode cX4_close 0 = .ok (.aload_n 0, 1) := by decide +kernel
theorem dX4_close_1 : decode cX4_close 1 = .ok (.iconst 0, 1) := by decide +kernel
theorem dX4_close_2 : decode cX4_close 2 = .ok (.putfield 36, 3) := by decide +kernel
theorem dX4_close_5 : decode cX4_close 5 = .ok (.aload_n 0, 1) := by decide +kernel
theorem dX4_close_6 : decode cX4_close 6 = .ok (.getfield 41, 3) := by decide +kernel
theorem dX4_close_9 : decode cX4_close 9 = .ok (.istore_n 1, 1) := by decide +kernel
theorem dX4_close_10 : decode cX4_close 10 = .ok (.aload_n 0, 1) := by decide +kernel
theorem dX4_close_11 : decode cX4_close 11 = .ok (.iconst 0, 1) := by decide +kernel
theorem dX4_close_12 : decode cX4_close 12 = .ok (.putfield 41, 3) := by decide +kernel
theorem dX4_close_15 : decode cX4_close 15 = .ok (.aload_n 0, 1) := by decide +kernel
theorem dX4_close_16 : decode cX4_close 16 = .ok (.getfield 44, 3) := by decide +kernel
theorem dX4_close_19 : decode cX4_close 19 = .ok (.sipush 600, 3) := by decide +kernel
theorem dX4_close_22 : decode cX4_close 22 = .ok (.if_icmp .eq 15, 3) := by decide +kernel
theorem dX4_close_25 : decode cX4_close 25 = .ok (.aload_n 0, 1) := by decide +kernel
theorem dX4_close_26 : decode cX4_close 26 = .ok (.getfield 47, 3) := by decide +kernel
theorem dX4_close_29 : decode cX4_close 29 = .ok (.iload_n 1, 1) := by decide +kernel
theorem dX4_close_30 : decode cX4_close 30 = .ok (.iadd, 1) := by decide +kernel
theorem dX4_close_31 : decode cX4_close 31 = .ok (.sipush 4000, 3) := by decide +kernel
theorem dX4_close_34 : decode cX4_close 34 = .ok (.if_icmp .le 5, 3) := by decide +kernel
theorem dX4_close_37 : decode cX4_close 37 = .ok (.iconst (-1), 1) := by decide +kernel
theorem dX4_close_38 : decode cX4_close 38 = .ok (.ireturn, 1) := by decide +kernel
theorem dX4_close_39 : decode cX4_close 39 = .ok (.iconst 0, 1) := by decide +kernel
theorem dX4_close_40 : decode cX4_close 40 = .ok (.istore_n 2, 1) := by decide +kernel
theorem dX4_close_41 : decode cX4_close 41 = .ok (.iload_n 2, 1) := by decide +kernel
theorem dX4_close_42 : decode cX4_close 42 = .ok (.aload_n 0, 1) := by decide +kernel
theorem dX4_close_43 : decode cX4_close 43 = .ok (.getfield 30, 3) := by decide +kernel
theorem dX4_close_46 : decode cX4_close 46 = .ok (.if_icmp .ge 55, 3) := by decide +kernel
theorem dX4_close_49 : decode cX4_close 49 = .ok (.lconst 0, 1) := by decide +kernel
theorem dX4_close_50 : decode cX4_close 50 = .ok (.lstore_n 3, 1) := by decide +kernel
theorem dX4_close_51 : decode cX4_close 51 = .ok (.iconst 0, 1) := by decide +kernel
theorem dX4_close_52 : decode cX4_close 52 = .ok (.istore 5, 2) := by decide +kernel
theorem dX4_close_54 : decode cX4_close 54 = .ok (.iload 5, 2) := by decide +kernel
theorem dX4_close_56 : decode cX4_close 56 = .ok (.iload_n 1, 1) := by decide +kernel
theorem dX4_close_57 : decode cX4_close 57 = .ok (.if_icmp .ge 24, 3) := by decide +kernel
theorem dX4_close_60 : decode cX4_close 60 = .ok (.lload_n 3, 1) := by decide +kernel
theorem dX4_close_61 : decode cX4_close 61 = .ok (.aload_n 0, 1) := by decide +kernel
theorem dX4_close_62 : decode cX4_close 62 = .ok (.aload_n 0, 1) := by decide +kernel
theorem dX4_close_63 : decode cX4_close 63 = .ok (.getfield 19, 3) := by decide +kernel
theorem dX4_close_66 : decode cX4_close 66 = .ok (.iload 5, 2) := by decide +kernel
theorem dX4_close_68 : decode cX4_close 68 = .ok (.iaload, 1) := by decide +kernel
theorem dX4_close_69 : decode cX4_close 69 = .ok (.iload_n 2, 1) := by decide +kernel
theorem dX4_close_70 : decode cX4_close 70 = .ok (.invokevirtual 69, 3) := by decide +kernel
theorem dX4_close_73 : decode cX4_close 73 = .ok (.lor, 1) := by decide +kernel
theorem dX4_close_74 : decode cX4_close 74 = .ok (.lstore_n 3, 1) := by decide +kernel
theorem dX4_close_75 : decode cX4_close 75 = .ok (.iinc 5 1, 3) := by decide +kernel
theorem dX4_close_78 : decode cX4_close 78 = .ok (.goto (-24), 3) := by decide +kernel
theorem dX4_close_81 : decode cX4_close 81 = .ok (.aload_n 0, 1) := by decide +kernel
theorem dX4_close_82 : decode cX4_close 82 = .ok (.getfield 7, 3) := by decide +kernel
theorem dX4_close_85 : decode cX4_close 85 = .ok (.iload_n 2, 1) := by decide +kernel
theorem dX4_close_86 : decode cX4_close 86 = .ok (.aload_n 0, 1) := by decide +kernel
theorem dX4_close_87 : decode cX4_close 87 = .ok (.getfield 7, 3) := by decide +kernel
theorem dX4_close_90 : decode cX4_close 90 = .ok (.iload_n 2, 1) := by decide +kernel
theorem dX4_close_91 : decode cX4_close 91 = .ok (.laload, 1) := by decide +kernel
theorem dX4_close_92 : decode cX4_close 92 = .ok (.lload_n 3, 1) := by decide +kernel
theorem dX4_close_93 : decode cX4_close 93 = .ok (.land, 1) := by decide +kernel
theorem dX4_close_94 : decode cX4_close 94 = .ok (.lastore, 1) := by decide +kernel
theorem dX4_close_95 : decode cX4_close 95 = .ok (.iinc 2 1, 3) := by decide +kernel
theorem dX4_close_98 : decode cX4_close 98 = .ok (.goto (-57), 3) := by decide +kernel
theorem dX4_close_101 : decode cX4_close 101 = .ok (.aload_n 0, 1) := by decide +kernel
theorem dX4_close_102 : decode cX4_close 102 = .ok (.dup, 1) := by decide +kernel
theorem dX4_close_103 : decode cX4_close 103 = .ok (.getfield 47, 3) := by decide +kernel
theorem dX4_close_106 : decode cX4_close 106 = .ok (.iload_n 1, 1) := by decide +kernel
theorem dX4_close_107 : decode cX4_close 107 = .ok (.iadd, 1) := by decide +kernel
theorem dX4_close_108 : decode cX4_close 108 = .ok (.putfield 47, 3) := by decide +kernel
theorem dX4_close_111 : decode cX4_close 111 = .ok (.aload_n 0, 1) := by decide +kernel
theorem dX4_close_112 : decode cX4_close 112 = .ok (.dup, 1) := by decide +kernel
theorem dX4_close_113 : decode cX4_close 113 = .ok (.getfield 44, 3) := by decide +kernel
theorem dX4_close_116 : decode cX4_close 116 = .ok (.iconst 1, 1) := by decide +kernel
theorem dX4_close_117 : decode cX4_close 117 = .ok (.iadd, 1) := by decide +kernel
theorem dX4_close_118 : decode cX4_close 118 = .ok (.putfield 44, 3) := by decide +kernel
theorem dX4_close_121 : decode cX4_close 121 = .ok (.aload_n 0, 1) := by decide +kernel
theorem dX4_close_122 : decode cX4_close 122 = .ok (.getfield 44, 3) := by decide +kernel
theorem dX4_close_125 : decode cX4_close 125 = .ok (.ireturn, 1) := by decide +kernel
theorem dX4_assume_0 : decode cX4_assume 0 = .ok (.aload_n 0, 1) := by decide +kernel
theorem dX4_assume_1 : decode cX4_assume 1 = .ok (.iconst 0, 1) := by decide +kernel
theorem dX4_assume_2 : decode cX4_assume 2 = .ok (.putfield 36, 3) := by decide +kernel
theorem dX4_assume_5 : decode cX4_assume 5 = .ok (.aload_n 0, 1) := by decide +kernel
theorem dX4_assume_6 : decode cX4_assume 6 = .ok (.iload_n 1, 1) := by decide +kernel
theorem dX4_assume_7 : decode cX4_assume 7 = .ok (.invokevirtual 65, 3) := by decide +kernel
theorem dX4_assume_10 : decode cX4_assume 10 = .ok (.ifCond .eq 12, 3) := by decide +kernel
theorem dX4_assume_13 : decode cX4_assume 13 = .ok (.aload_n 0, 1) := by decide +kernel
