theorem dX4_assume_14 : decode cX4_assume 14 = .ok (.getfield 50, 3) := by decide +kernel
theorem dX4_assume_17 : decode cX4_assume 17 = .ok (.bipush 40, 2) := by decide +kernel
theorem dX4_assume_19 : decode cX4_assume 19 = .ok (.if_icmp .ne 5, 3) := by decide +kernel
theorem dX4_assume_22 : decode cX4_assume 22 = .ok (.iconst (-1), 1) := by decide +kernel
theorem dX4_assume_23 : decode cX4_assume 23 = .ok (.ireturn, 1) := by decide +kernel
theorem dX4_assume_24 : decode cX4_assume 24 = .ok (.aload_n 0, 1) := by decide +kernel
theorem dX4_assume_25 : decode cX4_assume 25 = .ok (.getfield 23, 3) := by decide +kernel
theorem dX4_assume_28 : decode cX4_assume 28 = .ok (.aload_n 0, 1) := by decide +kernel
theorem dX4_assume_29 : decode cX4_assume 29 = .ok (.getfield 50, 3) := by decide +kernel
theorem dX4_assume_32 : decode cX4_assume 32 = .ok (.iload_n 1, 1) := by decide +kernel
theorem dX4_assume_33 : decode cX4_assume 33 = .ok (.iastore, 1) := by decide +kernel
theorem dX4_assume_34 : decode cX4_assume 34 = .ok (.aload_n 0, 1) := by decide +kernel
theorem dX4_assume_35 : decode cX4_assume 35 = .ok (.dup, 1) := by decide +kernel
theorem dX4_assume_36 : decode cX4_assume 36 = .ok (.getfield 50, 3) := by decide +kernel
theorem dX4_assume_39 : decode cX4_assume 39 = .ok (.iconst 1, 1) := by decide +kernel
theorem dX4_assume_40 : decode cX4_assume 40 = .ok (.iadd, 1) := by decide +kernel
theorem dX4_assume_41 : decode cX4_assume 41 = .ok (.putfield 50, 3) := by decide +kernel
theorem dX4_assume_44 : decode cX4_assume 44 = .ok (.aload_n 0, 1) := by decide +kernel
theorem dX4_assume_45 : decode cX4_assume 45 = .ok (.getfield 50, 3) := by decide +kernel
theorem dX4_assume_48 : decode cX4_assume 48 = .ok (.ireturn, 1) := by decide +kernel
theorem dX4_retract_0 : decode cX4_retract 0 = .ok (.aload_n 0, 1) := by decide +kernel
theorem dX4_retract_1 : decode cX4_retract 1 = .ok (.iconst 0, 1) := by decide +kernel
theorem dX4_retract_2 : decode cX4_retract 2 = .ok (.putfield 36, 3) := by decide +kernel
theorem dX4_retract_5 : decode cX4_retract 5 = .ok (.iload_n 1, 1) := by decide +kernel
theorem dX4_retract_6 : decode cX4_retract 6 = .ok (.ifCond .lt 11, 3) := by decide +kernel
theorem dX4_retract_9 : decode cX4_retract 9 = .ok (.iload_n 1, 1) := by decide +kernel
theorem dX4_retract_10 : decode cX4_retract 10 = .ok (.aload_n 0, 1) := by decide +kernel
theorem dX4_retract_11 : decode cX4_retract 11 = .ok (.getfield 50, 3) := by decide +kernel
theorem dX4_retract_14 : decode cX4_retract 14 = .ok (.if_icmp .le 5, 3) := by decide +kernel
theorem dX4_retract_17 : decode cX4_retract 17 = .ok (.iconst (-1), 1) := by decide +kernel
theorem dX4_retract_18 : decode cX4_retract 18 = .ok (.ireturn, 1) := by decide +kernel
theorem dX4_retract_19 : decode cX4_retract 19 = .ok (.aload_n 0, 1) := by decide +kernel
theorem dX4_retract_20 : decode cX4_retract 20 = .ok (.dup, 1) := by decide +kernel
theorem dX4_retract_21 : decode cX4_retract 21 = .ok (.getfield 50, 3) := by decide +kernel
theorem dX4_retract_24 : decode cX4_retract 24 = .ok (.iload_n 1, 1) := by decide +kernel
theorem dX4_retract_25 : decode cX4_retract 25 = .ok (.isub, 1) := by decide +kernel
theorem dX4_retract_26 : decode cX4_retract 26 = .ok (.putfield 50, 3) := by decide +kernel
theorem dX4_retract_29 : decode cX4_retract 29 = .ok (.aload_n 0, 1) := by decide +kernel
theorem dX4_retract_30 : decode cX4_retract 30 = .ok (.getfield 50, 3) := by decide +kernel
theorem dX4_retract_33 : decode cX4_retract 33 = .ok (.ireturn, 1) := by decide +kernel
theorem dX4_leaves_0 : decode cX4_leaves 0 = .ok (.lconst 0, 1) := by decide +kernel
theorem dX4_leaves_1 : decode cX4_leaves 1 = .ok (.lstore_n 3, 1) := by decide +kernel
theorem dX4_leaves_2 : decode cX4_leaves 2 = .ok (.iconst 0, 1) := by decide +kernel
theorem dX4_leaves_3 : decode cX4_leaves 3 = .ok (.istore 5, 2) := by decide +kernel
theorem dX4_leaves_5 : decode cX4_leaves 5 = .ok (.iload 5, 2) := by decide +kernel
theorem dX4_leaves_7 : decode cX4_leaves 7 = .ok (.aload_n 0, 1) := by decide +kernel
theorem dX4_leaves_8 : decode cX4_leaves 8 = .ok (.getfield 30, 3) := by decide +kernel
theorem dX4_leaves_11 : decode cX4_leaves 11 = .ok (.if_icmp .ge 90, 3) := by decide +kernel
theorem dX4_leaves_14 : decode cX4_leaves 14 = .ok (.aload_n 0, 1) := by decide +kernel
theorem dX4_leaves_15 : decode cX4_leaves 15 = .ok (.getfield 13, 3) := by decide +kernel
theorem dX4_leaves_18 : decode cX4_leaves 18 = .ok (.iload 5, 2) := by decide +kernel
theorem dX4_leaves_20 : decode cX4_leaves 20 = .ok (.aload_n 0, 1) := by decide +kernel
theorem dX4_leaves_21 : decode cX4_leaves 21 = .ok (.getfield 7, 3) := by decide +kernel
theorem dX4_leaves_24 : decode cX4_leaves 24 = .ok (.iload 5, 2) := by decide +kernel
theorem dX4_leaves_26 : decode cX4_leaves 26 = .ok (.laload, 1) := by decide +kernel
theorem dX4_leaves_27 : decode cX4_leaves 27 = .ok (.lastore, 1) := by decide +kernel
theorem dX4_leaves_28 : decode cX4_leaves 28 = .ok (.iconst 0, 1) := by decide +kernel
theorem dX4_leaves_29 : decode cX4_leaves 29 = .ok (.istore 6, 2) := by decide +kernel
theorem dX4_leaves_31 : decode cX4_leaves 31 = .ok (.iload 6, 2) := by decide +kernel
theorem dX4_leaves_33 : decode cX4_leaves 33 = .ok (.aload_n 0, 1) := by decide +kernel
theorem dX4_leaves_34 : decode cX4_leaves 34 = .ok (.getfield 50, 3) := by decide +kernel
theorem dX4_leaves_37 : decode cX4_leaves 37 = .ok (.if_icmp .ge 48, 3) := by decide +kernel
theorem dX4_leaves_40 : decode cX4_leaves 40 = .ok (.lload_n 1, 1) := by decide +kernel
theorem dX4_leaves_41 : decode cX4_leaves 41 = .ok (.iload 6, 2) := by decide +kernel
theorem dX4_leaves_43 : decode cX4_leaves 43 = .ok (.lshr, 1) := by decide +kernel
theorem dX4_leaves_44 : decode cX4_leaves 44 = .ok (.lconst 1, 1) := by decide +kernel
theorem dX4_leaves_45 : decode cX4_leaves 45 = .ok (.land, 1) := by decide +kernel
theorem dX4_leaves_46 : decode cX4_leaves 46 = .ok (.lconst 1, 1) := by decide +kernel
theorem dX4_leaves_47 : decode cX4_leaves 47 = .ok (.lcmp, 1) := by decide +kernel
theorem dX4_leaves_48 : decode cX4_leaves 48 = .ok (.ifCond .ne 31, 3) := by decide +kernel
theorem dX4_leaves_51 : decode cX4_leaves 51 = .ok (.aload_n 0, 1) := by decide +kernel
theorem dX4_leaves_52 : decode cX4_leaves 52 = .ok (.getfield 13, 3) := by decide +kernel
theorem dX4_leaves_55 : decode cX4_leaves 55 = .ok (.iload 5, 2) := by decide +kernel
theorem dX4_leaves_57 : decode cX4_leaves 57 = .ok (.aload_n 0, 1) := by decide +kernel
theorem dX4_leaves_58 : decode cX4_leaves 58 = .ok (.getfield 13, 3) := by decide +kernel
theorem dX4_leaves_61 : decode cX4_leaves 61 = .ok (.iload 5, 2) := by decide +kernel
theorem dX4_leaves_63 : decode cX4_leaves 63 = .ok (.laload, 1) := by decide +kernel
theorem dX4_leaves_64 : decode cX4_leaves 64 = .ok (.aload_n 0, 1) := by decide +kernel
theorem dX4_leaves_65 : decode cX4_leaves 65 = .ok (.aload_n 0, 1) := by decide +kernel
theorem dX4_leaves_66 : decode cX4_leaves 66 = .ok (.getfield 23, 3) := by decide +kernel
theorem dX4_leaves_69 : decode cX4_leaves 69 = .ok (.iload 6, 2) := by decide +kernel
theorem dX4_leaves_71 : decode cX4_leaves 71 = .ok (.iaload, 1) := by decide +kernel
theorem dX4_leaves_72 : decode cX4_leaves 72 = .ok (.iload 5, 2) := by decide +kernel
theorem dX4_leaves_74 : decode cX4_leaves 74 = .ok (.invokevirtual 69, 3) := by decide +kernel
theorem dX4_leaves_77 : decode cX4_leaves 77 = .ok (.land, 1) := by decide +kernel
theorem dX4_leaves_78 : decode cX4_leaves 78 = .ok (.lastore, 1) := by decide +kernel
theorem dX4_leaves_79 : decode cX4_leaves 79 = .ok (.iinc 6 1, 3) := by decide +kernel
theorem dX4_leaves_82 : decode cX4_leaves 82 = .ok (.goto (-51), 3) := by decide +kernel
theorem dX4_leaves_85 : decode cX4_leaves 85 = .ok (.lload_n 3, 1) := by decide +kernel
theorem dX4_leaves_86 : decode cX4_leaves 86 = .ok (.aload_n 0, 1) := by decide +kernel
theorem dX4_leaves_87 : decode cX4_leaves 87 = .ok (.getfield 13, 3) := by decide +kernel
theorem dX4_leaves_90 : decode cX4_leaves 90 = .ok (.iload 5, 2) := by decide +kernel
theorem dX4_leaves_92 : decode cX4_leaves 92 = .ok (.laload, 1) := by decide +kernel
theorem dX4_leaves_93 : decode cX4_leaves 93 = .ok (.lor, 1) := by decide +kernel
theorem dX4_leaves_94 : decode cX4_leaves 94 = .ok (.lstore_n 3, 1) := by decide +kernel
theorem dX4_leaves_95 : decode cX4_leaves 95 = .ok (.iinc 5 1, 3) := by decide +kernel
theorem dX4_leaves_98 : decode cX4_leaves 98 = .ok (.goto (-93), 3) := by decide +kernel
theorem dX4_leaves_101 : decode cX4_leaves 101 = .ok (.lload_n 3, 1) := by decide +kernel
theorem dX4_leaves_102 : decode cX4_leaves 102 = .ok (.lconst 0, 1) := by decide +kernel
theorem dX4_leaves_103 : decode cX4_leaves 103 = .ok (.lcmp, 1) := by decide +kernel
theorem dX4_leaves_104 : decode cX4_leaves 104 = .ok (.ifCond .eq 7, 3) := by decide +kernel
theorem dX4_leaves_107 : decode cX4_leaves 107 = .ok (.iconst 1, 1) := by decide +kernel
theorem dX4_leaves_108 : decode cX4_leaves 108 = .ok (.goto 4, 3) := by decide +kernel
theorem dX4_leaves_111 : decode cX4_leaves 111 = .ok (.iconst 0, 1) := by decide +kernel
theorem dX4_leaves_112 : decode cX4_leaves 112 = .ok (.ireturn, 1) := by decide +kernel
theorem dX4_solve_0 : decode cX4_solve 0 = .ok (.aload_n 0, 1) := by decide +kernel
theorem dX4_solve_1 : decode cX4_solve 1 = .ok (.iconst 0, 1) := by decide +kernel
theorem dX4_solve_2 : decode cX4_solve 2 = .ok (.putfield 36, 3) := by decide +kernel
theorem dX4_solve_5 : decode cX4_solve 5 = .ok (.aload_n 0, 1) := by decide +kernel
theorem dX4_solve_6 : decode cX4_solve 6 = .ok (.ldc2_w 39, 3) := by decide +kernel
theorem dX4_solve_9 : decode cX4_solve 9 = .ok (.invokevirtual 73, 3) := by decide +kernel
theorem dX4_solve_12 : decode cX4_solve 12 = .ok (.ireturn, 1) := by decide +kernel
theorem dX4_least_0 : decode cX4_least 0 = .ok (.aload_n 0, 1) := by decide +kernel
theorem dX4_least_1 : decode cX4_least 1 = .ok (.iconst 0, 1) := by decide +kernel
theorem dX4_least_2 : decode cX4_least 2 = .ok (.putfield 36, 3) := by decide +kernel
theorem dX4_least_5 : decode cX4_least 5 = .ok (.aload_n 0, 1) := by decide +kernel
theorem dX4_least_6 : decode cX4_least 6 = .ok (.ldc2_w 39, 3) := by decide +kernel
theorem dX4_least_9 : decode cX4_least 9 = .ok (.invokevirtual 73, 3) := by decide +kernel
theorem dX4_least_12 : decode cX4_least 12 = .ok (.ifCond .ne 5, 3) := by decide +kernel
theorem dX4_least_15 : decode cX4_least 15 = .ok (.iconst (-1), 1) := by decide +kernel
theorem dX4_least_16 : decode cX4_least 16 = .ok (.ireturn, 1) := by decide +kernel
theorem dX4_least_17 : decode cX4_least 17 = .ok (.iconst 0, 1) := by decide +kernel
theorem dX4_least_18 : decode cX4_least 18 = .ok (.istore_n 1, 1) := by decide +kernel
theorem dX4_least_19 : decode cX4_least 19 = .ok (.aload_n 0, 1) := by decide +kernel
theorem dX4_least_20 : decode cX4_least 20 = .ok (.getfield 13, 3) := by decide +kernel
theorem dX4_least_23 : decode cX4_least 23 = .ok (.iload_n 1, 1) := by decide +kernel
theorem dX4_least_24 : decode cX4_least 24 = .ok (.laload, 1) := by decide +kernel
theorem dX4_least_25 : decode cX4_least 25 = .ok (.lconst 0, 1) := by decide +kernel
theorem dX4_least_26 : decode cX4_least 26 = .ok (.lcmp, 1) := by decide +kernel
theorem dX4_least_27 : decode cX4_least 27 = .ok (.ifCond .ne 9, 3) := by decide +kernel
theorem dX4_least_30 : decode cX4_least 30 = .ok (.iinc 1 1, 3) := by decide +kernel
theorem dX4_least_33 : decode cX4_least 33 = .ok (.goto (-14), 3) := by decide +kernel
theorem dX4_least_36 : decode cX4_least 36 = .ok (.iconst 0, 1) := by decide +kernel
theorem dX4_least_37 : decode cX4_least 37 = .ok (.istore_n 2, 1) := by decide +kernel
theorem dX4_least_38 : decode cX4_least 38 = .ok (.aload_n 0, 1) := by decide +kernel
theorem dX4_least_39 : decode cX4_least 39 = .ok (.getfield 13, 3) := by decide +kernel
theorem dX4_least_42 : decode cX4_least 42 = .ok (.iload_n 1, 1) := by decide +kernel
theorem dX4_least_43 : decode cX4_least 43 = .ok (.laload, 1) := by decide +kernel
theorem dX4_least_44 : decode cX4_least 44 = .ok (.iload_n 2, 1) := by decide +kernel
theorem dX4_least_45 : decode cX4_least 45 = .ok (.lshr, 1) := by decide +kernel
theorem dX4_least_46 : decode cX4_least 46 = .ok (.lconst 1, 1) := by decide +kernel
theorem dX4_least_47 : decode cX4_least 47 = .ok (.land, 1) := by decide +kernel
theorem dX4_least_48 : decode cX4_least 48 = .ok (.lconst 0, 1) := by decide +kernel
theorem dX4_least_49 : decode cX4_least 49 = .ok (.lcmp, 1) := by decide +kernel
theorem dX4_least_50 : decode cX4_least 50 = .ok (.ifCond .ne 9, 3) := by decide +kernel
theorem dX4_least_53 : decode cX4_least 53 = .ok (.iinc 2 1, 3) := by decide +kernel
theorem dX4_least_56 : decode cX4_least 56 = .ok (.goto (-18), 3) := by decide +kernel
theorem dX4_least_59 : decode cX4_least 59 = .ok (.bipush 64, 2) := by decide +kernel
theorem dX4_least_61 : decode cX4_least 61 = .ok (.iload_n 1, 1) := by decide +kernel
theorem dX4_least_62 : decode cX4_least 62 = .ok (.imul, 1) := by decide +kernel
theorem dX4_least_63 : decode cX4_least 63 = .ok (.iload_n 2, 1) := by decide +kernel
theorem dX4_least_64 : decode cX4_least 64 = .ok (.iadd, 1) := by decide +kernel
theorem dX4_least_65 : decode cX4_least 65 = .ok (.ireturn, 1) := by decide +kernel
theorem dX4_implied_0 : decode cX4_implied 0 = .ok (.aload_n 0, 1) := by decide +kernel
theorem dX4_implied_1 : decode cX4_implied 1 = .ok (.iconst 0, 1) := by decide +kernel
theorem dX4_implied_2 : decode cX4_implied 2 = .ok (.putfield 36, 3) := by decide +kernel
theorem dX4_implied_5 : decode cX4_implied 5 = .ok (.aload_n 0, 1) := by decide +kernel
theorem dX4_implied_6 : decode cX4_implied 6 = .ok (.iload_n 1, 1) := by decide +kernel
theorem dX4_implied_7 : decode cX4_implied 7 = .ok (.invokevirtual 65, 3) := by decide +kernel
theorem dX4_implied_10 : decode cX4_implied 10 = .ok (.ifCond .eq 13, 3) := by decide +kernel
theorem dX4_implied_13 : decode cX4_implied 13 = .ok (.aload_n 0, 1) := by decide +kernel
theorem dX4_implied_14 : decode cX4_implied 14 = .ok (.ldc2_w 39, 3) := by decide +kernel
theorem dX4_implied_17 : decode cX4_implied 17 = .ok (.invokevirtual 73, 3) := by decide +kernel
theorem dX4_implied_20 : decode cX4_implied 20 = .ok (.ifCond .ne 5, 3) := by decide +kernel
theorem dX4_implied_23 : decode cX4_implied 23 = .ok (.iconst (-1), 1) := by decide +kernel
theorem dX4_implied_24 : decode cX4_implied 24 = .ok (.ireturn, 1) := by decide +kernel
theorem dX4_implied_25 : decode cX4_implied 25 = .ok (.iconst 1, 1) := by decide +kernel
theorem dX4_implied_26 : decode cX4_implied 26 = .ok (.istore_n 2, 1) := by decide +kernel
theorem dX4_implied_27 : decode cX4_implied 27 = .ok (.iconst 0, 1) := by decide +kernel
theorem dX4_implied_28 : decode cX4_implied 28 = .ok (.istore_n 3, 1) := by decide +kernel
theorem dX4_implied_29 : decode cX4_implied 29 = .ok (.iload_n 3, 1) := by decide +kernel
theorem dX4_implied_30 : decode cX4_implied 30 = .ok (.aload_n 0, 1) := by decide +kernel
theorem dX4_implied_31 : decode cX4_implied 31 = .ok (.getfield 30, 3) := by decide +kernel
theorem dX4_implied_34 : decode cX4_implied 34 = .ok (.if_icmp .ge 41, 3) := by decide +kernel
theorem dX4_implied_37 : decode cX4_implied 37 = .ok (.iload_n 2, 1) := by decide +kernel
theorem dX4_implied_38 : decode cX4_implied 38 = .ok (.ifCond .eq 29, 3) := by decide +kernel
theorem dX4_implied_41 : decode cX4_implied 41 = .ok (.aload_n 0, 1) := by decide +kernel
theorem dX4_implied_42 : decode cX4_implied 42 = .ok (.getfield 13, 3) := by decide +kernel
theorem dX4_implied_45 : decode cX4_implied 45 = .ok (.iload_n 3, 1) := by decide +kernel
theorem dX4_implied_46 : decode cX4_implied 46 = .ok (.laload, 1) := by decide +kernel
theorem dX4_implied_47 : decode cX4_implied 47 = .ok (.aload_n 0, 1) := by decide +kernel
theorem dX4_implied_48 : decode cX4_implied 48 = .ok (.iload_n 1, 1) := by decide +kernel
theorem dX4_implied_49 : decode cX4_implied 49 = .ok (.iload_n 3, 1) := by decide +kernel
theorem dX4_implied_50 : decode cX4_implied 50 = .ok (.invokevirtual 69, 3) := by decide +kernel
theorem dX4_implied_53 : decode cX4_implied 53 = .ok (.ldc2_w 39, 3) := by decide +kernel
theorem dX4_implied_56 : decode cX4_implied 56 = .ok (.lxor, 1) := by decide +kernel
theorem dX4_implied_57 : decode cX4_implied 57 = .ok (.land, 1) := by decide +kernel
theorem dX4_implied_58 : decode cX4_implied 58 = .ok (.lconst 0, 1) := by decide +kernel
theorem dX4_implied_59 : decode cX4_implied 59 = .ok (.lcmp, 1) := by decide +kernel
theorem dX4_implied_60 : decode cX4_implied 60 = .ok (.ifCond .ne 7, 3) := by decide +kernel
theorem dX4_implied_63 : decode cX4_implied 63 = .ok (.iconst 1, 1) := by decide +kernel
theorem dX4_implied_64 : decode cX4_implied 64 = .ok (.goto 4, 3) := by decide +kernel
theorem dX4_implied_67 : decode cX4_implied 67 = .ok (.iconst 0, 1) := by decide +kernel
theorem dX4_implied_68 : decode cX4_implied 68 = .ok (.istore_n 2, 1) := by decide +kernel
theorem dX4_implied_69 : decode cX4_implied 69 = .ok (.iinc 3 1, 3) := by decide +kernel
theorem dX4_implied_72 : decode cX4_implied 72 = .ok (.goto (-43), 3) := by decide +kernel
theorem dX4_implied_75 : decode cX4_implied 75 = .ok (.iload_n 2, 1) := by decide +kernel
theorem dX4_implied_76 : decode cX4_implied 76 = .ok (.ifCond .eq 7, 3) := by decide +kernel
theorem dX4_implied_79 : decode cX4_implied 79 = .ok (.iconst 1, 1) := by decide +kernel
theorem dX4_implied_80 : decode cX4_implied 80 = .ok (.goto 4, 3) := by decide +kernel
theorem dX4_implied_83 : decode cX4_implied 83 = .ok (.iconst 0, 1) := by decide +kernel
theorem dX4_implied_84 : decode cX4_implied 84 = .ok (.ireturn, 1) := by decide +kernel
theorem dX4_core_0 : decode cX4_core 0 = .ok (.aload_n 0, 1) := by decide +kernel
theorem dX4_core_1 : decode cX4_core 1 = .ok (.iconst 0, 1) := by decide +kernel
theorem dX4_core_2 : decode cX4_core 2 = .ok (.putfield 36, 3) := by decide +kernel
theorem dX4_core_5 : decode cX4_core 5 = .ok (.aload_n 0, 1) := by decide +kernel
theorem dX4_core_6 : decode cX4_core 6 = .ok (.ldc2_w 39, 3) := by decide +kernel
theorem dX4_core_9 : decode cX4_core 9 = .ok (.invokevirtual 73, 3) := by decide +kernel
theorem dX4_core_12 : decode cX4_core 12 = .ok (.ifCond .eq 5, 3) := by decide +kernel
theorem dX4_core_15 : decode cX4_core 15 = .ok (.lconst 0, 1) := by decide +kernel
theorem dX4_core_16 : decode cX4_core 16 = .ok (.lreturn, 1) := by decide +kernel
theorem dX4_core_17 : decode cX4_core 17 = .ok (.lconst 1, 1) := by decide +kernel
theorem dX4_core_18 : decode cX4_core 18 = .ok (.aload_n 0, 1) := by decide +kernel
theorem dX4_core_19 : decode cX4_core 19 = .ok (.getfield 50, 3) := by decide +kernel
theorem dX4_core_22 : decode cX4_core 22 = .ok (.lshl, 1) := by decide +kernel
theorem dX4_core_23 : decode cX4_core 23 = .ok (.lconst 1, 1) := by decide +kernel
theorem dX4_core_24 : decode cX4_core 24 = .ok (.lsub, 1) := by decide +kernel
theorem dX4_core_25 : decode cX4_core 25 = .ok (.lstore_n 1, 1) := by decide +kernel
theorem dX4_core_26 : decode cX4_core 26 = .ok (.iconst 0, 1) := by decide +kernel
theorem dX4_core_27 : decode cX4_core 27 = .ok (.istore_n 3, 1) := by decide +kernel
theorem dX4_core_28 : decode cX4_core 28 = .ok (.iload_n 3, 1) := by decide +kernel
theorem dX4_core_29 : decode cX4_core 29 = .ok (.aload_n 0, 1) := by decide +kernel
theorem dX4_core_30 : decode cX4_core 30 = .ok (.getfield 50, 3) := by decide +kernel
theorem dX4_core_33 : decode cX4_core 33 = .ok (.if_icmp .ge 32, 3) := by decide +kernel
theorem dX4_core_36 : decode cX4_core 36 = .ok (.lload_n 1, 1) := by decide +kernel
theorem dX4_core_37 : decode cX4_core 37 = .ok (.lconst 1, 1) := by decide +kernel
theorem dX4_core_38 : decode cX4_core 38 = .ok (.iload_n 3, 1) := by decide +kernel
theorem dX4_core_39 : decode cX4_core 39 = .ok (.lshl, 1) := by decide +kernel
theorem dX4_core_40 : decode cX4_core 40 = .ok (.ldc2_w 39, 3) := by decide +kernel
theorem dX4_core_43 : decode cX4_core 43 = .ok (.lxor, 1) := by decide +kernel
theorem dX4_core_44 : decode cX4_core 44 = .ok (.land, 1) := by decide +kernel
theorem dX4_core_45 : decode cX4_core 45 = .ok (.lstore 4, 2) := by decide +kernel
theorem dX4_core_47 : decode cX4_core 47 = .ok (.aload_n 0, 1) := by decide +kernel
theorem dX4_core_48 : decode cX4_core 48 = .ok (.lload 4, 2) := by decide +kernel
theorem dX4_core_50 : decode cX4_core 50 = .ok (.invokevirtual 73, 3) := by decide +kernel
theorem dX4_core_53 : decode cX4_core 53 = .ok (.ifCond .ne 6, 3) := by decide +kernel
theorem dX4_core_56 : decode cX4_core 56 = .ok (.lload 4, 2) := by decide +kernel
theorem dX4_core_58 : decode cX4_core 58 = .ok (.lstore_n 1, 1) := by decide +kernel
theorem dX4_core_59 : decode cX4_core 59 = .ok (.iinc 3 1, 3) := by decide +kernel
theorem dX4_core_62 : decode cX4_core 62 = .ok (.goto (-34), 3) := by decide +kernel
theorem dX4_core_65 : decode cX4_core 65 = .ok (.lload_n 1, 1) := by decide +kernel
theorem dX4_core_66 : decode cX4_core 66 = .ok (.lreturn, 1) := by decide +kernel
theorem dX4_count_0 : decode cX4_count 0 = .ok (.aload_n 0, 1) := by decide +kernel
theorem dX4_count_1 : decode cX4_count 1 = .ok (.iconst 0, 1) := by decide +kernel
theorem dX4_count_2 : decode cX4_count 2 = .ok (.putfield 36, 3) := by decide +kernel
theorem dX4_count_5 : decode cX4_count 5 = .ok (.iload_n 1, 1) := by decide +kernel
theorem dX4_count_6 : decode cX4_count 6 = .ok (.tableswitch 56 0 4 #[34, 39, 44, 49, 54], 34) := by decide +kernel
theorem dX4_count_40 : decode cX4_count 40 = .ok (.aload_n 0, 1) := by decide +kernel
theorem dX4_count_41 : decode cX4_count 41 = .ok (.getfield 44, 3) := by decide +kernel
theorem dX4_count_44 : decode cX4_count 44 = .ok (.ireturn, 1) := by decide +kernel
theorem dX4_count_45 : decode cX4_count 45 = .ok (.aload_n 0, 1) := by decide +kernel
theorem dX4_count_46 : decode cX4_count 46 = .ok (.getfield 47, 3) := by decide +kernel
theorem dX4_count_49 : decode cX4_count 49 = .ok (.ireturn, 1) := by decide +kernel
theorem dX4_count_50 : decode cX4_count 50 = .ok (.aload_n 0, 1) := by decide +kernel
theorem dX4_count_51 : decode cX4_count 51 = .ok (.getfield 50, 3) := by decide +kernel
theorem dX4_count_54 : decode cX4_count 54 = .ok (.ireturn, 1) := by decide +kernel
theorem dX4_count_55 : decode cX4_count 55 = .ok (.aload_n 0, 1) := by decide +kernel
theorem dX4_count_56 : decode cX4_count 56 = .ok (.getfield 41, 3) := by decide +kernel
theorem dX4_count_59 : decode cX4_count 59 = .ok (.ireturn, 1) := by decide +kernel
theorem dX4_count_60 : decode cX4_count 60 = .ok (.iconst 0, 1) := by decide +kernel
theorem dX4_count_61 : decode cX4_count 61 = .ok (.ireturn, 1) := by decide +kernel
theorem dX4_count_62 : decode cX4_count 62 = .ok (.iconst (-1), 1) := by decide +kernel
theorem dX4_count_63 : decode cX4_count 63 = .ok (.ireturn, 1) := by decide +kernel
theorem dX4_wipe_0 : decode cX4_wipe 0 = .ok (.aload_n 0, 1) := by decide +kernel
theorem dX4_wipe_1 : decode cX4_wipe 1 = .ok (.iconst 0, 1) := by decide +kernel
theorem dX4_wipe_2 : decode cX4_wipe 2 = .ok (.putfield 36, 3) := by decide +kernel
theorem dX4_wipe_5 : decode cX4_wipe 5 = .ok (.aload_n 0, 1) := by decide +kernel
theorem dX4_wipe_6 : decode cX4_wipe 6 = .ok (.invokevirtual 33, 3) := by decide +kernel
theorem dX4_wipe_9 : decode cX4_wipe 9 = .ok (.return_, 1) := by decide +kernel
theorem dX0_clear_0 : decode cX0_clear 0 = .ok (.aload_n 0, 1) := by decide +kernel
theorem dX0_clear_1 : decode cX0_clear 1 = .ok (.iconst 0, 1) := by decide +kernel
theorem dX0_clear_2 : decode cX0_clear 2 = .ok (.putfield 18, 3) := by decide +kernel
theorem dX0_clear_5 : decode cX0_clear 5 = .ok (.aload_n 0, 1) := by decide +kernel
theorem dX0_clear_6 : decode cX0_clear 6 = .ok (.iconst 0, 1) := by decide +kernel
theorem dX0_clear_7 : decode cX0_clear 7 = .ok (.putfield 22, 3) := by decide +kernel
theorem dX0_clear_10 : decode cX0_clear 10 = .ok (.return_, 1) := by decide +kernel
theorem dL_cell_0 : decode cL_cell 0 = .ok (.iload_n 1, 1) := by decide +kernel
theorem dL_cell_1 : decode cL_cell 1 = .ok (.aload_n 0, 1) := by decide +kernel
theorem dL_cell_2 : decode cL_cell 2 = .ok (.arraylength, 1) := by decide +kernel
theorem dL_cell_3 : decode cL_cell 3 = .ok (.if_icmp .ge 9, 3) := by decide +kernel
theorem dL_cell_6 : decode cL_cell 6 = .ok (.aload_n 0, 1) := by decide +kernel
theorem dL_cell_7 : decode cL_cell 7 = .ok (.iload_n 1, 1) := by decide +kernel
theorem dL_cell_8 : decode cL_cell 8 = .ok (.iaload, 1) := by decide +kernel
theorem dL_cell_9 : decode cL_cell 9 = .ok (.goto 4, 3) := by decide +kernel
theorem dL_cell_12 : decode cL_cell 12 = .ok (.iconst 0, 1) := by decide +kernel
theorem dL_cell_13 : decode cL_cell 13 = .ok (.ireturn, 1) := by decide +kernel
