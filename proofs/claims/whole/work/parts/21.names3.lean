theorem dX2_start_47 : decode cX2_start 47 = .ok (.iconst 1, 1) := by decide +kernel
theorem dX2_start_48 : decode cX2_start 48 = .ok (.goto 4, 3) := by decide +kernel
theorem dX2_start_51 : decode cX2_start 51 = .ok (.iconst 0, 1) := by decide +kernel
theorem dX2_start_52 : decode cX2_start 52 = .ok (.iconst 0, 1) := by decide +kernel
theorem dX2_start_53 : decode cX2_start 53 = .ok (.invokevirtual 28, 3) := by decide +kernel
theorem dX2_start_56 : decode cX2_start 56 = .ok (.iinc 3 1, 3) := by decide +kernel
theorem dX2_start_59 : decode cX2_start 59 = .ok (.goto (-42), 3) := by decide +kernel
theorem dX2_start_62 : decode cX2_start 62 = .ok (.return_, 1) := by decide +kernel
theorem dX2_assign_0 : decode cX2_assign 0 = .ok (.aload_n 0, 1) := by decide +kernel
theorem dX2_assign_1 : decode cX2_assign 1 = .ok (.getfield 18, 3) := by decide +kernel
theorem dX2_assign_4 : decode cX2_assign 4 = .ok (.aload_n 0, 1) := by decide +kernel
theorem dX2_assign_5 : decode cX2_assign 5 = .ok (.getfield 9, 3) := by decide +kernel
theorem dX2_assign_8 : decode cX2_assign 8 = .ok (.arraylength, 1) := by decide +kernel
theorem dX2_assign_9 : decode cX2_assign 9 = .ok (.if_icmp .lt 4, 3) := by decide +kernel
theorem dX2_assign_12 : decode cX2_assign 12 = .ok (.return_, 1) := by decide +kernel
theorem dX2_assign_13 : decode cX2_assign 13 = .ok (.aload_n 0, 1) := by decide +kernel
theorem dX2_assign_14 : decode cX2_assign 14 = .ok (.getfield 9, 3) := by decide +kernel
theorem dX2_assign_17 : decode cX2_assign 17 = .ok (.aload_n 0, 1) := by decide +kernel
theorem dX2_assign_18 : decode cX2_assign 18 = .ok (.getfield 18, 3) := by decide +kernel
theorem dX2_assign_21 : decode cX2_assign 21 = .ok (.iload_n 1, 1) := by decide +kernel
theorem dX2_assign_22 : decode cX2_assign 22 = .ok (.iastore, 1) := by decide +kernel
theorem dX2_assign_23 : decode cX2_assign 23 = .ok (.aload_n 0, 1) := by decide +kernel
theorem dX2_assign_24 : decode cX2_assign 24 = .ok (.getfield 15, 3) := by decide +kernel
theorem dX2_assign_27 : decode cX2_assign 27 = .ok (.aload_n 0, 1) := by decide +kernel
theorem dX2_assign_28 : decode cX2_assign 28 = .ok (.getfield 18, 3) := by decide +kernel
theorem dX2_assign_31 : decode cX2_assign 31 = .ok (.iload_n 3, 1) := by decide +kernel
theorem dX2_assign_32 : decode cX2_assign 32 = .ok (.iastore, 1) := by decide +kernel
theorem dX2_assign_33 : decode cX2_assign 33 = .ok (.aload_n 0, 1) := by decide +kernel
theorem dX2_assign_34 : decode cX2_assign 34 = .ok (.dup, 1) := by decide +kernel
theorem dX2_assign_35 : decode cX2_assign 35 = .ok (.getfield 18, 3) := by decide +kernel
theorem dX2_assign_38 : decode cX2_assign 38 = .ok (.iconst 1, 1) := by decide +kernel
theorem dX2_assign_39 : decode cX2_assign 39 = .ok (.iadd, 1) := by decide +kernel
theorem dX2_assign_40 : decode cX2_assign 40 = .ok (.putfield 18, 3) := by decide +kernel
theorem dX2_assign_43 : decode cX2_assign 43 = .ok (.iload_n 2, 1) := by decide +kernel
theorem dX2_assign_44 : decode cX2_assign 44 = .ok (.ifCond .eq 16, 3) := by decide +kernel
theorem dX2_assign_47 : decode cX2_assign 47 = .ok (.aload_n 0, 1) := by decide +kernel
theorem dX2_assign_48 : decode cX2_assign 48 = .ok (.dup, 1) := by decide +kernel
theorem dX2_assign_49 : decode cX2_assign 49 = .ok (.getfield 22, 3) := by decide +kernel
theorem dX2_assign_52 : decode cX2_assign 52 = .ok (.iload_n 1, 1) := by decide +kernel
theorem dX2_assign_53 : decode cX2_assign 53 = .ok (.ior, 1) := by decide +kernel
theorem dX2_assign_54 : decode cX2_assign 54 = .ok (.putfield 22, 3) := by decide +kernel
theorem dX2_assign_57 : decode cX2_assign 57 = .ok (.goto 13, 3) := by decide +kernel
theorem dX2_assign_60 : decode cX2_assign 60 = .ok (.aload_n 0, 1) := by decide +kernel
theorem dX2_assign_61 : decode cX2_assign 61 = .ok (.dup, 1) := by decide +kernel
theorem dX2_assign_62 : decode cX2_assign 62 = .ok (.getfield 25, 3) := by decide +kernel
theorem dX2_assign_65 : decode cX2_assign 65 = .ok (.iload_n 1, 1) := by decide +kernel
theorem dX2_assign_66 : decode cX2_assign 66 = .ok (.ior, 1) := by decide +kernel
theorem dX2_assign_67 : decode cX2_assign 67 = .ok (.putfield 25, 3) := by decide +kernel
theorem dX2_assign_70 : decode cX2_assign 70 = .ok (.return_, 1) := by decide +kernel
theorem dX2_goBackTo_0 : decode cX2_goBackTo 0 = .ok (.iconst 0, 1) := by decide +kernel
theorem dX2_goBackTo_1 : decode cX2_goBackTo 1 = .ok (.iload_n 1, 1) := by decide +kernel
theorem dX2_goBackTo_2 : decode cX2_goBackTo 2 = .ok (.invokestatic 32, 3) := by decide +kernel
theorem dX2_goBackTo_5 : decode cX2_goBackTo 5 = .ok (.istore_n 2, 1) := by decide +kernel
theorem dX2_goBackTo_6 : decode cX2_goBackTo 6 = .ok (.iload_n 2, 1) := by decide +kernel
theorem dX2_goBackTo_7 : decode cX2_goBackTo 7 = .ok (.aload_n 0, 1) := by decide +kernel
theorem dX2_goBackTo_8 : decode cX2_goBackTo 8 = .ok (.getfield 18, 3) := by decide +kernel
theorem dX2_goBackTo_11 : decode cX2_goBackTo 11 = .ok (.if_icmp .ge 43, 3) := by decide +kernel
theorem dX2_goBackTo_14 : decode cX2_goBackTo 14 = .ok (.aload_n 0, 1) := by decide +kernel
theorem dX2_goBackTo_15 : decode cX2_goBackTo 15 = .ok (.dup, 1) := by decide +kernel
theorem dX2_goBackTo_16 : decode cX2_goBackTo 16 = .ok (.getfield 22, 3) := by decide +kernel
theorem dX2_goBackTo_19 : decode cX2_goBackTo 19 = .ok (.aload_n 0, 1) := by decide +kernel
theorem dX2_goBackTo_20 : decode cX2_goBackTo 20 = .ok (.getfield 9, 3) := by decide +kernel
theorem dX2_goBackTo_23 : decode cX2_goBackTo 23 = .ok (.iload_n 2, 1) := by decide +kernel
theorem dX2_goBackTo_24 : decode cX2_goBackTo 24 = .ok (.iaload, 1) := by decide +kernel
theorem dX2_goBackTo_25 : decode cX2_goBackTo 25 = .ok (.iconst (-1), 1) := by decide +kernel
theorem dX2_goBackTo_26 : decode cX2_goBackTo 26 = .ok (.ixor, 1) := by decide +kernel
theorem dX2_goBackTo_27 : decode cX2_goBackTo 27 = .ok (.iand, 1) := by decide +kernel
theorem dX2_goBackTo_28 : decode cX2_goBackTo 28 = .ok (.putfield 22, 3) := by decide +kernel
theorem dX2_goBackTo_31 : decode cX2_goBackTo 31 = .ok (.aload_n 0, 1) := by decide +kernel
theorem dX2_goBackTo_32 : decode cX2_goBackTo 32 = .ok (.dup, 1) := by decide +kernel
theorem dX2_goBackTo_33 : decode cX2_goBackTo 33 = .ok (.getfield 25, 3) := by decide +kernel
theorem dX2_goBackTo_36 : decode cX2_goBackTo 36 = .ok (.aload_n 0, 1) := by decide +kernel
theorem dX2_goBackTo_37 : decode cX2_goBackTo 37 = .ok (.getfield 9, 3) := by decide +kernel
theorem dX2_goBackTo_40 : decode cX2_goBackTo 40 = .ok (.iload_n 2, 1) := by decide +kernel
theorem dX2_goBackTo_41 : decode cX2_goBackTo 41 = .ok (.iaload, 1) := by decide +kernel
theorem dX2_goBackTo_42 : decode cX2_goBackTo 42 = .ok (.iconst (-1), 1) := by decide +kernel
theorem dX2_goBackTo_43 : decode cX2_goBackTo 43 = .ok (.ixor, 1) := by decide +kernel
theorem dX2_goBackTo_44 : decode cX2_goBackTo 44 = .ok (.iand, 1) := by decide +kernel
theorem dX2_goBackTo_45 : decode cX2_goBackTo 45 = .ok (.putfield 25, 3) := by decide +kernel
theorem dX2_goBackTo_48 : decode cX2_goBackTo 48 = .ok (.iinc 2 1, 3) := by decide +kernel
theorem dX2_goBackTo_51 : decode cX2_goBackTo 51 = .ok (.goto (-45), 3) := by decide +kernel
theorem dX2_goBackTo_54 : decode cX2_goBackTo 54 = .ok (.aload_n 0, 1) := by decide +kernel
theorem dX2_goBackTo_55 : decode cX2_goBackTo 55 = .ok (.iconst 0, 1) := by decide +kernel
theorem dX2_goBackTo_56 : decode cX2_goBackTo 56 = .ok (.iload_n 1, 1) := by decide +kernel
theorem dX2_goBackTo_57 : decode cX2_goBackTo 57 = .ok (.aload_n 0, 1) := by decide +kernel
theorem dX2_goBackTo_58 : decode cX2_goBackTo 58 = .ok (.getfield 18, 3) := by decide +kernel
theorem dX2_goBackTo_61 : decode cX2_goBackTo 61 = .ok (.invokestatic 38, 3) := by decide +kernel
theorem dX2_goBackTo_64 : decode cX2_goBackTo 64 = .ok (.invokestatic 32, 3) := by decide +kernel
theorem dX2_goBackTo_67 : decode cX2_goBackTo 67 = .ok (.putfield 18, 3) := by decide +kernel
theorem dX2_goBackTo_70 : decode cX2_goBackTo 70 = .ok (.return_, 1) := by decide +kernel
theorem dX2_firstFree_0 : decode cX2_firstFree 0 = .ok (.iload_n 1, 1) := by decide +kernel
theorem dX2_firstFree_1 : decode cX2_firstFree 1 = .ok (.iconst 1, 1) := by decide +kernel
theorem dX2_firstFree_2 : decode cX2_firstFree 2 = .ok (.isub, 1) := by decide +kernel
theorem dX2_firstFree_3 : decode cX2_firstFree 3 = .ok (.istore_n 2, 1) := by decide +kernel
theorem dX2_firstFree_4 : decode cX2_firstFree 4 = .ok (.iload_n 2, 1) := by decide +kernel
theorem dX2_firstFree_5 : decode cX2_firstFree 5 = .ok (.ifCond .lt 29, 3) := by decide +kernel
theorem dX2_firstFree_8 : decode cX2_firstFree 8 = .ok (.iconst 1, 1) := by decide +kernel
theorem dX2_firstFree_9 : decode cX2_firstFree 9 = .ok (.iload_n 2, 1) := by decide +kernel
theorem dX2_firstFree_10 : decode cX2_firstFree 10 = .ok (.ishl, 1) := by decide +kernel
theorem dX2_firstFree_11 : decode cX2_firstFree 11 = .ok (.istore_n 3, 1) := by decide +kernel
theorem dX2_firstFree_12 : decode cX2_firstFree 12 = .ok (.aload_n 0, 1) := by decide +kernel
theorem dX2_firstFree_13 : decode cX2_firstFree 13 = .ok (.getfield 22, 3) := by decide +kernel
theorem dX2_firstFree_16 : decode cX2_firstFree 16 = .ok (.aload_n 0, 1) := by decide +kernel
theorem dX2_firstFree_17 : decode cX2_firstFree 17 = .ok (.getfield 25, 3) := by decide +kernel
theorem dX2_firstFree_20 : decode cX2_firstFree 20 = .ok (.ior, 1) := by decide +kernel
theorem dX2_firstFree_21 : decode cX2_firstFree 21 = .ok (.iload_n 3, 1) := by decide +kernel
theorem dX2_firstFree_22 : decode cX2_firstFree 22 = .ok (.iand, 1) := by decide +kernel
theorem dX2_firstFree_23 : decode cX2_firstFree 23 = .ok (.ifCond .ne 5, 3) := by decide +kernel
theorem dX2_firstFree_26 : decode cX2_firstFree 26 = .ok (.iload_n 3, 1) := by decide +kernel
theorem dX2_firstFree_27 : decode cX2_firstFree 27 = .ok (.ireturn, 1) := by decide +kernel
theorem dX2_firstFree_28 : decode cX2_firstFree 28 = .ok (.iinc 2 (-1), 3) := by decide +kernel
theorem dX2_firstFree_31 : decode cX2_firstFree 31 = .ok (.goto (-27), 3) := by decide +kernel
theorem dX2_firstFree_34 : decode cX2_firstFree 34 = .ok (.iconst 0, 1) := by decide +kernel
theorem dX2_firstFree_35 : decode cX2_firstFree 35 = .ok (.ireturn, 1) := by decide +kernel
set_option maxRecDepth 20000 in
theorem ggX2_propagate_X2_assign : GoodIn wsX2_propagate wsX2_assign := goodIn_r _ [8, 1, 9, 10, 2, 3, 11, 12, 13, 14, 15] (by decide +kernel) (by decide +kernel)
set_option maxRecDepth 20000 in
theorem gX2_propagate_X2_assign : GoodIn wsX2_propagate (wsV RX2 28 RX2 yX2_assign wsX2_assign) := goodIn_app (goodIn_of _ (by decide +kernel)) ggX2_propagate_X2_assign
theorem dX2_propagate_0 : decode cX2_propagate 0 = .ok (.iconst 0, 1) := by decide +kernel
theorem dX2_propagate_1 : decode cX2_propagate 1 = .ok (.istore_n 2, 1) := by decide +kernel
theorem dX2_propagate_2 : decode cX2_propagate 2 = .ok (.iload_n 2, 1) := by decide +kernel
theorem dX2_propagate_3 : decode cX2_propagate 3 = .ok (.bipush 16, 2) := by decide +kernel
theorem dX2_propagate_5 : decode cX2_propagate 5 = .ok (.if_icmp .gt 151, 3) := by decide +kernel
theorem dX2_propagate_8 : decode cX2_propagate 8 = .ok (.aload_n 0, 1) := by decide +kernel
theorem dX2_propagate_9 : decode cX2_propagate 9 = .ok (.getfield 18, 3) := by decide +kernel
theorem dX2_propagate_12 : decode cX2_propagate 12 = .ok (.istore_n 3, 1) := by decide +kernel
theorem dX2_propagate_13 : decode cX2_propagate 13 = .ok (.iconst 0, 1) := by decide +kernel
theorem dX2_propagate_14 : decode cX2_propagate 14 = .ok (.istore 4, 2) := by decide +kernel
theorem dX2_propagate_16 : decode cX2_propagate 16 = .ok (.iload 4, 2) := by decide +kernel
theorem dX2_propagate_18 : decode cX2_propagate 18 = .ok (.aload_n 1, 1) := by decide +kernel
theorem dX2_propagate_19 : decode cX2_propagate 19 = .ok (.getfield 41, 3) := by decide +kernel
theorem dX2_propagate_22 : decode cX2_propagate 22 = .ok (.if_icmp .ge 117, 3) := by decide +kernel
theorem dX2_propagate_25 : decode cX2_propagate 25 = .ok (.aload_n 1, 1) := by decide +kernel
theorem dX2_propagate_26 : decode cX2_propagate 26 = .ok (.getfield 46, 3) := by decide +kernel
theorem dX2_propagate_29 : decode cX2_propagate 29 = .ok (.iload 4, 2) := by decide +kernel
theorem dX2_propagate_31 : decode cX2_propagate 31 = .ok (.iaload, 1) := by decide +kernel
theorem dX2_propagate_32 : decode cX2_propagate 32 = .ok (.aload_n 0, 1) := by decide +kernel
theorem dX2_propagate_33 : decode cX2_propagate 33 = .ok (.getfield 22, 3) := by decide +kernel
theorem dX2_propagate_36 : decode cX2_propagate 36 = .ok (.iand, 1) := by decide +kernel
theorem dX2_propagate_37 : decode cX2_propagate 37 = .ok (.aload_n 1, 1) := by decide +kernel
theorem dX2_propagate_38 : decode cX2_propagate 38 = .ok (.getfield 49, 3) := by decide +kernel
theorem dX2_propagate_41 : decode cX2_propagate 41 = .ok (.iload 4, 2) := by decide +kernel
theorem dX2_propagate_43 : decode cX2_propagate 43 = .ok (.iaload, 1) := by decide +kernel
theorem dX2_propagate_44 : decode cX2_propagate 44 = .ok (.aload_n 0, 1) := by decide +kernel
theorem dX2_propagate_45 : decode cX2_propagate 45 = .ok (.getfield 25, 3) := by decide +kernel
theorem dX2_propagate_48 : decode cX2_propagate 48 = .ok (.iand, 1) := by decide +kernel
theorem dX2_propagate_49 : decode cX2_propagate 49 = .ok (.ior, 1) := by decide +kernel
theorem dX2_propagate_50 : decode cX2_propagate 50 = .ok (.ifCond .eq 6, 3) := by decide +kernel
theorem dX2_propagate_53 : decode cX2_propagate 53 = .ok (.goto 80, 3) := by decide +kernel
theorem dX2_propagate_56 : decode cX2_propagate 56 = .ok (.aload_n 1, 1) := by decide +kernel
theorem dX2_propagate_57 : decode cX2_propagate 57 = .ok (.getfield 46, 3) := by decide +kernel
theorem dX2_propagate_60 : decode cX2_propagate 60 = .ok (.iload 4, 2) := by decide +kernel
theorem dX2_propagate_62 : decode cX2_propagate 62 = .ok (.iaload, 1) := by decide +kernel
theorem dX2_propagate_63 : decode cX2_propagate 63 = .ok (.aload_n 1, 1) := by decide +kernel
theorem dX2_propagate_64 : decode cX2_propagate 64 = .ok (.getfield 49, 3) := by decide +kernel
theorem dX2_propagate_67 : decode cX2_propagate 67 = .ok (.iload 4, 2) := by decide +kernel
theorem dX2_propagate_69 : decode cX2_propagate 69 = .ok (.iaload, 1) := by decide +kernel
theorem dX2_propagate_70 : decode cX2_propagate 70 = .ok (.ior, 1) := by decide +kernel
theorem dX2_propagate_71 : decode cX2_propagate 71 = .ok (.istore 5, 2) := by decide +kernel
theorem dX2_propagate_73 : decode cX2_propagate 73 = .ok (.iload 5, 2) := by decide +kernel
theorem dX2_propagate_75 : decode cX2_propagate 75 = .ok (.aload_n 0, 1) := by decide +kernel
theorem dX2_propagate_76 : decode cX2_propagate 76 = .ok (.getfield 22, 3) := by decide +kernel
theorem dX2_propagate_79 : decode cX2_propagate 79 = .ok (.aload_n 0, 1) := by decide +kernel
theorem dX2_propagate_80 : decode cX2_propagate 80 = .ok (.getfield 25, 3) := by decide +kernel
theorem dX2_propagate_83 : decode cX2_propagate 83 = .ok (.ior, 1) := by decide +kernel
theorem dX2_propagate_84 : decode cX2_propagate 84 = .ok (.iconst (-1), 1) := by decide +kernel
theorem dX2_propagate_85 : decode cX2_propagate 85 = .ok (.ixor, 1) := by decide +kernel
theorem dX2_propagate_86 : decode cX2_propagate 86 = .ok (.iand, 1) := by decide +kernel
theorem dX2_propagate_87 : decode cX2_propagate 87 = .ok (.istore 6, 2) := by decide +kernel
theorem dX2_propagate_89 : decode cX2_propagate 89 = .ok (.iload 6, 2) := by decide +kernel
theorem dX2_propagate_91 : decode cX2_propagate 91 = .ok (.ifCond .ne 6, 3) := by decide +kernel
theorem dX2_propagate_94 : decode cX2_propagate 94 = .ok (.iload 5, 2) := by decide +kernel
theorem dX2_propagate_96 : decode cX2_propagate 96 = .ok (.ireturn, 1) := by decide +kernel
theorem dX2_propagate_97 : decode cX2_propagate 97 = .ok (.iload 6, 2) := by decide +kernel
theorem dX2_propagate_99 : decode cX2_propagate 99 = .ok (.iload 6, 2) := by decide +kernel
theorem dX2_propagate_101 : decode cX2_propagate 101 = .ok (.iconst 1, 1) := by decide +kernel
theorem dX2_propagate_102 : decode cX2_propagate 102 = .ok (.isub, 1) := by decide +kernel
theorem dX2_propagate_103 : decode cX2_propagate 103 = .ok (.iand, 1) := by decide +kernel
theorem dX2_propagate_104 : decode cX2_propagate 104 = .ok (.ifCond .ne 29, 3) := by decide +kernel
theorem dX2_propagate_107 : decode cX2_propagate 107 = .ok (.aload_n 0, 1) := by decide +kernel
theorem dX2_propagate_108 : decode cX2_propagate 108 = .ok (.iload 6, 2) := by decide +kernel
theorem dX2_propagate_110 : decode cX2_propagate 110 = .ok (.aload_n 1, 1) := by decide +kernel
theorem dX2_propagate_111 : decode cX2_propagate 111 = .ok (.getfield 46, 3) := by decide +kernel
theorem dX2_propagate_114 : decode cX2_propagate 114 = .ok (.iload 4, 2) := by decide +kernel
theorem dX2_propagate_116 : decode cX2_propagate 116 = .ok (.iaload, 1) := by decide +kernel
theorem dX2_propagate_117 : decode cX2_propagate 117 = .ok (.iload 6, 2) := by decide +kernel
theorem dX2_propagate_119 : decode cX2_propagate 119 = .ok (.iand, 1) := by decide +kernel
theorem dX2_propagate_120 : decode cX2_propagate 120 = .ok (.ifCond .eq 7, 3) := by decide +kernel
theorem dX2_propagate_123 : decode cX2_propagate 123 = .ok (.iconst 1, 1) := by decide +kernel
theorem dX2_propagate_124 : decode cX2_propagate 124 = .ok (.goto 4, 3) := by decide +kernel
theorem dX2_propagate_127 : decode cX2_propagate 127 = .ok (.iconst 0, 1) := by decide +kernel
theorem dX2_propagate_128 : decode cX2_propagate 128 = .ok (.iload 5, 2) := by decide +kernel
theorem dX2_propagate_130 : decode cX2_propagate 130 = .ok (.invokevirtual 28, 3) := by decide +kernel
theorem dX2_propagate_133 : decode cX2_propagate 133 = .ok (.iinc 4 1, 3) := by decide +kernel
theorem dX2_propagate_136 : decode cX2_propagate 136 = .ok (.goto (-120), 3) := by decide +kernel
theorem dX2_propagate_139 : decode cX2_propagate 139 = .ok (.aload_n 0, 1) := by decide +kernel
theorem dX2_propagate_140 : decode cX2_propagate 140 = .ok (.getfield 18, 3) := by decide +kernel
theorem dX2_propagate_143 : decode cX2_propagate 143 = .ok (.iload_n 3, 1) := by decide +kernel
theorem dX2_propagate_144 : decode cX2_propagate 144 = .ok (.if_icmp .ne 6, 3) := by decide +kernel
theorem dX2_propagate_147 : decode cX2_propagate 147 = .ok (.goto 9, 3) := by decide +kernel
theorem dX2_propagate_150 : decode cX2_propagate 150 = .ok (.iinc 2 1, 3) := by decide +kernel
theorem dX2_propagate_153 : decode cX2_propagate 153 = .ok (.goto (-151), 3) := by decide +kernel
theorem dX2_propagate_156 : decode cX2_propagate 156 = .ok (.iconst (-1), 1) := by decide +kernel
theorem dX2_propagate_157 : decode cX2_propagate 157 = .ok (.ireturn, 1) := by decide +kernel
theorem dX2_rootsOf_0 : decode cX2_rootsOf 0 = .ok (.iload_n 1, 1) := by decide +kernel
theorem dX2_rootsOf_1 : decode cX2_rootsOf 1 = .ok (.istore_n 2, 1) := by decide +kernel
theorem dX2_rootsOf_2 : decode cX2_rootsOf 2 = .ok (.iconst 0, 1) := by decide +kernel
theorem dX2_rootsOf_3 : decode cX2_rootsOf 3 = .ok (.istore_n 3, 1) := by decide +kernel
theorem dX2_rootsOf_4 : decode cX2_rootsOf 4 = .ok (.aload_n 0, 1) := by decide +kernel
theorem dX2_rootsOf_5 : decode cX2_rootsOf 5 = .ok (.getfield 18, 3) := by decide +kernel
theorem dX2_rootsOf_8 : decode cX2_rootsOf 8 = .ok (.iconst 1, 1) := by decide +kernel
theorem dX2_rootsOf_9 : decode cX2_rootsOf 9 = .ok (.isub, 1) := by decide +kernel
theorem dX2_rootsOf_10 : decode cX2_rootsOf 10 = .ok (.istore 4, 2) := by decide +kernel
theorem dX2_rootsOf_12 : decode cX2_rootsOf 12 = .ok (.iload 4, 2) := by decide +kernel
theorem dX2_rootsOf_14 : decode cX2_rootsOf 14 = .ok (.ifCond .lt 57, 3) := by decide +kernel
theorem dX2_rootsOf_17 : decode cX2_rootsOf 17 = .ok (.iload_n 2, 1) := by decide +kernel
theorem dX2_rootsOf_18 : decode cX2_rootsOf 18 = .ok (.aload_n 0, 1) := by decide +kernel
theorem dX2_rootsOf_19 : decode cX2_rootsOf 19 = .ok (.getfield 9, 3) := by decide +kernel
theorem dX2_rootsOf_22 : decode cX2_rootsOf 22 = .ok (.iload 4, 2) := by decide +kernel
theorem dX2_rootsOf_24 : decode cX2_rootsOf 24 = .ok (.iaload, 1) := by decide +kernel
theorem dX2_rootsOf_25 : decode cX2_rootsOf 25 = .ok (.iand, 1) := by decide +kernel
theorem dX2_rootsOf_26 : decode cX2_rootsOf 26 = .ok (.ifCond .ne 6, 3) := by decide +kernel
theorem dX2_rootsOf_29 : decode cX2_rootsOf 29 = .ok (.goto 36, 3) := by decide +kernel
theorem dX2_rootsOf_32 : decode cX2_rootsOf 32 = .ok (.aload_n 0, 1) := by decide +kernel
theorem dX2_rootsOf_33 : decode cX2_rootsOf 33 = .ok (.getfield 15, 3) := by decide +kernel
theorem dX2_rootsOf_36 : decode cX2_rootsOf 36 = .ok (.iload 4, 2) := by decide +kernel
theorem dX2_rootsOf_38 : decode cX2_rootsOf 38 = .ok (.iaload, 1) := by decide +kernel
theorem dX2_rootsOf_39 : decode cX2_rootsOf 39 = .ok (.ifCond .ne 16, 3) := by decide +kernel
theorem dX2_rootsOf_42 : decode cX2_rootsOf 42 = .ok (.iload_n 3, 1) := by decide +kernel
theorem dX2_rootsOf_43 : decode cX2_rootsOf 43 = .ok (.aload_n 0, 1) := by decide +kernel
theorem dX2_rootsOf_44 : decode cX2_rootsOf 44 = .ok (.getfield 9, 3) := by decide +kernel
theorem dX2_rootsOf_47 : decode cX2_rootsOf 47 = .ok (.iload 4, 2) := by decide +kernel
theorem dX2_rootsOf_49 : decode cX2_rootsOf 49 = .ok (.iaload, 1) := by decide +kernel
theorem dX2_rootsOf_50 : decode cX2_rootsOf 50 = .ok (.ior, 1) := by decide +kernel
theorem dX2_rootsOf_51 : decode cX2_rootsOf 51 = .ok (.istore_n 3, 1) := by decide +kernel
theorem dX2_rootsOf_52 : decode cX2_rootsOf 52 = .ok (.goto 13, 3) := by decide +kernel
theorem dX2_rootsOf_55 : decode cX2_rootsOf 55 = .ok (.iload_n 2, 1) := by decide +kernel
theorem dX2_rootsOf_56 : decode cX2_rootsOf 56 = .ok (.aload_n 0, 1) := by decide +kernel
theorem dX2_rootsOf_57 : decode cX2_rootsOf 57 = .ok (.getfield 15, 3) := by decide +kernel
theorem dX2_rootsOf_60 : decode cX2_rootsOf 60 = .ok (.iload 4, 2) := by decide +kernel
theorem dX2_rootsOf_62 : decode cX2_rootsOf 62 = .ok (.iaload, 1) := by decide +kernel
theorem dX2_rootsOf_63 : decode cX2_rootsOf 63 = .ok (.ior, 1) := by decide +kernel
theorem dX2_rootsOf_64 : decode cX2_rootsOf 64 = .ok (.istore_n 2, 1) := by decide +kernel
theorem dX2_rootsOf_65 : decode cX2_rootsOf 65 = .ok (.iinc 4 (-1), 3) := by decide +kernel
theorem dX2_rootsOf_68 : decode cX2_rootsOf 68 = .ok (.goto (-56), 3) := by decide +kernel
theorem dX2_rootsOf_71 : decode cX2_rootsOf 71 = .ok (.iload_n 3, 1) := by decide +kernel
theorem dX2_rootsOf_72 : decode cX2_rootsOf 72 = .ok (.ireturn, 1) := by decide +kernel
set_option maxRecDepth 20000 in
theorem ggX3_init_X0_init : GoodIn wsX3_init wsX0_init := goodIn_r _ [24, 25, 2, 3, 20, 26, 27, 55, 56, 57, 58] (by decide +kernel) (by decide +kernel)
set_option maxRecDepth 20000 in
theorem gX3_init_X0_init : GoodIn wsX3_init (wsX0_init) := ggX3_init_X0_init
set_option maxRecDepth 20000 in
theorem ggX3_init_X1_init : GoodIn wsX3_init wsX1_init := goodIn_r _ [30, 31, 2, 3, 32, 33, 34, 35, 36, 37, 38, 39, 40, 41, 42, 20, 43, 44, 59, 60, 61, 62, 63, 64, 65, 66, 67, 68] (by decide +kernel) (by decide +kernel)
set_option maxRecDepth 20000 in
theorem gX3_init_X1_init : GoodIn wsX3_init (wsX1_init) := ggX3_init_X1_init
theorem dX3_init_0 : decode cX3_init 0 = .ok (.aload_n 0, 1) := by decide +kernel
theorem dX3_init_1 : decode cX3_init 1 = .ok (.invokespecial 1, 3) := by decide +kernel
theorem dX3_init_4 : decode cX3_init 4 = .ok (.aload_n 0, 1) := by decide +kernel
theorem dX3_init_5 : decode cX3_init 5 = .ok (.iconst 1, 1) := by decide +kernel
theorem dX3_init_6 : decode cX3_init 6 = .ok (.bipush 16, 2) := by decide +kernel
theorem dX3_init_8 : decode cX3_init 8 = .ok (.iload_n 1, 1) := by decide +kernel
theorem dX3_init_9 : decode cX3_init 9 = .ok (.invokestatic 9, 3) := by decide +kernel
theorem dX3_init_12 : decode cX3_init 12 = .ok (.invokestatic 15, 3) := by decide +kernel
theorem dX3_init_15 : decode cX3_init 15 = .ok (.putfield 18, 3) := by decide +kernel
theorem dX3_init_18 : decode cX3_init 18 = .ok (.aload_n 0, 1) := by decide +kernel
theorem dX3_init_19 : decode cX3_init 19 = .ok (.new 22, 3) := by decide +kernel
theorem dX3_init_22 : decode cX3_init 22 = .ok (.dup, 1) := by decide +kernel
theorem dX3_init_23 : decode cX3_init 23 = .ok (.invokespecial 24, 3) := by decide +kernel
theorem dX3_init_26 : decode cX3_init 26 = .ok (.putfield 25, 3) := by decide +kernel
theorem dX3_init_29 : decode cX3_init 29 = .ok (.aload_n 0, 1) := by decide +kernel
theorem dX3_init_30 : decode cX3_init 30 = .ok (.new 29, 3) := by decide +kernel
theorem dX3_init_33 : decode cX3_init 33 = .ok (.dup, 1) := by decide +kernel
theorem dX3_init_34 : decode cX3_init 34 = .ok (.aload_n 0, 1) := by decide +kernel
theorem dX3_init_35 : decode cX3_init 35 = .ok (.getfield 18, 3) := by decide +kernel
theorem dX3_init_38 : decode cX3_init 38 = .ok (.aload_n 0, 1) := by decide +kernel
theorem dX3_init_39 : decode cX3_init 39 = .ok (.getfield 25, 3) := by decide +kernel
theorem dX3_init_42 : decode cX3_init 42 = .ok (.invokespecial 31, 3) := by decide +kernel
theorem dX3_init_45 : decode cX3_init 45 = .ok (.putfield 34, 3) := by decide +kernel
theorem dX3_init_48 : decode cX3_init 48 = .ok (.aload_n 0, 1) := by decide +kernel
theorem dX3_init_49 : decode cX3_init 49 = .ok (.bipush 40, 2) := by decide +kernel
theorem dX3_init_51 : decode cX3_init 51 = .ok (.newarray .int, 2) := by decide +kernel
theorem dX3_init_53 : decode cX3_init 53 = .ok (.putfield 38, 3) := by decide +kernel
theorem dX3_init_56 : decode cX3_init 56 = .ok (.return_, 1) := by decide +kernel
set_option maxRecDepth 20000 in
theorem ggX3_add_X3_isLiteral : GoodIn wsX3_add wsX3_isLiteral := goodIn_r _ [8, 9, 18, 19, 20, 21, 22, 23, 24, 25, 26, 27] (by decide +kernel) (by decide +kernel)
set_option maxRecDepth 20000 in
theorem gX3_add_X3_isLiteral : GoodIn wsX3_add (wsV RX3 42 RX3 yX3_isLiteral wsX3_isLiteral) := goodIn_app (goodIn_of _ (by decide +kernel)) ggX3_add_X3_isLiteral
set_option maxRecDepth 20000 in
theorem ggX3_add_X3_bitOf : GoodIn wsX3_add wsX3_bitOf := goodIn_r _ [13, 9, 14, 15, 16, 17, 18, 19, 20, 21, 22, 23, 24, 25, 26, 27] (by decide +kernel) (by decide +kernel)
set_option maxRecDepth 20000 in
theorem gX3_add_X3_bitOf : GoodIn wsX3_add (wsV RX3 52 RX3 yX3_bitOf wsX3_bitOf) := goodIn_app (goodIn_of _ (by decide +kernel)) ggX3_add_X3_bitOf
theorem dX3_add_0 : decode cX3_add 0 = .ok (.aload_n 0, 1) := by decide +kernel
theorem dX3_add_1 : decode cX3_add 1 = .ok (.iload_n 1, 1) := by decide +kernel
theorem dX3_add_2 : decode cX3_add 2 = .ok (.invokevirtual 42, 3) := by decide +kernel
theorem dX3_add_5 : decode cX3_add 5 = .ok (.ifCond .eq 12, 3) := by decide +kernel
theorem dX3_add_8 : decode cX3_add 8 = .ok (.aload_n 0, 1) := by decide +kernel
theorem dX3_add_9 : decode cX3_add 9 = .ok (.getfield 46, 3) := by decide +kernel
theorem dX3_add_12 : decode cX3_add 12 = .ok (.bipush 20, 2) := by decide +kernel
theorem dX3_add_14 : decode cX3_add 14 = .ok (.if_icmp .lt 5, 3) := by decide +kernel
theorem dX3_add_17 : decode cX3_add 17 = .ok (.iconst 0, 1) := by decide +kernel
theorem dX3_add_18 : decode cX3_add 18 = .ok (.ireturn, 1) := by decide +kernel
theorem dX3_add_19 : decode cX3_add 19 = .ok (.iload_n 1, 1) := by decide +kernel
theorem dX3_add_20 : decode cX3_add 20 = .ok (.ifCond .le 20, 3) := by decide +kernel
theorem dX3_add_23 : decode cX3_add 23 = .ok (.aload_n 0, 1) := by decide +kernel
theorem dX3_add_24 : decode cX3_add 24 = .ok (.dup, 1) := by decide +kernel
theorem dX3_add_25 : decode cX3_add 25 = .ok (.getfield 49, 3) := by decide +kernel
theorem dX3_add_28 : decode cX3_add 28 = .ok (.aload_n 0, 1) := by decide +kernel
theorem dX3_add_29 : decode cX3_add 29 = .ok (.iload_n 1, 1) := by decide +kernel
theorem dX3_add_30 : decode cX3_add 30 = .ok (.invokevirtual 52, 3) := by decide +kernel
theorem dX3_add_33 : decode cX3_add 33 = .ok (.ior, 1) := by decide +kernel
theorem dX3_add_34 : decode cX3_add 34 = .ok (.putfield 49, 3) := by decide +kernel
theorem dX3_add_37 : decode cX3_add 37 = .ok (.goto 17, 3) := by decide +kernel
theorem dX3_add_40 : decode cX3_add 40 = .ok (.aload_n 0, 1) := by decide +kernel
theorem dX3_add_41 : decode cX3_add 41 = .ok (.dup, 1) := by decide +kernel
theorem dX3_add_42 : decode cX3_add 42 = .ok (.getfield 56, 3) := by decide +kernel
theorem dX3_add_45 : decode cX3_add 45 = .ok (.aload_n 0, 1) := by decide +kernel
theorem dX3_add_46 : decode cX3_add 46 = .ok (.iload_n 1, 1) := by decide +kernel
theorem dX3_add_47 : decode cX3_add 47 = .ok (.invokevirtual 52, 3) := by decide +kernel
theorem dX3_add_50 : decode cX3_add 50 = .ok (.ior, 1) := by decide +kernel
theorem dX3_add_51 : decode cX3_add 51 = .ok (.putfield 56, 3) := by decide +kernel
theorem dX3_add_54 : decode cX3_add 54 = .ok (.aload_n 0, 1) := by decide +kernel
theorem dX3_add_55 : decode cX3_add 55 = .ok (.dup, 1) := by decide +kernel
theorem dX3_add_56 : decode cX3_add 56 = .ok (.getfield 46, 3) := by decide +kernel
theorem dX3_add_59 : decode cX3_add 59 = .ok (.iconst 1, 1) := by decide +kernel
theorem dX3_add_60 : decode cX3_add 60 = .ok (.iadd, 1) := by decide +kernel
theorem dX3_add_61 : decode cX3_add 61 = .ok (.putfield 46, 3) := by decide +kernel
theorem dX3_add_64 : decode cX3_add 64 = .ok (.iconst 1, 1) := by decide +kernel
theorem dX3_add_65 : decode cX3_add 65 = .ok (.ireturn, 1) := by decide +kernel
set_option maxRecDepth 20000 in
theorem ggX3_close_X3_takeMadeClause : GoodIn wsX3_close wsX3_takeMadeClause := goodIn_r _ [8, 9, 10, 11, 12, 13, 14, 15, 16, 17, 18, 19, 20, 25, 26, 27, 28, 29, 30, 31, 32, 33, 34, 35, 36, 37, 38] (by decide +kernel) (by decide +kernel)
set_option maxRecDepth 20000 in
theorem gX3_close_X3_takeMadeClause : GoodIn wsX3_close (wsV RX3 65 RX3 yX3_takeMadeClause wsX3_takeMadeClause) := goodIn_app (goodIn_of _ (by decide +kernel)) ggX3_close_X3_takeMadeClause
set_option maxRecDepth 20000 in
theorem ggX3_close_X3_forgetMadeClause : GoodIn wsX3_close wsX3_forgetMadeClause := goodIn_r _ [24, 9, 10, 3, 25, 26, 27, 28, 29, 30, 31, 32, 33, 34] (by decide +kernel) (by decide +kernel)
set_option maxRecDepth 20000 in
theorem gX3_close_X3_forgetMadeClause : GoodIn wsX3_close (wsV RX3 68 RX3 yX3_forgetMadeClause wsX3_forgetMadeClause) := goodIn_app (goodIn_of _ (by decide +kernel)) ggX3_close_X3_forgetMadeClause
theorem dX3_close_0 : decode cX3_close 0 = .ok (.aload_n 0, 1) := by decide +kernel
theorem dX3_close_1 : decode cX3_close 1 = .ok (.getfield 59, 3) := by decide +kernel
theorem dX3_close_4 : decode cX3_close 4 = .ok (.sipush 600, 3) := by decide +kernel
theorem dX3_close_7 : decode cX3_close 7 = .ok (.if_icmp .ge 22, 3) := by decide +kernel
theorem dX3_close_10 : decode cX3_close 10 = .ok (.aload_n 0, 1) := by decide +kernel
theorem dX3_close_11 : decode cX3_close 11 = .ok (.getfield 62, 3) := by decide +kernel
theorem dX3_close_14 : decode cX3_close 14 = .ok (.aload_n 0, 1) := by decide +kernel
theorem dX3_close_15 : decode cX3_close 15 = .ok (.getfield 46, 3) := by decide +kernel
theorem dX3_close_18 : decode cX3_close 18 = .ok (.iadd, 1) := by decide +kernel
theorem dX3_close_19 : decode cX3_close 19 = .ok (.sipush 4000, 3) := by decide +kernel
theorem dX3_close_22 : decode cX3_close 22 = .ok (.if_icmp .gt 7, 3) := by decide +kernel
theorem dX3_close_25 : decode cX3_close 25 = .ok (.iconst 1, 1) := by decide +kernel
theorem dX3_close_26 : decode cX3_close 26 = .ok (.goto 4, 3) := by decide +kernel
theorem dX3_close_29 : decode cX3_close 29 = .ok (.iconst 0, 1) := by decide +kernel
theorem dX3_close_30 : decode cX3_close 30 = .ok (.istore_n 1, 1) := by decide +kernel
theorem dX3_close_31 : decode cX3_close 31 = .ok (.iload_n 1, 1) := by decide +kernel
theorem dX3_close_32 : decode cX3_close 32 = .ok (.ifCond .eq 30, 3) := by decide +kernel
theorem dX3_close_35 : decode cX3_close 35 = .ok (.aload_n 0, 1) := by decide +kernel
theorem dX3_close_36 : decode cX3_close 36 = .ok (.dup, 1) := by decide +kernel
theorem dX3_close_37 : decode cX3_close 37 = .ok (.getfield 59, 3) := by decide +kernel
theorem dX3_close_40 : decode cX3_close 40 = .ok (.iconst 1, 1) := by decide +kernel
theorem dX3_close_41 : decode cX3_close 41 = .ok (.iadd, 1) := by decide +kernel
theorem dX3_close_42 : decode cX3_close 42 = .ok (.putfield 59, 3) := by decide +kernel
theorem dX3_close_45 : decode cX3_close 45 = .ok (.aload_n 0, 1) := by decide +kernel
theorem dX3_close_46 : decode cX3_close 46 = .ok (.dup, 1) := by decide +kernel
theorem dX3_close_47 : decode cX3_close 47 = .ok (.getfield 62, 3) := by decide +kernel
theorem dX3_close_50 : decode cX3_close 50 = .ok (.aload_n 0, 1) := by decide +kernel
theorem dX3_close_51 : decode cX3_close 51 = .ok (.getfield 46, 3) := by decide +kernel
theorem dX3_close_54 : decode cX3_close 54 = .ok (.iadd, 1) := by decide +kernel
theorem dX3_close_55 : decode cX3_close 55 = .ok (.putfield 62, 3) := by decide +kernel
theorem dX3_close_58 : decode cX3_close 58 = .ok (.aload_n 0, 1) := by decide +kernel
theorem dX3_close_59 : decode cX3_close 59 = .ok (.invokevirtual 65, 3) := by decide +kernel
theorem dX3_close_62 : decode cX3_close 62 = .ok (.aload_n 0, 1) := by decide +kernel
theorem dX3_close_63 : decode cX3_close 63 = .ok (.invokevirtual 68, 3) := by decide +kernel
theorem dX3_close_66 : decode cX3_close 66 = .ok (.iload_n 1, 1) := by decide +kernel
theorem dX3_close_67 : decode cX3_close 67 = .ok (.ifCond .eq 10, 3) := by decide +kernel
theorem dX3_close_70 : decode cX3_close 70 = .ok (.aload_n 0, 1) := by decide +kernel
theorem dX3_close_71 : decode cX3_close 71 = .ok (.getfield 59, 3) := by decide +kernel
theorem dX3_close_74 : decode cX3_close 74 = .ok (.goto 4, 3) := by decide +kernel
theorem dX3_close_77 : decode cX3_close 77 = .ok (.iconst (-1), 1) := by decide +kernel
theorem dX3_close_78 : decode cX3_close 78 = .ok (.ireturn, 1) := by decide +kernel
set_option maxRecDepth 20000 in
theorem ggX3_assume_X3_isLiteral : GoodIn wsX3_assume wsX3_isLiteral := goodIn_r _ [7, 8, 9, 10, 11, 12, 13, 14, 15, 16, 17, 18] (by decide +kernel) (by decide +kernel)
set_option maxRecDepth 20000 in
theorem gX3_assume_X3_isLiteral : GoodIn wsX3_assume (wsV RX3 42 RX3 yX3_isLiteral wsX3_isLiteral) := goodIn_app (goodIn_of _ (by decide +kernel)) ggX3_assume_X3_isLiteral
theorem dX3_assume_0 : decode cX3_assume 0 = .ok (.aload_n 0, 1) := by decide +kernel
theorem dX3_assume_1 : decode cX3_assume 1 = .ok (.iload_n 1, 1) := by decide +kernel
theorem dX3_assume_2 : decode cX3_assume 2 = .ok (.invokevirtual 42, 3) := by decide +kernel
theorem dX3_assume_5 : decode cX3_assume 5 = .ok (.ifCond .eq 12, 3) := by decide +kernel
theorem dX3_assume_8 : decode cX3_assume 8 = .ok (.aload_n 0, 1) := by decide +kernel
theorem dX3_assume_9 : decode cX3_assume 9 = .ok (.getfield 71, 3) := by decide +kernel
theorem dX3_assume_12 : decode cX3_assume 12 = .ok (.bipush 40, 2) := by decide +kernel
theorem dX3_assume_14 : decode cX3_assume 14 = .ok (.if_icmp .lt 5, 3) := by decide +kernel
theorem dX3_assume_17 : decode cX3_assume 17 = .ok (.iconst (-1), 1) := by decide +kernel
theorem dX3_assume_18 : decode cX3_assume 18 = .ok (.ireturn, 1) := by decide +kernel
theorem dX3_assume_19 : decode cX3_assume 19 = .ok (.aload_n 0, 1) := by decide +kernel
theorem dX3_assume_20 : decode cX3_assume 20 = .ok (.getfield 38, 3) := by decide +kernel
theorem dX3_assume_23 : decode cX3_assume 23 = .ok (.aload_n 0, 1) := by decide +kernel
theorem dX3_assume_24 : decode cX3_assume 24 = .ok (.getfield 71, 3) := by decide +kernel
theorem dX3_assume_27 : decode cX3_assume 27 = .ok (.iload_n 1, 1) := by decide +kernel
theorem dX3_assume_28 : decode cX3_assume 28 = .ok (.iastore, 1) := by decide +kernel
theorem dX3_assume_29 : decode cX3_assume 29 = .ok (.aload_n 0, 1) := by decide +kernel
theorem dX3_assume_30 : decode cX3_assume 30 = .ok (.dup, 1) := by decide +kernel
theorem dX3_assume_31 : decode cX3_assume 31 = .ok (.getfield 71, 3) := by decide +kernel
theorem dX3_assume_34 : decode cX3_assume 34 = .ok (.iconst 1, 1) := by decide +kernel
theorem dX3_assume_35 : decode cX3_assume 35 = .ok (.iadd, 1) := by decide +kernel
theorem dX3_assume_36 : decode cX3_assume 36 = .ok (.putfield 71, 3) := by decide +kernel
theorem dX3_assume_39 : decode cX3_assume 39 = .ok (.aload_n 0, 1) := by decide +kernel
theorem dX3_assume_40 : decode cX3_assume 40 = .ok (.getfield 71, 3) := by decide +kernel
theorem dX3_assume_43 : decode cX3_assume 43 = .ok (.ireturn, 1) := by decide +kernel
theorem dX3_retract_0 : decode cX3_retract 0 = .ok (.iload_n 1, 1) := by decide +kernel
theorem dX3_retract_1 : decode cX3_retract 1 = .ok (.ifCond .lt 11, 3) := by decide +kernel
theorem dX3_retract_4 : decode cX3_retract 4 = .ok (.iload_n 1, 1) := by decide +kernel
theorem dX3_retract_5 : decode cX3_retract 5 = .ok (.aload_n 0, 1) := by decide +kernel
theorem dX3_retract_6 : decode cX3_retract 6 = .ok (.getfield 71, 3) := by decide +kernel
theorem dX3_retract_9 : decode cX3_retract 9 = .ok (.if_icmp .le 5, 3) := by decide +kernel
theorem dX3_retract_12 : decode cX3_retract 12 = .ok (.iconst (-1), 1) := by decide +kernel
theorem dX3_retract_13 : decode cX3_retract 13 = .ok (.ireturn, 1) := by decide +kernel
theorem dX3_retract_14 : decode cX3_retract 14 = .ok (.aload_n 0, 1) := by decide +kernel
theorem dX3_retract_15 : decode cX3_retract 15 = .ok (.dup, 1) := by decide +kernel
theorem dX3_retract_16 : decode cX3_retract 16 = .ok (.getfield 71, 3) := by decide +kernel
theorem dX3_retract_19 : decode cX3_retract 19 = .ok (.iload_n 1, 1) := by decide +kernel
theorem dX3_retract_20 : decode cX3_retract 20 = .ok (.isub, 1) := by decide +kernel
theorem dX3_retract_21 : decode cX3_retract 21 = .ok (.putfield 71, 3) := by decide +kernel
theorem dX3_retract_24 : decode cX3_retract 24 = .ok (.aload_n 0, 1) := by decide +kernel
theorem dX3_retract_25 : decode cX3_retract 25 = .ok (.getfield 71, 3) := by decide +kernel
theorem dX3_retract_28 : decode cX3_retract 28 = .ok (.ireturn, 1) := by decide +kernel
set_option maxRecDepth 20000 in
theorem ggX3_solve_X3_firstModelUnder : GoodIn wsX3_solve wsX3_firstModelUnder := goodIn_r _ [6, 7, 8, 9, 10, 11, 12, 5, 13, 14, 15, 16, 17, 18, 19, 20, 21, 22, 23, 24, 25, 26, 27, 28, 29, 30, 31, 32, 33, 34, 35, 36, 37, 38, 39, 40, 41, 42, 43, 44, 45, 46, 47, 48, 49, 50, 51, 52, 53, 54, 55, 56, 57, 58, 59, 60, 61, 62, 63, 64, 65, 66, 67, 68, 69, 70, 71, 72, 73, 74, 75, 76, 77, 78, 79, 80, 81, 82, 83, 84, 85, 86, 87, 88, 89, 90, 91, 92, 93, 94, 95, 96, 97, 98, 99, 100, 101, 102, 103, 104, 105, 106, 107, 108, 109, 110, 111, 112, 113, 114, 115, 116, 117, 118, 119] (by decide +kernel) (by decide +kernel)
set_option maxRecDepth 20000 in
theorem gX3_solve_X3_firstModelUnder : GoodIn wsX3_solve (wsV RX3 76 RX3 yX3_firstModelUnder wsX3_firstModelUnder) := goodIn_app (goodIn_of _ (by decide +kernel)) ggX3_solve_X3_firstModelUnder
theorem dX3_solve_0 : decode cX3_solve 0 = .ok (.aload_n 0, 1) := by decide +kernel
theorem dX3_solve_1 : decode cX3_solve 1 = .ok (.ldc2_w 74, 3) := by decide +kernel
theorem dX3_solve_4 : decode cX3_solve 4 = .ok (.iconst 0, 1) := by decide +kernel
