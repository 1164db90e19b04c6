set_option maxRecDepth 20000 in
theorem ggX4_block_X4_fail : GoodIn wsX4_block wsX4_fail := goodIn_r _ [13, 1, 14, 15, 16, 17, 18, 19, 20, 21, 22, 23, 24, 25, 26, 27, 28, 29, 30, 31, 32, 33, 34, 35, 36, 37, 38, 39, 40, 41, 42, 43, 44, 45] (by decide +kernel) (by decide +kernel)
set_option maxRecDepth 20000 in
theorem gX4_block_X4_fail : GoodIn wsX4_block (wsV RX4 102 RX4 yX4_fail wsX4_fail) := goodIn_app (goodIn_of _ (by decide +kernel)) ggX4_block_X4_fail
theorem dX4_block_0 : decode cX4_block 0 = .ok (.aload_n 0, 1) := by decide +kernel
theorem dX4_block_1 : decode cX4_block 1 = .ok (.iconst 0, 1) := by decide +kernel
theorem dX4_block_2 : decode cX4_block 2 = .ok (.putfield 94, 3) := by decide +kernel
theorem dX4_block_5 : decode cX4_block 5 = .ok (.iload_n 1, 1) := by decide +kernel
theorem dX4_block_6 : decode cX4_block 6 = .ok (.iconst 0, 1) := by decide +kernel
theorem dX4_block_7 : decode cX4_block 7 = .ok (.ldc 97, 2) := by decide +kernel
theorem dX4_block_9 : decode cX4_block 9 = .ok (.invokestatic 98, 3) := by decide +kernel
theorem dX4_block_12 : decode cX4_block 12 = .ok (.ifCond .ne 9, 3) := by decide +kernel
theorem dX4_block_15 : decode cX4_block 15 = .ok (.aload_n 0, 1) := by decide +kernel
theorem dX4_block_16 : decode cX4_block 16 = .ok (.iconst 1, 1) := by decide +kernel
theorem dX4_block_17 : decode cX4_block 17 = .ok (.invokevirtual 102, 3) := by decide +kernel
theorem dX4_block_20 : decode cX4_block 20 = .ok (.ireturn, 1) := by decide +kernel
theorem dX4_block_21 : decode cX4_block 21 = .ok (.aload_n 0, 1) := by decide +kernel
theorem dX4_block_22 : decode cX4_block 22 = .ok (.getfield 106, 3) := by decide +kernel
theorem dX4_block_25 : decode cX4_block 25 = .ok (.bipush 40, 2) := by decide +kernel
theorem dX4_block_27 : decode cX4_block 27 = .ok (.if_icmp .ne 9, 3) := by decide +kernel
theorem dX4_block_30 : decode cX4_block 30 = .ok (.aload_n 0, 1) := by decide +kernel
theorem dX4_block_31 : decode cX4_block 31 = .ok (.iconst 2, 1) := by decide +kernel
theorem dX4_block_32 : decode cX4_block 32 = .ok (.invokevirtual 102, 3) := by decide +kernel
theorem dX4_block_35 : decode cX4_block 35 = .ok (.ireturn, 1) := by decide +kernel
theorem dX4_block_36 : decode cX4_block 36 = .ok (.aload_n 0, 1) := by decide +kernel
theorem dX4_block_37 : decode cX4_block 37 = .ok (.getfield 7, 3) := by decide +kernel
theorem dX4_block_40 : decode cX4_block 40 = .ok (.aload_n 0, 1) := by decide +kernel
theorem dX4_block_41 : decode cX4_block 41 = .ok (.getfield 106, 3) := by decide +kernel
theorem dX4_block_44 : decode cX4_block 44 = .ok (.iload_n 1, 1) := by decide +kernel
theorem dX4_block_45 : decode cX4_block 45 = .ok (.iastore, 1) := by decide +kernel
theorem dX4_block_46 : decode cX4_block 46 = .ok (.aload_n 0, 1) := by decide +kernel
theorem dX4_block_47 : decode cX4_block 47 = .ok (.dup, 1) := by decide +kernel
theorem dX4_block_48 : decode cX4_block 48 = .ok (.getfield 106, 3) := by decide +kernel
theorem dX4_block_51 : decode cX4_block 51 = .ok (.iconst 1, 1) := by decide +kernel
theorem dX4_block_52 : decode cX4_block 52 = .ok (.iadd, 1) := by decide +kernel
theorem dX4_block_53 : decode cX4_block 53 = .ok (.putfield 106, 3) := by decide +kernel
theorem dX4_block_56 : decode cX4_block 56 = .ok (.aload_n 0, 1) := by decide +kernel
theorem dX4_block_57 : decode cX4_block 57 = .ok (.iconst 0, 1) := by decide +kernel
theorem dX4_block_58 : decode cX4_block 58 = .ok (.putfield 109, 3) := by decide +kernel
theorem dX4_block_61 : decode cX4_block 61 = .ok (.aload_n 0, 1) := by decide +kernel
theorem dX4_block_62 : decode cX4_block 62 = .ok (.getfield 106, 3) := by decide +kernel
theorem dX4_block_65 : decode cX4_block 65 = .ok (.iconst 1, 1) := by decide +kernel
theorem dX4_block_66 : decode cX4_block 66 = .ok (.isub, 1) := by decide +kernel
theorem dX4_block_67 : decode cX4_block 67 = .ok (.ireturn, 1) := by decide +kernel
theorem dX4_find_0 : decode cX4_find 0 = .ok (.iconst 0, 1) := by decide +kernel
theorem dX4_find_1 : decode cX4_find 1 = .ok (.istore_n 2, 1) := by decide +kernel
theorem dX4_find_2 : decode cX4_find 2 = .ok (.iload_n 2, 1) := by decide +kernel
theorem dX4_find_3 : decode cX4_find 3 = .ok (.aload_n 0, 1) := by decide +kernel
theorem dX4_find_4 : decode cX4_find 4 = .ok (.getfield 113, 3) := by decide +kernel
theorem dX4_find_7 : decode cX4_find 7 = .ok (.if_icmp .ge 21, 3) := by decide +kernel
theorem dX4_find_10 : decode cX4_find 10 = .ok (.aload_n 0, 1) := by decide +kernel
theorem dX4_find_11 : decode cX4_find 11 = .ok (.getfield 19, 3) := by decide +kernel
theorem dX4_find_14 : decode cX4_find 14 = .ok (.iload_n 2, 1) := by decide +kernel
theorem dX4_find_15 : decode cX4_find 15 = .ok (.iaload, 1) := by decide +kernel
theorem dX4_find_16 : decode cX4_find 16 = .ok (.iload_n 1, 1) := by decide +kernel
theorem dX4_find_17 : decode cX4_find 17 = .ok (.if_icmp .ne 5, 3) := by decide +kernel
theorem dX4_find_20 : decode cX4_find 20 = .ok (.iload_n 2, 1) := by decide +kernel
theorem dX4_find_21 : decode cX4_find 21 = .ok (.ireturn, 1) := by decide +kernel
theorem dX4_find_22 : decode cX4_find 22 = .ok (.iinc 2 1, 3) := by decide +kernel
theorem dX4_find_25 : decode cX4_find 25 = .ok (.goto (-23), 3) := by decide +kernel
theorem dX4_find_28 : decode cX4_find 28 = .ok (.iconst (-1), 1) := by decide +kernel
theorem dX4_find_29 : decode cX4_find 29 = .ok (.ireturn, 1) := by decide +kernel
set_option maxRecDepth 20000 in
theorem ggX4_touch_X4_within : GoodIn wsX4_touch wsX4_within := goodIn_r _ [11] (by decide +kernel) (by decide +kernel)
set_option maxRecDepth 20000 in
theorem gX4_touch_X4_within : GoodIn wsX4_touch (va_wsS RX4 98 yX4_within wsX4_within) := goodIn_app (goodIn_of _ (by decide +kernel)) ggX4_touch_X4_within
set_option maxRecDepth 20000 in
theorem ggX4_touch_X4_fail : GoodIn wsX4_touch wsX4_fail := goodIn_r _ [15, 1, 20, 21, 22, 23, 24, 25, 26, 27, 28, 29, 30, 31, 32, 33, 34, 35, 36, 37, 38, 39, 40, 41, 42, 43, 44, 45, 46, 47, 48, 49, 50, 51] (by decide +kernel) (by decide +kernel)
set_option maxRecDepth 20000 in
theorem gX4_touch_X4_fail : GoodIn wsX4_touch (wsV RX4 102 RX4 yX4_fail wsX4_fail) := goodIn_app (goodIn_of _ (by decide +kernel)) ggX4_touch_X4_fail
set_option maxRecDepth 20000 in
theorem ggX4_touch_X4_find : GoodIn wsX4_touch wsX4_find := goodIn_r _ [19, 4, 5, 20, 21, 22, 23, 24, 25, 26, 27, 28, 29, 30, 31, 32, 33, 34, 35, 36, 37, 38, 39, 40, 41, 42, 43, 44, 45, 46, 47, 48, 49, 50, 51] (by decide +kernel) (by decide +kernel)
set_option maxRecDepth 20000 in
theorem gX4_touch_X4_find : GoodIn wsX4_touch (wsV RX4 116 RX4 yX4_find wsX4_find) := goodIn_app (goodIn_of _ (by decide +kernel)) ggX4_touch_X4_find
theorem dX4_touch_0 : decode cX4_touch 0 = .ok (.aload_n 0, 1) := by decide +kernel
theorem dX4_touch_1 : decode cX4_touch 1 = .ok (.iconst 0, 1) := by decide +kernel
theorem dX4_touch_2 : decode cX4_touch 2 = .ok (.putfield 94, 3) := by decide +kernel
theorem dX4_touch_5 : decode cX4_touch 5 = .ok (.iload_n 1, 1) := by decide +kernel
theorem dX4_touch_6 : decode cX4_touch 6 = .ok (.iconst 0, 1) := by decide +kernel
theorem dX4_touch_7 : decode cX4_touch 7 = .ok (.aload_n 0, 1) := by decide +kernel
theorem dX4_touch_8 : decode cX4_touch 8 = .ok (.getfield 106, 3) := by decide +kernel
theorem dX4_touch_11 : decode cX4_touch 11 = .ok (.iconst 1, 1) := by decide +kernel
theorem dX4_touch_12 : decode cX4_touch 12 = .ok (.isub, 1) := by decide +kernel
theorem dX4_touch_13 : decode cX4_touch 13 = .ok (.invokestatic 98, 3) := by decide +kernel
theorem dX4_touch_16 : decode cX4_touch 16 = .ok (.ifCond .ne 9, 3) := by decide +kernel
theorem dX4_touch_19 : decode cX4_touch 19 = .ok (.aload_n 0, 1) := by decide +kernel
theorem dX4_touch_20 : decode cX4_touch 20 = .ok (.iconst 1, 1) := by decide +kernel
theorem dX4_touch_21 : decode cX4_touch 21 = .ok (.invokevirtual 102, 3) := by decide +kernel
theorem dX4_touch_24 : decode cX4_touch 24 = .ok (.ireturn, 1) := by decide +kernel
theorem dX4_touch_25 : decode cX4_touch 25 = .ok (.aload_n 0, 1) := by decide +kernel
theorem dX4_touch_26 : decode cX4_touch 26 = .ok (.iload_n 2, 1) := by decide +kernel
theorem dX4_touch_27 : decode cX4_touch 27 = .ok (.invokevirtual 116, 3) := by decide +kernel
theorem dX4_touch_30 : decode cX4_touch 30 = .ok (.istore_n 3, 1) := by decide +kernel
theorem dX4_touch_31 : decode cX4_touch 31 = .ok (.aload_n 0, 1) := by decide +kernel
theorem dX4_touch_32 : decode cX4_touch 32 = .ok (.getfield 13, 3) := by decide +kernel
theorem dX4_touch_35 : decode cX4_touch 35 = .ok (.iload_n 1, 1) := by decide +kernel
theorem dX4_touch_36 : decode cX4_touch 36 = .ok (.iaload, 1) := by decide +kernel
theorem dX4_touch_37 : decode cX4_touch 37 = .ok (.bipush 6, 2) := by decide +kernel
theorem dX4_touch_39 : decode cX4_touch 39 = .ok (.if_icmp .eq 16, 3) := by decide +kernel
theorem dX4_touch_42 : decode cX4_touch 42 = .ok (.iload_n 3, 1) := by decide +kernel
theorem dX4_touch_43 : decode cX4_touch 43 = .ok (.ifCond .ge 18, 3) := by decide +kernel
theorem dX4_touch_46 : decode cX4_touch 46 = .ok (.aload_n 0, 1) := by decide +kernel
theorem dX4_touch_47 : decode cX4_touch 47 = .ok (.getfield 113, 3) := by decide +kernel
theorem dX4_touch_50 : decode cX4_touch 50 = .ok (.bipush 40, 2) := by decide +kernel
theorem dX4_touch_52 : decode cX4_touch 52 = .ok (.if_icmp .ne 9, 3) := by decide +kernel
theorem dX4_touch_55 : decode cX4_touch 55 = .ok (.aload_n 0, 1) := by decide +kernel
theorem dX4_touch_56 : decode cX4_touch 56 = .ok (.iconst 2, 1) := by decide +kernel
theorem dX4_touch_57 : decode cX4_touch 57 = .ok (.invokevirtual 102, 3) := by decide +kernel
theorem dX4_touch_60 : decode cX4_touch 60 = .ok (.ireturn, 1) := by decide +kernel
theorem dX4_touch_61 : decode cX4_touch 61 = .ok (.iload_n 3, 1) := by decide +kernel
theorem dX4_touch_62 : decode cX4_touch 62 = .ok (.ifCond .ge 25, 3) := by decide +kernel
theorem dX4_touch_65 : decode cX4_touch 65 = .ok (.aload_n 0, 1) := by decide +kernel
theorem dX4_touch_66 : decode cX4_touch 66 = .ok (.getfield 113, 3) := by decide +kernel
theorem dX4_touch_69 : decode cX4_touch 69 = .ok (.istore_n 3, 1) := by decide +kernel
theorem dX4_touch_70 : decode cX4_touch 70 = .ok (.aload_n 0, 1) := by decide +kernel
theorem dX4_touch_71 : decode cX4_touch 71 = .ok (.getfield 19, 3) := by decide +kernel
theorem dX4_touch_74 : decode cX4_touch 74 = .ok (.iload_n 3, 1) := by decide +kernel
theorem dX4_touch_75 : decode cX4_touch 75 = .ok (.iload_n 2, 1) := by decide +kernel
theorem dX4_touch_76 : decode cX4_touch 76 = .ok (.iastore, 1) := by decide +kernel
theorem dX4_touch_77 : decode cX4_touch 77 = .ok (.aload_n 0, 1) := by decide +kernel
theorem dX4_touch_78 : decode cX4_touch 78 = .ok (.dup, 1) := by decide +kernel
theorem dX4_touch_79 : decode cX4_touch 79 = .ok (.getfield 113, 3) := by decide +kernel
theorem dX4_touch_82 : decode cX4_touch 82 = .ok (.iconst 1, 1) := by decide +kernel
theorem dX4_touch_83 : decode cX4_touch 83 = .ok (.iadd, 1) := by decide +kernel
theorem dX4_touch_84 : decode cX4_touch 84 = .ok (.putfield 113, 3) := by decide +kernel
theorem dX4_touch_87 : decode cX4_touch 87 = .ok (.aload_n 0, 1) := by decide +kernel
theorem dX4_touch_88 : decode cX4_touch 88 = .ok (.getfield 16, 3) := by decide +kernel
theorem dX4_touch_91 : decode cX4_touch 91 = .ok (.bipush 6, 2) := by decide +kernel
theorem dX4_touch_93 : decode cX4_touch 93 = .ok (.iload_n 1, 1) := by decide +kernel
theorem dX4_touch_94 : decode cX4_touch 94 = .ok (.imul, 1) := by decide +kernel
theorem dX4_touch_95 : decode cX4_touch 95 = .ok (.aload_n 0, 1) := by decide +kernel
theorem dX4_touch_96 : decode cX4_touch 96 = .ok (.getfield 13, 3) := by decide +kernel
theorem dX4_touch_99 : decode cX4_touch 99 = .ok (.iload_n 1, 1) := by decide +kernel
theorem dX4_touch_100 : decode cX4_touch 100 = .ok (.iaload, 1) := by decide +kernel
theorem dX4_touch_101 : decode cX4_touch 101 = .ok (.iadd, 1) := by decide +kernel
theorem dX4_touch_102 : decode cX4_touch 102 = .ok (.iload_n 3, 1) := by decide +kernel
theorem dX4_touch_103 : decode cX4_touch 103 = .ok (.iastore, 1) := by decide +kernel
theorem dX4_touch_104 : decode cX4_touch 104 = .ok (.aload_n 0, 1) := by decide +kernel
theorem dX4_touch_105 : decode cX4_touch 105 = .ok (.getfield 13, 3) := by decide +kernel
theorem dX4_touch_108 : decode cX4_touch 108 = .ok (.iload_n 1, 1) := by decide +kernel
theorem dX4_touch_109 : decode cX4_touch 109 = .ok (.dup2, 1) := by decide +kernel
theorem dX4_touch_110 : decode cX4_touch 110 = .ok (.iaload, 1) := by decide +kernel
theorem dX4_touch_111 : decode cX4_touch 111 = .ok (.iconst 1, 1) := by decide +kernel
theorem dX4_touch_112 : decode cX4_touch 112 = .ok (.iadd, 1) := by decide +kernel
theorem dX4_touch_113 : decode cX4_touch 113 = .ok (.iastore, 1) := by decide +kernel
theorem dX4_touch_114 : decode cX4_touch 114 = .ok (.aload_n 0, 1) := by decide +kernel
theorem dX4_touch_115 : decode cX4_touch 115 = .ok (.iconst 0, 1) := by decide +kernel
theorem dX4_touch_116 : decode cX4_touch 116 = .ok (.putfield 109, 3) := by decide +kernel
theorem dX4_touch_119 : decode cX4_touch 119 = .ok (.aload_n 0, 1) := by decide +kernel
theorem dX4_touch_120 : decode cX4_touch 120 = .ok (.getfield 13, 3) := by decide +kernel
theorem dX4_touch_123 : decode cX4_touch 123 = .ok (.iload_n 1, 1) := by decide +kernel
theorem dX4_touch_124 : decode cX4_touch 124 = .ok (.iaload, 1) := by decide +kernel
theorem dX4_touch_125 : decode cX4_touch 125 = .ok (.ireturn, 1) := by decide +kernel
set_option maxRecDepth 20000 in
theorem ggX4_edge_X4_within : GoodIn wsX4_edge wsX4_within := goodIn_r _ [11] (by decide +kernel) (by decide +kernel)
set_option maxRecDepth 20000 in
theorem gX4_edge_X4_within : GoodIn wsX4_edge (va_wsS RX4 98 yX4_within wsX4_within) := goodIn_app (goodIn_of _ (by decide +kernel)) ggX4_edge_X4_within
set_option maxRecDepth 20000 in
theorem ggX4_edge_X4_fail : GoodIn wsX4_edge wsX4_fail := goodIn_r _ [15, 1, 16, 17, 18, 19, 20, 21, 22, 23, 24, 25, 26, 27, 28, 29, 30, 31, 32, 33, 34, 35, 36, 37, 38, 39, 40, 41, 42, 43, 44, 45, 46, 47] (by decide +kernel) (by decide +kernel)
set_option maxRecDepth 20000 in
theorem gX4_edge_X4_fail : GoodIn wsX4_edge (wsV RX4 102 RX4 yX4_fail wsX4_fail) := goodIn_app (goodIn_of _ (by decide +kernel)) ggX4_edge_X4_fail
theorem dX4_edge_0 : decode cX4_edge 0 = .ok (.aload_n 0, 1) := by decide +kernel
theorem dX4_edge_1 : decode cX4_edge 1 = .ok (.iconst 0, 1) := by decide +kernel
theorem dX4_edge_2 : decode cX4_edge 2 = .ok (.putfield 94, 3) := by decide +kernel
theorem dX4_edge_5 : decode cX4_edge 5 = .ok (.iload_n 1, 1) := by decide +kernel
theorem dX4_edge_6 : decode cX4_edge 6 = .ok (.iconst 0, 1) := by decide +kernel
theorem dX4_edge_7 : decode cX4_edge 7 = .ok (.aload_n 0, 1) := by decide +kernel
theorem dX4_edge_8 : decode cX4_edge 8 = .ok (.getfield 106, 3) := by decide +kernel
theorem dX4_edge_11 : decode cX4_edge 11 = .ok (.iconst 1, 1) := by decide +kernel
theorem dX4_edge_12 : decode cX4_edge 12 = .ok (.isub, 1) := by decide +kernel
theorem dX4_edge_13 : decode cX4_edge 13 = .ok (.invokestatic 98, 3) := by decide +kernel
theorem dX4_edge_16 : decode cX4_edge 16 = .ok (.ifCond .eq 17, 3) := by decide +kernel
theorem dX4_edge_19 : decode cX4_edge 19 = .ok (.iload_n 2, 1) := by decide +kernel
theorem dX4_edge_20 : decode cX4_edge 20 = .ok (.iconst 0, 1) := by decide +kernel
theorem dX4_edge_21 : decode cX4_edge 21 = .ok (.aload_n 0, 1) := by decide +kernel
theorem dX4_edge_22 : decode cX4_edge 22 = .ok (.getfield 106, 3) := by decide +kernel
theorem dX4_edge_25 : decode cX4_edge 25 = .ok (.iconst 1, 1) := by decide +kernel
theorem dX4_edge_26 : decode cX4_edge 26 = .ok (.isub, 1) := by decide +kernel
theorem dX4_edge_27 : decode cX4_edge 27 = .ok (.invokestatic 98, 3) := by decide +kernel
theorem dX4_edge_30 : decode cX4_edge 30 = .ok (.ifCond .ne 9, 3) := by decide +kernel
theorem dX4_edge_33 : decode cX4_edge 33 = .ok (.aload_n 0, 1) := by decide +kernel
theorem dX4_edge_34 : decode cX4_edge 34 = .ok (.iconst 1, 1) := by decide +kernel
theorem dX4_edge_35 : decode cX4_edge 35 = .ok (.invokevirtual 102, 3) := by decide +kernel
theorem dX4_edge_38 : decode cX4_edge 38 = .ok (.ireturn, 1) := by decide +kernel
theorem dX4_edge_39 : decode cX4_edge 39 = .ok (.aload_n 0, 1) := by decide +kernel
theorem dX4_edge_40 : decode cX4_edge 40 = .ok (.getfield 119, 3) := by decide +kernel
theorem dX4_edge_43 : decode cX4_edge 43 = .ok (.bipush 80, 2) := by decide +kernel
theorem dX4_edge_45 : decode cX4_edge 45 = .ok (.if_icmp .ne 9, 3) := by decide +kernel
theorem dX4_edge_48 : decode cX4_edge 48 = .ok (.aload_n 0, 1) := by decide +kernel
theorem dX4_edge_49 : decode cX4_edge 49 = .ok (.iconst 2, 1) := by decide +kernel
theorem dX4_edge_50 : decode cX4_edge 50 = .ok (.invokevirtual 102, 3) := by decide +kernel
theorem dX4_edge_53 : decode cX4_edge 53 = .ok (.ireturn, 1) := by decide +kernel
theorem dX4_edge_54 : decode cX4_edge 54 = .ok (.aload_n 0, 1) := by decide +kernel
theorem dX4_edge_55 : decode cX4_edge 55 = .ok (.getfield 22, 3) := by decide +kernel
theorem dX4_edge_58 : decode cX4_edge 58 = .ok (.aload_n 0, 1) := by decide +kernel
theorem dX4_edge_59 : decode cX4_edge 59 = .ok (.getfield 119, 3) := by decide +kernel
theorem dX4_edge_62 : decode cX4_edge 62 = .ok (.iload_n 1, 1) := by decide +kernel
theorem dX4_edge_63 : decode cX4_edge 63 = .ok (.iastore, 1) := by decide +kernel
theorem dX4_edge_64 : decode cX4_edge 64 = .ok (.aload_n 0, 1) := by decide +kernel
theorem dX4_edge_65 : decode cX4_edge 65 = .ok (.getfield 25, 3) := by decide +kernel
theorem dX4_edge_68 : decode cX4_edge 68 = .ok (.aload_n 0, 1) := by decide +kernel
theorem dX4_edge_69 : decode cX4_edge 69 = .ok (.getfield 119, 3) := by decide +kernel
theorem dX4_edge_72 : decode cX4_edge 72 = .ok (.iload_n 2, 1) := by decide +kernel
theorem dX4_edge_73 : decode cX4_edge 73 = .ok (.iastore, 1) := by decide +kernel
theorem dX4_edge_74 : decode cX4_edge 74 = .ok (.aload_n 0, 1) := by decide +kernel
theorem dX4_edge_75 : decode cX4_edge 75 = .ok (.getfield 28, 3) := by decide +kernel
theorem dX4_edge_78 : decode cX4_edge 78 = .ok (.aload_n 0, 1) := by decide +kernel
theorem dX4_edge_79 : decode cX4_edge 79 = .ok (.getfield 119, 3) := by decide +kernel
theorem dX4_edge_82 : decode cX4_edge 82 = .ok (.iconst (-1), 1) := by decide +kernel
theorem dX4_edge_83 : decode cX4_edge 83 = .ok (.iastore, 1) := by decide +kernel
theorem dX4_edge_84 : decode cX4_edge 84 = .ok (.aload_n 0, 1) := by decide +kernel
theorem dX4_edge_85 : decode cX4_edge 85 = .ok (.dup, 1) := by decide +kernel
theorem dX4_edge_86 : decode cX4_edge 86 = .ok (.getfield 119, 3) := by decide +kernel
theorem dX4_edge_89 : decode cX4_edge 89 = .ok (.iconst 1, 1) := by decide +kernel
theorem dX4_edge_90 : decode cX4_edge 90 = .ok (.iadd, 1) := by decide +kernel
theorem dX4_edge_91 : decode cX4_edge 91 = .ok (.putfield 119, 3) := by decide +kernel
theorem dX4_edge_94 : decode cX4_edge 94 = .ok (.aload_n 0, 1) := by decide +kernel
theorem dX4_edge_95 : decode cX4_edge 95 = .ok (.iconst 0, 1) := by decide +kernel
theorem dX4_edge_96 : decode cX4_edge 96 = .ok (.putfield 109, 3) := by decide +kernel
theorem dX4_edge_99 : decode cX4_edge 99 = .ok (.aload_n 0, 1) := by decide +kernel
theorem dX4_edge_100 : decode cX4_edge 100 = .ok (.getfield 119, 3) := by decide +kernel
theorem dX4_edge_103 : decode cX4_edge 103 = .ok (.iconst 1, 1) := by decide +kernel
theorem dX4_edge_104 : decode cX4_edge 104 = .ok (.isub, 1) := by decide +kernel
theorem dX4_edge_105 : decode cX4_edge 105 = .ok (.ireturn, 1) := by decide +kernel
set_option maxRecDepth 20000 in
theorem ggX4_bound_X4_within : GoodIn wsX4_bound wsX4_within := goodIn_r _ [8] (by decide +kernel) (by decide +kernel)
set_option maxRecDepth 20000 in
theorem gX4_bound_X4_within : GoodIn wsX4_bound (va_wsS RX4 98 yX4_within wsX4_within) := goodIn_app (goodIn_of _ (by decide +kernel)) ggX4_bound_X4_within
