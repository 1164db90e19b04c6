set_option maxRecDepth 20000 in
theorem ggX4_bound_X4_fail : GoodIn wsX4_bound wsX4_fail := goodIn_r _ [12, 1, 13, 14, 15, 16, 17, 18, 19, 20, 21, 22, 23, 24, 25, 26, 27, 28, 29, 30, 31, 32, 33, 34, 35, 36, 37, 38, 39, 40, 41, 42, 43, 44] (by decide +kernel) (by decide +kernel)
set_option maxRecDepth 20000 in
theorem gX4_bound_X4_fail : GoodIn wsX4_bound (wsV RX4 102 RX4 yX4_fail wsX4_fail) := goodIn_app (goodIn_of _ (by decide +kernel)) ggX4_bound_X4_fail
theorem dX4_bound_0 : decode cX4_bound 0 = .ok (.aload_n 0, 1) := by decide +kernel
theorem dX4_bound_1 : decode cX4_bound 1 = .ok (.iconst 0, 1) := by decide +kernel
theorem dX4_bound_2 : decode cX4_bound 2 = .ok (.putfield 94, 3) := by decide +kernel
theorem dX4_bound_5 : decode cX4_bound 5 = .ok (.iload_n 1, 1) := by decide +kernel
theorem dX4_bound_6 : decode cX4_bound 6 = .ok (.iconst 0, 1) := by decide +kernel
theorem dX4_bound_7 : decode cX4_bound 7 = .ok (.aload_n 0, 1) := by decide +kernel
theorem dX4_bound_8 : decode cX4_bound 8 = .ok (.getfield 119, 3) := by decide +kernel
theorem dX4_bound_11 : decode cX4_bound 11 = .ok (.iconst 1, 1) := by decide +kernel
theorem dX4_bound_12 : decode cX4_bound 12 = .ok (.isub, 1) := by decide +kernel
theorem dX4_bound_13 : decode cX4_bound 13 = .ok (.invokestatic 98, 3) := by decide +kernel
theorem dX4_bound_16 : decode cX4_bound 16 = .ok (.ifCond .ne 9, 3) := by decide +kernel
theorem dX4_bound_19 : decode cX4_bound 19 = .ok (.aload_n 0, 1) := by decide +kernel
theorem dX4_bound_20 : decode cX4_bound 20 = .ok (.iconst 1, 1) := by decide +kernel
theorem dX4_bound_21 : decode cX4_bound 21 = .ok (.invokevirtual 102, 3) := by decide +kernel
theorem dX4_bound_24 : decode cX4_bound 24 = .ok (.ireturn, 1) := by decide +kernel
theorem dX4_bound_25 : decode cX4_bound 25 = .ok (.iload_n 2, 1) := by decide +kernel
theorem dX4_bound_26 : decode cX4_bound 26 = .ok (.iconst (-1), 1) := by decide +kernel
theorem dX4_bound_27 : decode cX4_bound 27 = .ok (.bipush 15, 2) := by decide +kernel
theorem dX4_bound_29 : decode cX4_bound 29 = .ok (.invokestatic 98, 3) := by decide +kernel
theorem dX4_bound_32 : decode cX4_bound 32 = .ok (.ifCond .ne 9, 3) := by decide +kernel
theorem dX4_bound_35 : decode cX4_bound 35 = .ok (.aload_n 0, 1) := by decide +kernel
theorem dX4_bound_36 : decode cX4_bound 36 = .ok (.iconst 2, 1) := by decide +kernel
theorem dX4_bound_37 : decode cX4_bound 37 = .ok (.invokevirtual 102, 3) := by decide +kernel
theorem dX4_bound_40 : decode cX4_bound 40 = .ok (.ireturn, 1) := by decide +kernel
theorem dX4_bound_41 : decode cX4_bound 41 = .ok (.aload_n 0, 1) := by decide +kernel
theorem dX4_bound_42 : decode cX4_bound 42 = .ok (.getfield 28, 3) := by decide +kernel
theorem dX4_bound_45 : decode cX4_bound 45 = .ok (.iload_n 1, 1) := by decide +kernel
theorem dX4_bound_46 : decode cX4_bound 46 = .ok (.iaload, 1) := by decide +kernel
theorem dX4_bound_47 : decode cX4_bound 47 = .ok (.istore_n 3, 1) := by decide +kernel
theorem dX4_bound_48 : decode cX4_bound 48 = .ok (.aload_n 0, 1) := by decide +kernel
theorem dX4_bound_49 : decode cX4_bound 49 = .ok (.getfield 28, 3) := by decide +kernel
theorem dX4_bound_52 : decode cX4_bound 52 = .ok (.iload_n 1, 1) := by decide +kernel
theorem dX4_bound_53 : decode cX4_bound 53 = .ok (.iload_n 2, 1) := by decide +kernel
theorem dX4_bound_54 : decode cX4_bound 54 = .ok (.iastore, 1) := by decide +kernel
theorem dX4_bound_55 : decode cX4_bound 55 = .ok (.aload_n 0, 1) := by decide +kernel
theorem dX4_bound_56 : decode cX4_bound 56 = .ok (.iconst 0, 1) := by decide +kernel
theorem dX4_bound_57 : decode cX4_bound 57 = .ok (.putfield 109, 3) := by decide +kernel
theorem dX4_bound_60 : decode cX4_bound 60 = .ok (.iload_n 3, 1) := by decide +kernel
theorem dX4_bound_61 : decode cX4_bound 61 = .ok (.ireturn, 1) := by decide +kernel
set_option maxRecDepth 20000 in
theorem ggX4_pair_X4_within : GoodIn wsX4_pair wsX4_within := goodIn_r _ [10] (by decide +kernel) (by decide +kernel)
set_option maxRecDepth 20000 in
theorem gX4_pair_X4_within : GoodIn wsX4_pair (va_wsS RX4 98 yX4_within wsX4_within) := goodIn_app (goodIn_of _ (by decide +kernel)) ggX4_pair_X4_within
set_option maxRecDepth 20000 in
theorem ggX4_pair_X4_fail : GoodIn wsX4_pair wsX4_fail := goodIn_r _ [14, 1, 15, 16, 17, 18, 19, 20, 21, 22, 23, 24, 25, 26, 27, 28, 29, 30, 31, 32, 33, 34, 35, 36, 37, 38, 39, 40, 41, 42, 43, 44, 45, 46] (by decide +kernel) (by decide +kernel)
set_option maxRecDepth 20000 in
theorem gX4_pair_X4_fail : GoodIn wsX4_pair (wsV RX4 102 RX4 yX4_fail wsX4_fail) := goodIn_app (goodIn_of _ (by decide +kernel)) ggX4_pair_X4_fail
theorem dX4_pair_0 : decode cX4_pair 0 = .ok (.aload_n 0, 1) := by decide +kernel
theorem dX4_pair_1 : decode cX4_pair 1 = .ok (.iconst 0, 1) := by decide +kernel
theorem dX4_pair_2 : decode cX4_pair 2 = .ok (.putfield 94, 3) := by decide +kernel
theorem dX4_pair_5 : decode cX4_pair 5 = .ok (.iload_n 1, 1) := by decide +kernel
theorem dX4_pair_6 : decode cX4_pair 6 = .ok (.iconst 0, 1) := by decide +kernel
theorem dX4_pair_7 : decode cX4_pair 7 = .ok (.aload_n 0, 1) := by decide +kernel
theorem dX4_pair_8 : decode cX4_pair 8 = .ok (.getfield 119, 3) := by decide +kernel
theorem dX4_pair_11 : decode cX4_pair 11 = .ok (.iconst 1, 1) := by decide +kernel
theorem dX4_pair_12 : decode cX4_pair 12 = .ok (.isub, 1) := by decide +kernel
theorem dX4_pair_13 : decode cX4_pair 13 = .ok (.invokestatic 98, 3) := by decide +kernel
theorem dX4_pair_16 : decode cX4_pair 16 = .ok (.ifCond .eq 17, 3) := by decide +kernel
theorem dX4_pair_19 : decode cX4_pair 19 = .ok (.iload_n 2, 1) := by decide +kernel
theorem dX4_pair_20 : decode cX4_pair 20 = .ok (.iconst 0, 1) := by decide +kernel
theorem dX4_pair_21 : decode cX4_pair 21 = .ok (.aload_n 0, 1) := by decide +kernel
theorem dX4_pair_22 : decode cX4_pair 22 = .ok (.getfield 119, 3) := by decide +kernel
theorem dX4_pair_25 : decode cX4_pair 25 = .ok (.iconst 1, 1) := by decide +kernel
theorem dX4_pair_26 : decode cX4_pair 26 = .ok (.isub, 1) := by decide +kernel
theorem dX4_pair_27 : decode cX4_pair 27 = .ok (.invokestatic 98, 3) := by decide +kernel
theorem dX4_pair_30 : decode cX4_pair 30 = .ok (.ifCond .ne 9, 3) := by decide +kernel
theorem dX4_pair_33 : decode cX4_pair 33 = .ok (.aload_n 0, 1) := by decide +kernel
theorem dX4_pair_34 : decode cX4_pair 34 = .ok (.iconst 1, 1) := by decide +kernel
theorem dX4_pair_35 : decode cX4_pair 35 = .ok (.invokevirtual 102, 3) := by decide +kernel
theorem dX4_pair_38 : decode cX4_pair 38 = .ok (.ireturn, 1) := by decide +kernel
theorem dX4_pair_39 : decode cX4_pair 39 = .ok (.iload_n 1, 1) := by decide +kernel
theorem dX4_pair_40 : decode cX4_pair 40 = .ok (.iload_n 2, 1) := by decide +kernel
theorem dX4_pair_41 : decode cX4_pair 41 = .ok (.if_icmp .ne 9, 3) := by decide +kernel
theorem dX4_pair_44 : decode cX4_pair 44 = .ok (.aload_n 0, 1) := by decide +kernel
theorem dX4_pair_45 : decode cX4_pair 45 = .ok (.iconst 2, 1) := by decide +kernel
theorem dX4_pair_46 : decode cX4_pair 46 = .ok (.invokevirtual 102, 3) := by decide +kernel
theorem dX4_pair_49 : decode cX4_pair 49 = .ok (.ireturn, 1) := by decide +kernel
theorem dX4_pair_50 : decode cX4_pair 50 = .ok (.aload_n 0, 1) := by decide +kernel
theorem dX4_pair_51 : decode cX4_pair 51 = .ok (.getfield 122, 3) := by decide +kernel
theorem dX4_pair_54 : decode cX4_pair 54 = .ok (.iconst 3, 1) := by decide +kernel
theorem dX4_pair_55 : decode cX4_pair 55 = .ok (.if_icmp .ne 9, 3) := by decide +kernel
theorem dX4_pair_58 : decode cX4_pair 58 = .ok (.aload_n 0, 1) := by decide +kernel
theorem dX4_pair_59 : decode cX4_pair 59 = .ok (.iconst 3, 1) := by decide +kernel
theorem dX4_pair_60 : decode cX4_pair 60 = .ok (.invokevirtual 102, 3) := by decide +kernel
theorem dX4_pair_63 : decode cX4_pair 63 = .ok (.ireturn, 1) := by decide +kernel
theorem dX4_pair_64 : decode cX4_pair 64 = .ok (.aload_n 0, 1) := by decide +kernel
theorem dX4_pair_65 : decode cX4_pair 65 = .ok (.getfield 31, 3) := by decide +kernel
theorem dX4_pair_68 : decode cX4_pair 68 = .ok (.aload_n 0, 1) := by decide +kernel
theorem dX4_pair_69 : decode cX4_pair 69 = .ok (.getfield 122, 3) := by decide +kernel
theorem dX4_pair_72 : decode cX4_pair 72 = .ok (.iload_n 1, 1) := by decide +kernel
theorem dX4_pair_73 : decode cX4_pair 73 = .ok (.iastore, 1) := by decide +kernel
theorem dX4_pair_74 : decode cX4_pair 74 = .ok (.aload_n 0, 1) := by decide +kernel
theorem dX4_pair_75 : decode cX4_pair 75 = .ok (.getfield 34, 3) := by decide +kernel
theorem dX4_pair_78 : decode cX4_pair 78 = .ok (.aload_n 0, 1) := by decide +kernel
theorem dX4_pair_79 : decode cX4_pair 79 = .ok (.getfield 122, 3) := by decide +kernel
theorem dX4_pair_82 : decode cX4_pair 82 = .ok (.iload_n 2, 1) := by decide +kernel
theorem dX4_pair_83 : decode cX4_pair 83 = .ok (.iastore, 1) := by decide +kernel
theorem dX4_pair_84 : decode cX4_pair 84 = .ok (.aload_n 0, 1) := by decide +kernel
theorem dX4_pair_85 : decode cX4_pair 85 = .ok (.dup, 1) := by decide +kernel
theorem dX4_pair_86 : decode cX4_pair 86 = .ok (.getfield 122, 3) := by decide +kernel
theorem dX4_pair_89 : decode cX4_pair 89 = .ok (.iconst 1, 1) := by decide +kernel
theorem dX4_pair_90 : decode cX4_pair 90 = .ok (.iadd, 1) := by decide +kernel
theorem dX4_pair_91 : decode cX4_pair 91 = .ok (.putfield 122, 3) := by decide +kernel
theorem dX4_pair_94 : decode cX4_pair 94 = .ok (.aload_n 0, 1) := by decide +kernel
theorem dX4_pair_95 : decode cX4_pair 95 = .ok (.iconst 0, 1) := by decide +kernel
theorem dX4_pair_96 : decode cX4_pair 96 = .ok (.putfield 109, 3) := by decide +kernel
theorem dX4_pair_99 : decode cX4_pair 99 = .ok (.aload_n 0, 1) := by decide +kernel
theorem dX4_pair_100 : decode cX4_pair 100 = .ok (.getfield 122, 3) := by decide +kernel
theorem dX4_pair_103 : decode cX4_pair 103 = .ok (.ireturn, 1) := by decide +kernel
theorem dX4_isOfSet_0 : decode cX4_isOfSet 0 = .ok (.aload_n 0, 1) := by decide +kernel
theorem dX4_isOfSet_1 : decode cX4_isOfSet 1 = .ok (.getfield 19, 3) := by decide +kernel
theorem dX4_isOfSet_4 : decode cX4_isOfSet 4 = .ok (.iload_n 1, 1) := by decide +kernel
theorem dX4_isOfSet_5 : decode cX4_isOfSet 5 = .ok (.iaload, 1) := by decide +kernel
theorem dX4_isOfSet_6 : decode cX4_isOfSet 6 = .ok (.aload_n 0, 1) := by decide +kernel
theorem dX4_isOfSet_7 : decode cX4_isOfSet 7 = .ok (.getfield 19, 3) := by decide +kernel
theorem dX4_isOfSet_10 : decode cX4_isOfSet 10 = .ok (.iload_n 2, 1) := by decide +kernel
theorem dX4_isOfSet_11 : decode cX4_isOfSet 11 = .ok (.iaload, 1) := by decide +kernel
theorem dX4_isOfSet_12 : decode cX4_isOfSet 12 = .ok (.ixor, 1) := by decide +kernel
theorem dX4_isOfSet_13 : decode cX4_isOfSet 13 = .ok (.aload_n 0, 1) := by decide +kernel
theorem dX4_isOfSet_14 : decode cX4_isOfSet 14 = .ok (.getfield 84, 3) := by decide +kernel
theorem dX4_isOfSet_17 : decode cX4_isOfSet 17 = .ok (.iconst 1, 1) := by decide +kernel
theorem dX4_isOfSet_18 : decode cX4_isOfSet 18 = .ok (.isub, 1) := by decide +kernel
theorem dX4_isOfSet_19 : decode cX4_isOfSet 19 = .ok (.iand, 1) := by decide +kernel
theorem dX4_isOfSet_20 : decode cX4_isOfSet 20 = .ok (.ifCond .ne 7, 3) := by decide +kernel
theorem dX4_isOfSet_23 : decode cX4_isOfSet 23 = .ok (.iconst 1, 1) := by decide +kernel
theorem dX4_isOfSet_24 : decode cX4_isOfSet 24 = .ok (.goto 4, 3) := by decide +kernel
theorem dX4_isOfSet_27 : decode cX4_isOfSet 27 = .ok (.iconst 0, 1) := by decide +kernel
theorem dX4_isOfSet_28 : decode cX4_isOfSet 28 = .ok (.ireturn, 1) := by decide +kernel
set_option maxRecDepth 20000 in
theorem ggX4_touchNow_X4_isOfSet : GoodIn wsX4_touchNow wsX4_isOfSet := goodIn_r _ [9, 10, 11, 12, 13, 14, 15, 16, 17, 18, 19, 20, 21, 22, 23, 24, 25, 26, 27, 28, 29, 30, 31, 32, 33, 34, 35, 36, 37, 38, 39, 40, 41, 42, 43] (by decide +kernel) (by decide +kernel)
set_option maxRecDepth 20000 in
theorem gX4_touchNow_X4_isOfSet : GoodIn wsX4_touchNow (wsV RX4 125 RX4 yX4_isOfSet wsX4_isOfSet) := goodIn_app (goodIn_of _ (by decide +kernel)) ggX4_touchNow_X4_isOfSet
theorem dX4_touchNow_0 : decode cX4_touchNow 0 = .ok (.aload_n 0, 1) := by decide +kernel
theorem dX4_touchNow_1 : decode cX4_touchNow 1 = .ok (.getfield 47, 3) := by decide +kernel
theorem dX4_touchNow_4 : decode cX4_touchNow 4 = .ok (.iload_n 1, 1) := by decide +kernel
theorem dX4_touchNow_5 : decode cX4_touchNow 5 = .ok (.iaload, 1) := by decide +kernel
theorem dX4_touchNow_6 : decode cX4_touchNow 6 = .ok (.ifCond .ge 10, 3) := by decide +kernel
theorem dX4_touchNow_9 : decode cX4_touchNow 9 = .ok (.aload_n 0, 1) := by decide +kernel
theorem dX4_touchNow_10 : decode cX4_touchNow 10 = .ok (.getfield 88, 3) := by decide +kernel
theorem dX4_touchNow_13 : decode cX4_touchNow 13 = .ok (.goto 9, 3) := by decide +kernel
theorem dX4_touchNow_16 : decode cX4_touchNow 16 = .ok (.aload_n 0, 1) := by decide +kernel
theorem dX4_touchNow_17 : decode cX4_touchNow 17 = .ok (.getfield 47, 3) := by decide +kernel
theorem dX4_touchNow_20 : decode cX4_touchNow 20 = .ok (.iload_n 1, 1) := by decide +kernel
theorem dX4_touchNow_21 : decode cX4_touchNow 21 = .ok (.iaload, 1) := by decide +kernel
theorem dX4_touchNow_22 : decode cX4_touchNow 22 = .ok (.istore_n 2, 1) := by decide +kernel
theorem dX4_touchNow_23 : decode cX4_touchNow 23 = .ok (.aload_n 0, 1) := by decide +kernel
theorem dX4_touchNow_24 : decode cX4_touchNow 24 = .ok (.getfield 50, 3) := by decide +kernel
theorem dX4_touchNow_27 : decode cX4_touchNow 27 = .ok (.iload_n 1, 1) := by decide +kernel
theorem dX4_touchNow_28 : decode cX4_touchNow 28 = .ok (.iaload, 1) := by decide +kernel
theorem dX4_touchNow_29 : decode cX4_touchNow 29 = .ok (.ifCond .ge 10, 3) := by decide +kernel
theorem dX4_touchNow_32 : decode cX4_touchNow 32 = .ok (.aload_n 0, 1) := by decide +kernel
theorem dX4_touchNow_33 : decode cX4_touchNow 33 = .ok (.getfield 88, 3) := by decide +kernel
theorem dX4_touchNow_36 : decode cX4_touchNow 36 = .ok (.goto 9, 3) := by decide +kernel
theorem dX4_touchNow_39 : decode cX4_touchNow 39 = .ok (.aload_n 0, 1) := by decide +kernel
theorem dX4_touchNow_40 : decode cX4_touchNow 40 = .ok (.getfield 50, 3) := by decide +kernel
theorem dX4_touchNow_43 : decode cX4_touchNow 43 = .ok (.iload_n 1, 1) := by decide +kernel
theorem dX4_touchNow_44 : decode cX4_touchNow 44 = .ok (.iaload, 1) := by decide +kernel
theorem dX4_touchNow_45 : decode cX4_touchNow 45 = .ok (.istore_n 3, 1) := by decide +kernel
theorem dX4_touchNow_46 : decode cX4_touchNow 46 = .ok (.iconst 0, 1) := by decide +kernel
theorem dX4_touchNow_47 : decode cX4_touchNow 47 = .ok (.istore 4, 2) := by decide +kernel
theorem dX4_touchNow_49 : decode cX4_touchNow 49 = .ok (.iload 4, 2) := by decide +kernel
theorem dX4_touchNow_51 : decode cX4_touchNow 51 = .ok (.aload_n 0, 1) := by decide +kernel
theorem dX4_touchNow_52 : decode cX4_touchNow 52 = .ok (.getfield 113, 3) := by decide +kernel
theorem dX4_touchNow_55 : decode cX4_touchNow 55 = .ok (.if_icmp .ge 139, 3) := by decide +kernel
theorem dX4_touchNow_58 : decode cX4_touchNow 58 = .ok (.iload 4, 2) := by decide +kernel
theorem dX4_touchNow_60 : decode cX4_touchNow 60 = .ok (.iload_n 1, 1) := by decide +kernel
theorem dX4_touchNow_61 : decode cX4_touchNow 61 = .ok (.if_icmp .eq 127, 3) := by decide +kernel
theorem dX4_touchNow_64 : decode cX4_touchNow 64 = .ok (.aload_n 0, 1) := by decide +kernel
theorem dX4_touchNow_65 : decode cX4_touchNow 65 = .ok (.iload 4, 2) := by decide +kernel
theorem dX4_touchNow_67 : decode cX4_touchNow 67 = .ok (.iload_n 1, 1) := by decide +kernel
theorem dX4_touchNow_68 : decode cX4_touchNow 68 = .ok (.invokevirtual 125, 3) := by decide +kernel
theorem dX4_touchNow_71 : decode cX4_touchNow 71 = .ok (.ifCond .eq 117, 3) := by decide +kernel
theorem dX4_touchNow_74 : decode cX4_touchNow 74 = .ok (.aload_n 0, 1) := by decide +kernel
theorem dX4_touchNow_75 : decode cX4_touchNow 75 = .ok (.getfield 47, 3) := by decide +kernel
theorem dX4_touchNow_78 : decode cX4_touchNow 78 = .ok (.iload 4, 2) := by decide +kernel
theorem dX4_touchNow_80 : decode cX4_touchNow 80 = .ok (.iaload, 1) := by decide +kernel
theorem dX4_touchNow_81 : decode cX4_touchNow 81 = .ok (.ifCond .lt 50, 3) := by decide +kernel
theorem dX4_touchNow_84 : decode cX4_touchNow 84 = .ok (.aload_n 0, 1) := by decide +kernel
theorem dX4_touchNow_85 : decode cX4_touchNow 85 = .ok (.getfield 47, 3) := by decide +kernel
theorem dX4_touchNow_88 : decode cX4_touchNow 88 = .ok (.iload 4, 2) := by decide +kernel
theorem dX4_touchNow_90 : decode cX4_touchNow 90 = .ok (.iaload, 1) := by decide +kernel
theorem dX4_touchNow_91 : decode cX4_touchNow 91 = .ok (.iload_n 2, 1) := by decide +kernel
theorem dX4_touchNow_92 : decode cX4_touchNow 92 = .ok (.if_icmp .ge 39, 3) := by decide +kernel
theorem dX4_touchNow_95 : decode cX4_touchNow 95 = .ok (.aload_n 0, 1) := by decide +kernel
theorem dX4_touchNow_96 : decode cX4_touchNow 96 = .ok (.getfield 47, 3) := by decide +kernel
theorem dX4_touchNow_99 : decode cX4_touchNow 99 = .ok (.iload 4, 2) := by decide +kernel
theorem dX4_touchNow_101 : decode cX4_touchNow 101 = .ok (.aload_n 0, 1) := by decide +kernel
theorem dX4_touchNow_102 : decode cX4_touchNow 102 = .ok (.getfield 47, 3) := by decide +kernel
theorem dX4_touchNow_105 : decode cX4_touchNow 105 = .ok (.iload 4, 2) := by decide +kernel
theorem dX4_touchNow_107 : decode cX4_touchNow 107 = .ok (.iaload, 1) := by decide +kernel
theorem dX4_touchNow_108 : decode cX4_touchNow 108 = .ok (.iconst 1, 1) := by decide +kernel
theorem dX4_touchNow_109 : decode cX4_touchNow 109 = .ok (.iadd, 1) := by decide +kernel
theorem dX4_touchNow_110 : decode cX4_touchNow 110 = .ok (.aload_n 0, 1) := by decide +kernel
theorem dX4_touchNow_111 : decode cX4_touchNow 111 = .ok (.getfield 88, 3) := by decide +kernel
theorem dX4_touchNow_114 : decode cX4_touchNow 114 = .ok (.if_icmp .ge 15, 3) := by decide +kernel
theorem dX4_touchNow_117 : decode cX4_touchNow 117 = .ok (.aload_n 0, 1) := by decide +kernel
theorem dX4_touchNow_118 : decode cX4_touchNow 118 = .ok (.getfield 47, 3) := by decide +kernel
theorem dX4_touchNow_121 : decode cX4_touchNow 121 = .ok (.iload 4, 2) := by decide +kernel
theorem dX4_touchNow_123 : decode cX4_touchNow 123 = .ok (.iaload, 1) := by decide +kernel
theorem dX4_touchNow_124 : decode cX4_touchNow 124 = .ok (.iconst 1, 1) := by decide +kernel
theorem dX4_touchNow_125 : decode cX4_touchNow 125 = .ok (.iadd, 1) := by decide +kernel
theorem dX4_touchNow_126 : decode cX4_touchNow 126 = .ok (.goto 4, 3) := by decide +kernel
theorem dX4_touchNow_129 : decode cX4_touchNow 129 = .ok (.iconst (-1), 1) := by decide +kernel
theorem dX4_touchNow_130 : decode cX4_touchNow 130 = .ok (.iastore, 1) := by decide +kernel
theorem dX4_touchNow_131 : decode cX4_touchNow 131 = .ok (.aload_n 0, 1) := by decide +kernel
theorem dX4_touchNow_132 : decode cX4_touchNow 132 = .ok (.getfield 50, 3) := by decide +kernel
theorem dX4_touchNow_135 : decode cX4_touchNow 135 = .ok (.iload 4, 2) := by decide +kernel
theorem dX4_touchNow_137 : decode cX4_touchNow 137 = .ok (.iaload, 1) := by decide +kernel
theorem dX4_touchNow_138 : decode cX4_touchNow 138 = .ok (.ifCond .lt 50, 3) := by decide +kernel
theorem dX4_touchNow_141 : decode cX4_touchNow 141 = .ok (.aload_n 0, 1) := by decide +kernel
theorem dX4_touchNow_142 : decode cX4_touchNow 142 = .ok (.getfield 50, 3) := by decide +kernel
theorem dX4_touchNow_145 : decode cX4_touchNow 145 = .ok (.iload 4, 2) := by decide +kernel
theorem dX4_touchNow_147 : decode cX4_touchNow 147 = .ok (.iaload, 1) := by decide +kernel
theorem dX4_touchNow_148 : decode cX4_touchNow 148 = .ok (.iload_n 3, 1) := by decide +kernel
theorem dX4_touchNow_149 : decode cX4_touchNow 149 = .ok (.if_icmp .gt 39, 3) := by decide +kernel
theorem dX4_touchNow_152 : decode cX4_touchNow 152 = .ok (.aload_n 0, 1) := by decide +kernel
theorem dX4_touchNow_153 : decode cX4_touchNow 153 = .ok (.getfield 50, 3) := by decide +kernel
theorem dX4_touchNow_156 : decode cX4_touchNow 156 = .ok (.iload 4, 2) := by decide +kernel
theorem dX4_touchNow_158 : decode cX4_touchNow 158 = .ok (.aload_n 0, 1) := by decide +kernel
theorem dX4_touchNow_159 : decode cX4_touchNow 159 = .ok (.getfield 50, 3) := by decide +kernel
theorem dX4_touchNow_162 : decode cX4_touchNow 162 = .ok (.iload 4, 2) := by decide +kernel
theorem dX4_touchNow_164 : decode cX4_touchNow 164 = .ok (.iaload, 1) := by decide +kernel
theorem dX4_touchNow_165 : decode cX4_touchNow 165 = .ok (.iconst 1, 1) := by decide +kernel
theorem dX4_touchNow_166 : decode cX4_touchNow 166 = .ok (.iadd, 1) := by decide +kernel
theorem dX4_touchNow_167 : decode cX4_touchNow 167 = .ok (.aload_n 0, 1) := by decide +kernel
theorem dX4_touchNow_168 : decode cX4_touchNow 168 = .ok (.getfield 88, 3) := by decide +kernel
theorem dX4_touchNow_171 : decode cX4_touchNow 171 = .ok (.if_icmp .ge 15, 3) := by decide +kernel
theorem dX4_touchNow_174 : decode cX4_touchNow 174 = .ok (.aload_n 0, 1) := by decide +kernel
theorem dX4_touchNow_175 : decode cX4_touchNow 175 = .ok (.getfield 50, 3) := by decide +kernel
theorem dX4_touchNow_178 : decode cX4_touchNow 178 = .ok (.iload 4, 2) := by decide +kernel
theorem dX4_touchNow_180 : decode cX4_touchNow 180 = .ok (.iaload, 1) := by decide +kernel
theorem dX4_touchNow_181 : decode cX4_touchNow 181 = .ok (.iconst 1, 1) := by decide +kernel
theorem dX4_touchNow_182 : decode cX4_touchNow 182 = .ok (.iadd, 1) := by decide +kernel
theorem dX4_touchNow_183 : decode cX4_touchNow 183 = .ok (.goto 4, 3) := by decide +kernel
theorem dX4_touchNow_186 : decode cX4_touchNow 186 = .ok (.iconst (-1), 1) := by decide +kernel
theorem dX4_touchNow_187 : decode cX4_touchNow 187 = .ok (.iastore, 1) := by decide +kernel
theorem dX4_touchNow_188 : decode cX4_touchNow 188 = .ok (.iinc 4 1, 3) := by decide +kernel
theorem dX4_touchNow_191 : decode cX4_touchNow 191 = .ok (.goto (-142), 3) := by decide +kernel
theorem dX4_touchNow_194 : decode cX4_touchNow 194 = .ok (.aload_n 0, 1) := by decide +kernel
theorem dX4_touchNow_195 : decode cX4_touchNow 195 = .ok (.getfield 47, 3) := by decide +kernel
theorem dX4_touchNow_198 : decode cX4_touchNow 198 = .ok (.iload_n 1, 1) := by decide +kernel
theorem dX4_touchNow_199 : decode cX4_touchNow 199 = .ok (.iconst 0, 1) := by decide +kernel
theorem dX4_touchNow_200 : decode cX4_touchNow 200 = .ok (.iastore, 1) := by decide +kernel
theorem dX4_touchNow_201 : decode cX4_touchNow 201 = .ok (.aload_n 0, 1) := by decide +kernel
theorem dX4_touchNow_202 : decode cX4_touchNow 202 = .ok (.getfield 50, 3) := by decide +kernel
theorem dX4_touchNow_205 : decode cX4_touchNow 205 = .ok (.iload_n 1, 1) := by decide +kernel
theorem dX4_touchNow_206 : decode cX4_touchNow 206 = .ok (.iconst 0, 1) := by decide +kernel
theorem dX4_touchNow_207 : decode cX4_touchNow 207 = .ok (.iastore, 1) := by decide +kernel
theorem dX4_touchNow_208 : decode cX4_touchNow 208 = .ok (.return_, 1) := by decide +kernel
