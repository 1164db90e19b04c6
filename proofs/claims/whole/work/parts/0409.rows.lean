set_option maxRecDepth 20000 in
theorem ggX4_behind_X4_isTaken : GoodIn wsX4_behind wsX4_isTaken := goodIn_r _ [10, 5, 11, 12, 13, 14, 15, 16, 17, 18, 19, 20, 21, 22, 23, 24, 25, 26, 27, 28, 29, 30, 31, 32, 33, 34, 35, 36, 37, 38, 39, 40, 41, 42] (by decide +kernel) (by decide +kernel)
set_option maxRecDepth 20000 in
theorem gX4_behind_X4_isTaken : GoodIn wsX4_behind (wsV RX4 143 RX4 yX4_isTaken wsX4_isTaken) := goodIn_app (goodIn_of _ (by decide +kernel)) ggX4_behind_X4_isTaken
theorem dX4_behind_0 : decode cX4_behind 0 = .ok (.iload_n 1, 1) := by decide +kernel
theorem dX4_behind_1 : decode cX4_behind 1 = .ok (.aload_n 0, 1) := by decide +kernel
theorem dX4_behind_2 : decode cX4_behind 2 = .ok (.getfield 22, 3) := by decide +kernel
theorem dX4_behind_5 : decode cX4_behind 5 = .ok (.iload_n 2, 1) := by decide +kernel
theorem dX4_behind_6 : decode cX4_behind 6 = .ok (.iaload, 1) := by decide +kernel
theorem dX4_behind_7 : decode cX4_behind 7 = .ok (.isub, 1) := by decide +kernel
theorem dX4_behind_8 : decode cX4_behind 8 = .ok (.aload_n 0, 1) := by decide +kernel
theorem dX4_behind_9 : decode cX4_behind 9 = .ok (.getfield 25, 3) := by decide +kernel
theorem dX4_behind_12 : decode cX4_behind 12 = .ok (.iload_n 2, 1) := by decide +kernel
theorem dX4_behind_13 : decode cX4_behind 13 = .ok (.iaload, 1) := by decide +kernel
theorem dX4_behind_14 : decode cX4_behind 14 = .ok (.iadd, 1) := by decide +kernel
theorem dX4_behind_15 : decode cX4_behind 15 = .ok (.istore_n 3, 1) := by decide +kernel
theorem dX4_behind_16 : decode cX4_behind 16 = .ok (.aload_n 0, 1) := by decide +kernel
theorem dX4_behind_17 : decode cX4_behind 17 = .ok (.getfield 28, 3) := by decide +kernel
theorem dX4_behind_20 : decode cX4_behind 20 = .ok (.iload_n 2, 1) := by decide +kernel
theorem dX4_behind_21 : decode cX4_behind 21 = .ok (.iaload, 1) := by decide +kernel
theorem dX4_behind_22 : decode cX4_behind 22 = .ok (.ifCond .lt 12, 3) := by decide +kernel
theorem dX4_behind_25 : decode cX4_behind 25 = .ok (.iload_n 3, 1) := by decide +kernel
theorem dX4_behind_26 : decode cX4_behind 26 = .ok (.aload_n 0, 1) := by decide +kernel
theorem dX4_behind_27 : decode cX4_behind 27 = .ok (.getfield 63, 3) := by decide +kernel
theorem dX4_behind_30 : decode cX4_behind 30 = .ok (.iload_n 2, 1) := by decide +kernel
theorem dX4_behind_31 : decode cX4_behind 31 = .ok (.iaload, 1) := by decide +kernel
theorem dX4_behind_32 : decode cX4_behind 32 = .ok (.iadd, 1) := by decide +kernel
theorem dX4_behind_33 : decode cX4_behind 33 = .ok (.istore_n 3, 1) := by decide +kernel
theorem dX4_behind_34 : decode cX4_behind 34 = .ok (.aload_n 0, 1) := by decide +kernel
theorem dX4_behind_35 : decode cX4_behind 35 = .ok (.getfield 66, 3) := by decide +kernel
theorem dX4_behind_38 : decode cX4_behind 38 = .ok (.iload_n 2, 1) := by decide +kernel
theorem dX4_behind_39 : decode cX4_behind 39 = .ok (.iaload, 1) := by decide +kernel
theorem dX4_behind_40 : decode cX4_behind 40 = .ok (.ifCond .le 23, 3) := by decide +kernel
theorem dX4_behind_43 : decode cX4_behind 43 = .ok (.aload_n 0, 1) := by decide +kernel
theorem dX4_behind_44 : decode cX4_behind 44 = .ok (.iload_n 1, 1) := by decide +kernel
theorem dX4_behind_45 : decode cX4_behind 45 = .ok (.iload_n 2, 1) := by decide +kernel
theorem dX4_behind_46 : decode cX4_behind 46 = .ok (.invokevirtual 143, 3) := by decide +kernel
theorem dX4_behind_49 : decode cX4_behind 49 = .ok (.ifCond .ne 14, 3) := by decide +kernel
theorem dX4_behind_52 : decode cX4_behind 52 = .ok (.iload_n 3, 1) := by decide +kernel
theorem dX4_behind_53 : decode cX4_behind 53 = .ok (.aload_n 0, 1) := by decide +kernel
theorem dX4_behind_54 : decode cX4_behind 54 = .ok (.getfield 66, 3) := by decide +kernel
theorem dX4_behind_57 : decode cX4_behind 57 = .ok (.iload_n 2, 1) := by decide +kernel
theorem dX4_behind_58 : decode cX4_behind 58 = .ok (.iaload, 1) := by decide +kernel
theorem dX4_behind_59 : decode cX4_behind 59 = .ok (.iadd, 1) := by decide +kernel
theorem dX4_behind_60 : decode cX4_behind 60 = .ok (.goto 4, 3) := by decide +kernel
theorem dX4_behind_63 : decode cX4_behind 63 = .ok (.iload_n 3, 1) := by decide +kernel
theorem dX4_behind_64 : decode cX4_behind 64 = .ok (.ireturn, 1) := by decide +kernel
theorem dX4_isEnd_0 : decode cX4_isEnd 0 = .ok (.iconst 0, 1) := by decide +kernel
theorem dX4_isEnd_1 : decode cX4_isEnd 1 = .ok (.istore_n 2, 1) := by decide +kernel
theorem dX4_isEnd_2 : decode cX4_isEnd 2 = .ok (.iconst 0, 1) := by decide +kernel
theorem dX4_isEnd_3 : decode cX4_isEnd 3 = .ok (.istore_n 3, 1) := by decide +kernel
theorem dX4_isEnd_4 : decode cX4_isEnd 4 = .ok (.iload_n 3, 1) := by decide +kernel
theorem dX4_isEnd_5 : decode cX4_isEnd 5 = .ok (.aload_n 0, 1) := by decide +kernel
theorem dX4_isEnd_6 : decode cX4_isEnd 6 = .ok (.getfield 119, 3) := by decide +kernel
theorem dX4_isEnd_9 : decode cX4_isEnd 9 = .ok (.if_icmp .ge 29, 3) := by decide +kernel
theorem dX4_isEnd_12 : decode cX4_isEnd 12 = .ok (.iload_n 2, 1) := by decide +kernel
theorem dX4_isEnd_13 : decode cX4_isEnd 13 = .ok (.ifCond .ne 13, 3) := by decide +kernel
theorem dX4_isEnd_16 : decode cX4_isEnd 16 = .ok (.aload_n 0, 1) := by decide +kernel
theorem dX4_isEnd_17 : decode cX4_isEnd 17 = .ok (.getfield 22, 3) := by decide +kernel
theorem dX4_isEnd_20 : decode cX4_isEnd 20 = .ok (.iload_n 3, 1) := by decide +kernel
theorem dX4_isEnd_21 : decode cX4_isEnd 21 = .ok (.iaload, 1) := by decide +kernel
theorem dX4_isEnd_22 : decode cX4_isEnd 22 = .ok (.iload_n 1, 1) := by decide +kernel
theorem dX4_isEnd_23 : decode cX4_isEnd 23 = .ok (.if_icmp .ne 7, 3) := by decide +kernel
theorem dX4_isEnd_26 : decode cX4_isEnd 26 = .ok (.iconst 1, 1) := by decide +kernel
theorem dX4_isEnd_27 : decode cX4_isEnd 27 = .ok (.goto 4, 3) := by decide +kernel
theorem dX4_isEnd_30 : decode cX4_isEnd 30 = .ok (.iconst 0, 1) := by decide +kernel
theorem dX4_isEnd_31 : decode cX4_isEnd 31 = .ok (.istore_n 2, 1) := by decide +kernel
theorem dX4_isEnd_32 : decode cX4_isEnd 32 = .ok (.iinc 3 1, 3) := by decide +kernel
theorem dX4_isEnd_35 : decode cX4_isEnd 35 = .ok (.goto (-31), 3) := by decide +kernel
theorem dX4_isEnd_38 : decode cX4_isEnd 38 = .ok (.iload_n 2, 1) := by decide +kernel
theorem dX4_isEnd_39 : decode cX4_isEnd 39 = .ok (.ifCond .ne 7, 3) := by decide +kernel
theorem dX4_isEnd_42 : decode cX4_isEnd 42 = .ok (.iconst 1, 1) := by decide +kernel
theorem dX4_isEnd_43 : decode cX4_isEnd 43 = .ok (.goto 4, 3) := by decide +kernel
theorem dX4_isEnd_46 : decode cX4_isEnd 46 = .ok (.iconst 0, 1) := by decide +kernel
theorem dX4_isEnd_47 : decode cX4_isEnd 47 = .ok (.ireturn, 1) := by decide +kernel
set_option maxRecDepth 20000 in
theorem ggX4_firstUnknown_X4_allows : GoodIn wsX4_firstUnknown wsX4_allows := goodIn_r _ [10, 11, 12, 13, 14, 15, 16, 17, 18, 9, 19, 20, 26, 27, 28, 29, 30, 31, 32, 33, 34, 35, 36, 37, 38, 39, 40, 41, 42, 43, 44, 45, 46, 47, 48, 49, 50, 51, 52, 53, 54, 55, 56, 57] (by decide +kernel) (by decide +kernel)
set_option maxRecDepth 20000 in
theorem gX4_firstUnknown_X4_allows : GoodIn wsX4_firstUnknown (wsV RX4 146 RX4 yX4_allows wsX4_allows) := goodIn_app (goodIn_of _ (by decide +kernel)) ggX4_firstUnknown_X4_allows
set_option maxRecDepth 20000 in
theorem ggX4_firstUnknown_X4_behind : GoodIn wsX4_firstUnknown wsX4_behind := goodIn_r _ [24, 3, 25, 11, 12, 20, 16, 17, 18, 9, 19, 26, 27, 28, 29, 30, 31, 32, 33, 34, 35, 36, 37, 38, 39, 40, 41, 42, 43, 44, 45, 46, 47, 48, 49, 50, 51, 52, 53, 54, 55, 56, 57] (by decide +kernel) (by decide +kernel)
set_option maxRecDepth 20000 in
theorem gX4_firstUnknown_X4_behind : GoodIn wsX4_firstUnknown (wsV RX4 149 RX4 yX4_behind wsX4_behind) := goodIn_app (goodIn_of _ (by decide +kernel)) ggX4_firstUnknown_X4_behind
theorem dX4_firstUnknown_0 : decode cX4_firstUnknown 0 = .ok (.iload_n 1, 1) := by decide +kernel
theorem dX4_firstUnknown_1 : decode cX4_firstUnknown 1 = .ok (.aload_n 0, 1) := by decide +kernel
theorem dX4_firstUnknown_2 : decode cX4_firstUnknown 2 = .ok (.getfield 106, 3) := by decide +kernel
theorem dX4_firstUnknown_5 : decode cX4_firstUnknown 5 = .ok (.irem, 1) := by decide +kernel
theorem dX4_firstUnknown_6 : decode cX4_firstUnknown 6 = .ok (.istore_n 2, 1) := by decide +kernel
theorem dX4_firstUnknown_7 : decode cX4_firstUnknown 7 = .ok (.iconst 0, 1) := by decide +kernel
theorem dX4_firstUnknown_8 : decode cX4_firstUnknown 8 = .ok (.istore_n 3, 1) := by decide +kernel
theorem dX4_firstUnknown_9 : decode cX4_firstUnknown 9 = .ok (.iload_n 3, 1) := by decide +kernel
theorem dX4_firstUnknown_10 : decode cX4_firstUnknown 10 = .ok (.aload_n 0, 1) := by decide +kernel
theorem dX4_firstUnknown_11 : decode cX4_firstUnknown 11 = .ok (.getfield 119, 3) := by decide +kernel
theorem dX4_firstUnknown_14 : decode cX4_firstUnknown 14 = .ok (.if_icmp .ge 53, 3) := by decide +kernel
theorem dX4_firstUnknown_17 : decode cX4_firstUnknown 17 = .ok (.aload_n 0, 1) := by decide +kernel
theorem dX4_firstUnknown_18 : decode cX4_firstUnknown 18 = .ok (.getfield 22, 3) := by decide +kernel
theorem dX4_firstUnknown_21 : decode cX4_firstUnknown 21 = .ok (.iload_n 3, 1) := by decide +kernel
theorem dX4_firstUnknown_22 : decode cX4_firstUnknown 22 = .ok (.iaload, 1) := by decide +kernel
theorem dX4_firstUnknown_23 : decode cX4_firstUnknown 23 = .ok (.iload_n 2, 1) := by decide +kernel
theorem dX4_firstUnknown_24 : decode cX4_firstUnknown 24 = .ok (.if_icmp .ne 37, 3) := by decide +kernel
theorem dX4_firstUnknown_27 : decode cX4_firstUnknown 27 = .ok (.aload_n 0, 1) := by decide +kernel
theorem dX4_firstUnknown_28 : decode cX4_firstUnknown 28 = .ok (.iload_n 1, 1) := by decide +kernel
theorem dX4_firstUnknown_29 : decode cX4_firstUnknown 29 = .ok (.iload_n 3, 1) := by decide +kernel
theorem dX4_firstUnknown_30 : decode cX4_firstUnknown 30 = .ok (.invokevirtual 146, 3) := by decide +kernel
theorem dX4_firstUnknown_33 : decode cX4_firstUnknown 33 = .ok (.ifCond .eq 28, 3) := by decide +kernel
theorem dX4_firstUnknown_36 : decode cX4_firstUnknown 36 = .ok (.aload_n 0, 1) := by decide +kernel
theorem dX4_firstUnknown_37 : decode cX4_firstUnknown 37 = .ok (.getfield 70, 3) := by decide +kernel
theorem dX4_firstUnknown_40 : decode cX4_firstUnknown 40 = .ok (.aload_n 0, 1) := by decide +kernel
theorem dX4_firstUnknown_41 : decode cX4_firstUnknown 41 = .ok (.iload_n 1, 1) := by decide +kernel
theorem dX4_firstUnknown_42 : decode cX4_firstUnknown 42 = .ok (.iload_n 3, 1) := by decide +kernel
theorem dX4_firstUnknown_43 : decode cX4_firstUnknown 43 = .ok (.invokevirtual 149, 3) := by decide +kernel
theorem dX4_firstUnknown_46 : decode cX4_firstUnknown 46 = .ok (.laload, 1) := by decide +kernel
theorem dX4_firstUnknown_47 : decode cX4_firstUnknown 47 = .ok (.ldc2_w 152, 3) := by decide +kernel
theorem dX4_firstUnknown_50 : decode cX4_firstUnknown 50 = .ok (.lcmp, 1) := by decide +kernel
theorem dX4_firstUnknown_51 : decode cX4_firstUnknown 51 = .ok (.ifCond .ne 10, 3) := by decide +kernel
theorem dX4_firstUnknown_54 : decode cX4_firstUnknown 54 = .ok (.aload_n 0, 1) := by decide +kernel
theorem dX4_firstUnknown_55 : decode cX4_firstUnknown 55 = .ok (.iload_n 1, 1) := by decide +kernel
theorem dX4_firstUnknown_56 : decode cX4_firstUnknown 56 = .ok (.iload_n 3, 1) := by decide +kernel
theorem dX4_firstUnknown_57 : decode cX4_firstUnknown 57 = .ok (.invokevirtual 149, 3) := by decide +kernel
theorem dX4_firstUnknown_60 : decode cX4_firstUnknown 60 = .ok (.ireturn, 1) := by decide +kernel
theorem dX4_firstUnknown_61 : decode cX4_firstUnknown 61 = .ok (.iinc 3 1, 3) := by decide +kernel
theorem dX4_firstUnknown_64 : decode cX4_firstUnknown 64 = .ok (.goto (-55), 3) := by decide +kernel
theorem dX4_firstUnknown_67 : decode cX4_firstUnknown 67 = .ok (.iconst (-1), 1) := by decide +kernel
theorem dX4_firstUnknown_68 : decode cX4_firstUnknown 68 = .ok (.ireturn, 1) := by decide +kernel
set_option maxRecDepth 20000 in
theorem ggX4_workOut_X4_isEnd : GoodIn wsX4_workOut wsX4_isEnd := goodIn_r _ [13, 3, 4, 33, 34, 35, 36, 37, 38, 39, 40, 41, 42, 43, 44, 45, 46, 47, 48, 49, 50, 51, 52, 53, 54, 55, 56, 57, 58, 59, 60, 61, 62, 63, 64] (by decide +kernel) (by decide +kernel)
set_option maxRecDepth 20000 in
theorem gX4_workOut_X4_isEnd : GoodIn wsX4_workOut (wsV RX4 154 RX4 yX4_isEnd wsX4_isEnd) := goodIn_app (goodIn_of _ (by decide +kernel)) ggX4_workOut_X4_isEnd
