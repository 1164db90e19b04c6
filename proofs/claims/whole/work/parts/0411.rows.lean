set_option maxRecDepth 20000 in
theorem ggX4_findWays_X4_firstUnknown : GoodIn wsX4_findWays wsX4_firstUnknown := goodIn_r _ [33, 1, 11, 28, 3, 4, 34, 35, 36, 9, 37, 14, 12, 20, 21, 22, 38, 39, 40, 41, 13, 42, 43, 44, 45, 29, 58, 59, 60, 61, 62, 63, 64, 65, 66, 67, 68, 69, 70, 71, 72, 73, 74, 75, 76, 77, 78, 79, 80, 81, 82, 83, 84, 85, 86, 87, 88, 89] (by decide +kernel) (by decide +kernel)
set_option maxRecDepth 20000 in
theorem gX4_findWays_X4_firstUnknown : GoodIn wsX4_findWays (wsV RX4 170 RX4 yX4_firstUnknown wsX4_firstUnknown) := goodIn_app (goodIn_of _ (by decide +kernel)) ggX4_findWays_X4_firstUnknown
set_option maxRecDepth 20000 in
theorem ggX4_findWays_X4_workOut : GoodIn wsX4_findWays wsX4_workOut := goodIn_r _ [49, 1, 50, 11, 28, 3, 51, 52, 53, 54, 55, 56, 9, 57, 34, 35, 36, 37, 14, 12, 20, 21, 22, 38, 39, 40, 41, 13, 42, 43, 44, 45, 29, 58, 59, 60, 61, 62, 63, 64, 65, 66, 67, 68, 69, 70, 71, 72, 73, 74, 75, 76, 77, 78, 79, 80, 81, 82, 83, 84, 85, 86, 87, 88, 89] (by decide +kernel) (by decide +kernel)
set_option maxRecDepth 20000 in
theorem gX4_findWays_X4_workOut : GoodIn wsX4_findWays (wsV RX4 173 RX4 yX4_workOut wsX4_workOut) := goodIn_app (goodIn_of _ (by decide +kernel)) ggX4_findWays_X4_workOut
theorem dX4_findWays_0 : decode cX4_findWays 0 = .ok (.aload_n 0, 1) := by decide +kernel
theorem dX4_findWays_1 : decode cX4_findWays 1 = .ok (.invokevirtual 159, 3) := by decide +kernel
theorem dX4_findWays_4 : decode cX4_findWays 4 = .ok (.istore_n 1, 1) := by decide +kernel
theorem dX4_findWays_5 : decode cX4_findWays 5 = .ok (.aload_n 0, 1) := by decide +kernel
theorem dX4_findWays_6 : decode cX4_findWays 6 = .ok (.aload_n 0, 1) := by decide +kernel
theorem dX4_findWays_7 : decode cX4_findWays 7 = .ok (.getfield 106, 3) := by decide +kernel
theorem dX4_findWays_10 : decode cX4_findWays 10 = .ok (.ifCond .le 18, 3) := by decide +kernel
theorem dX4_findWays_13 : decode cX4_findWays 13 = .ok (.iload_n 1, 1) := by decide +kernel
theorem dX4_findWays_14 : decode cX4_findWays 14 = .ok (.ifCond .le 14, 3) := by decide +kernel
theorem dX4_findWays_17 : decode cX4_findWays 17 = .ok (.aload_n 0, 1) := by decide +kernel
theorem dX4_findWays_18 : decode cX4_findWays 18 = .ok (.invokevirtual 163, 3) := by decide +kernel
theorem dX4_findWays_21 : decode cX4_findWays 21 = .ok (.ifCond .ne 7, 3) := by decide +kernel
theorem dX4_findWays_24 : decode cX4_findWays 24 = .ok (.iconst 1, 1) := by decide +kernel
theorem dX4_findWays_25 : decode cX4_findWays 25 = .ok (.goto 4, 3) := by decide +kernel
theorem dX4_findWays_28 : decode cX4_findWays 28 = .ok (.iconst 0, 1) := by decide +kernel
theorem dX4_findWays_29 : decode cX4_findWays 29 = .ok (.putfield 167, 3) := by decide +kernel
theorem dX4_findWays_32 : decode cX4_findWays 32 = .ok (.aload_n 0, 1) := by decide +kernel
theorem dX4_findWays_33 : decode cX4_findWays 33 = .ok (.getfield 167, 3) := by decide +kernel
theorem dX4_findWays_36 : decode cX4_findWays 36 = .ok (.ifCond .ne 4, 3) := by decide +kernel
theorem dX4_findWays_39 : decode cX4_findWays 39 = .ok (.return_, 1) := by decide +kernel
theorem dX4_findWays_40 : decode cX4_findWays 40 = .ok (.iconst 0, 1) := by decide +kernel
theorem dX4_findWays_41 : decode cX4_findWays 41 = .ok (.istore_n 2, 1) := by decide +kernel
theorem dX4_findWays_42 : decode cX4_findWays 42 = .ok (.iload_n 2, 1) := by decide +kernel
theorem dX4_findWays_43 : decode cX4_findWays 43 = .ok (.iload_n 1, 1) := by decide +kernel
theorem dX4_findWays_44 : decode cX4_findWays 44 = .ok (.if_icmp .ge 18, 3) := by decide +kernel
theorem dX4_findWays_47 : decode cX4_findWays 47 = .ok (.aload_n 0, 1) := by decide +kernel
theorem dX4_findWays_48 : decode cX4_findWays 48 = .ok (.getfield 70, 3) := by decide +kernel
theorem dX4_findWays_51 : decode cX4_findWays 51 = .ok (.iload_n 2, 1) := by decide +kernel
theorem dX4_findWays_52 : decode cX4_findWays 52 = .ok (.ldc2_w 152, 3) := by decide +kernel
theorem dX4_findWays_55 : decode cX4_findWays 55 = .ok (.lastore, 1) := by decide +kernel
theorem dX4_findWays_56 : decode cX4_findWays 56 = .ok (.iinc 2 1, 3) := by decide +kernel
theorem dX4_findWays_59 : decode cX4_findWays 59 = .ok (.goto (-17), 3) := by decide +kernel
theorem dX4_findWays_62 : decode cX4_findWays 62 = .ok (.iconst 1, 1) := by decide +kernel
theorem dX4_findWays_63 : decode cX4_findWays 63 = .ok (.istore_n 2, 1) := by decide +kernel
theorem dX4_findWays_64 : decode cX4_findWays 64 = .ok (.aload_n 0, 1) := by decide +kernel
theorem dX4_findWays_65 : decode cX4_findWays 65 = .ok (.getfield 77, 3) := by decide +kernel
theorem dX4_findWays_68 : decode cX4_findWays 68 = .ok (.iconst 0, 1) := by decide +kernel
theorem dX4_findWays_69 : decode cX4_findWays 69 = .ok (.iconst 0, 1) := by decide +kernel
theorem dX4_findWays_70 : decode cX4_findWays 70 = .ok (.iastore, 1) := by decide +kernel
theorem dX4_findWays_71 : decode cX4_findWays 71 = .ok (.iload_n 2, 1) := by decide +kernel
theorem dX4_findWays_72 : decode cX4_findWays 72 = .ok (.ifCond .le 51, 3) := by decide +kernel
theorem dX4_findWays_75 : decode cX4_findWays 75 = .ok (.aload_n 0, 1) := by decide +kernel
theorem dX4_findWays_76 : decode cX4_findWays 76 = .ok (.aload_n 0, 1) := by decide +kernel
theorem dX4_findWays_77 : decode cX4_findWays 77 = .ok (.getfield 77, 3) := by decide +kernel
theorem dX4_findWays_80 : decode cX4_findWays 80 = .ok (.iload_n 2, 1) := by decide +kernel
theorem dX4_findWays_81 : decode cX4_findWays 81 = .ok (.iconst 1, 1) := by decide +kernel
theorem dX4_findWays_82 : decode cX4_findWays 82 = .ok (.isub, 1) := by decide +kernel
theorem dX4_findWays_83 : decode cX4_findWays 83 = .ok (.iaload, 1) := by decide +kernel
theorem dX4_findWays_84 : decode cX4_findWays 84 = .ok (.invokevirtual 170, 3) := by decide +kernel
theorem dX4_findWays_87 : decode cX4_findWays 87 = .ok (.istore_n 3, 1) := by decide +kernel
theorem dX4_findWays_88 : decode cX4_findWays 88 = .ok (.iload_n 3, 1) := by decide +kernel
theorem dX4_findWays_89 : decode cX4_findWays 89 = .ok (.ifCond .lt 16, 3) := by decide +kernel
theorem dX4_findWays_92 : decode cX4_findWays 92 = .ok (.aload_n 0, 1) := by decide +kernel
theorem dX4_findWays_93 : decode cX4_findWays 93 = .ok (.getfield 77, 3) := by decide +kernel
theorem dX4_findWays_96 : decode cX4_findWays 96 = .ok (.iload_n 2, 1) := by decide +kernel
theorem dX4_findWays_97 : decode cX4_findWays 97 = .ok (.iload_n 3, 1) := by decide +kernel
theorem dX4_findWays_98 : decode cX4_findWays 98 = .ok (.iastore, 1) := by decide +kernel
theorem dX4_findWays_99 : decode cX4_findWays 99 = .ok (.iinc 2 1, 3) := by decide +kernel
theorem dX4_findWays_102 : decode cX4_findWays 102 = .ok (.goto 18, 3) := by decide +kernel
theorem dX4_findWays_105 : decode cX4_findWays 105 = .ok (.aload_n 0, 1) := by decide +kernel
theorem dX4_findWays_106 : decode cX4_findWays 106 = .ok (.aload_n 0, 1) := by decide +kernel
theorem dX4_findWays_107 : decode cX4_findWays 107 = .ok (.getfield 77, 3) := by decide +kernel
theorem dX4_findWays_110 : decode cX4_findWays 110 = .ok (.iload_n 2, 1) := by decide +kernel
theorem dX4_findWays_111 : decode cX4_findWays 111 = .ok (.iconst 1, 1) := by decide +kernel
theorem dX4_findWays_112 : decode cX4_findWays 112 = .ok (.isub, 1) := by decide +kernel
theorem dX4_findWays_113 : decode cX4_findWays 113 = .ok (.iaload, 1) := by decide +kernel
theorem dX4_findWays_114 : decode cX4_findWays 114 = .ok (.invokevirtual 173, 3) := by decide +kernel
theorem dX4_findWays_117 : decode cX4_findWays 117 = .ok (.iinc 2 (-1), 3) := by decide +kernel
theorem dX4_findWays_120 : decode cX4_findWays 120 = .ok (.goto (-49), 3) := by decide +kernel
theorem dX4_findWays_123 : decode cX4_findWays 123 = .ok (.aload_n 0, 1) := by decide +kernel
theorem dX4_findWays_124 : decode cX4_findWays 124 = .ok (.aload_n 0, 1) := by decide +kernel
theorem dX4_findWays_125 : decode cX4_findWays 125 = .ok (.getfield 70, 3) := by decide +kernel
theorem dX4_findWays_128 : decode cX4_findWays 128 = .ok (.iconst 0, 1) := by decide +kernel
theorem dX4_findWays_129 : decode cX4_findWays 129 = .ok (.laload, 1) := by decide +kernel
theorem dX4_findWays_130 : decode cX4_findWays 130 = .ok (.lconst 0, 1) := by decide +kernel
theorem dX4_findWays_131 : decode cX4_findWays 131 = .ok (.lcmp, 1) := by decide +kernel
theorem dX4_findWays_132 : decode cX4_findWays 132 = .ok (.ifCond .lt 7, 3) := by decide +kernel
theorem dX4_findWays_135 : decode cX4_findWays 135 = .ok (.iconst 1, 1) := by decide +kernel
theorem dX4_findWays_136 : decode cX4_findWays 136 = .ok (.goto 4, 3) := by decide +kernel
theorem dX4_findWays_139 : decode cX4_findWays 139 = .ok (.iconst 0, 1) := by decide +kernel
theorem dX4_findWays_140 : decode cX4_findWays 140 = .ok (.putfield 167, 3) := by decide +kernel
theorem dX4_findWays_143 : decode cX4_findWays 143 = .ok (.return_, 1) := by decide +kernel
