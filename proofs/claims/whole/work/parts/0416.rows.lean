set_option maxRecDepth 20000 in
theorem ggX4_goesOn_X4_behind : GoodIn wsX4_goesOn wsX4_behind := goodIn_r _ [26, 3, 27, 13, 14, 22, 18, 19, 20, 11, 21, 28, 29, 30, 31, 32, 33, 34, 35, 36, 37, 38, 39, 40, 41, 42, 43, 44, 45, 46, 47, 48, 49, 50, 51, 52, 53, 54, 55, 56, 57, 58, 59] (by decide +kernel) (by decide +kernel)
set_option maxRecDepth 20000 in
theorem gX4_goesOn_X4_behind : GoodIn wsX4_goesOn (wsV RX4 149 RX4 yX4_behind wsX4_behind) := goodIn_app (goodIn_of _ (by decide +kernel)) ggX4_goesOn_X4_behind
theorem dX4_goesOn_0 : decode cX4_goesOn 0 = .ok (.iload_n 1, 1) := by decide +kernel
theorem dX4_goesOn_1 : decode cX4_goesOn 1 = .ok (.aload_n 0, 1) := by decide +kernel
theorem dX4_goesOn_2 : decode cX4_goesOn 2 = .ok (.getfield 106, 3) := by decide +kernel
theorem dX4_goesOn_5 : decode cX4_goesOn 5 = .ok (.irem, 1) := by decide +kernel
theorem dX4_goesOn_6 : decode cX4_goesOn 6 = .ok (.istore_n 3, 1) := by decide +kernel
theorem dX4_goesOn_7 : decode cX4_goesOn 7 = .ok (.iconst 0, 1) := by decide +kernel
theorem dX4_goesOn_8 : decode cX4_goesOn 8 = .ok (.istore 4, 2) := by decide +kernel
theorem dX4_goesOn_10 : decode cX4_goesOn 10 = .ok (.iload 4, 2) := by decide +kernel
theorem dX4_goesOn_12 : decode cX4_goesOn 12 = .ok (.aload_n 0, 1) := by decide +kernel
theorem dX4_goesOn_13 : decode cX4_goesOn 13 = .ok (.getfield 119, 3) := by decide +kernel
theorem dX4_goesOn_16 : decode cX4_goesOn 16 = .ok (.if_icmp .ge 126, 3) := by decide +kernel
theorem dX4_goesOn_19 : decode cX4_goesOn 19 = .ok (.aload_n 0, 1) := by decide +kernel
theorem dX4_goesOn_20 : decode cX4_goesOn 20 = .ok (.getfield 22, 3) := by decide +kernel
theorem dX4_goesOn_23 : decode cX4_goesOn 23 = .ok (.iload 4, 2) := by decide +kernel
theorem dX4_goesOn_25 : decode cX4_goesOn 25 = .ok (.iaload, 1) := by decide +kernel
theorem dX4_goesOn_26 : decode cX4_goesOn 26 = .ok (.iload_n 3, 1) := by decide +kernel
theorem dX4_goesOn_27 : decode cX4_goesOn 27 = .ok (.if_icmp .ne 109, 3) := by decide +kernel
theorem dX4_goesOn_30 : decode cX4_goesOn 30 = .ok (.aload_n 0, 1) := by decide +kernel
theorem dX4_goesOn_31 : decode cX4_goesOn 31 = .ok (.iload_n 1, 1) := by decide +kernel
theorem dX4_goesOn_32 : decode cX4_goesOn 32 = .ok (.iload 4, 2) := by decide +kernel
theorem dX4_goesOn_34 : decode cX4_goesOn 34 = .ok (.invokevirtual 146, 3) := by decide +kernel
theorem dX4_goesOn_37 : decode cX4_goesOn 37 = .ok (.ifCond .eq 99, 3) := by decide +kernel
theorem dX4_goesOn_40 : decode cX4_goesOn 40 = .ok (.aload_n 0, 1) := by decide +kernel
theorem dX4_goesOn_41 : decode cX4_goesOn 41 = .ok (.iload_n 1, 1) := by decide +kernel
theorem dX4_goesOn_42 : decode cX4_goesOn 42 = .ok (.iload 4, 2) := by decide +kernel
theorem dX4_goesOn_44 : decode cX4_goesOn 44 = .ok (.invokevirtual 149, 3) := by decide +kernel
theorem dX4_goesOn_47 : decode cX4_goesOn 47 = .ok (.istore 5, 2) := by decide +kernel
theorem dX4_goesOn_49 : decode cX4_goesOn 49 = .ok (.iload_n 2, 1) := by decide +kernel
theorem dX4_goesOn_50 : decode cX4_goesOn 50 = .ok (.ifCond .ne 42, 3) := by decide +kernel
theorem dX4_goesOn_53 : decode cX4_goesOn 53 = .ok (.aload_n 0, 1) := by decide +kernel
theorem dX4_goesOn_54 : decode cX4_goesOn 54 = .ok (.getfield 70, 3) := by decide +kernel
theorem dX4_goesOn_57 : decode cX4_goesOn 57 = .ok (.iload 5, 2) := by decide +kernel
theorem dX4_goesOn_59 : decode cX4_goesOn 59 = .ok (.laload, 1) := by decide +kernel
theorem dX4_goesOn_60 : decode cX4_goesOn 60 = .ok (.lconst 0, 1) := by decide +kernel
theorem dX4_goesOn_61 : decode cX4_goesOn 61 = .ok (.lcmp, 1) := by decide +kernel
theorem dX4_goesOn_62 : decode cX4_goesOn 62 = .ok (.ifCond .lt 30, 3) := by decide +kernel
theorem dX4_goesOn_65 : decode cX4_goesOn 65 = .ok (.aload_n 0, 1) := by decide +kernel
theorem dX4_goesOn_66 : decode cX4_goesOn 66 = .ok (.getfield 70, 3) := by decide +kernel
theorem dX4_goesOn_69 : decode cX4_goesOn 69 = .ok (.iload 5, 2) := by decide +kernel
theorem dX4_goesOn_71 : decode cX4_goesOn 71 = .ok (.laload, 1) := by decide +kernel
theorem dX4_goesOn_72 : decode cX4_goesOn 72 = .ok (.aload_n 0, 1) := by decide +kernel
theorem dX4_goesOn_73 : decode cX4_goesOn 73 = .ok (.getfield 56, 3) := by decide +kernel
theorem dX4_goesOn_76 : decode cX4_goesOn 76 = .ok (.iload_n 3, 1) := by decide +kernel
theorem dX4_goesOn_77 : decode cX4_goesOn 77 = .ok (.laload, 1) := by decide +kernel
theorem dX4_goesOn_78 : decode cX4_goesOn 78 = .ok (.ladd, 1) := by decide +kernel
theorem dX4_goesOn_79 : decode cX4_goesOn 79 = .ok (.aload_n 0, 1) := by decide +kernel
theorem dX4_goesOn_80 : decode cX4_goesOn 80 = .ok (.getfield 70, 3) := by decide +kernel
theorem dX4_goesOn_83 : decode cX4_goesOn 83 = .ok (.iload_n 1, 1) := by decide +kernel
theorem dX4_goesOn_84 : decode cX4_goesOn 84 = .ok (.laload, 1) := by decide +kernel
theorem dX4_goesOn_85 : decode cX4_goesOn 85 = .ok (.lcmp, 1) := by decide +kernel
theorem dX4_goesOn_86 : decode cX4_goesOn 86 = .ok (.ifCond .ne 6, 3) := by decide +kernel
theorem dX4_goesOn_89 : decode cX4_goesOn 89 = .ok (.iload 4, 2) := by decide +kernel
theorem dX4_goesOn_91 : decode cX4_goesOn 91 = .ok (.ireturn, 1) := by decide +kernel
theorem dX4_goesOn_92 : decode cX4_goesOn 92 = .ok (.iload_n 2, 1) := by decide +kernel
theorem dX4_goesOn_93 : decode cX4_goesOn 93 = .ok (.iconst 1, 1) := by decide +kernel
theorem dX4_goesOn_94 : decode cX4_goesOn 94 = .ok (.if_icmp .ne 42, 3) := by decide +kernel
theorem dX4_goesOn_97 : decode cX4_goesOn 97 = .ok (.aload_n 0, 1) := by decide +kernel
theorem dX4_goesOn_98 : decode cX4_goesOn 98 = .ok (.getfield 73, 3) := by decide +kernel
theorem dX4_goesOn_101 : decode cX4_goesOn 101 = .ok (.iload 5, 2) := by decide +kernel
theorem dX4_goesOn_103 : decode cX4_goesOn 103 = .ok (.laload, 1) := by decide +kernel
theorem dX4_goesOn_104 : decode cX4_goesOn 104 = .ok (.lconst 0, 1) := by decide +kernel
theorem dX4_goesOn_105 : decode cX4_goesOn 105 = .ok (.lcmp, 1) := by decide +kernel
theorem dX4_goesOn_106 : decode cX4_goesOn 106 = .ok (.ifCond .lt 30, 3) := by decide +kernel
theorem dX4_goesOn_109 : decode cX4_goesOn 109 = .ok (.aload_n 0, 1) := by decide +kernel
theorem dX4_goesOn_110 : decode cX4_goesOn 110 = .ok (.getfield 73, 3) := by decide +kernel
theorem dX4_goesOn_113 : decode cX4_goesOn 113 = .ok (.iload 5, 2) := by decide +kernel
theorem dX4_goesOn_115 : decode cX4_goesOn 115 = .ok (.laload, 1) := by decide +kernel
theorem dX4_goesOn_116 : decode cX4_goesOn 116 = .ok (.aload_n 0, 1) := by decide +kernel
theorem dX4_goesOn_117 : decode cX4_goesOn 117 = .ok (.getfield 60, 3) := by decide +kernel
theorem dX4_goesOn_120 : decode cX4_goesOn 120 = .ok (.iload_n 3, 1) := by decide +kernel
theorem dX4_goesOn_121 : decode cX4_goesOn 121 = .ok (.laload, 1) := by decide +kernel
theorem dX4_goesOn_122 : decode cX4_goesOn 122 = .ok (.ladd, 1) := by decide +kernel
theorem dX4_goesOn_123 : decode cX4_goesOn 123 = .ok (.aload_n 0, 1) := by decide +kernel
theorem dX4_goesOn_124 : decode cX4_goesOn 124 = .ok (.getfield 73, 3) := by decide +kernel
theorem dX4_goesOn_127 : decode cX4_goesOn 127 = .ok (.iload_n 1, 1) := by decide +kernel
theorem dX4_goesOn_128 : decode cX4_goesOn 128 = .ok (.laload, 1) := by decide +kernel
theorem dX4_goesOn_129 : decode cX4_goesOn 129 = .ok (.lcmp, 1) := by decide +kernel
theorem dX4_goesOn_130 : decode cX4_goesOn 130 = .ok (.ifCond .ne 6, 3) := by decide +kernel
theorem dX4_goesOn_133 : decode cX4_goesOn 133 = .ok (.iload 4, 2) := by decide +kernel
theorem dX4_goesOn_135 : decode cX4_goesOn 135 = .ok (.ireturn, 1) := by decide +kernel
theorem dX4_goesOn_136 : decode cX4_goesOn 136 = .ok (.iinc 4 1, 3) := by decide +kernel
theorem dX4_goesOn_139 : decode cX4_goesOn 139 = .ok (.goto (-129), 3) := by decide +kernel
theorem dX4_goesOn_142 : decode cX4_goesOn 142 = .ok (.iconst (-1), 1) := by decide +kernel
theorem dX4_goesOn_143 : decode cX4_goesOn 143 = .ok (.ireturn, 1) := by decide +kernel
set_option maxRecDepth 20000 in
theorem ggX4_way_X4_hasAnswer : GoodIn wsX4_way wsX4_hasAnswer := goodIn_r _ [6, 7, 1, 8, 9, 10, 5, 11, 12, 13, 14, 15, 16, 17, 18, 19, 20, 21, 22, 23, 24, 25, 26, 27, 28, 29, 30, 31, 32, 33, 34, 35, 36, 37, 38, 39, 40, 41, 42, 43, 44, 45, 46, 47, 48, 49, 50, 51, 52, 53, 54, 55, 56, 57, 58, 59, 60, 61, 62, 63, 64, 65, 66, 67, 68, 69, 70, 71, 72, 73, 74, 75, 76, 77, 78, 79, 80, 81, 82, 83, 84, 85, 86, 87, 88, 89, 90, 91, 92, 93, 94, 95, 96, 97, 98, 99, 100, 101, 102, 103, 104, 112, 113, 114, 115, 116, 117, 118, 119, 120, 121, 122, 123, 124, 125, 126, 127, 128, 129, 130, 131, 132, 133, 134, 135, 136, 137, 138, 139, 140, 141, 142, 143] (by rfl) (by decide +kernel)
set_option maxRecDepth 20000 in
theorem gX4_way_X4_hasAnswer : GoodIn wsX4_way (wsV RX4 185 RX4 yX4_hasAnswer wsX4_hasAnswer) := goodIn_app (goodIn_of _ (by decide +kernel)) ggX4_way_X4_hasAnswer
set_option maxRecDepth 20000 in
theorem ggX4_way_X4_within : GoodIn wsX4_way wsX4_within := goodIn_r _ [107] (by decide +kernel) (by decide +kernel)
set_option maxRecDepth 20000 in
theorem gX4_way_X4_within : GoodIn wsX4_way (va_wsS RX4 98 yX4_within wsX4_within) := goodIn_app (goodIn_of _ (by decide +kernel)) ggX4_way_X4_within
