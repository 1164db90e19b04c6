set_option maxRecDepth 20000 in
theorem ggX4_best_X4_hasAnswer : GoodIn wsX4_best wsX4_hasAnswer := goodIn_r _ [6, 7, 8, 9, 10, 11, 5, 12, 13, 14, 15, 16, 17, 18, 19, 20, 21, 22, 23, 24, 25, 26, 27, 28, 29, 30, 31, 32, 33, 34, 35, 36, 37, 38, 39, 40, 41, 42, 43, 44, 45, 46, 47, 48, 49, 50, 51, 52, 53, 54, 55, 56, 57, 58, 59, 60, 61, 62, 63, 64, 65, 66, 67, 68, 69, 70, 71, 72, 73, 74, 75, 76, 77, 78, 79, 80, 81, 82, 83, 84, 85, 86, 87, 88, 89, 90, 91, 92, 93, 94, 95, 96, 97, 98, 99, 100, 1, 101, 102, 103, 104, 105, 106, 107, 108, 109, 110, 111, 112, 113, 114, 115, 116, 117, 118, 119, 120, 121, 122, 123, 124, 125, 126, 127, 128, 129, 130, 131, 132, 133, 134, 135, 136] (by rfl) (by decide +kernel)
set_option maxRecDepth 20000 in
theorem gX4_best_X4_hasAnswer : GoodIn wsX4_best (wsV RX4 185 RX4 yX4_hasAnswer wsX4_hasAnswer) := goodIn_app (goodIn_of _ (by decide +kernel)) ggX4_best_X4_hasAnswer
theorem dX4_best_0 : decode cX4_best 0 = .ok (.aload_n 0, 1) := by decide +kernel
theorem dX4_best_1 : decode cX4_best 1 = .ok (.invokevirtual 185, 3) := by decide +kernel
theorem dX4_best_4 : decode cX4_best 4 = .ok (.ifCond .eq 12, 3) := by decide +kernel
theorem dX4_best_7 : decode cX4_best 7 = .ok (.aload_n 0, 1) := by decide +kernel
theorem dX4_best_8 : decode cX4_best 8 = .ok (.getfield 73, 3) := by decide +kernel
theorem dX4_best_11 : decode cX4_best 11 = .ok (.iconst 0, 1) := by decide +kernel
theorem dX4_best_12 : decode cX4_best 12 = .ok (.laload, 1) := by decide +kernel
theorem dX4_best_13 : decode cX4_best 13 = .ok (.goto 4, 3) := by decide +kernel
theorem dX4_best_16 : decode cX4_best 16 = .ok (.lconst 0, 1) := by decide +kernel
theorem dX4_best_17 : decode cX4_best 17 = .ok (.lreturn, 1) := by decide +kernel
set_option maxRecDepth 20000 in
theorem ggX4_goesOn_X4_allows : GoodIn wsX4_goesOn wsX4_allows := goodIn_r _ [12, 13, 14, 15, 16, 17, 18, 19, 20, 11, 21, 22, 28, 29, 30, 31, 32, 33, 34, 35, 36, 37, 38, 39, 40, 41, 42, 43, 44, 45, 46, 47, 48, 49, 50, 51, 52, 53, 54, 55, 56, 57, 58, 59] (by decide +kernel) (by decide +kernel)
set_option maxRecDepth 20000 in
theorem gX4_goesOn_X4_allows : GoodIn wsX4_goesOn (wsV RX4 146 RX4 yX4_allows wsX4_allows) := goodIn_app (goodIn_of _ (by decide +kernel)) ggX4_goesOn_X4_allows
