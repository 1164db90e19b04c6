set_option maxRecDepth 20000 in
theorem ggX4_hasAnswer_X4_work : GoodIn wsX4_hasAnswer wsX4_work := goodIn_r _ [7, 8, 9, 10, 11, 6, 12, 13, 14, 15, 16, 17, 18, 19, 20, 21, 22, 23, 24, 25, 26, 27, 28, 29, 30, 31, 32, 33, 34, 35, 36, 37, 38, 39, 40, 41, 42, 43, 44, 45, 46, 47, 48, 49, 50, 51, 52, 1, 53, 54, 55, 56, 57, 58, 59, 60, 61, 62, 63, 64, 65, 66, 67, 68, 69, 70, 71, 72, 73, 74, 75, 76, 77, 78, 79, 80, 81, 82, 83, 84, 85, 86, 87, 88, 89, 90, 91, 92, 93, 94, 95, 96, 97, 98, 99, 100, 101, 102, 103, 104, 105, 106, 107, 108, 109, 110, 111, 112, 113, 114, 115, 116, 117, 118, 119, 120, 121, 122, 123, 124, 125, 126, 127, 128, 129, 130, 131, 132] (by rfl) (by decide +kernel)
set_option maxRecDepth 20000 in
theorem gX4_hasAnswer_X4_work : GoodIn wsX4_hasAnswer (wsV RX4 182 RX4 yX4_work wsX4_work) := goodIn_app (goodIn_of _ (by decide +kernel)) ggX4_hasAnswer_X4_work
theorem dX4_hasAnswer_0 : decode cX4_hasAnswer 0 = .ok (.aload_n 0, 1) := by decide +kernel
theorem dX4_hasAnswer_1 : decode cX4_hasAnswer 1 = .ok (.invokevirtual 182, 3) := by decide +kernel
theorem dX4_hasAnswer_4 : decode cX4_hasAnswer 4 = .ok (.aload_n 0, 1) := by decide +kernel
theorem dX4_hasAnswer_5 : decode cX4_hasAnswer 5 = .ok (.aload_n 0, 1) := by decide +kernel
theorem dX4_hasAnswer_6 : decode cX4_hasAnswer 6 = .ok (.getfield 167, 3) := by decide +kernel
theorem dX4_hasAnswer_9 : decode cX4_hasAnswer 9 = .ok (.ifCond .eq 7, 3) := by decide +kernel
theorem dX4_hasAnswer_12 : decode cX4_hasAnswer 12 = .ok (.iconst 0, 1) := by decide +kernel
theorem dX4_hasAnswer_13 : decode cX4_hasAnswer 13 = .ok (.goto 4, 3) := by decide +kernel
theorem dX4_hasAnswer_16 : decode cX4_hasAnswer 16 = .ok (.iconst 1, 1) := by decide +kernel
theorem dX4_hasAnswer_17 : decode cX4_hasAnswer 17 = .ok (.putfield 94, 3) := by decide +kernel
theorem dX4_hasAnswer_20 : decode cX4_hasAnswer 20 = .ok (.aload_n 0, 1) := by decide +kernel
theorem dX4_hasAnswer_21 : decode cX4_hasAnswer 21 = .ok (.getfield 167, 3) := by decide +kernel
theorem dX4_hasAnswer_24 : decode cX4_hasAnswer 24 = .ok (.ireturn, 1) := by decide +kernel
