set_option maxRecDepth 20000 in
theorem ggX4_work_X4_findAges : GoodIn wsX4_work wsX4_findAges := goodIn_r _ [6, 7, 8, 9, 10, 11, 12, 13, 14, 15, 16, 17, 18, 19, 20, 21, 22, 5, 23, 24, 25, 26, 27, 28, 29, 30, 31, 32, 33, 34, 35, 36, 37, 38, 39, 40, 41, 42, 96, 97, 98, 99, 100, 101, 102, 103, 104, 105, 106, 107, 108, 109, 110, 111, 112, 113, 114, 115, 116, 117, 118, 119, 120, 121, 122, 123, 124, 125, 126, 127] (by decide +kernel) (by decide +kernel)
set_option maxRecDepth 20000 in
theorem gX4_work_X4_findAges : GoodIn wsX4_work (wsV RX4 176 RX4 yX4_findAges wsX4_findAges) := goodIn_app (goodIn_of _ (by decide +kernel)) ggX4_work_X4_findAges
set_option maxRecDepth 20000 in
theorem ggX4_work_X4_findWays : GoodIn wsX4_work wsX4_findWays := goodIn_r _ [46, 10, 47, 48, 49, 50, 51, 52, 53, 5, 54, 11, 55, 56, 57, 58, 59, 60, 61, 62, 63, 64, 65, 66, 67, 68, 69, 7, 12, 13, 70, 71, 72, 73, 74, 75, 76, 77, 78, 79, 80, 81, 82, 83, 84, 85, 86, 87, 88, 89, 90, 91, 14, 16, 92, 93, 94, 95, 96, 97, 98, 99, 100, 101, 102, 103, 104, 105, 106, 107, 108, 109, 110, 111, 112, 113, 114, 115, 116, 117, 118, 119, 120, 121, 122, 123, 124, 125, 126, 127] (by decide +kernel) (by decide +kernel)
set_option maxRecDepth 20000 in
theorem gX4_work_X4_findWays : GoodIn wsX4_work (wsV RX4 179 RX4 yX4_findWays wsX4_findWays) := goodIn_app (goodIn_of _ (by decide +kernel)) ggX4_work_X4_findWays
theorem dX4_work_0 : decode cX4_work 0 = .ok (.aload_n 0, 1) := by decide +kernel
theorem dX4_work_1 : decode cX4_work 1 = .ok (.getfield 109, 3) := by decide +kernel
theorem dX4_work_4 : decode cX4_work 4 = .ok (.ifCond .eq 4, 3) := by decide +kernel
theorem dX4_work_7 : decode cX4_work 7 = .ok (.return_, 1) := by decide +kernel
theorem dX4_work_8 : decode cX4_work 8 = .ok (.aload_n 0, 1) := by decide +kernel
theorem dX4_work_9 : decode cX4_work 9 = .ok (.invokevirtual 176, 3) := by decide +kernel
theorem dX4_work_12 : decode cX4_work 12 = .ok (.aload_n 0, 1) := by decide +kernel
theorem dX4_work_13 : decode cX4_work 13 = .ok (.invokevirtual 179, 3) := by decide +kernel
theorem dX4_work_16 : decode cX4_work 16 = .ok (.aload_n 0, 1) := by decide +kernel
theorem dX4_work_17 : decode cX4_work 17 = .ok (.iconst 1, 1) := by decide +kernel
theorem dX4_work_18 : decode cX4_work 18 = .ok (.putfield 109, 3) := by decide +kernel
theorem dX4_work_21 : decode cX4_work 21 = .ok (.return_, 1) := by decide +kernel
