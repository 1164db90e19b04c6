set_option maxRecDepth 20000 in
theorem ggX4_touches_X4_work : GoodIn wsX4_touches wsX4_work := goodIn_r _ [12, 13, 14, 15, 16, 7, 17, 18, 19, 20, 2, 21, 22, 23, 24, 25, 26, 3, 4, 27, 28, 29, 30, 31, 32, 33, 34, 35, 36, 37, 38, 39, 40, 41, 42, 43, 44, 45, 46, 47, 48, 49, 50, 51, 52, 53, 54, 55, 56, 57, 58, 59, 60, 61, 62, 63, 64, 65, 66, 67, 68, 69, 70, 71, 72, 73, 74, 75, 76, 77, 78, 79, 80, 81, 82, 83, 84, 85, 86, 87, 88, 89, 90, 91, 92, 93, 94, 95, 96, 97, 98, 99, 100, 101, 102, 103, 104, 105, 106, 107, 108, 109, 110, 111, 112, 113, 114, 115, 116, 117, 118, 119, 120, 121, 122, 123, 124, 125, 126, 127, 128, 129, 130, 131, 132, 133, 134, 135] (by rfl) (by decide +kernel)
set_option maxRecDepth 20000 in
theorem gX4_touches_X4_work : GoodIn wsX4_touches (wsV RX4 182 RX4 yX4_work wsX4_work) := goodIn_app (goodIn_of _ (by decide +kernel)) ggX4_touches_X4_work
theorem dX4_touches_0 : decode cX4_touches 0 = .ok (.aload_n 0, 1) := by decide +kernel
theorem dX4_touches_1 : decode cX4_touches 1 = .ok (.iconst 0, 1) := by decide +kernel
theorem dX4_touches_2 : decode cX4_touches 2 = .ok (.putfield 94, 3) := by decide +kernel
theorem dX4_touches_5 : decode cX4_touches 5 = .ok (.iload_n 1, 1) := by decide +kernel
theorem dX4_touches_6 : decode cX4_touches 6 = .ok (.iconst 0, 1) := by decide +kernel
theorem dX4_touches_7 : decode cX4_touches 7 = .ok (.aload_n 0, 1) := by decide +kernel
theorem dX4_touches_8 : decode cX4_touches 8 = .ok (.getfield 106, 3) := by decide +kernel
theorem dX4_touches_11 : decode cX4_touches 11 = .ok (.iconst 1, 1) := by decide +kernel
theorem dX4_touches_12 : decode cX4_touches 12 = .ok (.isub, 1) := by decide +kernel
theorem dX4_touches_13 : decode cX4_touches 13 = .ok (.invokestatic 98, 3) := by decide +kernel
theorem dX4_touches_16 : decode cX4_touches 16 = .ok (.ifCond .eq 19, 3) := by decide +kernel
theorem dX4_touches_19 : decode cX4_touches 19 = .ok (.iload_n 2, 1) := by decide +kernel
theorem dX4_touches_20 : decode cX4_touches 20 = .ok (.iconst 0, 1) := by decide +kernel
theorem dX4_touches_21 : decode cX4_touches 21 = .ok (.aload_n 0, 1) := by decide +kernel
theorem dX4_touches_22 : decode cX4_touches 22 = .ok (.getfield 13, 3) := by decide +kernel
theorem dX4_touches_25 : decode cX4_touches 25 = .ok (.iload_n 1, 1) := by decide +kernel
theorem dX4_touches_26 : decode cX4_touches 26 = .ok (.iaload, 1) := by decide +kernel
theorem dX4_touches_27 : decode cX4_touches 27 = .ok (.iconst 1, 1) := by decide +kernel
theorem dX4_touches_28 : decode cX4_touches 28 = .ok (.isub, 1) := by decide +kernel
theorem dX4_touches_29 : decode cX4_touches 29 = .ok (.invokestatic 98, 3) := by decide +kernel
theorem dX4_touches_32 : decode cX4_touches 32 = .ok (.ifCond .ne 10, 3) := by decide +kernel
theorem dX4_touches_35 : decode cX4_touches 35 = .ok (.aload_n 0, 1) := by decide +kernel
theorem dX4_touches_36 : decode cX4_touches 36 = .ok (.iconst 1, 1) := by decide +kernel
theorem dX4_touches_37 : decode cX4_touches 37 = .ok (.putfield 94, 3) := by decide +kernel
theorem dX4_touches_40 : decode cX4_touches 40 = .ok (.iconst 0, 1) := by decide +kernel
theorem dX4_touches_41 : decode cX4_touches 41 = .ok (.ireturn, 1) := by decide +kernel
theorem dX4_touches_42 : decode cX4_touches 42 = .ok (.aload_n 0, 1) := by decide +kernel
theorem dX4_touches_43 : decode cX4_touches 43 = .ok (.invokevirtual 182, 3) := by decide +kernel
theorem dX4_touches_46 : decode cX4_touches 46 = .ok (.aload_n 0, 1) := by decide +kernel
theorem dX4_touches_47 : decode cX4_touches 47 = .ok (.getfield 53, 3) := by decide +kernel
theorem dX4_touches_50 : decode cX4_touches 50 = .ok (.bipush 6, 2) := by decide +kernel
theorem dX4_touches_52 : decode cX4_touches 52 = .ok (.iload_n 1, 1) := by decide +kernel
theorem dX4_touches_53 : decode cX4_touches 53 = .ok (.imul, 1) := by decide +kernel
theorem dX4_touches_54 : decode cX4_touches 54 = .ok (.iload_n 2, 1) := by decide +kernel
theorem dX4_touches_55 : decode cX4_touches 55 = .ok (.iadd, 1) := by decide +kernel
theorem dX4_touches_56 : decode cX4_touches 56 = .ok (.iaload, 1) := by decide +kernel
theorem dX4_touches_57 : decode cX4_touches 57 = .ok (.ireturn, 1) := by decide +kernel
set_option maxRecDepth 20000 in
theorem ggX4_age_X4_within : GoodIn wsX4_age wsX4_within := goodIn_r _ [9] (by decide +kernel) (by decide +kernel)
set_option maxRecDepth 20000 in
theorem gX4_age_X4_within : GoodIn wsX4_age (va_wsS RX4 98 yX4_within wsX4_within) := goodIn_app (goodIn_of _ (by decide +kernel)) ggX4_age_X4_within
