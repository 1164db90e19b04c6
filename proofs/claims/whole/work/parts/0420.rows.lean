set_option maxRecDepth 20000 in
theorem ggX4_time_X4_work : GoodIn wsX4_time wsX4_work := goodIn_r _ [12, 13, 14, 15, 16, 7, 17, 18, 19, 20, 2, 21, 22, 23, 3, 24, 4, 25, 26, 27, 28, 29, 30, 31, 32, 33, 34, 35, 36, 37, 38, 39, 40, 41, 42, 43, 44, 45, 46, 47, 48, 49, 50, 51, 52, 53, 54, 55, 56, 57, 58, 59, 60, 61, 62, 63, 64, 65, 66, 67, 68, 69, 70, 71, 72, 73, 74, 75, 76, 77, 78, 79, 80, 81, 82, 83, 84, 85, 86, 87, 88, 89, 90, 91, 92, 93, 94, 95, 96, 97, 98, 99, 100, 101, 102, 103, 104, 105, 106, 107, 108, 109, 110, 111, 112, 113, 114, 115, 116, 117, 118, 119, 120, 121, 122, 123, 124, 125, 126, 127, 128, 129, 130, 131, 132, 133, 134, 135] (by rfl) (by decide +kernel)
set_option maxRecDepth 20000 in
theorem gX4_time_X4_work : GoodIn wsX4_time (wsV RX4 182 RX4 yX4_work wsX4_work) := goodIn_app (goodIn_of _ (by decide +kernel)) ggX4_time_X4_work
theorem dX4_time_0 : decode cX4_time 0 = .ok (.aload_n 0, 1) := by decide +kernel
theorem dX4_time_1 : decode cX4_time 1 = .ok (.iconst 0, 1) := by decide +kernel
theorem dX4_time_2 : decode cX4_time 2 = .ok (.putfield 94, 3) := by decide +kernel
theorem dX4_time_5 : decode cX4_time 5 = .ok (.iload_n 1, 1) := by decide +kernel
theorem dX4_time_6 : decode cX4_time 6 = .ok (.iconst 0, 1) := by decide +kernel
theorem dX4_time_7 : decode cX4_time 7 = .ok (.aload_n 0, 1) := by decide +kernel
theorem dX4_time_8 : decode cX4_time 8 = .ok (.getfield 106, 3) := by decide +kernel
theorem dX4_time_11 : decode cX4_time 11 = .ok (.iconst 1, 1) := by decide +kernel
theorem dX4_time_12 : decode cX4_time 12 = .ok (.isub, 1) := by decide +kernel
theorem dX4_time_13 : decode cX4_time 13 = .ok (.invokestatic 98, 3) := by decide +kernel
theorem dX4_time_16 : decode cX4_time 16 = .ok (.ifCond .eq 12, 3) := by decide +kernel
theorem dX4_time_19 : decode cX4_time 19 = .ok (.iload_n 2, 1) := by decide +kernel
theorem dX4_time_20 : decode cX4_time 20 = .ok (.iconst 0, 1) := by decide +kernel
theorem dX4_time_21 : decode cX4_time 21 = .ok (.iconst 1, 1) := by decide +kernel
theorem dX4_time_22 : decode cX4_time 22 = .ok (.invokestatic 98, 3) := by decide +kernel
theorem dX4_time_25 : decode cX4_time 25 = .ok (.ifCond .ne 10, 3) := by decide +kernel
theorem dX4_time_28 : decode cX4_time 28 = .ok (.aload_n 0, 1) := by decide +kernel
theorem dX4_time_29 : decode cX4_time 29 = .ok (.iconst 1, 1) := by decide +kernel
theorem dX4_time_30 : decode cX4_time 30 = .ok (.putfield 94, 3) := by decide +kernel
theorem dX4_time_33 : decode cX4_time 33 = .ok (.iconst 0, 1) := by decide +kernel
theorem dX4_time_34 : decode cX4_time 34 = .ok (.ireturn, 1) := by decide +kernel
theorem dX4_time_35 : decode cX4_time 35 = .ok (.aload_n 0, 1) := by decide +kernel
theorem dX4_time_36 : decode cX4_time 36 = .ok (.invokevirtual 182, 3) := by decide +kernel
theorem dX4_time_39 : decode cX4_time 39 = .ok (.iload_n 2, 1) := by decide +kernel
theorem dX4_time_40 : decode cX4_time 40 = .ok (.ifCond .ne 12, 3) := by decide +kernel
theorem dX4_time_43 : decode cX4_time 43 = .ok (.aload_n 0, 1) := by decide +kernel
theorem dX4_time_44 : decode cX4_time 44 = .ok (.getfield 56, 3) := by decide +kernel
theorem dX4_time_47 : decode cX4_time 47 = .ok (.iload_n 1, 1) := by decide +kernel
theorem dX4_time_48 : decode cX4_time 48 = .ok (.laload, 1) := by decide +kernel
theorem dX4_time_49 : decode cX4_time 49 = .ok (.goto 9, 3) := by decide +kernel
theorem dX4_time_52 : decode cX4_time 52 = .ok (.aload_n 0, 1) := by decide +kernel
theorem dX4_time_53 : decode cX4_time 53 = .ok (.getfield 60, 3) := by decide +kernel
theorem dX4_time_56 : decode cX4_time 56 = .ok (.iload_n 1, 1) := by decide +kernel
theorem dX4_time_57 : decode cX4_time 57 = .ok (.laload, 1) := by decide +kernel
theorem dX4_time_58 : decode cX4_time 58 = .ok (.l2i, 1) := by decide +kernel
theorem dX4_time_59 : decode cX4_time 59 = .ok (.ireturn, 1) := by decide +kernel
set_option maxRecDepth 20000 in
theorem ggX4_count_X4_within : GoodIn wsX4_count wsX4_within := goodIn_r _ [13] (by decide +kernel) (by decide +kernel)
set_option maxRecDepth 20000 in
theorem gX4_count_X4_within : GoodIn wsX4_count (va_wsS RX4 98 yX4_within wsX4_within) := goodIn_app (goodIn_of _ (by decide +kernel)) ggX4_count_X4_within
