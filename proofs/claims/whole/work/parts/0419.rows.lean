set_option maxRecDepth 20000 in
theorem ggX4_age_X4_work : GoodIn wsX4_age wsX4_work := goodIn_r _ [13, 14, 15, 16, 17, 8, 18, 3, 19, 20, 2, 21, 22, 23, 24, 25, 26, 27, 28, 29, 30, 31, 32, 33, 34, 4, 5, 35, 36, 37, 38, 39, 40, 41, 42, 43, 44, 45, 46, 47, 48, 49, 50, 51, 52, 53, 54, 55, 56, 57, 58, 59, 60, 61, 62, 63, 64, 65, 66, 67, 68, 69, 70, 71, 72, 73, 74, 75, 76, 77, 78, 79, 80, 81, 82, 83, 84, 85, 86, 87, 88, 89, 90, 91, 92, 93, 94, 95, 96, 97, 98, 99, 100, 101, 102, 103, 108, 109, 110, 111, 112, 113, 114, 115, 116, 117, 118, 119, 120, 121, 122, 123, 124, 125, 126, 127, 128, 129, 130, 131, 132, 133, 134, 135, 136, 137, 138, 139] (by rfl) (by decide +kernel)
set_option maxRecDepth 20000 in
theorem gX4_age_X4_work : GoodIn wsX4_age (wsV RX4 182 RX4 yX4_work wsX4_work) := goodIn_app (goodIn_of _ (by decide +kernel)) ggX4_age_X4_work
set_option maxRecDepth 20000 in
theorem ggX4_age_X4_find : GoodIn wsX4_age wsX4_find := goodIn_r _ [107, 34, 49, 108, 109, 110, 111, 112, 113, 114, 115, 116, 117, 118, 119, 120, 121, 122, 123, 124, 125, 126, 127, 128, 129, 130, 131, 132, 133, 134, 135, 136, 137, 138, 139] (by decide +kernel) (by decide +kernel)
set_option maxRecDepth 20000 in
theorem gX4_age_X4_find : GoodIn wsX4_age (wsV RX4 116 RX4 yX4_find wsX4_find) := goodIn_app (goodIn_of _ (by decide +kernel)) ggX4_age_X4_find
theorem dX4_age_0 : decode cX4_age 0 = .ok (.aload_n 0, 1) := by decide +kernel
theorem dX4_age_1 : decode cX4_age 1 = .ok (.iconst 0, 1) := by decide +kernel
theorem dX4_age_2 : decode cX4_age 2 = .ok (.putfield 94, 3) := by decide +kernel
theorem dX4_age_5 : decode cX4_age 5 = .ok (.iload_n 1, 1) := by decide +kernel
theorem dX4_age_6 : decode cX4_age 6 = .ok (.iconst 0, 1) := by decide +kernel
theorem dX4_age_7 : decode cX4_age 7 = .ok (.aload_n 0, 1) := by decide +kernel
theorem dX4_age_8 : decode cX4_age 8 = .ok (.getfield 106, 3) := by decide +kernel
theorem dX4_age_11 : decode cX4_age 11 = .ok (.iconst 1, 1) := by decide +kernel
theorem dX4_age_12 : decode cX4_age 12 = .ok (.isub, 1) := by decide +kernel
theorem dX4_age_13 : decode cX4_age 13 = .ok (.invokestatic 98, 3) := by decide +kernel
theorem dX4_age_16 : decode cX4_age 16 = .ok (.ifCond .eq 12, 3) := by decide +kernel
theorem dX4_age_19 : decode cX4_age 19 = .ok (.iload_n 3, 1) := by decide +kernel
theorem dX4_age_20 : decode cX4_age 20 = .ok (.iconst 0, 1) := by decide +kernel
theorem dX4_age_21 : decode cX4_age 21 = .ok (.iconst 1, 1) := by decide +kernel
theorem dX4_age_22 : decode cX4_age 22 = .ok (.invokestatic 98, 3) := by decide +kernel
theorem dX4_age_25 : decode cX4_age 25 = .ok (.ifCond .ne 10, 3) := by decide +kernel
theorem dX4_age_28 : decode cX4_age 28 = .ok (.aload_n 0, 1) := by decide +kernel
theorem dX4_age_29 : decode cX4_age 29 = .ok (.iconst 1, 1) := by decide +kernel
theorem dX4_age_30 : decode cX4_age 30 = .ok (.putfield 94, 3) := by decide +kernel
theorem dX4_age_33 : decode cX4_age 33 = .ok (.iconst 0, 1) := by decide +kernel
theorem dX4_age_34 : decode cX4_age 34 = .ok (.ireturn, 1) := by decide +kernel
theorem dX4_age_35 : decode cX4_age 35 = .ok (.aload_n 0, 1) := by decide +kernel
theorem dX4_age_36 : decode cX4_age 36 = .ok (.invokevirtual 182, 3) := by decide +kernel
theorem dX4_age_39 : decode cX4_age 39 = .ok (.aload_n 0, 1) := by decide +kernel
theorem dX4_age_40 : decode cX4_age 40 = .ok (.iload_n 2, 1) := by decide +kernel
theorem dX4_age_41 : decode cX4_age 41 = .ok (.invokevirtual 116, 3) := by decide +kernel
theorem dX4_age_44 : decode cX4_age 44 = .ok (.istore 4, 2) := by decide +kernel
theorem dX4_age_46 : decode cX4_age 46 = .ok (.iload 4, 2) := by decide +kernel
theorem dX4_age_48 : decode cX4_age 48 = .ok (.ifCond .lt 12, 3) := by decide +kernel
theorem dX4_age_51 : decode cX4_age 51 = .ok (.aload_n 0, 1) := by decide +kernel
theorem dX4_age_52 : decode cX4_age 52 = .ok (.getfield 37, 3) := by decide +kernel
theorem dX4_age_55 : decode cX4_age 55 = .ok (.iload_n 1, 1) := by decide +kernel
theorem dX4_age_56 : decode cX4_age 56 = .ok (.baload, 1) := by decide +kernel
theorem dX4_age_57 : decode cX4_age 57 = .ok (.ifCond .ne 5, 3) := by decide +kernel
theorem dX4_age_60 : decode cX4_age 60 = .ok (.iconst (-1), 1) := by decide +kernel
theorem dX4_age_61 : decode cX4_age 61 = .ok (.ireturn, 1) := by decide +kernel
theorem dX4_age_62 : decode cX4_age 62 = .ok (.iload_n 3, 1) := by decide +kernel
theorem dX4_age_63 : decode cX4_age 63 = .ok (.ifCond .ne 18, 3) := by decide +kernel
theorem dX4_age_66 : decode cX4_age 66 = .ok (.aload_n 0, 1) := by decide +kernel
theorem dX4_age_67 : decode cX4_age 67 = .ok (.getfield 41, 3) := by decide +kernel
theorem dX4_age_70 : decode cX4_age 70 = .ok (.bipush 40, 2) := by decide +kernel
theorem dX4_age_72 : decode cX4_age 72 = .ok (.iload_n 1, 1) := by decide +kernel
theorem dX4_age_73 : decode cX4_age 73 = .ok (.imul, 1) := by decide +kernel
theorem dX4_age_74 : decode cX4_age 74 = .ok (.iload 4, 2) := by decide +kernel
theorem dX4_age_76 : decode cX4_age 76 = .ok (.iadd, 1) := by decide +kernel
theorem dX4_age_77 : decode cX4_age 77 = .ok (.iaload, 1) := by decide +kernel
theorem dX4_age_78 : decode cX4_age 78 = .ok (.goto 15, 3) := by decide +kernel
theorem dX4_age_81 : decode cX4_age 81 = .ok (.aload_n 0, 1) := by decide +kernel
theorem dX4_age_82 : decode cX4_age 82 = .ok (.getfield 44, 3) := by decide +kernel
theorem dX4_age_85 : decode cX4_age 85 = .ok (.bipush 40, 2) := by decide +kernel
theorem dX4_age_87 : decode cX4_age 87 = .ok (.iload_n 1, 1) := by decide +kernel
theorem dX4_age_88 : decode cX4_age 88 = .ok (.imul, 1) := by decide +kernel
theorem dX4_age_89 : decode cX4_age 89 = .ok (.iload 4, 2) := by decide +kernel
theorem dX4_age_91 : decode cX4_age 91 = .ok (.iadd, 1) := by decide +kernel
theorem dX4_age_92 : decode cX4_age 92 = .ok (.iaload, 1) := by decide +kernel
theorem dX4_age_93 : decode cX4_age 93 = .ok (.ireturn, 1) := by decide +kernel
set_option maxRecDepth 20000 in
theorem ggX4_time_X4_within : GoodIn wsX4_time wsX4_within := goodIn_r _ [8] (by decide +kernel) (by decide +kernel)
set_option maxRecDepth 20000 in
theorem gX4_time_X4_within : GoodIn wsX4_time (va_wsS RX4 98 yX4_within wsX4_within) := goodIn_app (goodIn_of _ (by decide +kernel)) ggX4_time_X4_within
