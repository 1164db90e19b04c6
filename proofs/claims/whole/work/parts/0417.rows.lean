set_option maxRecDepth 20000 in
theorem ggX4_way_X4_goesOn : GoodIn wsX4_way wsX4_goesOn := goodIn_r _ [111, 20, 21, 22, 57, 24, 100, 26, 83, 84, 85, 5, 86, 66, 64, 72, 73, 74, 87, 88, 89, 90, 65, 91, 92, 93, 94, 23, 112, 113, 114, 115, 116, 117, 118, 119, 120, 121, 122, 123, 124, 125, 126, 127, 128, 129, 130, 131, 132, 133, 134, 135, 136, 137, 138, 139, 140, 141, 142, 143] (by decide +kernel) (by decide +kernel)
set_option maxRecDepth 20000 in
theorem gX4_way_X4_goesOn : GoodIn wsX4_way (wsV RX4 188 RX4 yX4_goesOn wsX4_goesOn) := goodIn_app (goodIn_of _ (by decide +kernel)) ggX4_way_X4_goesOn
set_option maxRecDepth 20000 in
theorem ggX4_way_X4_behind : GoodIn wsX4_way wsX4_behind := goodIn_r _ [94, 22, 23, 66, 64, 65, 87, 88, 89, 5, 90, 112, 113, 114, 115, 116, 117, 118, 119, 120, 121, 122, 123, 124, 125, 126, 127, 128, 129, 130, 131, 132, 133, 134, 135, 136, 137, 138, 139, 140, 141, 142, 143] (by decide +kernel) (by decide +kernel)
set_option maxRecDepth 20000 in
theorem gX4_way_X4_behind : GoodIn wsX4_way (wsV RX4 149 RX4 yX4_behind wsX4_behind) := goodIn_app (goodIn_of _ (by decide +kernel)) ggX4_way_X4_behind
theorem dX4_way_0 : decode cX4_way 0 = .ok (.aload_n 0, 1) := by decide +kernel
theorem dX4_way_1 : decode cX4_way 1 = .ok (.invokevirtual 185, 3) := by decide +kernel
theorem dX4_way_4 : decode cX4_way 4 = .ok (.ifCond .ne 5, 3) := by decide +kernel
theorem dX4_way_7 : decode cX4_way 7 = .ok (.iconst 0, 1) := by decide +kernel
theorem dX4_way_8 : decode cX4_way 8 = .ok (.ireturn, 1) := by decide +kernel
theorem dX4_way_9 : decode cX4_way 9 = .ok (.iload_n 2, 1) := by decide +kernel
theorem dX4_way_10 : decode cX4_way 10 = .ok (.ifCond .lt 12, 3) := by decide +kernel
theorem dX4_way_13 : decode cX4_way 13 = .ok (.iload_n 1, 1) := by decide +kernel
theorem dX4_way_14 : decode cX4_way 14 = .ok (.iconst 0, 1) := by decide +kernel
theorem dX4_way_15 : decode cX4_way 15 = .ok (.iconst 1, 1) := by decide +kernel
theorem dX4_way_16 : decode cX4_way 16 = .ok (.invokestatic 98, 3) := by decide +kernel
theorem dX4_way_19 : decode cX4_way 19 = .ok (.ifCond .ne 10, 3) := by decide +kernel
theorem dX4_way_22 : decode cX4_way 22 = .ok (.aload_n 0, 1) := by decide +kernel
theorem dX4_way_23 : decode cX4_way 23 = .ok (.iconst 2, 1) := by decide +kernel
theorem dX4_way_24 : decode cX4_way 24 = .ok (.putfield 94, 3) := by decide +kernel
theorem dX4_way_27 : decode cX4_way 27 = .ok (.iconst 0, 1) := by decide +kernel
theorem dX4_way_28 : decode cX4_way 28 = .ok (.ireturn, 1) := by decide +kernel
theorem dX4_way_29 : decode cX4_way 29 = .ok (.iconst 0, 1) := by decide +kernel
theorem dX4_way_30 : decode cX4_way 30 = .ok (.istore_n 3, 1) := by decide +kernel
theorem dX4_way_31 : decode cX4_way 31 = .ok (.aload_n 0, 1) := by decide +kernel
theorem dX4_way_32 : decode cX4_way 32 = .ok (.iload_n 3, 1) := by decide +kernel
theorem dX4_way_33 : decode cX4_way 33 = .ok (.iload_n 1, 1) := by decide +kernel
theorem dX4_way_34 : decode cX4_way 34 = .ok (.invokevirtual 188, 3) := by decide +kernel
theorem dX4_way_37 : decode cX4_way 37 = .ok (.istore 4, 2) := by decide +kernel
theorem dX4_way_39 : decode cX4_way 39 = .ok (.iconst 0, 1) := by decide +kernel
theorem dX4_way_40 : decode cX4_way 40 = .ok (.istore 5, 2) := by decide +kernel
theorem dX4_way_42 : decode cX4_way 42 = .ok (.iload 5, 2) := by decide +kernel
theorem dX4_way_44 : decode cX4_way 44 = .ok (.iload_n 2, 1) := by decide +kernel
theorem dX4_way_45 : decode cX4_way 45 = .ok (.if_icmp .ge 30, 3) := by decide +kernel
theorem dX4_way_48 : decode cX4_way 48 = .ok (.iload 4, 2) := by decide +kernel
theorem dX4_way_50 : decode cX4_way 50 = .ok (.ifCond .lt 25, 3) := by decide +kernel
theorem dX4_way_53 : decode cX4_way 53 = .ok (.aload_n 0, 1) := by decide +kernel
theorem dX4_way_54 : decode cX4_way 54 = .ok (.iload_n 3, 1) := by decide +kernel
theorem dX4_way_55 : decode cX4_way 55 = .ok (.iload 4, 2) := by decide +kernel
theorem dX4_way_57 : decode cX4_way 57 = .ok (.invokevirtual 149, 3) := by decide +kernel
theorem dX4_way_60 : decode cX4_way 60 = .ok (.istore_n 3, 1) := by decide +kernel
theorem dX4_way_61 : decode cX4_way 61 = .ok (.aload_n 0, 1) := by decide +kernel
theorem dX4_way_62 : decode cX4_way 62 = .ok (.iload_n 3, 1) := by decide +kernel
theorem dX4_way_63 : decode cX4_way 63 = .ok (.iload_n 1, 1) := by decide +kernel
theorem dX4_way_64 : decode cX4_way 64 = .ok (.invokevirtual 188, 3) := by decide +kernel
theorem dX4_way_67 : decode cX4_way 67 = .ok (.istore 4, 2) := by decide +kernel
theorem dX4_way_69 : decode cX4_way 69 = .ok (.iinc 5 1, 3) := by decide +kernel
theorem dX4_way_72 : decode cX4_way 72 = .ok (.goto (-30), 3) := by decide +kernel
theorem dX4_way_75 : decode cX4_way 75 = .ok (.iload 4, 2) := by decide +kernel
theorem dX4_way_77 : decode cX4_way 77 = .ok (.ireturn, 1) := by decide +kernel
set_option maxRecDepth 20000 in
theorem ggX4_touches_X4_within : GoodIn wsX4_touches wsX4_within := goodIn_r _ [8] (by decide +kernel) (by decide +kernel)
set_option maxRecDepth 20000 in
theorem gX4_touches_X4_within : GoodIn wsX4_touches (va_wsS RX4 98 yX4_within wsX4_within) := goodIn_app (goodIn_of _ (by decide +kernel)) ggX4_touches_X4_within
