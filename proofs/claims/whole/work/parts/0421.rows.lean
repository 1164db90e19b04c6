set_option maxRecDepth 20000 in
theorem ggX4_count_X4_work : GoodIn wsX4_count wsX4_work := goodIn_r _ [17, 18, 19, 20, 21, 12, 22, 3, 23, 24, 2, 4, 25, 26, 27, 28, 29, 30, 31, 9, 32, 33, 34, 35, 6, 36, 37, 38, 39, 40, 41, 42, 43, 44, 45, 46, 8, 47, 48, 49, 50, 51, 7, 52, 53, 54, 55, 56, 57, 58, 59, 60, 61, 62, 63, 64, 65, 66, 67, 68, 69, 70, 71, 5, 72, 73, 74, 75, 76, 77, 78, 79, 80, 81, 82, 83, 84, 85, 86, 87, 88, 89, 90, 91, 92, 93, 94, 95, 96, 97, 98, 99, 100, 101, 102, 103, 104, 105, 106, 107, 108, 109, 110, 111, 112, 113, 114, 115, 116, 117, 118, 119, 120, 121, 122, 123, 124, 125, 126, 127, 128, 129, 130, 131, 132, 133, 134, 135] (by rfl) (by decide +kernel)
set_option maxRecDepth 20000 in
theorem gX4_count_X4_work : GoodIn wsX4_count (wsV RX4 182 RX4 yX4_work wsX4_work) := goodIn_app (goodIn_of _ (by decide +kernel)) ggX4_count_X4_work
theorem dX4_count_0 : decode cX4_count 0 = .ok (.aload_n 0, 1) := by decide +kernel
theorem dX4_count_1 : decode cX4_count 1 = .ok (.iconst 0, 1) := by decide +kernel
theorem dX4_count_2 : decode cX4_count 2 = .ok (.putfield 94, 3) := by decide +kernel
theorem dX4_count_5 : decode cX4_count 5 = .ok (.iload_n 1, 1) := by decide +kernel
theorem dX4_count_6 : decode cX4_count 6 = .ok (.iconst 0, 1) := by decide +kernel
theorem dX4_count_7 : decode cX4_count 7 = .ok (.bipush 7, 2) := by decide +kernel
theorem dX4_count_9 : decode cX4_count 9 = .ok (.invokestatic 98, 3) := by decide +kernel
theorem dX4_count_12 : decode cX4_count 12 = .ok (.ifCond .ne 5, 3) := by decide +kernel
theorem dX4_count_15 : decode cX4_count 15 = .ok (.iconst (-1), 1) := by decide +kernel
theorem dX4_count_16 : decode cX4_count 16 = .ok (.ireturn, 1) := by decide +kernel
theorem dX4_count_17 : decode cX4_count 17 = .ok (.iconst 0, 1) := by decide +kernel
theorem dX4_count_18 : decode cX4_count 18 = .ok (.istore_n 2, 1) := by decide +kernel
theorem dX4_count_19 : decode cX4_count 19 = .ok (.iload_n 1, 1) := by decide +kernel
theorem dX4_count_20 : decode cX4_count 20 = .ok (.iconst 4, 1) := by decide +kernel
theorem dX4_count_21 : decode cX4_count 21 = .ok (.if_icmp .ne 42, 3) := by decide +kernel
theorem dX4_count_24 : decode cX4_count 24 = .ok (.aload_n 0, 1) := by decide +kernel
theorem dX4_count_25 : decode cX4_count 25 = .ok (.invokevirtual 182, 3) := by decide +kernel
theorem dX4_count_28 : decode cX4_count 28 = .ok (.iconst 0, 1) := by decide +kernel
theorem dX4_count_29 : decode cX4_count 29 = .ok (.istore_n 3, 1) := by decide +kernel
theorem dX4_count_30 : decode cX4_count 30 = .ok (.iload_n 3, 1) := by decide +kernel
theorem dX4_count_31 : decode cX4_count 31 = .ok (.aload_n 0, 1) := by decide +kernel
theorem dX4_count_32 : decode cX4_count 32 = .ok (.getfield 106, 3) := by decide +kernel
theorem dX4_count_35 : decode cX4_count 35 = .ok (.if_icmp .ge 26, 3) := by decide +kernel
theorem dX4_count_38 : decode cX4_count 38 = .ok (.iload_n 2, 1) := by decide +kernel
theorem dX4_count_39 : decode cX4_count 39 = .ok (.aload_n 0, 1) := by decide +kernel
theorem dX4_count_40 : decode cX4_count 40 = .ok (.getfield 37, 3) := by decide +kernel
theorem dX4_count_43 : decode cX4_count 43 = .ok (.iload_n 3, 1) := by decide +kernel
theorem dX4_count_44 : decode cX4_count 44 = .ok (.baload, 1) := by decide +kernel
theorem dX4_count_45 : decode cX4_count 45 = .ok (.ifCond .eq 7, 3) := by decide +kernel
theorem dX4_count_48 : decode cX4_count 48 = .ok (.iconst 1, 1) := by decide +kernel
theorem dX4_count_49 : decode cX4_count 49 = .ok (.goto 4, 3) := by decide +kernel
theorem dX4_count_52 : decode cX4_count 52 = .ok (.iconst 0, 1) := by decide +kernel
theorem dX4_count_53 : decode cX4_count 53 = .ok (.iadd, 1) := by decide +kernel
theorem dX4_count_54 : decode cX4_count 54 = .ok (.istore_n 2, 1) := by decide +kernel
theorem dX4_count_55 : decode cX4_count 55 = .ok (.iinc 3 1, 3) := by decide +kernel
theorem dX4_count_58 : decode cX4_count 58 = .ok (.goto (-28), 3) := by decide +kernel
theorem dX4_count_61 : decode cX4_count 61 = .ok (.iload_n 2, 1) := by decide +kernel
theorem dX4_count_62 : decode cX4_count 62 = .ok (.ireturn, 1) := by decide +kernel
theorem dX4_count_63 : decode cX4_count 63 = .ok (.iload_n 1, 1) := by decide +kernel
theorem dX4_count_64 : decode cX4_count 64 = .ok (.ifCond .ne 10, 3) := by decide +kernel
theorem dX4_count_67 : decode cX4_count 67 = .ok (.aload_n 0, 1) := by decide +kernel
theorem dX4_count_68 : decode cX4_count 68 = .ok (.getfield 106, 3) := by decide +kernel
theorem dX4_count_71 : decode cX4_count 71 = .ok (.goto 68, 3) := by decide +kernel
theorem dX4_count_74 : decode cX4_count 74 = .ok (.iload_n 1, 1) := by decide +kernel
theorem dX4_count_75 : decode cX4_count 75 = .ok (.iconst 1, 1) := by decide +kernel
theorem dX4_count_76 : decode cX4_count 76 = .ok (.if_icmp .ne 10, 3) := by decide +kernel
theorem dX4_count_79 : decode cX4_count 79 = .ok (.aload_n 0, 1) := by decide +kernel
theorem dX4_count_80 : decode cX4_count 80 = .ok (.getfield 119, 3) := by decide +kernel
theorem dX4_count_83 : decode cX4_count 83 = .ok (.goto 56, 3) := by decide +kernel
theorem dX4_count_86 : decode cX4_count 86 = .ok (.iload_n 1, 1) := by decide +kernel
theorem dX4_count_87 : decode cX4_count 87 = .ok (.iconst 2, 1) := by decide +kernel
theorem dX4_count_88 : decode cX4_count 88 = .ok (.if_icmp .ne 10, 3) := by decide +kernel
theorem dX4_count_91 : decode cX4_count 91 = .ok (.aload_n 0, 1) := by decide +kernel
theorem dX4_count_92 : decode cX4_count 92 = .ok (.getfield 122, 3) := by decide +kernel
theorem dX4_count_95 : decode cX4_count 95 = .ok (.goto 44, 3) := by decide +kernel
theorem dX4_count_98 : decode cX4_count 98 = .ok (.iload_n 1, 1) := by decide +kernel
theorem dX4_count_99 : decode cX4_count 99 = .ok (.iconst 3, 1) := by decide +kernel
theorem dX4_count_100 : decode cX4_count 100 = .ok (.if_icmp .ne 10, 3) := by decide +kernel
theorem dX4_count_103 : decode cX4_count 103 = .ok (.aload_n 0, 1) := by decide +kernel
theorem dX4_count_104 : decode cX4_count 104 = .ok (.getfield 113, 3) := by decide +kernel
theorem dX4_count_107 : decode cX4_count 107 = .ok (.goto 32, 3) := by decide +kernel
theorem dX4_count_110 : decode cX4_count 110 = .ok (.iload_n 1, 1) := by decide +kernel
theorem dX4_count_111 : decode cX4_count 111 = .ok (.iconst 5, 1) := by decide +kernel
theorem dX4_count_112 : decode cX4_count 112 = .ok (.if_icmp .ne 10, 3) := by decide +kernel
theorem dX4_count_115 : decode cX4_count 115 = .ok (.aload_n 0, 1) := by decide +kernel
theorem dX4_count_116 : decode cX4_count 116 = .ok (.getfield 84, 3) := by decide +kernel
theorem dX4_count_119 : decode cX4_count 119 = .ok (.goto 20, 3) := by decide +kernel
theorem dX4_count_122 : decode cX4_count 122 = .ok (.iload_n 1, 1) := by decide +kernel
theorem dX4_count_123 : decode cX4_count 123 = .ok (.bipush 6, 2) := by decide +kernel
theorem dX4_count_125 : decode cX4_count 125 = .ok (.if_icmp .ne 10, 3) := by decide +kernel
theorem dX4_count_128 : decode cX4_count 128 = .ok (.aload_n 0, 1) := by decide +kernel
theorem dX4_count_129 : decode cX4_count 129 = .ok (.getfield 88, 3) := by decide +kernel
theorem dX4_count_132 : decode cX4_count 132 = .ok (.goto 7, 3) := by decide +kernel
theorem dX4_count_135 : decode cX4_count 135 = .ok (.aload_n 0, 1) := by decide +kernel
theorem dX4_count_136 : decode cX4_count 136 = .ok (.getfield 91, 3) := by decide +kernel
theorem dX4_count_139 : decode cX4_count 139 = .ok (.ireturn, 1) := by decide +kernel
theorem dJ9_floorMod_7cf53_0 : decode cJ9_floorMod_7cf53 0 = .ok (.iload_n 0, 1) := by decide +kernel
theorem dJ9_floorMod_7cf53_1 : decode cJ9_floorMod_7cf53 1 = .ok (.iload_n 1, 1) := by decide +kernel
theorem dJ9_floorMod_7cf53_2 : decode cJ9_floorMod_7cf53 2 = .ok (.irem, 1) := by decide +kernel
theorem dJ9_floorMod_7cf53_3 : decode cJ9_floorMod_7cf53 3 = .ok (.istore_n 2, 1) := by decide +kernel
theorem dJ9_floorMod_7cf53_4 : decode cJ9_floorMod_7cf53 4 = .ok (.iload_n 0, 1) := by decide +kernel
theorem dJ9_floorMod_7cf53_5 : decode cJ9_floorMod_7cf53 5 = .ok (.iload_n 1, 1) := by decide +kernel
theorem dJ9_floorMod_7cf53_6 : decode cJ9_floorMod_7cf53 6 = .ok (.ixor, 1) := by decide +kernel
theorem dJ9_floorMod_7cf53_7 : decode cJ9_floorMod_7cf53 7 = .ok (.ifCond .ge 11, 3) := by decide +kernel
theorem dJ9_floorMod_7cf53_10 : decode cJ9_floorMod_7cf53 10 = .ok (.iload_n 2, 1) := by decide +kernel
theorem dJ9_floorMod_7cf53_11 : decode cJ9_floorMod_7cf53 11 = .ok (.ifCond .eq 7, 3) := by decide +kernel
theorem dJ9_floorMod_7cf53_14 : decode cJ9_floorMod_7cf53 14 = .ok (.iload_n 2, 1) := by decide +kernel
theorem dJ9_floorMod_7cf53_15 : decode cJ9_floorMod_7cf53 15 = .ok (.iload_n 1, 1) := by decide +kernel
theorem dJ9_floorMod_7cf53_16 : decode cJ9_floorMod_7cf53 16 = .ok (.iadd, 1) := by decide +kernel
theorem dJ9_floorMod_7cf53_17 : decode cJ9_floorMod_7cf53 17 = .ok (.ireturn, 1) := by decide +kernel
theorem dJ9_floorMod_7cf53_18 : decode cJ9_floorMod_7cf53 18 = .ok (.iload_n 2, 1) := by decide +kernel
theorem dJ9_floorMod_7cf53_19 : decode cJ9_floorMod_7cf53 19 = .ok (.ireturn, 1) := by decide +kernel
theorem dJ9_max_f86c9_0 : decode cJ9_max_f86c9 0 = .ok (.lload_n 0, 1) := by decide +kernel
theorem dJ9_max_f86c9_1 : decode cJ9_max_f86c9 1 = .ok (.lload_n 2, 1) := by decide +kernel
theorem dJ9_max_f86c9_2 : decode cJ9_max_f86c9 2 = .ok (.lcmp, 1) := by decide +kernel
theorem dJ9_max_f86c9_3 : decode cJ9_max_f86c9 3 = .ok (.ifCond .lt 7, 3) := by decide +kernel
theorem dJ9_max_f86c9_6 : decode cJ9_max_f86c9 6 = .ok (.lload_n 0, 1) := by decide +kernel
theorem dJ9_max_f86c9_7 : decode cJ9_max_f86c9 7 = .ok (.goto 4, 3) := by decide +kernel
theorem dJ9_max_f86c9_10 : decode cJ9_max_f86c9 10 = .ok (.lload_n 2, 1) := by decide +kernel
theorem dJ9_max_f86c9_11 : decode cJ9_max_f86c9 11 = .ok (.lreturn, 1) := by decide +kernel
theorem dJ9_min_f86c9_0 : decode cJ9_min_f86c9 0 = .ok (.lload_n 0, 1) := by decide +kernel
theorem dJ9_min_f86c9_1 : decode cJ9_min_f86c9 1 = .ok (.lload_n 2, 1) := by decide +kernel
theorem dJ9_min_f86c9_2 : decode cJ9_min_f86c9 2 = .ok (.lcmp, 1) := by decide +kernel
theorem dJ9_min_f86c9_3 : decode cJ9_min_f86c9 3 = .ok (.ifCond .gt 7, 3) := by decide +kernel
theorem dJ9_min_f86c9_6 : decode cJ9_min_f86c9 6 = .ok (.lload_n 0, 1) := by decide +kernel
theorem dJ9_min_f86c9_7 : decode cJ9_min_f86c9 7 = .ok (.goto 4, 3) := by decide +kernel
theorem dJ9_min_f86c9_10 : decode cJ9_min_f86c9 10 = .ok (.lload_n 2, 1) := by decide +kernel
theorem dJ9_min_f86c9_11 : decode cJ9_min_f86c9 11 = .ok (.lreturn, 1) := by decide +kernel
theorem dJ7_fill_53178_0 : decode cJ7_fill_53178 0 = .ok (.iconst 0, 1) := by decide +kernel
theorem dJ7_fill_53178_1 : decode cJ7_fill_53178 1 = .ok (.istore_n 2, 1) := by decide +kernel
theorem dJ7_fill_53178_2 : decode cJ7_fill_53178 2 = .ok (.aload_n 0, 1) := by decide +kernel
theorem dJ7_fill_53178_3 : decode cJ7_fill_53178 3 = .ok (.arraylength, 1) := by decide +kernel
theorem dJ7_fill_53178_4 : decode cJ7_fill_53178 4 = .ok (.istore_n 3, 1) := by decide +kernel
theorem dJ7_fill_53178_5 : decode cJ7_fill_53178 5 = .ok (.iload_n 2, 1) := by decide +kernel
theorem dJ7_fill_53178_6 : decode cJ7_fill_53178 6 = .ok (.iload_n 3, 1) := by decide +kernel
theorem dJ7_fill_53178_7 : decode cJ7_fill_53178 7 = .ok (.if_icmp .ge 13, 3) := by decide +kernel
theorem dJ7_fill_53178_10 : decode cJ7_fill_53178 10 = .ok (.aload_n 0, 1) := by decide +kernel
theorem dJ7_fill_53178_11 : decode cJ7_fill_53178 11 = .ok (.iload_n 2, 1) := by decide +kernel
theorem dJ7_fill_53178_12 : decode cJ7_fill_53178 12 = .ok (.iload_n 1, 1) := by decide +kernel
theorem dJ7_fill_53178_13 : decode cJ7_fill_53178 13 = .ok (.iastore, 1) := by decide +kernel
theorem dJ7_fill_53178_14 : decode cJ7_fill_53178 14 = .ok (.iinc 2 1, 3) := by decide +kernel
theorem dJ7_fill_53178_17 : decode cJ7_fill_53178 17 = .ok (.goto (-12), 3) := by decide +kernel
theorem dJ7_fill_53178_20 : decode cJ7_fill_53178 20 = .ok (.return_, 1) := by decide +kernel
