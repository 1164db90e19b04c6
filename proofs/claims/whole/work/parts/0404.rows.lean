set_option maxRecDepth 20000 in
theorem ggX3_age_X3_settleAges : GoodIn wsX3_age wsX3_settleAges := goodIn_r _ [18, 19, 4, 3, 20, 21, 22, 23, 24, 25, 26, 27, 28, 29, 30, 31, 32, 33, 34, 35, 36, 37, 38, 39, 40, 41, 42, 43, 44, 45, 46, 47, 48, 49, 50, 51, 52, 53, 54, 55, 56, 57, 58, 59, 60, 61, 62, 63, 64, 65, 66, 67, 68, 69, 70, 71, 72, 73, 74, 75, 76, 77, 78, 79, 80, 81, 82, 83, 94, 95, 96, 97, 98, 114, 115, 116, 117, 118, 119, 120, 121, 122, 123, 124, 125, 126, 99, 100, 101, 102, 103, 104, 105, 106, 107, 108, 109, 110, 111, 112, 113] (by decide +kernel) (by decide +kernel)
set_option maxRecDepth 20000 in
theorem gX3_age_X3_settleAges : GoodIn wsX3_age (wsV RX3 144 RX3 yX3_settleAges wsX3_settleAges) := goodIn_app (goodIn_of _ (by decide +kernel)) ggX3_age_X3_settleAges
set_option maxRecDepth 20000 in
theorem ggX3_age_X1_slotOf : GoodIn wsX3_age wsX1_slotOf := goodIn_r _ [87, 88, 89, 99, 100, 101, 102, 103, 104, 105, 106, 107, 108, 109, 110, 111, 112, 113] (by decide +kernel) (by decide +kernel)
set_option maxRecDepth 20000 in
theorem gX3_age_X1_slotOf : GoodIn wsX3_age (wsV RX3 156 RX1 yX1_slotOf wsX1_slotOf) := goodIn_app (goodIn_of _ (by decide +kernel)) ggX3_age_X1_slotOf
set_option maxRecDepth 20000 in
theorem ggX3_age_X0_ageAtBegin : GoodIn wsX3_age wsX0_ageAtBegin := goodIn_r _ [93, 28, 46, 47, 35, 114, 115, 116, 117, 118, 119, 120, 121, 122, 123, 124, 125, 126] (by decide +kernel) (by decide +kernel)
set_option maxRecDepth 20000 in
theorem gX3_age_X0_ageAtBegin : GoodIn wsX3_age (wsV RX3 159 RX0 yX0_ageAtBegin wsX0_ageAtBegin) := goodIn_app (goodIn_of _ (by decide +kernel)) ggX3_age_X0_ageAtBegin
theorem dX3_age_0 : decode cX3_age 0 = .ok (.aload_n 0, 1) := by decide +kernel
theorem dX3_age_1 : decode cX3_age 1 = .ok (.getfield 10, 3) := by decide +kernel
theorem dX3_age_4 : decode cX3_age 4 = .ok (.iload_n 1, 1) := by decide +kernel
theorem dX3_age_5 : decode cX3_age 5 = .ok (.invokevirtual 69, 3) := by decide +kernel
theorem dX3_age_8 : decode cX3_age 8 = .ok (.ifCond .eq 10, 3) := by decide +kernel
theorem dX3_age_11 : decode cX3_age 11 = .ok (.iload_n 3, 1) := by decide +kernel
theorem dX3_age_12 : decode cX3_age 12 = .ok (.invokestatic 133, 3) := by decide +kernel
theorem dX3_age_15 : decode cX3_age 15 = .ok (.ifCond .ne 13, 3) := by decide +kernel
theorem dX3_age_18 : decode cX3_age 18 = .ok (.new 73, 3) := by decide +kernel
theorem dX3_age_21 : decode cX3_age 21 = .ok (.dup, 1) := by decide +kernel
theorem dX3_age_22 : decode cX3_age 22 = .ok (.ldc 154, 2) := by decide +kernel
theorem dX3_age_24 : decode cX3_age 24 = .ok (.invokespecial 77, 3) := by decide +kernel
theorem dX3_age_27 : decode cX3_age 27 = .ok (.athrow, 1) := by decide +kernel
theorem dX3_age_28 : decode cX3_age 28 = .ok (.aload_n 0, 1) := by decide +kernel
theorem dX3_age_29 : decode cX3_age 29 = .ok (.invokevirtual 144, 3) := by decide +kernel
theorem dX3_age_32 : decode cX3_age 32 = .ok (.aload_n 0, 1) := by decide +kernel
theorem dX3_age_33 : decode cX3_age 33 = .ok (.getfield 27, 3) := by decide +kernel
theorem dX3_age_36 : decode cX3_age 36 = .ok (.iload_n 1, 1) := by decide +kernel
theorem dX3_age_37 : decode cX3_age 37 = .ok (.aload_n 0, 1) := by decide +kernel
theorem dX3_age_38 : decode cX3_age 38 = .ok (.getfield 10, 3) := by decide +kernel
theorem dX3_age_41 : decode cX3_age 41 = .ok (.iload_n 2, 1) := by decide +kernel
theorem dX3_age_42 : decode cX3_age 42 = .ok (.invokevirtual 156, 3) := by decide +kernel
theorem dX3_age_45 : decode cX3_age 45 = .ok (.iload_n 3, 1) := by decide +kernel
theorem dX3_age_46 : decode cX3_age 46 = .ok (.invokevirtual 159, 3) := by decide +kernel
theorem dX3_age_49 : decode cX3_age 49 = .ok (.ireturn, 1) := by decide +kernel
set_option maxRecDepth 20000 in
theorem ggX3_time_X1_hasBlock : GoodIn wsX3_time wsX1_hasBlock := goodIn_r _ [9, 10, 93, 94, 95, 96, 97, 98, 99, 100, 101, 102, 103, 104, 105, 106, 107] (by decide +kernel) (by decide +kernel)
set_option maxRecDepth 20000 in
theorem gX3_time_X1_hasBlock : GoodIn wsX3_time (wsV RX3 69 RX1 yX1_hasBlock wsX1_hasBlock) := goodIn_app (goodIn_of _ (by decide +kernel)) ggX3_time_X1_hasBlock
set_option maxRecDepth 20000 in
theorem ggX3_time_X3_isGreatestOrLeast : GoodIn wsX3_time wsX3_isGreatestOrLeast := goodIn_r _ [14] (by decide +kernel) (by decide +kernel)
set_option maxRecDepth 20000 in
theorem gX3_time_X3_isGreatestOrLeast : GoodIn wsX3_time (va_wsS RX3 133 yX3_isGreatestOrLeast wsX3_isGreatestOrLeast) := goodIn_app (goodIn_of _ (by decide +kernel)) ggX3_time_X3_isGreatestOrLeast
set_option maxRecDepth 20000 in
theorem ggX3_time_X3_settleAges : GoodIn wsX3_time wsX3_settleAges := goodIn_r _ [18, 19, 4, 3, 20, 21, 22, 23, 24, 25, 26, 27, 28, 29, 30, 31, 32, 33, 34, 35, 36, 37, 38, 39, 40, 41, 42, 43, 44, 45, 46, 47, 48, 49, 50, 51, 52, 53, 54, 55, 56, 57, 58, 59, 60, 61, 62, 63, 64, 65, 66, 67, 68, 69, 70, 71, 72, 73, 74, 75, 76, 77, 78, 79, 80, 81, 82, 83, 88, 89, 90, 91, 92, 108, 109, 110, 111, 112, 113, 114, 115, 116, 117, 118, 119, 120, 93, 94, 95, 96, 97, 98, 99, 100, 101, 102, 103, 104, 105, 106, 107] (by decide +kernel) (by decide +kernel)
set_option maxRecDepth 20000 in
theorem gX3_time_X3_settleAges : GoodIn wsX3_time (wsV RX3 144 RX3 yX3_settleAges wsX3_settleAges) := goodIn_app (goodIn_of _ (by decide +kernel)) ggX3_time_X3_settleAges
set_option maxRecDepth 20000 in
theorem ggX3_time_X0_timesBy : GoodIn wsX3_time wsX0_timesBy := goodIn_r _ [87, 82, 83, 108, 109, 110, 111, 112, 113, 114, 115, 116, 117, 118, 119, 120] (by decide +kernel) (by decide +kernel)
set_option maxRecDepth 20000 in
theorem gX3_time_X0_timesBy : GoodIn wsX3_time (wsV RX3 163 RX0 yX0_timesBy wsX0_timesBy) := goodIn_app (goodIn_of _ (by decide +kernel)) ggX3_time_X0_timesBy
theorem dX3_time_0 : decode cX3_time 0 = .ok (.aload_n 0, 1) := by decide +kernel
theorem dX3_time_1 : decode cX3_time 1 = .ok (.getfield 10, 3) := by decide +kernel
theorem dX3_time_4 : decode cX3_time 4 = .ok (.iload_n 1, 1) := by decide +kernel
theorem dX3_time_5 : decode cX3_time 5 = .ok (.invokevirtual 69, 3) := by decide +kernel
theorem dX3_time_8 : decode cX3_time 8 = .ok (.ifCond .eq 10, 3) := by decide +kernel
theorem dX3_time_11 : decode cX3_time 11 = .ok (.iload_n 2, 1) := by decide +kernel
theorem dX3_time_12 : decode cX3_time 12 = .ok (.invokestatic 133, 3) := by decide +kernel
theorem dX3_time_15 : decode cX3_time 15 = .ok (.ifCond .ne 13, 3) := by decide +kernel
theorem dX3_time_18 : decode cX3_time 18 = .ok (.new 73, 3) := by decide +kernel
theorem dX3_time_21 : decode cX3_time 21 = .ok (.dup, 1) := by decide +kernel
theorem dX3_time_22 : decode cX3_time 22 = .ok (.ldc 154, 2) := by decide +kernel
theorem dX3_time_24 : decode cX3_time 24 = .ok (.invokespecial 77, 3) := by decide +kernel
theorem dX3_time_27 : decode cX3_time 27 = .ok (.athrow, 1) := by decide +kernel
theorem dX3_time_28 : decode cX3_time 28 = .ok (.aload_n 0, 1) := by decide +kernel
theorem dX3_time_29 : decode cX3_time 29 = .ok (.invokevirtual 144, 3) := by decide +kernel
theorem dX3_time_32 : decode cX3_time 32 = .ok (.aload_n 0, 1) := by decide +kernel
theorem dX3_time_33 : decode cX3_time 33 = .ok (.getfield 27, 3) := by decide +kernel
theorem dX3_time_36 : decode cX3_time 36 = .ok (.iload_n 2, 1) := by decide +kernel
theorem dX3_time_37 : decode cX3_time 37 = .ok (.invokevirtual 163, 3) := by decide +kernel
theorem dX3_time_40 : decode cX3_time 40 = .ok (.iload_n 1, 1) := by decide +kernel
theorem dX3_time_41 : decode cX3_time 41 = .ok (.iaload, 1) := by decide +kernel
theorem dX3_time_42 : decode cX3_time 42 = .ok (.ireturn, 1) := by decide +kernel
set_option maxRecDepth 20000 in
theorem ggX3_count_X3_settleAges : GoodIn wsX3_count wsX3_settleAges := goodIn_r _ [15, 16, 6, 1, 17, 18, 19, 20, 21, 22, 23, 24, 25, 26, 27, 28, 29, 30, 31, 32, 33, 34, 35, 36, 37, 38, 39, 40, 41, 42, 43, 44, 45, 46, 47, 48, 49, 50, 51, 52, 53, 54, 55, 56, 57, 58, 59, 60, 61, 62, 63, 64, 65, 66, 67, 68, 69, 70, 71, 72, 73, 74, 75, 76, 77, 78, 79, 80, 81, 82, 83, 84, 85, 101, 102, 103, 104, 105, 106, 107, 108, 109, 110, 111, 112, 113, 86, 87, 88, 89, 90, 91, 92, 93, 94, 95, 96, 97, 98, 99, 100] (by decide +kernel) (by decide +kernel)
set_option maxRecDepth 20000 in
theorem gX3_count_X3_settleAges : GoodIn wsX3_count (wsV RX3 144 RX3 yX3_settleAges wsX3_settleAges) := goodIn_app (goodIn_of _ (by decide +kernel)) ggX3_count_X3_settleAges
theorem dX3_count_0 : decode cX3_count 0 = .ok (.iload_n 1, 1) := by decide +kernel
theorem dX3_count_1 : decode cX3_count 1 = .ok (.tableswitch 115 0 7 #[47, 55, 63, 71, 79, 91, 99, 107], 47) := by decide +kernel
theorem dX3_count_48 : decode cX3_count 48 = .ok (.aload_n 0, 1) := by decide +kernel
theorem dX3_count_49 : decode cX3_count 49 = .ok (.getfield 10, 3) := by decide +kernel
theorem dX3_count_52 : decode cX3_count 52 = .ok (.getfield 53, 3) := by decide +kernel
theorem dX3_count_55 : decode cX3_count 55 = .ok (.ireturn, 1) := by decide +kernel
theorem dX3_count_56 : decode cX3_count 56 = .ok (.aload_n 0, 1) := by decide +kernel
theorem dX3_count_57 : decode cX3_count 57 = .ok (.getfield 10, 3) := by decide +kernel
theorem dX3_count_60 : decode cX3_count 60 = .ok (.getfield 92, 3) := by decide +kernel
theorem dX3_count_63 : decode cX3_count 63 = .ok (.ireturn, 1) := by decide +kernel
theorem dX3_count_64 : decode cX3_count 64 = .ok (.aload_n 0, 1) := by decide +kernel
theorem dX3_count_65 : decode cX3_count 65 = .ok (.getfield 10, 3) := by decide +kernel
theorem dX3_count_68 : decode cX3_count 68 = .ok (.getfield 112, 3) := by decide +kernel
theorem dX3_count_71 : decode cX3_count 71 = .ok (.ireturn, 1) := by decide +kernel
theorem dX3_count_72 : decode cX3_count 72 = .ok (.aload_n 0, 1) := by decide +kernel
theorem dX3_count_73 : decode cX3_count 73 = .ok (.getfield 10, 3) := by decide +kernel
theorem dX3_count_76 : decode cX3_count 76 = .ok (.getfield 167, 3) := by decide +kernel
theorem dX3_count_79 : decode cX3_count 79 = .ok (.ireturn, 1) := by decide +kernel
theorem dX3_count_80 : decode cX3_count 80 = .ok (.aload_n 0, 1) := by decide +kernel
theorem dX3_count_81 : decode cX3_count 81 = .ok (.invokevirtual 144, 3) := by decide +kernel
theorem dX3_count_84 : decode cX3_count 84 = .ok (.aload_n 0, 1) := by decide +kernel
theorem dX3_count_85 : decode cX3_count 85 = .ok (.getfield 27, 3) := by decide +kernel
theorem dX3_count_88 : decode cX3_count 88 = .ok (.getfield 170, 3) := by decide +kernel
theorem dX3_count_91 : decode cX3_count 91 = .ok (.ireturn, 1) := by decide +kernel
theorem dX3_count_92 : decode cX3_count 92 = .ok (.aload_n 0, 1) := by decide +kernel
theorem dX3_count_93 : decode cX3_count 93 = .ok (.getfield 27, 3) := by decide +kernel
theorem dX3_count_96 : decode cX3_count 96 = .ok (.getfield 173, 3) := by decide +kernel
theorem dX3_count_99 : decode cX3_count 99 = .ok (.ireturn, 1) := by decide +kernel
theorem dX3_count_100 : decode cX3_count 100 = .ok (.aload_n 0, 1) := by decide +kernel
theorem dX3_count_101 : decode cX3_count 101 = .ok (.getfield 27, 3) := by decide +kernel
theorem dX3_count_104 : decode cX3_count 104 = .ok (.getfield 176, 3) := by decide +kernel
theorem dX3_count_107 : decode cX3_count 107 = .ok (.ireturn, 1) := by decide +kernel
theorem dX3_count_108 : decode cX3_count 108 = .ok (.aload_n 0, 1) := by decide +kernel
theorem dX3_count_109 : decode cX3_count 109 = .ok (.getfield 27, 3) := by decide +kernel
theorem dX3_count_112 : decode cX3_count 112 = .ok (.getfield 179, 3) := by decide +kernel
theorem dX3_count_115 : decode cX3_count 115 = .ok (.ireturn, 1) := by decide +kernel
theorem dX3_count_116 : decode cX3_count 116 = .ok (.iconst (-1), 1) := by decide +kernel
theorem dX3_count_117 : decode cX3_count 117 = .ok (.ireturn, 1) := by decide +kernel
theorem dX3_isGreatestOrLeast_0 : decode cX3_isGreatestOrLeast 0 = .ok (.iload_n 0, 1) := by decide +kernel
theorem dX3_isGreatestOrLeast_1 : decode cX3_isGreatestOrLeast 1 = .ok (.ifCond .eq 8, 3) := by decide +kernel
theorem dX3_isGreatestOrLeast_4 : decode cX3_isGreatestOrLeast 4 = .ok (.iload_n 0, 1) := by decide +kernel
theorem dX3_isGreatestOrLeast_5 : decode cX3_isGreatestOrLeast 5 = .ok (.iconst 1, 1) := by decide +kernel
theorem dX3_isGreatestOrLeast_6 : decode cX3_isGreatestOrLeast 6 = .ok (.if_icmp .ne 7, 3) := by decide +kernel
theorem dX3_isGreatestOrLeast_9 : decode cX3_isGreatestOrLeast 9 = .ok (.iconst 1, 1) := by decide +kernel
theorem dX3_isGreatestOrLeast_10 : decode cX3_isGreatestOrLeast 10 = .ok (.goto 4, 3) := by decide +kernel
theorem dX3_isGreatestOrLeast_13 : decode cX3_isGreatestOrLeast 13 = .ok (.iconst 0, 1) := by decide +kernel
theorem dX3_isGreatestOrLeast_14 : decode cX3_isGreatestOrLeast 14 = .ok (.ireturn, 1) := by decide +kernel
theorem dX3_forgetAges_0 : decode cX3_forgetAges 0 = .ok (.aload_n 0, 1) := by decide +kernel
theorem dX3_forgetAges_1 : decode cX3_forgetAges 1 = .ok (.iconst 0, 1) := by decide +kernel
theorem dX3_forgetAges_2 : decode cX3_forgetAges 2 = .ok (.putfield 38, 3) := by decide +kernel
theorem dX3_forgetAges_5 : decode cX3_forgetAges 5 = .ok (.aload_n 0, 1) := by decide +kernel
theorem dX3_forgetAges_6 : decode cX3_forgetAges 6 = .ok (.iconst 0, 1) := by decide +kernel
theorem dX3_forgetAges_7 : decode cX3_forgetAges 7 = .ok (.putfield 42, 3) := by decide +kernel
theorem dX3_forgetAges_10 : decode cX3_forgetAges 10 = .ok (.return_, 1) := by decide +kernel
set_option maxRecDepth 20000 in
theorem ggX3_settleAges_X0_settle : GoodIn wsX3_settleAges wsX0_settle := goodIn_r _ [8, 9, 10, 11, 12, 13, 14, 15, 7, 16, 17, 18, 19, 20, 21, 22, 23, 24, 25, 26, 27, 28, 29, 30, 31, 32, 33, 34, 35, 36, 37, 38, 39, 40, 41, 42, 43, 44, 45, 46, 47, 48, 49, 50, 51, 52, 53, 54, 55, 56, 57, 58, 59, 60, 61, 62, 63, 64, 65, 66, 67, 73, 74, 75, 76, 77, 78, 79, 80, 81, 82, 83, 84, 85, 86, 87, 88, 89, 90, 91, 92, 93, 94, 95, 96, 97, 98, 99, 100] (by decide +kernel) (by decide +kernel)
set_option maxRecDepth 20000 in
theorem gX3_settleAges_X0_settle : GoodIn wsX3_settleAges (wsV RX3 182 RX0 yX0_settle wsX0_settle) := goodIn_app (goodIn_of _ (by decide +kernel)) ggX3_settleAges_X0_settle
theorem dX3_settleAges_0 : decode cX3_settleAges 0 = .ok (.aload_n 0, 1) := by decide +kernel
theorem dX3_settleAges_1 : decode cX3_settleAges 1 = .ok (.getfield 38, 3) := by decide +kernel
theorem dX3_settleAges_4 : decode cX3_settleAges 4 = .ok (.ifCond .ne 19, 3) := by decide +kernel
theorem dX3_settleAges_7 : decode cX3_settleAges 7 = .ok (.aload_n 0, 1) := by decide +kernel
theorem dX3_settleAges_8 : decode cX3_settleAges 8 = .ok (.getfield 27, 3) := by decide +kernel
theorem dX3_settleAges_11 : decode cX3_settleAges 11 = .ok (.aload_n 0, 1) := by decide +kernel
theorem dX3_settleAges_12 : decode cX3_settleAges 12 = .ok (.getfield 10, 3) := by decide +kernel
theorem dX3_settleAges_15 : decode cX3_settleAges 15 = .ok (.invokevirtual 182, 3) := by decide +kernel
theorem dX3_settleAges_18 : decode cX3_settleAges 18 = .ok (.aload_n 0, 1) := by decide +kernel
theorem dX3_settleAges_19 : decode cX3_settleAges 19 = .ok (.iconst 1, 1) := by decide +kernel
theorem dX3_settleAges_20 : decode cX3_settleAges 20 = .ok (.putfield 38, 3) := by decide +kernel
theorem dX3_settleAges_23 : decode cX3_settleAges 23 = .ok (.return_, 1) := by decide +kernel
set_option maxRecDepth 20000 in
theorem ggX3_hasAnswer_X3_settleAges : GoodIn wsX3_hasAnswer wsX3_settleAges := goodIn_r _ [10, 11, 4, 3, 12, 13, 14, 15, 16, 17, 18, 19, 20, 21, 22, 23, 24, 25, 26, 27, 28, 29, 30, 31, 32, 33, 34, 35, 36, 37, 38, 39, 40, 41, 42, 43, 44, 45, 46, 47, 48, 49, 50, 51, 52, 53, 54, 55, 56, 57, 58, 59, 60, 61, 62, 63, 64, 65, 66, 67, 68, 69, 70, 71, 72, 73, 74, 75, 156, 157, 158, 159, 160, 171, 172, 173, 174, 175, 176, 177, 178, 179, 180, 181, 182, 183, 184, 185, 186, 187, 188, 189, 190, 191, 192, 193, 194, 195, 196, 197, 198] (by decide +kernel) (by decide +kernel)
set_option maxRecDepth 20000 in
theorem gX3_hasAnswer_X3_settleAges : GoodIn wsX3_hasAnswer (wsV RX3 144 RX3 yX3_settleAges wsX3_settleAges) := goodIn_app (goodIn_of _ (by decide +kernel)) ggX3_hasAnswer_X3_settleAges
set_option maxRecDepth 20000 in
theorem ggX3_hasAnswer_X2_solve : GoodIn wsX3_hasAnswer wsX2_solve := goodIn_r _ [80, 81, 82, 83, 84, 85, 86, 87, 79, 88, 89, 90, 91, 92, 93, 94, 95, 96, 97, 98, 99, 100, 101, 102, 103, 104, 105, 106, 107, 108, 109, 110, 111, 112, 113, 114, 115, 31, 32, 33, 116, 117, 118, 119, 120, 121, 122, 123, 124, 125, 126, 127, 128, 129, 130, 131, 132, 133, 134, 135, 136, 137, 138, 139, 140, 141, 142, 143, 144, 145, 146, 147, 148, 149, 150, 151, 152, 153, 154, 15, 155, 74, 75, 161, 162, 163, 164, 165, 166, 167, 168, 169, 170, 184, 185, 186, 187, 188, 189, 190, 191, 192, 193, 194, 195, 196, 197, 198, 171, 172, 173, 174, 175, 176, 177, 178, 179, 180, 181, 182, 183] (by decide +kernel) (by decide +kernel)
set_option maxRecDepth 20000 in
theorem gX3_hasAnswer_X2_solve : GoodIn wsX3_hasAnswer (wsV RX3 186 RX2 yX2_solve wsX2_solve) := goodIn_app (goodIn_of _ (by decide +kernel)) ggX3_hasAnswer_X2_solve
theorem dX3_hasAnswer_0 : decode cX3_hasAnswer 0 = .ok (.aload_n 0, 1) := by decide +kernel
theorem dX3_hasAnswer_1 : decode cX3_hasAnswer 1 = .ok (.invokevirtual 144, 3) := by decide +kernel
theorem dX3_hasAnswer_4 : decode cX3_hasAnswer 4 = .ok (.aload_n 0, 1) := by decide +kernel
theorem dX3_hasAnswer_5 : decode cX3_hasAnswer 5 = .ok (.getfield 42, 3) := by decide +kernel
theorem dX3_hasAnswer_8 : decode cX3_hasAnswer 8 = .ok (.ifCond .ne 23, 3) := by decide +kernel
theorem dX3_hasAnswer_11 : decode cX3_hasAnswer 11 = .ok (.aload_n 0, 1) := by decide +kernel
theorem dX3_hasAnswer_12 : decode cX3_hasAnswer 12 = .ok (.getfield 34, 3) := by decide +kernel
theorem dX3_hasAnswer_15 : decode cX3_hasAnswer 15 = .ok (.aload_n 0, 1) := by decide +kernel
theorem dX3_hasAnswer_16 : decode cX3_hasAnswer 16 = .ok (.getfield 10, 3) := by decide +kernel
theorem dX3_hasAnswer_19 : decode cX3_hasAnswer 19 = .ok (.aload_n 0, 1) := by decide +kernel
theorem dX3_hasAnswer_20 : decode cX3_hasAnswer 20 = .ok (.getfield 27, 3) := by decide +kernel
theorem dX3_hasAnswer_23 : decode cX3_hasAnswer 23 = .ok (.invokevirtual 186, 3) := by decide +kernel
theorem dX3_hasAnswer_26 : decode cX3_hasAnswer 26 = .ok (.aload_n 0, 1) := by decide +kernel
theorem dX3_hasAnswer_27 : decode cX3_hasAnswer 27 = .ok (.iconst 1, 1) := by decide +kernel
theorem dX3_hasAnswer_28 : decode cX3_hasAnswer 28 = .ok (.putfield 42, 3) := by decide +kernel
theorem dX3_hasAnswer_31 : decode cX3_hasAnswer 31 = .ok (.aload_n 0, 1) := by decide +kernel
theorem dX3_hasAnswer_32 : decode cX3_hasAnswer 32 = .ok (.getfield 34, 3) := by decide +kernel
theorem dX3_hasAnswer_35 : decode cX3_hasAnswer 35 = .ok (.getfield 190, 3) := by decide +kernel
theorem dX3_hasAnswer_38 : decode cX3_hasAnswer 38 = .ok (.ireturn, 1) := by decide +kernel
set_option maxRecDepth 20000 in
theorem ggX4_init_X4_modulo : GoodIn wsX4_init wsX4_modulo := goodIn_r _ [37] (by decide +kernel) (by decide +kernel)
set_option maxRecDepth 20000 in
theorem gX4_init_X4_modulo : GoodIn wsX4_init (va_wsS RX4 80 yX4_modulo wsX4_modulo) := goodIn_app (goodIn_of _ (by decide +kernel)) ggX4_init_X4_modulo
theorem dX4_init_0 : decode cX4_init 0 = .ok (.aload_n 0, 1) := by decide +kernel
theorem dX4_init_1 : decode cX4_init 1 = .ok (.invokespecial 1, 3) := by decide +kernel
theorem dX4_init_4 : decode cX4_init 4 = .ok (.aload_n 0, 1) := by decide +kernel
theorem dX4_init_5 : decode cX4_init 5 = .ok (.bipush 40, 2) := by decide +kernel
theorem dX4_init_7 : decode cX4_init 7 = .ok (.newarray .int, 2) := by decide +kernel
theorem dX4_init_9 : decode cX4_init 9 = .ok (.putfield 7, 3) := by decide +kernel
theorem dX4_init_12 : decode cX4_init 12 = .ok (.aload_n 0, 1) := by decide +kernel
theorem dX4_init_13 : decode cX4_init 13 = .ok (.bipush 40, 2) := by decide +kernel
theorem dX4_init_15 : decode cX4_init 15 = .ok (.newarray .int, 2) := by decide +kernel
theorem dX4_init_17 : decode cX4_init 17 = .ok (.putfield 13, 3) := by decide +kernel
theorem dX4_init_20 : decode cX4_init 20 = .ok (.aload_n 0, 1) := by decide +kernel
theorem dX4_init_21 : decode cX4_init 21 = .ok (.sipush 240, 3) := by decide +kernel
theorem dX4_init_24 : decode cX4_init 24 = .ok (.newarray .int, 2) := by decide +kernel
theorem dX4_init_26 : decode cX4_init 26 = .ok (.putfield 16, 3) := by decide +kernel
theorem dX4_init_29 : decode cX4_init 29 = .ok (.aload_n 0, 1) := by decide +kernel
theorem dX4_init_30 : decode cX4_init 30 = .ok (.bipush 40, 2) := by decide +kernel
theorem dX4_init_32 : decode cX4_init 32 = .ok (.newarray .int, 2) := by decide +kernel
theorem dX4_init_34 : decode cX4_init 34 = .ok (.putfield 19, 3) := by decide +kernel
theorem dX4_init_37 : decode cX4_init 37 = .ok (.aload_n 0, 1) := by decide +kernel
theorem dX4_init_38 : decode cX4_init 38 = .ok (.bipush 80, 2) := by decide +kernel
theorem dX4_init_40 : decode cX4_init 40 = .ok (.newarray .int, 2) := by decide +kernel
theorem dX4_init_42 : decode cX4_init 42 = .ok (.putfield 22, 3) := by decide +kernel
theorem dX4_init_45 : decode cX4_init 45 = .ok (.aload_n 0, 1) := by decide +kernel
theorem dX4_init_46 : decode cX4_init 46 = .ok (.bipush 80, 2) := by decide +kernel
theorem dX4_init_48 : decode cX4_init 48 = .ok (.newarray .int, 2) := by decide +kernel
theorem dX4_init_50 : decode cX4_init 50 = .ok (.putfield 25, 3) := by decide +kernel
theorem dX4_init_53 : decode cX4_init 53 = .ok (.aload_n 0, 1) := by decide +kernel
theorem dX4_init_54 : decode cX4_init 54 = .ok (.bipush 80, 2) := by decide +kernel
theorem dX4_init_56 : decode cX4_init 56 = .ok (.newarray .int, 2) := by decide +kernel
theorem dX4_init_58 : decode cX4_init 58 = .ok (.putfield 28, 3) := by decide +kernel
theorem dX4_init_61 : decode cX4_init 61 = .ok (.aload_n 0, 1) := by decide +kernel
theorem dX4_init_62 : decode cX4_init 62 = .ok (.iconst 3, 1) := by decide +kernel
theorem dX4_init_63 : decode cX4_init 63 = .ok (.newarray .int, 2) := by decide +kernel
theorem dX4_init_65 : decode cX4_init 65 = .ok (.putfield 31, 3) := by decide +kernel
theorem dX4_init_68 : decode cX4_init 68 = .ok (.aload_n 0, 1) := by decide +kernel
theorem dX4_init_69 : decode cX4_init 69 = .ok (.iconst 3, 1) := by decide +kernel
theorem dX4_init_70 : decode cX4_init 70 = .ok (.newarray .int, 2) := by decide +kernel
theorem dX4_init_72 : decode cX4_init 72 = .ok (.putfield 34, 3) := by decide +kernel
theorem dX4_init_75 : decode cX4_init 75 = .ok (.aload_n 0, 1) := by decide +kernel
theorem dX4_init_76 : decode cX4_init 76 = .ok (.bipush 40, 2) := by decide +kernel
theorem dX4_init_78 : decode cX4_init 78 = .ok (.newarray .boolean, 2) := by decide +kernel
theorem dX4_init_80 : decode cX4_init 80 = .ok (.putfield 37, 3) := by decide +kernel
theorem dX4_init_83 : decode cX4_init 83 = .ok (.aload_n 0, 1) := by decide +kernel
theorem dX4_init_84 : decode cX4_init 84 = .ok (.sipush 1600, 3) := by decide +kernel
theorem dX4_init_87 : decode cX4_init 87 = .ok (.newarray .int, 2) := by decide +kernel
theorem dX4_init_89 : decode cX4_init 89 = .ok (.putfield 41, 3) := by decide +kernel
theorem dX4_init_92 : decode cX4_init 92 = .ok (.aload_n 0, 1) := by decide +kernel
theorem dX4_init_93 : decode cX4_init 93 = .ok (.sipush 1600, 3) := by decide +kernel
theorem dX4_init_96 : decode cX4_init 96 = .ok (.newarray .int, 2) := by decide +kernel
theorem dX4_init_98 : decode cX4_init 98 = .ok (.putfield 44, 3) := by decide +kernel
theorem dX4_init_101 : decode cX4_init 101 = .ok (.aload_n 0, 1) := by decide +kernel
theorem dX4_init_102 : decode cX4_init 102 = .ok (.bipush 40, 2) := by decide +kernel
theorem dX4_init_104 : decode cX4_init 104 = .ok (.newarray .int, 2) := by decide +kernel
theorem dX4_init_106 : decode cX4_init 106 = .ok (.putfield 47, 3) := by decide +kernel
theorem dX4_init_109 : decode cX4_init 109 = .ok (.aload_n 0, 1) := by decide +kernel
theorem dX4_init_110 : decode cX4_init 110 = .ok (.bipush 40, 2) := by decide +kernel
theorem dX4_init_112 : decode cX4_init 112 = .ok (.newarray .int, 2) := by decide +kernel
theorem dX4_init_114 : decode cX4_init 114 = .ok (.putfield 50, 3) := by decide +kernel
theorem dX4_init_117 : decode cX4_init 117 = .ok (.aload_n 0, 1) := by decide +kernel
theorem dX4_init_118 : decode cX4_init 118 = .ok (.sipush 240, 3) := by decide +kernel
theorem dX4_init_121 : decode cX4_init 121 = .ok (.newarray .int, 2) := by decide +kernel
theorem dX4_init_123 : decode cX4_init 123 = .ok (.putfield 53, 3) := by decide +kernel
theorem dX4_init_126 : decode cX4_init 126 = .ok (.aload_n 0, 1) := by decide +kernel
theorem dX4_init_127 : decode cX4_init 127 = .ok (.bipush 40, 2) := by decide +kernel
theorem dX4_init_129 : decode cX4_init 129 = .ok (.newarray .long, 2) := by decide +kernel
theorem dX4_init_131 : decode cX4_init 131 = .ok (.putfield 56, 3) := by decide +kernel
theorem dX4_init_134 : decode cX4_init 134 = .ok (.aload_n 0, 1) := by decide +kernel
theorem dX4_init_135 : decode cX4_init 135 = .ok (.bipush 40, 2) := by decide +kernel
theorem dX4_init_137 : decode cX4_init 137 = .ok (.newarray .long, 2) := by decide +kernel
theorem dX4_init_139 : decode cX4_init 139 = .ok (.putfield 60, 3) := by decide +kernel
theorem dX4_init_142 : decode cX4_init 142 = .ok (.aload_n 0, 1) := by decide +kernel
theorem dX4_init_143 : decode cX4_init 143 = .ok (.bipush 80, 2) := by decide +kernel
theorem dX4_init_145 : decode cX4_init 145 = .ok (.newarray .int, 2) := by decide +kernel
theorem dX4_init_147 : decode cX4_init 147 = .ok (.putfield 63, 3) := by decide +kernel
theorem dX4_init_150 : decode cX4_init 150 = .ok (.aload_n 0, 1) := by decide +kernel
theorem dX4_init_151 : decode cX4_init 151 = .ok (.bipush 80, 2) := by decide +kernel
theorem dX4_init_153 : decode cX4_init 153 = .ok (.newarray .int, 2) := by decide +kernel
theorem dX4_init_155 : decode cX4_init 155 = .ok (.putfield 66, 3) := by decide +kernel
theorem dX4_init_158 : decode cX4_init 158 = .ok (.aload_n 0, 1) := by decide +kernel
theorem dX4_init_159 : decode cX4_init 159 = .ok (.ldc 69, 2) := by decide +kernel
theorem dX4_init_161 : decode cX4_init 161 = .ok (.newarray .long, 2) := by decide +kernel
theorem dX4_init_163 : decode cX4_init 163 = .ok (.putfield 70, 3) := by decide +kernel
theorem dX4_init_166 : decode cX4_init 166 = .ok (.aload_n 0, 1) := by decide +kernel
theorem dX4_init_167 : decode cX4_init 167 = .ok (.ldc 69, 2) := by decide +kernel
theorem dX4_init_169 : decode cX4_init 169 = .ok (.newarray .long, 2) := by decide +kernel
theorem dX4_init_171 : decode cX4_init 171 = .ok (.putfield 73, 3) := by decide +kernel
theorem dX4_init_174 : decode cX4_init 174 = .ok (.aload_n 0, 1) := by decide +kernel
theorem dX4_init_175 : decode cX4_init 175 = .ok (.ldc 76, 2) := by decide +kernel
theorem dX4_init_177 : decode cX4_init 177 = .ok (.newarray .int, 2) := by decide +kernel
theorem dX4_init_179 : decode cX4_init 179 = .ok (.putfield 77, 3) := by decide +kernel
theorem dX4_init_182 : decode cX4_init 182 = .ok (.aload_n 0, 1) := by decide +kernel
theorem dX4_init_183 : decode cX4_init 183 = .ok (.iconst 1, 1) := by decide +kernel
theorem dX4_init_184 : decode cX4_init 184 = .ok (.iload_n 1, 1) := by decide +kernel
theorem dX4_init_185 : decode cX4_init 185 = .ok (.iconst 3, 1) := by decide +kernel
theorem dX4_init_186 : decode cX4_init 186 = .ok (.invokestatic 80, 3) := by decide +kernel
theorem dX4_init_189 : decode cX4_init 189 = .ok (.ishl, 1) := by decide +kernel
theorem dX4_init_190 : decode cX4_init 190 = .ok (.putfield 84, 3) := by decide +kernel
theorem dX4_init_193 : decode cX4_init 193 = .ok (.aload_n 0, 1) := by decide +kernel
theorem dX4_init_194 : decode cX4_init 194 = .ok (.iconst 1, 1) := by decide +kernel
theorem dX4_init_195 : decode cX4_init 195 = .ok (.iload_n 2, 1) := by decide +kernel
theorem dX4_init_196 : decode cX4_init 196 = .ok (.iconst 1, 1) := by decide +kernel
theorem dX4_init_197 : decode cX4_init 197 = .ok (.isub, 1) := by decide +kernel
theorem dX4_init_198 : decode cX4_init 198 = .ok (.iconst 3, 1) := by decide +kernel
theorem dX4_init_199 : decode cX4_init 199 = .ok (.iand, 1) := by decide +kernel
theorem dX4_init_200 : decode cX4_init 200 = .ok (.iadd, 1) := by decide +kernel
theorem dX4_init_201 : decode cX4_init 201 = .ok (.putfield 88, 3) := by decide +kernel
theorem dX4_init_204 : decode cX4_init 204 = .ok (.aload_n 0, 1) := by decide +kernel
theorem dX4_init_205 : decode cX4_init 205 = .ok (.iload_n 3, 1) := by decide +kernel
theorem dX4_init_206 : decode cX4_init 206 = .ok (.sipush 1000, 3) := by decide +kernel
theorem dX4_init_209 : decode cX4_init 209 = .ok (.invokestatic 80, 3) := by decide +kernel
theorem dX4_init_212 : decode cX4_init 212 = .ok (.putfield 91, 3) := by decide +kernel
theorem dX4_init_215 : decode cX4_init 215 = .ok (.return_, 1) := by decide +kernel
theorem dX4_modulo_0 : decode cX4_modulo 0 = .ok (.iload_n 0, 1) := by decide +kernel
theorem dX4_modulo_1 : decode cX4_modulo 1 = .ok (.iload_n 1, 1) := by decide +kernel
theorem dX4_modulo_2 : decode cX4_modulo 2 = .ok (.irem, 1) := by decide +kernel
theorem dX4_modulo_3 : decode cX4_modulo 3 = .ok (.iload_n 1, 1) := by decide +kernel
theorem dX4_modulo_4 : decode cX4_modulo 4 = .ok (.iadd, 1) := by decide +kernel
theorem dX4_modulo_5 : decode cX4_modulo 5 = .ok (.iload_n 1, 1) := by decide +kernel
theorem dX4_modulo_6 : decode cX4_modulo 6 = .ok (.irem, 1) := by decide +kernel
theorem dX4_modulo_7 : decode cX4_modulo 7 = .ok (.ireturn, 1) := by decide +kernel
theorem dX4_thrown_0 : decode cX4_thrown 0 = .ok (.aload_n 0, 1) := by decide +kernel
theorem dX4_thrown_1 : decode cX4_thrown 1 = .ok (.getfield 94, 3) := by decide +kernel
theorem dX4_thrown_4 : decode cX4_thrown 4 = .ok (.ireturn, 1) := by decide +kernel
theorem dX4_fail_0 : decode cX4_fail 0 = .ok (.aload_n 0, 1) := by decide +kernel
theorem dX4_fail_1 : decode cX4_fail 1 = .ok (.iload_n 1, 1) := by decide +kernel
theorem dX4_fail_2 : decode cX4_fail 2 = .ok (.putfield 94, 3) := by decide +kernel
theorem dX4_fail_5 : decode cX4_fail 5 = .ok (.iconst 0, 1) := by decide +kernel
theorem dX4_fail_6 : decode cX4_fail 6 = .ok (.ireturn, 1) := by decide +kernel
theorem dX4_within_0 : decode cX4_within 0 = .ok (.iload_n 0, 1) := by decide +kernel
theorem dX4_within_1 : decode cX4_within 1 = .ok (.iload_n 1, 1) := by decide +kernel
theorem dX4_within_2 : decode cX4_within 2 = .ok (.if_icmp .lt 12, 3) := by decide +kernel
theorem dX4_within_5 : decode cX4_within 5 = .ok (.iload_n 0, 1) := by decide +kernel
theorem dX4_within_6 : decode cX4_within 6 = .ok (.iload_n 2, 1) := by decide +kernel
theorem dX4_within_7 : decode cX4_within 7 = .ok (.if_icmp .gt 7, 3) := by decide +kernel
theorem dX4_within_10 : decode cX4_within 10 = .ok (.iconst 1, 1) := by decide +kernel
theorem dX4_within_11 : decode cX4_within 11 = .ok (.goto 4, 3) := by decide +kernel
theorem dX4_within_14 : decode cX4_within 14 = .ok (.iconst 0, 1) := by decide +kernel
theorem dX4_within_15 : decode cX4_within 15 = .ok (.ireturn, 1) := by decide +kernel
set_option maxRecDepth 20000 in
theorem ggX4_block_X4_within : GoodIn wsX4_block wsX4_within := goodIn_r _ [9] (by decide +kernel) (by decide +kernel)
set_option maxRecDepth 20000 in
theorem gX4_block_X4_within : GoodIn wsX4_block (va_wsS RX4 98 yX4_within wsX4_within) := goodIn_app (goodIn_of _ (by decide +kernel)) ggX4_block_X4_within
