theorem dX0_init_0 : decode cX0_init 0 = .ok (.aload_n 0, 1) := by decide +kernel
theorem dX0_init_1 : decode cX0_init 1 = .ok (.invokespecial 3, 3) := by decide +kernel
theorem dX0_init_4 : decode cX0_init 4 = .ok (.aload_n 0, 1) := by decide +kernel
theorem dX0_init_5 : decode cX0_init 5 = .ok (.bipush 40, 2) := by decide +kernel
theorem dX0_init_7 : decode cX0_init 7 = .ok (.newarray .boolean, 2) := by decide +kernel
theorem dX0_init_9 : decode cX0_init 9 = .ok (.putfield 9, 3) := by decide +kernel
theorem dX0_init_12 : decode cX0_init 12 = .ok (.aload_n 0, 1) := by decide +kernel
theorem dX0_init_13 : decode cX0_init 13 = .ok (.sipush 240, 3) := by decide +kernel
theorem dX0_init_16 : decode cX0_init 16 = .ok (.newarray .int, 2) := by decide +kernel
theorem dX0_init_18 : decode cX0_init 18 = .ok (.putfield 15, 3) := by decide +kernel
theorem dX0_init_21 : decode cX0_init 21 = .ok (.aload_n 0, 1) := by decide +kernel
theorem dX0_init_22 : decode cX0_init 22 = .ok (.bipush 40, 2) := by decide +kernel
theorem dX0_init_24 : decode cX0_init 24 = .ok (.newarray .int, 2) := by decide +kernel
theorem dX0_init_26 : decode cX0_init 26 = .ok (.putfield 19, 3) := by decide +kernel
theorem dX0_init_29 : decode cX0_init 29 = .ok (.aload_n 0, 1) := by decide +kernel
theorem dX0_init_30 : decode cX0_init 30 = .ok (.bipush 40, 2) := by decide +kernel
theorem dX0_init_32 : decode cX0_init 32 = .ok (.newarray .int, 2) := by decide +kernel
theorem dX0_init_34 : decode cX0_init 34 = .ok (.putfield 22, 3) := by decide +kernel
theorem dX0_init_37 : decode cX0_init 37 = .ok (.aload_n 0, 1) := by decide +kernel
theorem dX0_init_38 : decode cX0_init 38 = .ok (.bipush 40, 2) := by decide +kernel
theorem dX0_init_40 : decode cX0_init 40 = .ok (.newarray .boolean, 2) := by decide +kernel
theorem dX0_init_42 : decode cX0_init 42 = .ok (.putfield 25, 3) := by decide +kernel
theorem dX0_init_45 : decode cX0_init 45 = .ok (.aload_n 0, 1) := by decide +kernel
theorem dX0_init_46 : decode cX0_init 46 = .ok (.sipush 1600, 3) := by decide +kernel
theorem dX0_init_49 : decode cX0_init 49 = .ok (.newarray .int, 2) := by decide +kernel
theorem dX0_init_51 : decode cX0_init 51 = .ok (.putfield 28, 3) := by decide +kernel
theorem dX0_init_54 : decode cX0_init 54 = .ok (.aload_n 0, 1) := by decide +kernel
theorem dX0_init_55 : decode cX0_init 55 = .ok (.sipush 1600, 3) := by decide +kernel
theorem dX0_init_58 : decode cX0_init 58 = .ok (.newarray .int, 2) := by decide +kernel
theorem dX0_init_60 : decode cX0_init 60 = .ok (.putfield 31, 3) := by decide +kernel
theorem dX0_init_63 : decode cX0_init 63 = .ok (.aload_n 0, 1) := by decide +kernel
theorem dX0_init_64 : decode cX0_init 64 = .ok (.bipush 40, 2) := by decide +kernel
theorem dX0_init_66 : decode cX0_init 66 = .ok (.newarray .int, 2) := by decide +kernel
theorem dX0_init_68 : decode cX0_init 68 = .ok (.putfield 34, 3) := by decide +kernel
theorem dX0_init_71 : decode cX0_init 71 = .ok (.aload_n 0, 1) := by decide +kernel
theorem dX0_init_72 : decode cX0_init 72 = .ok (.bipush 40, 2) := by decide +kernel
theorem dX0_init_74 : decode cX0_init 74 = .ok (.newarray .int, 2) := by decide +kernel
theorem dX0_init_76 : decode cX0_init 76 = .ok (.putfield 37, 3) := by decide +kernel
theorem dX0_init_79 : decode cX0_init 79 = .ok (.aload_n 0, 1) := by decide +kernel
theorem dX0_init_80 : decode cX0_init 80 = .ok (.iload_n 1, 1) := by decide +kernel
theorem dX0_init_81 : decode cX0_init 81 = .ok (.putfield 40, 3) := by decide +kernel
theorem dX0_init_84 : decode cX0_init 84 = .ok (.aload_n 0, 1) := by decide +kernel
theorem dX0_init_85 : decode cX0_init 85 = .ok (.iload_n 2, 1) := by decide +kernel
theorem dX0_init_86 : decode cX0_init 86 = .ok (.putfield 44, 3) := by decide +kernel
theorem dX0_init_89 : decode cX0_init 89 = .ok (.aload_n 0, 1) := by decide +kernel
theorem dX0_init_90 : decode cX0_init 90 = .ok (.iload_n 3, 1) := by decide +kernel
theorem dX0_init_91 : decode cX0_init 91 = .ok (.putfield 47, 3) := by decide +kernel
theorem dX0_init_94 : decode cX0_init 94 = .ok (.return_, 1) := by decide +kernel
theorem dX0_timesBy_0 : decode cX0_timesBy 0 = .ok (.iload_n 1, 1) := by decide +kernel
theorem dX0_timesBy_1 : decode cX0_timesBy 1 = .ok (.ifCond .ne 10, 3) := by decide +kernel
theorem dX0_timesBy_4 : decode cX0_timesBy 4 = .ok (.aload_n 0, 1) := by decide +kernel
theorem dX0_timesBy_5 : decode cX0_timesBy 5 = .ok (.getfield 19, 3) := by decide +kernel
theorem dX0_timesBy_8 : decode cX0_timesBy 8 = .ok (.goto 7, 3) := by decide +kernel
theorem dX0_timesBy_11 : decode cX0_timesBy 11 = .ok (.aload_n 0, 1) := by decide +kernel
theorem dX0_timesBy_12 : decode cX0_timesBy 12 = .ok (.getfield 22, 3) := by decide +kernel
theorem dX0_timesBy_15 : decode cX0_timesBy 15 = .ok (.areturn, 1) := by decide +kernel
theorem dX0_ageAtBegin_0 : decode cX0_ageAtBegin 0 = .ok (.iload_n 2, 1) := by decide +kernel
theorem dX0_ageAtBegin_1 : decode cX0_ageAtBegin 1 = .ok (.iconst (-1), 1) := by decide +kernel
theorem dX0_ageAtBegin_2 : decode cX0_ageAtBegin 2 = .ok (.if_icmp .eq 12, 3) := by decide +kernel
theorem dX0_ageAtBegin_5 : decode cX0_ageAtBegin 5 = .ok (.aload_n 0, 1) := by decide +kernel
theorem dX0_ageAtBegin_6 : decode cX0_ageAtBegin 6 = .ok (.getfield 9, 3) := by decide +kernel
theorem dX0_ageAtBegin_9 : decode cX0_ageAtBegin 9 = .ok (.iload_n 1, 1) := by decide +kernel
theorem dX0_ageAtBegin_10 : decode cX0_ageAtBegin 10 = .ok (.baload, 1) := by decide +kernel
theorem dX0_ageAtBegin_11 : decode cX0_ageAtBegin 11 = .ok (.ifCond .ne 5, 3) := by decide +kernel
theorem dX0_ageAtBegin_14 : decode cX0_ageAtBegin 14 = .ok (.iconst (-1), 1) := by decide +kernel
theorem dX0_ageAtBegin_15 : decode cX0_ageAtBegin 15 = .ok (.ireturn, 1) := by decide +kernel
theorem dX0_ageAtBegin_16 : decode cX0_ageAtBegin 16 = .ok (.iload_n 3, 1) := by decide +kernel
theorem dX0_ageAtBegin_17 : decode cX0_ageAtBegin 17 = .ok (.ifCond .ne 10, 3) := by decide +kernel
theorem dX0_ageAtBegin_20 : decode cX0_ageAtBegin 20 = .ok (.aload_n 0, 1) := by decide +kernel
theorem dX0_ageAtBegin_21 : decode cX0_ageAtBegin 21 = .ok (.getfield 28, 3) := by decide +kernel
theorem dX0_ageAtBegin_24 : decode cX0_ageAtBegin 24 = .ok (.goto 7, 3) := by decide +kernel
theorem dX0_ageAtBegin_27 : decode cX0_ageAtBegin 27 = .ok (.aload_n 0, 1) := by decide +kernel
theorem dX0_ageAtBegin_28 : decode cX0_ageAtBegin 28 = .ok (.getfield 31, 3) := by decide +kernel
theorem dX0_ageAtBegin_31 : decode cX0_ageAtBegin 31 = .ok (.astore 4, 2) := by decide +kernel
theorem dX0_ageAtBegin_33 : decode cX0_ageAtBegin 33 = .ok (.aload 4, 2) := by decide +kernel
theorem dX0_ageAtBegin_35 : decode cX0_ageAtBegin 35 = .ok (.iload_n 1, 1) := by decide +kernel
theorem dX0_ageAtBegin_36 : decode cX0_ageAtBegin 36 = .ok (.bipush 40, 2) := by decide +kernel
theorem dX0_ageAtBegin_38 : decode cX0_ageAtBegin 38 = .ok (.imul, 1) := by decide +kernel
theorem dX0_ageAtBegin_39 : decode cX0_ageAtBegin 39 = .ok (.iload_n 2, 1) := by decide +kernel
theorem dX0_ageAtBegin_40 : decode cX0_ageAtBegin 40 = .ok (.iadd, 1) := by decide +kernel
theorem dX0_ageAtBegin_41 : decode cX0_ageAtBegin 41 = .ok (.iaload, 1) := by decide +kernel
theorem dX0_ageAtBegin_42 : decode cX0_ageAtBegin 42 = .ok (.istore 5, 2) := by decide +kernel
theorem dX0_ageAtBegin_44 : decode cX0_ageAtBegin 44 = .ok (.iload 5, 2) := by decide +kernel
theorem dX0_ageAtBegin_46 : decode cX0_ageAtBegin 46 = .ok (.aload_n 0, 1) := by decide +kernel
theorem dX0_ageAtBegin_47 : decode cX0_ageAtBegin 47 = .ok (.getfield 44, 3) := by decide +kernel
theorem dX0_ageAtBegin_50 : decode cX0_ageAtBegin 50 = .ok (.if_icmp .ge 8, 3) := by decide +kernel
theorem dX0_ageAtBegin_53 : decode cX0_ageAtBegin 53 = .ok (.iload 5, 2) := by decide +kernel
theorem dX0_ageAtBegin_55 : decode cX0_ageAtBegin 55 = .ok (.goto 4, 3) := by decide +kernel
theorem dX0_ageAtBegin_58 : decode cX0_ageAtBegin 58 = .ok (.iconst (-1), 1) := by decide +kernel
theorem dX0_ageAtBegin_59 : decode cX0_ageAtBegin 59 = .ok (.ireturn, 1) := by decide +kernel
set_option maxRecDepth 20000 in
theorem ggX0_settle_X0_begin : GoodIn wsX0_settle wsX0_begin := goodIn_r _ [9, 4, 10, 3, 11, 12, 13, 14, 15, 16, 17, 18, 19, 20, 21, 8, 22, 23, 24, 61, 62, 63, 64, 65, 66, 67, 68, 69, 70, 71, 72, 73, 74, 75, 76, 77, 78, 79, 80, 81, 82, 83, 84, 85, 86, 87, 88] (by decide +kernel) (by decide +kernel)
set_option maxRecDepth 20000 in
theorem gX0_settle_X0_begin : GoodIn wsX0_settle (wsV RX0 50 RX0 yX0_begin wsX0_begin) := goodIn_app (goodIn_of _ (by decide +kernel)) ggX0_settle_X0_begin
set_option maxRecDepth 20000 in
theorem ggX0_settle_X0_spread : GoodIn wsX0_settle wsX0_spread := goodIn_r _ [28, 3, 10, 29, 30, 31, 14, 32, 33, 34, 8, 35, 11, 23, 13, 24, 36, 37, 38, 39, 40, 41, 42, 12, 43, 44, 45, 46, 47, 48, 49, 50, 51, 52, 19, 20, 21, 22, 4, 74, 75, 76, 77, 78, 79, 80, 81, 82, 83, 84, 85, 86, 87, 88, 61, 62, 63, 64, 65, 66, 67, 68, 69, 70, 71, 72, 73] (by decide +kernel) (by decide +kernel)
set_option maxRecDepth 20000 in
theorem gX0_settle_X0_spread : GoodIn wsX0_settle (wsV RX0 55 RX0 yX0_spread wsX0_spread) := goodIn_app (goodIn_of _ (by decide +kernel)) ggX0_settle_X0_spread
set_option maxRecDepth 20000 in
theorem ggX0_settle_X0_judge : GoodIn wsX0_settle wsX0_judge := goodIn_r _ [56, 57, 4, 36, 38, 58, 59, 60, 74, 75, 76, 77, 78, 79, 80, 81, 82, 83, 84, 85, 86, 87, 88, 61, 62, 63, 64, 65, 66, 67, 68, 69, 70, 71, 72, 73] (by decide +kernel) (by decide +kernel)
set_option maxRecDepth 20000 in
theorem gX0_settle_X0_judge : GoodIn wsX0_settle (wsV RX0 67 RX0 yX0_judge wsX0_judge) := goodIn_app (goodIn_of _ (by decide +kernel)) ggX0_settle_X0_judge
theorem dX0_settle_0 : decode cX0_settle 0 = .ok (.aload_n 0, 1) := by decide +kernel
theorem dX0_settle_1 : decode cX0_settle 1 = .ok (.aload_n 1, 1) := by decide +kernel
theorem dX0_settle_2 : decode cX0_settle 2 = .ok (.invokevirtual 50, 3) := by decide +kernel
theorem dX0_settle_5 : decode cX0_settle 5 = .ok (.iconst 1, 1) := by decide +kernel
theorem dX0_settle_6 : decode cX0_settle 6 = .ok (.istore_n 2, 1) := by decide +kernel
theorem dX0_settle_7 : decode cX0_settle 7 = .ok (.iconst 0, 1) := by decide +kernel
theorem dX0_settle_8 : decode cX0_settle 8 = .ok (.istore_n 3, 1) := by decide +kernel
theorem dX0_settle_9 : decode cX0_settle 9 = .ok (.iload_n 2, 1) := by decide +kernel
theorem dX0_settle_10 : decode cX0_settle 10 = .ok (.ifCond .eq 21, 3) := by decide +kernel
theorem dX0_settle_13 : decode cX0_settle 13 = .ok (.iload_n 3, 1) := by decide +kernel
theorem dX0_settle_14 : decode cX0_settle 14 = .ok (.ldc 54, 2) := by decide +kernel
theorem dX0_settle_16 : decode cX0_settle 16 = .ok (.if_icmp .ge 15, 3) := by decide +kernel
theorem dX0_settle_19 : decode cX0_settle 19 = .ok (.aload_n 0, 1) := by decide +kernel
theorem dX0_settle_20 : decode cX0_settle 20 = .ok (.aload_n 1, 1) := by decide +kernel
theorem dX0_settle_21 : decode cX0_settle 21 = .ok (.invokevirtual 55, 3) := by decide +kernel
theorem dX0_settle_24 : decode cX0_settle 24 = .ok (.istore_n 2, 1) := by decide +kernel
theorem dX0_settle_25 : decode cX0_settle 25 = .ok (.iinc 3 1, 3) := by decide +kernel
theorem dX0_settle_28 : decode cX0_settle 28 = .ok (.goto (-19), 3) := by decide +kernel
theorem dX0_settle_31 : decode cX0_settle 31 = .ok (.aload_n 0, 1) := by decide +kernel
theorem dX0_settle_32 : decode cX0_settle 32 = .ok (.iconst 0, 1) := by decide +kernel
theorem dX0_settle_33 : decode cX0_settle 33 = .ok (.putfield 59, 3) := by decide +kernel
theorem dX0_settle_36 : decode cX0_settle 36 = .ok (.iconst 0, 1) := by decide +kernel
theorem dX0_settle_37 : decode cX0_settle 37 = .ok (.istore_n 3, 1) := by decide +kernel
theorem dX0_settle_38 : decode cX0_settle 38 = .ok (.iload_n 3, 1) := by decide +kernel
theorem dX0_settle_39 : decode cX0_settle 39 = .ok (.aload_n 1, 1) := by decide +kernel
theorem dX0_settle_40 : decode cX0_settle 40 = .ok (.getfield 62, 3) := by decide +kernel
theorem dX0_settle_43 : decode cX0_settle 43 = .ok (.if_icmp .ge 34, 3) := by decide +kernel
theorem dX0_settle_46 : decode cX0_settle 46 = .ok (.aload_n 0, 1) := by decide +kernel
theorem dX0_settle_47 : decode cX0_settle 47 = .ok (.aload_n 1, 1) := by decide +kernel
theorem dX0_settle_48 : decode cX0_settle 48 = .ok (.iload_n 3, 1) := by decide +kernel
theorem dX0_settle_49 : decode cX0_settle 49 = .ok (.invokevirtual 67, 3) := by decide +kernel
theorem dX0_settle_52 : decode cX0_settle 52 = .ok (.aload_n 0, 1) := by decide +kernel
theorem dX0_settle_53 : decode cX0_settle 53 = .ok (.getfield 9, 3) := by decide +kernel
theorem dX0_settle_56 : decode cX0_settle 56 = .ok (.iload_n 3, 1) := by decide +kernel
theorem dX0_settle_57 : decode cX0_settle 57 = .ok (.baload, 1) := by decide +kernel
theorem dX0_settle_58 : decode cX0_settle 58 = .ok (.ifCond .eq 13, 3) := by decide +kernel
theorem dX0_settle_61 : decode cX0_settle 61 = .ok (.aload_n 0, 1) := by decide +kernel
theorem dX0_settle_62 : decode cX0_settle 62 = .ok (.dup, 1) := by decide +kernel
theorem dX0_settle_63 : decode cX0_settle 63 = .ok (.getfield 59, 3) := by decide +kernel
theorem dX0_settle_66 : decode cX0_settle 66 = .ok (.iconst 1, 1) := by decide +kernel
theorem dX0_settle_67 : decode cX0_settle 67 = .ok (.iadd, 1) := by decide +kernel
theorem dX0_settle_68 : decode cX0_settle 68 = .ok (.putfield 59, 3) := by decide +kernel
theorem dX0_settle_71 : decode cX0_settle 71 = .ok (.iinc 3 1, 3) := by decide +kernel
theorem dX0_settle_74 : decode cX0_settle 74 = .ok (.goto (-36), 3) := by decide +kernel
theorem dX0_settle_77 : decode cX0_settle 77 = .ok (.return_, 1) := by decide +kernel
set_option maxRecDepth 20000 in
theorem ggX0_begin_J7_fill_53178 : GoodIn wsX0_begin wsJ7_fill_53178 := goodIn_r _ [11] (by decide +kernel) (by decide +kernel)
set_option maxRecDepth 20000 in
theorem gX0_begin_J7_fill_53178 : GoodIn wsX0_begin (va_wsS RX0 71 yJ7_fill_53178 wsJ7_fill_53178) := goodIn_app (goodIn_of _ (by decide +kernel)) ggX0_begin_J7_fill_53178
set_option maxRecDepth 20000 in
theorem ggX0_begin_X0_joinInto : GoodIn wsX0_begin wsX0_joinInto := goodIn_r _ [16, 1, 4, 17, 6, 18, 19, 20, 21, 22, 23, 24, 25, 26, 27, 28, 29, 30, 31] (by decide +kernel) (by decide +kernel)
set_option maxRecDepth 20000 in
theorem gX0_begin_X0_joinInto : GoodIn wsX0_begin (wsV RX0 80 RX0 yX0_joinInto wsX0_joinInto) := goodIn_app (goodIn_of _ (by decide +kernel)) ggX0_begin_X0_joinInto
theorem dX0_begin_0 : decode cX0_begin 0 = .ok (.iconst 0, 1) := by decide +kernel
theorem dX0_begin_1 : decode cX0_begin 1 = .ok (.istore_n 2, 1) := by decide +kernel
theorem dX0_begin_2 : decode cX0_begin 2 = .ok (.iload_n 2, 1) := by decide +kernel
theorem dX0_begin_3 : decode cX0_begin 3 = .ok (.bipush 40, 2) := by decide +kernel
theorem dX0_begin_5 : decode cX0_begin 5 = .ok (.if_icmp .ge 23, 3) := by decide +kernel
theorem dX0_begin_8 : decode cX0_begin 8 = .ok (.aload_n 0, 1) := by decide +kernel
theorem dX0_begin_9 : decode cX0_begin 9 = .ok (.getfield 9, 3) := by decide +kernel
theorem dX0_begin_12 : decode cX0_begin 12 = .ok (.iload_n 2, 1) := by decide +kernel
theorem dX0_begin_13 : decode cX0_begin 13 = .ok (.iconst 0, 1) := by decide +kernel
theorem dX0_begin_14 : decode cX0_begin 14 = .ok (.bastore, 1) := by decide +kernel
theorem dX0_begin_15 : decode cX0_begin 15 = .ok (.aload_n 0, 1) := by decide +kernel
theorem dX0_begin_16 : decode cX0_begin 16 = .ok (.getfield 25, 3) := by decide +kernel
theorem dX0_begin_19 : decode cX0_begin 19 = .ok (.iload_n 2, 1) := by decide +kernel
theorem dX0_begin_20 : decode cX0_begin 20 = .ok (.iconst 0, 1) := by decide +kernel
theorem dX0_begin_21 : decode cX0_begin 21 = .ok (.bastore, 1) := by decide +kernel
theorem dX0_begin_22 : decode cX0_begin 22 = .ok (.iinc 2 1, 3) := by decide +kernel
theorem dX0_begin_25 : decode cX0_begin 25 = .ok (.goto (-23), 3) := by decide +kernel
theorem dX0_begin_28 : decode cX0_begin 28 = .ok (.aload_n 1, 1) := by decide +kernel
theorem dX0_begin_29 : decode cX0_begin 29 = .ok (.getfield 62, 3) := by decide +kernel
theorem dX0_begin_32 : decode cX0_begin 32 = .ok (.ifCond .le 40, 3) := by decide +kernel
theorem dX0_begin_35 : decode cX0_begin 35 = .ok (.aload_n 0, 1) := by decide +kernel
theorem dX0_begin_36 : decode cX0_begin 36 = .ok (.getfield 34, 3) := by decide +kernel
theorem dX0_begin_39 : decode cX0_begin 39 = .ok (.aload_n 0, 1) := by decide +kernel
theorem dX0_begin_40 : decode cX0_begin 40 = .ok (.getfield 44, 3) := by decide +kernel
theorem dX0_begin_43 : decode cX0_begin 43 = .ok (.invokestatic 71, 3) := by decide +kernel
theorem dX0_begin_46 : decode cX0_begin 46 = .ok (.aload_n 0, 1) := by decide +kernel
theorem dX0_begin_47 : decode cX0_begin 47 = .ok (.getfield 37, 3) := by decide +kernel
theorem dX0_begin_50 : decode cX0_begin 50 = .ok (.aload_n 0, 1) := by decide +kernel
theorem dX0_begin_51 : decode cX0_begin 51 = .ok (.getfield 44, 3) := by decide +kernel
theorem dX0_begin_54 : decode cX0_begin 54 = .ok (.invokestatic 71, 3) := by decide +kernel
theorem dX0_begin_57 : decode cX0_begin 57 = .ok (.aload_n 0, 1) := by decide +kernel
theorem dX0_begin_58 : decode cX0_begin 58 = .ok (.getfield 25, 3) := by decide +kernel
theorem dX0_begin_61 : decode cX0_begin 61 = .ok (.iconst 0, 1) := by decide +kernel
theorem dX0_begin_62 : decode cX0_begin 62 = .ok (.aload_n 0, 1) := by decide +kernel
theorem dX0_begin_63 : decode cX0_begin 63 = .ok (.iconst 0, 1) := by decide +kernel
theorem dX0_begin_64 : decode cX0_begin 64 = .ok (.aload_n 1, 1) := by decide +kernel
theorem dX0_begin_65 : decode cX0_begin 65 = .ok (.getfield 77, 3) := by decide +kernel
theorem dX0_begin_68 : decode cX0_begin 68 = .ok (.invokevirtual 80, 3) := by decide +kernel
theorem dX0_begin_71 : decode cX0_begin 71 = .ok (.bastore, 1) := by decide +kernel
theorem dX0_begin_72 : decode cX0_begin 72 = .ok (.return_, 1) := by decide +kernel
set_option maxRecDepth 20000 in
theorem ggX0_spread_X0_goThrough : GoodIn wsX0_spread wsX0_goThrough := goodIn_r _ [11, 6, 12, 13, 14, 15, 16, 17, 18, 19, 20, 21, 10, 22, 23, 24, 25, 26, 27, 28, 29, 30, 31, 32, 33, 39, 40, 41, 42, 43, 44, 45, 46, 47, 48, 49, 50, 51, 52, 53, 54, 55, 56, 57, 58, 59, 60, 61, 62, 63, 64, 65, 66] (by decide +kernel) (by decide +kernel)
set_option maxRecDepth 20000 in
theorem gX0_spread_X0_goThrough : GoodIn wsX0_spread (wsV RX0 84 RX0 yX0_goThrough wsX0_goThrough) := goodIn_app (goodIn_of _ (by decide +kernel)) ggX0_spread_X0_goThrough
set_option maxRecDepth 20000 in
theorem ggX0_spread_X0_joinInto : GoodIn wsX0_spread wsX0_joinInto := goodIn_r _ [37, 38, 12, 13, 14, 15, 54, 55, 56, 57, 58, 59, 60, 61, 62, 63, 64, 65, 66] (by decide +kernel) (by decide +kernel)
set_option maxRecDepth 20000 in
theorem gX0_spread_X0_joinInto : GoodIn wsX0_spread (wsV RX0 80 RX0 yX0_joinInto wsX0_joinInto) := goodIn_app (goodIn_of _ (by decide +kernel)) ggX0_spread_X0_joinInto
theorem dX0_spread_0 : decode cX0_spread 0 = .ok (.iconst 0, 1) := by decide +kernel
theorem dX0_spread_1 : decode cX0_spread 1 = .ok (.istore_n 2, 1) := by decide +kernel
theorem dX0_spread_2 : decode cX0_spread 2 = .ok (.iconst 0, 1) := by decide +kernel
theorem dX0_spread_3 : decode cX0_spread 3 = .ok (.istore_n 3, 1) := by decide +kernel
theorem dX0_spread_4 : decode cX0_spread 4 = .ok (.iload_n 3, 1) := by decide +kernel
theorem dX0_spread_5 : decode cX0_spread 5 = .ok (.aload_n 1, 1) := by decide +kernel
theorem dX0_spread_6 : decode cX0_spread 6 = .ok (.getfield 62, 3) := by decide +kernel
theorem dX0_spread_9 : decode cX0_spread 9 = .ok (.if_icmp .ge 95, 3) := by decide +kernel
theorem dX0_spread_12 : decode cX0_spread 12 = .ok (.aload_n 0, 1) := by decide +kernel
theorem dX0_spread_13 : decode cX0_spread 13 = .ok (.getfield 25, 3) := by decide +kernel
theorem dX0_spread_16 : decode cX0_spread 16 = .ok (.iload_n 3, 1) := by decide +kernel
theorem dX0_spread_17 : decode cX0_spread 17 = .ok (.baload, 1) := by decide +kernel
theorem dX0_spread_18 : decode cX0_spread 18 = .ok (.ifCond .eq 80, 3) := by decide +kernel
theorem dX0_spread_21 : decode cX0_spread 21 = .ok (.aload_n 0, 1) := by decide +kernel
theorem dX0_spread_22 : decode cX0_spread 22 = .ok (.getfield 25, 3) := by decide +kernel
theorem dX0_spread_25 : decode cX0_spread 25 = .ok (.iload_n 3, 1) := by decide +kernel
theorem dX0_spread_26 : decode cX0_spread 26 = .ok (.iconst 0, 1) := by decide +kernel
theorem dX0_spread_27 : decode cX0_spread 27 = .ok (.bastore, 1) := by decide +kernel
theorem dX0_spread_28 : decode cX0_spread 28 = .ok (.aload_n 0, 1) := by decide +kernel
theorem dX0_spread_29 : decode cX0_spread 29 = .ok (.aload_n 1, 1) := by decide +kernel
theorem dX0_spread_30 : decode cX0_spread 30 = .ok (.iload_n 3, 1) := by decide +kernel
theorem dX0_spread_31 : decode cX0_spread 31 = .ok (.invokevirtual 84, 3) := by decide +kernel
theorem dX0_spread_34 : decode cX0_spread 34 = .ok (.aload_n 1, 1) := by decide +kernel
theorem dX0_spread_35 : decode cX0_spread 35 = .ok (.getfield 87, 3) := by decide +kernel
theorem dX0_spread_38 : decode cX0_spread 38 = .ok (.iload_n 3, 1) := by decide +kernel
theorem dX0_spread_39 : decode cX0_spread 39 = .ok (.iaload, 1) := by decide +kernel
theorem dX0_spread_40 : decode cX0_spread 40 = .ok (.istore 4, 2) := by decide +kernel
theorem dX0_spread_42 : decode cX0_spread 42 = .ok (.iload 4, 2) := by decide +kernel
theorem dX0_spread_44 : decode cX0_spread 44 = .ok (.aload_n 1, 1) := by decide +kernel
theorem dX0_spread_45 : decode cX0_spread 45 = .ok (.getfield 87, 3) := by decide +kernel
theorem dX0_spread_48 : decode cX0_spread 48 = .ok (.iload_n 3, 1) := by decide +kernel
theorem dX0_spread_49 : decode cX0_spread 49 = .ok (.iconst 1, 1) := by decide +kernel
theorem dX0_spread_50 : decode cX0_spread 50 = .ok (.iadd, 1) := by decide +kernel
theorem dX0_spread_51 : decode cX0_spread 51 = .ok (.iaload, 1) := by decide +kernel
theorem dX0_spread_52 : decode cX0_spread 52 = .ok (.if_icmp .ge 46, 3) := by decide +kernel
theorem dX0_spread_55 : decode cX0_spread 55 = .ok (.aload_n 1, 1) := by decide +kernel
theorem dX0_spread_56 : decode cX0_spread 56 = .ok (.getfield 90, 3) := by decide +kernel
theorem dX0_spread_59 : decode cX0_spread 59 = .ok (.aload_n 1, 1) := by decide +kernel
theorem dX0_spread_60 : decode cX0_spread 60 = .ok (.getfield 93, 3) := by decide +kernel
theorem dX0_spread_63 : decode cX0_spread 63 = .ok (.iload 4, 2) := by decide +kernel
theorem dX0_spread_65 : decode cX0_spread 65 = .ok (.iaload, 1) := by decide +kernel
theorem dX0_spread_66 : decode cX0_spread 66 = .ok (.iaload, 1) := by decide +kernel
theorem dX0_spread_67 : decode cX0_spread 67 = .ok (.istore 5, 2) := by decide +kernel
theorem dX0_spread_69 : decode cX0_spread 69 = .ok (.aload_n 0, 1) := by decide +kernel
theorem dX0_spread_70 : decode cX0_spread 70 = .ok (.iload 5, 2) := by decide +kernel
theorem dX0_spread_72 : decode cX0_spread 72 = .ok (.aload_n 1, 1) := by decide +kernel
theorem dX0_spread_73 : decode cX0_spread 73 = .ok (.getfield 77, 3) := by decide +kernel
theorem dX0_spread_76 : decode cX0_spread 76 = .ok (.invokevirtual 80, 3) := by decide +kernel
theorem dX0_spread_79 : decode cX0_spread 79 = .ok (.ifCond .eq 13, 3) := by decide +kernel
theorem dX0_spread_82 : decode cX0_spread 82 = .ok (.aload_n 0, 1) := by decide +kernel
theorem dX0_spread_83 : decode cX0_spread 83 = .ok (.getfield 25, 3) := by decide +kernel
theorem dX0_spread_86 : decode cX0_spread 86 = .ok (.iload 5, 2) := by decide +kernel
theorem dX0_spread_88 : decode cX0_spread 88 = .ok (.iconst 1, 1) := by decide +kernel
theorem dX0_spread_89 : decode cX0_spread 89 = .ok (.bastore, 1) := by decide +kernel
theorem dX0_spread_90 : decode cX0_spread 90 = .ok (.iconst 1, 1) := by decide +kernel
theorem dX0_spread_91 : decode cX0_spread 91 = .ok (.istore_n 2, 1) := by decide +kernel
theorem dX0_spread_92 : decode cX0_spread 92 = .ok (.iinc 4 1, 3) := by decide +kernel
theorem dX0_spread_95 : decode cX0_spread 95 = .ok (.goto (-53), 3) := by decide +kernel
theorem dX0_spread_98 : decode cX0_spread 98 = .ok (.iinc 3 1, 3) := by decide +kernel
theorem dX0_spread_101 : decode cX0_spread 101 = .ok (.goto (-97), 3) := by decide +kernel
theorem dX0_spread_104 : decode cX0_spread 104 = .ok (.iload_n 2, 1) := by decide +kernel
theorem dX0_spread_105 : decode cX0_spread 105 = .ok (.ireturn, 1) := by decide +kernel
theorem dX0_joinInto_0 : decode cX0_joinInto 0 = .ok (.iload_n 1, 1) := by decide +kernel
theorem dX0_joinInto_1 : decode cX0_joinInto 1 = .ok (.bipush 40, 2) := by decide +kernel
theorem dX0_joinInto_3 : decode cX0_joinInto 3 = .ok (.imul, 1) := by decide +kernel
theorem dX0_joinInto_4 : decode cX0_joinInto 4 = .ok (.istore_n 3, 1) := by decide +kernel
theorem dX0_joinInto_5 : decode cX0_joinInto 5 = .ok (.aload_n 0, 1) := by decide +kernel
theorem dX0_joinInto_6 : decode cX0_joinInto 6 = .ok (.getfield 9, 3) := by decide +kernel
theorem dX0_joinInto_9 : decode cX0_joinInto 9 = .ok (.iload_n 1, 1) := by decide +kernel
theorem dX0_joinInto_10 : decode cX0_joinInto 10 = .ok (.baload, 1) := by decide +kernel
theorem dX0_joinInto_11 : decode cX0_joinInto 11 = .ok (.ifCond .ne 7, 3) := by decide +kernel
theorem dX0_joinInto_14 : decode cX0_joinInto 14 = .ok (.iconst 1, 1) := by decide +kernel
theorem dX0_joinInto_15 : decode cX0_joinInto 15 = .ok (.goto 4, 3) := by decide +kernel
theorem dX0_joinInto_18 : decode cX0_joinInto 18 = .ok (.iconst 0, 1) := by decide +kernel
theorem dX0_joinInto_19 : decode cX0_joinInto 19 = .ok (.istore 4, 2) := by decide +kernel
theorem dX0_joinInto_21 : decode cX0_joinInto 21 = .ok (.iload 4, 2) := by decide +kernel
theorem dX0_joinInto_23 : decode cX0_joinInto 23 = .ok (.istore 5, 2) := by decide +kernel
theorem dX0_joinInto_25 : decode cX0_joinInto 25 = .ok (.aload_n 0, 1) := by decide +kernel
theorem dX0_joinInto_26 : decode cX0_joinInto 26 = .ok (.getfield 9, 3) := by decide +kernel
theorem dX0_joinInto_29 : decode cX0_joinInto 29 = .ok (.iload_n 1, 1) := by decide +kernel
theorem dX0_joinInto_30 : decode cX0_joinInto 30 = .ok (.iconst 1, 1) := by decide +kernel
theorem dX0_joinInto_31 : decode cX0_joinInto 31 = .ok (.bastore, 1) := by decide +kernel
theorem dX0_joinInto_32 : decode cX0_joinInto 32 = .ok (.iconst 0, 1) := by decide +kernel
theorem dX0_joinInto_33 : decode cX0_joinInto 33 = .ok (.istore 6, 2) := by decide +kernel
theorem dX0_joinInto_35 : decode cX0_joinInto 35 = .ok (.iload 6, 2) := by decide +kernel
theorem dX0_joinInto_37 : decode cX0_joinInto 37 = .ok (.iload_n 2, 1) := by decide +kernel
theorem dX0_joinInto_38 : decode cX0_joinInto 38 = .ok (.if_icmp .ge 95, 3) := by decide +kernel
theorem dX0_joinInto_41 : decode cX0_joinInto 41 = .ok (.iload 4, 2) := by decide +kernel
theorem dX0_joinInto_43 : decode cX0_joinInto 43 = .ok (.ifCond .ne 22, 3) := by decide +kernel
theorem dX0_joinInto_46 : decode cX0_joinInto 46 = .ok (.aload_n 0, 1) := by decide +kernel
theorem dX0_joinInto_47 : decode cX0_joinInto 47 = .ok (.getfield 34, 3) := by decide +kernel
theorem dX0_joinInto_50 : decode cX0_joinInto 50 = .ok (.iload 6, 2) := by decide +kernel
theorem dX0_joinInto_52 : decode cX0_joinInto 52 = .ok (.iaload, 1) := by decide +kernel
theorem dX0_joinInto_53 : decode cX0_joinInto 53 = .ok (.aload_n 0, 1) := by decide +kernel
theorem dX0_joinInto_54 : decode cX0_joinInto 54 = .ok (.getfield 28, 3) := by decide +kernel
theorem dX0_joinInto_57 : decode cX0_joinInto 57 = .ok (.iload_n 3, 1) := by decide +kernel
theorem dX0_joinInto_58 : decode cX0_joinInto 58 = .ok (.iload 6, 2) := by decide +kernel
theorem dX0_joinInto_60 : decode cX0_joinInto 60 = .ok (.iadd, 1) := by decide +kernel
theorem dX0_joinInto_61 : decode cX0_joinInto 61 = .ok (.iaload, 1) := by decide +kernel
theorem dX0_joinInto_62 : decode cX0_joinInto 62 = .ok (.if_icmp .le 22, 3) := by decide +kernel
theorem dX0_joinInto_65 : decode cX0_joinInto 65 = .ok (.aload_n 0, 1) := by decide +kernel
theorem dX0_joinInto_66 : decode cX0_joinInto 66 = .ok (.getfield 28, 3) := by decide +kernel
theorem dX0_joinInto_69 : decode cX0_joinInto 69 = .ok (.iload_n 3, 1) := by decide +kernel
theorem dX0_joinInto_70 : decode cX0_joinInto 70 = .ok (.iload 6, 2) := by decide +kernel
theorem dX0_joinInto_72 : decode cX0_joinInto 72 = .ok (.iadd, 1) := by decide +kernel
theorem dX0_joinInto_73 : decode cX0_joinInto 73 = .ok (.aload_n 0, 1) := by decide +kernel
theorem dX0_joinInto_74 : decode cX0_joinInto 74 = .ok (.getfield 34, 3) := by decide +kernel
theorem dX0_joinInto_77 : decode cX0_joinInto 77 = .ok (.iload 6, 2) := by decide +kernel
theorem dX0_joinInto_79 : decode cX0_joinInto 79 = .ok (.iaload, 1) := by decide +kernel
theorem dX0_joinInto_80 : decode cX0_joinInto 80 = .ok (.iastore, 1) := by decide +kernel
theorem dX0_joinInto_81 : decode cX0_joinInto 81 = .ok (.iconst 1, 1) := by decide +kernel
theorem dX0_joinInto_82 : decode cX0_joinInto 82 = .ok (.istore 5, 2) := by decide +kernel
theorem dX0_joinInto_84 : decode cX0_joinInto 84 = .ok (.iload 4, 2) := by decide +kernel
theorem dX0_joinInto_86 : decode cX0_joinInto 86 = .ok (.ifCond .ne 22, 3) := by decide +kernel
theorem dX0_joinInto_89 : decode cX0_joinInto 89 = .ok (.aload_n 0, 1) := by decide +kernel
theorem dX0_joinInto_90 : decode cX0_joinInto 90 = .ok (.getfield 37, 3) := by decide +kernel
theorem dX0_joinInto_93 : decode cX0_joinInto 93 = .ok (.iload 6, 2) := by decide +kernel
theorem dX0_joinInto_95 : decode cX0_joinInto 95 = .ok (.iaload, 1) := by decide +kernel
theorem dX0_joinInto_96 : decode cX0_joinInto 96 = .ok (.aload_n 0, 1) := by decide +kernel
theorem dX0_joinInto_97 : decode cX0_joinInto 97 = .ok (.getfield 31, 3) := by decide +kernel
theorem dX0_joinInto_100 : decode cX0_joinInto 100 = .ok (.iload_n 3, 1) := by decide +kernel
theorem dX0_joinInto_101 : decode cX0_joinInto 101 = .ok (.iload 6, 2) := by decide +kernel
theorem dX0_joinInto_103 : decode cX0_joinInto 103 = .ok (.iadd, 1) := by decide +kernel
theorem dX0_joinInto_104 : decode cX0_joinInto 104 = .ok (.iaload, 1) := by decide +kernel
theorem dX0_joinInto_105 : decode cX0_joinInto 105 = .ok (.if_icmp .ge 22, 3) := by decide +kernel
theorem dX0_joinInto_108 : decode cX0_joinInto 108 = .ok (.aload_n 0, 1) := by decide +kernel
theorem dX0_joinInto_109 : decode cX0_joinInto 109 = .ok (.getfield 31, 3) := by decide +kernel
theorem dX0_joinInto_112 : decode cX0_joinInto 112 = .ok (.iload_n 3, 1) := by decide +kernel
theorem dX0_joinInto_113 : decode cX0_joinInto 113 = .ok (.iload 6, 2) := by decide +kernel
theorem dX0_joinInto_115 : decode cX0_joinInto 115 = .ok (.iadd, 1) := by decide +kernel
theorem dX0_joinInto_116 : decode cX0_joinInto 116 = .ok (.aload_n 0, 1) := by decide +kernel
theorem dX0_joinInto_117 : decode cX0_joinInto 117 = .ok (.getfield 37, 3) := by decide +kernel
theorem dX0_joinInto_120 : decode cX0_joinInto 120 = .ok (.iload 6, 2) := by decide +kernel
theorem dX0_joinInto_122 : decode cX0_joinInto 122 = .ok (.iaload, 1) := by decide +kernel
theorem dX0_joinInto_123 : decode cX0_joinInto 123 = .ok (.iastore, 1) := by decide +kernel
theorem dX0_joinInto_124 : decode cX0_joinInto 124 = .ok (.iconst 1, 1) := by decide +kernel
theorem dX0_joinInto_125 : decode cX0_joinInto 125 = .ok (.istore 5, 2) := by decide +kernel
theorem dX0_joinInto_127 : decode cX0_joinInto 127 = .ok (.iinc 6 1, 3) := by decide +kernel
theorem dX0_joinInto_130 : decode cX0_joinInto 130 = .ok (.goto (-95), 3) := by decide +kernel
theorem dX0_joinInto_133 : decode cX0_joinInto 133 = .ok (.iload 5, 2) := by decide +kernel
theorem dX0_joinInto_135 : decode cX0_joinInto 135 = .ok (.ireturn, 1) := by decide +kernel
set_option maxRecDepth 20000 in
theorem ggX0_goThrough_X0_outcomeNow : GoodIn wsX0_goThrough wsX0_outcomeNow := goodIn_r _ [13, 2, 14, 4, 40, 41, 42, 43, 44, 45, 46, 47, 48, 49, 50, 51, 52] (by decide +kernel) (by decide +kernel)
set_option maxRecDepth 20000 in
theorem gX0_goThrough_X0_outcomeNow : GoodIn wsX0_goThrough (wsV RX0 102 RX0 yX0_outcomeNow wsX0_outcomeNow) := goodIn_app (goodIn_of _ (by decide +kernel)) ggX0_goThrough_X0_outcomeNow
set_option maxRecDepth 20000 in
theorem ggX0_goThrough_X0_use : GoodIn wsX0_goThrough wsX0_use := goodIn_r _ [18, 2, 4, 1, 19, 14, 20, 21, 22, 12, 23, 24, 40, 41, 42, 43, 44, 45, 46, 47, 48, 49, 50, 51, 52, 25, 26, 27, 28, 29, 30, 31, 32, 33, 34, 35, 36, 37, 38, 39] (by decide +kernel) (by decide +kernel)
set_option maxRecDepth 20000 in
theorem gX0_goThrough_X0_use : GoodIn wsX0_goThrough (wsV RX0 106 RX0 yX0_use wsX0_use) := goodIn_app (goodIn_of _ (by decide +kernel)) ggX0_goThrough_X0_use
theorem dX0_goThrough_0 : decode cX0_goThrough 0 = .ok (.iload_n 2, 1) := by decide +kernel
theorem dX0_goThrough_1 : decode cX0_goThrough 1 = .ok (.bipush 40, 2) := by decide +kernel
theorem dX0_goThrough_3 : decode cX0_goThrough 3 = .ok (.imul, 1) := by decide +kernel
theorem dX0_goThrough_4 : decode cX0_goThrough 4 = .ok (.istore_n 3, 1) := by decide +kernel
theorem dX0_goThrough_5 : decode cX0_goThrough 5 = .ok (.iconst 0, 1) := by decide +kernel
theorem dX0_goThrough_6 : decode cX0_goThrough 6 = .ok (.istore 4, 2) := by decide +kernel
theorem dX0_goThrough_8 : decode cX0_goThrough 8 = .ok (.iload 4, 2) := by decide +kernel
theorem dX0_goThrough_10 : decode cX0_goThrough 10 = .ok (.aload_n 1, 1) := by decide +kernel
theorem dX0_goThrough_11 : decode cX0_goThrough 11 = .ok (.getfield 77, 3) := by decide +kernel
theorem dX0_goThrough_14 : decode cX0_goThrough 14 = .ok (.if_icmp .ge 41, 3) := by decide +kernel
theorem dX0_goThrough_17 : decode cX0_goThrough 17 = .ok (.aload_n 0, 1) := by decide +kernel
theorem dX0_goThrough_18 : decode cX0_goThrough 18 = .ok (.getfield 34, 3) := by decide +kernel
theorem dX0_goThrough_21 : decode cX0_goThrough 21 = .ok (.iload 4, 2) := by decide +kernel
theorem dX0_goThrough_23 : decode cX0_goThrough 23 = .ok (.aload_n 0, 1) := by decide +kernel
theorem dX0_goThrough_24 : decode cX0_goThrough 24 = .ok (.getfield 28, 3) := by decide +kernel
theorem dX0_goThrough_27 : decode cX0_goThrough 27 = .ok (.iload_n 3, 1) := by decide +kernel
theorem dX0_goThrough_28 : decode cX0_goThrough 28 = .ok (.iload 4, 2) := by decide +kernel
theorem dX0_goThrough_30 : decode cX0_goThrough 30 = .ok (.iadd, 1) := by decide +kernel
theorem dX0_goThrough_31 : decode cX0_goThrough 31 = .ok (.iaload, 1) := by decide +kernel
theorem dX0_goThrough_32 : decode cX0_goThrough 32 = .ok (.iastore, 1) := by decide +kernel
theorem dX0_goThrough_33 : decode cX0_goThrough 33 = .ok (.aload_n 0, 1) := by decide +kernel
theorem dX0_goThrough_34 : decode cX0_goThrough 34 = .ok (.getfield 37, 3) := by decide +kernel
theorem dX0_goThrough_37 : decode cX0_goThrough 37 = .ok (.iload 4, 2) := by decide +kernel
theorem dX0_goThrough_39 : decode cX0_goThrough 39 = .ok (.aload_n 0, 1) := by decide +kernel
theorem dX0_goThrough_40 : decode cX0_goThrough 40 = .ok (.getfield 31, 3) := by decide +kernel
theorem dX0_goThrough_43 : decode cX0_goThrough 43 = .ok (.iload_n 3, 1) := by decide +kernel
theorem dX0_goThrough_44 : decode cX0_goThrough 44 = .ok (.iload 4, 2) := by decide +kernel
theorem dX0_goThrough_46 : decode cX0_goThrough 46 = .ok (.iadd, 1) := by decide +kernel
theorem dX0_goThrough_47 : decode cX0_goThrough 47 = .ok (.iaload, 1) := by decide +kernel
theorem dX0_goThrough_48 : decode cX0_goThrough 48 = .ok (.iastore, 1) := by decide +kernel
theorem dX0_goThrough_49 : decode cX0_goThrough 49 = .ok (.iinc 4 1, 3) := by decide +kernel
theorem dX0_goThrough_52 : decode cX0_goThrough 52 = .ok (.goto (-44), 3) := by decide +kernel
theorem dX0_goThrough_55 : decode cX0_goThrough 55 = .ok (.iconst 0, 1) := by decide +kernel
theorem dX0_goThrough_56 : decode cX0_goThrough 56 = .ok (.istore 4, 2) := by decide +kernel
theorem dX0_goThrough_58 : decode cX0_goThrough 58 = .ok (.iload 4, 2) := by decide +kernel
theorem dX0_goThrough_60 : decode cX0_goThrough 60 = .ok (.aload_n 1, 1) := by decide +kernel
theorem dX0_goThrough_61 : decode cX0_goThrough 61 = .ok (.getfield 96, 3) := by decide +kernel
theorem dX0_goThrough_64 : decode cX0_goThrough 64 = .ok (.iload_n 2, 1) := by decide +kernel
theorem dX0_goThrough_65 : decode cX0_goThrough 65 = .ok (.iaload, 1) := by decide +kernel
theorem dX0_goThrough_66 : decode cX0_goThrough 66 = .ok (.if_icmp .ge 47, 3) := by decide +kernel
theorem dX0_goThrough_69 : decode cX0_goThrough 69 = .ok (.iload_n 2, 1) := by decide +kernel
theorem dX0_goThrough_70 : decode cX0_goThrough 70 = .ok (.bipush 6, 2) := by decide +kernel
theorem dX0_goThrough_72 : decode cX0_goThrough 72 = .ok (.imul, 1) := by decide +kernel
theorem dX0_goThrough_73 : decode cX0_goThrough 73 = .ok (.iload 4, 2) := by decide +kernel
theorem dX0_goThrough_75 : decode cX0_goThrough 75 = .ok (.iadd, 1) := by decide +kernel
theorem dX0_goThrough_76 : decode cX0_goThrough 76 = .ok (.istore 5, 2) := by decide +kernel
theorem dX0_goThrough_78 : decode cX0_goThrough 78 = .ok (.aload_n 1, 1) := by decide +kernel
theorem dX0_goThrough_79 : decode cX0_goThrough 79 = .ok (.getfield 99, 3) := by decide +kernel
theorem dX0_goThrough_82 : decode cX0_goThrough 82 = .ok (.iload 5, 2) := by decide +kernel
theorem dX0_goThrough_84 : decode cX0_goThrough 84 = .ok (.iaload, 1) := by decide +kernel
theorem dX0_goThrough_85 : decode cX0_goThrough 85 = .ok (.istore 6, 2) := by decide +kernel
theorem dX0_goThrough_87 : decode cX0_goThrough 87 = .ok (.aload_n 0, 1) := by decide +kernel
theorem dX0_goThrough_88 : decode cX0_goThrough 88 = .ok (.getfield 15, 3) := by decide +kernel
theorem dX0_goThrough_91 : decode cX0_goThrough 91 = .ok (.iload 5, 2) := by decide +kernel
theorem dX0_goThrough_93 : decode cX0_goThrough 93 = .ok (.aload_n 0, 1) := by decide +kernel
theorem dX0_goThrough_94 : decode cX0_goThrough 94 = .ok (.iload 6, 2) := by decide +kernel
theorem dX0_goThrough_96 : decode cX0_goThrough 96 = .ok (.invokevirtual 102, 3) := by decide +kernel
theorem dX0_goThrough_99 : decode cX0_goThrough 99 = .ok (.iastore, 1) := by decide +kernel
theorem dX0_goThrough_100 : decode cX0_goThrough 100 = .ok (.aload_n 0, 1) := by decide +kernel
theorem dX0_goThrough_101 : decode cX0_goThrough 101 = .ok (.aload_n 1, 1) := by decide +kernel
theorem dX0_goThrough_102 : decode cX0_goThrough 102 = .ok (.iload 6, 2) := by decide +kernel
theorem dX0_goThrough_104 : decode cX0_goThrough 104 = .ok (.invokevirtual 106, 3) := by decide +kernel
theorem dX0_goThrough_107 : decode cX0_goThrough 107 = .ok (.iinc 4 1, 3) := by decide +kernel
theorem dX0_goThrough_110 : decode cX0_goThrough 110 = .ok (.goto (-52), 3) := by decide +kernel
theorem dX0_goThrough_113 : decode cX0_goThrough 113 = .ok (.return_, 1) := by decide +kernel
theorem dX0_outcomeNow_0 : decode cX0_outcomeNow 0 = .ok (.aload_n 0, 1) := by decide +kernel
theorem dX0_outcomeNow_1 : decode cX0_outcomeNow 1 = .ok (.getfield 34, 3) := by decide +kernel
theorem dX0_outcomeNow_4 : decode cX0_outcomeNow 4 = .ok (.iload_n 1, 1) := by decide +kernel
theorem dX0_outcomeNow_5 : decode cX0_outcomeNow 5 = .ok (.iaload, 1) := by decide +kernel
theorem dX0_outcomeNow_6 : decode cX0_outcomeNow 6 = .ok (.aload_n 0, 1) := by decide +kernel
theorem dX0_outcomeNow_7 : decode cX0_outcomeNow 7 = .ok (.getfield 44, 3) := by decide +kernel
theorem dX0_outcomeNow_10 : decode cX0_outcomeNow 10 = .ok (.if_icmp .ge 5, 3) := by decide +kernel
theorem dX0_outcomeNow_13 : decode cX0_outcomeNow 13 = .ok (.iconst 1, 1) := by decide +kernel
theorem dX0_outcomeNow_14 : decode cX0_outcomeNow 14 = .ok (.ireturn, 1) := by decide +kernel
theorem dX0_outcomeNow_15 : decode cX0_outcomeNow 15 = .ok (.aload_n 0, 1) := by decide +kernel
theorem dX0_outcomeNow_16 : decode cX0_outcomeNow 16 = .ok (.getfield 37, 3) := by decide +kernel
theorem dX0_outcomeNow_19 : decode cX0_outcomeNow 19 = .ok (.iload_n 1, 1) := by decide +kernel
theorem dX0_outcomeNow_20 : decode cX0_outcomeNow 20 = .ok (.iaload, 1) := by decide +kernel
theorem dX0_outcomeNow_21 : decode cX0_outcomeNow 21 = .ok (.aload_n 0, 1) := by decide +kernel
theorem dX0_outcomeNow_22 : decode cX0_outcomeNow 22 = .ok (.getfield 44, 3) := by decide +kernel
theorem dX0_outcomeNow_25 : decode cX0_outcomeNow 25 = .ok (.if_icmp .ge 7, 3) := by decide +kernel
theorem dX0_outcomeNow_28 : decode cX0_outcomeNow 28 = .ok (.iconst 0, 1) := by decide +kernel
theorem dX0_outcomeNow_29 : decode cX0_outcomeNow 29 = .ok (.goto 4, 3) := by decide +kernel
theorem dX0_outcomeNow_32 : decode cX0_outcomeNow 32 = .ok (.iconst 2, 1) := by decide +kernel
theorem dX0_outcomeNow_33 : decode cX0_outcomeNow 33 = .ok (.ireturn, 1) := by decide +kernel
set_option maxRecDepth 20000 in
theorem ggX0_use_X0_sameSet : GoodIn wsX0_use wsX0_sameSet := goodIn_r _ [10, 11, 12, 13, 14, 15, 16, 17, 18, 19, 20, 21, 22, 23, 24] (by decide +kernel) (by decide +kernel)
set_option maxRecDepth 20000 in
theorem gX0_use_X0_sameSet : GoodIn wsX0_use (wsV RX0 112 RX0 yX0_sameSet wsX0_sameSet) := goodIn_app (goodIn_of _ (by decide +kernel)) ggX0_use_X0_sameSet
theorem dX0_use_0 : decode cX0_use 0 = .ok (.aload_n 0, 1) := by decide +kernel
theorem dX0_use_1 : decode cX0_use 1 = .ok (.getfield 34, 3) := by decide +kernel
theorem dX0_use_4 : decode cX0_use 4 = .ok (.iload_n 2, 1) := by decide +kernel
theorem dX0_use_5 : decode cX0_use 5 = .ok (.iaload, 1) := by decide +kernel
theorem dX0_use_6 : decode cX0_use 6 = .ok (.istore_n 3, 1) := by decide +kernel
theorem dX0_use_7 : decode cX0_use 7 = .ok (.aload_n 0, 1) := by decide +kernel
theorem dX0_use_8 : decode cX0_use 8 = .ok (.getfield 37, 3) := by decide +kernel
theorem dX0_use_11 : decode cX0_use 11 = .ok (.iload_n 2, 1) := by decide +kernel
theorem dX0_use_12 : decode cX0_use 12 = .ok (.iaload, 1) := by decide +kernel
theorem dX0_use_13 : decode cX0_use 13 = .ok (.istore 4, 2) := by decide +kernel
theorem dX0_use_15 : decode cX0_use 15 = .ok (.iconst 0, 1) := by decide +kernel
theorem dX0_use_16 : decode cX0_use 16 = .ok (.istore 5, 2) := by decide +kernel
theorem dX0_use_18 : decode cX0_use 18 = .ok (.iload 5, 2) := by decide +kernel
theorem dX0_use_20 : decode cX0_use 20 = .ok (.aload_n 1, 1) := by decide +kernel
theorem dX0_use_21 : decode cX0_use 21 = .ok (.getfield 77, 3) := by decide +kernel
theorem dX0_use_24 : decode cX0_use 24 = .ok (.if_icmp .ge 94, 3) := by decide +kernel
theorem dX0_use_27 : decode cX0_use 27 = .ok (.iload 5, 2) := by decide +kernel
theorem dX0_use_29 : decode cX0_use 29 = .ok (.iload_n 2, 1) := by decide +kernel
theorem dX0_use_30 : decode cX0_use 30 = .ok (.if_icmp .eq 82, 3) := by decide +kernel
theorem dX0_use_33 : decode cX0_use 33 = .ok (.aload_n 0, 1) := by decide +kernel
theorem dX0_use_34 : decode cX0_use 34 = .ok (.aload_n 1, 1) := by decide +kernel
theorem dX0_use_35 : decode cX0_use 35 = .ok (.getfield 109, 3) := by decide +kernel
theorem dX0_use_38 : decode cX0_use 38 = .ok (.iload 5, 2) := by decide +kernel
theorem dX0_use_40 : decode cX0_use 40 = .ok (.iaload, 1) := by decide +kernel
theorem dX0_use_41 : decode cX0_use 41 = .ok (.aload_n 1, 1) := by decide +kernel
theorem dX0_use_42 : decode cX0_use 42 = .ok (.getfield 109, 3) := by decide +kernel
theorem dX0_use_45 : decode cX0_use 45 = .ok (.iload_n 2, 1) := by decide +kernel
theorem dX0_use_46 : decode cX0_use 46 = .ok (.iaload, 1) := by decide +kernel
theorem dX0_use_47 : decode cX0_use 47 = .ok (.invokevirtual 112, 3) := by decide +kernel
theorem dX0_use_50 : decode cX0_use 50 = .ok (.ifCond .eq 62, 3) := by decide +kernel
theorem dX0_use_53 : decode cX0_use 53 = .ok (.aload_n 0, 1) := by decide +kernel
theorem dX0_use_54 : decode cX0_use 54 = .ok (.getfield 34, 3) := by decide +kernel
theorem dX0_use_57 : decode cX0_use 57 = .ok (.iload 5, 2) := by decide +kernel
theorem dX0_use_59 : decode cX0_use 59 = .ok (.iaload, 1) := by decide +kernel
theorem dX0_use_60 : decode cX0_use 60 = .ok (.iload_n 3, 1) := by decide +kernel
theorem dX0_use_61 : decode cX0_use 61 = .ok (.if_icmp .ge 14, 3) := by decide +kernel
theorem dX0_use_64 : decode cX0_use 64 = .ok (.aload_n 0, 1) := by decide +kernel
theorem dX0_use_65 : decode cX0_use 65 = .ok (.getfield 34, 3) := by decide +kernel
theorem dX0_use_68 : decode cX0_use 68 = .ok (.iload 5, 2) := by decide +kernel
theorem dX0_use_70 : decode cX0_use 70 = .ok (.dup2, 1) := by decide +kernel
theorem dX0_use_71 : decode cX0_use 71 = .ok (.iaload, 1) := by decide +kernel
theorem dX0_use_72 : decode cX0_use 72 = .ok (.iconst 1, 1) := by decide +kernel
theorem dX0_use_73 : decode cX0_use 73 = .ok (.iadd, 1) := by decide +kernel
theorem dX0_use_74 : decode cX0_use 74 = .ok (.iastore, 1) := by decide +kernel
theorem dX0_use_75 : decode cX0_use 75 = .ok (.aload_n 0, 1) := by decide +kernel
theorem dX0_use_76 : decode cX0_use 76 = .ok (.getfield 37, 3) := by decide +kernel
theorem dX0_use_79 : decode cX0_use 79 = .ok (.iload 5, 2) := by decide +kernel
theorem dX0_use_81 : decode cX0_use 81 = .ok (.iaload, 1) := by decide +kernel
theorem dX0_use_82 : decode cX0_use 82 = .ok (.iload 4, 2) := by decide +kernel
theorem dX0_use_84 : decode cX0_use 84 = .ok (.if_icmp .gt 28, 3) := by decide +kernel
theorem dX0_use_87 : decode cX0_use 87 = .ok (.aload_n 0, 1) := by decide +kernel
theorem dX0_use_88 : decode cX0_use 88 = .ok (.getfield 37, 3) := by decide +kernel
theorem dX0_use_91 : decode cX0_use 91 = .ok (.iload 5, 2) := by decide +kernel
theorem dX0_use_93 : decode cX0_use 93 = .ok (.iaload, 1) := by decide +kernel
theorem dX0_use_94 : decode cX0_use 94 = .ok (.aload_n 0, 1) := by decide +kernel
theorem dX0_use_95 : decode cX0_use 95 = .ok (.getfield 44, 3) := by decide +kernel
theorem dX0_use_98 : decode cX0_use 98 = .ok (.if_icmp .ge 14, 3) := by decide +kernel
theorem dX0_use_101 : decode cX0_use 101 = .ok (.aload_n 0, 1) := by decide +kernel
theorem dX0_use_102 : decode cX0_use 102 = .ok (.getfield 37, 3) := by decide +kernel
theorem dX0_use_105 : decode cX0_use 105 = .ok (.iload 5, 2) := by decide +kernel
theorem dX0_use_107 : decode cX0_use 107 = .ok (.dup2, 1) := by decide +kernel
theorem dX0_use_108 : decode cX0_use 108 = .ok (.iaload, 1) := by decide +kernel
theorem dX0_use_109 : decode cX0_use 109 = .ok (.iconst 1, 1) := by decide +kernel
theorem dX0_use_110 : decode cX0_use 110 = .ok (.iadd, 1) := by decide +kernel
theorem dX0_use_111 : decode cX0_use 111 = .ok (.iastore, 1) := by decide +kernel
theorem dX0_use_112 : decode cX0_use 112 = .ok (.iinc 5 1, 3) := by decide +kernel
theorem dX0_use_115 : decode cX0_use 115 = .ok (.goto (-97), 3) := by decide +kernel
theorem dX0_use_118 : decode cX0_use 118 = .ok (.aload_n 0, 1) := by decide +kernel
theorem dX0_use_119 : decode cX0_use 119 = .ok (.getfield 34, 3) := by decide +kernel
theorem dX0_use_122 : decode cX0_use 122 = .ok (.iload_n 2, 1) := by decide +kernel
theorem dX0_use_123 : decode cX0_use 123 = .ok (.iconst 0, 1) := by decide +kernel
theorem dX0_use_124 : decode cX0_use 124 = .ok (.iastore, 1) := by decide +kernel
theorem dX0_use_125 : decode cX0_use 125 = .ok (.aload_n 0, 1) := by decide +kernel
theorem dX0_use_126 : decode cX0_use 126 = .ok (.getfield 37, 3) := by decide +kernel
theorem dX0_use_129 : decode cX0_use 129 = .ok (.iload_n 2, 1) := by decide +kernel
theorem dX0_use_130 : decode cX0_use 130 = .ok (.iconst 0, 1) := by decide +kernel
theorem dX0_use_131 : decode cX0_use 131 = .ok (.iastore, 1) := by decide +kernel
theorem dX0_use_132 : decode cX0_use 132 = .ok (.return_, 1) := by decide +kernel
theorem dX0_sameSet_0 : decode cX0_sameSet 0 = .ok (.iload_n 1, 1) := by decide +kernel
theorem dX0_sameSet_1 : decode cX0_sameSet 1 = .ok (.iload_n 2, 1) := by decide +kernel
theorem dX0_sameSet_2 : decode cX0_sameSet 2 = .ok (.ixor, 1) := by decide +kernel
theorem dX0_sameSet_3 : decode cX0_sameSet 3 = .ok (.aload_n 0, 1) := by decide +kernel
theorem dX0_sameSet_4 : decode cX0_sameSet 4 = .ok (.getfield 40, 3) := by decide +kernel
theorem dX0_sameSet_7 : decode cX0_sameSet 7 = .ok (.iconst 1, 1) := by decide +kernel
theorem dX0_sameSet_8 : decode cX0_sameSet 8 = .ok (.isub, 1) := by decide +kernel
theorem dX0_sameSet_9 : decode cX0_sameSet 9 = .ok (.iand, 1) := by decide +kernel
theorem dX0_sameSet_10 : decode cX0_sameSet 10 = .ok (.ifCond .ne 7, 3) := by decide +kernel
theorem dX0_sameSet_13 : decode cX0_sameSet 13 = .ok (.iconst 1, 1) := by decide +kernel
theorem dX0_sameSet_14 : decode cX0_sameSet 14 = .ok (.goto 4, 3) := by decide +kernel
theorem dX0_sameSet_17 : decode cX0_sameSet 17 = .ok (.iconst 0, 1) := by decide +kernel
theorem dX0_sameSet_18 : decode cX0_sameSet 18 = .ok (.ireturn, 1) := by decide +kernel
theorem dX0_judge_0 : decode cX0_judge 0 = .ok (.aload_n 1, 1) := by decide +kernel
theorem dX0_judge_1 : decode cX0_judge 1 = .ok (.getfield 115, 3) := by decide +kernel
theorem dX0_judge_4 : decode cX0_judge 4 = .ok (.iload_n 2, 1) := by decide +kernel
theorem dX0_judge_5 : decode cX0_judge 5 = .ok (.iaload, 1) := by decide +kernel
theorem dX0_judge_6 : decode cX0_judge 6 = .ok (.istore_n 3, 1) := by decide +kernel
theorem dX0_judge_7 : decode cX0_judge 7 = .ok (.aload_n 1, 1) := by decide +kernel
theorem dX0_judge_8 : decode cX0_judge 8 = .ok (.getfield 115, 3) := by decide +kernel
theorem dX0_judge_11 : decode cX0_judge 11 = .ok (.iload_n 2, 1) := by decide +kernel
theorem dX0_judge_12 : decode cX0_judge 12 = .ok (.iaload, 1) := by decide +kernel
theorem dX0_judge_13 : decode cX0_judge 13 = .ok (.istore 4, 2) := by decide +kernel
theorem dX0_judge_15 : decode cX0_judge 15 = .ok (.aload_n 0, 1) := by decide +kernel
theorem dX0_judge_16 : decode cX0_judge 16 = .ok (.getfield 9, 3) := by decide +kernel
theorem dX0_judge_19 : decode cX0_judge 19 = .ok (.iload_n 2, 1) := by decide +kernel
theorem dX0_judge_20 : decode cX0_judge 20 = .ok (.baload, 1) := by decide +kernel
theorem dX0_judge_21 : decode cX0_judge 21 = .ok (.ifCond .eq 65, 3) := by decide +kernel
theorem dX0_judge_24 : decode cX0_judge 24 = .ok (.iconst 0, 1) := by decide +kernel
theorem dX0_judge_25 : decode cX0_judge 25 = .ok (.istore 5, 2) := by decide +kernel
theorem dX0_judge_27 : decode cX0_judge 27 = .ok (.iload 5, 2) := by decide +kernel
theorem dX0_judge_29 : decode cX0_judge 29 = .ok (.aload_n 1, 1) := by decide +kernel
theorem dX0_judge_30 : decode cX0_judge 30 = .ok (.getfield 96, 3) := by decide +kernel
theorem dX0_judge_33 : decode cX0_judge 33 = .ok (.iload_n 2, 1) := by decide +kernel
theorem dX0_judge_34 : decode cX0_judge 34 = .ok (.iaload, 1) := by decide +kernel
theorem dX0_judge_35 : decode cX0_judge 35 = .ok (.if_icmp .ge 51, 3) := by decide +kernel
theorem dX0_judge_38 : decode cX0_judge 38 = .ok (.aload_n 0, 1) := by decide +kernel
theorem dX0_judge_39 : decode cX0_judge 39 = .ok (.getfield 15, 3) := by decide +kernel
theorem dX0_judge_42 : decode cX0_judge 42 = .ok (.iload_n 2, 1) := by decide +kernel
theorem dX0_judge_43 : decode cX0_judge 43 = .ok (.bipush 6, 2) := by decide +kernel
theorem dX0_judge_45 : decode cX0_judge 45 = .ok (.imul, 1) := by decide +kernel
theorem dX0_judge_46 : decode cX0_judge 46 = .ok (.iload 5, 2) := by decide +kernel
theorem dX0_judge_48 : decode cX0_judge 48 = .ok (.iadd, 1) := by decide +kernel
theorem dX0_judge_49 : decode cX0_judge 49 = .ok (.iaload, 1) := by decide +kernel
theorem dX0_judge_50 : decode cX0_judge 50 = .ok (.istore 6, 2) := by decide +kernel
theorem dX0_judge_52 : decode cX0_judge 52 = .ok (.iload 6, 2) := by decide +kernel
theorem dX0_judge_54 : decode cX0_judge 54 = .ok (.iconst 1, 1) := by decide +kernel
theorem dX0_judge_55 : decode cX0_judge 55 = .ok (.if_icmp .eq 10, 3) := by decide +kernel
theorem dX0_judge_58 : decode cX0_judge 58 = .ok (.iload_n 3, 1) := by decide +kernel
theorem dX0_judge_59 : decode cX0_judge 59 = .ok (.aload_n 0, 1) := by decide +kernel
theorem dX0_judge_60 : decode cX0_judge 60 = .ok (.getfield 47, 3) := by decide +kernel
theorem dX0_judge_63 : decode cX0_judge 63 = .ok (.iadd, 1) := by decide +kernel
theorem dX0_judge_64 : decode cX0_judge 64 = .ok (.istore_n 3, 1) := by decide +kernel
theorem dX0_judge_65 : decode cX0_judge 65 = .ok (.iload 6, 2) := by decide +kernel
theorem dX0_judge_67 : decode cX0_judge 67 = .ok (.iconst 2, 1) := by decide +kernel
theorem dX0_judge_68 : decode cX0_judge 68 = .ok (.if_icmp .ne 12, 3) := by decide +kernel
theorem dX0_judge_71 : decode cX0_judge 71 = .ok (.iload 4, 2) := by decide +kernel
theorem dX0_judge_73 : decode cX0_judge 73 = .ok (.aload_n 0, 1) := by decide +kernel
theorem dX0_judge_74 : decode cX0_judge 74 = .ok (.getfield 47, 3) := by decide +kernel
theorem dX0_judge_77 : decode cX0_judge 77 = .ok (.iadd, 1) := by decide +kernel
theorem dX0_judge_78 : decode cX0_judge 78 = .ok (.istore 4, 2) := by decide +kernel
theorem dX0_judge_80 : decode cX0_judge 80 = .ok (.iinc 5 1, 3) := by decide +kernel
theorem dX0_judge_83 : decode cX0_judge 83 = .ok (.goto (-56), 3) := by decide +kernel
theorem dX0_judge_86 : decode cX0_judge 86 = .ok (.aload_n 0, 1) := by decide +kernel
theorem dX0_judge_87 : decode cX0_judge 87 = .ok (.getfield 19, 3) := by decide +kernel
theorem dX0_judge_90 : decode cX0_judge 90 = .ok (.iload_n 2, 1) := by decide +kernel
theorem dX0_judge_91 : decode cX0_judge 91 = .ok (.iload_n 3, 1) := by decide +kernel
theorem dX0_judge_92 : decode cX0_judge 92 = .ok (.iastore, 1) := by decide +kernel
theorem dX0_judge_93 : decode cX0_judge 93 = .ok (.aload_n 0, 1) := by decide +kernel
theorem dX0_judge_94 : decode cX0_judge 94 = .ok (.getfield 22, 3) := by decide +kernel
theorem dX0_judge_97 : decode cX0_judge 97 = .ok (.iload_n 2, 1) := by decide +kernel
theorem dX0_judge_98 : decode cX0_judge 98 = .ok (.iload 4, 2) := by decide +kernel
theorem dX0_judge_100 : decode cX0_judge 100 = .ok (.iastore, 1) := by decide +kernel
theorem dX0_judge_101 : decode cX0_judge 101 = .ok (.return_, 1) := by decide +kernel
theorem dX1_init_0 : decode cX1_init 0 = .ok (.aload_n 0, 1) := by decide +kernel
theorem dX1_init_1 : decode cX1_init 1 = .ok (.invokespecial 3, 3) := by decide +kernel
theorem dX1_init_4 : decode cX1_init 4 = .ok (.aload_n 0, 1) := by decide +kernel
theorem dX1_init_5 : decode cX1_init 5 = .ok (.bipush 40, 2) := by decide +kernel
theorem dX1_init_7 : decode cX1_init 7 = .ok (.newarray .int, 2) := by decide +kernel
theorem dX1_init_9 : decode cX1_init 9 = .ok (.putfield 9, 3) := by decide +kernel
theorem dX1_init_12 : decode cX1_init 12 = .ok (.aload_n 0, 1) := by decide +kernel
theorem dX1_init_13 : decode cX1_init 13 = .ok (.bipush 40, 2) := by decide +kernel
theorem dX1_init_15 : decode cX1_init 15 = .ok (.newarray .int, 2) := by decide +kernel
theorem dX1_init_17 : decode cX1_init 17 = .ok (.putfield 15, 3) := by decide +kernel
theorem dX1_init_20 : decode cX1_init 20 = .ok (.aload_n 0, 1) := by decide +kernel
theorem dX1_init_21 : decode cX1_init 21 = .ok (.sipush 240, 3) := by decide +kernel
theorem dX1_init_24 : decode cX1_init 24 = .ok (.newarray .int, 2) := by decide +kernel
theorem dX1_init_26 : decode cX1_init 26 = .ok (.putfield 18, 3) := by decide +kernel
theorem dX1_init_29 : decode cX1_init 29 = .ok (.aload_n 0, 1) := by decide +kernel
theorem dX1_init_30 : decode cX1_init 30 = .ok (.bipush 40, 2) := by decide +kernel
theorem dX1_init_32 : decode cX1_init 32 = .ok (.newarray .int, 2) := by decide +kernel
theorem dX1_init_34 : decode cX1_init 34 = .ok (.putfield 21, 3) := by decide +kernel
theorem dX1_init_37 : decode cX1_init 37 = .ok (.aload_n 0, 1) := by decide +kernel
theorem dX1_init_38 : decode cX1_init 38 = .ok (.bipush 80, 2) := by decide +kernel
theorem dX1_init_40 : decode cX1_init 40 = .ok (.newarray .int, 2) := by decide +kernel
theorem dX1_init_42 : decode cX1_init 42 = .ok (.putfield 24, 3) := by decide +kernel
theorem dX1_init_45 : decode cX1_init 45 = .ok (.aload_n 0, 1) := by decide +kernel
theorem dX1_init_46 : decode cX1_init 46 = .ok (.bipush 80, 2) := by decide +kernel
theorem dX1_init_48 : decode cX1_init 48 = .ok (.newarray .int, 2) := by decide +kernel
theorem dX1_init_50 : decode cX1_init 50 = .ok (.putfield 27, 3) := by decide +kernel
theorem dX1_init_53 : decode cX1_init 53 = .ok (.aload_n 0, 1) := by decide +kernel
theorem dX1_init_54 : decode cX1_init 54 = .ok (.bipush 80, 2) := by decide +kernel
theorem dX1_init_56 : decode cX1_init 56 = .ok (.newarray .int, 2) := by decide +kernel
theorem dX1_init_58 : decode cX1_init 58 = .ok (.putfield 30, 3) := by decide +kernel
theorem dX1_init_61 : decode cX1_init 61 = .ok (.aload_n 0, 1) := by decide +kernel
theorem dX1_init_62 : decode cX1_init 62 = .ok (.iconst 3, 1) := by decide +kernel
theorem dX1_init_63 : decode cX1_init 63 = .ok (.newarray .int, 2) := by decide +kernel
theorem dX1_init_65 : decode cX1_init 65 = .ok (.putfield 33, 3) := by decide +kernel
theorem dX1_init_68 : decode cX1_init 68 = .ok (.aload_n 0, 1) := by decide +kernel
theorem dX1_init_69 : decode cX1_init 69 = .ok (.iconst 3, 1) := by decide +kernel
theorem dX1_init_70 : decode cX1_init 70 = .ok (.newarray .int, 2) := by decide +kernel
theorem dX1_init_72 : decode cX1_init 72 = .ok (.putfield 36, 3) := by decide +kernel
theorem dX1_init_75 : decode cX1_init 75 = .ok (.aload_n 0, 1) := by decide +kernel
theorem dX1_init_76 : decode cX1_init 76 = .ok (.bipush 80, 2) := by decide +kernel
theorem dX1_init_78 : decode cX1_init 78 = .ok (.newarray .int, 2) := by decide +kernel
theorem dX1_init_80 : decode cX1_init 80 = .ok (.putfield 39, 3) := by decide +kernel
theorem dX1_init_83 : decode cX1_init 83 = .ok (.aload_n 0, 1) := by decide +kernel
theorem dX1_init_84 : decode cX1_init 84 = .ok (.bipush 41, 2) := by decide +kernel
theorem dX1_init_86 : decode cX1_init 86 = .ok (.newarray .int, 2) := by decide +kernel
theorem dX1_init_88 : decode cX1_init 88 = .ok (.putfield 42, 3) := by decide +kernel
theorem dX1_init_91 : decode cX1_init 91 = .ok (.return_, 1) := by decide +kernel
theorem dX1_hasBlock_0 : decode cX1_hasBlock 0 = .ok (.iload_n 1, 1) := by decide +kernel
theorem dX1_hasBlock_1 : decode cX1_hasBlock 1 = .ok (.ifCond .lt 15, 3) := by decide +kernel
theorem dX1_hasBlock_4 : decode cX1_hasBlock 4 = .ok (.iload_n 1, 1) := by decide +kernel
theorem dX1_hasBlock_5 : decode cX1_hasBlock 5 = .ok (.aload_n 0, 1) := by decide +kernel
theorem dX1_hasBlock_6 : decode cX1_hasBlock 6 = .ok (.getfield 45, 3) := by decide +kernel
theorem dX1_hasBlock_9 : decode cX1_hasBlock 9 = .ok (.if_icmp .ge 7, 3) := by decide +kernel
theorem dX1_hasBlock_12 : decode cX1_hasBlock 12 = .ok (.iconst 1, 1) := by decide +kernel
theorem dX1_hasBlock_13 : decode cX1_hasBlock 13 = .ok (.goto 4, 3) := by decide +kernel
theorem dX1_hasBlock_16 : decode cX1_hasBlock 16 = .ok (.iconst 0, 1) := by decide +kernel
theorem dX1_hasBlock_17 : decode cX1_hasBlock 17 = .ok (.ireturn, 1) := by decide +kernel
theorem dX1_hasEdge_0 : decode cX1_hasEdge 0 = .ok (.iload_n 1, 1) := by decide +kernel
theorem dX1_hasEdge_1 : decode cX1_hasEdge 1 = .ok (.ifCond .lt 15, 3) := by decide +kernel
theorem dX1_hasEdge_4 : decode cX1_hasEdge 4 = .ok (.iload_n 1, 1) := by decide +kernel
theorem dX1_hasEdge_5 : decode cX1_hasEdge 5 = .ok (.aload_n 0, 1) := by decide +kernel
theorem dX1_hasEdge_6 : decode cX1_hasEdge 6 = .ok (.getfield 49, 3) := by decide +kernel
theorem dX1_hasEdge_9 : decode cX1_hasEdge 9 = .ok (.if_icmp .ge 7, 3) := by decide +kernel
theorem dX1_hasEdge_12 : decode cX1_hasEdge 12 = .ok (.iconst 1, 1) := by decide +kernel
theorem dX1_hasEdge_13 : decode cX1_hasEdge 13 = .ok (.goto 4, 3) := by decide +kernel
theorem dX1_hasEdge_16 : decode cX1_hasEdge 16 = .ok (.iconst 0, 1) := by decide +kernel
theorem dX1_hasEdge_17 : decode cX1_hasEdge 17 = .ok (.ireturn, 1) := by decide +kernel
