theorem dX3_edge_36 : decode cX3_edge 36 = .ok (.getfield 92, 3) := by decide +kernel
theorem dX3_edge_39 : decode cX3_edge 39 = .ok (.bipush 80, 2) := by decide +kernel
theorem dX3_edge_41 : decode cX3_edge 41 = .ok (.if_icmp .lt 13, 3) := by decide +kernel
theorem dX3_edge_44 : decode cX3_edge 44 = .ok (.new 57, 3) := by decide +kernel
theorem dX3_edge_47 : decode cX3_edge 47 = .ok (.dup, 1) := by decide +kernel
theorem dX3_edge_48 : decode cX3_edge 48 = .ok (.ldc 95, 2) := by decide +kernel
theorem dX3_edge_50 : decode cX3_edge 50 = .ok (.invokespecial 61, 3) := by decide +kernel
theorem dX3_edge_53 : decode cX3_edge 53 = .ok (.athrow, 1) := by decide +kernel
theorem dX3_edge_54 : decode cX3_edge 54 = .ok (.aload_n 0, 1) := by decide +kernel
theorem dX3_edge_55 : decode cX3_edge 55 = .ok (.invokevirtual 62, 3) := by decide +kernel
theorem dX3_edge_58 : decode cX3_edge 58 = .ok (.aload_n 0, 1) := by decide +kernel
theorem dX3_edge_59 : decode cX3_edge 59 = .ok (.getfield 10, 3) := by decide +kernel
theorem dX3_edge_62 : decode cX3_edge 62 = .ok (.iload_n 1, 1) := by decide +kernel
theorem dX3_edge_63 : decode cX3_edge 63 = .ok (.iload_n 2, 1) := by decide +kernel
theorem dX3_edge_64 : decode cX3_edge 64 = .ok (.invokevirtual 97, 3) := by decide +kernel
theorem dX3_edge_67 : decode cX3_edge 67 = .ok (.ireturn, 1) := by decide +kernel
set_option maxRecDepth 20000 in
theorem ggX3_bound_X1_hasEdge : GoodIn wsX3_bound wsX1_hasEdge := goodIn_r _ [12, 13, 19, 20, 21, 22, 23, 24, 25, 26, 27, 28, 29, 30, 31, 32, 33] (by decide +kernel) (by decide +kernel)
set_option maxRecDepth 20000 in
theorem gX3_bound_X1_hasEdge : GoodIn wsX3_bound (wsV RX3 100 RX1 yX1_hasEdge wsX1_hasEdge) := goodIn_app (goodIn_of _ (by decide +kernel)) ggX3_bound_X1_hasEdge
theorem dX3_bound_0 : decode cX3_bound 0 = .ok (.aload_n 0, 1) := by decide +kernel
theorem dX3_bound_1 : decode cX3_bound 1 = .ok (.getfield 10, 3) := by decide +kernel
theorem dX3_bound_4 : decode cX3_bound 4 = .ok (.iload_n 1, 1) := by decide +kernel
theorem dX3_bound_5 : decode cX3_bound 5 = .ok (.invokevirtual 100, 3) := by decide +kernel
theorem dX3_bound_8 : decode cX3_bound 8 = .ok (.ifCond .ne 13, 3) := by decide +kernel
theorem dX3_bound_11 : decode cX3_bound 11 = .ok (.new 73, 3) := by decide +kernel
theorem dX3_bound_14 : decode cX3_bound 14 = .ok (.dup, 1) := by decide +kernel
theorem dX3_bound_15 : decode cX3_bound 15 = .ok (.ldc 103, 2) := by decide +kernel
theorem dX3_bound_17 : decode cX3_bound 17 = .ok (.invokespecial 77, 3) := by decide +kernel
theorem dX3_bound_20 : decode cX3_bound 20 = .ok (.athrow, 1) := by decide +kernel
theorem dX3_bound_21 : decode cX3_bound 21 = .ok (.iload_n 2, 1) := by decide +kernel
theorem dX3_bound_22 : decode cX3_bound 22 = .ok (.iconst (-1), 1) := by decide +kernel
theorem dX3_bound_23 : decode cX3_bound 23 = .ok (.if_icmp .eq 23, 3) := by decide +kernel
theorem dX3_bound_26 : decode cX3_bound 26 = .ok (.iload_n 2, 1) := by decide +kernel
theorem dX3_bound_27 : decode cX3_bound 27 = .ok (.ifCond .lt 9, 3) := by decide +kernel
theorem dX3_bound_30 : decode cX3_bound 30 = .ok (.iload_n 2, 1) := by decide +kernel
theorem dX3_bound_31 : decode cX3_bound 31 = .ok (.bipush 15, 2) := by decide +kernel
theorem dX3_bound_33 : decode cX3_bound 33 = .ok (.if_icmp .le 13, 3) := by decide +kernel
theorem dX3_bound_36 : decode cX3_bound 36 = .ok (.new 46, 3) := by decide +kernel
theorem dX3_bound_39 : decode cX3_bound 39 = .ok (.dup, 1) := by decide +kernel
theorem dX3_bound_40 : decode cX3_bound 40 = .ok (.ldc 105, 2) := by decide +kernel
theorem dX3_bound_42 : decode cX3_bound 42 = .ok (.invokespecial 50, 3) := by decide +kernel
theorem dX3_bound_45 : decode cX3_bound 45 = .ok (.athrow, 1) := by decide +kernel
theorem dX3_bound_46 : decode cX3_bound 46 = .ok (.aload_n 0, 1) := by decide +kernel
theorem dX3_bound_47 : decode cX3_bound 47 = .ok (.getfield 10, 3) := by decide +kernel
theorem dX3_bound_50 : decode cX3_bound 50 = .ok (.getfield 107, 3) := by decide +kernel
theorem dX3_bound_53 : decode cX3_bound 53 = .ok (.iload_n 1, 1) := by decide +kernel
theorem dX3_bound_54 : decode cX3_bound 54 = .ok (.iaload, 1) := by decide +kernel
theorem dX3_bound_55 : decode cX3_bound 55 = .ok (.istore_n 3, 1) := by decide +kernel
theorem dX3_bound_56 : decode cX3_bound 56 = .ok (.aload_n 0, 1) := by decide +kernel
theorem dX3_bound_57 : decode cX3_bound 57 = .ok (.getfield 10, 3) := by decide +kernel
theorem dX3_bound_60 : decode cX3_bound 60 = .ok (.getfield 107, 3) := by decide +kernel
theorem dX3_bound_63 : decode cX3_bound 63 = .ok (.iload_n 1, 1) := by decide +kernel
theorem dX3_bound_64 : decode cX3_bound 64 = .ok (.iload_n 2, 1) := by decide +kernel
theorem dX3_bound_65 : decode cX3_bound 65 = .ok (.iastore, 1) := by decide +kernel
theorem dX3_bound_66 : decode cX3_bound 66 = .ok (.aload_n 0, 1) := by decide +kernel
theorem dX3_bound_67 : decode cX3_bound 67 = .ok (.iconst 0, 1) := by decide +kernel
theorem dX3_bound_68 : decode cX3_bound 68 = .ok (.putfield 42, 3) := by decide +kernel
theorem dX3_bound_71 : decode cX3_bound 71 = .ok (.iload_n 3, 1) := by decide +kernel
theorem dX3_bound_72 : decode cX3_bound 72 = .ok (.ireturn, 1) := by decide +kernel
set_option maxRecDepth 20000 in
theorem ggX3_pair_X1_hasEdge : GoodIn wsX3_pair wsX1_hasEdge := goodIn_r _ [14, 15, 28, 29, 30, 31, 32, 33, 34, 35, 36, 37, 38, 39, 40, 41, 42] (by decide +kernel) (by decide +kernel)
set_option maxRecDepth 20000 in
theorem gX3_pair_X1_hasEdge : GoodIn wsX3_pair (wsV RX3 100 RX1 yX1_hasEdge wsX1_hasEdge) := goodIn_app (goodIn_of _ (by decide +kernel)) ggX3_pair_X1_hasEdge
set_option maxRecDepth 20000 in
theorem ggX3_pair_X1_addPair : GoodIn wsX3_pair wsX1_addPair := goodIn_r _ [19, 20, 21, 22, 28, 29, 30, 31, 32, 33, 34, 35, 36, 37, 38, 39, 40, 41, 42] (by decide +kernel) (by decide +kernel)
set_option maxRecDepth 20000 in
theorem gX3_pair_X1_addPair : GoodIn wsX3_pair (wsV RX3 117 RX1 yX1_addPair wsX1_addPair) := goodIn_app (goodIn_of _ (by decide +kernel)) ggX3_pair_X1_addPair
theorem dX3_pair_0 : decode cX3_pair 0 = .ok (.aload_n 0, 1) := by decide +kernel
theorem dX3_pair_1 : decode cX3_pair 1 = .ok (.getfield 10, 3) := by decide +kernel
theorem dX3_pair_4 : decode cX3_pair 4 = .ok (.iload_n 1, 1) := by decide +kernel
theorem dX3_pair_5 : decode cX3_pair 5 = .ok (.invokevirtual 100, 3) := by decide +kernel
theorem dX3_pair_8 : decode cX3_pair 8 = .ok (.ifCond .eq 14, 3) := by decide +kernel
theorem dX3_pair_11 : decode cX3_pair 11 = .ok (.aload_n 0, 1) := by decide +kernel
theorem dX3_pair_12 : decode cX3_pair 12 = .ok (.getfield 10, 3) := by decide +kernel
theorem dX3_pair_15 : decode cX3_pair 15 = .ok (.iload_n 2, 1) := by decide +kernel
theorem dX3_pair_16 : decode cX3_pair 16 = .ok (.invokevirtual 100, 3) := by decide +kernel
theorem dX3_pair_19 : decode cX3_pair 19 = .ok (.ifCond .ne 13, 3) := by decide +kernel
theorem dX3_pair_22 : decode cX3_pair 22 = .ok (.new 73, 3) := by decide +kernel
theorem dX3_pair_25 : decode cX3_pair 25 = .ok (.dup, 1) := by decide +kernel
theorem dX3_pair_26 : decode cX3_pair 26 = .ok (.ldc 103, 2) := by decide +kernel
theorem dX3_pair_28 : decode cX3_pair 28 = .ok (.invokespecial 77, 3) := by decide +kernel
theorem dX3_pair_31 : decode cX3_pair 31 = .ok (.athrow, 1) := by decide +kernel
theorem dX3_pair_32 : decode cX3_pair 32 = .ok (.iload_n 1, 1) := by decide +kernel
theorem dX3_pair_33 : decode cX3_pair 33 = .ok (.iload_n 2, 1) := by decide +kernel
theorem dX3_pair_34 : decode cX3_pair 34 = .ok (.if_icmp .ne 13, 3) := by decide +kernel
theorem dX3_pair_37 : decode cX3_pair 37 = .ok (.new 46, 3) := by decide +kernel
theorem dX3_pair_40 : decode cX3_pair 40 = .ok (.dup, 1) := by decide +kernel
theorem dX3_pair_41 : decode cX3_pair 41 = .ok (.ldc 110, 2) := by decide +kernel
theorem dX3_pair_43 : decode cX3_pair 43 = .ok (.invokespecial 50, 3) := by decide +kernel
theorem dX3_pair_46 : decode cX3_pair 46 = .ok (.athrow, 1) := by decide +kernel
theorem dX3_pair_47 : decode cX3_pair 47 = .ok (.aload_n 0, 1) := by decide +kernel
theorem dX3_pair_48 : decode cX3_pair 48 = .ok (.getfield 10, 3) := by decide +kernel
theorem dX3_pair_51 : decode cX3_pair 51 = .ok (.getfield 112, 3) := by decide +kernel
theorem dX3_pair_54 : decode cX3_pair 54 = .ok (.iconst 3, 1) := by decide +kernel
theorem dX3_pair_55 : decode cX3_pair 55 = .ok (.if_icmp .lt 13, 3) := by decide +kernel
theorem dX3_pair_58 : decode cX3_pair 58 = .ok (.new 57, 3) := by decide +kernel
theorem dX3_pair_61 : decode cX3_pair 61 = .ok (.dup, 1) := by decide +kernel
theorem dX3_pair_62 : decode cX3_pair 62 = .ok (.ldc 115, 2) := by decide +kernel
theorem dX3_pair_64 : decode cX3_pair 64 = .ok (.invokespecial 61, 3) := by decide +kernel
theorem dX3_pair_67 : decode cX3_pair 67 = .ok (.athrow, 1) := by decide +kernel
theorem dX3_pair_68 : decode cX3_pair 68 = .ok (.aload_n 0, 1) := by decide +kernel
theorem dX3_pair_69 : decode cX3_pair 69 = .ok (.iconst 0, 1) := by decide +kernel
theorem dX3_pair_70 : decode cX3_pair 70 = .ok (.putfield 42, 3) := by decide +kernel
theorem dX3_pair_73 : decode cX3_pair 73 = .ok (.aload_n 0, 1) := by decide +kernel
theorem dX3_pair_74 : decode cX3_pair 74 = .ok (.getfield 10, 3) := by decide +kernel
theorem dX3_pair_77 : decode cX3_pair 77 = .ok (.iload_n 1, 1) := by decide +kernel
theorem dX3_pair_78 : decode cX3_pair 78 = .ok (.iload_n 2, 1) := by decide +kernel
theorem dX3_pair_79 : decode cX3_pair 79 = .ok (.invokevirtual 117, 3) := by decide +kernel
theorem dX3_pair_82 : decode cX3_pair 82 = .ok (.ireturn, 1) := by decide +kernel
set_option maxRecDepth 20000 in
theorem ggX3_worst_X3_hasAnswer : GoodIn wsX3_worst wsX3_hasAnswer := goodIn_r _ [8, 9, 3, 10, 11, 12, 13, 14, 15, 7, 16, 17, 18, 19, 20, 21, 22, 23, 24, 25, 26, 27, 28, 29, 30, 31, 32, 33, 34, 35, 36, 37, 38, 39, 40, 41, 42, 43, 44, 45, 46, 47, 48, 49, 50, 51, 52, 53, 54, 55, 56, 57, 58, 59, 60, 61, 62, 63, 64, 65, 66, 67, 68, 69, 70, 71, 72, 73, 74, 75, 76, 77, 78, 79, 80, 81, 82, 83, 84, 85, 86, 87, 88, 89, 90, 91, 92, 93, 94, 95, 96, 97, 98, 99, 100, 101, 102, 103, 104, 105, 106, 107, 108, 109, 110, 111, 112, 113, 114, 115, 116, 117, 118, 119, 120, 121, 122, 123, 124, 125, 126, 127, 128, 129, 130, 131, 132, 133, 134, 135, 136, 137, 138, 139, 140, 141, 142, 143, 144, 145, 146, 147, 148, 149, 150, 151, 152, 153, 154, 155, 156, 157, 158, 159, 160, 161, 166, 167, 168, 169, 170, 171, 172, 173, 174, 175, 176, 177, 178, 179, 180, 181, 182, 183, 184, 185, 186, 187, 188, 189, 190, 191, 192, 193, 194, 195, 196, 197, 198, 199, 200, 201, 202, 203, 204, 205, 206, 207, 208] (by decide +kernel) (by decide +kernel)
set_option maxRecDepth 20000 in
theorem gX3_worst_X3_hasAnswer : GoodIn wsX3_worst (wsV RX3 120 RX3 yX3_hasAnswer wsX3_hasAnswer) := goodIn_app (goodIn_of _ (by decide +kernel)) ggX3_worst_X3_hasAnswer
set_option maxRecDepth 20000 in
theorem ggX3_worst_X2_mostOfAll : GoodIn wsX3_worst wsX2_mostOfAll := goodIn_r _ [165, 89, 171, 172, 173, 174, 175, 176, 177, 178, 179, 180] (by decide +kernel) (by decide +kernel)
set_option maxRecDepth 20000 in
theorem gX3_worst_X2_mostOfAll : GoodIn wsX3_worst (wsV RX3 126 RX2 yX2_mostOfAll wsX2_mostOfAll) := goodIn_app (goodIn_of _ (by decide +kernel)) ggX3_worst_X2_mostOfAll
theorem dX3_worst_0 : decode cX3_worst 0 = .ok (.aload_n 0, 1) := by decide +kernel
theorem dX3_worst_1 : decode cX3_worst 1 = .ok (.invokevirtual 120, 3) := by decide +kernel
theorem dX3_worst_4 : decode cX3_worst 4 = .ok (.ifCond .ne 13, 3) := by decide +kernel
theorem dX3_worst_7 : decode cX3_worst 7 = .ok (.new 57, 3) := by decide +kernel
theorem dX3_worst_10 : decode cX3_worst 10 = .ok (.dup, 1) := by decide +kernel
theorem dX3_worst_11 : decode cX3_worst 11 = .ok (.ldc 124, 2) := by decide +kernel
theorem dX3_worst_13 : decode cX3_worst 13 = .ok (.invokespecial 61, 3) := by decide +kernel
theorem dX3_worst_16 : decode cX3_worst 16 = .ok (.athrow, 1) := by decide +kernel
theorem dX3_worst_17 : decode cX3_worst 17 = .ok (.aload_n 0, 1) := by decide +kernel
theorem dX3_worst_18 : decode cX3_worst 18 = .ok (.getfield 34, 3) := by decide +kernel
theorem dX3_worst_21 : decode cX3_worst 21 = .ok (.invokevirtual 126, 3) := by decide +kernel
theorem dX3_worst_24 : decode cX3_worst 24 = .ok (.lreturn, 1) := by decide +kernel
set_option maxRecDepth 20000 in
theorem ggX3_best_X3_hasAnswer : GoodIn wsX3_best wsX3_hasAnswer := goodIn_r _ [8, 9, 3, 10, 11, 12, 13, 14, 15, 7, 16, 17, 18, 19, 20, 21, 22, 23, 24, 25, 26, 27, 28, 29, 30, 31, 32, 33, 34, 35, 36, 37, 38, 39, 40, 41, 42, 43, 44, 45, 46, 47, 48, 49, 50, 51, 52, 53, 54, 55, 56, 57, 58, 59, 60, 61, 62, 63, 64, 65, 66, 67, 68, 69, 70, 71, 72, 73, 74, 75, 76, 77, 78, 79, 80, 81, 82, 83, 84, 85, 86, 87, 88, 89, 90, 91, 92, 93, 94, 95, 96, 97, 98, 99, 100, 101, 102, 103, 104, 105, 106, 107, 108, 109, 110, 111, 112, 113, 114, 115, 116, 117, 118, 119, 120, 121, 122, 123, 124, 125, 126, 127, 128, 129, 130, 131, 132, 133, 134, 135, 136, 137, 138, 139, 140, 141, 142, 143, 144, 145, 146, 147, 148, 149, 150, 151, 152, 153, 154, 155, 156, 157, 158, 159, 160, 161, 166, 167, 168, 169, 170, 171, 172, 173, 174, 175, 176, 177, 178, 179, 180, 181, 182, 183, 184, 185, 186, 187, 188, 189, 190, 191, 192, 193, 194, 195, 196, 197, 198, 199, 200, 201, 202, 203, 204, 205, 206, 207, 208] (by decide +kernel) (by decide +kernel)
set_option maxRecDepth 20000 in
theorem gX3_best_X3_hasAnswer : GoodIn wsX3_best (wsV RX3 120 RX3 yX3_hasAnswer wsX3_hasAnswer) := goodIn_app (goodIn_of _ (by decide +kernel)) ggX3_best_X3_hasAnswer
set_option maxRecDepth 20000 in
theorem ggX3_best_X2_fewestOfAll : GoodIn wsX3_best wsX2_fewestOfAll := goodIn_r _ [165, 146, 171, 172, 173, 174, 175, 176, 177, 178, 179, 180] (by decide +kernel) (by decide +kernel)
set_option maxRecDepth 20000 in
theorem gX3_best_X2_fewestOfAll : GoodIn wsX3_best (wsV RX3 130 RX2 yX2_fewestOfAll wsX2_fewestOfAll) := goodIn_app (goodIn_of _ (by decide +kernel)) ggX3_best_X2_fewestOfAll
theorem dX3_best_0 : decode cX3_best 0 = .ok (.aload_n 0, 1) := by decide +kernel
theorem dX3_best_1 : decode cX3_best 1 = .ok (.invokevirtual 120, 3) := by decide +kernel
theorem dX3_best_4 : decode cX3_best 4 = .ok (.ifCond .ne 13, 3) := by decide +kernel
theorem dX3_best_7 : decode cX3_best 7 = .ok (.new 57, 3) := by decide +kernel
theorem dX3_best_10 : decode cX3_best 10 = .ok (.dup, 1) := by decide +kernel
theorem dX3_best_11 : decode cX3_best 11 = .ok (.ldc 124, 2) := by decide +kernel
theorem dX3_best_13 : decode cX3_best 13 = .ok (.invokespecial 61, 3) := by decide +kernel
theorem dX3_best_16 : decode cX3_best 16 = .ok (.athrow, 1) := by decide +kernel
theorem dX3_best_17 : decode cX3_best 17 = .ok (.aload_n 0, 1) := by decide +kernel
theorem dX3_best_18 : decode cX3_best 18 = .ok (.getfield 34, 3) := by decide +kernel
theorem dX3_best_21 : decode cX3_best 21 = .ok (.invokevirtual 130, 3) := by decide +kernel
theorem dX3_best_24 : decode cX3_best 24 = .ok (.lreturn, 1) := by decide +kernel
set_option maxRecDepth 20000 in
theorem ggX3_way_X3_hasAnswer : GoodIn wsX3_way wsX3_hasAnswer := goodIn_r _ [12, 13, 5, 6, 7, 14, 15, 16, 17, 11, 18, 19, 20, 21, 22, 23, 24, 25, 26, 27, 28, 29, 30, 31, 32, 33, 34, 35, 36, 37, 38, 39, 40, 41, 42, 43, 44, 45, 46, 47, 48, 49, 50, 51, 52, 53, 54, 55, 56, 57, 58, 59, 60, 61, 62, 63, 64, 65, 66, 67, 68, 69, 70, 71, 72, 73, 74, 75, 76, 77, 78, 79, 80, 81, 82, 83, 84, 85, 86, 87, 88, 89, 90, 91, 92, 93, 94, 95, 96, 97, 98, 99, 100, 101, 102, 103, 104, 105, 106, 107, 108, 109, 110, 111, 112, 113, 114, 115, 116, 117, 118, 119, 120, 121, 122, 123, 124, 125, 126, 127, 128, 129, 130, 131, 132, 133, 134, 135, 136, 137, 138, 139, 140, 141, 142, 143, 144, 145, 146, 147, 148, 149, 150, 151, 152, 153, 154, 155, 156, 157, 158, 159, 160, 161, 162, 163, 175, 176, 177, 178, 179, 180, 181, 182, 183, 184, 185, 186, 187, 188, 189, 190, 191, 192, 193, 194, 195, 196, 197, 198, 199, 200, 201, 202, 203, 204, 205, 206, 207, 208, 209, 210, 211, 212, 213, 214, 215, 216, 217] (by decide +kernel) (by decide +kernel)
set_option maxRecDepth 20000 in
theorem gX3_way_X3_hasAnswer : GoodIn wsX3_way (wsV RX3 120 RX3 yX3_hasAnswer wsX3_hasAnswer) := goodIn_app (goodIn_of _ (by decide +kernel)) ggX3_way_X3_hasAnswer
set_option maxRecDepth 20000 in
theorem ggX3_way_X3_isGreatestOrLeast : GoodIn wsX3_way wsX3_isGreatestOrLeast := goodIn_r _ [166] (by decide +kernel) (by decide +kernel)
set_option maxRecDepth 20000 in
theorem gX3_way_X3_isGreatestOrLeast : GoodIn wsX3_way (va_wsS RX3 133 yX3_isGreatestOrLeast wsX3_isGreatestOrLeast) := goodIn_app (goodIn_of _ (by decide +kernel)) ggX3_way_X3_isGreatestOrLeast
set_option maxRecDepth 20000 in
theorem ggX3_way_X2_edgeOnWay : GoodIn wsX3_way wsX2_edgeOnWay := goodIn_r _ [170, 135, 90, 116, 171, 172, 173, 87, 174, 91, 148, 114, 115, 160, 161, 162, 23, 163, 82, 83, 152, 153, 154, 155, 156, 157, 158, 159, 99, 134, 132, 133, 180, 181, 182, 183, 184, 185, 186, 187, 188, 189, 203, 204, 205, 206, 207, 208, 209, 210, 211, 212, 213, 214, 215, 216, 217, 190, 191, 192, 193, 194, 195, 196, 197, 198, 199, 200, 201, 202] (by decide +kernel) (by decide +kernel)
set_option maxRecDepth 20000 in
theorem gX3_way_X2_edgeOnWay : GoodIn wsX3_way (wsV RX3 138 RX2 yX2_edgeOnWay wsX2_edgeOnWay) := goodIn_app (goodIn_of _ (by decide +kernel)) ggX3_way_X2_edgeOnWay
theorem dX3_way_0 : decode cX3_way 0 = .ok (.aload_n 0, 1) := by decide +kernel
theorem dX3_way_1 : decode cX3_way 1 = .ok (.invokevirtual 120, 3) := by decide +kernel
theorem dX3_way_4 : decode cX3_way 4 = .ok (.ifCond .ne 13, 3) := by decide +kernel
theorem dX3_way_7 : decode cX3_way 7 = .ok (.new 57, 3) := by decide +kernel
theorem dX3_way_10 : decode cX3_way 10 = .ok (.dup, 1) := by decide +kernel
theorem dX3_way_11 : decode cX3_way 11 = .ok (.ldc 124, 2) := by decide +kernel
theorem dX3_way_13 : decode cX3_way 13 = .ok (.invokespecial 61, 3) := by decide +kernel
theorem dX3_way_16 : decode cX3_way 16 = .ok (.athrow, 1) := by decide +kernel
theorem dX3_way_17 : decode cX3_way 17 = .ok (.iload_n 2, 1) := by decide +kernel
theorem dX3_way_18 : decode cX3_way 18 = .ok (.ifCond .lt 10, 3) := by decide +kernel
theorem dX3_way_21 : decode cX3_way 21 = .ok (.iload_n 1, 1) := by decide +kernel
theorem dX3_way_22 : decode cX3_way 22 = .ok (.invokestatic 133, 3) := by decide +kernel
theorem dX3_way_25 : decode cX3_way 25 = .ok (.ifCond .ne 13, 3) := by decide +kernel
theorem dX3_way_28 : decode cX3_way 28 = .ok (.new 73, 3) := by decide +kernel
theorem dX3_way_31 : decode cX3_way 31 = .ok (.dup, 1) := by decide +kernel
theorem dX3_way_32 : decode cX3_way 32 = .ok (.ldc 136, 2) := by decide +kernel
theorem dX3_way_34 : decode cX3_way 34 = .ok (.invokespecial 77, 3) := by decide +kernel
theorem dX3_way_37 : decode cX3_way 37 = .ok (.athrow, 1) := by decide +kernel
theorem dX3_way_38 : decode cX3_way 38 = .ok (.aload_n 0, 1) := by decide +kernel
theorem dX3_way_39 : decode cX3_way 39 = .ok (.getfield 34, 3) := by decide +kernel
theorem dX3_way_42 : decode cX3_way 42 = .ok (.aload_n 0, 1) := by decide +kernel
theorem dX3_way_43 : decode cX3_way 43 = .ok (.getfield 10, 3) := by decide +kernel
theorem dX3_way_46 : decode cX3_way 46 = .ok (.aload_n 0, 1) := by decide +kernel
theorem dX3_way_47 : decode cX3_way 47 = .ok (.getfield 27, 3) := by decide +kernel
theorem dX3_way_50 : decode cX3_way 50 = .ok (.iload_n 1, 1) := by decide +kernel
theorem dX3_way_51 : decode cX3_way 51 = .ok (.iload_n 2, 1) := by decide +kernel
theorem dX3_way_52 : decode cX3_way 52 = .ok (.invokevirtual 138, 3) := by decide +kernel
theorem dX3_way_55 : decode cX3_way 55 = .ok (.ireturn, 1) := by decide +kernel
set_option maxRecDepth 20000 in
theorem ggX3_touches_X1_hasBlock : GoodIn wsX3_touches wsX1_hasBlock := goodIn_r _ [12, 13, 89, 90, 91, 92, 93, 94, 95, 96, 97, 98, 99, 100, 101, 102, 103] (by decide +kernel) (by decide +kernel)
set_option maxRecDepth 20000 in
theorem gX3_touches_X1_hasBlock : GoodIn wsX3_touches (wsV RX3 69 RX1 yX1_hasBlock wsX1_hasBlock) := goodIn_app (goodIn_of _ (by decide +kernel)) ggX3_touches_X1_hasBlock
set_option maxRecDepth 20000 in
theorem ggX3_touches_X3_settleAges : GoodIn wsX3_touches wsX3_settleAges := goodIn_r _ [18, 19, 5, 3, 20, 21, 22, 23, 24, 25, 26, 27, 28, 29, 30, 31, 32, 33, 34, 35, 36, 37, 38, 39, 40, 41, 42, 43, 44, 45, 46, 47, 48, 49, 50, 51, 52, 53, 54, 55, 56, 57, 58, 59, 60, 61, 62, 63, 64, 65, 66, 67, 68, 69, 70, 71, 72, 73, 74, 75, 76, 77, 78, 79, 80, 81, 82, 83, 84, 85, 86, 87, 88, 104, 105, 106, 107, 108, 109, 110, 111, 112, 113, 114, 115, 116, 89, 90, 91, 92, 93, 94, 95, 96, 97, 98, 99, 100, 101, 102, 103] (by decide +kernel) (by decide +kernel)
set_option maxRecDepth 20000 in
theorem gX3_touches_X3_settleAges : GoodIn wsX3_touches (wsV RX3 144 RX3 yX3_settleAges wsX3_settleAges) := goodIn_app (goodIn_of _ (by decide +kernel)) ggX3_touches_X3_settleAges
theorem dX3_touches_0 : decode cX3_touches 0 = .ok (.aload_n 0, 1) := by decide +kernel
theorem dX3_touches_1 : decode cX3_touches 1 = .ok (.getfield 10, 3) := by decide +kernel
theorem dX3_touches_4 : decode cX3_touches 4 = .ok (.iload_n 1, 1) := by decide +kernel
theorem dX3_touches_5 : decode cX3_touches 5 = .ok (.invokevirtual 69, 3) := by decide +kernel
theorem dX3_touches_8 : decode cX3_touches 8 = .ok (.ifCond .eq 20, 3) := by decide +kernel
theorem dX3_touches_11 : decode cX3_touches 11 = .ok (.iload_n 2, 1) := by decide +kernel
theorem dX3_touches_12 : decode cX3_touches 12 = .ok (.ifCond .lt 16, 3) := by decide +kernel
theorem dX3_touches_15 : decode cX3_touches 15 = .ok (.iload_n 2, 1) := by decide +kernel
theorem dX3_touches_16 : decode cX3_touches 16 = .ok (.aload_n 0, 1) := by decide +kernel
theorem dX3_touches_17 : decode cX3_touches 17 = .ok (.getfield 10, 3) := by decide +kernel
theorem dX3_touches_20 : decode cX3_touches 20 = .ok (.getfield 78, 3) := by decide +kernel
theorem dX3_touches_23 : decode cX3_touches 23 = .ok (.iload_n 1, 1) := by decide +kernel
theorem dX3_touches_24 : decode cX3_touches 24 = .ok (.iaload, 1) := by decide +kernel
theorem dX3_touches_25 : decode cX3_touches 25 = .ok (.if_icmp .lt 13, 3) := by decide +kernel
theorem dX3_touches_28 : decode cX3_touches 28 = .ok (.new 73, 3) := by decide +kernel
theorem dX3_touches_31 : decode cX3_touches 31 = .ok (.dup, 1) := by decide +kernel
theorem dX3_touches_32 : decode cX3_touches 32 = .ok (.ldc 142, 2) := by decide +kernel
theorem dX3_touches_34 : decode cX3_touches 34 = .ok (.invokespecial 77, 3) := by decide +kernel
theorem dX3_touches_37 : decode cX3_touches 37 = .ok (.athrow, 1) := by decide +kernel
theorem dX3_touches_38 : decode cX3_touches 38 = .ok (.aload_n 0, 1) := by decide +kernel
theorem dX3_touches_39 : decode cX3_touches 39 = .ok (.invokevirtual 144, 3) := by decide +kernel
theorem dX3_touches_42 : decode cX3_touches 42 = .ok (.aload_n 0, 1) := by decide +kernel
theorem dX3_touches_43 : decode cX3_touches 43 = .ok (.getfield 27, 3) := by decide +kernel
theorem dX3_touches_46 : decode cX3_touches 46 = .ok (.getfield 147, 3) := by decide +kernel
theorem dX3_touches_49 : decode cX3_touches 49 = .ok (.iload_n 1, 1) := by decide +kernel
theorem dX3_touches_50 : decode cX3_touches 50 = .ok (.baload, 1) := by decide +kernel
theorem dX3_touches_51 : decode cX3_touches 51 = .ok (.ifCond .eq 20, 3) := by decide +kernel
theorem dX3_touches_54 : decode cX3_touches 54 = .ok (.aload_n 0, 1) := by decide +kernel
theorem dX3_touches_55 : decode cX3_touches 55 = .ok (.getfield 27, 3) := by decide +kernel
theorem dX3_touches_58 : decode cX3_touches 58 = .ok (.getfield 151, 3) := by decide +kernel
theorem dX3_touches_61 : decode cX3_touches 61 = .ok (.iload_n 1, 1) := by decide +kernel
theorem dX3_touches_62 : decode cX3_touches 62 = .ok (.bipush 6, 2) := by decide +kernel
theorem dX3_touches_64 : decode cX3_touches 64 = .ok (.imul, 1) := by decide +kernel
theorem dX3_touches_65 : decode cX3_touches 65 = .ok (.iload_n 2, 1) := by decide +kernel
theorem dX3_touches_66 : decode cX3_touches 66 = .ok (.iadd, 1) := by decide +kernel
theorem dX3_touches_67 : decode cX3_touches 67 = .ok (.iaload, 1) := by decide +kernel
theorem dX3_touches_68 : decode cX3_touches 68 = .ok (.goto 4, 3) := by decide +kernel
theorem dX3_touches_71 : decode cX3_touches 71 = .ok (.iconst (-1), 1) := by decide +kernel
theorem dX3_touches_72 : decode cX3_touches 72 = .ok (.ireturn, 1) := by decide +kernel
set_option maxRecDepth 20000 in
theorem ggX3_age_X1_hasBlock : GoodIn wsX3_age wsX1_hasBlock := goodIn_r _ [9, 10, 99, 100, 101, 102, 103, 104, 105, 106, 107, 108, 109, 110, 111, 112, 113] (by decide +kernel) (by decide +kernel)
set_option maxRecDepth 20000 in
theorem gX3_age_X1_hasBlock : GoodIn wsX3_age (wsV RX3 69 RX1 yX1_hasBlock wsX1_hasBlock) := goodIn_app (goodIn_of _ (by decide +kernel)) ggX3_age_X1_hasBlock
set_option maxRecDepth 20000 in
theorem ggX3_age_X3_isGreatestOrLeast : GoodIn wsX3_age wsX3_isGreatestOrLeast := goodIn_r _ [14] (by decide +kernel) (by decide +kernel)
set_option maxRecDepth 20000 in
theorem gX3_age_X3_isGreatestOrLeast : GoodIn wsX3_age (va_wsS RX3 133 yX3_isGreatestOrLeast wsX3_isGreatestOrLeast) := goodIn_app (goodIn_of _ (by decide +kernel)) ggX3_age_X3_isGreatestOrLeast
