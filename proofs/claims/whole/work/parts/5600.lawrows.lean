theorem dL_cell_0 : decode cL_cell 0 = .ok (.iload_n 1, 1) := by decide +kernel
theorem dL_cell_1 : decode cL_cell 1 = .ok (.aload_n 0, 1) := by decide +kernel
theorem dL_cell_2 : decode cL_cell 2 = .ok (.arraylength, 1) := by decide +kernel
theorem dL_cell_3 : decode cL_cell 3 = .ok (.if_icmp .ge 9, 3) := by decide +kernel
theorem dL_cell_6 : decode cL_cell 6 = .ok (.aload_n 0, 1) := by decide +kernel
theorem dL_cell_7 : decode cL_cell 7 = .ok (.iload_n 1, 1) := by decide +kernel
theorem dL_cell_8 : decode cL_cell 8 = .ok (.iaload, 1) := by decide +kernel
theorem dL_cell_9 : decode cL_cell 9 = .ok (.goto 4, 3) := by decide +kernel
theorem dL_cell_12 : decode cL_cell 12 = .ok (.iconst 0, 1) := by decide +kernel
theorem dL_cell_13 : decode cL_cell 13 = .ok (.ireturn, 1) := by decide +kernel
set_option maxRecDepth 20000 in
theorem ggL_block_X3_block : GoodIn wsL_block wsX3_block := goodIn_ca (goodIn_ca (goodIn_r _ [7, 8, 9, 10, 11, 12, 13, 14, 15, 16, 17, 6, 18, 19, 20, 21, 22, 23, 24, 25, 26, 27, 28, 29, 30, 31, 32, 33, 34, 35, 36, 37, 38, 39, 40, 41, 42, 43, 44, 45, 46, 47] (by decide +kernel) (by decide +kernel)) (goodIn_sub (fun _ h => List.mem_cons_of_mem _ (List.mem_append_left _ (List.mem_append_right _ h))) (by decide +kernel))) (goodIn_sub (fun _ h => List.mem_cons_of_mem _ (List.mem_append_right _ h)) (by decide +kernel))
set_option maxRecDepth 20000 in
theorem gL_block_X3_block : GoodIn wsL_block (wsV RL 7 RX3 yX3_block wsX3_block) := goodIn_app (goodIn_of _ (by decide +kernel)) ggL_block_X3_block
theorem dL_block_0 : decode cL_block 0 = .ok (.aload_n 2, 1) := by decide +kernel
theorem dL_block_1 : decode cL_block 1 = .ok (.iconst 0, 1) := by decide +kernel
theorem dL_block_2 : decode cL_block 2 = .ok (.aload_n 0, 1) := by decide +kernel
theorem dL_block_3 : decode cL_block 3 = .ok (.iload_n 1, 1) := by decide +kernel
theorem dL_block_4 : decode cL_block 4 = .ok (.invokevirtual 7, 3) := by decide +kernel
theorem dL_block_7 : decode cL_block 7 = .ok (.i2l, 1) := by decide +kernel
theorem dL_block_8 : decode cL_block 8 = .ok (.lastore, 1) := by decide +kernel
theorem dL_block_9 : decode cL_block 9 = .ok (.goto 9, 3) := by decide +kernel
theorem dL_block_12 : decode cL_block 12 = .ok (.astore_n 3, 1) := by decide +kernel
theorem dL_block_13 : decode cL_block 13 = .ok (.iconst 1, 1) := by decide +kernel
theorem dL_block_14 : decode cL_block 14 = .ok (.ireturn, 1) := by decide +kernel
theorem dL_block_15 : decode cL_block 15 = .ok (.astore_n 3, 1) := by decide +kernel
theorem dL_block_16 : decode cL_block 16 = .ok (.iconst 2, 1) := by decide +kernel
theorem dL_block_17 : decode cL_block 17 = .ok (.ireturn, 1) := by decide +kernel
theorem dL_block_18 : decode cL_block 18 = .ok (.iconst 0, 1) := by decide +kernel
theorem dL_block_19 : decode cL_block 19 = .ok (.ireturn, 1) := by decide +kernel
set_option maxRecDepth 20000 in
theorem ggL_touch_X3_touch : GoodIn wsL_touch wsX3_touch := goodIn_ca (goodIn_ca (goodIn_r _ [7, 8, 9, 10, 11, 12, 13, 14, 15, 16, 17, 18, 19, 20, 21, 22, 23, 24, 25, 26, 27, 28, 29, 30, 31, 32, 6, 33, 34, 35, 36, 37, 38, 39, 40, 41, 42, 43, 44, 45, 46, 47, 48, 49, 50, 51, 52, 53, 54, 55, 56, 57, 58, 59, 60, 61] (by decide +kernel) (by decide +kernel)) (goodIn_sub (fun _ h => List.mem_cons_of_mem _ (List.mem_append_left _ (List.mem_append_right _ h))) (by decide +kernel))) (goodIn_sub (fun _ h => List.mem_cons_of_mem _ (List.mem_append_right _ h)) (by decide +kernel))
set_option maxRecDepth 20000 in
theorem gL_touch_X3_touch : GoodIn wsL_touch (wsV RL 17 RX3 yX3_touch wsX3_touch) := goodIn_app (goodIn_of _ (by decide +kernel)) ggL_touch_X3_touch
theorem dL_touch_0 : decode cL_touch 0 = .ok (.aload_n 3, 1) := by decide +kernel
theorem dL_touch_1 : decode cL_touch 1 = .ok (.iconst 0, 1) := by decide +kernel
theorem dL_touch_2 : decode cL_touch 2 = .ok (.aload_n 0, 1) := by decide +kernel
theorem dL_touch_3 : decode cL_touch 3 = .ok (.iload_n 1, 1) := by decide +kernel
theorem dL_touch_4 : decode cL_touch 4 = .ok (.iload_n 2, 1) := by decide +kernel
theorem dL_touch_5 : decode cL_touch 5 = .ok (.invokevirtual 17, 3) := by decide +kernel
theorem dL_touch_8 : decode cL_touch 8 = .ok (.i2l, 1) := by decide +kernel
theorem dL_touch_9 : decode cL_touch 9 = .ok (.lastore, 1) := by decide +kernel
theorem dL_touch_10 : decode cL_touch 10 = .ok (.goto 11, 3) := by decide +kernel
theorem dL_touch_13 : decode cL_touch 13 = .ok (.astore 4, 2) := by decide +kernel
theorem dL_touch_15 : decode cL_touch 15 = .ok (.iconst 1, 1) := by decide +kernel
theorem dL_touch_16 : decode cL_touch 16 = .ok (.ireturn, 1) := by decide +kernel
theorem dL_touch_17 : decode cL_touch 17 = .ok (.astore 4, 2) := by decide +kernel
theorem dL_touch_19 : decode cL_touch 19 = .ok (.iconst 2, 1) := by decide +kernel
theorem dL_touch_20 : decode cL_touch 20 = .ok (.ireturn, 1) := by decide +kernel
theorem dL_touch_21 : decode cL_touch 21 = .ok (.iconst 0, 1) := by decide +kernel
theorem dL_touch_22 : decode cL_touch 22 = .ok (.ireturn, 1) := by decide +kernel
set_option maxRecDepth 20000 in
theorem ggL_edge_X3_edge : GoodIn wsL_edge wsX3_edge := goodIn_ca (goodIn_ca (goodIn_r _ [7, 8, 9, 10, 11, 12, 13, 14, 15, 16, 17, 18, 19, 20, 21, 22, 6, 23, 24, 25, 26, 27, 28, 29, 30, 31, 32, 33, 34, 35, 36, 37, 38, 39, 40, 41, 42, 43, 44, 45, 46, 47, 48, 49, 50, 51, 52, 53, 54, 55] (by decide +kernel) (by decide +kernel)) (goodIn_sub (fun _ h => List.mem_cons_of_mem _ (List.mem_append_left _ (List.mem_append_right _ h))) (by decide +kernel))) (goodIn_sub (fun _ h => List.mem_cons_of_mem _ (List.mem_append_right _ h)) (by decide +kernel))
set_option maxRecDepth 20000 in
theorem gL_edge_X3_edge : GoodIn wsL_edge (wsV RL 23 RX3 yX3_edge wsX3_edge) := goodIn_app (goodIn_of _ (by decide +kernel)) ggL_edge_X3_edge
theorem dL_edge_0 : decode cL_edge 0 = .ok (.aload_n 3, 1) := by decide +kernel
theorem dL_edge_1 : decode cL_edge 1 = .ok (.iconst 0, 1) := by decide +kernel
theorem dL_edge_2 : decode cL_edge 2 = .ok (.aload_n 0, 1) := by decide +kernel
theorem dL_edge_3 : decode cL_edge 3 = .ok (.iload_n 1, 1) := by decide +kernel
theorem dL_edge_4 : decode cL_edge 4 = .ok (.iload_n 2, 1) := by decide +kernel
theorem dL_edge_5 : decode cL_edge 5 = .ok (.invokevirtual 23, 3) := by decide +kernel
theorem dL_edge_8 : decode cL_edge 8 = .ok (.i2l, 1) := by decide +kernel
theorem dL_edge_9 : decode cL_edge 9 = .ok (.lastore, 1) := by decide +kernel
theorem dL_edge_10 : decode cL_edge 10 = .ok (.goto 11, 3) := by decide +kernel
theorem dL_edge_13 : decode cL_edge 13 = .ok (.astore 4, 2) := by decide +kernel
theorem dL_edge_15 : decode cL_edge 15 = .ok (.iconst 1, 1) := by decide +kernel
theorem dL_edge_16 : decode cL_edge 16 = .ok (.ireturn, 1) := by decide +kernel
theorem dL_edge_17 : decode cL_edge 17 = .ok (.astore 4, 2) := by decide +kernel
theorem dL_edge_19 : decode cL_edge 19 = .ok (.iconst 2, 1) := by decide +kernel
theorem dL_edge_20 : decode cL_edge 20 = .ok (.ireturn, 1) := by decide +kernel
theorem dL_edge_21 : decode cL_edge 21 = .ok (.iconst 0, 1) := by decide +kernel
theorem dL_edge_22 : decode cL_edge 22 = .ok (.ireturn, 1) := by decide +kernel
set_option maxRecDepth 20000 in
theorem ggL_bound_X3_bound : GoodIn wsL_bound wsX3_bound := goodIn_ca (goodIn_ca (goodIn_r _ [7, 8, 9, 10, 11, 12, 13, 14, 15, 16, 17, 18, 19, 20, 21, 22, 23, 24, 25, 26, 27, 28, 29, 30, 31, 32, 33, 34, 35, 36, 37, 38, 39, 40] (by decide +kernel) (by decide +kernel)) (goodIn_sub (fun _ h => List.mem_cons_of_mem _ (List.mem_append_left _ (List.mem_append_right _ h))) (by decide +kernel))) (goodIn_sub (fun _ h => List.mem_cons_of_mem _ (List.mem_append_right _ h)) (by decide +kernel))
set_option maxRecDepth 20000 in
theorem gL_bound_X3_bound : GoodIn wsL_bound (wsV RL 26 RX3 yX3_bound wsX3_bound) := goodIn_app (goodIn_of _ (by decide +kernel)) ggL_bound_X3_bound
theorem dL_bound_0 : decode cL_bound 0 = .ok (.aload_n 3, 1) := by decide +kernel
theorem dL_bound_1 : decode cL_bound 1 = .ok (.iconst 0, 1) := by decide +kernel
theorem dL_bound_2 : decode cL_bound 2 = .ok (.aload_n 0, 1) := by decide +kernel
theorem dL_bound_3 : decode cL_bound 3 = .ok (.iload_n 1, 1) := by decide +kernel
theorem dL_bound_4 : decode cL_bound 4 = .ok (.iload_n 2, 1) := by decide +kernel
theorem dL_bound_5 : decode cL_bound 5 = .ok (.invokevirtual 26, 3) := by decide +kernel
theorem dL_bound_8 : decode cL_bound 8 = .ok (.i2l, 1) := by decide +kernel
theorem dL_bound_9 : decode cL_bound 9 = .ok (.lastore, 1) := by decide +kernel
theorem dL_bound_10 : decode cL_bound 10 = .ok (.goto 11, 3) := by decide +kernel
theorem dL_bound_13 : decode cL_bound 13 = .ok (.astore 4, 2) := by decide +kernel
theorem dL_bound_15 : decode cL_bound 15 = .ok (.iconst 1, 1) := by decide +kernel
theorem dL_bound_16 : decode cL_bound 16 = .ok (.ireturn, 1) := by decide +kernel
theorem dL_bound_17 : decode cL_bound 17 = .ok (.astore 4, 2) := by decide +kernel
theorem dL_bound_19 : decode cL_bound 19 = .ok (.iconst 2, 1) := by decide +kernel
theorem dL_bound_20 : decode cL_bound 20 = .ok (.ireturn, 1) := by decide +kernel
theorem dL_bound_21 : decode cL_bound 21 = .ok (.iconst 0, 1) := by decide +kernel
theorem dL_bound_22 : decode cL_bound 22 = .ok (.ireturn, 1) := by decide +kernel
set_option maxRecDepth 20000 in
theorem ggL_pair_X3_pair : GoodIn wsL_pair wsX3_pair := goodIn_ca (goodIn_ca (goodIn_ca (goodIn_r _ [8, 9, 10, 11, 12, 13, 14, 15, 16, 17, 18, 19, 20, 21, 22, 23, 24, 25, 26, 27, 28, 29, 30, 31, 32, 33, 34, 35, 36, 37, 38, 39, 40, 41, 42, 43, 44, 45, 46, 47, 48, 49, 50] (by decide +kernel) (by decide +kernel)) (goodIn_sub (fun _ h => List.mem_cons_of_mem _ (List.mem_append_left _ (List.mem_append_left _ (List.mem_append_right _ h)))) (by decide +kernel))) (goodIn_sub (fun _ h => List.mem_cons_of_mem _ (List.mem_append_left _ (List.mem_append_right _ h))) (by decide +kernel))) (goodIn_sub (fun _ h => List.mem_cons_of_mem _ (List.mem_append_right _ h)) (by decide +kernel))
set_option maxRecDepth 20000 in
theorem gL_pair_X3_pair : GoodIn wsL_pair (wsV RL 29 RX3 yX3_pair wsX3_pair) := goodIn_app (goodIn_of _ (by decide +kernel)) ggL_pair_X3_pair
theorem dL_pair_0 : decode cL_pair 0 = .ok (.aload_n 3, 1) := by decide +kernel
theorem dL_pair_1 : decode cL_pair 1 = .ok (.iconst 0, 1) := by decide +kernel
theorem dL_pair_2 : decode cL_pair 2 = .ok (.aload_n 0, 1) := by decide +kernel
theorem dL_pair_3 : decode cL_pair 3 = .ok (.iload_n 1, 1) := by decide +kernel
theorem dL_pair_4 : decode cL_pair 4 = .ok (.iload_n 2, 1) := by decide +kernel
theorem dL_pair_5 : decode cL_pair 5 = .ok (.invokevirtual 29, 3) := by decide +kernel
theorem dL_pair_8 : decode cL_pair 8 = .ok (.i2l, 1) := by decide +kernel
theorem dL_pair_9 : decode cL_pair 9 = .ok (.lastore, 1) := by decide +kernel
theorem dL_pair_10 : decode cL_pair 10 = .ok (.goto 15, 3) := by decide +kernel
theorem dL_pair_13 : decode cL_pair 13 = .ok (.astore 4, 2) := by decide +kernel
theorem dL_pair_15 : decode cL_pair 15 = .ok (.iconst 1, 1) := by decide +kernel
theorem dL_pair_16 : decode cL_pair 16 = .ok (.ireturn, 1) := by decide +kernel
theorem dL_pair_17 : decode cL_pair 17 = .ok (.astore 4, 2) := by decide +kernel
theorem dL_pair_19 : decode cL_pair 19 = .ok (.iconst 2, 1) := by decide +kernel
theorem dL_pair_20 : decode cL_pair 20 = .ok (.ireturn, 1) := by decide +kernel
theorem dL_pair_21 : decode cL_pair 21 = .ok (.astore 4, 2) := by decide +kernel
theorem dL_pair_23 : decode cL_pair 23 = .ok (.iconst 3, 1) := by decide +kernel
theorem dL_pair_24 : decode cL_pair 24 = .ok (.ireturn, 1) := by decide +kernel
theorem dL_pair_25 : decode cL_pair 25 = .ok (.iconst 0, 1) := by decide +kernel
theorem dL_pair_26 : decode cL_pair 26 = .ok (.ireturn, 1) := by decide +kernel
set_option maxRecDepth 20000 in
theorem ggL_worst_X3_worst : GoodIn wsL_worst wsX3_worst := goodIn_ca (goodIn_r _ [6, 7, 8, 9, 10, 11, 12, 5, 13, 14, 15, 16, 17, 18, 19, 20, 21, 22, 23, 24, 25, 26, 27, 28, 29, 30, 31, 32, 33, 34, 35, 36, 37, 38, 39, 40, 41, 42, 43, 44, 45, 46, 47, 48, 49, 50, 51, 52, 53, 54, 55, 56, 57, 58, 59, 60, 61, 62, 63, 64, 65, 66, 67, 68, 69, 70, 71, 72, 73, 74, 75, 76, 77, 78, 79, 80, 81, 82, 83, 84, 85, 86, 87, 88, 89, 90, 91, 92, 93, 94, 95, 96, 97, 98, 99, 100, 101, 102, 103, 104, 105, 106, 107, 108, 109, 110, 111, 112, 113, 114, 115, 116, 117, 118, 119, 120, 121, 122, 123, 124, 125, 126, 127, 128, 129, 130, 131, 132, 133, 134, 135, 136, 137, 138, 139, 140, 141, 142, 143, 144, 145, 146, 147, 148, 149, 150, 151, 152, 153, 154, 155, 156, 157, 158, 159, 160, 161, 162, 163, 164, 165, 166, 167, 168, 169, 170, 171, 172, 173, 174, 175, 176, 177, 178, 179, 180, 181, 182, 183, 184, 185, 186, 187, 188, 189, 190, 191, 192, 193, 194, 195, 196, 197, 198, 199, 200, 201, 202, 203, 204, 205, 206, 207, 208, 209, 210, 211, 212, 213] (by decide +kernel) (by decide +kernel)) (goodIn_sub (fun _ h => List.mem_cons_of_mem _ (List.mem_append_right _ h)) (by decide +kernel))
set_option maxRecDepth 20000 in
theorem gL_worst_X3_worst : GoodIn wsL_worst (wsV RL 32 RX3 yX3_worst wsX3_worst) := goodIn_app (goodIn_of _ (by decide +kernel)) ggL_worst_X3_worst
theorem dL_worst_0 : decode cL_worst 0 = .ok (.aload_n 1, 1) := by decide +kernel
theorem dL_worst_1 : decode cL_worst 1 = .ok (.iconst 0, 1) := by decide +kernel
theorem dL_worst_2 : decode cL_worst 2 = .ok (.aload_n 0, 1) := by decide +kernel
theorem dL_worst_3 : decode cL_worst 3 = .ok (.invokevirtual 32, 3) := by decide +kernel
theorem dL_worst_6 : decode cL_worst 6 = .ok (.lastore, 1) := by decide +kernel
theorem dL_worst_7 : decode cL_worst 7 = .ok (.goto 6, 3) := by decide +kernel
theorem dL_worst_10 : decode cL_worst 10 = .ok (.astore_n 2, 1) := by decide +kernel
theorem dL_worst_11 : decode cL_worst 11 = .ok (.iconst 1, 1) := by decide +kernel
theorem dL_worst_12 : decode cL_worst 12 = .ok (.ireturn, 1) := by decide +kernel
theorem dL_worst_13 : decode cL_worst 13 = .ok (.iconst 0, 1) := by decide +kernel
theorem dL_worst_14 : decode cL_worst 14 = .ok (.ireturn, 1) := by decide +kernel
set_option maxRecDepth 20000 in
theorem ggL_best_X3_best : GoodIn wsL_best wsX3_best := goodIn_ca (goodIn_r _ [6, 7, 8, 9, 10, 11, 12, 5, 13, 14, 15, 16, 17, 18, 19, 20, 21, 22, 23, 24, 25, 26, 27, 28, 29, 30, 31, 32, 33, 34, 35, 36, 37, 38, 39, 40, 41, 42, 43, 44, 45, 46, 47, 48, 49, 50, 51, 52, 53, 54, 55, 56, 57, 58, 59, 60, 61, 62, 63, 64, 65, 66, 67, 68, 69, 70, 71, 72, 73, 74, 75, 76, 77, 78, 79, 80, 81, 82, 83, 84, 85, 86, 87, 88, 89, 90, 91, 92, 93, 94, 95, 96, 97, 98, 99, 100, 101, 102, 103, 104, 105, 106, 107, 108, 109, 110, 111, 112, 113, 114, 115, 116, 117, 118, 119, 120, 121, 122, 123, 124, 125, 126, 127, 128, 129, 130, 131, 132, 133, 134, 135, 136, 137, 138, 139, 140, 141, 142, 143, 144, 145, 146, 147, 148, 149, 150, 151, 152, 153, 154, 155, 156, 157, 158, 159, 160, 161, 162, 163, 164, 165, 166, 167, 168, 169, 170, 171, 172, 173, 174, 175, 176, 177, 178, 179, 180, 181, 182, 183, 184, 185, 186, 187, 188, 189, 190, 191, 192, 193, 194, 195, 196, 197, 198, 199, 200, 201, 202, 203, 204, 205, 206, 207, 208, 209, 210, 211, 212, 213] (by decide +kernel) (by decide +kernel)) (goodIn_sub (fun _ h => List.mem_cons_of_mem _ (List.mem_append_right _ h)) (by decide +kernel))
set_option maxRecDepth 20000 in
theorem gL_best_X3_best : GoodIn wsL_best (wsV RL 36 RX3 yX3_best wsX3_best) := goodIn_app (goodIn_of _ (by decide +kernel)) ggL_best_X3_best
theorem dL_best_0 : decode cL_best 0 = .ok (.aload_n 1, 1) := by decide +kernel
theorem dL_best_1 : decode cL_best 1 = .ok (.iconst 0, 1) := by decide +kernel
theorem dL_best_2 : decode cL_best 2 = .ok (.aload_n 0, 1) := by decide +kernel
theorem dL_best_3 : decode cL_best 3 = .ok (.invokevirtual 36, 3) := by decide +kernel
theorem dL_best_6 : decode cL_best 6 = .ok (.lastore, 1) := by decide +kernel
theorem dL_best_7 : decode cL_best 7 = .ok (.goto 6, 3) := by decide +kernel
theorem dL_best_10 : decode cL_best 10 = .ok (.astore_n 2, 1) := by decide +kernel
theorem dL_best_11 : decode cL_best 11 = .ok (.iconst 1, 1) := by decide +kernel
theorem dL_best_12 : decode cL_best 12 = .ok (.ireturn, 1) := by decide +kernel
theorem dL_best_13 : decode cL_best 13 = .ok (.iconst 0, 1) := by decide +kernel
theorem dL_best_14 : decode cL_best 14 = .ok (.ireturn, 1) := by decide +kernel
set_option maxRecDepth 20000 in
theorem ggL_way_X3_way : GoodIn wsL_way wsX3_way := goodIn_ca (goodIn_ca (goodIn_r _ [7, 8, 9, 10, 11, 12, 13, 14, 15, 16, 17, 6, 18, 19, 20, 21, 22, 23, 24, 25, 26, 27, 28, 29, 30, 31, 32, 33, 34, 35, 36, 37, 38, 39, 40, 41, 42, 43, 44, 45, 46, 47, 48, 49, 50, 51, 52, 53, 54, 55, 56, 57, 58, 59, 60, 61, 62, 63, 64, 65, 66, 67, 68, 69, 70, 71, 72, 73, 74, 75, 76, 77, 78, 79, 80, 81, 82, 83, 84, 85, 86, 87, 88, 89, 90, 91, 92, 93, 94, 95, 96, 97, 98, 99, 100, 101, 102, 103, 104, 105, 106, 107, 108, 109, 110, 111, 112, 113, 114, 115, 116, 117, 118, 119, 120, 121, 122, 123, 124, 125, 126, 127, 128, 129, 130, 131, 132, 133, 134, 135, 136, 137, 138, 139, 140, 141, 142, 143, 144, 145, 146, 147, 148, 149, 150, 151, 152, 153, 154, 155, 156, 157, 158, 159, 160, 161, 162, 163, 164, 165, 166, 167, 168, 169, 170, 171, 172, 173, 174, 175, 176, 177, 178, 179, 180, 181, 182, 183, 184, 185, 186, 187, 188, 189, 190, 191, 192, 193, 194, 195, 196, 197, 198, 199, 200, 201, 202, 203, 204, 205, 206, 207, 208, 209, 210, 211, 212, 213, 214, 215, 216, 217, 218, 219, 220, 221, 222, 223] (by decide +kernel) (by decide +kernel)) (goodIn_sub (fun _ h => List.mem_cons_of_mem _ (List.mem_append_left _ (List.mem_append_right _ h))) (by decide +kernel))) (goodIn_sub (fun _ h => List.mem_cons_of_mem _ (List.mem_append_right _ h)) (by decide +kernel))
set_option maxRecDepth 20000 in
theorem gL_way_X3_way : GoodIn wsL_way (wsV RL 39 RX3 yX3_way wsX3_way) := goodIn_app (goodIn_of _ (by decide +kernel)) ggL_way_X3_way
theorem dL_way_0 : decode cL_way 0 = .ok (.aload_n 3, 1) := by decide +kernel
theorem dL_way_1 : decode cL_way 1 = .ok (.iconst 0, 1) := by decide +kernel
theorem dL_way_2 : decode cL_way 2 = .ok (.aload_n 0, 1) := by decide +kernel
theorem dL_way_3 : decode cL_way 3 = .ok (.iload_n 1, 1) := by decide +kernel
theorem dL_way_4 : decode cL_way 4 = .ok (.iload_n 2, 1) := by decide +kernel
theorem dL_way_5 : decode cL_way 5 = .ok (.invokevirtual 39, 3) := by decide +kernel
theorem dL_way_8 : decode cL_way 8 = .ok (.i2l, 1) := by decide +kernel
theorem dL_way_9 : decode cL_way 9 = .ok (.lastore, 1) := by decide +kernel
theorem dL_way_10 : decode cL_way 10 = .ok (.goto 11, 3) := by decide +kernel
theorem dL_way_13 : decode cL_way 13 = .ok (.astore 4, 2) := by decide +kernel
theorem dL_way_15 : decode cL_way 15 = .ok (.iconst 1, 1) := by decide +kernel
theorem dL_way_16 : decode cL_way 16 = .ok (.ireturn, 1) := by decide +kernel
theorem dL_way_17 : decode cL_way 17 = .ok (.astore 4, 2) := by decide +kernel
theorem dL_way_19 : decode cL_way 19 = .ok (.iconst 2, 1) := by decide +kernel
theorem dL_way_20 : decode cL_way 20 = .ok (.ireturn, 1) := by decide +kernel
theorem dL_way_21 : decode cL_way 21 = .ok (.iconst 0, 1) := by decide +kernel
theorem dL_way_22 : decode cL_way 22 = .ok (.ireturn, 1) := by decide +kernel
set_option maxRecDepth 20000 in
theorem ggL_touches_X3_touches : GoodIn wsL_touches wsX3_touches := goodIn_ca (goodIn_r _ [6, 7, 8, 9, 10, 11, 12, 13, 14, 15, 16, 17, 18, 19, 20, 21, 22, 5, 23, 24, 25, 26, 27, 28, 29, 30, 31, 32, 33, 34, 35, 36, 37, 38, 39, 40, 41, 42, 43, 44, 45, 46, 47, 48, 49, 50, 51, 52, 53, 54, 55, 56, 57, 58, 59, 60, 61, 62, 63, 64, 65, 66, 67, 68, 69, 70, 71, 72, 73, 74, 75, 76, 77, 78, 79, 80, 81, 82, 83, 84, 85, 86, 87, 88, 89, 90, 91, 92, 93, 94, 95, 96, 97, 98, 99, 100, 101, 102, 103, 104, 105, 106, 107, 108, 109, 110, 111, 112, 113, 114, 115, 116, 117, 118, 119, 120, 121] (by decide +kernel) (by decide +kernel)) (goodIn_sub (fun _ h => List.mem_cons_of_mem _ (List.mem_append_right _ h)) (by decide +kernel))
set_option maxRecDepth 20000 in
theorem gL_touches_X3_touches : GoodIn wsL_touches (wsV RL 42 RX3 yX3_touches wsX3_touches) := goodIn_app (goodIn_of _ (by decide +kernel)) ggL_touches_X3_touches
theorem dL_touches_0 : decode cL_touches 0 = .ok (.aload_n 3, 1) := by decide +kernel
theorem dL_touches_1 : decode cL_touches 1 = .ok (.iconst 0, 1) := by decide +kernel
theorem dL_touches_2 : decode cL_touches 2 = .ok (.aload_n 0, 1) := by decide +kernel
theorem dL_touches_3 : decode cL_touches 3 = .ok (.iload_n 1, 1) := by decide +kernel
theorem dL_touches_4 : decode cL_touches 4 = .ok (.iload_n 2, 1) := by decide +kernel
theorem dL_touches_5 : decode cL_touches 5 = .ok (.invokevirtual 42, 3) := by decide +kernel
theorem dL_touches_8 : decode cL_touches 8 = .ok (.i2l, 1) := by decide +kernel
theorem dL_touches_9 : decode cL_touches 9 = .ok (.lastore, 1) := by decide +kernel
theorem dL_touches_10 : decode cL_touches 10 = .ok (.goto 7, 3) := by decide +kernel
theorem dL_touches_13 : decode cL_touches 13 = .ok (.astore 4, 2) := by decide +kernel
theorem dL_touches_15 : decode cL_touches 15 = .ok (.iconst 1, 1) := by decide +kernel
theorem dL_touches_16 : decode cL_touches 16 = .ok (.ireturn, 1) := by decide +kernel
theorem dL_touches_17 : decode cL_touches 17 = .ok (.iconst 0, 1) := by decide +kernel
theorem dL_touches_18 : decode cL_touches 18 = .ok (.ireturn, 1) := by decide +kernel
