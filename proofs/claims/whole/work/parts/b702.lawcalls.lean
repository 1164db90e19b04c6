set_option maxRecDepth 20000 in
theorem ggL_law_X4_touch : GoodIn wsL_law wsX4_touch := goodIn_r _ [186, 140, 142, 83, 187, 85, 84, 143, 144, 145, 5, 146, 147, 148, 149, 150, 188, 189, 190, 191, 561, 562, 563, 564, 565, 566, 567, 568, 569, 570, 571, 572, 573, 574, 575, 576, 577, 578, 579, 580, 581, 582, 583, 584, 585, 586, 587, 588, 589, 590, 591, 592] (by rfl) (by decide +kernel)
set_option maxRecDepth 20000 in
theorem gL_law_X4_touch : GoodIn wsL_law (wsV RL 75 RX4 yX4_touch wsX4_touch) := goodIn_app (goodIn_of _ (by decide +kernel)) ggL_law_X4_touch
set_option maxRecDepth 20000 in
theorem ggL_law_L_edge : GoodIn wsL_law wsL_edge := goodIn_ca (goodIn_ca (goodIn_r _ [194, 158, 116, 195, 196, 197, 2, 198, 163, 164, 123, 124, 20, 199, 166, 167, 168, 19, 169, 135, 127, 128, 129, 130, 29, 30, 200, 201, 202, 203, 204, 39, 40, 41, 45, 44, 556, 557, 558, 559, 560, 593, 594, 595, 596, 597, 598, 599, 600, 601, 602, 603, 604, 605, 606, 607] (by rfl) (by decide +kernel)) (goodIn_sub (fun _ h => List.mem_append_right _ h) (by decide +kernel))) (goodIn_sub (fun _ h => List.mem_append_left _ (List.mem_append_right _ h)) (by decide +kernel))
set_option maxRecDepth 20000 in
theorem gL_law_L_edge : GoodIn wsL_law (va_wsS RL 76 yL_edge wsL_edge) := goodIn_app (goodIn_of _ (by decide +kernel)) ggL_law_L_edge
set_option maxRecDepth 20000 in
theorem ggL_law_X4_edge : GoodIn wsL_law wsX4_edge := goodIn_r _ [208, 140, 142, 209, 86, 87, 88, 143, 144, 145, 5, 146, 147, 148, 149, 150, 561, 562, 563, 564, 565, 566, 567, 568, 569, 570, 571, 572, 573, 574, 575, 576, 577, 578, 579, 580, 581, 582, 583, 584, 585, 586, 587, 588, 589, 590, 591, 592] (by rfl) (by decide +kernel)
set_option maxRecDepth 20000 in
theorem gL_law_X4_edge : GoodIn wsL_law (wsV RL 78 RX4 yX4_edge wsX4_edge) := goodIn_app (goodIn_of _ (by decide +kernel)) ggL_law_X4_edge
set_option maxRecDepth 20000 in
theorem ggL_law_L_bound : GoodIn wsL_law wsL_bound := goodIn_ca (goodIn_ca (goodIn_r _ [212, 158, 115, 213, 214, 215, 2, 216, 163, 164, 121, 122, 20, 217, 30, 218, 219, 220, 19, 221, 204, 556, 557, 558, 559, 560, 593, 594, 595, 596, 597, 598, 599, 600, 601, 602, 603, 604, 605, 606, 607] (by rfl) (by decide +kernel)) (goodIn_sub (fun _ h => List.mem_append_right _ h) (by decide +kernel))) (goodIn_sub (fun _ h => List.mem_append_left _ (List.mem_append_left _ (List.mem_append_right _ h))) (by decide +kernel))
set_option maxRecDepth 20000 in
theorem gL_law_L_bound : GoodIn wsL_law (va_wsS RL 79 yL_bound wsL_bound) := goodIn_app (goodIn_of _ (by decide +kernel)) ggL_law_L_bound
