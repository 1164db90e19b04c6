set_option maxRecDepth 20000 in
theorem ggL_law_X4_bound : GoodIn wsL_law wsX4_bound := goodIn_r _ [225, 140, 209, 88, 143, 144, 145, 5, 146, 147, 148, 149, 150, 561, 562, 563, 564, 565, 566, 567, 568, 569, 570, 571, 572, 573, 574, 575, 576, 577, 578, 579, 580, 581, 582, 583, 584, 585, 586, 587, 588, 589, 590, 591, 592] (by rfl) (by decide +kernel)
set_option maxRecDepth 20000 in
theorem gL_law_X4_bound : GoodIn wsL_law (wsV RL 81 RX4 yX4_bound wsX4_bound) := goodIn_app (goodIn_of _ (by decide +kernel)) ggL_law_X4_bound
set_option maxRecDepth 20000 in
theorem ggL_law_L_pair : GoodIn wsL_law wsL_pair := goodIn_ca (goodIn_ca (goodIn_ca (goodIn_r _ [228, 158, 115, 116, 229, 230, 231, 2, 232, 163, 164, 121, 122, 123, 124, 20, 233, 30, 218, 219, 220, 19, 221, 204, 234, 235, 236, 237, 42, 238, 43, 556, 557, 558, 559, 560, 593, 594, 595, 596, 597, 598, 599, 600, 601, 602, 603, 604, 605, 606, 607] (by rfl) (by decide +kernel)) (goodIn_sub (fun _ h => List.mem_append_right _ h) (by decide +kernel))) (goodIn_sub (fun _ h => List.mem_append_left _ (List.mem_append_left _ (List.mem_append_right _ h))) (by decide +kernel))) (goodIn_sub (fun _ h => List.mem_append_left _ (List.mem_append_right _ h)) (by decide +kernel))
set_option maxRecDepth 20000 in
theorem gL_law_L_pair : GoodIn wsL_law (va_wsS RL 82 yL_pair wsL_pair) := goodIn_app (goodIn_of _ (by decide +kernel)) ggL_law_L_pair
set_option maxRecDepth 20000 in
theorem ggL_law_X4_pair : GoodIn wsL_law wsX4_pair := goodIn_r _ [242, 140, 209, 243, 89, 90, 143, 144, 145, 5, 146, 147, 148, 149, 150, 561, 562, 563, 564, 565, 566, 567, 568, 569, 570, 571, 572, 573, 574, 575, 576, 577, 578, 579, 580, 581, 582, 583, 584, 585, 586, 587, 588, 589, 590, 591, 592] (by rfl) (by decide +kernel)
set_option maxRecDepth 20000 in
theorem gL_law_X4_pair : GoodIn wsL_law (wsV RL 84 RX4 yX4_pair wsX4_pair) := goodIn_app (goodIn_of _ (by decide +kernel)) ggL_law_X4_pair
