set_option maxRecDepth 20000 in
theorem gL_law_L_worst : GoodIn wsL_law (va_wsS RL 85 yL_worst wsL_worst) := goodIn_app (goodIn_of _ (by decide +kernel)) ggL_law_L_worst
set_option maxRecDepth 20000 in
theorem ggL_law_X4_worst : GoodIn wsL_law wsX4_worst := goodIn_r _ [389, 102, 390, 391, 392, 5, 393, 394, 140, 395, 396, 397, 398, 143, 399, 400, 401, 402, 91, 94, 95, 142, 209, 86, 87, 97, 82, 98, 83, 96, 108, 403, 404, 405, 406, 187, 92, 93, 407, 408, 409, 410, 84, 411, 412, 413, 414, 107, 415, 416, 417, 418, 85, 106, 419, 420, 421, 422, 423, 105, 424, 425, 426, 427, 99, 100, 88, 101, 428, 429, 430, 431, 243, 89, 90, 432, 433, 434, 435, 436, 437, 438, 439, 440, 441, 442, 443, 444, 445, 446, 447, 448, 449, 450, 451, 452, 453, 454, 455, 456, 103, 457, 458, 459, 460, 561, 562, 563, 564, 565, 566, 567, 568, 569, 570, 571, 572, 573, 574, 575, 576, 577, 578, 579, 580, 581, 582, 583, 584, 585, 586, 587, 588, 589, 590, 591, 592] (by rfl) (by decide +kernel)
set_option maxRecDepth 20000 in
theorem gL_law_X4_worst : GoodIn wsL_law (wsV RL 88 RX4 yX4_worst wsX4_worst) := goodIn_app (goodIn_of _ (by decide +kernel)) ggL_law_X4_worst
