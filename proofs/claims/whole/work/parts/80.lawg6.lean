set_option maxRecDepth 20000 in
theorem ggL_law_L_coupled : GoodIn wsL_law wsL_coupled := goodIn_ca (goodIn_ca (goodIn_ca (goodIn_r _ [468, 108, 109, 185, 469, 470, 471, 2, 472, 115, 26, 473, 303, 377, 378, 379, 120, 121, 126, 127, 128, 129, 130, 380, 381, 382, 383, 190, 191, 384, 385, 386, 25, 387, 147, 388, 389, 390, 391, 74, 396, 397, 398, 399, 76, 474, 301, 302, 573, 574, 575, 576, 605, 606, 607, 608, 609, 610] (by decide +kernel) (by decide +kernel)) (goodIn_sub (fun _ h => List.mem_append_left _ (List.mem_append_left _ (List.mem_append_right _ h))) (by decide +kernel))) (goodIn_sub (fun _ h => List.mem_append_left _ (List.mem_append_right _ h)) (by decide +kernel))) (goodIn_sub (fun _ h => List.mem_append_right _ h) (by decide +kernel))
set_option maxRecDepth 20000 in
theorem gL_law_L_coupled : GoodIn wsL_law (va_wsS RL 112 yL_coupled wsL_coupled) := goodIn_app (goodIn_of _ (by decide +kernel)) ggL_law_L_coupled
set_option maxRecDepth 20000 in
theorem ggL_law_X5_coupled : GoodIn wsL_law wsX5_coupled := goodIn_r _ [478, 153, 155, 324, 154, 100, 479, 340, 404, 405, 406, 5, 407, 160, 161, 162, 416, 417, 418, 419, 104, 103, 99, 333, 334, 335, 336, 91, 367, 368, 369, 577, 578, 579, 580, 581, 582, 583, 584, 585, 586, 587, 588, 589, 590, 591, 592, 593, 594, 595] (by decide +kernel) (by decide +kernel)
set_option maxRecDepth 20000 in
theorem gL_law_X5_coupled : GoodIn wsL_law (wsV RL 115 RX5 yX5_coupled wsX5_coupled) := goodIn_app (goodIn_of _ (by decide +kernel)) ggL_law_X5_coupled
set_option maxRecDepth 20000 in
theorem ggL_law_X4_weight : GoodIn wsL_law wsX4_weight := goodIn_r _ [483, 22, 484, 485, 486, 21, 487, 48, 297, 298, 299, 300, 57, 573, 574, 575, 576, 596, 597, 598, 599, 600, 601, 602, 603, 604] (by decide +kernel) (by decide +kernel)
set_option maxRecDepth 20000 in
theorem gL_law_X4_weight : GoodIn wsL_law (wsV RL 116 RX4 yX4_weight wsX4_weight) := goodIn_app (goodIn_of _ (by decide +kernel)) ggL_law_X4_weight
set_option maxRecDepth 20000 in
theorem ggL_law_X5_weight : GoodIn wsL_law wsX5_weight := goodIn_r _ [491, 154, 104, 103, 363, 364, 365, 5, 366, 91, 94, 577, 578, 579, 580, 581, 582, 583, 584, 585, 586, 587, 588, 589, 590, 591, 592, 593, 594, 595] (by decide +kernel) (by decide +kernel)
set_option maxRecDepth 20000 in
theorem gL_law_X5_weight : GoodIn wsL_law (wsV RL 119 RX5 yX5_weight wsX5_weight) := goodIn_app (goodIn_of _ (by decide +kernel)) ggL_law_X5_weight
