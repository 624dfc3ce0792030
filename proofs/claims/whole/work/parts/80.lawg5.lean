set_option maxRecDepth 20000 in
theorem ggL_law_L_product : GoodIn wsL_law wsL_product := goodIn_ca (goodIn_ca (goodIn_r _ [437, 108, 185, 438, 439, 440, 2, 441, 26, 377, 378, 379, 120, 121, 380, 381, 382, 383, 190, 191, 384, 385, 386, 25, 387, 147, 442, 443, 444, 445, 71, 73, 293, 294, 295, 21, 296, 48, 236, 237, 238, 239, 297, 298, 299, 300, 57, 573, 574, 575, 576, 605, 606, 607, 608, 609, 610, 596, 597, 598, 599, 600, 601, 602, 603, 604] (by decide +kernel) (by decide +kernel)) (goodIn_sub (fun _ h => List.mem_append_left _ (List.mem_append_left _ (List.mem_append_right _ h))) (by decide +kernel))) (goodIn_sub (fun _ h => List.mem_append_right _ h) (by decide +kernel))
set_option maxRecDepth 20000 in
theorem gL_law_L_product : GoodIn wsL_law (va_wsS RL 104 yL_product wsL_product) := goodIn_app (goodIn_of _ (by decide +kernel)) ggL_law_L_product
set_option maxRecDepth 20000 in
theorem ggL_law_X5_product : GoodIn wsL_law wsX5_product := goodIn_r _ [449, 154, 404, 405, 406, 5, 407, 408, 409, 410, 411, 155, 324, 359, 360, 361, 362, 104, 103, 99, 333, 334, 335, 336, 91, 363, 364, 365, 366, 94, 577, 578, 579, 580, 581, 582, 583, 584, 585, 586, 587, 588, 589, 590, 591, 592, 593, 594, 595] (by decide +kernel) (by decide +kernel)
set_option maxRecDepth 20000 in
theorem gL_law_X5_product : GoodIn wsL_law (wsV RL 106 RX5 yX5_product wsX5_product) := goodIn_app (goodIn_of _ (by decide +kernel)) ggL_law_X5_product
set_option maxRecDepth 20000 in
theorem ggL_law_X4_mirrored : GoodIn wsL_law wsX4_mirrored := goodIn_r _ [453, 22, 454, 455, 456, 21, 457, 47, 46, 48, 230, 132, 133, 134, 458, 459, 460, 461, 573, 574, 575, 576, 596, 597, 598, 599, 600, 601, 602, 603, 604] (by decide +kernel) (by decide +kernel)
set_option maxRecDepth 20000 in
theorem gL_law_X4_mirrored : GoodIn wsL_law (wsV RL 107 RX4 yX4_mirrored wsX4_mirrored) := goodIn_app (goodIn_of _ (by decide +kernel)) ggL_law_X4_mirrored
set_option maxRecDepth 20000 in
theorem ggL_law_X5_mirrored : GoodIn wsL_law wsX5_mirrored := goodIn_r _ [465, 154, 104, 103, 91, 577, 578, 579, 580, 581, 582, 583, 584, 585, 586, 587, 588, 589, 590, 591, 592, 593, 594, 595] (by decide +kernel) (by decide +kernel)
set_option maxRecDepth 20000 in
theorem gL_law_X5_mirrored : GoodIn wsL_law (wsV RL 111 RX5 yX5_mirrored wsX5_mirrored) := goodIn_app (goodIn_of _ (by decide +kernel)) ggL_law_X5_mirrored
