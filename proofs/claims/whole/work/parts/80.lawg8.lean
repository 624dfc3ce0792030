set_option maxRecDepth 20000 in
theorem ggL_law_L_sum : GoodIn wsL_law wsL_sum := goodIn_ca (goodIn_r _ [553, 185, 554, 555, 556, 2, 557, 190, 191, 31, 26, 523, 524, 525, 30, 526, 504, 85, 527, 40, 37, 41, 384, 385, 386, 25, 387, 147, 528, 529, 530, 531, 86, 532, 389, 390, 391, 74, 573, 574, 575, 576, 611, 612, 613, 605, 606, 607, 608, 609, 610] (by decide +kernel) (by decide +kernel)) (goodIn_sub (fun _ h => List.mem_append_right _ h) (by decide +kernel))
set_option maxRecDepth 20000 in
theorem gL_law_L_sum : GoodIn wsL_law (va_wsS RL 128 yL_sum wsL_sum) := goodIn_app (goodIn_of _ (by decide +kernel)) ggL_law_L_sum
set_option maxRecDepth 20000 in
theorem ggL_law_X5_sum : GoodIn wsL_law wsX5_sum := goodIn_r _ [561, 515, 155, 324, 154, 543, 544, 545, 5, 546, 101, 547, 548, 549, 550, 100, 102, 577, 578, 579, 580, 581, 582, 583, 584, 585, 586, 587, 588, 589, 590, 591, 592, 593, 594, 595] (by decide +kernel) (by decide +kernel)
set_option maxRecDepth 20000 in
theorem gL_law_X5_sum : GoodIn wsL_law (wsV RL 131 RX5 yX5_sum wsX5_sum) := goodIn_app (goodIn_of _ (by decide +kernel)) ggL_law_X5_sum
set_option maxRecDepth 20000 in
theorem ggL_law_L_tap : GoodIn wsL_law wsL_tap := goodIn_ca (goodIn_ca (goodIn_ca (goodIn_r _ [564, 108, 109, 185, 565, 566, 567, 2, 568, 499, 26, 22, 377, 378, 379, 120, 121, 116, 117, 118, 119, 122, 123, 124, 21, 125, 46, 47, 126, 127, 128, 129, 130, 380, 381, 382, 383, 190, 191, 384, 385, 386, 25, 387, 147, 131, 132, 133, 134, 427, 428, 429, 430, 73, 388, 389, 390, 391, 74, 573, 574, 575, 576, 596, 597, 598, 599, 600, 601, 602, 603, 604, 605, 606, 607, 608, 609, 610] (by decide +kernel) (by decide +kernel)) (goodIn_sub (fun _ h => List.mem_append_left _ (List.mem_append_left _ (List.mem_append_right _ h))) (by decide +kernel))) (goodIn_sub (fun _ h => List.mem_append_left _ (List.mem_append_right _ h)) (by decide +kernel))) (goodIn_sub (fun _ h => List.mem_append_right _ h) (by decide +kernel))
set_option maxRecDepth 20000 in
theorem gL_law_L_tap : GoodIn wsL_law (va_wsS RL 132 yL_tap wsL_tap) := goodIn_app (goodIn_of _ (by decide +kernel)) ggL_law_L_tap
set_option maxRecDepth 20000 in
theorem ggL_law_X5_tap : GoodIn wsL_law wsX5_tap := goodIn_r _ [572, 514, 155, 324, 154, 99, 100, 404, 405, 406, 5, 407, 156, 157, 158, 159, 103, 104, 160, 161, 162, 577, 578, 579, 580, 581, 582, 583, 584, 585, 586, 587, 588, 589, 590, 591, 592, 593, 594, 595] (by decide +kernel) (by decide +kernel)
set_option maxRecDepth 20000 in
theorem gL_law_X5_tap : GoodIn wsL_law (wsV RL 135 RX5 yX5_tap wsX5_tap) := goodIn_app (goodIn_of _ (by decide +kernel)) ggL_law_X5_tap
