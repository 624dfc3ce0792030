set_option maxRecDepth 20000 in
theorem ggL_law_L_mode : GoodIn wsL_law wsL_mode := goodIn_ca (goodIn_ca (goodIn_r _ [372, 108, 185, 373, 374, 375, 2, 376, 120, 121, 26, 377, 378, 379, 380, 381, 382, 383, 190, 191, 384, 385, 386, 25, 387, 147, 388, 389, 390, 391, 74, 392, 393, 394, 395, 75, 396, 397, 398, 399, 76, 573, 574, 575, 576, 605, 606, 607, 608, 609, 610] (by decide +kernel) (by decide +kernel)) (goodIn_sub (fun _ h => List.mem_append_left _ (List.mem_append_left _ (List.mem_append_right _ h))) (by decide +kernel))) (goodIn_sub (fun _ h => List.mem_append_right _ h) (by decide +kernel))
set_option maxRecDepth 20000 in
theorem gL_law_L_mode : GoodIn wsL_law (va_wsS RL 96 yL_mode wsL_mode) := goodIn_app (goodIn_of _ (by decide +kernel)) ggL_law_L_mode
set_option maxRecDepth 20000 in
theorem ggL_law_X5_mode : GoodIn wsL_law wsX5_mode := goodIn_r _ [403, 154, 100, 404, 405, 406, 5, 407, 408, 409, 410, 411, 155, 324, 412, 413, 414, 415, 104, 103, 99, 350, 351, 352, 353, 97, 98, 354, 363, 364, 365, 366, 91, 94, 333, 334, 335, 336, 416, 417, 418, 419, 577, 578, 579, 580, 581, 582, 583, 584, 585, 586, 587, 588, 589, 590, 591, 592, 593, 594, 595] (by decide +kernel) (by decide +kernel)
set_option maxRecDepth 20000 in
theorem gL_law_X5_mode : GoodIn wsL_law (wsV RL 99 RX5 yX5_mode wsX5_mode) := goodIn_app (goodIn_of _ (by decide +kernel)) ggL_law_X5_mode
set_option maxRecDepth 20000 in
theorem ggL_law_L_shape : GoodIn wsL_law wsL_shape := goodIn_ca (goodIn_ca (goodIn_r _ [422, 108, 185, 423, 424, 425, 2, 426, 26, 22, 377, 378, 379, 120, 121, 116, 117, 118, 119, 122, 123, 124, 21, 125, 46, 47, 380, 381, 382, 383, 190, 191, 384, 385, 386, 25, 387, 147, 131, 132, 133, 134, 427, 428, 429, 430, 73, 573, 574, 575, 576, 596, 597, 598, 599, 600, 601, 602, 603, 604, 605, 606, 607, 608, 609, 610] (by decide +kernel) (by decide +kernel)) (goodIn_sub (fun _ h => List.mem_append_left _ (List.mem_append_left _ (List.mem_append_right _ h))) (by decide +kernel))) (goodIn_sub (fun _ h => List.mem_append_right _ h) (by decide +kernel))
set_option maxRecDepth 20000 in
theorem gL_law_L_shape : GoodIn wsL_law (va_wsS RL 100 yL_shape wsL_shape) := goodIn_app (goodIn_of _ (by decide +kernel)) ggL_law_L_shape
set_option maxRecDepth 20000 in
theorem ggL_law_X5_shape : GoodIn wsL_law wsX5_shape := goodIn_r _ [434, 154, 99, 404, 405, 406, 5, 407, 156, 157, 158, 159, 103, 104, 408, 409, 410, 411, 155, 324, 577, 578, 579, 580, 581, 582, 583, 584, 585, 586, 587, 588, 589, 590, 591, 592, 593, 594, 595] (by decide +kernel) (by decide +kernel)
set_option maxRecDepth 20000 in
theorem gL_law_X5_shape : GoodIn wsL_law (wsV RL 103 RX5 yX5_shape wsX5_shape) := goodIn_app (goodIn_of _ (by decide +kernel)) ggL_law_X5_shape
