set_option maxRecDepth 20000 in
theorem ggL_law_X5_wood : GoodIn wsL_law wsX5_wood := goodIn_r _ [151, 152, 153, 154, 91, 155, 156, 157, 158, 5, 159, 103, 104, 160, 161, 162, 577, 578, 579, 580, 581, 582, 583, 584, 585, 586, 587, 588, 589, 590, 591, 592, 593, 594, 595] (by decide +kernel) (by decide +kernel)
set_option maxRecDepth 20000 in
theorem gL_law_X5_wood : GoodIn wsL_law (wsV RL 79 RX5 yX5_wood wsX5_wood) := goodIn_app (goodIn_of _ (by decide +kernel)) ggL_law_X5_wood
set_option maxRecDepth 20000 in
theorem ggL_law_X5_thrown : GoodIn wsL_law wsX5_thrown := goodIn_r _ [166, 154, 577, 578, 579, 580, 581, 582, 583, 584, 585, 586, 587, 588, 589, 590, 591, 592, 593, 594, 595] (by decide +kernel) (by decide +kernel)
set_option maxRecDepth 20000 in
theorem gL_law_X5_thrown : GoodIn wsL_law (wsV RL 80 RX5 yX5_thrown wsX5_thrown) := goodIn_app (goodIn_of _ (by decide +kernel)) ggL_law_X5_thrown
set_option maxRecDepth 20000 in
theorem ggL_law_L_rates : GoodIn wsL_law wsL_rates := goodIn_ca (goodIn_r _ [169, 109, 170, 171, 172, 2, 173, 114, 115, 22, 26, 126, 127, 128, 129, 130, 174, 175, 176, 21, 177, 55, 56, 57, 143, 144, 145, 25, 146, 147, 573, 574, 575, 576, 596, 597, 598, 599, 600, 601, 602, 603, 604, 605, 606, 607, 608, 609, 610] (by decide +kernel) (by decide +kernel)) (goodIn_sub (fun _ h => List.mem_append_left _ (List.mem_append_right _ h)) (by decide +kernel))
set_option maxRecDepth 20000 in
theorem gL_law_L_rates : GoodIn wsL_law (va_wsS RL 84 yL_rates wsL_rates) := goodIn_app (goodIn_of _ (by decide +kernel)) ggL_law_L_rates
set_option maxRecDepth 20000 in
theorem ggL_law_X5_rates : GoodIn wsL_law wsX5_rates := goodIn_r _ [181, 152, 153, 154, 92, 93, 94, 155, 160, 161, 5, 162, 577, 578, 579, 580, 581, 582, 583, 584, 585, 586, 587, 588, 589, 590, 591, 592, 593, 594, 595] (by decide +kernel) (by decide +kernel)
set_option maxRecDepth 20000 in
theorem gL_law_X5_rates : GoodIn wsL_law (wsV RL 87 RX5 yX5_rates wsX5_rates) := goodIn_app (goodIn_of _ (by decide +kernel)) ggL_law_X5_rates
