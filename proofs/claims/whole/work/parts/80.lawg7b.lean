theorem zg_cons {big a : List Cond} {c : Cond} (h : GoodIn big [c]) (ha : GoodIn big a) : GoodIn big (c :: a) := fun w h9 => (List.mem_cons.mp h9).elim (fun e => h w (by rw [e]; exact List.mem_cons_self)) (ha w)
set_option maxRecDepth 20000 in
theorem g9_thin_0 : GoodIn wsL_law [Cond.code yX5_thin cX5_thin 17 (some .int)] := goodIn_r _ [542] (by decide +kernel) (by decide +kernel)
set_option maxRecDepth 20000 in
theorem g9_thin_1 : GoodIn wsL_law wsX5_thin_r1 := goodIn_r _ [152, 153, 154, 155, 324, 104, 103, 91, 160, 161, 5, 162, 543, 544, 545, 546, 515, 101, 325, 326, 327, 328, 329, 330] (by decide +kernel) (by decide +kernel)
set_option maxRecDepth 20000 in
theorem g9_thin_2 : GoodIn wsL_law wsX5_thin_r2 := goodIn_r _ [331, 332, 97, 92, 98, 93, 214, 95, 96, 333, 334, 335, 336, 337, 338, 339, 340, 341, 342, 343, 344, 99, 100, 345] (by decide +kernel) (by decide +kernel)
set_option maxRecDepth 20000 in
theorem g9_thin_3 : GoodIn wsL_law wsX5_thin_r3 := goodIn_r _ [346, 347, 348, 349, 350, 351, 352, 353, 354, 355, 356, 357, 358, 359, 360, 361, 362, 363, 364, 365, 366, 94, 367, 368] (by decide +kernel) (by decide +kernel)
set_option maxRecDepth 20000 in
theorem g9_thin_4 : GoodIn wsL_law wsX5_thin_r4 := goodIn_r _ [369, 547, 548, 549, 550, 102] (by decide +kernel) (by decide +kernel)
set_option maxRecDepth 20000 in
theorem g9_thin_5 : GoodIn wsL_law wsX50 := goodIn_r _ [577, 578, 579, 580, 581, 582, 583, 584, 585, 586, 587, 588, 589, 590, 591, 592, 593, 594, 595] (by decide +kernel) (by decide +kernel)
theorem ggL_law_X5_thin : GoodIn wsL_law wsX5_thin := zg_cons g9_thin_0 (goodIn_app (goodIn_app g9_thin_1 (goodIn_app g9_thin_2 (goodIn_app g9_thin_3 g9_thin_4))) g9_thin_5)
set_option maxRecDepth 20000 in
theorem gL_law_X5_thin : GoodIn wsL_law (wsV RL 127 RX5 yX5_thin wsX5_thin) := goodIn_app (goodIn_of _ (by decide +kernel)) ggL_law_X5_thin

