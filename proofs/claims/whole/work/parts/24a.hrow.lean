theorem dL_cell_0 : decode cL_cell 0 = .ok (.iload_n 1, 1) := by decide +kernel
theorem dL_cell_1 : decode cL_cell 1 = .ok (.aload_n 0, 1) := by decide +kernel
theorem dL_cell_2 : decode cL_cell 2 = .ok (.arraylength, 1) := by decide +kernel
theorem dL_cell_3 : decode cL_cell 3 = .ok (.if_icmp .ge 9, 3) := by decide +kernel
theorem dL_cell_6 : decode cL_cell 6 = .ok (.aload_n 0, 1) := by decide +kernel
theorem dL_cell_7 : decode cL_cell 7 = .ok (.iload_n 1, 1) := by decide +kernel
theorem dL_cell_8 : decode cL_cell 8 = .ok (.iaload, 1) := by decide +kernel
theorem dL_cell_9 : decode cL_cell 9 = .ok (.goto 4, 3) := by decide +kernel
theorem dL_cell_12 : decode cL_cell 12 = .ok (.iconst 0, 1) := by decide +kernel
theorem dL_cell_13 : decode cL_cell 13 = .ok (.ireturn, 1) := by decide +kernel
set_option maxRecDepth 20000 in
theorem ggL_wood_X4_wood : GoodIn wsL_wood wsX4_wood := goodIn_ca (goodIn_ca (goodIn_r _ [7, 8, 9, 10, 11, 12, 13, 14, 6, 15, 16, 17, 18, 19, 20, 21, 22, 23, 24, 25, 26, 27, 28, 29, 30, 31, 32, 33, 34, 35, 36, 37, 38, 39, 40, 41, 42, 43, 44, 45, 46, 47, 48, 49, 50, 51, 52, 53, 54, 55, 56, 57, 58, 59, 60, 61, 62, 63, 64, 65, 66, 67] (by decide +kernel) (by decide +kernel)) (goodIn_sub (fun _ h => List.mem_cons_of_mem _ (List.mem_append_left _ (List.mem_append_right _ h))) (by decide +kernel))) (goodIn_sub (fun _ h => List.mem_cons_of_mem _ (List.mem_append_right _ h)) (by decide +kernel))
set_option maxRecDepth 20000 in
theorem gL_wood_X4_wood : GoodIn wsL_wood (wsV RL 7 RX4 yX4_wood wsX4_wood) := goodIn_app (goodIn_of _ (by decide +kernel)) ggL_wood_X4_wood
theorem dL_wood_0 : decode cL_wood 0 = .ok (.aload 5, 2) := by decide +kernel
theorem dL_wood_2 : decode cL_wood 2 = .ok (.iconst 0, 1) := by decide +kernel
theorem dL_wood_3 : decode cL_wood 3 = .ok (.aload_n 0, 1) := by decide +kernel
theorem dL_wood_4 : decode cL_wood 4 = .ok (.iload_n 1, 1) := by decide +kernel
theorem dL_wood_5 : decode cL_wood 5 = .ok (.iload_n 2, 1) := by decide +kernel
theorem dL_wood_6 : decode cL_wood 6 = .ok (.dload_n 3, 1) := by decide +kernel
theorem dL_wood_7 : decode cL_wood 7 = .ok (.invokevirtual 7, 3) := by decide +kernel
theorem dL_wood_10 : decode cL_wood 10 = .ok (.ifCond .eq 7, 3) := by decide +kernel
theorem dL_wood_13 : decode cL_wood 13 = .ok (.lconst 1, 1) := by decide +kernel
theorem dL_wood_14 : decode cL_wood 14 = .ok (.goto 4, 3) := by decide +kernel
theorem dL_wood_17 : decode cL_wood 17 = .ok (.lconst 0, 1) := by decide +kernel
theorem dL_wood_18 : decode cL_wood 18 = .ok (.lastore, 1) := by decide +kernel
theorem dL_wood_19 : decode cL_wood 19 = .ok (.goto 11, 3) := by decide +kernel
theorem dL_wood_22 : decode cL_wood 22 = .ok (.astore 6, 2) := by decide +kernel
theorem dL_wood_24 : decode cL_wood 24 = .ok (.iconst 1, 1) := by decide +kernel
theorem dL_wood_25 : decode cL_wood 25 = .ok (.ireturn, 1) := by decide +kernel
theorem dL_wood_26 : decode cL_wood 26 = .ok (.astore 6, 2) := by decide +kernel
theorem dL_wood_28 : decode cL_wood 28 = .ok (.iconst 2, 1) := by decide +kernel
theorem dL_wood_29 : decode cL_wood 29 = .ok (.ireturn, 1) := by decide +kernel
theorem dL_wood_30 : decode cL_wood 30 = .ok (.iconst 0, 1) := by decide +kernel
theorem dL_wood_31 : decode cL_wood 31 = .ok (.ireturn, 1) := by decide +kernel
set_option maxRecDepth 20000 in
theorem ggL_rates_X4_rates : GoodIn wsL_rates wsX4_rates := goodIn_ca (goodIn_r _ [6, 7, 8, 9, 10, 11, 12, 5, 13, 14, 15, 16, 17, 18, 19, 20, 21, 22, 23, 24, 25, 26, 27, 28, 29, 30, 31, 32, 33, 34, 35, 36, 37, 38, 39, 40, 41, 42, 43, 44, 45, 46, 47, 48] (by decide +kernel) (by decide +kernel)) (goodIn_sub (fun _ h => List.mem_cons_of_mem _ (List.mem_append_right _ h)) (by decide +kernel))
set_option maxRecDepth 20000 in
theorem gL_rates_X4_rates : GoodIn wsL_rates (wsV RL 17 RX4 yX4_rates wsX4_rates) := goodIn_app (goodIn_of _ (by decide +kernel)) ggL_rates_X4_rates
theorem dL_rates_0 : decode cL_rates 0 = .ok (.aload_n 0, 1) := by decide +kernel
theorem dL_rates_1 : decode cL_rates 1 = .ok (.dload_n 1, 1) := by decide +kernel
theorem dL_rates_2 : decode cL_rates 2 = .ok (.dload_n 3, 1) := by decide +kernel
theorem dL_rates_3 : decode cL_rates 3 = .ok (.dload 5, 2) := by decide +kernel
theorem dL_rates_5 : decode cL_rates 5 = .ok (.invokevirtual 17, 3) := by decide +kernel
theorem dL_rates_8 : decode cL_rates 8 = .ok (.goto 7, 3) := by decide +kernel
theorem dL_rates_11 : decode cL_rates 11 = .ok (.astore 7, 2) := by decide +kernel
theorem dL_rates_13 : decode cL_rates 13 = .ok (.iconst 1, 1) := by decide +kernel
theorem dL_rates_14 : decode cL_rates 14 = .ok (.ireturn, 1) := by decide +kernel
theorem dL_rates_15 : decode cL_rates 15 = .ok (.iconst 0, 1) := by decide +kernel
theorem dL_rates_16 : decode cL_rates 16 = .ok (.ireturn, 1) := by decide +kernel
set_option maxRecDepth 20000 in
theorem ggL_brace_X4_brace : GoodIn wsL_brace wsX4_brace := goodIn_ca (goodIn_ca (goodIn_ca (goodIn_r _ [8, 9, 10, 11, 12, 13, 14, 15, 16, 17, 18, 19, 20, 21, 22, 23, 24, 25, 26, 7, 27, 28, 29, 30, 31, 32, 33, 34, 35, 36, 37, 38, 39, 40, 41, 42, 43, 44, 45, 46, 47, 48, 49, 50, 51, 52, 53, 54, 55, 56, 57, 58, 59, 60, 61, 62, 63, 64, 65, 66, 67, 68, 69, 70, 71, 72, 73, 74, 75, 76, 77, 78, 79, 80, 81, 82, 83, 84, 85, 86, 87, 88, 89, 90, 91, 92, 93, 94, 95, 96, 97] (by decide +kernel) (by decide +kernel)) (goodIn_sub (fun _ h => List.mem_cons_of_mem _ (List.mem_append_left _ (List.mem_append_left _ (List.mem_append_right _ h)))) (by decide +kernel))) (goodIn_sub (fun _ h => List.mem_cons_of_mem _ (List.mem_append_left _ (List.mem_append_right _ h))) (by decide +kernel))) (goodIn_sub (fun _ h => List.mem_cons_of_mem _ (List.mem_append_right _ h)) (by decide +kernel))
set_option maxRecDepth 20000 in
theorem gL_brace_X4_brace : GoodIn wsL_brace (wsV RL 21 RX4 yX4_brace wsX4_brace) := goodIn_app (goodIn_of _ (by decide +kernel)) ggL_brace_X4_brace
theorem dL_brace_0 : decode cL_brace 0 = .ok (.aload 7, 2) := by decide +kernel
theorem dL_brace_2 : decode cL_brace 2 = .ok (.iconst 0, 1) := by decide +kernel
theorem dL_brace_3 : decode cL_brace 3 = .ok (.aload_n 0, 1) := by decide +kernel
theorem dL_brace_4 : decode cL_brace 4 = .ok (.iload_n 1, 1) := by decide +kernel
theorem dL_brace_5 : decode cL_brace 5 = .ok (.iload_n 2, 1) := by decide +kernel
theorem dL_brace_6 : decode cL_brace 6 = .ok (.iload_n 3, 1) := by decide +kernel
theorem dL_brace_7 : decode cL_brace 7 = .ok (.iload 4, 2) := by decide +kernel
theorem dL_brace_9 : decode cL_brace 9 = .ok (.dload 5, 2) := by decide +kernel
theorem dL_brace_11 : decode cL_brace 11 = .ok (.invokevirtual 21, 3) := by decide +kernel
theorem dL_brace_14 : decode cL_brace 14 = .ok (.i2l, 1) := by decide +kernel
theorem dL_brace_15 : decode cL_brace 15 = .ok (.lastore, 1) := by decide +kernel
theorem dL_brace_16 : decode cL_brace 16 = .ok (.goto 15, 3) := by decide +kernel
theorem dL_brace_19 : decode cL_brace 19 = .ok (.astore 8, 2) := by decide +kernel
theorem dL_brace_21 : decode cL_brace 21 = .ok (.iconst 1, 1) := by decide +kernel
theorem dL_brace_22 : decode cL_brace 22 = .ok (.ireturn, 1) := by decide +kernel
theorem dL_brace_23 : decode cL_brace 23 = .ok (.astore 8, 2) := by decide +kernel
theorem dL_brace_25 : decode cL_brace 25 = .ok (.iconst 2, 1) := by decide +kernel
theorem dL_brace_26 : decode cL_brace 26 = .ok (.ireturn, 1) := by decide +kernel
theorem dL_brace_27 : decode cL_brace 27 = .ok (.astore 8, 2) := by decide +kernel
theorem dL_brace_29 : decode cL_brace 29 = .ok (.iconst 3, 1) := by decide +kernel
theorem dL_brace_30 : decode cL_brace 30 = .ok (.ireturn, 1) := by decide +kernel
theorem dL_brace_31 : decode cL_brace 31 = .ok (.iconst 0, 1) := by decide +kernel
theorem dL_brace_32 : decode cL_brace 32 = .ok (.ireturn, 1) := by decide +kernel
set_option maxRecDepth 20000 in
theorem ggL_modes_X4_modes : GoodIn wsL_modes wsX4_modes := goodIn_ca (goodIn_r _ [6, 7, 8, 9, 10, 11, 12, 13, 14, 15, 16, 17, 18, 19, 20, 21, 22, 23, 24, 25, 26, 27, 28, 29, 30, 31, 32, 33, 34, 35, 36, 37, 38, 39, 40, 41, 42, 43, 44, 45, 46, 47, 48, 49, 50, 51, 52, 53, 54, 55, 56, 57, 58, 59, 60, 61, 62, 63, 64, 65, 66, 67, 68, 69, 70, 71, 72, 73, 74, 75, 76, 77, 78, 79, 80, 81, 82, 83, 84, 85, 86, 87, 88, 89, 90, 91, 92, 5, 93, 94, 95, 96, 97, 98, 99, 100, 101, 102, 103, 104, 105, 106, 107, 108, 109, 110, 111, 112, 113, 114, 115, 116, 117, 118, 119, 120, 121, 122, 123, 124, 125, 126, 127, 128, 129, 130, 131, 132, 133, 134, 135, 136, 137, 138, 139, 140, 141, 142, 143, 144, 145, 146, 147, 148, 149, 150, 151, 152, 153, 154, 155, 156, 157] (by decide +kernel) (by decide +kernel)) (goodIn_sub (fun _ h => List.mem_cons_of_mem _ (List.mem_append_right _ h)) (by decide +kernel))
set_option maxRecDepth 20000 in
theorem gL_modes_X4_modes : GoodIn wsL_modes (wsV RL 27 RX4 yX4_modes wsX4_modes) := goodIn_app (goodIn_of _ (by decide +kernel)) ggL_modes_X4_modes
theorem dL_modes_0 : decode cL_modes 0 = .ok (.aload_n 2, 1) := by decide +kernel
theorem dL_modes_1 : decode cL_modes 1 = .ok (.iconst 0, 1) := by decide +kernel
theorem dL_modes_2 : decode cL_modes 2 = .ok (.aload_n 0, 1) := by decide +kernel
theorem dL_modes_3 : decode cL_modes 3 = .ok (.iload_n 1, 1) := by decide +kernel
theorem dL_modes_4 : decode cL_modes 4 = .ok (.invokevirtual 27, 3) := by decide +kernel
theorem dL_modes_7 : decode cL_modes 7 = .ok (.i2l, 1) := by decide +kernel
theorem dL_modes_8 : decode cL_modes 8 = .ok (.lastore, 1) := by decide +kernel
theorem dL_modes_9 : decode cL_modes 9 = .ok (.goto 6, 3) := by decide +kernel
theorem dL_modes_12 : decode cL_modes 12 = .ok (.astore_n 3, 1) := by decide +kernel
theorem dL_modes_13 : decode cL_modes 13 = .ok (.iconst 1, 1) := by decide +kernel
theorem dL_modes_14 : decode cL_modes 14 = .ok (.ireturn, 1) := by decide +kernel
theorem dL_modes_15 : decode cL_modes 15 = .ok (.iconst 0, 1) := by decide +kernel
theorem dL_modes_16 : decode cL_modes 16 = .ok (.ireturn, 1) := by decide +kernel
set_option maxRecDepth 20000 in
theorem ggL_mode_X4_mode : GoodIn wsL_mode wsX4_mode := goodIn_ca (goodIn_ca (goodIn_r _ [7, 8, 9, 10, 11, 12, 6, 13, 14, 15, 16, 17, 18, 19, 20, 21, 22, 23, 24, 25, 26, 27, 28, 29, 30, 31, 32, 33, 34, 35, 36, 37, 38, 39, 40, 41, 42, 43, 44, 45, 46, 47, 48, 49, 50] (by decide +kernel) (by decide +kernel)) (goodIn_sub (fun _ h => List.mem_cons_of_mem _ (List.mem_append_left _ (List.mem_append_right _ h))) (by decide +kernel))) (goodIn_sub (fun _ h => List.mem_cons_of_mem _ (List.mem_append_right _ h)) (by decide +kernel))
set_option maxRecDepth 20000 in
theorem gL_mode_X4_mode : GoodIn wsL_mode (wsV RL 31 RX4 yX4_mode wsX4_mode) := goodIn_app (goodIn_of _ (by decide +kernel)) ggL_mode_X4_mode
theorem dL_mode_0 : decode cL_mode 0 = .ok (.aload_n 3, 1) := by decide +kernel
theorem dL_mode_1 : decode cL_mode 1 = .ok (.iconst 0, 1) := by decide +kernel
theorem dL_mode_2 : decode cL_mode 2 = .ok (.aload_n 0, 1) := by decide +kernel
theorem dL_mode_3 : decode cL_mode 3 = .ok (.iload_n 1, 1) := by decide +kernel
theorem dL_mode_4 : decode cL_mode 4 = .ok (.iload_n 2, 1) := by decide +kernel
theorem dL_mode_5 : decode cL_mode 5 = .ok (.invokevirtual 31, 3) := by decide +kernel
theorem dL_mode_8 : decode cL_mode 8 = .ok (.dastore, 1) := by decide +kernel
theorem dL_mode_9 : decode cL_mode 9 = .ok (.goto 11, 3) := by decide +kernel
theorem dL_mode_12 : decode cL_mode 12 = .ok (.astore 4, 2) := by decide +kernel
theorem dL_mode_14 : decode cL_mode 14 = .ok (.iconst 1, 1) := by decide +kernel
theorem dL_mode_15 : decode cL_mode 15 = .ok (.ireturn, 1) := by decide +kernel
theorem dL_mode_16 : decode cL_mode 16 = .ok (.astore 4, 2) := by decide +kernel
theorem dL_mode_18 : decode cL_mode 18 = .ok (.iconst 2, 1) := by decide +kernel
theorem dL_mode_19 : decode cL_mode 19 = .ok (.ireturn, 1) := by decide +kernel
theorem dL_mode_20 : decode cL_mode 20 = .ok (.iconst 0, 1) := by decide +kernel
theorem dL_mode_21 : decode cL_mode 21 = .ok (.ireturn, 1) := by decide +kernel
set_option maxRecDepth 20000 in
theorem ggL_shape_X4_shape : GoodIn wsL_shape wsX4_shape := goodIn_ca (goodIn_ca (goodIn_r _ [7, 8, 9, 10, 11, 6, 12, 13, 14, 15, 16, 17, 18, 19, 20, 21, 22, 23, 24, 25, 26, 27, 28, 29, 30, 31, 32, 33, 34, 35, 36, 37, 38, 39, 40, 41, 42, 43, 44, 45, 46, 47, 48, 49, 50, 51, 52, 53, 54, 55, 56, 57, 58, 59, 60, 61, 62, 63, 64, 65] (by decide +kernel) (by decide +kernel)) (goodIn_sub (fun _ h => List.mem_cons_of_mem _ (List.mem_append_left _ (List.mem_append_right _ h))) (by decide +kernel))) (goodIn_sub (fun _ h => List.mem_cons_of_mem _ (List.mem_append_right _ h)) (by decide +kernel))
set_option maxRecDepth 20000 in
theorem gL_shape_X4_shape : GoodIn wsL_shape (wsV RL 35 RX4 yX4_shape wsX4_shape) := goodIn_app (goodIn_of _ (by decide +kernel)) ggL_shape_X4_shape
theorem dL_shape_0 : decode cL_shape 0 = .ok (.aload 4, 2) := by decide +kernel
theorem dL_shape_2 : decode cL_shape 2 = .ok (.iconst 0, 1) := by decide +kernel
theorem dL_shape_3 : decode cL_shape 3 = .ok (.aload_n 0, 1) := by decide +kernel
theorem dL_shape_4 : decode cL_shape 4 = .ok (.iload_n 1, 1) := by decide +kernel
theorem dL_shape_5 : decode cL_shape 5 = .ok (.iload_n 2, 1) := by decide +kernel
theorem dL_shape_6 : decode cL_shape 6 = .ok (.iload_n 3, 1) := by decide +kernel
theorem dL_shape_7 : decode cL_shape 7 = .ok (.invokevirtual 35, 3) := by decide +kernel
theorem dL_shape_10 : decode cL_shape 10 = .ok (.dastore, 1) := by decide +kernel
theorem dL_shape_11 : decode cL_shape 11 = .ok (.goto 11, 3) := by decide +kernel
theorem dL_shape_14 : decode cL_shape 14 = .ok (.astore 5, 2) := by decide +kernel
theorem dL_shape_16 : decode cL_shape 16 = .ok (.iconst 1, 1) := by decide +kernel
theorem dL_shape_17 : decode cL_shape 17 = .ok (.ireturn, 1) := by decide +kernel
theorem dL_shape_18 : decode cL_shape 18 = .ok (.astore 5, 2) := by decide +kernel
theorem dL_shape_20 : decode cL_shape 20 = .ok (.iconst 2, 1) := by decide +kernel
theorem dL_shape_21 : decode cL_shape 21 = .ok (.ireturn, 1) := by decide +kernel
theorem dL_shape_22 : decode cL_shape 22 = .ok (.iconst 0, 1) := by decide +kernel
theorem dL_shape_23 : decode cL_shape 23 = .ok (.ireturn, 1) := by decide +kernel
set_option maxRecDepth 20000 in
theorem ggL_product_X4_product : GoodIn wsL_product wsX4_product := goodIn_ca (goodIn_ca (goodIn_r _ [7, 8, 9, 10, 6, 11, 12, 13, 14, 15, 16, 17, 18, 19, 20, 21, 22, 23, 24, 25, 26, 27, 28, 29, 30, 31, 32, 33, 34, 35, 36, 37, 38, 39, 40, 41, 42, 43, 44, 45, 46, 47, 48, 49, 50, 51, 52, 53, 54, 55, 56, 57, 58, 59, 60, 61, 62, 63, 64, 65] (by decide +kernel) (by decide +kernel)) (goodIn_sub (fun _ h => List.mem_cons_of_mem _ (List.mem_append_left _ (List.mem_append_right _ h))) (by decide +kernel))) (goodIn_sub (fun _ h => List.mem_cons_of_mem _ (List.mem_append_right _ h)) (by decide +kernel))
set_option maxRecDepth 20000 in
theorem gL_product_X4_product : GoodIn wsL_product (wsV RL 39 RX4 yX4_product wsX4_product) := goodIn_app (goodIn_of _ (by decide +kernel)) ggL_product_X4_product
theorem dL_product_0 : decode cL_product 0 = .ok (.aload_n 3, 1) := by decide +kernel
theorem dL_product_1 : decode cL_product 1 = .ok (.iconst 0, 1) := by decide +kernel
theorem dL_product_2 : decode cL_product 2 = .ok (.aload_n 0, 1) := by decide +kernel
theorem dL_product_3 : decode cL_product 3 = .ok (.iload_n 1, 1) := by decide +kernel
theorem dL_product_4 : decode cL_product 4 = .ok (.iload_n 2, 1) := by decide +kernel
theorem dL_product_5 : decode cL_product 5 = .ok (.invokevirtual 39, 3) := by decide +kernel
theorem dL_product_8 : decode cL_product 8 = .ok (.dastore, 1) := by decide +kernel
theorem dL_product_9 : decode cL_product 9 = .ok (.goto 11, 3) := by decide +kernel
theorem dL_product_12 : decode cL_product 12 = .ok (.astore 4, 2) := by decide +kernel
theorem dL_product_14 : decode cL_product 14 = .ok (.iconst 1, 1) := by decide +kernel
theorem dL_product_15 : decode cL_product 15 = .ok (.ireturn, 1) := by decide +kernel
theorem dL_product_16 : decode cL_product 16 = .ok (.astore 4, 2) := by decide +kernel
theorem dL_product_18 : decode cL_product 18 = .ok (.iconst 2, 1) := by decide +kernel
theorem dL_product_19 : decode cL_product 19 = .ok (.ireturn, 1) := by decide +kernel
theorem dL_product_20 : decode cL_product 20 = .ok (.iconst 0, 1) := by decide +kernel
theorem dL_product_21 : decode cL_product 21 = .ok (.ireturn, 1) := by decide +kernel
set_option maxRecDepth 20000 in
theorem ggL_coupled_X4_coupled : GoodIn wsL_coupled wsX4_coupled := goodIn_ca (goodIn_ca (goodIn_ca (goodIn_r _ [8, 9, 10, 11, 12, 13, 14, 7, 15, 16, 17, 18, 19, 20, 21, 22, 23, 24, 25, 26, 27, 28, 29, 30, 31, 32, 33, 34, 35, 36, 37, 38, 39, 40, 41, 42, 43, 44, 45, 46, 47, 48, 49, 50, 51, 52, 53, 54, 55, 56, 57] (by decide +kernel) (by decide +kernel)) (goodIn_sub (fun _ h => List.mem_cons_of_mem _ (List.mem_append_left _ (List.mem_append_left _ (List.mem_append_right _ h)))) (by decide +kernel))) (goodIn_sub (fun _ h => List.mem_cons_of_mem _ (List.mem_append_left _ (List.mem_append_right _ h))) (by decide +kernel))) (goodIn_sub (fun _ h => List.mem_cons_of_mem _ (List.mem_append_right _ h)) (by decide +kernel))
set_option maxRecDepth 20000 in
theorem gL_coupled_X4_coupled : GoodIn wsL_coupled (wsV RL 42 RX4 yX4_coupled wsX4_coupled) := goodIn_app (goodIn_of _ (by decide +kernel)) ggL_coupled_X4_coupled
theorem dL_coupled_0 : decode cL_coupled 0 = .ok (.aload 7, 2) := by decide +kernel
theorem dL_coupled_2 : decode cL_coupled 2 = .ok (.iconst 0, 1) := by decide +kernel
theorem dL_coupled_3 : decode cL_coupled 3 = .ok (.aload_n 0, 1) := by decide +kernel
theorem dL_coupled_4 : decode cL_coupled 4 = .ok (.iload_n 1, 1) := by decide +kernel
theorem dL_coupled_5 : decode cL_coupled 5 = .ok (.dload_n 2, 1) := by decide +kernel
theorem dL_coupled_6 : decode cL_coupled 6 = .ok (.dload 4, 2) := by decide +kernel
theorem dL_coupled_8 : decode cL_coupled 8 = .ok (.iload 6, 2) := by decide +kernel
theorem dL_coupled_10 : decode cL_coupled 10 = .ok (.invokevirtual 42, 3) := by decide +kernel
theorem dL_coupled_13 : decode cL_coupled 13 = .ok (.dastore, 1) := by decide +kernel
theorem dL_coupled_14 : decode cL_coupled 14 = .ok (.goto 15, 3) := by decide +kernel
theorem dL_coupled_17 : decode cL_coupled 17 = .ok (.astore 8, 2) := by decide +kernel
theorem dL_coupled_19 : decode cL_coupled 19 = .ok (.iconst 1, 1) := by decide +kernel
theorem dL_coupled_20 : decode cL_coupled 20 = .ok (.ireturn, 1) := by decide +kernel
theorem dL_coupled_21 : decode cL_coupled 21 = .ok (.astore 8, 2) := by decide +kernel
theorem dL_coupled_23 : decode cL_coupled 23 = .ok (.iconst 2, 1) := by decide +kernel
theorem dL_coupled_24 : decode cL_coupled 24 = .ok (.ireturn, 1) := by decide +kernel
theorem dL_coupled_25 : decode cL_coupled 25 = .ok (.astore 8, 2) := by decide +kernel
theorem dL_coupled_27 : decode cL_coupled 27 = .ok (.iconst 3, 1) := by decide +kernel
theorem dL_coupled_28 : decode cL_coupled 28 = .ok (.ireturn, 1) := by decide +kernel
theorem dL_coupled_29 : decode cL_coupled 29 = .ok (.iconst 0, 1) := by decide +kernel
theorem dL_coupled_30 : decode cL_coupled 30 = .ok (.ireturn, 1) := by decide +kernel
set_option maxRecDepth 20000 in
theorem ggL_want_X4_want : GoodIn wsL_want wsX4_want := goodIn_ca (goodIn_ca (goodIn_ca (goodIn_r _ [8, 9, 10, 11, 12, 13, 14, 7, 15, 16, 17, 18, 19, 20, 21, 22, 23, 24, 25, 26, 27, 28, 29, 30, 31, 32, 33, 34, 35, 36, 37, 38, 39, 40, 41, 42] (by decide +kernel) (by decide +kernel)) (goodIn_sub (fun _ h => List.mem_cons_of_mem _ (List.mem_append_left _ (List.mem_append_left _ (List.mem_append_right _ h)))) (by decide +kernel))) (goodIn_sub (fun _ h => List.mem_cons_of_mem _ (List.mem_append_left _ (List.mem_append_right _ h))) (by decide +kernel))) (goodIn_sub (fun _ h => List.mem_cons_of_mem _ (List.mem_append_right _ h)) (by decide +kernel))
set_option maxRecDepth 20000 in
theorem gL_want_X4_want : GoodIn wsL_want (wsV RL 46 RX4 yX4_want wsX4_want) := goodIn_app (goodIn_of _ (by decide +kernel)) ggL_want_X4_want
theorem dL_want_0 : decode cL_want 0 = .ok (.aload 4, 2) := by decide +kernel
theorem dL_want_2 : decode cL_want 2 = .ok (.iconst 0, 1) := by decide +kernel
theorem dL_want_3 : decode cL_want 3 = .ok (.aload_n 0, 1) := by decide +kernel
theorem dL_want_4 : decode cL_want 4 = .ok (.iload_n 1, 1) := by decide +kernel
theorem dL_want_5 : decode cL_want 5 = .ok (.dload_n 2, 1) := by decide +kernel
theorem dL_want_6 : decode cL_want 6 = .ok (.invokevirtual 46, 3) := by decide +kernel
theorem dL_want_9 : decode cL_want 9 = .ok (.i2l, 1) := by decide +kernel
theorem dL_want_10 : decode cL_want 10 = .ok (.lastore, 1) := by decide +kernel
theorem dL_want_11 : decode cL_want 11 = .ok (.goto 15, 3) := by decide +kernel
theorem dL_want_14 : decode cL_want 14 = .ok (.astore 5, 2) := by decide +kernel
theorem dL_want_16 : decode cL_want 16 = .ok (.iconst 1, 1) := by decide +kernel
theorem dL_want_17 : decode cL_want 17 = .ok (.ireturn, 1) := by decide +kernel
theorem dL_want_18 : decode cL_want 18 = .ok (.astore 5, 2) := by decide +kernel
theorem dL_want_20 : decode cL_want 20 = .ok (.iconst 2, 1) := by decide +kernel
theorem dL_want_21 : decode cL_want 21 = .ok (.ireturn, 1) := by decide +kernel
theorem dL_want_22 : decode cL_want 22 = .ok (.astore 5, 2) := by decide +kernel
theorem dL_want_24 : decode cL_want 24 = .ok (.iconst 3, 1) := by decide +kernel
theorem dL_want_25 : decode cL_want 25 = .ok (.ireturn, 1) := by decide +kernel
theorem dL_want_26 : decode cL_want 26 = .ok (.iconst 0, 1) := by decide +kernel
theorem dL_want_27 : decode cL_want 27 = .ok (.ireturn, 1) := by decide +kernel
set_option maxRecDepth 20000 in
theorem ggL_thin_X4_thin : GoodIn wsL_thin wsX4_thin := goodIn_ca (goodIn_ca (goodIn_r _ [7, 8, 9, 10, 11, 12, 13, 14, 15, 16, 17, 6, 18, 19, 20, 21, 22, 23, 24, 25, 26, 27, 28, 29, 30, 31, 32, 33, 34, 35, 36, 37, 38, 39, 40, 41, 42, 43, 44, 45, 46, 47, 48, 49, 50, 51, 52, 53, 54, 55, 56, 57, 58, 59, 60, 61, 62, 63, 64, 65, 66, 67, 68, 69, 70, 71, 72, 73, 74, 75, 76, 77, 78, 79, 80, 81, 82, 83, 84, 85, 86, 87, 88, 89, 90, 91, 92, 93, 94, 95, 96, 97, 98, 99, 100, 101, 102, 103, 104, 105, 106, 107, 108, 109, 110, 111, 112, 113, 114, 115, 116, 117, 118, 119, 120, 121, 122, 123, 124, 125, 126, 127, 128, 129, 130, 131, 132, 133, 134, 135, 136, 137, 138, 139, 140, 141, 142, 143, 144, 145, 146, 147, 148, 149, 150, 151, 152, 153, 154, 155, 156, 157, 158, 159, 160, 161, 162, 163, 164, 165, 166, 167, 168, 169, 170, 171, 172, 173, 174, 175, 176, 177, 178, 179, 180, 181, 182, 183, 184, 185, 186, 187, 188, 189, 190, 191, 192, 193, 194, 195, 196, 197, 198, 199, 200, 201, 202, 203, 204, 205, 206, 207, 208] (by decide +kernel) (by decide +kernel)) (goodIn_sub (fun _ h => List.mem_cons_of_mem _ (List.mem_append_left _ (List.mem_append_right _ h))) (by decide +kernel))) (goodIn_sub (fun _ h => List.mem_cons_of_mem _ (List.mem_append_right _ h)) (by decide +kernel))
set_option maxRecDepth 20000 in
theorem gL_thin_X4_thin : GoodIn wsL_thin (wsV RL 50 RX4 yX4_thin wsX4_thin) := goodIn_app (goodIn_of _ (by decide +kernel)) ggL_thin_X4_thin
theorem dL_thin_0 : decode cL_thin 0 = .ok (.aload 5, 2) := by decide +kernel
theorem dL_thin_2 : decode cL_thin 2 = .ok (.iconst 0, 1) := by decide +kernel
theorem dL_thin_3 : decode cL_thin 3 = .ok (.aload_n 0, 1) := by decide +kernel
theorem dL_thin_4 : decode cL_thin 4 = .ok (.dload_n 1, 1) := by decide +kernel
theorem dL_thin_5 : decode cL_thin 5 = .ok (.dload_n 3, 1) := by decide +kernel
theorem dL_thin_6 : decode cL_thin 6 = .ok (.invokevirtual 50, 3) := by decide +kernel
theorem dL_thin_9 : decode cL_thin 9 = .ok (.i2l, 1) := by decide +kernel
theorem dL_thin_10 : decode cL_thin 10 = .ok (.lastore, 1) := by decide +kernel
theorem dL_thin_11 : decode cL_thin 11 = .ok (.goto 11, 3) := by decide +kernel
theorem dL_thin_14 : decode cL_thin 14 = .ok (.astore 6, 2) := by decide +kernel
theorem dL_thin_16 : decode cL_thin 16 = .ok (.iconst 1, 1) := by decide +kernel
theorem dL_thin_17 : decode cL_thin 17 = .ok (.ireturn, 1) := by decide +kernel
theorem dL_thin_18 : decode cL_thin 18 = .ok (.astore 6, 2) := by decide +kernel
theorem dL_thin_20 : decode cL_thin 20 = .ok (.iconst 2, 1) := by decide +kernel
theorem dL_thin_21 : decode cL_thin 21 = .ok (.ireturn, 1) := by decide +kernel
theorem dL_thin_22 : decode cL_thin 22 = .ok (.iconst 0, 1) := by decide +kernel
theorem dL_thin_23 : decode cL_thin 23 = .ok (.ireturn, 1) := by decide +kernel
set_option maxRecDepth 20000 in
theorem ggL_sum_X4_sum : GoodIn wsL_sum wsX4_sum := goodIn_ca (goodIn_r _ [6, 7, 8, 9, 10, 11, 12, 13, 14, 15, 16, 17, 18, 19, 20, 21, 22, 23, 24, 25, 26, 27, 28, 29, 30, 31, 32, 33, 34, 35, 36, 37, 38, 39, 40, 41, 42, 43, 44, 45, 46, 47, 48, 49, 50] (by decide +kernel) (by decide +kernel)) (goodIn_sub (fun _ h => List.mem_cons_of_mem _ (List.mem_append_right _ h)) (by decide +kernel))
set_option maxRecDepth 20000 in
theorem gL_sum_X4_sum : GoodIn wsL_sum (wsV RL 54 RX4 yX4_sum wsX4_sum) := goodIn_app (goodIn_of _ (by decide +kernel)) ggL_sum_X4_sum
theorem dL_sum_0 : decode cL_sum 0 = .ok (.aload_n 1, 1) := by decide +kernel
theorem dL_sum_1 : decode cL_sum 1 = .ok (.iconst 0, 1) := by decide +kernel
theorem dL_sum_2 : decode cL_sum 2 = .ok (.aload_n 0, 1) := by decide +kernel
theorem dL_sum_3 : decode cL_sum 3 = .ok (.invokevirtual 54, 3) := by decide +kernel
theorem dL_sum_6 : decode cL_sum 6 = .ok (.dastore, 1) := by decide +kernel
theorem dL_sum_7 : decode cL_sum 7 = .ok (.goto 6, 3) := by decide +kernel
theorem dL_sum_10 : decode cL_sum 10 = .ok (.astore_n 2, 1) := by decide +kernel
theorem dL_sum_11 : decode cL_sum 11 = .ok (.iconst 1, 1) := by decide +kernel
theorem dL_sum_12 : decode cL_sum 12 = .ok (.ireturn, 1) := by decide +kernel
theorem dL_sum_13 : decode cL_sum 13 = .ok (.iconst 0, 1) := by decide +kernel
theorem dL_sum_14 : decode cL_sum 14 = .ok (.ireturn, 1) := by decide +kernel
set_option maxRecDepth 20000 in
theorem ggL_tap_X4_tap : GoodIn wsL_tap wsX4_tap := goodIn_ca (goodIn_ca (goodIn_ca (goodIn_r _ [8, 9, 10, 11, 12, 13, 7, 14, 15, 16, 17, 18, 19, 20, 21, 22, 23, 24, 25, 26, 27, 28, 29, 30, 31, 32, 33, 34, 35, 36, 37, 38, 39, 40, 41, 42, 43, 44, 45, 46, 47, 48, 49, 50, 51, 52, 53, 54, 55, 56, 57, 58, 59, 60, 61, 62, 63, 64, 65, 66, 67, 68, 69, 70, 71, 72, 73, 74, 75, 76, 77] (by decide +kernel) (by decide +kernel)) (goodIn_sub (fun _ h => List.mem_cons_of_mem _ (List.mem_append_left _ (List.mem_append_left _ (List.mem_append_right _ h)))) (by decide +kernel))) (goodIn_sub (fun _ h => List.mem_cons_of_mem _ (List.mem_append_left _ (List.mem_append_right _ h))) (by decide +kernel))) (goodIn_sub (fun _ h => List.mem_cons_of_mem _ (List.mem_append_right _ h)) (by decide +kernel))
set_option maxRecDepth 20000 in
theorem gL_tap_X4_tap : GoodIn wsL_tap (wsV RL 58 RX4 yX4_tap wsX4_tap) := goodIn_app (goodIn_of _ (by decide +kernel)) ggL_tap_X4_tap
theorem dL_tap_0 : decode cL_tap 0 = .ok (.aload 6, 2) := by decide +kernel
theorem dL_tap_2 : decode cL_tap 2 = .ok (.iconst 0, 1) := by decide +kernel
theorem dL_tap_3 : decode cL_tap 3 = .ok (.aload_n 0, 1) := by decide +kernel
theorem dL_tap_4 : decode cL_tap 4 = .ok (.iload_n 1, 1) := by decide +kernel
theorem dL_tap_5 : decode cL_tap 5 = .ok (.iload_n 2, 1) := by decide +kernel
theorem dL_tap_6 : decode cL_tap 6 = .ok (.iload_n 3, 1) := by decide +kernel
theorem dL_tap_7 : decode cL_tap 7 = .ok (.dload 4, 2) := by decide +kernel
theorem dL_tap_9 : decode cL_tap 9 = .ok (.invokevirtual 58, 3) := by decide +kernel
theorem dL_tap_12 : decode cL_tap 12 = .ok (.dastore, 1) := by decide +kernel
theorem dL_tap_13 : decode cL_tap 13 = .ok (.goto 15, 3) := by decide +kernel
theorem dL_tap_16 : decode cL_tap 16 = .ok (.astore 7, 2) := by decide +kernel
theorem dL_tap_18 : decode cL_tap 18 = .ok (.iconst 1, 1) := by decide +kernel
theorem dL_tap_19 : decode cL_tap 19 = .ok (.ireturn, 1) := by decide +kernel
theorem dL_tap_20 : decode cL_tap 20 = .ok (.astore 7, 2) := by decide +kernel
theorem dL_tap_22 : decode cL_tap 22 = .ok (.iconst 2, 1) := by decide +kernel
theorem dL_tap_23 : decode cL_tap 23 = .ok (.ireturn, 1) := by decide +kernel
theorem dL_tap_24 : decode cL_tap 24 = .ok (.astore 7, 2) := by decide +kernel
theorem dL_tap_26 : decode cL_tap 26 = .ok (.iconst 3, 1) := by decide +kernel
theorem dL_tap_27 : decode cL_tap 27 = .ok (.ireturn, 1) := by decide +kernel
theorem dL_tap_28 : decode cL_tap 28 = .ok (.iconst 0, 1) := by decide +kernel
theorem dL_tap_29 : decode cL_tap 29 = .ok (.ireturn, 1) := by decide +kernel
