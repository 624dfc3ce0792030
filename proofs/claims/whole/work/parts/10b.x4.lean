set_option maxRecDepth 20000 in
theorem ggX4_init_X4_nearestSide : GoodIn wsX4_init wsX4_nearestSide := goodIn_r _ [20, 21, 22, 23, 24, 25, 26, 27] (by decide +kernel) (by decide +kernel)
set_option maxRecDepth 20000 in
theorem gX4_init_X4_nearestSide : GoodIn wsX4_init (va_wsS RX4 9 yX4_nearestSide wsX4_nearestSide) := goodIn_app (goodIn_of _ (by decide +kernel)) ggX4_init_X4_nearestSide
set_option maxRecDepth 20000 in
theorem ggX4_init_X2_init : GoodIn wsX4_init wsX2_init := goodIn_r _ [30, 31, 2, 3, 32, 33, 34, 35, 36, 37, 38, 39, 40, 41, 42, 43, 44, 45, 46, 47, 48, 49, 50, 51, 52, 53, 74, 75, 76, 77, 78, 79, 80, 81, 82, 96, 97, 98, 99, 100] (by decide +kernel) (by decide +kernel)
set_option maxRecDepth 20000 in
theorem gX4_init_X2_init : GoodIn wsX4_init (wsX2_init) := ggX4_init_X2_init
set_option maxRecDepth 20000 in
theorem ggX4_init_X1_init : GoodIn wsX4_init wsX1_init := goodIn_r _ [56, 57, 2, 3, 58, 59, 34, 60, 61, 62, 63, 64, 65, 66, 6, 67, 35, 87, 88, 89, 90, 91, 92, 74, 75, 76, 77, 78, 79, 80, 81, 82] (by decide +kernel) (by decide +kernel)
set_option maxRecDepth 20000 in
theorem gX4_init_X1_init : GoodIn wsX4_init (wsX1_init) := ggX4_init_X1_init
set_option maxRecDepth 20000 in
theorem ggX4_init_X3_init : GoodIn wsX4_init wsX3_init := goodIn_r _ [70, 71, 2, 3, 49, 72, 34, 73, 93, 94, 95] (by decide +kernel) (by decide +kernel)
set_option maxRecDepth 20000 in
theorem gX4_init_X3_init : GoodIn wsX4_init (wsX3_init) := ggX4_init_X3_init
theorem dX4_init_0 : decode cX4_init 0 = .ok (.aload_n 0, 1) := by decide +kernel
theorem dX4_init_1 : decode cX4_init 1 = .ok (.invokespecial 1, 3) := by decide +kernel
theorem dX4_init_4 : decode cX4_init 4 = .ok (.aload_n 0, 1) := by decide +kernel
theorem dX4_init_5 : decode cX4_init 5 = .ok (.new 7, 3) := by decide +kernel
theorem dX4_init_8 : decode cX4_init 8 = .ok (.dup, 1) := by decide +kernel
theorem dX4_init_9 : decode cX4_init 9 = .ok (.iload_n 1, 1) := by decide +kernel
theorem dX4_init_10 : decode cX4_init 10 = .ok (.invokestatic 9, 3) := by decide +kernel
theorem dX4_init_13 : decode cX4_init 13 = .ok (.iload_n 2, 1) := by decide +kernel
theorem dX4_init_14 : decode cX4_init 14 = .ok (.invokestatic 9, 3) := by decide +kernel
theorem dX4_init_17 : decode cX4_init 17 = .ok (.invokespecial 15, 3) := by decide +kernel
theorem dX4_init_20 : decode cX4_init 20 = .ok (.putfield 18, 3) := by decide +kernel
theorem dX4_init_23 : decode cX4_init 23 = .ok (.aload_n 0, 1) := by decide +kernel
theorem dX4_init_24 : decode cX4_init 24 = .ok (.new 22, 3) := by decide +kernel
theorem dX4_init_27 : decode cX4_init 27 = .ok (.dup, 1) := by decide +kernel
theorem dX4_init_28 : decode cX4_init 28 = .ok (.aload_n 0, 1) := by decide +kernel
theorem dX4_init_29 : decode cX4_init 29 = .ok (.getfield 18, 3) := by decide +kernel
theorem dX4_init_32 : decode cX4_init 32 = .ok (.invokespecial 24, 3) := by decide +kernel
theorem dX4_init_35 : decode cX4_init 35 = .ok (.putfield 27, 3) := by decide +kernel
theorem dX4_init_38 : decode cX4_init 38 = .ok (.aload_n 0, 1) := by decide +kernel
theorem dX4_init_39 : decode cX4_init 39 = .ok (.new 22, 3) := by decide +kernel
theorem dX4_init_42 : decode cX4_init 42 = .ok (.dup, 1) := by decide +kernel
theorem dX4_init_43 : decode cX4_init 43 = .ok (.aload_n 0, 1) := by decide +kernel
theorem dX4_init_44 : decode cX4_init 44 = .ok (.getfield 18, 3) := by decide +kernel
theorem dX4_init_47 : decode cX4_init 47 = .ok (.invokespecial 24, 3) := by decide +kernel
theorem dX4_init_50 : decode cX4_init 50 = .ok (.putfield 31, 3) := by decide +kernel
theorem dX4_init_53 : decode cX4_init 53 = .ok (.aload_n 0, 1) := by decide +kernel
theorem dX4_init_54 : decode cX4_init 54 = .ok (.new 34, 3) := by decide +kernel
theorem dX4_init_57 : decode cX4_init 57 = .ok (.dup, 1) := by decide +kernel
theorem dX4_init_58 : decode cX4_init 58 = .ok (.invokespecial 36, 3) := by decide +kernel
theorem dX4_init_61 : decode cX4_init 61 = .ok (.putfield 37, 3) := by decide +kernel
theorem dX4_init_64 : decode cX4_init 64 = .ok (.return_, 1) := by decide +kernel
set_option maxRecDepth 20000 in
theorem ggX4_wood_X4_requireCell : GoodIn wsX4_wood wsX4_requireCell := goodIn_ca (goodIn_r _ [9, 10, 11, 3, 12, 13, 14, 15, 16, 17, 18, 43, 44, 45, 46, 47, 48, 49, 50, 51, 52, 53, 54, 55] (by decide +kernel) (by decide +kernel)) (goodIn_sub (fun _ h => List.mem_cons_of_mem _ (List.mem_append_left _ (List.mem_append_right _ h))) (by decide +kernel))
set_option maxRecDepth 20000 in
theorem gX4_wood_X4_requireCell : GoodIn wsX4_wood (wsV RX4 41 RX4 yX4_requireCell wsX4_requireCell) := goodIn_app (goodIn_of _ (by decide +kernel)) ggX4_wood_X4_requireCell
set_option maxRecDepth 20000 in
theorem ggX4_wood_X4_requireRange : GoodIn wsX4_wood wsX4_requireRange := goodIn_ca (goodIn_r _ [21, 22, 23] (by decide +kernel) (by decide +kernel)) (goodIn_sub (fun _ h => List.mem_cons_of_mem _ (List.mem_append_right _ h)) (by decide +kernel))
set_option maxRecDepth 20000 in
theorem gX4_wood_X4_requireRange : GoodIn wsX4_wood (va_wsS RX4 48 yX4_requireRange wsX4_requireRange) := goodIn_app (goodIn_of _ (by decide +kernel)) ggX4_wood_X4_requireRange
set_option maxRecDepth 20000 in
theorem ggX4_wood_X2_cellAt : GoodIn wsX4_wood wsX2_cellAt := goodIn_r _ [27, 17, 47, 48, 49, 50, 51, 52, 53, 54, 55] (by decide +kernel) (by decide +kernel)
set_option maxRecDepth 20000 in
theorem gX4_wood_X2_cellAt : GoodIn wsX4_wood (wsV RX4 52 RX2 yX2_cellAt wsX2_cellAt) := goodIn_app (goodIn_of _ (by decide +kernel)) ggX4_wood_X2_cellAt
set_option maxRecDepth 20000 in
theorem ggX4_wood_X2_thicknessOf : GoodIn wsX4_wood wsX2_thicknessOf := goodIn_r _ [31, 32, 47, 48, 49, 50, 51, 52, 53, 54, 55] (by decide +kernel) (by decide +kernel)
set_option maxRecDepth 20000 in
theorem gX4_wood_X2_thicknessOf : GoodIn wsX4_wood (wsV RX4 56 RX2 yX2_thicknessOf wsX2_thicknessOf) := goodIn_app (goodIn_of _ (by decide +kernel)) ggX4_wood_X2_thicknessOf
set_option maxRecDepth 20000 in
theorem ggX4_wood_X2_setThickness : GoodIn wsX4_wood wsX2_setThickness := goodIn_r _ [36, 32, 47, 48, 49, 50, 51, 52, 53, 54, 55] (by decide +kernel) (by decide +kernel)
set_option maxRecDepth 20000 in
theorem gX4_wood_X2_setThickness : GoodIn wsX4_wood (wsV RX4 60 RX2 yX2_setThickness wsX2_setThickness) := goodIn_app (goodIn_of _ (by decide +kernel)) ggX4_wood_X2_setThickness
set_option maxRecDepth 20000 in
theorem ggX4_wood_X1_forget : GoodIn wsX4_wood wsX1_forget := goodIn_r _ [41, 42, 56, 57, 58, 59, 60, 61] (by decide +kernel) (by decide +kernel)
set_option maxRecDepth 20000 in
theorem gX4_wood_X1_forget : GoodIn wsX4_wood (wsV RX4 64 RX1 yX1_forget wsX1_forget) := goodIn_app (goodIn_of _ (by decide +kernel)) ggX4_wood_X1_forget
theorem dX4_wood_0 : decode cX4_wood 0 = .ok (.aload_n 0, 1) := by decide +kernel
theorem dX4_wood_1 : decode cX4_wood 1 = .ok (.iload_n 1, 1) := by decide +kernel
theorem dX4_wood_2 : decode cX4_wood 2 = .ok (.iload_n 2, 1) := by decide +kernel
theorem dX4_wood_3 : decode cX4_wood 3 = .ok (.invokevirtual 41, 3) := by decide +kernel
theorem dX4_wood_6 : decode cX4_wood 6 = .ok (.dload_n 3, 1) := by decide +kernel
theorem dX4_wood_7 : decode cX4_wood 7 = .ok (.dconst 0, 1) := by decide +kernel
theorem dX4_wood_8 : decode cX4_wood 8 = .ok (.dcmp .l, 1) := by decide +kernel
theorem dX4_wood_9 : decode cX4_wood 9 = .ok (.ifCond .eq 13, 3) := by decide +kernel
theorem dX4_wood_12 : decode cX4_wood 12 = .ok (.dload_n 3, 1) := by decide +kernel
theorem dX4_wood_13 : decode cX4_wood 13 = .ok (.ldc2_w 44, 3) := by decide +kernel
theorem dX4_wood_16 : decode cX4_wood 16 = .ok (.ldc2_w 46, 3) := by decide +kernel
theorem dX4_wood_19 : decode cX4_wood 19 = .ok (.invokestatic 48, 3) := by decide +kernel
theorem dX4_wood_22 : decode cX4_wood 22 = .ok (.aload_n 0, 1) := by decide +kernel
theorem dX4_wood_23 : decode cX4_wood 23 = .ok (.getfield 18, 3) := by decide +kernel
theorem dX4_wood_26 : decode cX4_wood 26 = .ok (.iload_n 1, 1) := by decide +kernel
theorem dX4_wood_27 : decode cX4_wood 27 = .ok (.iload_n 2, 1) := by decide +kernel
theorem dX4_wood_28 : decode cX4_wood 28 = .ok (.invokevirtual 52, 3) := by decide +kernel
theorem dX4_wood_31 : decode cX4_wood 31 = .ok (.istore 5, 2) := by decide +kernel
theorem dX4_wood_33 : decode cX4_wood 33 = .ok (.aload_n 0, 1) := by decide +kernel
theorem dX4_wood_34 : decode cX4_wood 34 = .ok (.getfield 18, 3) := by decide +kernel
theorem dX4_wood_37 : decode cX4_wood 37 = .ok (.iload 5, 2) := by decide +kernel
theorem dX4_wood_39 : decode cX4_wood 39 = .ok (.invokevirtual 56, 3) := by decide +kernel
theorem dX4_wood_42 : decode cX4_wood 42 = .ok (.dload_n 3, 1) := by decide +kernel
theorem dX4_wood_43 : decode cX4_wood 43 = .ok (.dcmp .l, 1) := by decide +kernel
theorem dX4_wood_44 : decode cX4_wood 44 = .ok (.ifCond .ne 5, 3) := by decide +kernel
theorem dX4_wood_47 : decode cX4_wood 47 = .ok (.iconst 0, 1) := by decide +kernel
theorem dX4_wood_48 : decode cX4_wood 48 = .ok (.ireturn, 1) := by decide +kernel
theorem dX4_wood_49 : decode cX4_wood 49 = .ok (.aload_n 0, 1) := by decide +kernel
theorem dX4_wood_50 : decode cX4_wood 50 = .ok (.getfield 18, 3) := by decide +kernel
theorem dX4_wood_53 : decode cX4_wood 53 = .ok (.iload 5, 2) := by decide +kernel
theorem dX4_wood_55 : decode cX4_wood 55 = .ok (.dload_n 3, 1) := by decide +kernel
theorem dX4_wood_56 : decode cX4_wood 56 = .ok (.invokevirtual 60, 3) := by decide +kernel
theorem dX4_wood_59 : decode cX4_wood 59 = .ok (.aload_n 0, 1) := by decide +kernel
theorem dX4_wood_60 : decode cX4_wood 60 = .ok (.getfield 27, 3) := by decide +kernel
theorem dX4_wood_63 : decode cX4_wood 63 = .ok (.invokevirtual 64, 3) := by decide +kernel
theorem dX4_wood_66 : decode cX4_wood 66 = .ok (.iconst 1, 1) := by decide +kernel
theorem dX4_wood_67 : decode cX4_wood 67 = .ok (.ireturn, 1) := by decide +kernel
set_option maxRecDepth 20000 in
theorem ggX4_rates_X4_requireRange : GoodIn wsX4_rates wsX4_requireRange := goodIn_ca (goodIn_r _ [8, 9, 10] (by decide +kernel) (by decide +kernel)) (goodIn_sub (fun _ h => List.mem_cons_of_mem _ (List.mem_append_right _ h)) (by decide +kernel))
set_option maxRecDepth 20000 in
theorem gX4_rates_X4_requireRange : GoodIn wsX4_rates (va_wsS RX4 48 yX4_requireRange wsX4_requireRange) := goodIn_app (goodIn_of _ (by decide +kernel)) ggX4_rates_X4_requireRange
set_option maxRecDepth 20000 in
theorem ggX4_rates_X2_setRates : GoodIn wsX4_rates wsX2_setRates := goodIn_r _ [15, 16, 17, 18, 29, 30, 31, 32, 33, 34, 35, 36, 37] (by decide +kernel) (by decide +kernel)
set_option maxRecDepth 20000 in
theorem gX4_rates_X2_setRates : GoodIn wsX4_rates (wsV RX4 67 RX2 yX2_setRates wsX2_setRates) := goodIn_app (goodIn_of _ (by decide +kernel)) ggX4_rates_X2_setRates
set_option maxRecDepth 20000 in
theorem ggX4_rates_X1_forget : GoodIn wsX4_rates wsX1_forget := goodIn_r _ [23, 24, 38, 39, 40, 41, 42, 43] (by decide +kernel) (by decide +kernel)
set_option maxRecDepth 20000 in
theorem gX4_rates_X1_forget : GoodIn wsX4_rates (wsV RX4 64 RX1 yX1_forget wsX1_forget) := goodIn_app (goodIn_of _ (by decide +kernel)) ggX4_rates_X1_forget
theorem dX4_rates_0 : decode cX4_rates 0 = .ok (.dload_n 1, 1) := by decide +kernel
theorem dX4_rates_1 : decode cX4_rates 1 = .ok (.ldc2_w 44, 3) := by decide +kernel
theorem dX4_rates_4 : decode cX4_rates 4 = .ok (.ldc2_w 46, 3) := by decide +kernel
theorem dX4_rates_7 : decode cX4_rates 7 = .ok (.invokestatic 48, 3) := by decide +kernel
theorem dX4_rates_10 : decode cX4_rates 10 = .ok (.dload_n 3, 1) := by decide +kernel
theorem dX4_rates_11 : decode cX4_rates 11 = .ok (.ldc2_w 44, 3) := by decide +kernel
theorem dX4_rates_14 : decode cX4_rates 14 = .ok (.ldc2_w 46, 3) := by decide +kernel
theorem dX4_rates_17 : decode cX4_rates 17 = .ok (.invokestatic 48, 3) := by decide +kernel
theorem dX4_rates_20 : decode cX4_rates 20 = .ok (.dload 5, 2) := by decide +kernel
theorem dX4_rates_22 : decode cX4_rates 22 = .ok (.ldc2_w 44, 3) := by decide +kernel
theorem dX4_rates_25 : decode cX4_rates 25 = .ok (.ldc2_w 46, 3) := by decide +kernel
theorem dX4_rates_28 : decode cX4_rates 28 = .ok (.invokestatic 48, 3) := by decide +kernel
theorem dX4_rates_31 : decode cX4_rates 31 = .ok (.aload_n 0, 1) := by decide +kernel
theorem dX4_rates_32 : decode cX4_rates 32 = .ok (.getfield 18, 3) := by decide +kernel
theorem dX4_rates_35 : decode cX4_rates 35 = .ok (.dload_n 1, 1) := by decide +kernel
theorem dX4_rates_36 : decode cX4_rates 36 = .ok (.dload_n 3, 1) := by decide +kernel
theorem dX4_rates_37 : decode cX4_rates 37 = .ok (.dload 5, 2) := by decide +kernel
theorem dX4_rates_39 : decode cX4_rates 39 = .ok (.invokevirtual 67, 3) := by decide +kernel
theorem dX4_rates_42 : decode cX4_rates 42 = .ok (.aload_n 0, 1) := by decide +kernel
theorem dX4_rates_43 : decode cX4_rates 43 = .ok (.getfield 27, 3) := by decide +kernel
theorem dX4_rates_46 : decode cX4_rates 46 = .ok (.invokevirtual 64, 3) := by decide +kernel
theorem dX4_rates_49 : decode cX4_rates 49 = .ok (.return_, 1) := by decide +kernel
set_option maxRecDepth 20000 in
theorem ggX4_brace_X4_requireCell : GoodIn wsX4_brace wsX4_requireCell := goodIn_ca (goodIn_r _ [20, 21, 22, 7, 23, 24, 25, 26, 27, 28, 29, 67, 68, 69, 70, 71, 72, 73, 74, 75, 76, 77, 78, 79] (by decide +kernel) (by decide +kernel)) (goodIn_sub (fun _ h => List.mem_cons_of_mem _ (List.mem_append_right _ h)) (by decide +kernel))
set_option maxRecDepth 20000 in
theorem gX4_brace_X4_requireCell : GoodIn wsX4_brace (wsV RX4 41 RX4 yX4_requireCell wsX4_requireCell) := goodIn_app (goodIn_of _ (by decide +kernel)) ggX4_brace_X4_requireCell
set_option maxRecDepth 20000 in
theorem ggX4_brace_X4_requireRange : GoodIn wsX4_brace wsX4_requireRange := goodIn_ca (goodIn_r _ [32, 1, 2] (by decide +kernel) (by decide +kernel)) (goodIn_sub (fun _ h => List.mem_cons_of_mem _ (List.mem_append_left _ (List.mem_append_left _ (List.mem_append_right _ h)))) (by decide +kernel))
set_option maxRecDepth 20000 in
theorem gX4_brace_X4_requireRange : GoodIn wsX4_brace (va_wsS RX4 48 yX4_requireRange wsX4_requireRange) := goodIn_app (goodIn_of _ (by decide +kernel)) ggX4_brace_X4_requireRange
set_option maxRecDepth 20000 in
theorem ggX4_brace_X2_bracesFull : GoodIn wsX4_brace wsX2_bracesFull := goodIn_r _ [36, 37, 38, 39, 40, 41, 42, 43, 71, 72, 73, 74, 75, 76, 77, 78, 79, 80, 81, 82, 83, 84] (by decide +kernel) (by decide +kernel)
set_option maxRecDepth 20000 in
theorem gX4_brace_X2_bracesFull : GoodIn wsX4_brace (wsV RX4 77 RX2 yX2_bracesFull wsX2_bracesFull) := goodIn_app (goodIn_of _ (by decide +kernel)) ggX4_brace_X2_bracesFull
set_option maxRecDepth 20000 in
theorem ggX4_brace_X2_cellAt : GoodIn wsX4_brace wsX2_cellAt := goodIn_r _ [47, 28, 71, 72, 73, 74, 75, 76, 77, 78, 79] (by decide +kernel) (by decide +kernel)
set_option maxRecDepth 20000 in
theorem gX4_brace_X2_cellAt : GoodIn wsX4_brace (wsV RX4 52 RX2 yX2_cellAt wsX2_cellAt) := goodIn_app (goodIn_of _ (by decide +kernel)) ggX4_brace_X2_cellAt
set_option maxRecDepth 20000 in
theorem ggX4_brace_X1_forget : GoodIn wsX4_brace wsX1_forget := goodIn_r _ [52, 53, 85, 86, 87, 88, 89, 90] (by decide +kernel) (by decide +kernel)
set_option maxRecDepth 20000 in
theorem gX4_brace_X1_forget : GoodIn wsX4_brace (wsV RX4 64 RX1 yX1_forget wsX1_forget) := goodIn_app (goodIn_of _ (by decide +kernel)) ggX4_brace_X1_forget
set_option maxRecDepth 20000 in
theorem ggX4_brace_X2_addBrace : GoodIn wsX4_brace wsX2_addBrace := goodIn_r _ [57, 37, 28, 58, 59, 60, 41, 61, 62, 43, 63, 64, 65, 66, 39, 40, 42, 71, 72, 73, 74, 75, 76, 77, 78, 79, 80, 81, 82, 83, 84] (by decide +kernel) (by decide +kernel)
set_option maxRecDepth 20000 in
theorem gX4_brace_X2_addBrace : GoodIn wsX4_brace (wsV RX4 94 RX2 yX2_addBrace wsX2_addBrace) := goodIn_app (goodIn_of _ (by decide +kernel)) ggX4_brace_X2_addBrace
theorem dX4_brace_0 : decode cX4_brace 0 = .ok (.aload_n 0, 1) := by decide +kernel
theorem dX4_brace_1 : decode cX4_brace 1 = .ok (.iload_n 1, 1) := by decide +kernel
theorem dX4_brace_2 : decode cX4_brace 2 = .ok (.iload_n 2, 1) := by decide +kernel
theorem dX4_brace_3 : decode cX4_brace 3 = .ok (.invokevirtual 41, 3) := by decide +kernel
theorem dX4_brace_6 : decode cX4_brace 6 = .ok (.aload_n 0, 1) := by decide +kernel
theorem dX4_brace_7 : decode cX4_brace 7 = .ok (.iload_n 3, 1) := by decide +kernel
theorem dX4_brace_8 : decode cX4_brace 8 = .ok (.iload 4, 2) := by decide +kernel
theorem dX4_brace_10 : decode cX4_brace 10 = .ok (.invokevirtual 41, 3) := by decide +kernel
theorem dX4_brace_13 : decode cX4_brace 13 = .ok (.iload_n 2, 1) := by decide +kernel
theorem dX4_brace_14 : decode cX4_brace 14 = .ok (.iload 4, 2) := by decide +kernel
theorem dX4_brace_16 : decode cX4_brace 16 = .ok (.if_icmp .ne 7, 3) := by decide +kernel
theorem dX4_brace_19 : decode cX4_brace 19 = .ok (.iconst 1, 1) := by decide +kernel
theorem dX4_brace_20 : decode cX4_brace 20 = .ok (.goto 4, 3) := by decide +kernel
theorem dX4_brace_23 : decode cX4_brace 23 = .ok (.iconst 0, 1) := by decide +kernel
theorem dX4_brace_24 : decode cX4_brace 24 = .ok (.istore 7, 2) := by decide +kernel
theorem dX4_brace_26 : decode cX4_brace 26 = .ok (.iload_n 1, 1) := by decide +kernel
theorem dX4_brace_27 : decode cX4_brace 27 = .ok (.iload_n 3, 1) := by decide +kernel
theorem dX4_brace_28 : decode cX4_brace 28 = .ok (.if_icmp .ne 7, 3) := by decide +kernel
theorem dX4_brace_31 : decode cX4_brace 31 = .ok (.iconst 1, 1) := by decide +kernel
theorem dX4_brace_32 : decode cX4_brace 32 = .ok (.goto 4, 3) := by decide +kernel
theorem dX4_brace_35 : decode cX4_brace 35 = .ok (.iconst 0, 1) := by decide +kernel
theorem dX4_brace_36 : decode cX4_brace 36 = .ok (.istore 8, 2) := by decide +kernel
theorem dX4_brace_38 : decode cX4_brace 38 = .ok (.iload 7, 2) := by decide +kernel
theorem dX4_brace_40 : decode cX4_brace 40 = .ok (.iload 8, 2) := by decide +kernel
theorem dX4_brace_42 : decode cX4_brace 42 = .ok (.if_icmp .ne 13, 3) := by decide +kernel
theorem dX4_brace_45 : decode cX4_brace 45 = .ok (.new 70, 3) := by decide +kernel
theorem dX4_brace_48 : decode cX4_brace 48 = .ok (.dup, 1) := by decide +kernel
theorem dX4_brace_49 : decode cX4_brace 49 = .ok (.ldc 72, 2) := by decide +kernel
theorem dX4_brace_51 : decode cX4_brace 51 = .ok (.invokespecial 74, 3) := by decide +kernel
theorem dX4_brace_54 : decode cX4_brace 54 = .ok (.athrow, 1) := by decide +kernel
theorem dX4_brace_55 : decode cX4_brace 55 = .ok (.dload 5, 2) := by decide +kernel
theorem dX4_brace_57 : decode cX4_brace 57 = .ok (.ldc2_w 44, 3) := by decide +kernel
theorem dX4_brace_60 : decode cX4_brace 60 = .ok (.ldc2_w 46, 3) := by decide +kernel
theorem dX4_brace_63 : decode cX4_brace 63 = .ok (.invokestatic 48, 3) := by decide +kernel
theorem dX4_brace_66 : decode cX4_brace 66 = .ok (.aload_n 0, 1) := by decide +kernel
theorem dX4_brace_67 : decode cX4_brace 67 = .ok (.getfield 18, 3) := by decide +kernel
theorem dX4_brace_70 : decode cX4_brace 70 = .ok (.invokevirtual 77, 3) := by decide +kernel
theorem dX4_brace_73 : decode cX4_brace 73 = .ok (.ifCond .eq 13, 3) := by decide +kernel
theorem dX4_brace_76 : decode cX4_brace 76 = .ok (.new 81, 3) := by decide +kernel
theorem dX4_brace_79 : decode cX4_brace 79 = .ok (.dup, 1) := by decide +kernel
theorem dX4_brace_80 : decode cX4_brace 80 = .ok (.ldc 83, 2) := by decide +kernel
theorem dX4_brace_82 : decode cX4_brace 82 = .ok (.invokespecial 85, 3) := by decide +kernel
theorem dX4_brace_85 : decode cX4_brace 85 = .ok (.athrow, 1) := by decide +kernel
theorem dX4_brace_86 : decode cX4_brace 86 = .ok (.aload_n 0, 1) := by decide +kernel
theorem dX4_brace_87 : decode cX4_brace 87 = .ok (.getfield 18, 3) := by decide +kernel
theorem dX4_brace_90 : decode cX4_brace 90 = .ok (.iload_n 1, 1) := by decide +kernel
theorem dX4_brace_91 : decode cX4_brace 91 = .ok (.iload_n 3, 1) := by decide +kernel
theorem dX4_brace_92 : decode cX4_brace 92 = .ok (.invokestatic 86, 3) := by decide +kernel
theorem dX4_brace_95 : decode cX4_brace 95 = .ok (.iload_n 2, 1) := by decide +kernel
theorem dX4_brace_96 : decode cX4_brace 96 = .ok (.iload 4, 2) := by decide +kernel
theorem dX4_brace_98 : decode cX4_brace 98 = .ok (.invokestatic 86, 3) := by decide +kernel
theorem dX4_brace_101 : decode cX4_brace 101 = .ok (.invokevirtual 52, 3) := by decide +kernel
theorem dX4_brace_104 : decode cX4_brace 104 = .ok (.istore 9, 2) := by decide +kernel
theorem dX4_brace_106 : decode cX4_brace 106 = .ok (.aload_n 0, 1) := by decide +kernel
theorem dX4_brace_107 : decode cX4_brace 107 = .ok (.getfield 18, 3) := by decide +kernel
theorem dX4_brace_110 : decode cX4_brace 110 = .ok (.iload_n 1, 1) := by decide +kernel
theorem dX4_brace_111 : decode cX4_brace 111 = .ok (.iload_n 3, 1) := by decide +kernel
theorem dX4_brace_112 : decode cX4_brace 112 = .ok (.invokestatic 91, 3) := by decide +kernel
theorem dX4_brace_115 : decode cX4_brace 115 = .ok (.iload_n 2, 1) := by decide +kernel
theorem dX4_brace_116 : decode cX4_brace 116 = .ok (.iload 4, 2) := by decide +kernel
theorem dX4_brace_118 : decode cX4_brace 118 = .ok (.invokestatic 91, 3) := by decide +kernel
theorem dX4_brace_121 : decode cX4_brace 121 = .ok (.invokevirtual 52, 3) := by decide +kernel
theorem dX4_brace_124 : decode cX4_brace 124 = .ok (.istore 10, 2) := by decide +kernel
theorem dX4_brace_126 : decode cX4_brace 126 = .ok (.aload_n 0, 1) := by decide +kernel
theorem dX4_brace_127 : decode cX4_brace 127 = .ok (.getfield 27, 3) := by decide +kernel
theorem dX4_brace_130 : decode cX4_brace 130 = .ok (.invokevirtual 64, 3) := by decide +kernel
theorem dX4_brace_133 : decode cX4_brace 133 = .ok (.aload_n 0, 1) := by decide +kernel
theorem dX4_brace_134 : decode cX4_brace 134 = .ok (.getfield 18, 3) := by decide +kernel
theorem dX4_brace_137 : decode cX4_brace 137 = .ok (.iload 7, 2) := by decide +kernel
theorem dX4_brace_139 : decode cX4_brace 139 = .ok (.iload 9, 2) := by decide +kernel
theorem dX4_brace_141 : decode cX4_brace 141 = .ok (.iload 10, 2) := by decide +kernel
theorem dX4_brace_143 : decode cX4_brace 143 = .ok (.dload 5, 2) := by decide +kernel
theorem dX4_brace_145 : decode cX4_brace 145 = .ok (.invokevirtual 94, 3) := by decide +kernel
theorem dX4_brace_148 : decode cX4_brace 148 = .ok (.ireturn, 1) := by decide +kernel
set_option maxRecDepth 20000 in
theorem ggX4_modes_X1_make : GoodIn wsX4_modes wsX1_make := goodIn_r _ [8, 9, 10, 11, 12, 13, 14, 15, 16, 17, 18, 19, 20, 21, 22, 23, 24, 25, 26, 27, 28, 29, 30, 31, 32, 33, 34, 35, 36, 37, 38, 39, 40, 41, 42, 43, 44, 45, 46, 47, 48, 49, 50, 51, 52, 53, 54, 55, 56, 57, 58, 59, 60, 61, 62, 63, 64, 65, 66, 67, 68, 69, 7, 70, 71, 72, 73, 74, 75, 76, 77, 78, 79, 80, 81, 82, 83, 84, 85, 86, 87, 88, 89, 90, 91, 92, 93, 94, 95, 96, 97, 98, 99, 100, 101, 102, 103, 104, 105, 106, 107, 108, 109, 110, 111, 112, 113, 114, 115, 116, 117, 118, 119, 120, 121, 122, 123, 124, 125, 126, 127, 128, 133, 134, 135, 136, 137, 138, 139, 140, 141, 142, 143, 144, 145, 146, 147, 148, 149, 150, 151, 152] (by decide +kernel) (by decide +kernel)
set_option maxRecDepth 20000 in
theorem gX4_modes_X1_make : GoodIn wsX4_modes (wsV RX4 100 RX1 yX1_make wsX1_make) := goodIn_app (goodIn_of _ (by decide +kernel)) ggX4_modes_X1_make
theorem dX4_modes_0 : decode cX4_modes 0 = .ok (.iload_n 1, 1) := by decide +kernel
theorem dX4_modes_1 : decode cX4_modes 1 = .ok (.iconst 1, 1) := by decide +kernel
theorem dX4_modes_2 : decode cX4_modes 2 = .ok (.if_icmp .lt 8, 3) := by decide +kernel
theorem dX4_modes_5 : decode cX4_modes 5 = .ok (.iload_n 1, 1) := by decide +kernel
theorem dX4_modes_6 : decode cX4_modes 6 = .ok (.iconst 4, 1) := by decide +kernel
theorem dX4_modes_7 : decode cX4_modes 7 = .ok (.if_icmp .le 13, 3) := by decide +kernel
theorem dX4_modes_10 : decode cX4_modes 10 = .ok (.new 70, 3) := by decide +kernel
theorem dX4_modes_13 : decode cX4_modes 13 = .ok (.dup, 1) := by decide +kernel
theorem dX4_modes_14 : decode cX4_modes 14 = .ok (.ldc 98, 2) := by decide +kernel
theorem dX4_modes_16 : decode cX4_modes 16 = .ok (.invokespecial 74, 3) := by decide +kernel
theorem dX4_modes_19 : decode cX4_modes 19 = .ok (.athrow, 1) := by decide +kernel
theorem dX4_modes_20 : decode cX4_modes 20 = .ok (.aload_n 0, 1) := by decide +kernel
theorem dX4_modes_21 : decode cX4_modes 21 = .ok (.getfield 27, 3) := by decide +kernel
theorem dX4_modes_24 : decode cX4_modes 24 = .ok (.iload_n 1, 1) := by decide +kernel
theorem dX4_modes_25 : decode cX4_modes 25 = .ok (.invokevirtual 100, 3) := by decide +kernel
theorem dX4_modes_28 : decode cX4_modes 28 = .ok (.ireturn, 1) := by decide +kernel
set_option maxRecDepth 20000 in
theorem ggX4_mode_X4_requireMode : GoodIn wsX4_mode wsX4_requireMode := goodIn_ca (goodIn_r _ [7, 1, 2] (by decide +kernel) (by decide +kernel)) (goodIn_sub (fun _ h => List.mem_cons_of_mem _ (List.mem_append_left _ (List.mem_append_right _ h))) (by decide +kernel))
set_option maxRecDepth 20000 in
theorem gX4_mode_X4_requireMode : GoodIn wsX4_mode (va_wsS RX4 103 yX4_requireMode wsX4_requireMode) := goodIn_app (goodIn_of _ (by decide +kernel)) ggX4_mode_X4_requireMode
set_option maxRecDepth 20000 in
theorem ggX4_mode_X4_requireMade : GoodIn wsX4_mode wsX4_requireMade := goodIn_ca (goodIn_r _ [11, 12, 13, 3, 14, 15, 16, 17, 18, 19, 35, 36, 37, 38, 39, 40, 41, 42, 43, 44] (by decide +kernel) (by decide +kernel)) (goodIn_sub (fun _ h => List.mem_cons_of_mem _ (List.mem_append_right _ h)) (by decide +kernel))
set_option maxRecDepth 20000 in
theorem gX4_mode_X4_requireMade : GoodIn wsX4_mode (wsV RX4 112 RX4 yX4_requireMade wsX4_requireMade) := goodIn_app (goodIn_of _ (by decide +kernel)) ggX4_mode_X4_requireMade
set_option maxRecDepth 20000 in
theorem ggX4_mode_X1_squareOf : GoodIn wsX4_mode wsX1_squareOf := goodIn_r _ [23, 24, 39, 40, 41, 42, 43, 44] (by decide +kernel) (by decide +kernel)
set_option maxRecDepth 20000 in
theorem gX4_mode_X1_squareOf : GoodIn wsX4_mode (wsV RX4 115 RX1 yX1_squareOf wsX1_squareOf) := goodIn_app (goodIn_of _ (by decide +kernel)) ggX4_mode_X1_squareOf
set_option maxRecDepth 20000 in
theorem ggX4_mode_X1_residueOf : GoodIn wsX4_mode wsX1_residueOf := goodIn_r _ [28, 29, 39, 40, 41, 42, 43, 44] (by decide +kernel) (by decide +kernel)
set_option maxRecDepth 20000 in
theorem gX4_mode_X1_residueOf : GoodIn wsX4_mode (wsV RX4 118 RX1 yX1_residueOf wsX1_residueOf) := goodIn_app (goodIn_of _ (by decide +kernel)) ggX4_mode_X1_residueOf
set_option maxRecDepth 20000 in
theorem ggX4_mode_X1_totalOf : GoodIn wsX4_mode wsX1_totalOf := goodIn_r _ [33, 34, 39, 40, 41, 42, 43, 44] (by decide +kernel) (by decide +kernel)
set_option maxRecDepth 20000 in
theorem gX4_mode_X1_totalOf : GoodIn wsX4_mode (wsV RX4 121 RX1 yX1_totalOf wsX1_totalOf) := goodIn_app (goodIn_of _ (by decide +kernel)) ggX4_mode_X1_totalOf
theorem dX4_mode_0 : decode cX4_mode 0 = .ok (.iload_n 1, 1) := by decide +kernel
theorem dX4_mode_1 : decode cX4_mode 1 = .ok (.invokestatic 103, 3) := by decide +kernel
theorem dX4_mode_4 : decode cX4_mode 4 = .ok (.iload_n 2, 1) := by decide +kernel
theorem dX4_mode_5 : decode cX4_mode 5 = .ok (.ifCond .lt 8, 3) := by decide +kernel
theorem dX4_mode_8 : decode cX4_mode 8 = .ok (.iload_n 2, 1) := by decide +kernel
theorem dX4_mode_9 : decode cX4_mode 9 = .ok (.iconst 2, 1) := by decide +kernel
theorem dX4_mode_10 : decode cX4_mode 10 = .ok (.if_icmp .le 13, 3) := by decide +kernel
theorem dX4_mode_13 : decode cX4_mode 13 = .ok (.new 107, 3) := by decide +kernel
theorem dX4_mode_16 : decode cX4_mode 16 = .ok (.dup, 1) := by decide +kernel
theorem dX4_mode_17 : decode cX4_mode 17 = .ok (.ldc 109, 2) := by decide +kernel
theorem dX4_mode_19 : decode cX4_mode 19 = .ok (.invokespecial 111, 3) := by decide +kernel
theorem dX4_mode_22 : decode cX4_mode 22 = .ok (.athrow, 1) := by decide +kernel
theorem dX4_mode_23 : decode cX4_mode 23 = .ok (.aload_n 0, 1) := by decide +kernel
theorem dX4_mode_24 : decode cX4_mode 24 = .ok (.iload_n 1, 1) := by decide +kernel
theorem dX4_mode_25 : decode cX4_mode 25 = .ok (.invokevirtual 112, 3) := by decide +kernel
theorem dX4_mode_28 : decode cX4_mode 28 = .ok (.iload_n 2, 1) := by decide +kernel
theorem dX4_mode_29 : decode cX4_mode 29 = .ok (.ifCond .ne 12, 3) := by decide +kernel
theorem dX4_mode_32 : decode cX4_mode 32 = .ok (.aload_n 0, 1) := by decide +kernel
theorem dX4_mode_33 : decode cX4_mode 33 = .ok (.getfield 27, 3) := by decide +kernel
theorem dX4_mode_36 : decode cX4_mode 36 = .ok (.iload_n 1, 1) := by decide +kernel
theorem dX4_mode_37 : decode cX4_mode 37 = .ok (.invokevirtual 115, 3) := by decide +kernel
theorem dX4_mode_40 : decode cX4_mode 40 = .ok (.dreturn, 1) := by decide +kernel
theorem dX4_mode_41 : decode cX4_mode 41 = .ok (.iload_n 2, 1) := by decide +kernel
theorem dX4_mode_42 : decode cX4_mode 42 = .ok (.iconst 1, 1) := by decide +kernel
theorem dX4_mode_43 : decode cX4_mode 43 = .ok (.if_icmp .ne 14, 3) := by decide +kernel
theorem dX4_mode_46 : decode cX4_mode 46 = .ok (.aload_n 0, 1) := by decide +kernel
theorem dX4_mode_47 : decode cX4_mode 47 = .ok (.getfield 27, 3) := by decide +kernel
theorem dX4_mode_50 : decode cX4_mode 50 = .ok (.iload_n 1, 1) := by decide +kernel
theorem dX4_mode_51 : decode cX4_mode 51 = .ok (.invokevirtual 118, 3) := by decide +kernel
theorem dX4_mode_54 : decode cX4_mode 54 = .ok (.goto 11, 3) := by decide +kernel
theorem dX4_mode_57 : decode cX4_mode 57 = .ok (.aload_n 0, 1) := by decide +kernel
theorem dX4_mode_58 : decode cX4_mode 58 = .ok (.getfield 27, 3) := by decide +kernel
theorem dX4_mode_61 : decode cX4_mode 61 = .ok (.iload_n 1, 1) := by decide +kernel
theorem dX4_mode_62 : decode cX4_mode 62 = .ok (.invokevirtual 121, 3) := by decide +kernel
theorem dX4_mode_65 : decode cX4_mode 65 = .ok (.dreturn, 1) := by decide +kernel
set_option maxRecDepth 20000 in
theorem ggX4_shape_X4_requireMode : GoodIn wsX4_shape wsX4_requireMode := goodIn_ca (goodIn_r _ [6, 7, 8] (by decide +kernel) (by decide +kernel)) (goodIn_sub (fun _ h => List.mem_cons_of_mem _ (List.mem_append_left _ (List.mem_append_right _ h))) (by decide +kernel))
set_option maxRecDepth 20000 in
theorem gX4_shape_X4_requireMode : GoodIn wsX4_shape (va_wsS RX4 103 yX4_requireMode wsX4_requireMode) := goodIn_app (goodIn_of _ (by decide +kernel)) ggX4_shape_X4_requireMode
set_option maxRecDepth 20000 in
theorem ggX4_shape_X4_requireCell : GoodIn wsX4_shape wsX4_requireCell := goodIn_ca (goodIn_r _ [12, 7, 8, 2, 13, 14, 15, 16, 17, 18, 19, 41, 42, 43, 44, 45, 46, 47, 48, 49, 50, 51, 52, 53] (by decide +kernel) (by decide +kernel)) (goodIn_sub (fun _ h => List.mem_cons_of_mem _ (List.mem_append_left _ (List.mem_append_right _ h))) (by decide +kernel))
set_option maxRecDepth 20000 in
theorem gX4_shape_X4_requireCell : GoodIn wsX4_shape (wsV RX4 41 RX4 yX4_requireCell wsX4_requireCell) := goodIn_app (goodIn_of _ (by decide +kernel)) ggX4_shape_X4_requireCell
set_option maxRecDepth 20000 in
theorem ggX4_shape_X4_requireMade : GoodIn wsX4_shape wsX4_requireMade := goodIn_ca (goodIn_r _ [23, 24, 25, 1, 26, 27, 28, 29, 30, 31, 41, 42, 43, 44, 54, 55, 56, 57, 58, 59] (by decide +kernel) (by decide +kernel)) (goodIn_sub (fun _ h => List.mem_cons_of_mem _ (List.mem_append_right _ h)) (by decide +kernel))
set_option maxRecDepth 20000 in
theorem gX4_shape_X4_requireMade : GoodIn wsX4_shape (wsV RX4 112 RX4 yX4_requireMade wsX4_requireMade) := goodIn_app (goodIn_of _ (by decide +kernel)) ggX4_shape_X4_requireMade
set_option maxRecDepth 20000 in
theorem ggX4_shape_X2_cellAt : GoodIn wsX4_shape wsX2_cellAt := goodIn_r _ [35, 18, 45, 46, 47, 48, 49, 50, 51, 52, 53] (by decide +kernel) (by decide +kernel)
set_option maxRecDepth 20000 in
theorem gX4_shape_X2_cellAt : GoodIn wsX4_shape (wsV RX4 52 RX2 yX2_cellAt wsX2_cellAt) := goodIn_app (goodIn_of _ (by decide +kernel)) ggX4_shape_X2_cellAt
set_option maxRecDepth 20000 in
theorem ggX4_shape_X1_shapeAt : GoodIn wsX4_shape wsX1_shapeAt := goodIn_r _ [39, 40, 54, 55, 56, 57, 58, 59] (by decide +kernel) (by decide +kernel)
set_option maxRecDepth 20000 in
theorem gX4_shape_X1_shapeAt : GoodIn wsX4_shape (wsV RX4 124 RX1 yX1_shapeAt wsX1_shapeAt) := goodIn_app (goodIn_of _ (by decide +kernel)) ggX4_shape_X1_shapeAt
theorem dX4_shape_0 : decode cX4_shape 0 = .ok (.iload_n 1, 1) := by decide +kernel
theorem dX4_shape_1 : decode cX4_shape 1 = .ok (.invokestatic 103, 3) := by decide +kernel
theorem dX4_shape_4 : decode cX4_shape 4 = .ok (.aload_n 0, 1) := by decide +kernel
theorem dX4_shape_5 : decode cX4_shape 5 = .ok (.iload_n 2, 1) := by decide +kernel
theorem dX4_shape_6 : decode cX4_shape 6 = .ok (.iload_n 3, 1) := by decide +kernel
theorem dX4_shape_7 : decode cX4_shape 7 = .ok (.invokevirtual 41, 3) := by decide +kernel
theorem dX4_shape_10 : decode cX4_shape 10 = .ok (.aload_n 0, 1) := by decide +kernel
theorem dX4_shape_11 : decode cX4_shape 11 = .ok (.iload_n 1, 1) := by decide +kernel
theorem dX4_shape_12 : decode cX4_shape 12 = .ok (.invokevirtual 112, 3) := by decide +kernel
theorem dX4_shape_15 : decode cX4_shape 15 = .ok (.aload_n 0, 1) := by decide +kernel
theorem dX4_shape_16 : decode cX4_shape 16 = .ok (.getfield 27, 3) := by decide +kernel
theorem dX4_shape_19 : decode cX4_shape 19 = .ok (.iload_n 1, 1) := by decide +kernel
theorem dX4_shape_20 : decode cX4_shape 20 = .ok (.aload_n 0, 1) := by decide +kernel
theorem dX4_shape_21 : decode cX4_shape 21 = .ok (.getfield 18, 3) := by decide +kernel
theorem dX4_shape_24 : decode cX4_shape 24 = .ok (.iload_n 2, 1) := by decide +kernel
theorem dX4_shape_25 : decode cX4_shape 25 = .ok (.iload_n 3, 1) := by decide +kernel
theorem dX4_shape_26 : decode cX4_shape 26 = .ok (.invokevirtual 52, 3) := by decide +kernel
theorem dX4_shape_29 : decode cX4_shape 29 = .ok (.invokevirtual 124, 3) := by decide +kernel
theorem dX4_shape_32 : decode cX4_shape 32 = .ok (.dreturn, 1) := by decide +kernel
set_option maxRecDepth 20000 in
theorem ggX4_product_X4_requireMode : GoodIn wsX4_product wsX4_requireMode := goodIn_ca (goodIn_r _ [5, 6, 7] (by decide +kernel) (by decide +kernel)) (goodIn_sub (fun _ h => List.mem_cons_of_mem _ (List.mem_append_left _ (List.mem_append_right _ h))) (by decide +kernel))
set_option maxRecDepth 20000 in
theorem gX4_product_X4_requireMode : GoodIn wsX4_product (va_wsS RX4 103 yX4_requireMode wsX4_requireMode) := goodIn_app (goodIn_of _ (by decide +kernel)) ggX4_product_X4_requireMode
set_option maxRecDepth 20000 in
theorem ggX4_product_X4_requireMade : GoodIn wsX4_product wsX4_requireMade := goodIn_ca (goodIn_r _ [11, 12, 13, 1, 14, 15, 16, 17, 18, 19, 41, 42, 43, 44, 45, 46, 47, 48, 49, 50] (by decide +kernel) (by decide +kernel)) (goodIn_sub (fun _ h => List.mem_cons_of_mem _ (List.mem_append_right _ h)) (by decide +kernel))
set_option maxRecDepth 20000 in
theorem gX4_product_X4_requireMade : GoodIn wsX4_product (wsV RX4 112 RX4 yX4_requireMade wsX4_requireMade) := goodIn_app (goodIn_of _ (by decide +kernel)) ggX4_product_X4_requireMade
set_option maxRecDepth 20000 in
theorem ggX4_product_X1_productOf : GoodIn wsX4_product wsX1_productOf := goodIn_r _ [23, 24, 25, 26, 27, 28, 29, 30, 31, 32, 33, 34, 35, 36, 37, 38, 39, 40, 45, 46, 47, 48, 49, 50, 51, 52, 53, 54, 55, 56, 57, 58, 59] (by decide +kernel) (by decide +kernel)
set_option maxRecDepth 20000 in
theorem gX4_product_X1_productOf : GoodIn wsX4_product (wsV RX4 128 RX1 yX1_productOf wsX1_productOf) := goodIn_app (goodIn_of _ (by decide +kernel)) ggX4_product_X1_productOf
theorem dX4_product_0 : decode cX4_product 0 = .ok (.iload_n 1, 1) := by decide +kernel
theorem dX4_product_1 : decode cX4_product 1 = .ok (.invokestatic 103, 3) := by decide +kernel
theorem dX4_product_4 : decode cX4_product 4 = .ok (.iload_n 2, 1) := by decide +kernel
theorem dX4_product_5 : decode cX4_product 5 = .ok (.invokestatic 103, 3) := by decide +kernel
theorem dX4_product_8 : decode cX4_product 8 = .ok (.aload_n 0, 1) := by decide +kernel
theorem dX4_product_9 : decode cX4_product 9 = .ok (.iload_n 1, 1) := by decide +kernel
theorem dX4_product_10 : decode cX4_product 10 = .ok (.invokevirtual 112, 3) := by decide +kernel
theorem dX4_product_13 : decode cX4_product 13 = .ok (.aload_n 0, 1) := by decide +kernel
theorem dX4_product_14 : decode cX4_product 14 = .ok (.iload_n 2, 1) := by decide +kernel
theorem dX4_product_15 : decode cX4_product 15 = .ok (.invokevirtual 112, 3) := by decide +kernel
theorem dX4_product_18 : decode cX4_product 18 = .ok (.aload_n 0, 1) := by decide +kernel
theorem dX4_product_19 : decode cX4_product 19 = .ok (.getfield 27, 3) := by decide +kernel
theorem dX4_product_22 : decode cX4_product 22 = .ok (.iload_n 1, 1) := by decide +kernel
theorem dX4_product_23 : decode cX4_product 23 = .ok (.iload_n 2, 1) := by decide +kernel
theorem dX4_product_24 : decode cX4_product 24 = .ok (.invokevirtual 128, 3) := by decide +kernel
theorem dX4_product_27 : decode cX4_product 27 = .ok (.dreturn, 1) := by decide +kernel
set_option maxRecDepth 20000 in
theorem ggX4_mirrored_X2_mirroredAlongX : GoodIn wsX4_mirrored wsX2_mirroredAlongX := goodIn_r _ [6, 7, 8, 9, 10, 11, 12, 5, 13, 22, 23, 24, 25, 26, 27, 28, 29, 30] (by decide +kernel) (by decide +kernel)
set_option maxRecDepth 20000 in
theorem gX4_mirrored_X2_mirroredAlongX : GoodIn wsX4_mirrored (wsV RX4 131 RX2 yX2_mirroredAlongX wsX2_mirroredAlongX) := goodIn_app (goodIn_of _ (by decide +kernel)) ggX4_mirrored_X2_mirroredAlongX
set_option maxRecDepth 20000 in
theorem ggX4_mirrored_X2_mirroredAlongY : GoodIn wsX4_mirrored wsX2_mirroredAlongY := goodIn_r _ [17, 7, 8, 9, 10, 11, 12, 5, 13, 22, 23, 24, 25, 26, 27, 28, 29, 30] (by decide +kernel) (by decide +kernel)
set_option maxRecDepth 20000 in
theorem gX4_mirrored_X2_mirroredAlongY : GoodIn wsX4_mirrored (wsV RX4 134 RX2 yX2_mirroredAlongY wsX2_mirroredAlongY) := goodIn_app (goodIn_of _ (by decide +kernel)) ggX4_mirrored_X2_mirroredAlongY
theorem dX4_mirrored_0 : decode cX4_mirrored 0 = .ok (.iload_n 1, 1) := by decide +kernel
theorem dX4_mirrored_1 : decode cX4_mirrored 1 = .ok (.ifCond .eq 13, 3) := by decide +kernel
theorem dX4_mirrored_4 : decode cX4_mirrored 4 = .ok (.aload_n 0, 1) := by decide +kernel
theorem dX4_mirrored_5 : decode cX4_mirrored 5 = .ok (.getfield 18, 3) := by decide +kernel
theorem dX4_mirrored_8 : decode cX4_mirrored 8 = .ok (.invokevirtual 131, 3) := by decide +kernel
theorem dX4_mirrored_11 : decode cX4_mirrored 11 = .ok (.goto 10, 3) := by decide +kernel
theorem dX4_mirrored_14 : decode cX4_mirrored 14 = .ok (.aload_n 0, 1) := by decide +kernel
theorem dX4_mirrored_15 : decode cX4_mirrored 15 = .ok (.getfield 18, 3) := by decide +kernel
theorem dX4_mirrored_18 : decode cX4_mirrored 18 = .ok (.invokevirtual 134, 3) := by decide +kernel
theorem dX4_mirrored_21 : decode cX4_mirrored 21 = .ok (.ireturn, 1) := by decide +kernel
set_option maxRecDepth 20000 in
theorem ggX4_coupled_X4_requireMode : GoodIn wsX4_coupled wsX4_requireMode := goodIn_ca (goodIn_r _ [8, 9, 10] (by decide +kernel) (by decide +kernel)) (goodIn_sub (fun _ h => List.mem_cons_of_mem _ (List.mem_append_left _ (List.mem_append_left _ (List.mem_append_right _ h)))) (by decide +kernel))
set_option maxRecDepth 20000 in
theorem gX4_coupled_X4_requireMode : GoodIn wsX4_coupled (va_wsS RX4 103 yX4_requireMode wsX4_requireMode) := goodIn_app (goodIn_of _ (by decide +kernel)) ggX4_coupled_X4_requireMode
set_option maxRecDepth 20000 in
theorem ggX4_coupled_X4_requireRange : GoodIn wsX4_coupled wsX4_requireRange := goodIn_ca (goodIn_r _ [13, 14, 15] (by decide +kernel) (by decide +kernel)) (goodIn_sub (fun _ h => List.mem_cons_of_mem _ (List.mem_append_left _ (List.mem_append_right _ h))) (by decide +kernel))
set_option maxRecDepth 20000 in
theorem gX4_coupled_X4_requireRange : GoodIn wsX4_coupled (va_wsS RX4 48 yX4_requireRange wsX4_requireRange) := goodIn_app (goodIn_of _ (by decide +kernel)) ggX4_coupled_X4_requireRange
set_option maxRecDepth 20000 in
theorem ggX4_coupled_X4_requireMade : GoodIn wsX4_coupled wsX4_requireMade := goodIn_ca (goodIn_r _ [19, 20, 21, 2, 22, 23, 24, 25, 26, 27, 41, 42, 43, 44, 45, 46, 47, 48, 49, 50] (by decide +kernel) (by decide +kernel)) (goodIn_sub (fun _ h => List.mem_cons_of_mem _ (List.mem_append_right _ h)) (by decide +kernel))
set_option maxRecDepth 20000 in
theorem gX4_coupled_X4_requireMade : GoodIn wsX4_coupled (wsV RX4 112 RX4 yX4_requireMade wsX4_requireMade) := goodIn_app (goodIn_of _ (by decide +kernel)) ggX4_coupled_X4_requireMade
set_option maxRecDepth 20000 in
theorem ggX4_coupled_X1_squareOf : GoodIn wsX4_coupled wsX1_squareOf := goodIn_r _ [31, 32, 45, 46, 47, 48, 49, 50] (by decide +kernel) (by decide +kernel)
set_option maxRecDepth 20000 in
theorem gX4_coupled_X1_squareOf : GoodIn wsX4_coupled (wsV RX4 115 RX1 yX1_squareOf wsX1_squareOf) := goodIn_app (goodIn_of _ (by decide +kernel)) ggX4_coupled_X1_squareOf
set_option maxRecDepth 20000 in
theorem ggX4_coupled_X1_totalOf : GoodIn wsX4_coupled wsX1_totalOf := goodIn_r _ [36, 37, 45, 46, 47, 48, 49, 50] (by decide +kernel) (by decide +kernel)
set_option maxRecDepth 20000 in
theorem gX4_coupled_X1_totalOf : GoodIn wsX4_coupled (wsV RX4 121 RX1 yX1_totalOf wsX1_totalOf) := goodIn_app (goodIn_of _ (by decide +kernel)) ggX4_coupled_X1_totalOf
set_option maxRecDepth 20000 in
theorem ggX4_coupled_X4_root : GoodIn wsX4_coupled wsX4_root := goodIn_r _ [40, 4] (by decide +kernel) (by decide +kernel)
set_option maxRecDepth 20000 in
theorem gX4_coupled_X4_root : GoodIn wsX4_coupled (va_wsS RX4 139 yX4_root wsX4_root) := goodIn_app (goodIn_of _ (by decide +kernel)) ggX4_coupled_X4_root
theorem dX4_coupled_0 : decode cX4_coupled 0 = .ok (.iload_n 1, 1) := by decide +kernel
theorem dX4_coupled_1 : decode cX4_coupled 1 = .ok (.invokestatic 103, 3) := by decide +kernel
theorem dX4_coupled_4 : decode cX4_coupled 4 = .ok (.dload_n 2, 1) := by decide +kernel
theorem dX4_coupled_5 : decode cX4_coupled 5 = .ok (.dconst 0, 1) := by decide +kernel
theorem dX4_coupled_6 : decode cX4_coupled 6 = .ok (.ldc2_w 46, 3) := by decide +kernel
theorem dX4_coupled_9 : decode cX4_coupled 9 = .ok (.invokestatic 48, 3) := by decide +kernel
theorem dX4_coupled_12 : decode cX4_coupled 12 = .ok (.dload 4, 2) := by decide +kernel
theorem dX4_coupled_14 : decode cX4_coupled 14 = .ok (.dconst 0, 1) := by decide +kernel
theorem dX4_coupled_15 : decode cX4_coupled 15 = .ok (.ldc2_w 46, 3) := by decide +kernel
theorem dX4_coupled_18 : decode cX4_coupled 18 = .ok (.invokestatic 48, 3) := by decide +kernel
theorem dX4_coupled_21 : decode cX4_coupled 21 = .ok (.aload_n 0, 1) := by decide +kernel
theorem dX4_coupled_22 : decode cX4_coupled 22 = .ok (.iload_n 1, 1) := by decide +kernel
theorem dX4_coupled_23 : decode cX4_coupled 23 = .ok (.invokevirtual 112, 3) := by decide +kernel
theorem dX4_coupled_26 : decode cX4_coupled 26 = .ok (.aload_n 0, 1) := by decide +kernel
theorem dX4_coupled_27 : decode cX4_coupled 27 = .ok (.getfield 27, 3) := by decide +kernel
theorem dX4_coupled_30 : decode cX4_coupled 30 = .ok (.iload_n 1, 1) := by decide +kernel
theorem dX4_coupled_31 : decode cX4_coupled 31 = .ok (.invokevirtual 115, 3) := by decide +kernel
theorem dX4_coupled_34 : decode cX4_coupled 34 = .ok (.dstore 7, 2) := by decide +kernel
theorem dX4_coupled_36 : decode cX4_coupled 36 = .ok (.aload_n 0, 1) := by decide +kernel
theorem dX4_coupled_37 : decode cX4_coupled 37 = .ok (.getfield 27, 3) := by decide +kernel
theorem dX4_coupled_40 : decode cX4_coupled 40 = .ok (.iload_n 1, 1) := by decide +kernel
theorem dX4_coupled_41 : decode cX4_coupled 41 = .ok (.invokevirtual 121, 3) := by decide +kernel
theorem dX4_coupled_44 : decode cX4_coupled 44 = .ok (.dstore 9, 2) := by decide +kernel
theorem dX4_coupled_46 : decode cX4_coupled 46 = .ok (.dload 7, 2) := by decide +kernel
theorem dX4_coupled_48 : decode cX4_coupled 48 = .ok (.dload_n 2, 1) := by decide +kernel
theorem dX4_coupled_49 : decode cX4_coupled 49 = .ok (.dload 9, 2) := by decide +kernel
theorem dX4_coupled_51 : decode cX4_coupled 51 = .ok (.dmul, 1) := by decide +kernel
theorem dX4_coupled_52 : decode cX4_coupled 52 = .ok (.dload 9, 2) := by decide +kernel
theorem dX4_coupled_54 : decode cX4_coupled 54 = .ok (.dmul, 1) := by decide +kernel
theorem dX4_coupled_55 : decode cX4_coupled 55 = .ok (.dadd, 1) := by decide +kernel
theorem dX4_coupled_56 : decode cX4_coupled 56 = .ok (.dload 4, 2) := by decide +kernel
theorem dX4_coupled_58 : decode cX4_coupled 58 = .ok (.dadd, 1) := by decide +kernel
theorem dX4_coupled_59 : decode cX4_coupled 59 = .ok (.dstore 11, 2) := by decide +kernel
theorem dX4_coupled_61 : decode cX4_coupled 61 = .ok (.dload 11, 2) := by decide +kernel
theorem dX4_coupled_63 : decode cX4_coupled 63 = .ok (.dload 11, 2) := by decide +kernel
theorem dX4_coupled_65 : decode cX4_coupled 65 = .ok (.dmul, 1) := by decide +kernel
theorem dX4_coupled_66 : decode cX4_coupled 66 = .ok (.ldc2_w 137, 3) := by decide +kernel
theorem dX4_coupled_69 : decode cX4_coupled 69 = .ok (.dload 7, 2) := by decide +kernel
theorem dX4_coupled_71 : decode cX4_coupled 71 = .ok (.dmul, 1) := by decide +kernel
theorem dX4_coupled_72 : decode cX4_coupled 72 = .ok (.dload 4, 2) := by decide +kernel
theorem dX4_coupled_74 : decode cX4_coupled 74 = .ok (.dmul, 1) := by decide +kernel
theorem dX4_coupled_75 : decode cX4_coupled 75 = .ok (.dsub, 1) := by decide +kernel
theorem dX4_coupled_76 : decode cX4_coupled 76 = .ok (.dstore 13, 2) := by decide +kernel
theorem dX4_coupled_78 : decode cX4_coupled 78 = .ok (.iload 6, 2) := by decide +kernel
theorem dX4_coupled_80 : decode cX4_coupled 80 = .ok (.ifCond .eq 18, 3) := by decide +kernel
theorem dX4_coupled_83 : decode cX4_coupled 83 = .ok (.dload 11, 2) := by decide +kernel
theorem dX4_coupled_85 : decode cX4_coupled 85 = .ok (.dload 13, 2) := by decide +kernel
theorem dX4_coupled_87 : decode cX4_coupled 87 = .ok (.invokestatic 139, 3) := by decide +kernel
theorem dX4_coupled_90 : decode cX4_coupled 90 = .ok (.dadd, 1) := by decide +kernel
theorem dX4_coupled_91 : decode cX4_coupled 91 = .ok (.ldc2_w 143, 3) := by decide +kernel
theorem dX4_coupled_94 : decode cX4_coupled 94 = .ok (.ddiv, 1) := by decide +kernel
theorem dX4_coupled_95 : decode cX4_coupled 95 = .ok (.goto 15, 3) := by decide +kernel
theorem dX4_coupled_98 : decode cX4_coupled 98 = .ok (.dload 11, 2) := by decide +kernel
theorem dX4_coupled_100 : decode cX4_coupled 100 = .ok (.dload 13, 2) := by decide +kernel
theorem dX4_coupled_102 : decode cX4_coupled 102 = .ok (.invokestatic 139, 3) := by decide +kernel
theorem dX4_coupled_105 : decode cX4_coupled 105 = .ok (.dsub, 1) := by decide +kernel
theorem dX4_coupled_106 : decode cX4_coupled 106 = .ok (.ldc2_w 143, 3) := by decide +kernel
theorem dX4_coupled_109 : decode cX4_coupled 109 = .ok (.ddiv, 1) := by decide +kernel
theorem dX4_coupled_110 : decode cX4_coupled 110 = .ok (.dreturn, 1) := by decide +kernel
set_option maxRecDepth 20000 in
theorem ggX4_weight_X2_massOfAll : GoodIn wsX4_weight wsX2_massOfAll := goodIn_r _ [6, 7, 8, 9, 10, 5, 11, 12, 17, 18, 19, 20, 21, 22, 23, 24, 25] (by decide +kernel) (by decide +kernel)
set_option maxRecDepth 20000 in
theorem gX4_weight_X2_massOfAll : GoodIn wsX4_weight (wsV RX4 145 RX2 yX2_massOfAll wsX2_massOfAll) := goodIn_app (goodIn_of _ (by decide +kernel)) ggX4_weight_X2_massOfAll
theorem dX4_weight_0 : decode cX4_weight 0 = .ok (.aload_n 0, 1) := by decide +kernel
theorem dX4_weight_1 : decode cX4_weight 1 = .ok (.getfield 18, 3) := by decide +kernel
theorem dX4_weight_4 : decode cX4_weight 4 = .ok (.invokevirtual 145, 3) := by decide +kernel
theorem dX4_weight_7 : decode cX4_weight 7 = .ok (.dreturn, 1) := by decide +kernel
set_option maxRecDepth 20000 in
theorem ggX4_want_X4_requireMode : GoodIn wsX4_want wsX4_requireMode := goodIn_ca (goodIn_r _ [8, 9, 10] (by decide +kernel) (by decide +kernel)) (goodIn_sub (fun _ h => List.mem_cons_of_mem _ (List.mem_append_left _ (List.mem_append_right _ h))) (by decide +kernel))
set_option maxRecDepth 20000 in
theorem gX4_want_X4_requireMode : GoodIn wsX4_want (va_wsS RX4 103 yX4_requireMode wsX4_requireMode) := goodIn_app (goodIn_of _ (by decide +kernel)) ggX4_want_X4_requireMode
set_option maxRecDepth 20000 in
theorem ggX4_want_X4_requireRange : GoodIn wsX4_want wsX4_requireRange := goodIn_ca (goodIn_r _ [13, 14, 15] (by decide +kernel) (by decide +kernel)) (goodIn_sub (fun _ h => List.mem_cons_of_mem _ (List.mem_append_right _ h)) (by decide +kernel))
set_option maxRecDepth 20000 in
theorem gX4_want_X4_requireRange : GoodIn wsX4_want (va_wsS RX4 48 yX4_requireRange wsX4_requireRange) := goodIn_app (goodIn_of _ (by decide +kernel)) ggX4_want_X4_requireRange
set_option maxRecDepth 20000 in
theorem ggX4_want_X3_full : GoodIn wsX4_want wsX3_full := goodIn_r _ [20, 21, 33, 34, 35] (by decide +kernel) (by decide +kernel)
set_option maxRecDepth 20000 in
theorem gX4_want_X3_full : GoodIn wsX4_want (wsV RX4 151 RX3 yX3_full wsX3_full) := goodIn_app (goodIn_of _ (by decide +kernel)) ggX4_want_X3_full
set_option maxRecDepth 20000 in
theorem ggX4_want_X3_add : GoodIn wsX4_want wsX3_add := goodIn_r _ [25, 26, 21, 27, 28, 17, 18, 19, 20, 33, 34, 35] (by decide +kernel) (by decide +kernel)
set_option maxRecDepth 20000 in
theorem gX4_want_X3_add : GoodIn wsX4_want (wsV RX4 156 RX3 yX3_add wsX3_add) := goodIn_app (goodIn_of _ (by decide +kernel)) ggX4_want_X3_add
theorem dX4_want_0 : decode cX4_want 0 = .ok (.iload_n 1, 1) := by decide +kernel
theorem dX4_want_1 : decode cX4_want 1 = .ok (.invokestatic 103, 3) := by decide +kernel
theorem dX4_want_4 : decode cX4_want 4 = .ok (.dload_n 2, 1) := by decide +kernel
theorem dX4_want_5 : decode cX4_want 5 = .ok (.dconst 0, 1) := by decide +kernel
theorem dX4_want_6 : decode cX4_want 6 = .ok (.ldc2_w 149, 3) := by decide +kernel
theorem dX4_want_9 : decode cX4_want 9 = .ok (.invokestatic 48, 3) := by decide +kernel
theorem dX4_want_12 : decode cX4_want 12 = .ok (.aload_n 0, 1) := by decide +kernel
theorem dX4_want_13 : decode cX4_want 13 = .ok (.getfield 37, 3) := by decide +kernel
theorem dX4_want_16 : decode cX4_want 16 = .ok (.invokevirtual 151, 3) := by decide +kernel
theorem dX4_want_19 : decode cX4_want 19 = .ok (.ifCond .eq 13, 3) := by decide +kernel
theorem dX4_want_22 : decode cX4_want 22 = .ok (.new 81, 3) := by decide +kernel
theorem dX4_want_25 : decode cX4_want 25 = .ok (.dup, 1) := by decide +kernel
theorem dX4_want_26 : decode cX4_want 26 = .ok (.ldc 154, 2) := by decide +kernel
theorem dX4_want_28 : decode cX4_want 28 = .ok (.invokespecial 85, 3) := by decide +kernel
theorem dX4_want_31 : decode cX4_want 31 = .ok (.athrow, 1) := by decide +kernel
theorem dX4_want_32 : decode cX4_want 32 = .ok (.aload_n 0, 1) := by decide +kernel
theorem dX4_want_33 : decode cX4_want 33 = .ok (.getfield 37, 3) := by decide +kernel
theorem dX4_want_36 : decode cX4_want 36 = .ok (.iload_n 1, 1) := by decide +kernel
theorem dX4_want_37 : decode cX4_want 37 = .ok (.dload_n 2, 1) := by decide +kernel
theorem dX4_want_38 : decode cX4_want 38 = .ok (.invokevirtual 156, 3) := by decide +kernel
theorem dX4_want_41 : decode cX4_want 41 = .ok (.ireturn, 1) := by decide +kernel
set_option maxRecDepth 20000 in
theorem ggX4_thin_X4_requireRange : GoodIn wsX4_thin wsX4_requireRange := goodIn_ca (goodIn_r _ [12, 13, 14] (by decide +kernel) (by decide +kernel)) (goodIn_sub (fun _ h => List.mem_cons_of_mem _ (List.mem_append_right _ h)) (by decide +kernel))
set_option maxRecDepth 20000 in
theorem gX4_thin_X4_requireRange : GoodIn wsX4_thin (va_wsS RX4 48 yX4_requireRange wsX4_requireRange) := goodIn_app (goodIn_of _ (by decide +kernel)) ggX4_thin_X4_requireRange
set_option maxRecDepth 20000 in
theorem ggX4_thin_X3_modesNeeded : GoodIn wsX4_thin wsX3_modesNeeded := goodIn_r _ [19, 20, 21, 22, 23, 24, 25, 180, 181, 182] (by decide +kernel) (by decide +kernel)
set_option maxRecDepth 20000 in
theorem gX4_thin_X3_modesNeeded : GoodIn wsX4_thin (wsV RX4 160 RX3 yX3_modesNeeded wsX3_modesNeeded) := goodIn_app (goodIn_of _ (by decide +kernel)) ggX4_thin_X3_modesNeeded
set_option maxRecDepth 20000 in
theorem ggX4_thin_X1_make : GoodIn wsX4_thin wsX1_make := goodIn_r _ [30, 31, 32, 33, 34, 35, 36, 37, 38, 39, 40, 41, 42, 43, 44, 45, 46, 47, 48, 49, 50, 51, 52, 53, 54, 55, 56, 57, 58, 59, 60, 61, 62, 63, 64, 65, 66, 67, 68, 69, 70, 71, 72, 73, 74, 75, 76, 77, 78, 79, 80, 81, 82, 83, 84, 85, 86, 87, 88, 89, 90, 91, 29, 92, 93, 94, 95, 96, 97, 98, 99, 100, 101, 102, 103, 104, 105, 106, 107, 108, 11, 109, 110, 111, 112, 113, 114, 115, 116, 117, 118, 119, 120, 121, 122, 123, 124, 125, 126, 127, 128, 129, 130, 131, 132, 133, 134, 135, 136, 137, 138, 139, 140, 141, 142, 143, 144, 145, 146, 147, 148, 149, 183, 184, 185, 186, 187, 188, 189, 190, 191, 192, 193, 194, 195, 196, 197, 198, 199, 200, 201, 202] (by decide +kernel) (by decide +kernel)
set_option maxRecDepth 20000 in
theorem gX4_thin_X1_make : GoodIn wsX4_thin (wsV RX4 100 RX1 yX1_make wsX1_make) := goodIn_app (goodIn_of _ (by decide +kernel)) ggX4_thin_X1_make
set_option maxRecDepth 20000 in
theorem ggX4_thin_X3_missedBy : GoodIn wsX4_thin wsX3_missedBy := goodIn_r _ [153, 20, 21, 154, 155, 156, 157, 29, 158, 135, 180, 181, 182, 183, 184, 185, 186, 187, 188] (by decide +kernel) (by decide +kernel)
set_option maxRecDepth 20000 in
theorem gX4_thin_X3_missedBy : GoodIn wsX4_thin (wsV RX4 166 RX3 yX3_missedBy wsX3_missedBy) := goodIn_app (goodIn_of _ (by decide +kernel)) ggX4_thin_X3_missedBy
set_option maxRecDepth 20000 in
theorem ggX4_thin_X2_cells : GoodIn wsX4_thin wsX2_cells := goodIn_r _ [162, 53, 189, 190, 191, 192, 193, 194, 195, 196, 197] (by decide +kernel) (by decide +kernel)
set_option maxRecDepth 20000 in
theorem gX4_thin_X2_cells : GoodIn wsX4_thin (wsV RX4 170 RX2 yX2_cells wsX2_cells) := goodIn_app (goodIn_of _ (by decide +kernel)) ggX4_thin_X2_cells
set_option maxRecDepth 20000 in
theorem ggX4_thin_X2_hasWood : GoodIn wsX4_thin wsX2_hasWood := goodIn_r _ [58, 53, 189, 190, 191, 192, 193, 194, 195, 196, 197] (by decide +kernel) (by decide +kernel)
set_option maxRecDepth 20000 in
theorem gX4_thin_X2_hasWood : GoodIn wsX4_thin (wsV RX4 173 RX2 yX2_hasWood wsX2_hasWood) := goodIn_app (goodIn_of _ (by decide +kernel)) ggX4_thin_X2_hasWood
set_option maxRecDepth 20000 in
theorem ggX4_thin_X2_thicknessOf : GoodIn wsX4_thin wsX2_thicknessOf := goodIn_r _ [167, 53, 189, 190, 191, 192, 193, 194, 195, 196, 197] (by decide +kernel) (by decide +kernel)
set_option maxRecDepth 20000 in
theorem gX4_thin_X2_thicknessOf : GoodIn wsX4_thin (wsV RX4 56 RX2 yX2_thicknessOf wsX2_thicknessOf) := goodIn_app (goodIn_of _ (by decide +kernel)) ggX4_thin_X2_thicknessOf
set_option maxRecDepth 20000 in
theorem ggX4_thin_X4_tryThinner : GoodIn wsX4_thin wsX4_tryThinner := goodIn_r _ [171, 7, 5, 6, 164, 165, 166, 36, 167, 53, 15, 16, 17, 18, 19, 20, 21, 22, 23, 24, 25, 172, 173, 174, 175, 26, 27, 28, 29, 30, 31, 32, 33, 34, 35, 37, 38, 39, 40, 41, 42, 43, 44, 45, 46, 47, 48, 49, 50, 51, 52, 54, 55, 56, 57, 58, 59, 60, 61, 62, 63, 64, 65, 66, 67, 68, 69, 70, 71, 72, 73, 74, 75, 76, 77, 78, 79, 80, 81, 82, 83, 84, 85, 86, 87, 88, 89, 90, 91, 92, 93, 94, 95, 96, 97, 98, 99, 100, 101, 102, 103, 104, 105, 106, 107, 108, 11, 109, 110, 111, 112, 113, 114, 115, 116, 117, 118, 119, 120, 121, 122, 123, 124, 125, 126, 127, 128, 129, 130, 131, 132, 133, 134, 135, 136, 137, 138, 139, 140, 141, 142, 143, 144, 145, 146, 147, 148, 149, 150, 151, 152, 153, 154, 155, 156, 157, 158, 176, 177, 178, 179, 189, 190, 191, 192, 193, 194, 195, 196, 197, 180, 181, 182, 183, 184, 185, 186, 187, 188, 198, 199, 200, 201, 202] (by decide +kernel) (by decide +kernel)
set_option maxRecDepth 20000 in
theorem gX4_thin_X4_tryThinner : GoodIn wsX4_thin (wsV RX4 177 RX4 yX4_tryThinner wsX4_tryThinner) := goodIn_app (goodIn_of _ (by decide +kernel)) ggX4_thin_X4_tryThinner
theorem dX4_thin_0 : decode cX4_thin 0 = .ok (.dload_n 1, 1) := by decide +kernel
theorem dX4_thin_1 : decode cX4_thin 1 = .ok (.ldc2_w 44, 3) := by decide +kernel
theorem dX4_thin_4 : decode cX4_thin 4 = .ok (.dconst 1, 1) := by decide +kernel
theorem dX4_thin_5 : decode cX4_thin 5 = .ok (.invokestatic 48, 3) := by decide +kernel
theorem dX4_thin_8 : decode cX4_thin 8 = .ok (.dload_n 3, 1) := by decide +kernel
theorem dX4_thin_9 : decode cX4_thin 9 = .ok (.ldc2_w 44, 3) := by decide +kernel
theorem dX4_thin_12 : decode cX4_thin 12 = .ok (.ldc2_w 46, 3) := by decide +kernel
theorem dX4_thin_15 : decode cX4_thin 15 = .ok (.invokestatic 48, 3) := by decide +kernel
theorem dX4_thin_18 : decode cX4_thin 18 = .ok (.aload_n 0, 1) := by decide +kernel
theorem dX4_thin_19 : decode cX4_thin 19 = .ok (.getfield 37, 3) := by decide +kernel
theorem dX4_thin_22 : decode cX4_thin 22 = .ok (.invokevirtual 160, 3) := by decide +kernel
theorem dX4_thin_25 : decode cX4_thin 25 = .ok (.istore 5, 2) := by decide +kernel
theorem dX4_thin_27 : decode cX4_thin 27 = .ok (.iload 5, 2) := by decide +kernel
theorem dX4_thin_29 : decode cX4_thin 29 = .ok (.ifCond .eq 17, 3) := by decide +kernel
theorem dX4_thin_32 : decode cX4_thin 32 = .ok (.aload_n 0, 1) := by decide +kernel
theorem dX4_thin_33 : decode cX4_thin 33 = .ok (.getfield 31, 3) := by decide +kernel
theorem dX4_thin_36 : decode cX4_thin 36 = .ok (.iload 5, 2) := by decide +kernel
theorem dX4_thin_38 : decode cX4_thin 38 = .ok (.invokevirtual 100, 3) := by decide +kernel
theorem dX4_thin_41 : decode cX4_thin 41 = .ok (.iload 5, 2) := by decide +kernel
theorem dX4_thin_43 : decode cX4_thin 43 = .ok (.if_icmp .ge 13, 3) := by decide +kernel
theorem dX4_thin_46 : decode cX4_thin 46 = .ok (.new 81, 3) := by decide +kernel
theorem dX4_thin_49 : decode cX4_thin 49 = .ok (.dup, 1) := by decide +kernel
theorem dX4_thin_50 : decode cX4_thin 50 = .ok (.ldc 164, 2) := by decide +kernel
theorem dX4_thin_52 : decode cX4_thin 52 = .ok (.invokespecial 85, 3) := by decide +kernel
theorem dX4_thin_55 : decode cX4_thin 55 = .ok (.athrow, 1) := by decide +kernel
theorem dX4_thin_56 : decode cX4_thin 56 = .ok (.aload_n 0, 1) := by decide +kernel
theorem dX4_thin_57 : decode cX4_thin 57 = .ok (.getfield 37, 3) := by decide +kernel
theorem dX4_thin_60 : decode cX4_thin 60 = .ok (.aload_n 0, 1) := by decide +kernel
theorem dX4_thin_61 : decode cX4_thin 61 = .ok (.getfield 31, 3) := by decide +kernel
theorem dX4_thin_64 : decode cX4_thin 64 = .ok (.invokevirtual 166, 3) := by decide +kernel
theorem dX4_thin_67 : decode cX4_thin 67 = .ok (.dstore 6, 2) := by decide +kernel
theorem dX4_thin_69 : decode cX4_thin 69 = .ok (.iconst 0, 1) := by decide +kernel
theorem dX4_thin_70 : decode cX4_thin 70 = .ok (.istore 8, 2) := by decide +kernel
theorem dX4_thin_72 : decode cX4_thin 72 = .ok (.iconst 0, 1) := by decide +kernel
theorem dX4_thin_73 : decode cX4_thin 73 = .ok (.istore 9, 2) := by decide +kernel
theorem dX4_thin_75 : decode cX4_thin 75 = .ok (.iload 9, 2) := by decide +kernel
theorem dX4_thin_77 : decode cX4_thin 77 = .ok (.aload_n 0, 1) := by decide +kernel
theorem dX4_thin_78 : decode cX4_thin 78 = .ok (.getfield 18, 3) := by decide +kernel
theorem dX4_thin_81 : decode cX4_thin 81 = .ok (.invokevirtual 170, 3) := by decide +kernel
theorem dX4_thin_84 : decode cX4_thin 84 = .ok (.if_icmp .ge 63, 3) := by decide +kernel
theorem dX4_thin_87 : decode cX4_thin 87 = .ok (.aload_n 0, 1) := by decide +kernel
theorem dX4_thin_88 : decode cX4_thin 88 = .ok (.getfield 18, 3) := by decide +kernel
theorem dX4_thin_91 : decode cX4_thin 91 = .ok (.iload 9, 2) := by decide +kernel
theorem dX4_thin_93 : decode cX4_thin 93 = .ok (.invokevirtual 173, 3) := by decide +kernel
theorem dX4_thin_96 : decode cX4_thin 96 = .ok (.ifCond .eq 45, 3) := by decide +kernel
theorem dX4_thin_99 : decode cX4_thin 99 = .ok (.aload_n 0, 1) := by decide +kernel
theorem dX4_thin_100 : decode cX4_thin 100 = .ok (.getfield 18, 3) := by decide +kernel
theorem dX4_thin_103 : decode cX4_thin 103 = .ok (.iload 9, 2) := by decide +kernel
theorem dX4_thin_105 : decode cX4_thin 105 = .ok (.invokevirtual 56, 3) := by decide +kernel
theorem dX4_thin_108 : decode cX4_thin 108 = .ok (.dload_n 1, 1) := by decide +kernel
theorem dX4_thin_109 : decode cX4_thin 109 = .ok (.dsub, 1) := by decide +kernel
theorem dX4_thin_110 : decode cX4_thin 110 = .ok (.dload_n 3, 1) := by decide +kernel
theorem dX4_thin_111 : decode cX4_thin 111 = .ok (.dcmp .l, 1) := by decide +kernel
theorem dX4_thin_112 : decode cX4_thin 112 = .ok (.ifCond .lt 29, 3) := by decide +kernel
theorem dX4_thin_115 : decode cX4_thin 115 = .ok (.aload_n 0, 1) := by decide +kernel
theorem dX4_thin_116 : decode cX4_thin 116 = .ok (.iload 9, 2) := by decide +kernel
theorem dX4_thin_118 : decode cX4_thin 118 = .ok (.dload_n 1, 1) := by decide +kernel
theorem dX4_thin_119 : decode cX4_thin 119 = .ok (.dload 6, 2) := by decide +kernel
theorem dX4_thin_121 : decode cX4_thin 121 = .ok (.invokevirtual 177, 3) := by decide +kernel
theorem dX4_thin_124 : decode cX4_thin 124 = .ok (.dstore 10, 2) := by decide +kernel
theorem dX4_thin_126 : decode cX4_thin 126 = .ok (.dload 10, 2) := by decide +kernel
theorem dX4_thin_128 : decode cX4_thin 128 = .ok (.dload 6, 2) := by decide +kernel
theorem dX4_thin_130 : decode cX4_thin 130 = .ok (.dcmp .g, 1) := by decide +kernel
theorem dX4_thin_131 : decode cX4_thin 131 = .ok (.ifCond .ge 10, 3) := by decide +kernel
theorem dX4_thin_134 : decode cX4_thin 134 = .ok (.dload 10, 2) := by decide +kernel
theorem dX4_thin_136 : decode cX4_thin 136 = .ok (.dstore 6, 2) := by decide +kernel
theorem dX4_thin_138 : decode cX4_thin 138 = .ok (.iinc 8 1, 3) := by decide +kernel
theorem dX4_thin_141 : decode cX4_thin 141 = .ok (.iinc 9 1, 3) := by decide +kernel
theorem dX4_thin_144 : decode cX4_thin 144 = .ok (.goto (-69), 3) := by decide +kernel
theorem dX4_thin_147 : decode cX4_thin 147 = .ok (.aload_n 0, 1) := by decide +kernel
theorem dX4_thin_148 : decode cX4_thin 148 = .ok (.getfield 27, 3) := by decide +kernel
theorem dX4_thin_151 : decode cX4_thin 151 = .ok (.iload 5, 2) := by decide +kernel
theorem dX4_thin_153 : decode cX4_thin 153 = .ok (.invokevirtual 100, 3) := by decide +kernel
theorem dX4_thin_156 : decode cX4_thin 156 = .ok (.pop, 1) := by decide +kernel
theorem dX4_thin_157 : decode cX4_thin 157 = .ok (.iload 8, 2) := by decide +kernel
theorem dX4_thin_159 : decode cX4_thin 159 = .ok (.ireturn, 1) := by decide +kernel
set_option maxRecDepth 20000 in
theorem ggX4_sum_X3_modesNeeded : GoodIn wsX4_sum wsX3_modesNeeded := goodIn_r _ [9, 10, 11, 12, 13, 14, 15, 36, 37, 38] (by decide +kernel) (by decide +kernel)
set_option maxRecDepth 20000 in
theorem gX4_sum_X3_modesNeeded : GoodIn wsX4_sum (wsV RX4 160 RX3 yX3_modesNeeded wsX3_modesNeeded) := goodIn_app (goodIn_of _ (by decide +kernel)) ggX4_sum_X3_modesNeeded
set_option maxRecDepth 20000 in
theorem ggX4_sum_X1_count : GoodIn wsX4_sum wsX1_count := goodIn_r _ [20, 21, 39, 40, 41, 42, 43, 44] (by decide +kernel) (by decide +kernel)
set_option maxRecDepth 20000 in
theorem gX4_sum_X1_count : GoodIn wsX4_sum (wsV RX4 181 RX1 yX1_count wsX1_count) := goodIn_app (goodIn_of _ (by decide +kernel)) ggX4_sum_X1_count
set_option maxRecDepth 20000 in
theorem ggX4_sum_X3_missedBy : GoodIn wsX4_sum wsX3_missedBy := goodIn_r _ [25, 10, 11, 26, 27, 28, 29, 19, 30, 31, 36, 37, 38, 39, 40, 41, 42, 43, 44] (by decide +kernel) (by decide +kernel)
set_option maxRecDepth 20000 in
theorem gX4_sum_X3_missedBy : GoodIn wsX4_sum (wsV RX4 166 RX3 yX3_missedBy wsX3_missedBy) := goodIn_app (goodIn_of _ (by decide +kernel)) ggX4_sum_X3_missedBy
theorem dX4_sum_0 : decode cX4_sum 0 = .ok (.aload_n 0, 1) := by decide +kernel
theorem dX4_sum_1 : decode cX4_sum 1 = .ok (.getfield 37, 3) := by decide +kernel
theorem dX4_sum_4 : decode cX4_sum 4 = .ok (.invokevirtual 160, 3) := by decide +kernel
theorem dX4_sum_7 : decode cX4_sum 7 = .ok (.istore_n 1, 1) := by decide +kernel
theorem dX4_sum_8 : decode cX4_sum 8 = .ok (.iload_n 1, 1) := by decide +kernel
theorem dX4_sum_9 : decode cX4_sum 9 = .ok (.ifCond .eq 14, 3) := by decide +kernel
theorem dX4_sum_12 : decode cX4_sum 12 = .ok (.aload_n 0, 1) := by decide +kernel
theorem dX4_sum_13 : decode cX4_sum 13 = .ok (.getfield 27, 3) := by decide +kernel
theorem dX4_sum_16 : decode cX4_sum 16 = .ok (.invokevirtual 181, 3) := by decide +kernel
theorem dX4_sum_19 : decode cX4_sum 19 = .ok (.iload_n 1, 1) := by decide +kernel
theorem dX4_sum_20 : decode cX4_sum 20 = .ok (.if_icmp .ge 13, 3) := by decide +kernel
theorem dX4_sum_23 : decode cX4_sum 23 = .ok (.new 81, 3) := by decide +kernel
theorem dX4_sum_26 : decode cX4_sum 26 = .ok (.dup, 1) := by decide +kernel
theorem dX4_sum_27 : decode cX4_sum 27 = .ok (.ldc 184, 2) := by decide +kernel
theorem dX4_sum_29 : decode cX4_sum 29 = .ok (.invokespecial 85, 3) := by decide +kernel
theorem dX4_sum_32 : decode cX4_sum 32 = .ok (.athrow, 1) := by decide +kernel
theorem dX4_sum_33 : decode cX4_sum 33 = .ok (.aload_n 0, 1) := by decide +kernel
theorem dX4_sum_34 : decode cX4_sum 34 = .ok (.getfield 37, 3) := by decide +kernel
theorem dX4_sum_37 : decode cX4_sum 37 = .ok (.aload_n 0, 1) := by decide +kernel
theorem dX4_sum_38 : decode cX4_sum 38 = .ok (.getfield 27, 3) := by decide +kernel
theorem dX4_sum_41 : decode cX4_sum 41 = .ok (.invokevirtual 166, 3) := by decide +kernel
theorem dX4_sum_44 : decode cX4_sum 44 = .ok (.dreturn, 1) := by decide +kernel
set_option maxRecDepth 20000 in
theorem ggX4_tap_X4_requireMode : GoodIn wsX4_tap wsX4_requireMode := goodIn_ca (goodIn_r _ [7, 8, 9] (by decide +kernel) (by decide +kernel)) (goodIn_sub (fun _ h => List.mem_cons_of_mem _ (List.mem_append_left _ (List.mem_append_left _ (List.mem_append_right _ h)))) (by decide +kernel))
set_option maxRecDepth 20000 in
theorem gX4_tap_X4_requireMode : GoodIn wsX4_tap (va_wsS RX4 103 yX4_requireMode wsX4_requireMode) := goodIn_app (goodIn_of _ (by decide +kernel)) ggX4_tap_X4_requireMode
set_option maxRecDepth 20000 in
theorem ggX4_tap_X4_requireCell : GoodIn wsX4_tap wsX4_requireCell := goodIn_ca (goodIn_r _ [13, 8, 9, 3, 14, 15, 16, 17, 18, 19, 20, 52, 53, 54, 55, 56, 57, 58, 59, 60, 61, 62, 63, 64] (by decide +kernel) (by decide +kernel)) (goodIn_sub (fun _ h => List.mem_cons_of_mem _ (List.mem_append_left _ (List.mem_append_left _ (List.mem_append_right _ h)))) (by decide +kernel))
set_option maxRecDepth 20000 in
theorem gX4_tap_X4_requireCell : GoodIn wsX4_tap (wsV RX4 41 RX4 yX4_requireCell wsX4_requireCell) := goodIn_app (goodIn_of _ (by decide +kernel)) ggX4_tap_X4_requireCell
set_option maxRecDepth 20000 in
theorem ggX4_tap_X4_requireRange : GoodIn wsX4_tap wsX4_requireRange := goodIn_ca (goodIn_r _ [23, 24, 25] (by decide +kernel) (by decide +kernel)) (goodIn_sub (fun _ h => List.mem_cons_of_mem _ (List.mem_append_left _ (List.mem_append_right _ h))) (by decide +kernel))
set_option maxRecDepth 20000 in
theorem gX4_tap_X4_requireRange : GoodIn wsX4_tap (va_wsS RX4 48 yX4_requireRange wsX4_requireRange) := goodIn_app (goodIn_of _ (by decide +kernel)) ggX4_tap_X4_requireRange
set_option maxRecDepth 20000 in
theorem ggX4_tap_X4_requireMade : GoodIn wsX4_tap wsX4_requireMade := goodIn_ca (goodIn_r _ [29, 30, 31, 2, 32, 33, 34, 35, 36, 37, 52, 53, 54, 55, 65, 66, 67, 68, 69, 70] (by decide +kernel) (by decide +kernel)) (goodIn_sub (fun _ h => List.mem_cons_of_mem _ (List.mem_append_right _ h)) (by decide +kernel))
set_option maxRecDepth 20000 in
theorem gX4_tap_X4_requireMade : GoodIn wsX4_tap (wsV RX4 112 RX4 yX4_requireMade wsX4_requireMade) := goodIn_app (goodIn_of _ (by decide +kernel)) ggX4_tap_X4_requireMade
set_option maxRecDepth 20000 in
theorem ggX4_tap_X2_cellAt : GoodIn wsX4_tap wsX2_cellAt := goodIn_r _ [41, 19, 56, 57, 58, 59, 60, 61, 62, 63, 64] (by decide +kernel) (by decide +kernel)
set_option maxRecDepth 20000 in
theorem gX4_tap_X2_cellAt : GoodIn wsX4_tap (wsV RX4 52 RX2 yX2_cellAt wsX2_cellAt) := goodIn_app (goodIn_of _ (by decide +kernel)) ggX4_tap_X2_cellAt
set_option maxRecDepth 20000 in
theorem ggX4_tap_X1_shapeAt : GoodIn wsX4_tap wsX1_shapeAt := goodIn_r _ [45, 46, 65, 66, 67, 68, 69, 70] (by decide +kernel) (by decide +kernel)
set_option maxRecDepth 20000 in
theorem gX4_tap_X1_shapeAt : GoodIn wsX4_tap (wsV RX4 124 RX1 yX1_shapeAt wsX1_shapeAt) := goodIn_app (goodIn_of _ (by decide +kernel)) ggX4_tap_X1_shapeAt
set_option maxRecDepth 20000 in
theorem ggX4_tap_X1_squareOf : GoodIn wsX4_tap wsX1_squareOf := goodIn_r _ [50, 51, 65, 66, 67, 68, 69, 70] (by decide +kernel) (by decide +kernel)
set_option maxRecDepth 20000 in
theorem gX4_tap_X1_squareOf : GoodIn wsX4_tap (wsV RX4 115 RX1 yX1_squareOf wsX1_squareOf) := goodIn_app (goodIn_of _ (by decide +kernel)) ggX4_tap_X1_squareOf
theorem dX4_tap_0 : decode cX4_tap 0 = .ok (.iload_n 1, 1) := by decide +kernel
theorem dX4_tap_1 : decode cX4_tap 1 = .ok (.invokestatic 103, 3) := by decide +kernel
theorem dX4_tap_4 : decode cX4_tap 4 = .ok (.aload_n 0, 1) := by decide +kernel
theorem dX4_tap_5 : decode cX4_tap 5 = .ok (.iload_n 2, 1) := by decide +kernel
theorem dX4_tap_6 : decode cX4_tap 6 = .ok (.iload_n 3, 1) := by decide +kernel
theorem dX4_tap_7 : decode cX4_tap 7 = .ok (.invokevirtual 41, 3) := by decide +kernel
theorem dX4_tap_10 : decode cX4_tap 10 = .ok (.dload 4, 2) := by decide +kernel
theorem dX4_tap_12 : decode cX4_tap 12 = .ok (.dconst 0, 1) := by decide +kernel
theorem dX4_tap_13 : decode cX4_tap 13 = .ok (.ldc2_w 149, 3) := by decide +kernel
theorem dX4_tap_16 : decode cX4_tap 16 = .ok (.invokestatic 48, 3) := by decide +kernel
theorem dX4_tap_19 : decode cX4_tap 19 = .ok (.aload_n 0, 1) := by decide +kernel
theorem dX4_tap_20 : decode cX4_tap 20 = .ok (.iload_n 1, 1) := by decide +kernel
theorem dX4_tap_21 : decode cX4_tap 21 = .ok (.invokevirtual 112, 3) := by decide +kernel
theorem dX4_tap_24 : decode cX4_tap 24 = .ok (.aload_n 0, 1) := by decide +kernel
theorem dX4_tap_25 : decode cX4_tap 25 = .ok (.getfield 27, 3) := by decide +kernel
theorem dX4_tap_28 : decode cX4_tap 28 = .ok (.iload_n 1, 1) := by decide +kernel
theorem dX4_tap_29 : decode cX4_tap 29 = .ok (.aload_n 0, 1) := by decide +kernel
theorem dX4_tap_30 : decode cX4_tap 30 = .ok (.getfield 18, 3) := by decide +kernel
theorem dX4_tap_33 : decode cX4_tap 33 = .ok (.iload_n 2, 1) := by decide +kernel
theorem dX4_tap_34 : decode cX4_tap 34 = .ok (.iload_n 3, 1) := by decide +kernel
theorem dX4_tap_35 : decode cX4_tap 35 = .ok (.invokevirtual 52, 3) := by decide +kernel
theorem dX4_tap_38 : decode cX4_tap 38 = .ok (.invokevirtual 124, 3) := by decide +kernel
theorem dX4_tap_41 : decode cX4_tap 41 = .ok (.dstore 6, 2) := by decide +kernel
theorem dX4_tap_43 : decode cX4_tap 43 = .ok (.dload 4, 2) := by decide +kernel
theorem dX4_tap_45 : decode cX4_tap 45 = .ok (.aload_n 0, 1) := by decide +kernel
theorem dX4_tap_46 : decode cX4_tap 46 = .ok (.getfield 27, 3) := by decide +kernel
theorem dX4_tap_49 : decode cX4_tap 49 = .ok (.iload_n 1, 1) := by decide +kernel
theorem dX4_tap_50 : decode cX4_tap 50 = .ok (.invokevirtual 115, 3) := by decide +kernel
theorem dX4_tap_53 : decode cX4_tap 53 = .ok (.dsub, 1) := by decide +kernel
theorem dX4_tap_54 : decode cX4_tap 54 = .ok (.dstore 8, 2) := by decide +kernel
theorem dX4_tap_56 : decode cX4_tap 56 = .ok (.dload 6, 2) := by decide +kernel
theorem dX4_tap_58 : decode cX4_tap 58 = .ok (.dload 6, 2) := by decide +kernel
theorem dX4_tap_60 : decode cX4_tap 60 = .ok (.dmul, 1) := by decide +kernel
theorem dX4_tap_61 : decode cX4_tap 61 = .ok (.dconst 1, 1) := by decide +kernel
theorem dX4_tap_62 : decode cX4_tap 62 = .ok (.dload 8, 2) := by decide +kernel
theorem dX4_tap_64 : decode cX4_tap 64 = .ok (.dload 8, 2) := by decide +kernel
theorem dX4_tap_66 : decode cX4_tap 66 = .ok (.dmul, 1) := by decide +kernel
theorem dX4_tap_67 : decode cX4_tap 67 = .ok (.dadd, 1) := by decide +kernel
theorem dX4_tap_68 : decode cX4_tap 68 = .ok (.ddiv, 1) := by decide +kernel
theorem dX4_tap_69 : decode cX4_tap 69 = .ok (.dreturn, 1) := by decide +kernel
theorem dX4_nearestSide_0 : decode cX4_nearestSide 0 = .ok (.iconst 2, 1) := by decide +kernel
theorem dX4_nearestSide_1 : decode cX4_nearestSide 1 = .ok (.bipush 6, 2) := by decide +kernel
theorem dX4_nearestSide_3 : decode cX4_nearestSide 3 = .ok (.iload_n 0, 1) := by decide +kernel
theorem dX4_nearestSide_4 : decode cX4_nearestSide 4 = .ok (.invokestatic 86, 3) := by decide +kernel
theorem dX4_nearestSide_7 : decode cX4_nearestSide 7 = .ok (.invokestatic 91, 3) := by decide +kernel
theorem dX4_nearestSide_10 : decode cX4_nearestSide 10 = .ok (.ireturn, 1) := by decide +kernel
set_option maxRecDepth 20000 in
theorem ggX4_requireCell_X2_hasCell : GoodIn wsX4_requireCell wsX2_hasCell := goodIn_r _ [8, 9, 10, 15, 16, 17, 18, 19, 20, 21, 22, 23] (by decide +kernel) (by decide +kernel)
set_option maxRecDepth 20000 in
theorem gX4_requireCell_X2_hasCell : GoodIn wsX4_requireCell (wsV RX4 186 RX2 yX2_hasCell wsX2_hasCell) := goodIn_app (goodIn_of _ (by decide +kernel)) ggX4_requireCell_X2_hasCell
theorem dX4_requireCell_0 : decode cX4_requireCell 0 = .ok (.aload_n 0, 1) := by decide +kernel
theorem dX4_requireCell_1 : decode cX4_requireCell 1 = .ok (.getfield 18, 3) := by decide +kernel
theorem dX4_requireCell_4 : decode cX4_requireCell 4 = .ok (.iload_n 1, 1) := by decide +kernel
theorem dX4_requireCell_5 : decode cX4_requireCell 5 = .ok (.iload_n 2, 1) := by decide +kernel
theorem dX4_requireCell_6 : decode cX4_requireCell 6 = .ok (.invokevirtual 186, 3) := by decide +kernel
theorem dX4_requireCell_9 : decode cX4_requireCell 9 = .ok (.ifCond .ne 13, 3) := by decide +kernel
theorem dX4_requireCell_12 : decode cX4_requireCell 12 = .ok (.new 107, 3) := by decide +kernel
theorem dX4_requireCell_15 : decode cX4_requireCell 15 = .ok (.dup, 1) := by decide +kernel
theorem dX4_requireCell_16 : decode cX4_requireCell 16 = .ok (.ldc 190, 2) := by decide +kernel
theorem dX4_requireCell_18 : decode cX4_requireCell 18 = .ok (.invokespecial 111, 3) := by decide +kernel
theorem dX4_requireCell_21 : decode cX4_requireCell 21 = .ok (.athrow, 1) := by decide +kernel
theorem dX4_requireCell_22 : decode cX4_requireCell 22 = .ok (.return_, 1) := by decide +kernel
theorem dX4_requireMode_0 : decode cX4_requireMode 0 = .ok (.iload_n 0, 1) := by decide +kernel
theorem dX4_requireMode_1 : decode cX4_requireMode 1 = .ok (.ifCond .lt 8, 3) := by decide +kernel
theorem dX4_requireMode_4 : decode cX4_requireMode 4 = .ok (.iload_n 0, 1) := by decide +kernel
theorem dX4_requireMode_5 : decode cX4_requireMode 5 = .ok (.iconst 4, 1) := by decide +kernel
theorem dX4_requireMode_6 : decode cX4_requireMode 6 = .ok (.if_icmp .lt 13, 3) := by decide +kernel
theorem dX4_requireMode_9 : decode cX4_requireMode 9 = .ok (.new 107, 3) := by decide +kernel
theorem dX4_requireMode_12 : decode cX4_requireMode 12 = .ok (.dup, 1) := by decide +kernel
theorem dX4_requireMode_13 : decode cX4_requireMode 13 = .ok (.ldc 192, 2) := by decide +kernel
theorem dX4_requireMode_15 : decode cX4_requireMode 15 = .ok (.invokespecial 111, 3) := by decide +kernel
theorem dX4_requireMode_18 : decode cX4_requireMode 18 = .ok (.athrow, 1) := by decide +kernel
theorem dX4_requireMode_19 : decode cX4_requireMode 19 = .ok (.return_, 1) := by decide +kernel
theorem dX4_requireRange_0 : decode cX4_requireRange 0 = .ok (.dload_n 0, 1) := by decide +kernel
theorem dX4_requireRange_1 : decode cX4_requireRange 1 = .ok (.dload_n 2, 1) := by decide +kernel
theorem dX4_requireRange_2 : decode cX4_requireRange 2 = .ok (.dcmp .l, 1) := by decide +kernel
theorem dX4_requireRange_3 : decode cX4_requireRange 3 = .ok (.ifCond .lt 10, 3) := by decide +kernel
theorem dX4_requireRange_6 : decode cX4_requireRange 6 = .ok (.dload_n 0, 1) := by decide +kernel
theorem dX4_requireRange_7 : decode cX4_requireRange 7 = .ok (.dload 4, 2) := by decide +kernel
theorem dX4_requireRange_9 : decode cX4_requireRange 9 = .ok (.dcmp .g, 1) := by decide +kernel
theorem dX4_requireRange_10 : decode cX4_requireRange 10 = .ok (.ifCond .le 13, 3) := by decide +kernel
theorem dX4_requireRange_13 : decode cX4_requireRange 13 = .ok (.new 70, 3) := by decide +kernel
theorem dX4_requireRange_16 : decode cX4_requireRange 16 = .ok (.dup, 1) := by decide +kernel
theorem dX4_requireRange_17 : decode cX4_requireRange 17 = .ok (.ldc 194, 2) := by decide +kernel
theorem dX4_requireRange_19 : decode cX4_requireRange 19 = .ok (.invokespecial 74, 3) := by decide +kernel
theorem dX4_requireRange_22 : decode cX4_requireRange 22 = .ok (.athrow, 1) := by decide +kernel
theorem dX4_requireRange_23 : decode cX4_requireRange 23 = .ok (.return_, 1) := by decide +kernel
set_option maxRecDepth 20000 in
theorem ggX4_requireMade_X1_count : GoodIn wsX4_requireMade wsX1_count := goodIn_r _ [8, 9, 14, 15, 16, 17, 18, 19] (by decide +kernel) (by decide +kernel)
set_option maxRecDepth 20000 in
theorem gX4_requireMade_X1_count : GoodIn wsX4_requireMade (wsV RX4 181 RX1 yX1_count wsX1_count) := goodIn_app (goodIn_of _ (by decide +kernel)) ggX4_requireMade_X1_count
theorem dX4_requireMade_0 : decode cX4_requireMade 0 = .ok (.iload_n 1, 1) := by decide +kernel
theorem dX4_requireMade_1 : decode cX4_requireMade 1 = .ok (.aload_n 0, 1) := by decide +kernel
theorem dX4_requireMade_2 : decode cX4_requireMade 2 = .ok (.getfield 27, 3) := by decide +kernel
theorem dX4_requireMade_5 : decode cX4_requireMade 5 = .ok (.invokevirtual 181, 3) := by decide +kernel
theorem dX4_requireMade_8 : decode cX4_requireMade 8 = .ok (.if_icmp .lt 13, 3) := by decide +kernel
theorem dX4_requireMade_11 : decode cX4_requireMade 11 = .ok (.new 81, 3) := by decide +kernel
theorem dX4_requireMade_14 : decode cX4_requireMade 14 = .ok (.dup, 1) := by decide +kernel
theorem dX4_requireMade_15 : decode cX4_requireMade 15 = .ok (.ldc 196, 2) := by decide +kernel
theorem dX4_requireMade_17 : decode cX4_requireMade 17 = .ok (.invokespecial 85, 3) := by decide +kernel
theorem dX4_requireMade_20 : decode cX4_requireMade 20 = .ok (.athrow, 1) := by decide +kernel
theorem dX4_requireMade_21 : decode cX4_requireMade 21 = .ok (.return_, 1) := by decide +kernel
set_option maxRecDepth 20000 in
theorem ggX4_tryThinner_X2_thicknessOf : GoodIn wsX4_tryThinner wsX2_thicknessOf := goodIn_r _ [8, 9, 161, 162, 163, 164, 165, 166, 167, 168, 169] (by decide +kernel) (by decide +kernel)
set_option maxRecDepth 20000 in
theorem gX4_tryThinner_X2_thicknessOf : GoodIn wsX4_tryThinner (wsV RX4 56 RX2 yX2_thicknessOf wsX2_thicknessOf) := goodIn_app (goodIn_of _ (by decide +kernel)) ggX4_tryThinner_X2_thicknessOf
set_option maxRecDepth 20000 in
theorem ggX4_tryThinner_X3_modesNeeded : GoodIn wsX4_tryThinner wsX3_modesNeeded := goodIn_r _ [14, 15, 16, 17, 18, 19, 20, 170, 171, 172] (by decide +kernel) (by decide +kernel)
set_option maxRecDepth 20000 in
theorem gX4_tryThinner_X3_modesNeeded : GoodIn wsX4_tryThinner (wsV RX4 160 RX3 yX3_modesNeeded wsX3_modesNeeded) := goodIn_app (goodIn_of _ (by decide +kernel)) ggX4_tryThinner_X3_modesNeeded
set_option maxRecDepth 20000 in
theorem ggX4_tryThinner_X2_setThickness : GoodIn wsX4_tryThinner wsX2_setThickness := goodIn_r _ [24, 9, 161, 162, 163, 164, 165, 166, 167, 168, 169] (by decide +kernel) (by decide +kernel)
set_option maxRecDepth 20000 in
theorem gX4_tryThinner_X2_setThickness : GoodIn wsX4_tryThinner (wsV RX4 60 RX2 yX2_setThickness wsX2_setThickness) := goodIn_app (goodIn_of _ (by decide +kernel)) ggX4_tryThinner_X2_setThickness
set_option maxRecDepth 20000 in
theorem ggX4_tryThinner_X1_make : GoodIn wsX4_tryThinner wsX1_make := goodIn_r _ [29, 30, 31, 32, 33, 34, 7, 35, 36, 37, 38, 39, 40, 41, 42, 43, 44, 45, 46, 47, 48, 49, 50, 9, 51, 52, 53, 54, 55, 56, 57, 58, 59, 60, 61, 62, 63, 64, 65, 66, 67, 68, 69, 70, 71, 72, 73, 74, 75, 76, 77, 78, 79, 80, 81, 82, 83, 84, 85, 86, 87, 88, 28, 89, 90, 91, 92, 93, 94, 95, 96, 97, 98, 99, 100, 101, 102, 103, 104, 105, 106, 107, 108, 109, 110, 111, 112, 113, 114, 115, 116, 117, 118, 119, 120, 121, 122, 123, 124, 125, 126, 127, 128, 129, 130, 131, 132, 133, 134, 135, 136, 137, 138, 139, 140, 141, 142, 143, 144, 145, 146, 147, 173, 174, 175, 176, 177, 178, 161, 162, 163, 164, 165, 166, 167, 168, 169, 179, 180, 181, 182, 183] (by decide +kernel) (by decide +kernel)
set_option maxRecDepth 20000 in
theorem gX4_tryThinner_X1_make : GoodIn wsX4_tryThinner (wsV RX4 100 RX1 yX1_make wsX1_make) := goodIn_app (goodIn_of _ (by decide +kernel)) ggX4_tryThinner_X1_make
set_option maxRecDepth 20000 in
theorem ggX4_tryThinner_X3_missedBy : GoodIn wsX4_tryThinner wsX3_missedBy := goodIn_r _ [151, 15, 16, 152, 153, 154, 155, 28, 156, 133, 170, 171, 172, 173, 174, 175, 176, 177, 178] (by decide +kernel) (by decide +kernel)
set_option maxRecDepth 20000 in
theorem gX4_tryThinner_X3_missedBy : GoodIn wsX4_tryThinner (wsV RX4 166 RX3 yX3_missedBy wsX3_missedBy) := goodIn_app (goodIn_of _ (by decide +kernel)) ggX4_tryThinner_X3_missedBy
theorem dX4_tryThinner_0 : decode cX4_tryThinner 0 = .ok (.aload_n 0, 1) := by decide +kernel
theorem dX4_tryThinner_1 : decode cX4_tryThinner 1 = .ok (.getfield 18, 3) := by decide +kernel
theorem dX4_tryThinner_4 : decode cX4_tryThinner 4 = .ok (.iload_n 1, 1) := by decide +kernel
theorem dX4_tryThinner_5 : decode cX4_tryThinner 5 = .ok (.invokevirtual 56, 3) := by decide +kernel
theorem dX4_tryThinner_8 : decode cX4_tryThinner 8 = .ok (.dstore 6, 2) := by decide +kernel
theorem dX4_tryThinner_10 : decode cX4_tryThinner 10 = .ok (.aload_n 0, 1) := by decide +kernel
theorem dX4_tryThinner_11 : decode cX4_tryThinner 11 = .ok (.getfield 37, 3) := by decide +kernel
theorem dX4_tryThinner_14 : decode cX4_tryThinner 14 = .ok (.invokevirtual 160, 3) := by decide +kernel
theorem dX4_tryThinner_17 : decode cX4_tryThinner 17 = .ok (.istore 8, 2) := by decide +kernel
theorem dX4_tryThinner_19 : decode cX4_tryThinner 19 = .ok (.aload_n 0, 1) := by decide +kernel
theorem dX4_tryThinner_20 : decode cX4_tryThinner 20 = .ok (.getfield 18, 3) := by decide +kernel
theorem dX4_tryThinner_23 : decode cX4_tryThinner 23 = .ok (.iload_n 1, 1) := by decide +kernel
theorem dX4_tryThinner_24 : decode cX4_tryThinner 24 = .ok (.dload 6, 2) := by decide +kernel
theorem dX4_tryThinner_26 : decode cX4_tryThinner 26 = .ok (.dload_n 2, 1) := by decide +kernel
theorem dX4_tryThinner_27 : decode cX4_tryThinner 27 = .ok (.dsub, 1) := by decide +kernel
theorem dX4_tryThinner_28 : decode cX4_tryThinner 28 = .ok (.invokevirtual 60, 3) := by decide +kernel
theorem dX4_tryThinner_31 : decode cX4_tryThinner 31 = .ok (.aload_n 0, 1) := by decide +kernel
theorem dX4_tryThinner_32 : decode cX4_tryThinner 32 = .ok (.getfield 31, 3) := by decide +kernel
theorem dX4_tryThinner_35 : decode cX4_tryThinner 35 = .ok (.iload 8, 2) := by decide +kernel
theorem dX4_tryThinner_37 : decode cX4_tryThinner 37 = .ok (.invokevirtual 100, 3) := by decide +kernel
theorem dX4_tryThinner_40 : decode cX4_tryThinner 40 = .ok (.iload 8, 2) := by decide +kernel
theorem dX4_tryThinner_42 : decode cX4_tryThinner 42 = .ok (.if_icmp .ne 27, 3) := by decide +kernel
theorem dX4_tryThinner_45 : decode cX4_tryThinner 45 = .ok (.aload_n 0, 1) := by decide +kernel
theorem dX4_tryThinner_46 : decode cX4_tryThinner 46 = .ok (.getfield 37, 3) := by decide +kernel
theorem dX4_tryThinner_49 : decode cX4_tryThinner 49 = .ok (.aload_n 0, 1) := by decide +kernel
theorem dX4_tryThinner_50 : decode cX4_tryThinner 50 = .ok (.getfield 31, 3) := by decide +kernel
theorem dX4_tryThinner_53 : decode cX4_tryThinner 53 = .ok (.invokevirtual 166, 3) := by decide +kernel
theorem dX4_tryThinner_56 : decode cX4_tryThinner 56 = .ok (.dstore 9, 2) := by decide +kernel
theorem dX4_tryThinner_58 : decode cX4_tryThinner 58 = .ok (.dload 9, 2) := by decide +kernel
theorem dX4_tryThinner_60 : decode cX4_tryThinner 60 = .ok (.dload 4, 2) := by decide +kernel
theorem dX4_tryThinner_62 : decode cX4_tryThinner 62 = .ok (.dcmp .g, 1) := by decide +kernel
theorem dX4_tryThinner_63 : decode cX4_tryThinner 63 = .ok (.ifCond .ge 6, 3) := by decide +kernel
theorem dX4_tryThinner_66 : decode cX4_tryThinner 66 = .ok (.dload 9, 2) := by decide +kernel
theorem dX4_tryThinner_68 : decode cX4_tryThinner 68 = .ok (.dreturn, 1) := by decide +kernel
theorem dX4_tryThinner_69 : decode cX4_tryThinner 69 = .ok (.aload_n 0, 1) := by decide +kernel
theorem dX4_tryThinner_70 : decode cX4_tryThinner 70 = .ok (.getfield 18, 3) := by decide +kernel
theorem dX4_tryThinner_73 : decode cX4_tryThinner 73 = .ok (.iload_n 1, 1) := by decide +kernel
theorem dX4_tryThinner_74 : decode cX4_tryThinner 74 = .ok (.dload 6, 2) := by decide +kernel
theorem dX4_tryThinner_76 : decode cX4_tryThinner 76 = .ok (.invokevirtual 60, 3) := by decide +kernel
theorem dX4_tryThinner_79 : decode cX4_tryThinner 79 = .ok (.dload 4, 2) := by decide +kernel
theorem dX4_tryThinner_81 : decode cX4_tryThinner 81 = .ok (.dreturn, 1) := by decide +kernel
theorem dX4_root_0 : decode cX4_root 0 = .ok (.dload_n 0, 1) := by decide +kernel
theorem dX4_root_1 : decode cX4_root 1 = .ok (.dconst 0, 1) := by decide +kernel
theorem dX4_root_2 : decode cX4_root 2 = .ok (.dcmp .l, 1) := by decide +kernel
theorem dX4_root_3 : decode cX4_root 3 = .ok (.ifCond .gt 5, 3) := by decide +kernel
theorem dX4_root_6 : decode cX4_root 6 = .ok (.dconst 0, 1) := by decide +kernel
theorem dX4_root_7 : decode cX4_root 7 = .ok (.dreturn, 1) := by decide +kernel
theorem dX4_root_8 : decode cX4_root 8 = .ok (.dconst 1, 1) := by decide +kernel
theorem dX4_root_9 : decode cX4_root 9 = .ok (.dload_n 0, 1) := by decide +kernel
theorem dX4_root_10 : decode cX4_root 10 = .ok (.dadd, 1) := by decide +kernel
theorem dX4_root_11 : decode cX4_root 11 = .ok (.dstore_n 2, 1) := by decide +kernel
theorem dX4_root_12 : decode cX4_root 12 = .ok (.iconst 0, 1) := by decide +kernel
theorem dX4_root_13 : decode cX4_root 13 = .ok (.istore 4, 2) := by decide +kernel
theorem dX4_root_15 : decode cX4_root 15 = .ok (.iload 4, 2) := by decide +kernel
theorem dX4_root_17 : decode cX4_root 17 = .ok (.bipush 30, 2) := by decide +kernel
theorem dX4_root_19 : decode cX4_root 19 = .ok (.if_icmp .ge 19, 3) := by decide +kernel
theorem dX4_root_22 : decode cX4_root 22 = .ok (.dload_n 2, 1) := by decide +kernel
theorem dX4_root_23 : decode cX4_root 23 = .ok (.dload_n 0, 1) := by decide +kernel
theorem dX4_root_24 : decode cX4_root 24 = .ok (.dload_n 2, 1) := by decide +kernel
theorem dX4_root_25 : decode cX4_root 25 = .ok (.ddiv, 1) := by decide +kernel
theorem dX4_root_26 : decode cX4_root 26 = .ok (.dadd, 1) := by decide +kernel
theorem dX4_root_27 : decode cX4_root 27 = .ok (.ldc2_w 143, 3) := by decide +kernel
theorem dX4_root_30 : decode cX4_root 30 = .ok (.ddiv, 1) := by decide +kernel
theorem dX4_root_31 : decode cX4_root 31 = .ok (.dstore_n 2, 1) := by decide +kernel
theorem dX4_root_32 : decode cX4_root 32 = .ok (.iinc 4 1, 3) := by decide +kernel
theorem dX4_root_35 : decode cX4_root 35 = .ok (.goto (-20), 3) := by decide +kernel
theorem dX4_root_38 : decode cX4_root 38 = .ok (.dload_n 2, 1) := by decide +kernel
theorem dX4_root_39 : decode cX4_root 39 = .ok (.dreturn, 1) := by decide +kernel
theorem dX4_ground_0 : decode cX4_ground 0 = .ok (.ldc2_w 198, 3) := by decide +kernel
theorem dX4_ground_3 : decode cX4_ground 3 = .ok (.dreturn, 1) := by decide +kernel
