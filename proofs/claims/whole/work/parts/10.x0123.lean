theorem dX0_init_0 : decode cX0_init 0 = .ok (.aload_n 0, 1) := by decide +kernel
theorem dX0_init_1 : decode cX0_init 1 = .ok (.invokespecial 3, 3) := by decide +kernel
theorem dX0_init_4 : decode cX0_init 4 = .ok (.aload_n 0, 1) := by decide +kernel
theorem dX0_init_5 : decode cX0_init 5 = .ok (.bipush 12, 2) := by decide +kernel
theorem dX0_init_7 : decode cX0_init 7 = .ok (.newarray .int, 2) := by decide +kernel
theorem dX0_init_9 : decode cX0_init 9 = .ok (.putfield 9, 3) := by decide +kernel
theorem dX0_init_12 : decode cX0_init 12 = .ok (.aload_n 0, 1) := by decide +kernel
theorem dX0_init_13 : decode cX0_init 13 = .ok (.bipush 12, 2) := by decide +kernel
theorem dX0_init_15 : decode cX0_init 15 = .ok (.newarray .int, 2) := by decide +kernel
theorem dX0_init_17 : decode cX0_init 17 = .ok (.putfield 15, 3) := by decide +kernel
theorem dX0_init_20 : decode cX0_init 20 = .ok (.aload_n 0, 1) := by decide +kernel
theorem dX0_init_21 : decode cX0_init 21 = .ok (.bipush 12, 2) := by decide +kernel
theorem dX0_init_23 : decode cX0_init 23 = .ok (.newarray .int, 2) := by decide +kernel
theorem dX0_init_25 : decode cX0_init 25 = .ok (.putfield 18, 3) := by decide +kernel
theorem dX0_init_28 : decode cX0_init 28 = .ok (.aload_n 0, 1) := by decide +kernel
theorem dX0_init_29 : decode cX0_init 29 = .ok (.bipush 12, 2) := by decide +kernel
theorem dX0_init_31 : decode cX0_init 31 = .ok (.newarray .double, 2) := by decide +kernel
theorem dX0_init_33 : decode cX0_init 33 = .ok (.putfield 21, 3) := by decide +kernel
theorem dX0_init_36 : decode cX0_init 36 = .ok (.return_, 1) := by decide +kernel
theorem dX0_full_0 : decode cX0_full 0 = .ok (.aload_n 0, 1) := by decide +kernel
theorem dX0_full_1 : decode cX0_full 1 = .ok (.getfield 25, 3) := by decide +kernel
theorem dX0_full_4 : decode cX0_full 4 = .ok (.bipush 12, 2) := by decide +kernel
theorem dX0_full_6 : decode cX0_full 6 = .ok (.if_icmp .lt 7, 3) := by decide +kernel
theorem dX0_full_9 : decode cX0_full 9 = .ok (.iconst 1, 1) := by decide +kernel
theorem dX0_full_10 : decode cX0_full 10 = .ok (.goto 4, 3) := by decide +kernel
theorem dX0_full_13 : decode cX0_full 13 = .ok (.iconst 0, 1) := by decide +kernel
theorem dX0_full_14 : decode cX0_full 14 = .ok (.ireturn, 1) := by decide +kernel
theorem dX0_count_0 : decode cX0_count 0 = .ok (.aload_n 0, 1) := by decide +kernel
theorem dX0_count_1 : decode cX0_count 1 = .ok (.getfield 25, 3) := by decide +kernel
theorem dX0_count_4 : decode cX0_count 4 = .ok (.ireturn, 1) := by decide +kernel
set_option maxRecDepth 20000 in
theorem ggX0_add_X0_full : GoodIn wsX0_add wsX0_full := goodIn_r _ [10, 2, 11, 12, 13, 14, 15] (by decide +kernel) (by decide +kernel)
set_option maxRecDepth 20000 in
theorem gX0_add_X0_full : GoodIn wsX0_add (wsV RX0 29 RX0 yX0_full wsX0_full) := goodIn_app (goodIn_of _ (by decide +kernel)) ggX0_add_X0_full
theorem dX0_add_0 : decode cX0_add 0 = .ok (.aload_n 0, 1) := by decide +kernel
theorem dX0_add_1 : decode cX0_add 1 = .ok (.invokevirtual 29, 3) := by decide +kernel
theorem dX0_add_4 : decode cX0_add 4 = .ok (.ifCond .ne 54, 3) := by decide +kernel
theorem dX0_add_7 : decode cX0_add 7 = .ok (.aload_n 0, 1) := by decide +kernel
theorem dX0_add_8 : decode cX0_add 8 = .ok (.getfield 9, 3) := by decide +kernel
theorem dX0_add_11 : decode cX0_add 11 = .ok (.aload_n 0, 1) := by decide +kernel
theorem dX0_add_12 : decode cX0_add 12 = .ok (.getfield 25, 3) := by decide +kernel
theorem dX0_add_15 : decode cX0_add 15 = .ok (.iload_n 1, 1) := by decide +kernel
theorem dX0_add_16 : decode cX0_add 16 = .ok (.iastore, 1) := by decide +kernel
theorem dX0_add_17 : decode cX0_add 17 = .ok (.aload_n 0, 1) := by decide +kernel
theorem dX0_add_18 : decode cX0_add 18 = .ok (.getfield 15, 3) := by decide +kernel
theorem dX0_add_21 : decode cX0_add 21 = .ok (.aload_n 0, 1) := by decide +kernel
theorem dX0_add_22 : decode cX0_add 22 = .ok (.getfield 25, 3) := by decide +kernel
theorem dX0_add_25 : decode cX0_add 25 = .ok (.iload_n 2, 1) := by decide +kernel
theorem dX0_add_26 : decode cX0_add 26 = .ok (.iastore, 1) := by decide +kernel
theorem dX0_add_27 : decode cX0_add 27 = .ok (.aload_n 0, 1) := by decide +kernel
theorem dX0_add_28 : decode cX0_add 28 = .ok (.getfield 18, 3) := by decide +kernel
theorem dX0_add_31 : decode cX0_add 31 = .ok (.aload_n 0, 1) := by decide +kernel
theorem dX0_add_32 : decode cX0_add 32 = .ok (.getfield 25, 3) := by decide +kernel
theorem dX0_add_35 : decode cX0_add 35 = .ok (.iload_n 3, 1) := by decide +kernel
theorem dX0_add_36 : decode cX0_add 36 = .ok (.iastore, 1) := by decide +kernel
theorem dX0_add_37 : decode cX0_add 37 = .ok (.aload_n 0, 1) := by decide +kernel
theorem dX0_add_38 : decode cX0_add 38 = .ok (.getfield 21, 3) := by decide +kernel
theorem dX0_add_41 : decode cX0_add 41 = .ok (.aload_n 0, 1) := by decide +kernel
theorem dX0_add_42 : decode cX0_add 42 = .ok (.getfield 25, 3) := by decide +kernel
theorem dX0_add_45 : decode cX0_add 45 = .ok (.dload 4, 2) := by decide +kernel
theorem dX0_add_47 : decode cX0_add 47 = .ok (.dastore, 1) := by decide +kernel
theorem dX0_add_48 : decode cX0_add 48 = .ok (.aload_n 0, 1) := by decide +kernel
theorem dX0_add_49 : decode cX0_add 49 = .ok (.dup, 1) := by decide +kernel
theorem dX0_add_50 : decode cX0_add 50 = .ok (.getfield 25, 3) := by decide +kernel
theorem dX0_add_53 : decode cX0_add 53 = .ok (.iconst 1, 1) := by decide +kernel
theorem dX0_add_54 : decode cX0_add 54 = .ok (.iadd, 1) := by decide +kernel
theorem dX0_add_55 : decode cX0_add 55 = .ok (.putfield 25, 3) := by decide +kernel
theorem dX0_add_58 : decode cX0_add 58 = .ok (.aload_n 0, 1) := by decide +kernel
theorem dX0_add_59 : decode cX0_add 59 = .ok (.getfield 25, 3) := by decide +kernel
theorem dX0_add_62 : decode cX0_add 62 = .ok (.ireturn, 1) := by decide +kernel
theorem dX0_paceOf_0 : decode cX0_paceOf 0 = .ok (.aload_n 0, 1) := by decide +kernel
theorem dX0_paceOf_1 : decode cX0_paceOf 1 = .ok (.getfield 9, 3) := by decide +kernel
theorem dX0_paceOf_4 : decode cX0_paceOf 4 = .ok (.iload_n 1, 1) := by decide +kernel
theorem dX0_paceOf_5 : decode cX0_paceOf 5 = .ok (.iaload, 1) := by decide +kernel
theorem dX0_paceOf_6 : decode cX0_paceOf 6 = .ok (.ireturn, 1) := by decide +kernel
theorem dX0_firstOf_0 : decode cX0_firstOf 0 = .ok (.aload_n 0, 1) := by decide +kernel
theorem dX0_firstOf_1 : decode cX0_firstOf 1 = .ok (.getfield 15, 3) := by decide +kernel
theorem dX0_firstOf_4 : decode cX0_firstOf 4 = .ok (.iload_n 1, 1) := by decide +kernel
theorem dX0_firstOf_5 : decode cX0_firstOf 5 = .ok (.iaload, 1) := by decide +kernel
theorem dX0_firstOf_6 : decode cX0_firstOf 6 = .ok (.ireturn, 1) := by decide +kernel
theorem dX0_lastOf_0 : decode cX0_lastOf 0 = .ok (.aload_n 0, 1) := by decide +kernel
theorem dX0_lastOf_1 : decode cX0_lastOf 1 = .ok (.getfield 18, 3) := by decide +kernel
theorem dX0_lastOf_4 : decode cX0_lastOf 4 = .ok (.iload_n 1, 1) := by decide +kernel
theorem dX0_lastOf_5 : decode cX0_lastOf 5 = .ok (.iaload, 1) := by decide +kernel
theorem dX0_lastOf_6 : decode cX0_lastOf 6 = .ok (.ireturn, 1) := by decide +kernel
theorem dX0_heightOf_0 : decode cX0_heightOf 0 = .ok (.aload_n 0, 1) := by decide +kernel
theorem dX0_heightOf_1 : decode cX0_heightOf 1 = .ok (.getfield 21, 3) := by decide +kernel
theorem dX0_heightOf_4 : decode cX0_heightOf 4 = .ok (.iload_n 1, 1) := by decide +kernel
theorem dX0_heightOf_5 : decode cX0_heightOf 5 = .ok (.daload, 1) := by decide +kernel
theorem dX0_heightOf_6 : decode cX0_heightOf 6 = .ok (.dreturn, 1) := by decide +kernel
set_option maxRecDepth 20000 in
theorem ggX1_init_X2_cells : GoodIn wsX1_init wsX2_cells := goodIn_r _ [15, 16, 23, 24, 25, 26, 27, 28, 29, 30, 31] (by decide +kernel) (by decide +kernel)
set_option maxRecDepth 20000 in
theorem gX1_init_X2_cells : GoodIn wsX1_init (wsV RX1 15 RX2 yX2_cells wsX2_cells) := goodIn_app (goodIn_of _ (by decide +kernel)) ggX1_init_X2_cells
theorem dX1_init_0 : decode cX1_init 0 = .ok (.aload_n 0, 1) := by decide +kernel
theorem dX1_init_1 : decode cX1_init 1 = .ok (.invokespecial 3, 3) := by decide +kernel
theorem dX1_init_4 : decode cX1_init 4 = .ok (.aload_n 0, 1) := by decide +kernel
theorem dX1_init_5 : decode cX1_init 5 = .ok (.aload_n 1, 1) := by decide +kernel
theorem dX1_init_6 : decode cX1_init 6 = .ok (.putfield 9, 3) := by decide +kernel
theorem dX1_init_9 : decode cX1_init 9 = .ok (.aload_n 0, 1) := by decide +kernel
theorem dX1_init_10 : decode cX1_init 10 = .ok (.iconst 4, 1) := by decide +kernel
theorem dX1_init_11 : decode cX1_init 11 = .ok (.aload_n 1, 1) := by decide +kernel
theorem dX1_init_12 : decode cX1_init 12 = .ok (.invokevirtual 15, 3) := by decide +kernel
theorem dX1_init_15 : decode cX1_init 15 = .ok (.multianewarray 21 2, 4) := by decide +kernel
theorem dX1_init_19 : decode cX1_init 19 = .ok (.putfield 23, 3) := by decide +kernel
theorem dX1_init_22 : decode cX1_init 22 = .ok (.aload_n 0, 1) := by decide +kernel
theorem dX1_init_23 : decode cX1_init 23 = .ok (.iconst 4, 1) := by decide +kernel
theorem dX1_init_24 : decode cX1_init 24 = .ok (.newarray .double, 2) := by decide +kernel
theorem dX1_init_26 : decode cX1_init 26 = .ok (.putfield 26, 3) := by decide +kernel
theorem dX1_init_29 : decode cX1_init 29 = .ok (.aload_n 0, 1) := by decide +kernel
theorem dX1_init_30 : decode cX1_init 30 = .ok (.iconst 4, 1) := by decide +kernel
theorem dX1_init_31 : decode cX1_init 31 = .ok (.newarray .double, 2) := by decide +kernel
theorem dX1_init_33 : decode cX1_init 33 = .ok (.putfield 30, 3) := by decide +kernel
theorem dX1_init_36 : decode cX1_init 36 = .ok (.aload_n 0, 1) := by decide +kernel
theorem dX1_init_37 : decode cX1_init 37 = .ok (.iconst 4, 1) := by decide +kernel
theorem dX1_init_38 : decode cX1_init 38 = .ok (.newarray .double, 2) := by decide +kernel
theorem dX1_init_40 : decode cX1_init 40 = .ok (.putfield 33, 3) := by decide +kernel
theorem dX1_init_43 : decode cX1_init 43 = .ok (.return_, 1) := by decide +kernel
theorem dX1_count_0 : decode cX1_count 0 = .ok (.aload_n 0, 1) := by decide +kernel
theorem dX1_count_1 : decode cX1_count 1 = .ok (.getfield 36, 3) := by decide +kernel
theorem dX1_count_4 : decode cX1_count 4 = .ok (.ireturn, 1) := by decide +kernel
theorem dX1_forget_0 : decode cX1_forget 0 = .ok (.aload_n 0, 1) := by decide +kernel
theorem dX1_forget_1 : decode cX1_forget 1 = .ok (.iconst 0, 1) := by decide +kernel
theorem dX1_forget_2 : decode cX1_forget 2 = .ok (.putfield 36, 3) := by decide +kernel
theorem dX1_forget_5 : decode cX1_forget 5 = .ok (.return_, 1) := by decide +kernel
theorem dX1_squareOf_0 : decode cX1_squareOf 0 = .ok (.aload_n 0, 1) := by decide +kernel
theorem dX1_squareOf_1 : decode cX1_squareOf 1 = .ok (.getfield 26, 3) := by decide +kernel
theorem dX1_squareOf_4 : decode cX1_squareOf 4 = .ok (.iload_n 1, 1) := by decide +kernel
theorem dX1_squareOf_5 : decode cX1_squareOf 5 = .ok (.daload, 1) := by decide +kernel
theorem dX1_squareOf_6 : decode cX1_squareOf 6 = .ok (.dreturn, 1) := by decide +kernel
theorem dX1_residueOf_0 : decode cX1_residueOf 0 = .ok (.aload_n 0, 1) := by decide +kernel
theorem dX1_residueOf_1 : decode cX1_residueOf 1 = .ok (.getfield 30, 3) := by decide +kernel
theorem dX1_residueOf_4 : decode cX1_residueOf 4 = .ok (.iload_n 1, 1) := by decide +kernel
theorem dX1_residueOf_5 : decode cX1_residueOf 5 = .ok (.daload, 1) := by decide +kernel
theorem dX1_residueOf_6 : decode cX1_residueOf 6 = .ok (.dreturn, 1) := by decide +kernel
theorem dX1_totalOf_0 : decode cX1_totalOf 0 = .ok (.aload_n 0, 1) := by decide +kernel
theorem dX1_totalOf_1 : decode cX1_totalOf 1 = .ok (.getfield 33, 3) := by decide +kernel
theorem dX1_totalOf_4 : decode cX1_totalOf 4 = .ok (.iload_n 1, 1) := by decide +kernel
theorem dX1_totalOf_5 : decode cX1_totalOf 5 = .ok (.daload, 1) := by decide +kernel
theorem dX1_totalOf_6 : decode cX1_totalOf 6 = .ok (.dreturn, 1) := by decide +kernel
theorem dX1_shapeAt_0 : decode cX1_shapeAt 0 = .ok (.aload_n 0, 1) := by decide +kernel
theorem dX1_shapeAt_1 : decode cX1_shapeAt 1 = .ok (.getfield 23, 3) := by decide +kernel
theorem dX1_shapeAt_4 : decode cX1_shapeAt 4 = .ok (.iload_n 1, 1) := by decide +kernel
theorem dX1_shapeAt_5 : decode cX1_shapeAt 5 = .ok (.aaload, 1) := by decide +kernel
theorem dX1_shapeAt_6 : decode cX1_shapeAt 6 = .ok (.iload_n 2, 1) := by decide +kernel
theorem dX1_shapeAt_7 : decode cX1_shapeAt 7 = .ok (.daload, 1) := by decide +kernel
theorem dX1_shapeAt_8 : decode cX1_shapeAt 8 = .ok (.dreturn, 1) := by decide +kernel
set_option maxRecDepth 20000 in
theorem ggX1_productOf_X2_productOver : GoodIn wsX1_productOf wsX2_productOver := goodIn_r _ [7, 8, 9, 10, 11, 6, 12, 13, 14, 15, 16, 17, 24, 25, 26, 27, 28, 29, 30, 31, 32] (by decide +kernel) (by decide +kernel)
set_option maxRecDepth 20000 in
theorem gX1_productOf_X2_productOver : GoodIn wsX1_productOf (wsV RX1 40 RX2 yX2_productOver wsX2_productOver) := goodIn_app (goodIn_of _ (by decide +kernel)) ggX1_productOf_X2_productOver
theorem dX1_productOf_0 : decode cX1_productOf 0 = .ok (.aload_n 0, 1) := by decide +kernel
theorem dX1_productOf_1 : decode cX1_productOf 1 = .ok (.getfield 9, 3) := by decide +kernel
theorem dX1_productOf_4 : decode cX1_productOf 4 = .ok (.aload_n 0, 1) := by decide +kernel
theorem dX1_productOf_5 : decode cX1_productOf 5 = .ok (.getfield 23, 3) := by decide +kernel
theorem dX1_productOf_8 : decode cX1_productOf 8 = .ok (.iload_n 1, 1) := by decide +kernel
theorem dX1_productOf_9 : decode cX1_productOf 9 = .ok (.aaload, 1) := by decide +kernel
theorem dX1_productOf_10 : decode cX1_productOf 10 = .ok (.aload_n 0, 1) := by decide +kernel
theorem dX1_productOf_11 : decode cX1_productOf 11 = .ok (.getfield 23, 3) := by decide +kernel
theorem dX1_productOf_14 : decode cX1_productOf 14 = .ok (.iload_n 2, 1) := by decide +kernel
theorem dX1_productOf_15 : decode cX1_productOf 15 = .ok (.aaload, 1) := by decide +kernel
theorem dX1_productOf_16 : decode cX1_productOf 16 = .ok (.invokevirtual 40, 3) := by decide +kernel
theorem dX1_productOf_19 : decode cX1_productOf 19 = .ok (.dreturn, 1) := by decide +kernel
set_option maxRecDepth 20000 in
theorem ggX1_make_X2_bindSprings : GoodIn wsX1_make wsX2_bindSprings := goodIn_r _ [7, 8, 9, 10, 11, 12, 13, 14, 15, 16, 17, 6, 18, 19, 20, 21, 22, 23, 24, 25, 26, 27, 28, 29, 30, 31, 32, 33, 34, 35, 36, 37, 38, 39, 40, 41, 42, 43, 44, 45, 46, 47, 48, 49, 50, 51, 52, 53, 54, 55, 56, 57, 58, 128, 129, 130, 131, 132, 133, 134, 135, 136, 137, 138, 139, 140, 141] (by decide +kernel) (by decide +kernel)
set_option maxRecDepth 20000 in
theorem gX1_make_X2_bindSprings : GoodIn wsX1_make (wsV RX1 44 RX2 yX2_bindSprings wsX2_bindSprings) := goodIn_app (goodIn_of _ (by decide +kernel)) ggX1_make_X2_bindSprings
set_option maxRecDepth 20000 in
theorem ggX1_make_X1_settle : GoodIn wsX1_make wsX1_settle := goodIn_r _ [63, 64, 1, 65, 66, 67, 6, 68, 8, 9, 69, 15, 16, 17, 18, 25, 26, 27, 28, 23, 70, 71, 72, 73, 74, 75, 76, 77, 78, 10, 12, 79, 80, 81, 82, 83, 84, 85, 86, 87, 88, 89, 62, 90, 91, 92, 93, 94, 95, 96, 97, 98, 99, 100, 101, 102, 122, 123, 124, 125, 126, 127, 128, 129, 130, 131, 132, 133, 134, 135, 136] (by decide +kernel) (by decide +kernel)
set_option maxRecDepth 20000 in
theorem gX1_make_X1_settle : GoodIn wsX1_make (wsV RX1 47 RX1 yX1_settle wsX1_settle) := goodIn_app (goodIn_of _ (by decide +kernel)) ggX1_make_X1_settle
set_option maxRecDepth 20000 in
theorem ggX1_make_X1_measure : GoodIn wsX1_make wsX1_measure := goodIn_r _ [106, 64, 107, 1, 108, 109, 110, 111, 112, 6, 113, 8, 9, 15, 16, 17, 18, 25, 26, 27, 28, 23, 75, 76, 77, 78, 10, 12, 79, 80, 81, 82, 114, 115, 116, 117, 95, 96, 97, 98, 99, 118, 119, 120, 121, 122, 123, 124, 125, 126, 127, 128, 129, 130, 131, 132, 133, 134, 135, 136] (by decide +kernel) (by decide +kernel)
set_option maxRecDepth 20000 in
theorem gX1_make_X1_measure : GoodIn wsX1_make (wsV RX1 51 RX1 yX1_measure wsX1_measure) := goodIn_app (goodIn_of _ (by decide +kernel)) ggX1_make_X1_measure
theorem dX1_make_0 : decode cX1_make 0 = .ok (.aload_n 0, 1) := by decide +kernel
theorem dX1_make_1 : decode cX1_make 1 = .ok (.getfield 9, 3) := by decide +kernel
theorem dX1_make_4 : decode cX1_make 4 = .ok (.invokevirtual 44, 3) := by decide +kernel
theorem dX1_make_7 : decode cX1_make 7 = .ok (.aload_n 0, 1) := by decide +kernel
theorem dX1_make_8 : decode cX1_make 8 = .ok (.iconst 0, 1) := by decide +kernel
theorem dX1_make_9 : decode cX1_make 9 = .ok (.putfield 36, 3) := by decide +kernel
theorem dX1_make_12 : decode cX1_make 12 = .ok (.iconst 0, 1) := by decide +kernel
theorem dX1_make_13 : decode cX1_make 13 = .ok (.istore_n 2, 1) := by decide +kernel
theorem dX1_make_14 : decode cX1_make 14 = .ok (.iload_n 2, 1) := by decide +kernel
theorem dX1_make_15 : decode cX1_make 15 = .ok (.iload_n 1, 1) := by decide +kernel
theorem dX1_make_16 : decode cX1_make 16 = .ok (.if_icmp .ge 39, 3) := by decide +kernel
theorem dX1_make_19 : decode cX1_make 19 = .ok (.iload_n 2, 1) := by decide +kernel
theorem dX1_make_20 : decode cX1_make 20 = .ok (.iconst 4, 1) := by decide +kernel
theorem dX1_make_21 : decode cX1_make 21 = .ok (.if_icmp .ge 34, 3) := by decide +kernel
theorem dX1_make_24 : decode cX1_make 24 = .ok (.aload_n 0, 1) := by decide +kernel
theorem dX1_make_25 : decode cX1_make 25 = .ok (.iload_n 2, 1) := by decide +kernel
theorem dX1_make_26 : decode cX1_make 26 = .ok (.invokevirtual 47, 3) := by decide +kernel
theorem dX1_make_29 : decode cX1_make 29 = .ok (.ifCond .ne 8, 3) := by decide +kernel
theorem dX1_make_32 : decode cX1_make 32 = .ok (.aload_n 0, 1) := by decide +kernel
theorem dX1_make_33 : decode cX1_make 33 = .ok (.getfield 36, 3) := by decide +kernel
theorem dX1_make_36 : decode cX1_make 36 = .ok (.ireturn, 1) := by decide +kernel
theorem dX1_make_37 : decode cX1_make 37 = .ok (.aload_n 0, 1) := by decide +kernel
theorem dX1_make_38 : decode cX1_make 38 = .ok (.iload_n 2, 1) := by decide +kernel
theorem dX1_make_39 : decode cX1_make 39 = .ok (.invokevirtual 51, 3) := by decide +kernel
theorem dX1_make_42 : decode cX1_make 42 = .ok (.aload_n 0, 1) := by decide +kernel
theorem dX1_make_43 : decode cX1_make 43 = .ok (.iload_n 2, 1) := by decide +kernel
theorem dX1_make_44 : decode cX1_make 44 = .ok (.iconst 1, 1) := by decide +kernel
theorem dX1_make_45 : decode cX1_make 45 = .ok (.iadd, 1) := by decide +kernel
theorem dX1_make_46 : decode cX1_make 46 = .ok (.putfield 36, 3) := by decide +kernel
theorem dX1_make_49 : decode cX1_make 49 = .ok (.iinc 2 1, 3) := by decide +kernel
theorem dX1_make_52 : decode cX1_make 52 = .ok (.goto (-38), 3) := by decide +kernel
theorem dX1_make_55 : decode cX1_make 55 = .ok (.aload_n 0, 1) := by decide +kernel
theorem dX1_make_56 : decode cX1_make 56 = .ok (.getfield 36, 3) := by decide +kernel
theorem dX1_make_59 : decode cX1_make 59 = .ok (.ireturn, 1) := by decide +kernel
set_option maxRecDepth 20000 in
theorem ggX1_settle_X2_beginShape : GoodIn wsX1_settle wsX2_beginShape := goodIn_r _ [7, 8, 9, 10, 11, 12, 13, 6, 14, 15, 16, 17, 18, 19, 62, 63, 64, 65, 66, 67, 68, 69, 70] (by decide +kernel) (by decide +kernel)
set_option maxRecDepth 20000 in
theorem gX1_settle_X2_beginShape : GoodIn wsX1_settle (wsV RX1 55 RX2 yX2_beginShape wsX2_beginShape) := goodIn_app (goodIn_of _ (by decide +kernel)) ggX1_settle_X2_beginShape
set_option maxRecDepth 20000 in
theorem ggX1_settle_X2_relax : GoodIn wsX1_settle wsX2_relax := goodIn_r _ [23, 8, 9, 24, 11, 12, 13, 6, 14, 15, 16, 17, 18, 19, 25, 26, 27, 28, 29, 30, 31, 32, 33, 34, 35, 36, 37, 38, 62, 63, 64, 65, 66, 67, 68, 69, 70] (by decide +kernel) (by decide +kernel)
set_option maxRecDepth 20000 in
theorem gX1_settle_X2_relax : GoodIn wsX1_settle (wsV RX1 59 RX2 yX2_relax wsX2_relax) := goodIn_app (goodIn_of _ (by decide +kernel)) ggX1_settle_X2_relax
set_option maxRecDepth 20000 in
theorem ggX1_settle_X1_takeOut : GoodIn wsX1_settle wsX1_takeOut := goodIn_r _ [43, 2, 44, 45, 46, 6, 47, 19, 15, 16, 17, 18, 48, 49, 50, 51, 52, 56, 57, 58, 59, 60, 61, 62, 63, 64, 65, 66, 67, 68, 69, 70] (by decide +kernel) (by decide +kernel)
set_option maxRecDepth 20000 in
theorem gX1_settle_X1_takeOut : GoodIn wsX1_settle (wsV RX1 63 RX1 yX1_takeOut wsX1_takeOut) := goodIn_app (goodIn_of _ (by decide +kernel)) ggX1_settle_X1_takeOut
set_option maxRecDepth 20000 in
theorem ggX1_settle_X2_productOver : GoodIn wsX1_settle wsX2_productOver := goodIn_r _ [47, 19, 15, 16, 17, 6, 18, 48, 49, 50, 51, 52, 62, 63, 64, 65, 66, 67, 68, 69, 70] (by decide +kernel) (by decide +kernel)
set_option maxRecDepth 20000 in
theorem gX1_settle_X2_productOver : GoodIn wsX1_settle (wsV RX1 40 RX2 yX2_productOver wsX2_productOver) := goodIn_app (goodIn_of _ (by decide +kernel)) ggX1_settle_X2_productOver
set_option maxRecDepth 20000 in
theorem ggX1_settle_X4_root : GoodIn wsX1_settle wsX4_root := goodIn_r _ [54, 55] (by decide +kernel) (by decide +kernel)
set_option maxRecDepth 20000 in
theorem gX1_settle_X4_root_n67 : GoodIn wsX1_settle (wsX4_root) := ggX1_settle_X4_root
theorem dX1_settle_0 : decode cX1_settle 0 = .ok (.aload_n 0, 1) := by decide +kernel
theorem dX1_settle_1 : decode cX1_settle 1 = .ok (.getfield 23, 3) := by decide +kernel
theorem dX1_settle_4 : decode cX1_settle 4 = .ok (.iload_n 1, 1) := by decide +kernel
theorem dX1_settle_5 : decode cX1_settle 5 = .ok (.aaload, 1) := by decide +kernel
theorem dX1_settle_6 : decode cX1_settle 6 = .ok (.astore_n 2, 1) := by decide +kernel
theorem dX1_settle_7 : decode cX1_settle 7 = .ok (.aload_n 0, 1) := by decide +kernel
theorem dX1_settle_8 : decode cX1_settle 8 = .ok (.getfield 9, 3) := by decide +kernel
theorem dX1_settle_11 : decode cX1_settle 11 = .ok (.aload_n 2, 1) := by decide +kernel
theorem dX1_settle_12 : decode cX1_settle 12 = .ok (.iload_n 1, 1) := by decide +kernel
theorem dX1_settle_13 : decode cX1_settle 13 = .ok (.invokevirtual 55, 3) := by decide +kernel
theorem dX1_settle_16 : decode cX1_settle 16 = .ok (.iconst 0, 1) := by decide +kernel
theorem dX1_settle_17 : decode cX1_settle 17 = .ok (.istore_n 3, 1) := by decide +kernel
theorem dX1_settle_18 : decode cX1_settle 18 = .ok (.iload_n 3, 1) := by decide +kernel
theorem dX1_settle_19 : decode cX1_settle 19 = .ok (.bipush 24, 2) := by decide +kernel
theorem dX1_settle_21 : decode cX1_settle 21 = .ok (.if_icmp .ge 94, 3) := by decide +kernel
theorem dX1_settle_24 : decode cX1_settle 24 = .ok (.aload_n 0, 1) := by decide +kernel
theorem dX1_settle_25 : decode cX1_settle 25 = .ok (.getfield 9, 3) := by decide +kernel
theorem dX1_settle_28 : decode cX1_settle 28 = .ok (.aload_n 2, 1) := by decide +kernel
theorem dX1_settle_29 : decode cX1_settle 29 = .ok (.invokevirtual 59, 3) := by decide +kernel
theorem dX1_settle_32 : decode cX1_settle 32 = .ok (.iconst 0, 1) := by decide +kernel
theorem dX1_settle_33 : decode cX1_settle 33 = .ok (.istore 4, 2) := by decide +kernel
theorem dX1_settle_35 : decode cX1_settle 35 = .ok (.iload 4, 2) := by decide +kernel
theorem dX1_settle_37 : decode cX1_settle 37 = .ok (.iload_n 1, 1) := by decide +kernel
theorem dX1_settle_38 : decode cX1_settle 38 = .ok (.if_icmp .ge 21, 3) := by decide +kernel
theorem dX1_settle_41 : decode cX1_settle 41 = .ok (.aload_n 0, 1) := by decide +kernel
theorem dX1_settle_42 : decode cX1_settle 42 = .ok (.aload_n 2, 1) := by decide +kernel
theorem dX1_settle_43 : decode cX1_settle 43 = .ok (.aload_n 0, 1) := by decide +kernel
theorem dX1_settle_44 : decode cX1_settle 44 = .ok (.getfield 23, 3) := by decide +kernel
theorem dX1_settle_47 : decode cX1_settle 47 = .ok (.iload 4, 2) := by decide +kernel
theorem dX1_settle_49 : decode cX1_settle 49 = .ok (.aaload, 1) := by decide +kernel
theorem dX1_settle_50 : decode cX1_settle 50 = .ok (.invokevirtual 63, 3) := by decide +kernel
theorem dX1_settle_53 : decode cX1_settle 53 = .ok (.iinc 4 1, 3) := by decide +kernel
theorem dX1_settle_56 : decode cX1_settle 56 = .ok (.goto (-21), 3) := by decide +kernel
theorem dX1_settle_59 : decode cX1_settle 59 = .ok (.aload_n 0, 1) := by decide +kernel
theorem dX1_settle_60 : decode cX1_settle 60 = .ok (.getfield 9, 3) := by decide +kernel
theorem dX1_settle_63 : decode cX1_settle 63 = .ok (.aload_n 2, 1) := by decide +kernel
theorem dX1_settle_64 : decode cX1_settle 64 = .ok (.aload_n 2, 1) := by decide +kernel
theorem dX1_settle_65 : decode cX1_settle 65 = .ok (.invokevirtual 40, 3) := by decide +kernel
theorem dX1_settle_68 : decode cX1_settle 68 = .ok (.invokestatic 67, 3) := by decide +kernel
theorem dX1_settle_71 : decode cX1_settle 71 = .ok (.dstore 4, 2) := by decide +kernel
theorem dX1_settle_73 : decode cX1_settle 73 = .ok (.dload 4, 2) := by decide +kernel
theorem dX1_settle_75 : decode cX1_settle 75 = .ok (.dconst 0, 1) := by decide +kernel
theorem dX1_settle_76 : decode cX1_settle 76 = .ok (.dcmp .l, 1) := by decide +kernel
theorem dX1_settle_77 : decode cX1_settle 77 = .ok (.ifCond .gt 5, 3) := by decide +kernel
theorem dX1_settle_80 : decode cX1_settle 80 = .ok (.iconst 0, 1) := by decide +kernel
theorem dX1_settle_81 : decode cX1_settle 81 = .ok (.ireturn, 1) := by decide +kernel
theorem dX1_settle_82 : decode cX1_settle 82 = .ok (.iconst 0, 1) := by decide +kernel
theorem dX1_settle_83 : decode cX1_settle 83 = .ok (.istore 6, 2) := by decide +kernel
theorem dX1_settle_85 : decode cX1_settle 85 = .ok (.iload 6, 2) := by decide +kernel
theorem dX1_settle_87 : decode cX1_settle 87 = .ok (.aload_n 2, 1) := by decide +kernel
theorem dX1_settle_88 : decode cX1_settle 88 = .ok (.arraylength, 1) := by decide +kernel
theorem dX1_settle_89 : decode cX1_settle 89 = .ok (.if_icmp .ge 20, 3) := by decide +kernel
theorem dX1_settle_92 : decode cX1_settle 92 = .ok (.aload_n 2, 1) := by decide +kernel
theorem dX1_settle_93 : decode cX1_settle 93 = .ok (.iload 6, 2) := by decide +kernel
theorem dX1_settle_95 : decode cX1_settle 95 = .ok (.aload_n 2, 1) := by decide +kernel
theorem dX1_settle_96 : decode cX1_settle 96 = .ok (.iload 6, 2) := by decide +kernel
theorem dX1_settle_98 : decode cX1_settle 98 = .ok (.daload, 1) := by decide +kernel
theorem dX1_settle_99 : decode cX1_settle 99 = .ok (.dload 4, 2) := by decide +kernel
theorem dX1_settle_101 : decode cX1_settle 101 = .ok (.ddiv, 1) := by decide +kernel
theorem dX1_settle_102 : decode cX1_settle 102 = .ok (.dastore, 1) := by decide +kernel
theorem dX1_settle_103 : decode cX1_settle 103 = .ok (.iinc 6 1, 3) := by decide +kernel
theorem dX1_settle_106 : decode cX1_settle 106 = .ok (.goto (-21), 3) := by decide +kernel
theorem dX1_settle_109 : decode cX1_settle 109 = .ok (.iinc 3 1, 3) := by decide +kernel
theorem dX1_settle_112 : decode cX1_settle 112 = .ok (.goto (-94), 3) := by decide +kernel
theorem dX1_settle_115 : decode cX1_settle 115 = .ok (.iconst 1, 1) := by decide +kernel
theorem dX1_settle_116 : decode cX1_settle 116 = .ok (.ireturn, 1) := by decide +kernel
set_option maxRecDepth 20000 in
theorem ggX1_takeOut_X2_productOver : GoodIn wsX1_takeOut wsX2_productOver := goodIn_r _ [6, 7, 8, 9, 10, 5, 11, 12, 13, 14, 15, 16, 23, 24, 25, 26, 27, 28, 29, 30, 31] (by decide +kernel) (by decide +kernel)
set_option maxRecDepth 20000 in
theorem gX1_takeOut_X2_productOver : GoodIn wsX1_takeOut (wsV RX1 40 RX2 yX2_productOver wsX2_productOver) := goodIn_app (goodIn_of _ (by decide +kernel)) ggX1_takeOut_X2_productOver
theorem dX1_takeOut_0 : decode cX1_takeOut 0 = .ok (.aload_n 0, 1) := by decide +kernel
theorem dX1_takeOut_1 : decode cX1_takeOut 1 = .ok (.getfield 9, 3) := by decide +kernel
theorem dX1_takeOut_4 : decode cX1_takeOut 4 = .ok (.aload_n 1, 1) := by decide +kernel
theorem dX1_takeOut_5 : decode cX1_takeOut 5 = .ok (.aload_n 2, 1) := by decide +kernel
theorem dX1_takeOut_6 : decode cX1_takeOut 6 = .ok (.invokevirtual 40, 3) := by decide +kernel
theorem dX1_takeOut_9 : decode cX1_takeOut 9 = .ok (.dstore_n 3, 1) := by decide +kernel
theorem dX1_takeOut_10 : decode cX1_takeOut 10 = .ok (.iconst 0, 1) := by decide +kernel
theorem dX1_takeOut_11 : decode cX1_takeOut 11 = .ok (.istore 5, 2) := by decide +kernel
theorem dX1_takeOut_13 : decode cX1_takeOut 13 = .ok (.iload 5, 2) := by decide +kernel
theorem dX1_takeOut_15 : decode cX1_takeOut 15 = .ok (.aload_n 1, 1) := by decide +kernel
theorem dX1_takeOut_16 : decode cX1_takeOut 16 = .ok (.arraylength, 1) := by decide +kernel
theorem dX1_takeOut_17 : decode cX1_takeOut 17 = .ok (.if_icmp .ge 24, 3) := by decide +kernel
theorem dX1_takeOut_20 : decode cX1_takeOut 20 = .ok (.aload_n 1, 1) := by decide +kernel
theorem dX1_takeOut_21 : decode cX1_takeOut 21 = .ok (.iload 5, 2) := by decide +kernel
theorem dX1_takeOut_23 : decode cX1_takeOut 23 = .ok (.aload_n 1, 1) := by decide +kernel
theorem dX1_takeOut_24 : decode cX1_takeOut 24 = .ok (.iload 5, 2) := by decide +kernel
theorem dX1_takeOut_26 : decode cX1_takeOut 26 = .ok (.daload, 1) := by decide +kernel
theorem dX1_takeOut_27 : decode cX1_takeOut 27 = .ok (.dload_n 3, 1) := by decide +kernel
theorem dX1_takeOut_28 : decode cX1_takeOut 28 = .ok (.aload_n 2, 1) := by decide +kernel
theorem dX1_takeOut_29 : decode cX1_takeOut 29 = .ok (.iload 5, 2) := by decide +kernel
theorem dX1_takeOut_31 : decode cX1_takeOut 31 = .ok (.daload, 1) := by decide +kernel
theorem dX1_takeOut_32 : decode cX1_takeOut 32 = .ok (.dmul, 1) := by decide +kernel
theorem dX1_takeOut_33 : decode cX1_takeOut 33 = .ok (.dsub, 1) := by decide +kernel
theorem dX1_takeOut_34 : decode cX1_takeOut 34 = .ok (.dastore, 1) := by decide +kernel
theorem dX1_takeOut_35 : decode cX1_takeOut 35 = .ok (.iinc 5 1, 3) := by decide +kernel
theorem dX1_takeOut_38 : decode cX1_takeOut 38 = .ok (.goto (-25), 3) := by decide +kernel
theorem dX1_takeOut_41 : decode cX1_takeOut 41 = .ok (.return_, 1) := by decide +kernel
set_option maxRecDepth 20000 in
theorem ggX1_measure_X2_squareOver : GoodIn wsX1_measure wsX2_squareOver := goodIn_r _ [10, 11, 12, 13, 14, 15, 9, 16, 17, 18, 19, 20, 21, 22, 23, 24, 25, 26, 27, 28, 29, 30, 31, 51, 52, 53, 54, 55, 56, 57, 58, 59] (by decide +kernel) (by decide +kernel)
set_option maxRecDepth 20000 in
theorem gX1_measure_X2_squareOver : GoodIn wsX1_measure (wsV RX1 71 RX2 yX2_squareOver wsX2_squareOver) := goodIn_app (goodIn_of _ (by decide +kernel)) ggX1_measure_X2_squareOver
set_option maxRecDepth 20000 in
theorem ggX1_measure_X2_residueOver : GoodIn wsX1_measure wsX2_residueOver := goodIn_r _ [35, 11, 12, 13, 14, 15, 9, 16, 17, 18, 19, 20, 21, 22, 23, 24, 25, 26, 27, 28, 29, 30, 31, 36, 37, 38, 39, 40, 51, 52, 53, 54, 55, 56, 57, 58, 59] (by decide +kernel) (by decide +kernel)
set_option maxRecDepth 20000 in
theorem gX1_measure_X2_residueOver : GoodIn wsX1_measure (wsV RX1 75 RX2 yX2_residueOver wsX2_residueOver) := goodIn_app (goodIn_of _ (by decide +kernel)) ggX1_measure_X2_residueOver
set_option maxRecDepth 20000 in
theorem ggX1_measure_X2_totalOver : GoodIn wsX1_measure wsX2_totalOver := goodIn_r _ [44, 21, 17, 18, 19, 9, 20, 51, 52, 53, 54, 55, 56, 57, 58, 59] (by decide +kernel) (by decide +kernel)
set_option maxRecDepth 20000 in
theorem gX1_measure_X2_totalOver : GoodIn wsX1_measure (wsV RX1 79 RX2 yX2_totalOver wsX2_totalOver) := goodIn_app (goodIn_of _ (by decide +kernel)) ggX1_measure_X2_totalOver
theorem dX1_measure_0 : decode cX1_measure 0 = .ok (.aload_n 0, 1) := by decide +kernel
theorem dX1_measure_1 : decode cX1_measure 1 = .ok (.getfield 23, 3) := by decide +kernel
theorem dX1_measure_4 : decode cX1_measure 4 = .ok (.iload_n 1, 1) := by decide +kernel
theorem dX1_measure_5 : decode cX1_measure 5 = .ok (.aaload, 1) := by decide +kernel
theorem dX1_measure_6 : decode cX1_measure 6 = .ok (.astore_n 2, 1) := by decide +kernel
theorem dX1_measure_7 : decode cX1_measure 7 = .ok (.aload_n 0, 1) := by decide +kernel
theorem dX1_measure_8 : decode cX1_measure 8 = .ok (.getfield 26, 3) := by decide +kernel
theorem dX1_measure_11 : decode cX1_measure 11 = .ok (.iload_n 1, 1) := by decide +kernel
theorem dX1_measure_12 : decode cX1_measure 12 = .ok (.aload_n 0, 1) := by decide +kernel
theorem dX1_measure_13 : decode cX1_measure 13 = .ok (.getfield 9, 3) := by decide +kernel
theorem dX1_measure_16 : decode cX1_measure 16 = .ok (.aload_n 2, 1) := by decide +kernel
theorem dX1_measure_17 : decode cX1_measure 17 = .ok (.invokevirtual 71, 3) := by decide +kernel
theorem dX1_measure_20 : decode cX1_measure 20 = .ok (.dastore, 1) := by decide +kernel
theorem dX1_measure_21 : decode cX1_measure 21 = .ok (.aload_n 0, 1) := by decide +kernel
theorem dX1_measure_22 : decode cX1_measure 22 = .ok (.getfield 30, 3) := by decide +kernel
theorem dX1_measure_25 : decode cX1_measure 25 = .ok (.iload_n 1, 1) := by decide +kernel
theorem dX1_measure_26 : decode cX1_measure 26 = .ok (.aload_n 0, 1) := by decide +kernel
theorem dX1_measure_27 : decode cX1_measure 27 = .ok (.getfield 9, 3) := by decide +kernel
theorem dX1_measure_30 : decode cX1_measure 30 = .ok (.aload_n 2, 1) := by decide +kernel
theorem dX1_measure_31 : decode cX1_measure 31 = .ok (.aload_n 0, 1) := by decide +kernel
theorem dX1_measure_32 : decode cX1_measure 32 = .ok (.getfield 26, 3) := by decide +kernel
theorem dX1_measure_35 : decode cX1_measure 35 = .ok (.iload_n 1, 1) := by decide +kernel
theorem dX1_measure_36 : decode cX1_measure 36 = .ok (.daload, 1) := by decide +kernel
theorem dX1_measure_37 : decode cX1_measure 37 = .ok (.invokevirtual 75, 3) := by decide +kernel
theorem dX1_measure_40 : decode cX1_measure 40 = .ok (.dastore, 1) := by decide +kernel
theorem dX1_measure_41 : decode cX1_measure 41 = .ok (.aload_n 0, 1) := by decide +kernel
theorem dX1_measure_42 : decode cX1_measure 42 = .ok (.getfield 33, 3) := by decide +kernel
theorem dX1_measure_45 : decode cX1_measure 45 = .ok (.iload_n 1, 1) := by decide +kernel
theorem dX1_measure_46 : decode cX1_measure 46 = .ok (.aload_n 0, 1) := by decide +kernel
theorem dX1_measure_47 : decode cX1_measure 47 = .ok (.getfield 9, 3) := by decide +kernel
theorem dX1_measure_50 : decode cX1_measure 50 = .ok (.aload_n 2, 1) := by decide +kernel
theorem dX1_measure_51 : decode cX1_measure 51 = .ok (.invokevirtual 79, 3) := by decide +kernel
theorem dX1_measure_54 : decode cX1_measure 54 = .ok (.dastore, 1) := by decide +kernel
theorem dX1_measure_55 : decode cX1_measure 55 = .ok (.return_, 1) := by decide +kernel
set_option maxRecDepth 20000 in
theorem ggX2_init_X0_init : GoodIn wsX2_init wsX0_init := goodIn_r _ [19, 20, 2, 3, 21, 22, 23, 24, 6, 25, 35, 36, 37, 38, 39] (by decide +kernel) (by decide +kernel)
set_option maxRecDepth 20000 in
theorem gX2_init_X0_init : GoodIn wsX2_init (wsX0_init) := ggX2_init_X0_init
theorem dX2_init_0 : decode cX2_init 0 = .ok (.aload_n 0, 1) := by decide +kernel
theorem dX2_init_1 : decode cX2_init 1 = .ok (.invokespecial 3, 3) := by decide +kernel
theorem dX2_init_4 : decode cX2_init 4 = .ok (.aload_n 0, 1) := by decide +kernel
theorem dX2_init_5 : decode cX2_init 5 = .ok (.iload_n 1, 1) := by decide +kernel
theorem dX2_init_6 : decode cX2_init 6 = .ok (.putfield 9, 3) := by decide +kernel
theorem dX2_init_9 : decode cX2_init 9 = .ok (.aload_n 0, 1) := by decide +kernel
theorem dX2_init_10 : decode cX2_init 10 = .ok (.iload_n 2, 1) := by decide +kernel
theorem dX2_init_11 : decode cX2_init 11 = .ok (.putfield 15, 3) := by decide +kernel
theorem dX2_init_14 : decode cX2_init 14 = .ok (.aload_n 0, 1) := by decide +kernel
theorem dX2_init_15 : decode cX2_init 15 = .ok (.iload_n 1, 1) := by decide +kernel
theorem dX2_init_16 : decode cX2_init 16 = .ok (.iload_n 2, 1) := by decide +kernel
theorem dX2_init_17 : decode cX2_init 17 = .ok (.imul, 1) := by decide +kernel
theorem dX2_init_18 : decode cX2_init 18 = .ok (.newarray .double, 2) := by decide +kernel
theorem dX2_init_20 : decode cX2_init 20 = .ok (.putfield 18, 3) := by decide +kernel
theorem dX2_init_23 : decode cX2_init 23 = .ok (.aload_n 0, 1) := by decide +kernel
theorem dX2_init_24 : decode cX2_init 24 = .ok (.iload_n 1, 1) := by decide +kernel
theorem dX2_init_25 : decode cX2_init 25 = .ok (.iload_n 2, 1) := by decide +kernel
theorem dX2_init_26 : decode cX2_init 26 = .ok (.imul, 1) := by decide +kernel
theorem dX2_init_27 : decode cX2_init 27 = .ok (.newarray .double, 2) := by decide +kernel
theorem dX2_init_29 : decode cX2_init 29 = .ok (.putfield 22, 3) := by decide +kernel
theorem dX2_init_32 : decode cX2_init 32 = .ok (.aload_n 0, 1) := by decide +kernel
theorem dX2_init_33 : decode cX2_init 33 = .ok (.iload_n 1, 1) := by decide +kernel
theorem dX2_init_34 : decode cX2_init 34 = .ok (.iload_n 2, 1) := by decide +kernel
theorem dX2_init_35 : decode cX2_init 35 = .ok (.imul, 1) := by decide +kernel
theorem dX2_init_36 : decode cX2_init 36 = .ok (.newarray .double, 2) := by decide +kernel
theorem dX2_init_38 : decode cX2_init 38 = .ok (.putfield 25, 3) := by decide +kernel
theorem dX2_init_41 : decode cX2_init 41 = .ok (.aload_n 0, 1) := by decide +kernel
theorem dX2_init_42 : decode cX2_init 42 = .ok (.new 28, 3) := by decide +kernel
theorem dX2_init_45 : decode cX2_init 45 = .ok (.dup, 1) := by decide +kernel
theorem dX2_init_46 : decode cX2_init 46 = .ok (.invokespecial 30, 3) := by decide +kernel
theorem dX2_init_49 : decode cX2_init 49 = .ok (.putfield 31, 3) := by decide +kernel
theorem dX2_init_52 : decode cX2_init 52 = .ok (.aload_n 0, 1) := by decide +kernel
theorem dX2_init_53 : decode cX2_init 53 = .ok (.dconst 1, 1) := by decide +kernel
theorem dX2_init_54 : decode cX2_init 54 = .ok (.putfield 35, 3) := by decide +kernel
theorem dX2_init_57 : decode cX2_init 57 = .ok (.aload_n 0, 1) := by decide +kernel
theorem dX2_init_58 : decode cX2_init 58 = .ok (.dconst 1, 1) := by decide +kernel
theorem dX2_init_59 : decode cX2_init 59 = .ok (.putfield 39, 3) := by decide +kernel
theorem dX2_init_62 : decode cX2_init 62 = .ok (.aload_n 0, 1) := by decide +kernel
theorem dX2_init_63 : decode cX2_init 63 = .ok (.dconst 1, 1) := by decide +kernel
theorem dX2_init_64 : decode cX2_init 64 = .ok (.putfield 42, 3) := by decide +kernel
theorem dX2_init_67 : decode cX2_init 67 = .ok (.iconst 0, 1) := by decide +kernel
theorem dX2_init_68 : decode cX2_init 68 = .ok (.istore_n 3, 1) := by decide +kernel
theorem dX2_init_69 : decode cX2_init 69 = .ok (.iload_n 3, 1) := by decide +kernel
theorem dX2_init_70 : decode cX2_init 70 = .ok (.aload_n 0, 1) := by decide +kernel
theorem dX2_init_71 : decode cX2_init 71 = .ok (.getfield 18, 3) := by decide +kernel
theorem dX2_init_74 : decode cX2_init 74 = .ok (.arraylength, 1) := by decide +kernel
theorem dX2_init_75 : decode cX2_init 75 = .ok (.if_icmp .ge 16, 3) := by decide +kernel
theorem dX2_init_78 : decode cX2_init 78 = .ok (.aload_n 0, 1) := by decide +kernel
theorem dX2_init_79 : decode cX2_init 79 = .ok (.getfield 18, 3) := by decide +kernel
theorem dX2_init_82 : decode cX2_init 82 = .ok (.iload_n 3, 1) := by decide +kernel
theorem dX2_init_83 : decode cX2_init 83 = .ok (.dconst 1, 1) := by decide +kernel
theorem dX2_init_84 : decode cX2_init 84 = .ok (.dastore, 1) := by decide +kernel
theorem dX2_init_85 : decode cX2_init 85 = .ok (.iinc 3 1, 3) := by decide +kernel
theorem dX2_init_88 : decode cX2_init 88 = .ok (.goto (-19), 3) := by decide +kernel
theorem dX2_init_91 : decode cX2_init 91 = .ok (.return_, 1) := by decide +kernel
theorem dX2_cells_0 : decode cX2_cells 0 = .ok (.aload_n 0, 1) := by decide +kernel
theorem dX2_cells_1 : decode cX2_cells 1 = .ok (.getfield 18, 3) := by decide +kernel
theorem dX2_cells_4 : decode cX2_cells 4 = .ok (.arraylength, 1) := by decide +kernel
theorem dX2_cells_5 : decode cX2_cells 5 = .ok (.ireturn, 1) := by decide +kernel
theorem dX2_hasCell_0 : decode cX2_hasCell 0 = .ok (.iload_n 1, 1) := by decide +kernel
theorem dX2_hasCell_1 : decode cX2_hasCell 1 = .ok (.ifCond .lt 27, 3) := by decide +kernel
theorem dX2_hasCell_4 : decode cX2_hasCell 4 = .ok (.iload_n 1, 1) := by decide +kernel
theorem dX2_hasCell_5 : decode cX2_hasCell 5 = .ok (.aload_n 0, 1) := by decide +kernel
theorem dX2_hasCell_6 : decode cX2_hasCell 6 = .ok (.getfield 9, 3) := by decide +kernel
theorem dX2_hasCell_9 : decode cX2_hasCell 9 = .ok (.if_icmp .ge 19, 3) := by decide +kernel
theorem dX2_hasCell_12 : decode cX2_hasCell 12 = .ok (.iload_n 2, 1) := by decide +kernel
theorem dX2_hasCell_13 : decode cX2_hasCell 13 = .ok (.ifCond .lt 15, 3) := by decide +kernel
theorem dX2_hasCell_16 : decode cX2_hasCell 16 = .ok (.iload_n 2, 1) := by decide +kernel
theorem dX2_hasCell_17 : decode cX2_hasCell 17 = .ok (.aload_n 0, 1) := by decide +kernel
theorem dX2_hasCell_18 : decode cX2_hasCell 18 = .ok (.getfield 15, 3) := by decide +kernel
theorem dX2_hasCell_21 : decode cX2_hasCell 21 = .ok (.if_icmp .ge 7, 3) := by decide +kernel
theorem dX2_hasCell_24 : decode cX2_hasCell 24 = .ok (.iconst 1, 1) := by decide +kernel
theorem dX2_hasCell_25 : decode cX2_hasCell 25 = .ok (.goto 4, 3) := by decide +kernel
theorem dX2_hasCell_28 : decode cX2_hasCell 28 = .ok (.iconst 0, 1) := by decide +kernel
theorem dX2_hasCell_29 : decode cX2_hasCell 29 = .ok (.ireturn, 1) := by decide +kernel
theorem dX2_cellAt_0 : decode cX2_cellAt 0 = .ok (.iload_n 2, 1) := by decide +kernel
theorem dX2_cellAt_1 : decode cX2_cellAt 1 = .ok (.aload_n 0, 1) := by decide +kernel
theorem dX2_cellAt_2 : decode cX2_cellAt 2 = .ok (.getfield 9, 3) := by decide +kernel
theorem dX2_cellAt_5 : decode cX2_cellAt 5 = .ok (.imul, 1) := by decide +kernel
theorem dX2_cellAt_6 : decode cX2_cellAt 6 = .ok (.iload_n 1, 1) := by decide +kernel
theorem dX2_cellAt_7 : decode cX2_cellAt 7 = .ok (.iadd, 1) := by decide +kernel
theorem dX2_cellAt_8 : decode cX2_cellAt 8 = .ok (.ireturn, 1) := by decide +kernel
theorem dX2_thicknessOf_0 : decode cX2_thicknessOf 0 = .ok (.aload_n 0, 1) := by decide +kernel
theorem dX2_thicknessOf_1 : decode cX2_thicknessOf 1 = .ok (.getfield 18, 3) := by decide +kernel
theorem dX2_thicknessOf_4 : decode cX2_thicknessOf 4 = .ok (.iload_n 1, 1) := by decide +kernel
theorem dX2_thicknessOf_5 : decode cX2_thicknessOf 5 = .ok (.daload, 1) := by decide +kernel
theorem dX2_thicknessOf_6 : decode cX2_thicknessOf 6 = .ok (.dreturn, 1) := by decide +kernel
theorem dX2_setThickness_0 : decode cX2_setThickness 0 = .ok (.aload_n 0, 1) := by decide +kernel
theorem dX2_setThickness_1 : decode cX2_setThickness 1 = .ok (.getfield 18, 3) := by decide +kernel
theorem dX2_setThickness_4 : decode cX2_setThickness 4 = .ok (.iload_n 1, 1) := by decide +kernel
theorem dX2_setThickness_5 : decode cX2_setThickness 5 = .ok (.dload_n 2, 1) := by decide +kernel
theorem dX2_setThickness_6 : decode cX2_setThickness 6 = .ok (.dastore, 1) := by decide +kernel
theorem dX2_setThickness_7 : decode cX2_setThickness 7 = .ok (.return_, 1) := by decide +kernel
theorem dX2_hasWood_0 : decode cX2_hasWood 0 = .ok (.aload_n 0, 1) := by decide +kernel
theorem dX2_hasWood_1 : decode cX2_hasWood 1 = .ok (.getfield 18, 3) := by decide +kernel
theorem dX2_hasWood_4 : decode cX2_hasWood 4 = .ok (.iload_n 1, 1) := by decide +kernel
theorem dX2_hasWood_5 : decode cX2_hasWood 5 = .ok (.daload, 1) := by decide +kernel
theorem dX2_hasWood_6 : decode cX2_hasWood 6 = .ok (.dconst 0, 1) := by decide +kernel
theorem dX2_hasWood_7 : decode cX2_hasWood 7 = .ok (.dcmp .l, 1) := by decide +kernel
theorem dX2_hasWood_8 : decode cX2_hasWood 8 = .ok (.ifCond .le 7, 3) := by decide +kernel
theorem dX2_hasWood_11 : decode cX2_hasWood 11 = .ok (.iconst 1, 1) := by decide +kernel
theorem dX2_hasWood_12 : decode cX2_hasWood 12 = .ok (.goto 4, 3) := by decide +kernel
theorem dX2_hasWood_15 : decode cX2_hasWood 15 = .ok (.iconst 0, 1) := by decide +kernel
theorem dX2_hasWood_16 : decode cX2_hasWood 16 = .ok (.ireturn, 1) := by decide +kernel
theorem dX2_setRates_0 : decode cX2_setRates 0 = .ok (.aload_n 0, 1) := by decide +kernel
theorem dX2_setRates_1 : decode cX2_setRates 1 = .ok (.dload_n 1, 1) := by decide +kernel
theorem dX2_setRates_2 : decode cX2_setRates 2 = .ok (.putfield 35, 3) := by decide +kernel
theorem dX2_setRates_5 : decode cX2_setRates 5 = .ok (.aload_n 0, 1) := by decide +kernel
theorem dX2_setRates_6 : decode cX2_setRates 6 = .ok (.dload_n 3, 1) := by decide +kernel
theorem dX2_setRates_7 : decode cX2_setRates 7 = .ok (.putfield 39, 3) := by decide +kernel
theorem dX2_setRates_10 : decode cX2_setRates 10 = .ok (.aload_n 0, 1) := by decide +kernel
theorem dX2_setRates_11 : decode cX2_setRates 11 = .ok (.dload 5, 2) := by decide +kernel
theorem dX2_setRates_13 : decode cX2_setRates 13 = .ok (.putfield 42, 3) := by decide +kernel
theorem dX2_setRates_16 : decode cX2_setRates 16 = .ok (.return_, 1) := by decide +kernel
set_option maxRecDepth 20000 in
theorem ggX2_bracesFull_X0_full : GoodIn wsX2_bracesFull wsX0_full := goodIn_r _ [6, 7, 17, 18, 19, 20, 21] (by decide +kernel) (by decide +kernel)
set_option maxRecDepth 20000 in
theorem gX2_bracesFull_X0_full : GoodIn wsX2_bracesFull (wsV RX2 45 RX0 yX0_full wsX0_full) := goodIn_app (goodIn_of _ (by decide +kernel)) ggX2_bracesFull_X0_full
theorem dX2_bracesFull_0 : decode cX2_bracesFull 0 = .ok (.aload_n 0, 1) := by decide +kernel
theorem dX2_bracesFull_1 : decode cX2_bracesFull 1 = .ok (.getfield 31, 3) := by decide +kernel
theorem dX2_bracesFull_4 : decode cX2_bracesFull 4 = .ok (.invokevirtual 45, 3) := by decide +kernel
theorem dX2_bracesFull_7 : decode cX2_bracesFull 7 = .ok (.ireturn, 1) := by decide +kernel
set_option maxRecDepth 20000 in
theorem ggX2_addBrace_X0_add : GoodIn wsX2_addBrace wsX0_add := goodIn_r _ [7, 8, 9, 10, 11, 12, 13, 14, 15, 6, 16, 26, 27, 28, 29, 30] (by decide +kernel) (by decide +kernel)
set_option maxRecDepth 20000 in
theorem gX2_addBrace_X0_add : GoodIn wsX2_addBrace (wsV RX2 49 RX0 yX0_add wsX0_add) := goodIn_app (goodIn_of _ (by decide +kernel)) ggX2_addBrace_X0_add
theorem dX2_addBrace_0 : decode cX2_addBrace 0 = .ok (.aload_n 0, 1) := by decide +kernel
theorem dX2_addBrace_1 : decode cX2_addBrace 1 = .ok (.getfield 31, 3) := by decide +kernel
theorem dX2_addBrace_4 : decode cX2_addBrace 4 = .ok (.iload_n 1, 1) := by decide +kernel
theorem dX2_addBrace_5 : decode cX2_addBrace 5 = .ok (.ifCond .eq 7, 3) := by decide +kernel
theorem dX2_addBrace_8 : decode cX2_addBrace 8 = .ok (.iconst 1, 1) := by decide +kernel
theorem dX2_addBrace_9 : decode cX2_addBrace 9 = .ok (.goto 7, 3) := by decide +kernel
theorem dX2_addBrace_12 : decode cX2_addBrace 12 = .ok (.aload_n 0, 1) := by decide +kernel
theorem dX2_addBrace_13 : decode cX2_addBrace 13 = .ok (.getfield 9, 3) := by decide +kernel
theorem dX2_addBrace_16 : decode cX2_addBrace 16 = .ok (.iload_n 2, 1) := by decide +kernel
theorem dX2_addBrace_17 : decode cX2_addBrace 17 = .ok (.iload_n 3, 1) := by decide +kernel
theorem dX2_addBrace_18 : decode cX2_addBrace 18 = .ok (.dload 4, 2) := by decide +kernel
theorem dX2_addBrace_20 : decode cX2_addBrace 20 = .ok (.invokevirtual 49, 3) := by decide +kernel
theorem dX2_addBrace_23 : decode cX2_addBrace 23 = .ok (.ireturn, 1) := by decide +kernel
theorem dX2_massOf_0 : decode cX2_massOf 0 = .ok (.aload_n 0, 1) := by decide +kernel
theorem dX2_massOf_1 : decode cX2_massOf 1 = .ok (.getfield 18, 3) := by decide +kernel
theorem dX2_massOf_4 : decode cX2_massOf 4 = .ok (.iload_n 1, 1) := by decide +kernel
theorem dX2_massOf_5 : decode cX2_massOf 5 = .ok (.daload, 1) := by decide +kernel
theorem dX2_massOf_6 : decode cX2_massOf 6 = .ok (.aload_n 0, 1) := by decide +kernel
theorem dX2_massOf_7 : decode cX2_massOf 7 = .ok (.getfield 42, 3) := by decide +kernel
theorem dX2_massOf_10 : decode cX2_massOf 10 = .ok (.dmul, 1) := by decide +kernel
theorem dX2_massOf_11 : decode cX2_massOf 11 = .ok (.dreturn, 1) := by decide +kernel
set_option maxRecDepth 20000 in
theorem ggX2_massOfAll_X2_massOf : GoodIn wsX2_massOfAll wsX2_massOf := goodIn_r _ [6, 1, 7, 8, 9, 10, 11, 12, 13, 14, 15, 16] (by decide +kernel) (by decide +kernel)
set_option maxRecDepth 20000 in
theorem gX2_massOfAll_X2_massOf : GoodIn wsX2_massOfAll (wsV RX2 53 RX2 yX2_massOf wsX2_massOf) := goodIn_app (goodIn_of _ (by decide +kernel)) ggX2_massOfAll_X2_massOf
theorem dX2_massOfAll_0 : decode cX2_massOfAll 0 = .ok (.dconst 0, 1) := by decide +kernel
theorem dX2_massOfAll_1 : decode cX2_massOfAll 1 = .ok (.dstore_n 1, 1) := by decide +kernel
theorem dX2_massOfAll_2 : decode cX2_massOfAll 2 = .ok (.iconst 0, 1) := by decide +kernel
theorem dX2_massOfAll_3 : decode cX2_massOfAll 3 = .ok (.istore_n 3, 1) := by decide +kernel
theorem dX2_massOfAll_4 : decode cX2_massOfAll 4 = .ok (.iload_n 3, 1) := by decide +kernel
theorem dX2_massOfAll_5 : decode cX2_massOfAll 5 = .ok (.aload_n 0, 1) := by decide +kernel
theorem dX2_massOfAll_6 : decode cX2_massOfAll 6 = .ok (.getfield 18, 3) := by decide +kernel
theorem dX2_massOfAll_9 : decode cX2_massOfAll 9 = .ok (.arraylength, 1) := by decide +kernel
theorem dX2_massOfAll_10 : decode cX2_massOfAll 10 = .ok (.if_icmp .ge 17, 3) := by decide +kernel
theorem dX2_massOfAll_13 : decode cX2_massOfAll 13 = .ok (.dload_n 1, 1) := by decide +kernel
theorem dX2_massOfAll_14 : decode cX2_massOfAll 14 = .ok (.aload_n 0, 1) := by decide +kernel
theorem dX2_massOfAll_15 : decode cX2_massOfAll 15 = .ok (.iload_n 3, 1) := by decide +kernel
theorem dX2_massOfAll_16 : decode cX2_massOfAll 16 = .ok (.invokevirtual 53, 3) := by decide +kernel
theorem dX2_massOfAll_19 : decode cX2_massOfAll 19 = .ok (.dadd, 1) := by decide +kernel
theorem dX2_massOfAll_20 : decode cX2_massOfAll 20 = .ok (.dstore_n 1, 1) := by decide +kernel
theorem dX2_massOfAll_21 : decode cX2_massOfAll 21 = .ok (.iinc 3 1, 3) := by decide +kernel
theorem dX2_massOfAll_24 : decode cX2_massOfAll 24 = .ok (.goto (-20), 3) := by decide +kernel
theorem dX2_massOfAll_27 : decode cX2_massOfAll 27 = .ok (.dload_n 1, 1) := by decide +kernel
theorem dX2_massOfAll_28 : decode cX2_massOfAll 28 = .ok (.dreturn, 1) := by decide +kernel
set_option maxRecDepth 20000 in
theorem ggX2_mirroredAlongX_X2_cellAt : GoodIn wsX2_mirroredAlongX wsX2_cellAt := goodIn_r _ [8, 2, 9, 10, 11, 12, 13, 14, 15, 16, 17] (by decide +kernel) (by decide +kernel)
set_option maxRecDepth 20000 in
theorem gX2_mirroredAlongX_X2_cellAt : GoodIn wsX2_mirroredAlongX (wsV RX2 57 RX2 yX2_cellAt wsX2_cellAt) := goodIn_app (goodIn_of _ (by decide +kernel)) ggX2_mirroredAlongX_X2_cellAt
theorem dX2_mirroredAlongX_0 : decode cX2_mirroredAlongX 0 = .ok (.iconst 0, 1) := by decide +kernel
theorem dX2_mirroredAlongX_1 : decode cX2_mirroredAlongX 1 = .ok (.istore_n 1, 1) := by decide +kernel
theorem dX2_mirroredAlongX_2 : decode cX2_mirroredAlongX 2 = .ok (.iload_n 1, 1) := by decide +kernel
theorem dX2_mirroredAlongX_3 : decode cX2_mirroredAlongX 3 = .ok (.aload_n 0, 1) := by decide +kernel
theorem dX2_mirroredAlongX_4 : decode cX2_mirroredAlongX 4 = .ok (.getfield 15, 3) := by decide +kernel
theorem dX2_mirroredAlongX_7 : decode cX2_mirroredAlongX 7 = .ok (.if_icmp .ge 60, 3) := by decide +kernel
theorem dX2_mirroredAlongX_10 : decode cX2_mirroredAlongX 10 = .ok (.iconst 0, 1) := by decide +kernel
theorem dX2_mirroredAlongX_11 : decode cX2_mirroredAlongX 11 = .ok (.istore_n 2, 1) := by decide +kernel
theorem dX2_mirroredAlongX_12 : decode cX2_mirroredAlongX 12 = .ok (.iload_n 2, 1) := by decide +kernel
theorem dX2_mirroredAlongX_13 : decode cX2_mirroredAlongX 13 = .ok (.aload_n 0, 1) := by decide +kernel
theorem dX2_mirroredAlongX_14 : decode cX2_mirroredAlongX 14 = .ok (.getfield 9, 3) := by decide +kernel
theorem dX2_mirroredAlongX_17 : decode cX2_mirroredAlongX 17 = .ok (.if_icmp .ge 44, 3) := by decide +kernel
theorem dX2_mirroredAlongX_20 : decode cX2_mirroredAlongX 20 = .ok (.aload_n 0, 1) := by decide +kernel
theorem dX2_mirroredAlongX_21 : decode cX2_mirroredAlongX 21 = .ok (.getfield 18, 3) := by decide +kernel
theorem dX2_mirroredAlongX_24 : decode cX2_mirroredAlongX 24 = .ok (.aload_n 0, 1) := by decide +kernel
theorem dX2_mirroredAlongX_25 : decode cX2_mirroredAlongX 25 = .ok (.iload_n 2, 1) := by decide +kernel
theorem dX2_mirroredAlongX_26 : decode cX2_mirroredAlongX 26 = .ok (.iload_n 1, 1) := by decide +kernel
theorem dX2_mirroredAlongX_27 : decode cX2_mirroredAlongX 27 = .ok (.invokevirtual 57, 3) := by decide +kernel
theorem dX2_mirroredAlongX_30 : decode cX2_mirroredAlongX 30 = .ok (.daload, 1) := by decide +kernel
theorem dX2_mirroredAlongX_31 : decode cX2_mirroredAlongX 31 = .ok (.aload_n 0, 1) := by decide +kernel
theorem dX2_mirroredAlongX_32 : decode cX2_mirroredAlongX 32 = .ok (.getfield 18, 3) := by decide +kernel
theorem dX2_mirroredAlongX_35 : decode cX2_mirroredAlongX 35 = .ok (.aload_n 0, 1) := by decide +kernel
theorem dX2_mirroredAlongX_36 : decode cX2_mirroredAlongX 36 = .ok (.aload_n 0, 1) := by decide +kernel
theorem dX2_mirroredAlongX_37 : decode cX2_mirroredAlongX 37 = .ok (.getfield 9, 3) := by decide +kernel
theorem dX2_mirroredAlongX_40 : decode cX2_mirroredAlongX 40 = .ok (.iconst 1, 1) := by decide +kernel
theorem dX2_mirroredAlongX_41 : decode cX2_mirroredAlongX 41 = .ok (.isub, 1) := by decide +kernel
theorem dX2_mirroredAlongX_42 : decode cX2_mirroredAlongX 42 = .ok (.iload_n 2, 1) := by decide +kernel
theorem dX2_mirroredAlongX_43 : decode cX2_mirroredAlongX 43 = .ok (.isub, 1) := by decide +kernel
theorem dX2_mirroredAlongX_44 : decode cX2_mirroredAlongX 44 = .ok (.iload_n 1, 1) := by decide +kernel
theorem dX2_mirroredAlongX_45 : decode cX2_mirroredAlongX 45 = .ok (.invokevirtual 57, 3) := by decide +kernel
theorem dX2_mirroredAlongX_48 : decode cX2_mirroredAlongX 48 = .ok (.daload, 1) := by decide +kernel
theorem dX2_mirroredAlongX_49 : decode cX2_mirroredAlongX 49 = .ok (.dcmp .l, 1) := by decide +kernel
theorem dX2_mirroredAlongX_50 : decode cX2_mirroredAlongX 50 = .ok (.ifCond .eq 5, 3) := by decide +kernel
theorem dX2_mirroredAlongX_53 : decode cX2_mirroredAlongX 53 = .ok (.iconst 0, 1) := by decide +kernel
theorem dX2_mirroredAlongX_54 : decode cX2_mirroredAlongX 54 = .ok (.ireturn, 1) := by decide +kernel
theorem dX2_mirroredAlongX_55 : decode cX2_mirroredAlongX 55 = .ok (.iinc 2 1, 3) := by decide +kernel
theorem dX2_mirroredAlongX_58 : decode cX2_mirroredAlongX 58 = .ok (.goto (-46), 3) := by decide +kernel
theorem dX2_mirroredAlongX_61 : decode cX2_mirroredAlongX 61 = .ok (.iinc 1 1, 3) := by decide +kernel
theorem dX2_mirroredAlongX_64 : decode cX2_mirroredAlongX 64 = .ok (.goto (-62), 3) := by decide +kernel
theorem dX2_mirroredAlongX_67 : decode cX2_mirroredAlongX 67 = .ok (.iconst 1, 1) := by decide +kernel
theorem dX2_mirroredAlongX_68 : decode cX2_mirroredAlongX 68 = .ok (.ireturn, 1) := by decide +kernel
set_option maxRecDepth 20000 in
theorem ggX2_mirroredAlongY_X2_cellAt : GoodIn wsX2_mirroredAlongY wsX2_cellAt := goodIn_r _ [8, 2, 9, 10, 11, 12, 13, 14, 15, 16, 17] (by decide +kernel) (by decide +kernel)
set_option maxRecDepth 20000 in
theorem gX2_mirroredAlongY_X2_cellAt : GoodIn wsX2_mirroredAlongY (wsV RX2 57 RX2 yX2_cellAt wsX2_cellAt) := goodIn_app (goodIn_of _ (by decide +kernel)) ggX2_mirroredAlongY_X2_cellAt
theorem dX2_mirroredAlongY_0 : decode cX2_mirroredAlongY 0 = .ok (.iconst 0, 1) := by decide +kernel
theorem dX2_mirroredAlongY_1 : decode cX2_mirroredAlongY 1 = .ok (.istore_n 1, 1) := by decide +kernel
theorem dX2_mirroredAlongY_2 : decode cX2_mirroredAlongY 2 = .ok (.iload_n 1, 1) := by decide +kernel
theorem dX2_mirroredAlongY_3 : decode cX2_mirroredAlongY 3 = .ok (.aload_n 0, 1) := by decide +kernel
theorem dX2_mirroredAlongY_4 : decode cX2_mirroredAlongY 4 = .ok (.getfield 15, 3) := by decide +kernel
theorem dX2_mirroredAlongY_7 : decode cX2_mirroredAlongY 7 = .ok (.if_icmp .ge 60, 3) := by decide +kernel
theorem dX2_mirroredAlongY_10 : decode cX2_mirroredAlongY 10 = .ok (.iconst 0, 1) := by decide +kernel
theorem dX2_mirroredAlongY_11 : decode cX2_mirroredAlongY 11 = .ok (.istore_n 2, 1) := by decide +kernel
theorem dX2_mirroredAlongY_12 : decode cX2_mirroredAlongY 12 = .ok (.iload_n 2, 1) := by decide +kernel
theorem dX2_mirroredAlongY_13 : decode cX2_mirroredAlongY 13 = .ok (.aload_n 0, 1) := by decide +kernel
theorem dX2_mirroredAlongY_14 : decode cX2_mirroredAlongY 14 = .ok (.getfield 9, 3) := by decide +kernel
theorem dX2_mirroredAlongY_17 : decode cX2_mirroredAlongY 17 = .ok (.if_icmp .ge 44, 3) := by decide +kernel
theorem dX2_mirroredAlongY_20 : decode cX2_mirroredAlongY 20 = .ok (.aload_n 0, 1) := by decide +kernel
theorem dX2_mirroredAlongY_21 : decode cX2_mirroredAlongY 21 = .ok (.getfield 18, 3) := by decide +kernel
theorem dX2_mirroredAlongY_24 : decode cX2_mirroredAlongY 24 = .ok (.aload_n 0, 1) := by decide +kernel
theorem dX2_mirroredAlongY_25 : decode cX2_mirroredAlongY 25 = .ok (.iload_n 2, 1) := by decide +kernel
theorem dX2_mirroredAlongY_26 : decode cX2_mirroredAlongY 26 = .ok (.iload_n 1, 1) := by decide +kernel
theorem dX2_mirroredAlongY_27 : decode cX2_mirroredAlongY 27 = .ok (.invokevirtual 57, 3) := by decide +kernel
theorem dX2_mirroredAlongY_30 : decode cX2_mirroredAlongY 30 = .ok (.daload, 1) := by decide +kernel
theorem dX2_mirroredAlongY_31 : decode cX2_mirroredAlongY 31 = .ok (.aload_n 0, 1) := by decide +kernel
theorem dX2_mirroredAlongY_32 : decode cX2_mirroredAlongY 32 = .ok (.getfield 18, 3) := by decide +kernel
theorem dX2_mirroredAlongY_35 : decode cX2_mirroredAlongY 35 = .ok (.aload_n 0, 1) := by decide +kernel
theorem dX2_mirroredAlongY_36 : decode cX2_mirroredAlongY 36 = .ok (.iload_n 2, 1) := by decide +kernel
theorem dX2_mirroredAlongY_37 : decode cX2_mirroredAlongY 37 = .ok (.aload_n 0, 1) := by decide +kernel
theorem dX2_mirroredAlongY_38 : decode cX2_mirroredAlongY 38 = .ok (.getfield 15, 3) := by decide +kernel
theorem dX2_mirroredAlongY_41 : decode cX2_mirroredAlongY 41 = .ok (.iconst 1, 1) := by decide +kernel
theorem dX2_mirroredAlongY_42 : decode cX2_mirroredAlongY 42 = .ok (.isub, 1) := by decide +kernel
theorem dX2_mirroredAlongY_43 : decode cX2_mirroredAlongY 43 = .ok (.iload_n 1, 1) := by decide +kernel
theorem dX2_mirroredAlongY_44 : decode cX2_mirroredAlongY 44 = .ok (.isub, 1) := by decide +kernel
theorem dX2_mirroredAlongY_45 : decode cX2_mirroredAlongY 45 = .ok (.invokevirtual 57, 3) := by decide +kernel
theorem dX2_mirroredAlongY_48 : decode cX2_mirroredAlongY 48 = .ok (.daload, 1) := by decide +kernel
theorem dX2_mirroredAlongY_49 : decode cX2_mirroredAlongY 49 = .ok (.dcmp .l, 1) := by decide +kernel
theorem dX2_mirroredAlongY_50 : decode cX2_mirroredAlongY 50 = .ok (.ifCond .eq 5, 3) := by decide +kernel
theorem dX2_mirroredAlongY_53 : decode cX2_mirroredAlongY 53 = .ok (.iconst 0, 1) := by decide +kernel
theorem dX2_mirroredAlongY_54 : decode cX2_mirroredAlongY 54 = .ok (.ireturn, 1) := by decide +kernel
theorem dX2_mirroredAlongY_55 : decode cX2_mirroredAlongY 55 = .ok (.iinc 2 1, 3) := by decide +kernel
theorem dX2_mirroredAlongY_58 : decode cX2_mirroredAlongY 58 = .ok (.goto (-46), 3) := by decide +kernel
theorem dX2_mirroredAlongY_61 : decode cX2_mirroredAlongY 61 = .ok (.iinc 1 1, 3) := by decide +kernel
theorem dX2_mirroredAlongY_64 : decode cX2_mirroredAlongY 64 = .ok (.goto (-62), 3) := by decide +kernel
theorem dX2_mirroredAlongY_67 : decode cX2_mirroredAlongY 67 = .ok (.iconst 1, 1) := by decide +kernel
theorem dX2_mirroredAlongY_68 : decode cX2_mirroredAlongY 68 = .ok (.ireturn, 1) := by decide +kernel
set_option maxRecDepth 20000 in
theorem ggX2_bindSprings_X2_cellAt : GoodIn wsX2_bindSprings wsX2_cellAt := goodIn_r _ [12, 2, 53, 54, 55, 56, 57, 58, 59, 60, 61] (by decide +kernel) (by decide +kernel)
set_option maxRecDepth 20000 in
theorem gX2_bindSprings_X2_cellAt : GoodIn wsX2_bindSprings (wsV RX2 57 RX2 yX2_cellAt wsX2_cellAt) := goodIn_app (goodIn_of _ (by decide +kernel)) ggX2_bindSprings_X2_cellAt
set_option maxRecDepth 20000 in
theorem ggX2_bindSprings_X2_springOf : GoodIn wsX2_bindSprings wsX2_springOf := goodIn_r _ [16, 17, 18, 19, 20, 21, 11, 22, 53, 54, 55, 56, 57, 58, 59, 60, 61] (by decide +kernel) (by decide +kernel)
set_option maxRecDepth 20000 in
theorem gX2_bindSprings_X2_springOf : GoodIn wsX2_bindSprings (wsV RX2 61 RX2 yX2_springOf wsX2_springOf) := goodIn_app (goodIn_of _ (by decide +kernel)) ggX2_bindSprings_X2_springOf
set_option maxRecDepth 20000 in
theorem ggX2_bindSprings_X0_count : GoodIn wsX2_bindSprings wsX0_count := goodIn_r _ [27, 28, 62, 63, 64, 65, 66] (by decide +kernel) (by decide +kernel)
set_option maxRecDepth 20000 in
theorem gX2_bindSprings_X0_count : GoodIn wsX2_bindSprings (wsV RX2 65 RX0 yX0_count wsX0_count) := goodIn_app (goodIn_of _ (by decide +kernel)) ggX2_bindSprings_X0_count
set_option maxRecDepth 20000 in
theorem ggX2_bindSprings_X2_stiffenBy : GoodIn wsX2_bindSprings wsX2_stiffenBy := goodIn_r _ [32, 7, 3, 5, 33, 34, 35, 26, 36, 37, 38, 39, 40, 41, 42, 43, 44, 45, 46, 47, 48, 49, 50, 51, 52, 19, 20, 21, 11, 22, 17, 53, 54, 55, 56, 57, 58, 59, 60, 61, 62, 63, 64, 65, 66] (by decide +kernel) (by decide +kernel)
set_option maxRecDepth 20000 in
theorem gX2_bindSprings_X2_stiffenBy : GoodIn wsX2_bindSprings (wsV RX2 69 RX2 yX2_stiffenBy wsX2_stiffenBy) := goodIn_app (goodIn_of _ (by decide +kernel)) ggX2_bindSprings_X2_stiffenBy
theorem dX2_bindSprings_0 : decode cX2_bindSprings 0 = .ok (.iconst 0, 1) := by decide +kernel
theorem dX2_bindSprings_1 : decode cX2_bindSprings 1 = .ok (.istore_n 1, 1) := by decide +kernel
theorem dX2_bindSprings_2 : decode cX2_bindSprings 2 = .ok (.iload_n 1, 1) := by decide +kernel
theorem dX2_bindSprings_3 : decode cX2_bindSprings 3 = .ok (.aload_n 0, 1) := by decide +kernel
theorem dX2_bindSprings_4 : decode cX2_bindSprings 4 = .ok (.getfield 15, 3) := by decide +kernel
theorem dX2_bindSprings_7 : decode cX2_bindSprings 7 = .ok (.if_icmp .ge 99, 3) := by decide +kernel
theorem dX2_bindSprings_10 : decode cX2_bindSprings 10 = .ok (.iconst 0, 1) := by decide +kernel
theorem dX2_bindSprings_11 : decode cX2_bindSprings 11 = .ok (.istore_n 2, 1) := by decide +kernel
theorem dX2_bindSprings_12 : decode cX2_bindSprings 12 = .ok (.iload_n 2, 1) := by decide +kernel
theorem dX2_bindSprings_13 : decode cX2_bindSprings 13 = .ok (.aload_n 0, 1) := by decide +kernel
theorem dX2_bindSprings_14 : decode cX2_bindSprings 14 = .ok (.getfield 9, 3) := by decide +kernel
theorem dX2_bindSprings_17 : decode cX2_bindSprings 17 = .ok (.if_icmp .ge 83, 3) := by decide +kernel
theorem dX2_bindSprings_20 : decode cX2_bindSprings 20 = .ok (.aload_n 0, 1) := by decide +kernel
theorem dX2_bindSprings_21 : decode cX2_bindSprings 21 = .ok (.iload_n 2, 1) := by decide +kernel
theorem dX2_bindSprings_22 : decode cX2_bindSprings 22 = .ok (.iload_n 1, 1) := by decide +kernel
theorem dX2_bindSprings_23 : decode cX2_bindSprings 23 = .ok (.invokevirtual 57, 3) := by decide +kernel
theorem dX2_bindSprings_26 : decode cX2_bindSprings 26 = .ok (.istore_n 3, 1) := by decide +kernel
theorem dX2_bindSprings_27 : decode cX2_bindSprings 27 = .ok (.aload_n 0, 1) := by decide +kernel
theorem dX2_bindSprings_28 : decode cX2_bindSprings 28 = .ok (.getfield 22, 3) := by decide +kernel
theorem dX2_bindSprings_31 : decode cX2_bindSprings 31 = .ok (.iload_n 3, 1) := by decide +kernel
theorem dX2_bindSprings_32 : decode cX2_bindSprings 32 = .ok (.iload_n 2, 1) := by decide +kernel
theorem dX2_bindSprings_33 : decode cX2_bindSprings 33 = .ok (.iconst 1, 1) := by decide +kernel
theorem dX2_bindSprings_34 : decode cX2_bindSprings 34 = .ok (.iadd, 1) := by decide +kernel
theorem dX2_bindSprings_35 : decode cX2_bindSprings 35 = .ok (.aload_n 0, 1) := by decide +kernel
theorem dX2_bindSprings_36 : decode cX2_bindSprings 36 = .ok (.getfield 9, 3) := by decide +kernel
theorem dX2_bindSprings_39 : decode cX2_bindSprings 39 = .ok (.if_icmp .ge 18, 3) := by decide +kernel
theorem dX2_bindSprings_42 : decode cX2_bindSprings 42 = .ok (.aload_n 0, 1) := by decide +kernel
theorem dX2_bindSprings_43 : decode cX2_bindSprings 43 = .ok (.aload_n 0, 1) := by decide +kernel
theorem dX2_bindSprings_44 : decode cX2_bindSprings 44 = .ok (.getfield 35, 3) := by decide +kernel
theorem dX2_bindSprings_47 : decode cX2_bindSprings 47 = .ok (.iload_n 3, 1) := by decide +kernel
theorem dX2_bindSprings_48 : decode cX2_bindSprings 48 = .ok (.iload_n 3, 1) := by decide +kernel
theorem dX2_bindSprings_49 : decode cX2_bindSprings 49 = .ok (.iconst 1, 1) := by decide +kernel
theorem dX2_bindSprings_50 : decode cX2_bindSprings 50 = .ok (.iadd, 1) := by decide +kernel
theorem dX2_bindSprings_51 : decode cX2_bindSprings 51 = .ok (.invokevirtual 61, 3) := by decide +kernel
theorem dX2_bindSprings_54 : decode cX2_bindSprings 54 = .ok (.goto 4, 3) := by decide +kernel
theorem dX2_bindSprings_57 : decode cX2_bindSprings 57 = .ok (.dconst 0, 1) := by decide +kernel
theorem dX2_bindSprings_58 : decode cX2_bindSprings 58 = .ok (.dastore, 1) := by decide +kernel
theorem dX2_bindSprings_59 : decode cX2_bindSprings 59 = .ok (.aload_n 0, 1) := by decide +kernel
theorem dX2_bindSprings_60 : decode cX2_bindSprings 60 = .ok (.getfield 25, 3) := by decide +kernel
theorem dX2_bindSprings_63 : decode cX2_bindSprings 63 = .ok (.iload_n 3, 1) := by decide +kernel
theorem dX2_bindSprings_64 : decode cX2_bindSprings 64 = .ok (.iload_n 1, 1) := by decide +kernel
theorem dX2_bindSprings_65 : decode cX2_bindSprings 65 = .ok (.iconst 1, 1) := by decide +kernel
theorem dX2_bindSprings_66 : decode cX2_bindSprings 66 = .ok (.iadd, 1) := by decide +kernel
theorem dX2_bindSprings_67 : decode cX2_bindSprings 67 = .ok (.aload_n 0, 1) := by decide +kernel
theorem dX2_bindSprings_68 : decode cX2_bindSprings 68 = .ok (.getfield 15, 3) := by decide +kernel
theorem dX2_bindSprings_71 : decode cX2_bindSprings 71 = .ok (.if_icmp .ge 21, 3) := by decide +kernel
theorem dX2_bindSprings_74 : decode cX2_bindSprings 74 = .ok (.aload_n 0, 1) := by decide +kernel
theorem dX2_bindSprings_75 : decode cX2_bindSprings 75 = .ok (.aload_n 0, 1) := by decide +kernel
theorem dX2_bindSprings_76 : decode cX2_bindSprings 76 = .ok (.getfield 39, 3) := by decide +kernel
theorem dX2_bindSprings_79 : decode cX2_bindSprings 79 = .ok (.iload_n 3, 1) := by decide +kernel
theorem dX2_bindSprings_80 : decode cX2_bindSprings 80 = .ok (.iload_n 3, 1) := by decide +kernel
theorem dX2_bindSprings_81 : decode cX2_bindSprings 81 = .ok (.aload_n 0, 1) := by decide +kernel
theorem dX2_bindSprings_82 : decode cX2_bindSprings 82 = .ok (.getfield 9, 3) := by decide +kernel
theorem dX2_bindSprings_85 : decode cX2_bindSprings 85 = .ok (.iadd, 1) := by decide +kernel
theorem dX2_bindSprings_86 : decode cX2_bindSprings 86 = .ok (.invokevirtual 61, 3) := by decide +kernel
theorem dX2_bindSprings_89 : decode cX2_bindSprings 89 = .ok (.goto 4, 3) := by decide +kernel
theorem dX2_bindSprings_92 : decode cX2_bindSprings 92 = .ok (.dconst 0, 1) := by decide +kernel
theorem dX2_bindSprings_93 : decode cX2_bindSprings 93 = .ok (.dastore, 1) := by decide +kernel
theorem dX2_bindSprings_94 : decode cX2_bindSprings 94 = .ok (.iinc 2 1, 3) := by decide +kernel
theorem dX2_bindSprings_97 : decode cX2_bindSprings 97 = .ok (.goto (-85), 3) := by decide +kernel
theorem dX2_bindSprings_100 : decode cX2_bindSprings 100 = .ok (.iinc 1 1, 3) := by decide +kernel
theorem dX2_bindSprings_103 : decode cX2_bindSprings 103 = .ok (.goto (-101), 3) := by decide +kernel
theorem dX2_bindSprings_106 : decode cX2_bindSprings 106 = .ok (.iconst 0, 1) := by decide +kernel
theorem dX2_bindSprings_107 : decode cX2_bindSprings 107 = .ok (.istore_n 1, 1) := by decide +kernel
theorem dX2_bindSprings_108 : decode cX2_bindSprings 108 = .ok (.iload_n 1, 1) := by decide +kernel
theorem dX2_bindSprings_109 : decode cX2_bindSprings 109 = .ok (.aload_n 0, 1) := by decide +kernel
theorem dX2_bindSprings_110 : decode cX2_bindSprings 110 = .ok (.getfield 31, 3) := by decide +kernel
theorem dX2_bindSprings_113 : decode cX2_bindSprings 113 = .ok (.invokevirtual 65, 3) := by decide +kernel
theorem dX2_bindSprings_116 : decode cX2_bindSprings 116 = .ok (.if_icmp .ge 14, 3) := by decide +kernel
theorem dX2_bindSprings_119 : decode cX2_bindSprings 119 = .ok (.aload_n 0, 1) := by decide +kernel
theorem dX2_bindSprings_120 : decode cX2_bindSprings 120 = .ok (.iload_n 1, 1) := by decide +kernel
theorem dX2_bindSprings_121 : decode cX2_bindSprings 121 = .ok (.invokevirtual 69, 3) := by decide +kernel
theorem dX2_bindSprings_124 : decode cX2_bindSprings 124 = .ok (.iinc 1 1, 3) := by decide +kernel
theorem dX2_bindSprings_127 : decode cX2_bindSprings 127 = .ok (.goto (-19), 3) := by decide +kernel
theorem dX2_bindSprings_130 : decode cX2_bindSprings 130 = .ok (.return_, 1) := by decide +kernel
set_option maxRecDepth 20000 in
theorem ggX2_springOf_X2_hasWood : GoodIn wsX2_springOf wsX2_hasWood := goodIn_r _ [7, 1, 8, 9, 10, 11, 12, 13, 14, 15, 16] (by decide +kernel) (by decide +kernel)
set_option maxRecDepth 20000 in
theorem gX2_springOf_X2_hasWood : GoodIn wsX2_springOf (wsV RX2 73 RX2 yX2_hasWood wsX2_hasWood) := goodIn_app (goodIn_of _ (by decide +kernel)) ggX2_springOf_X2_hasWood
theorem dX2_springOf_0 : decode cX2_springOf 0 = .ok (.aload_n 0, 1) := by decide +kernel
theorem dX2_springOf_1 : decode cX2_springOf 1 = .ok (.iload_n 3, 1) := by decide +kernel
theorem dX2_springOf_2 : decode cX2_springOf 2 = .ok (.invokevirtual 73, 3) := by decide +kernel
theorem dX2_springOf_5 : decode cX2_springOf 5 = .ok (.ifCond .eq 12, 3) := by decide +kernel
theorem dX2_springOf_8 : decode cX2_springOf 8 = .ok (.aload_n 0, 1) := by decide +kernel
theorem dX2_springOf_9 : decode cX2_springOf 9 = .ok (.iload 4, 2) := by decide +kernel
theorem dX2_springOf_11 : decode cX2_springOf 11 = .ok (.invokevirtual 73, 3) := by decide +kernel
theorem dX2_springOf_14 : decode cX2_springOf 14 = .ok (.ifCond .ne 5, 3) := by decide +kernel
theorem dX2_springOf_17 : decode cX2_springOf 17 = .ok (.dconst 0, 1) := by decide +kernel
theorem dX2_springOf_18 : decode cX2_springOf 18 = .ok (.dreturn, 1) := by decide +kernel
theorem dX2_springOf_19 : decode cX2_springOf 19 = .ok (.aload_n 0, 1) := by decide +kernel
theorem dX2_springOf_20 : decode cX2_springOf 20 = .ok (.getfield 18, 3) := by decide +kernel
theorem dX2_springOf_23 : decode cX2_springOf 23 = .ok (.iload_n 3, 1) := by decide +kernel
theorem dX2_springOf_24 : decode cX2_springOf 24 = .ok (.daload, 1) := by decide +kernel
theorem dX2_springOf_25 : decode cX2_springOf 25 = .ok (.aload_n 0, 1) := by decide +kernel
theorem dX2_springOf_26 : decode cX2_springOf 26 = .ok (.getfield 18, 3) := by decide +kernel
theorem dX2_springOf_29 : decode cX2_springOf 29 = .ok (.iload 4, 2) := by decide +kernel
theorem dX2_springOf_31 : decode cX2_springOf 31 = .ok (.daload, 1) := by decide +kernel
theorem dX2_springOf_32 : decode cX2_springOf 32 = .ok (.dadd, 1) := by decide +kernel
theorem dX2_springOf_33 : decode cX2_springOf 33 = .ok (.ldc2_w 77, 3) := by decide +kernel
theorem dX2_springOf_36 : decode cX2_springOf 36 = .ok (.ddiv, 1) := by decide +kernel
theorem dX2_springOf_37 : decode cX2_springOf 37 = .ok (.dstore 5, 2) := by decide +kernel
theorem dX2_springOf_39 : decode cX2_springOf 39 = .ok (.dload_n 1, 1) := by decide +kernel
theorem dX2_springOf_40 : decode cX2_springOf 40 = .ok (.dload 5, 2) := by decide +kernel
theorem dX2_springOf_42 : decode cX2_springOf 42 = .ok (.dmul, 1) := by decide +kernel
theorem dX2_springOf_43 : decode cX2_springOf 43 = .ok (.dload 5, 2) := by decide +kernel
theorem dX2_springOf_45 : decode cX2_springOf 45 = .ok (.dmul, 1) := by decide +kernel
theorem dX2_springOf_46 : decode cX2_springOf 46 = .ok (.dload 5, 2) := by decide +kernel
theorem dX2_springOf_48 : decode cX2_springOf 48 = .ok (.dmul, 1) := by decide +kernel
theorem dX2_springOf_49 : decode cX2_springOf 49 = .ok (.dreturn, 1) := by decide +kernel
set_option maxRecDepth 20000 in
theorem ggX2_stiffenBy_X0_paceOf : GoodIn wsX2_stiffenBy wsX0_paceOf := goodIn_r _ [8, 9, 40, 41, 42, 43, 44] (by decide +kernel) (by decide +kernel)
set_option maxRecDepth 20000 in
theorem gX2_stiffenBy_X0_paceOf : GoodIn wsX2_stiffenBy (wsV RX2 79 RX0 yX0_paceOf wsX0_paceOf) := goodIn_app (goodIn_of _ (by decide +kernel)) ggX2_stiffenBy_X0_paceOf
set_option maxRecDepth 20000 in
theorem ggX2_stiffenBy_X0_heightOf : GoodIn wsX2_stiffenBy wsX0_heightOf := goodIn_r _ [13, 14, 40, 41, 42, 43, 44] (by decide +kernel) (by decide +kernel)
set_option maxRecDepth 20000 in
theorem gX2_stiffenBy_X0_heightOf : GoodIn wsX2_stiffenBy (wsV RX2 83 RX0 yX0_heightOf wsX0_heightOf) := goodIn_app (goodIn_of _ (by decide +kernel)) ggX2_stiffenBy_X0_heightOf
set_option maxRecDepth 20000 in
theorem ggX2_stiffenBy_X0_lastOf : GoodIn wsX2_stiffenBy wsX0_lastOf := goodIn_r _ [18, 19, 40, 41, 42, 43, 44] (by decide +kernel) (by decide +kernel)
set_option maxRecDepth 20000 in
theorem gX2_stiffenBy_X0_lastOf : GoodIn wsX2_stiffenBy (wsV RX2 86 RX0 yX0_lastOf wsX0_lastOf) := goodIn_app (goodIn_of _ (by decide +kernel)) ggX2_stiffenBy_X0_lastOf
set_option maxRecDepth 20000 in
theorem ggX2_stiffenBy_X0_firstOf : GoodIn wsX2_stiffenBy wsX0_firstOf := goodIn_r _ [23, 24, 40, 41, 42, 43, 44] (by decide +kernel) (by decide +kernel)
set_option maxRecDepth 20000 in
theorem gX2_stiffenBy_X0_firstOf : GoodIn wsX2_stiffenBy (wsV RX2 89 RX0 yX0_firstOf wsX0_firstOf) := goodIn_app (goodIn_of _ (by decide +kernel)) ggX2_stiffenBy_X0_firstOf
set_option maxRecDepth 20000 in
theorem ggX2_stiffenBy_X2_hasWood : GoodIn wsX2_stiffenBy wsX2_hasWood := goodIn_r _ [29, 30, 31, 32, 33, 34, 35, 36, 37, 38, 39] (by decide +kernel) (by decide +kernel)
set_option maxRecDepth 20000 in
theorem gX2_stiffenBy_X2_hasWood : GoodIn wsX2_stiffenBy (wsV RX2 73 RX2 yX2_hasWood wsX2_hasWood) := goodIn_app (goodIn_of _ (by decide +kernel)) ggX2_stiffenBy_X2_hasWood
theorem dX2_stiffenBy_0 : decode cX2_stiffenBy 0 = .ok (.aload_n 0, 1) := by decide +kernel
theorem dX2_stiffenBy_1 : decode cX2_stiffenBy 1 = .ok (.getfield 31, 3) := by decide +kernel
theorem dX2_stiffenBy_4 : decode cX2_stiffenBy 4 = .ok (.iload_n 1, 1) := by decide +kernel
theorem dX2_stiffenBy_5 : decode cX2_stiffenBy 5 = .ok (.invokevirtual 79, 3) := by decide +kernel
theorem dX2_stiffenBy_8 : decode cX2_stiffenBy 8 = .ok (.istore_n 2, 1) := by decide +kernel
theorem dX2_stiffenBy_9 : decode cX2_stiffenBy 9 = .ok (.iload_n 2, 1) := by decide +kernel
theorem dX2_stiffenBy_10 : decode cX2_stiffenBy 10 = .ok (.iconst 1, 1) := by decide +kernel
theorem dX2_stiffenBy_11 : decode cX2_stiffenBy 11 = .ok (.if_icmp .ne 10, 3) := by decide +kernel
theorem dX2_stiffenBy_14 : decode cX2_stiffenBy 14 = .ok (.aload_n 0, 1) := by decide +kernel
theorem dX2_stiffenBy_15 : decode cX2_stiffenBy 15 = .ok (.getfield 22, 3) := by decide +kernel
theorem dX2_stiffenBy_18 : decode cX2_stiffenBy 18 = .ok (.goto 7, 3) := by decide +kernel
theorem dX2_stiffenBy_21 : decode cX2_stiffenBy 21 = .ok (.aload_n 0, 1) := by decide +kernel
theorem dX2_stiffenBy_22 : decode cX2_stiffenBy 22 = .ok (.getfield 25, 3) := by decide +kernel
theorem dX2_stiffenBy_25 : decode cX2_stiffenBy 25 = .ok (.astore_n 3, 1) := by decide +kernel
theorem dX2_stiffenBy_26 : decode cX2_stiffenBy 26 = .ok (.aload_n 0, 1) := by decide +kernel
theorem dX2_stiffenBy_27 : decode cX2_stiffenBy 27 = .ok (.getfield 31, 3) := by decide +kernel
theorem dX2_stiffenBy_30 : decode cX2_stiffenBy 30 = .ok (.iload_n 1, 1) := by decide +kernel
theorem dX2_stiffenBy_31 : decode cX2_stiffenBy 31 = .ok (.invokevirtual 83, 3) := by decide +kernel
theorem dX2_stiffenBy_34 : decode cX2_stiffenBy 34 = .ok (.dstore 4, 2) := by decide +kernel
theorem dX2_stiffenBy_36 : decode cX2_stiffenBy 36 = .ok (.aload_n 0, 1) := by decide +kernel
theorem dX2_stiffenBy_37 : decode cX2_stiffenBy 37 = .ok (.getfield 31, 3) := by decide +kernel
theorem dX2_stiffenBy_40 : decode cX2_stiffenBy 40 = .ok (.iload_n 1, 1) := by decide +kernel
theorem dX2_stiffenBy_41 : decode cX2_stiffenBy 41 = .ok (.invokevirtual 86, 3) := by decide +kernel
theorem dX2_stiffenBy_44 : decode cX2_stiffenBy 44 = .ok (.istore 6, 2) := by decide +kernel
theorem dX2_stiffenBy_46 : decode cX2_stiffenBy 46 = .ok (.aload_n 0, 1) := by decide +kernel
theorem dX2_stiffenBy_47 : decode cX2_stiffenBy 47 = .ok (.getfield 31, 3) := by decide +kernel
theorem dX2_stiffenBy_50 : decode cX2_stiffenBy 50 = .ok (.iload_n 1, 1) := by decide +kernel
theorem dX2_stiffenBy_51 : decode cX2_stiffenBy 51 = .ok (.invokevirtual 89, 3) := by decide +kernel
theorem dX2_stiffenBy_54 : decode cX2_stiffenBy 54 = .ok (.istore 7, 2) := by decide +kernel
theorem dX2_stiffenBy_56 : decode cX2_stiffenBy 56 = .ok (.iconst 1, 1) := by decide +kernel
theorem dX2_stiffenBy_57 : decode cX2_stiffenBy 57 = .ok (.istore 8, 2) := by decide +kernel
theorem dX2_stiffenBy_59 : decode cX2_stiffenBy 59 = .ok (.iload 8, 2) := by decide +kernel
theorem dX2_stiffenBy_61 : decode cX2_stiffenBy 61 = .ok (.bipush 6, 2) := by decide +kernel
theorem dX2_stiffenBy_63 : decode cX2_stiffenBy 63 = .ok (.if_icmp .ge 53, 3) := by decide +kernel
theorem dX2_stiffenBy_66 : decode cX2_stiffenBy 66 = .ok (.iload 7, 2) := by decide +kernel
theorem dX2_stiffenBy_68 : decode cX2_stiffenBy 68 = .ok (.iload 6, 2) := by decide +kernel
theorem dX2_stiffenBy_70 : decode cX2_stiffenBy 70 = .ok (.if_icmp .ge 46, 3) := by decide +kernel
theorem dX2_stiffenBy_73 : decode cX2_stiffenBy 73 = .ok (.aload_n 0, 1) := by decide +kernel
theorem dX2_stiffenBy_74 : decode cX2_stiffenBy 74 = .ok (.iload 7, 2) := by decide +kernel
theorem dX2_stiffenBy_76 : decode cX2_stiffenBy 76 = .ok (.invokevirtual 73, 3) := by decide +kernel
theorem dX2_stiffenBy_79 : decode cX2_stiffenBy 79 = .ok (.ifCond .eq 25, 3) := by decide +kernel
theorem dX2_stiffenBy_82 : decode cX2_stiffenBy 82 = .ok (.aload_n 0, 1) := by decide +kernel
theorem dX2_stiffenBy_83 : decode cX2_stiffenBy 83 = .ok (.iload 7, 2) := by decide +kernel
theorem dX2_stiffenBy_85 : decode cX2_stiffenBy 85 = .ok (.iload_n 2, 1) := by decide +kernel
theorem dX2_stiffenBy_86 : decode cX2_stiffenBy 86 = .ok (.iadd, 1) := by decide +kernel
theorem dX2_stiffenBy_87 : decode cX2_stiffenBy 87 = .ok (.invokevirtual 73, 3) := by decide +kernel
theorem dX2_stiffenBy_90 : decode cX2_stiffenBy 90 = .ok (.ifCond .eq 14, 3) := by decide +kernel
theorem dX2_stiffenBy_93 : decode cX2_stiffenBy 93 = .ok (.aload_n 3, 1) := by decide +kernel
theorem dX2_stiffenBy_94 : decode cX2_stiffenBy 94 = .ok (.iload 7, 2) := by decide +kernel
theorem dX2_stiffenBy_96 : decode cX2_stiffenBy 96 = .ok (.aload_n 3, 1) := by decide +kernel
theorem dX2_stiffenBy_97 : decode cX2_stiffenBy 97 = .ok (.iload 7, 2) := by decide +kernel
theorem dX2_stiffenBy_99 : decode cX2_stiffenBy 99 = .ok (.daload, 1) := by decide +kernel
theorem dX2_stiffenBy_100 : decode cX2_stiffenBy 100 = .ok (.dload 4, 2) := by decide +kernel
theorem dX2_stiffenBy_102 : decode cX2_stiffenBy 102 = .ok (.dadd, 1) := by decide +kernel
theorem dX2_stiffenBy_103 : decode cX2_stiffenBy 103 = .ok (.dastore, 1) := by decide +kernel
theorem dX2_stiffenBy_104 : decode cX2_stiffenBy 104 = .ok (.iload 7, 2) := by decide +kernel
theorem dX2_stiffenBy_106 : decode cX2_stiffenBy 106 = .ok (.iload_n 2, 1) := by decide +kernel
theorem dX2_stiffenBy_107 : decode cX2_stiffenBy 107 = .ok (.iadd, 1) := by decide +kernel
theorem dX2_stiffenBy_108 : decode cX2_stiffenBy 108 = .ok (.istore 7, 2) := by decide +kernel
theorem dX2_stiffenBy_110 : decode cX2_stiffenBy 110 = .ok (.iinc 8 1, 3) := by decide +kernel
theorem dX2_stiffenBy_113 : decode cX2_stiffenBy 113 = .ok (.goto (-54), 3) := by decide +kernel
theorem dX2_stiffenBy_116 : decode cX2_stiffenBy 116 = .ok (.return_, 1) := by decide +kernel
set_option maxRecDepth 20000 in
theorem ggX2_forceAt_X2_cellAt : GoodIn wsX2_forceAt wsX2_cellAt := goodIn_r _ [9, 1, 14, 15, 16, 17, 18, 19, 20, 21, 22] (by decide +kernel) (by decide +kernel)
set_option maxRecDepth 20000 in
theorem gX2_forceAt_X2_cellAt : GoodIn wsX2_forceAt (wsV RX2 57 RX2 yX2_cellAt wsX2_cellAt) := goodIn_app (goodIn_of _ (by decide +kernel)) ggX2_forceAt_X2_cellAt
set_option maxRecDepth 20000 in
theorem ggX2_forceAt_X4_ground : GoodIn wsX2_forceAt wsX4_ground := goodIn_r _ [12, 13] (by decide +kernel) (by decide +kernel)
set_option maxRecDepth 20000 in
theorem gX2_forceAt_X4_ground_n92 : GoodIn wsX2_forceAt (wsX4_ground) := ggX2_forceAt_X4_ground
theorem dX2_forceAt_0 : decode cX2_forceAt 0 = .ok (.aload_n 0, 1) := by decide +kernel
theorem dX2_forceAt_1 : decode cX2_forceAt 1 = .ok (.iload_n 2, 1) := by decide +kernel
theorem dX2_forceAt_2 : decode cX2_forceAt 2 = .ok (.iload_n 3, 1) := by decide +kernel
theorem dX2_forceAt_3 : decode cX2_forceAt 3 = .ok (.invokevirtual 57, 3) := by decide +kernel
theorem dX2_forceAt_6 : decode cX2_forceAt 6 = .ok (.istore 4, 2) := by decide +kernel
theorem dX2_forceAt_8 : decode cX2_forceAt 8 = .ok (.aload_n 1, 1) := by decide +kernel
theorem dX2_forceAt_9 : decode cX2_forceAt 9 = .ok (.iload 4, 2) := by decide +kernel
theorem dX2_forceAt_11 : decode cX2_forceAt 11 = .ok (.daload, 1) := by decide +kernel
theorem dX2_forceAt_12 : decode cX2_forceAt 12 = .ok (.dstore 5, 2) := by decide +kernel
theorem dX2_forceAt_14 : decode cX2_forceAt 14 = .ok (.dconst 0, 1) := by decide +kernel
theorem dX2_forceAt_15 : decode cX2_forceAt 15 = .ok (.dstore 7, 2) := by decide +kernel
theorem dX2_forceAt_17 : decode cX2_forceAt 17 = .ok (.iload_n 2, 1) := by decide +kernel
theorem dX2_forceAt_18 : decode cX2_forceAt 18 = .ok (.iconst 1, 1) := by decide +kernel
theorem dX2_forceAt_19 : decode cX2_forceAt 19 = .ok (.iadd, 1) := by decide +kernel
theorem dX2_forceAt_20 : decode cX2_forceAt 20 = .ok (.aload_n 0, 1) := by decide +kernel
theorem dX2_forceAt_21 : decode cX2_forceAt 21 = .ok (.getfield 9, 3) := by decide +kernel
theorem dX2_forceAt_24 : decode cX2_forceAt 24 = .ok (.if_icmp .ge 25, 3) := by decide +kernel
theorem dX2_forceAt_27 : decode cX2_forceAt 27 = .ok (.dload 7, 2) := by decide +kernel
theorem dX2_forceAt_29 : decode cX2_forceAt 29 = .ok (.aload_n 0, 1) := by decide +kernel
theorem dX2_forceAt_30 : decode cX2_forceAt 30 = .ok (.getfield 22, 3) := by decide +kernel
theorem dX2_forceAt_33 : decode cX2_forceAt 33 = .ok (.iload 4, 2) := by decide +kernel
theorem dX2_forceAt_35 : decode cX2_forceAt 35 = .ok (.daload, 1) := by decide +kernel
theorem dX2_forceAt_36 : decode cX2_forceAt 36 = .ok (.aload_n 1, 1) := by decide +kernel
theorem dX2_forceAt_37 : decode cX2_forceAt 37 = .ok (.iload 4, 2) := by decide +kernel
theorem dX2_forceAt_39 : decode cX2_forceAt 39 = .ok (.iconst 1, 1) := by decide +kernel
theorem dX2_forceAt_40 : decode cX2_forceAt 40 = .ok (.iadd, 1) := by decide +kernel
theorem dX2_forceAt_41 : decode cX2_forceAt 41 = .ok (.daload, 1) := by decide +kernel
theorem dX2_forceAt_42 : decode cX2_forceAt 42 = .ok (.dload 5, 2) := by decide +kernel
theorem dX2_forceAt_44 : decode cX2_forceAt 44 = .ok (.dsub, 1) := by decide +kernel
theorem dX2_forceAt_45 : decode cX2_forceAt 45 = .ok (.dmul, 1) := by decide +kernel
theorem dX2_forceAt_46 : decode cX2_forceAt 46 = .ok (.dadd, 1) := by decide +kernel
theorem dX2_forceAt_47 : decode cX2_forceAt 47 = .ok (.dstore 7, 2) := by decide +kernel
theorem dX2_forceAt_49 : decode cX2_forceAt 49 = .ok (.iload_n 2, 1) := by decide +kernel
theorem dX2_forceAt_50 : decode cX2_forceAt 50 = .ok (.ifCond .le 27, 3) := by decide +kernel
theorem dX2_forceAt_53 : decode cX2_forceAt 53 = .ok (.dload 7, 2) := by decide +kernel
theorem dX2_forceAt_55 : decode cX2_forceAt 55 = .ok (.aload_n 0, 1) := by decide +kernel
theorem dX2_forceAt_56 : decode cX2_forceAt 56 = .ok (.getfield 22, 3) := by decide +kernel
theorem dX2_forceAt_59 : decode cX2_forceAt 59 = .ok (.iload 4, 2) := by decide +kernel
theorem dX2_forceAt_61 : decode cX2_forceAt 61 = .ok (.iconst 1, 1) := by decide +kernel
theorem dX2_forceAt_62 : decode cX2_forceAt 62 = .ok (.isub, 1) := by decide +kernel
theorem dX2_forceAt_63 : decode cX2_forceAt 63 = .ok (.daload, 1) := by decide +kernel
theorem dX2_forceAt_64 : decode cX2_forceAt 64 = .ok (.aload_n 1, 1) := by decide +kernel
theorem dX2_forceAt_65 : decode cX2_forceAt 65 = .ok (.iload 4, 2) := by decide +kernel
theorem dX2_forceAt_67 : decode cX2_forceAt 67 = .ok (.iconst 1, 1) := by decide +kernel
theorem dX2_forceAt_68 : decode cX2_forceAt 68 = .ok (.isub, 1) := by decide +kernel
theorem dX2_forceAt_69 : decode cX2_forceAt 69 = .ok (.daload, 1) := by decide +kernel
theorem dX2_forceAt_70 : decode cX2_forceAt 70 = .ok (.dload 5, 2) := by decide +kernel
theorem dX2_forceAt_72 : decode cX2_forceAt 72 = .ok (.dsub, 1) := by decide +kernel
theorem dX2_forceAt_73 : decode cX2_forceAt 73 = .ok (.dmul, 1) := by decide +kernel
theorem dX2_forceAt_74 : decode cX2_forceAt 74 = .ok (.dadd, 1) := by decide +kernel
theorem dX2_forceAt_75 : decode cX2_forceAt 75 = .ok (.dstore 7, 2) := by decide +kernel
theorem dX2_forceAt_77 : decode cX2_forceAt 77 = .ok (.iload_n 3, 1) := by decide +kernel
theorem dX2_forceAt_78 : decode cX2_forceAt 78 = .ok (.iconst 1, 1) := by decide +kernel
theorem dX2_forceAt_79 : decode cX2_forceAt 79 = .ok (.iadd, 1) := by decide +kernel
theorem dX2_forceAt_80 : decode cX2_forceAt 80 = .ok (.aload_n 0, 1) := by decide +kernel
theorem dX2_forceAt_81 : decode cX2_forceAt 81 = .ok (.getfield 15, 3) := by decide +kernel
theorem dX2_forceAt_84 : decode cX2_forceAt 84 = .ok (.if_icmp .ge 28, 3) := by decide +kernel
theorem dX2_forceAt_87 : decode cX2_forceAt 87 = .ok (.dload 7, 2) := by decide +kernel
theorem dX2_forceAt_89 : decode cX2_forceAt 89 = .ok (.aload_n 0, 1) := by decide +kernel
theorem dX2_forceAt_90 : decode cX2_forceAt 90 = .ok (.getfield 25, 3) := by decide +kernel
theorem dX2_forceAt_93 : decode cX2_forceAt 93 = .ok (.iload 4, 2) := by decide +kernel
theorem dX2_forceAt_95 : decode cX2_forceAt 95 = .ok (.daload, 1) := by decide +kernel
theorem dX2_forceAt_96 : decode cX2_forceAt 96 = .ok (.aload_n 1, 1) := by decide +kernel
theorem dX2_forceAt_97 : decode cX2_forceAt 97 = .ok (.iload 4, 2) := by decide +kernel
theorem dX2_forceAt_99 : decode cX2_forceAt 99 = .ok (.aload_n 0, 1) := by decide +kernel
theorem dX2_forceAt_100 : decode cX2_forceAt 100 = .ok (.getfield 9, 3) := by decide +kernel
theorem dX2_forceAt_103 : decode cX2_forceAt 103 = .ok (.iadd, 1) := by decide +kernel
theorem dX2_forceAt_104 : decode cX2_forceAt 104 = .ok (.daload, 1) := by decide +kernel
theorem dX2_forceAt_105 : decode cX2_forceAt 105 = .ok (.dload 5, 2) := by decide +kernel
theorem dX2_forceAt_107 : decode cX2_forceAt 107 = .ok (.dsub, 1) := by decide +kernel
theorem dX2_forceAt_108 : decode cX2_forceAt 108 = .ok (.dmul, 1) := by decide +kernel
theorem dX2_forceAt_109 : decode cX2_forceAt 109 = .ok (.dadd, 1) := by decide +kernel
theorem dX2_forceAt_110 : decode cX2_forceAt 110 = .ok (.dstore 7, 2) := by decide +kernel
theorem dX2_forceAt_112 : decode cX2_forceAt 112 = .ok (.iload_n 3, 1) := by decide +kernel
theorem dX2_forceAt_113 : decode cX2_forceAt 113 = .ok (.ifCond .le 33, 3) := by decide +kernel
theorem dX2_forceAt_116 : decode cX2_forceAt 116 = .ok (.dload 7, 2) := by decide +kernel
theorem dX2_forceAt_118 : decode cX2_forceAt 118 = .ok (.aload_n 0, 1) := by decide +kernel
theorem dX2_forceAt_119 : decode cX2_forceAt 119 = .ok (.getfield 25, 3) := by decide +kernel
theorem dX2_forceAt_122 : decode cX2_forceAt 122 = .ok (.iload 4, 2) := by decide +kernel
theorem dX2_forceAt_124 : decode cX2_forceAt 124 = .ok (.aload_n 0, 1) := by decide +kernel
theorem dX2_forceAt_125 : decode cX2_forceAt 125 = .ok (.getfield 9, 3) := by decide +kernel
theorem dX2_forceAt_128 : decode cX2_forceAt 128 = .ok (.isub, 1) := by decide +kernel
theorem dX2_forceAt_129 : decode cX2_forceAt 129 = .ok (.daload, 1) := by decide +kernel
theorem dX2_forceAt_130 : decode cX2_forceAt 130 = .ok (.aload_n 1, 1) := by decide +kernel
theorem dX2_forceAt_131 : decode cX2_forceAt 131 = .ok (.iload 4, 2) := by decide +kernel
theorem dX2_forceAt_133 : decode cX2_forceAt 133 = .ok (.aload_n 0, 1) := by decide +kernel
theorem dX2_forceAt_134 : decode cX2_forceAt 134 = .ok (.getfield 9, 3) := by decide +kernel
theorem dX2_forceAt_137 : decode cX2_forceAt 137 = .ok (.isub, 1) := by decide +kernel
theorem dX2_forceAt_138 : decode cX2_forceAt 138 = .ok (.daload, 1) := by decide +kernel
theorem dX2_forceAt_139 : decode cX2_forceAt 139 = .ok (.dload 5, 2) := by decide +kernel
theorem dX2_forceAt_141 : decode cX2_forceAt 141 = .ok (.dsub, 1) := by decide +kernel
theorem dX2_forceAt_142 : decode cX2_forceAt 142 = .ok (.dmul, 1) := by decide +kernel
theorem dX2_forceAt_143 : decode cX2_forceAt 143 = .ok (.dadd, 1) := by decide +kernel
theorem dX2_forceAt_144 : decode cX2_forceAt 144 = .ok (.dstore 7, 2) := by decide +kernel
theorem dX2_forceAt_146 : decode cX2_forceAt 146 = .ok (.dload 7, 2) := by decide +kernel
theorem dX2_forceAt_148 : decode cX2_forceAt 148 = .ok (.invokestatic 92, 3) := by decide +kernel
theorem dX2_forceAt_151 : decode cX2_forceAt 151 = .ok (.dload 5, 2) := by decide +kernel
theorem dX2_forceAt_153 : decode cX2_forceAt 153 = .ok (.dmul, 1) := by decide +kernel
theorem dX2_forceAt_154 : decode cX2_forceAt 154 = .ok (.dsub, 1) := by decide +kernel
theorem dX2_forceAt_155 : decode cX2_forceAt 155 = .ok (.dreturn, 1) := by decide +kernel
set_option maxRecDepth 20000 in
theorem ggX2_heldAt_X2_cellAt : GoodIn wsX2_heldAt wsX2_cellAt := goodIn_r _ [8, 3, 13, 14, 15, 16, 17, 18, 19, 20, 21] (by decide +kernel) (by decide +kernel)
set_option maxRecDepth 20000 in
theorem gX2_heldAt_X2_cellAt : GoodIn wsX2_heldAt (wsV RX2 57 RX2 yX2_cellAt wsX2_cellAt) := goodIn_app (goodIn_of _ (by decide +kernel)) ggX2_heldAt_X2_cellAt
set_option maxRecDepth 20000 in
theorem ggX2_heldAt_X4_ground : GoodIn wsX2_heldAt wsX4_ground := goodIn_r _ [11, 12] (by decide +kernel) (by decide +kernel)
set_option maxRecDepth 20000 in
theorem gX2_heldAt_X4_ground_n92 : GoodIn wsX2_heldAt (wsX4_ground) := ggX2_heldAt_X4_ground
theorem dX2_heldAt_0 : decode cX2_heldAt 0 = .ok (.aload_n 0, 1) := by decide +kernel
theorem dX2_heldAt_1 : decode cX2_heldAt 1 = .ok (.iload_n 1, 1) := by decide +kernel
theorem dX2_heldAt_2 : decode cX2_heldAt 2 = .ok (.iload_n 2, 1) := by decide +kernel
theorem dX2_heldAt_3 : decode cX2_heldAt 3 = .ok (.invokevirtual 57, 3) := by decide +kernel
theorem dX2_heldAt_6 : decode cX2_heldAt 6 = .ok (.istore_n 3, 1) := by decide +kernel
theorem dX2_heldAt_7 : decode cX2_heldAt 7 = .ok (.invokestatic 92, 3) := by decide +kernel
theorem dX2_heldAt_10 : decode cX2_heldAt 10 = .ok (.dstore 4, 2) := by decide +kernel
theorem dX2_heldAt_12 : decode cX2_heldAt 12 = .ok (.dload 4, 2) := by decide +kernel
theorem dX2_heldAt_14 : decode cX2_heldAt 14 = .ok (.aload_n 0, 1) := by decide +kernel
theorem dX2_heldAt_15 : decode cX2_heldAt 15 = .ok (.getfield 22, 3) := by decide +kernel
theorem dX2_heldAt_18 : decode cX2_heldAt 18 = .ok (.iload_n 3, 1) := by decide +kernel
theorem dX2_heldAt_19 : decode cX2_heldAt 19 = .ok (.daload, 1) := by decide +kernel
theorem dX2_heldAt_20 : decode cX2_heldAt 20 = .ok (.dadd, 1) := by decide +kernel
theorem dX2_heldAt_21 : decode cX2_heldAt 21 = .ok (.dstore 4, 2) := by decide +kernel
theorem dX2_heldAt_23 : decode cX2_heldAt 23 = .ok (.iload_n 1, 1) := by decide +kernel
theorem dX2_heldAt_24 : decode cX2_heldAt 24 = .ok (.ifCond .le 17, 3) := by decide +kernel
theorem dX2_heldAt_27 : decode cX2_heldAt 27 = .ok (.dload 4, 2) := by decide +kernel
theorem dX2_heldAt_29 : decode cX2_heldAt 29 = .ok (.aload_n 0, 1) := by decide +kernel
theorem dX2_heldAt_30 : decode cX2_heldAt 30 = .ok (.getfield 22, 3) := by decide +kernel
theorem dX2_heldAt_33 : decode cX2_heldAt 33 = .ok (.iload_n 3, 1) := by decide +kernel
theorem dX2_heldAt_34 : decode cX2_heldAt 34 = .ok (.iconst 1, 1) := by decide +kernel
theorem dX2_heldAt_35 : decode cX2_heldAt 35 = .ok (.isub, 1) := by decide +kernel
theorem dX2_heldAt_36 : decode cX2_heldAt 36 = .ok (.daload, 1) := by decide +kernel
theorem dX2_heldAt_37 : decode cX2_heldAt 37 = .ok (.dadd, 1) := by decide +kernel
theorem dX2_heldAt_38 : decode cX2_heldAt 38 = .ok (.goto 5, 3) := by decide +kernel
theorem dX2_heldAt_41 : decode cX2_heldAt 41 = .ok (.dload 4, 2) := by decide +kernel
theorem dX2_heldAt_43 : decode cX2_heldAt 43 = .ok (.dstore 4, 2) := by decide +kernel
theorem dX2_heldAt_45 : decode cX2_heldAt 45 = .ok (.dload 4, 2) := by decide +kernel
theorem dX2_heldAt_47 : decode cX2_heldAt 47 = .ok (.aload_n 0, 1) := by decide +kernel
theorem dX2_heldAt_48 : decode cX2_heldAt 48 = .ok (.getfield 25, 3) := by decide +kernel
theorem dX2_heldAt_51 : decode cX2_heldAt 51 = .ok (.iload_n 3, 1) := by decide +kernel
theorem dX2_heldAt_52 : decode cX2_heldAt 52 = .ok (.daload, 1) := by decide +kernel
theorem dX2_heldAt_53 : decode cX2_heldAt 53 = .ok (.dadd, 1) := by decide +kernel
theorem dX2_heldAt_54 : decode cX2_heldAt 54 = .ok (.dstore 4, 2) := by decide +kernel
theorem dX2_heldAt_56 : decode cX2_heldAt 56 = .ok (.iload_n 2, 1) := by decide +kernel
theorem dX2_heldAt_57 : decode cX2_heldAt 57 = .ok (.ifCond .le 20, 3) := by decide +kernel
theorem dX2_heldAt_60 : decode cX2_heldAt 60 = .ok (.dload 4, 2) := by decide +kernel
theorem dX2_heldAt_62 : decode cX2_heldAt 62 = .ok (.aload_n 0, 1) := by decide +kernel
theorem dX2_heldAt_63 : decode cX2_heldAt 63 = .ok (.getfield 25, 3) := by decide +kernel
theorem dX2_heldAt_66 : decode cX2_heldAt 66 = .ok (.iload_n 3, 1) := by decide +kernel
theorem dX2_heldAt_67 : decode cX2_heldAt 67 = .ok (.aload_n 0, 1) := by decide +kernel
theorem dX2_heldAt_68 : decode cX2_heldAt 68 = .ok (.getfield 9, 3) := by decide +kernel
theorem dX2_heldAt_71 : decode cX2_heldAt 71 = .ok (.isub, 1) := by decide +kernel
theorem dX2_heldAt_72 : decode cX2_heldAt 72 = .ok (.daload, 1) := by decide +kernel
theorem dX2_heldAt_73 : decode cX2_heldAt 73 = .ok (.dadd, 1) := by decide +kernel
theorem dX2_heldAt_74 : decode cX2_heldAt 74 = .ok (.goto 5, 3) := by decide +kernel
theorem dX2_heldAt_77 : decode cX2_heldAt 77 = .ok (.dload 4, 2) := by decide +kernel
theorem dX2_heldAt_79 : decode cX2_heldAt 79 = .ok (.dreturn, 1) := by decide +kernel
set_option maxRecDepth 20000 in
theorem ggX2_beginShape_X2_cellAt : GoodIn wsX2_beginShape wsX2_cellAt := goodIn_r _ [8, 2, 14, 15, 16, 17, 18, 19, 20, 21, 22] (by decide +kernel) (by decide +kernel)
set_option maxRecDepth 20000 in
theorem gX2_beginShape_X2_cellAt : GoodIn wsX2_beginShape (wsV RX2 57 RX2 yX2_cellAt wsX2_cellAt) := goodIn_app (goodIn_of _ (by decide +kernel)) ggX2_beginShape_X2_cellAt
set_option maxRecDepth 20000 in
theorem ggX2_beginShape_X2_hasWood : GoodIn wsX2_beginShape wsX2_hasWood := goodIn_r _ [12, 13, 14, 15, 16, 17, 18, 19, 20, 21, 22] (by decide +kernel) (by decide +kernel)
set_option maxRecDepth 20000 in
theorem gX2_beginShape_X2_hasWood : GoodIn wsX2_beginShape (wsV RX2 73 RX2 yX2_hasWood wsX2_hasWood) := goodIn_app (goodIn_of _ (by decide +kernel)) ggX2_beginShape_X2_hasWood
theorem dX2_beginShape_0 : decode cX2_beginShape 0 = .ok (.iconst 0, 1) := by decide +kernel
theorem dX2_beginShape_1 : decode cX2_beginShape 1 = .ok (.istore_n 3, 1) := by decide +kernel
theorem dX2_beginShape_2 : decode cX2_beginShape 2 = .ok (.iload_n 3, 1) := by decide +kernel
theorem dX2_beginShape_3 : decode cX2_beginShape 3 = .ok (.aload_n 0, 1) := by decide +kernel
theorem dX2_beginShape_4 : decode cX2_beginShape 4 = .ok (.getfield 15, 3) := by decide +kernel
theorem dX2_beginShape_7 : decode cX2_beginShape 7 = .ok (.if_icmp .ge 80, 3) := by decide +kernel
theorem dX2_beginShape_10 : decode cX2_beginShape 10 = .ok (.iconst 0, 1) := by decide +kernel
theorem dX2_beginShape_11 : decode cX2_beginShape 11 = .ok (.istore 4, 2) := by decide +kernel
theorem dX2_beginShape_13 : decode cX2_beginShape 13 = .ok (.iload 4, 2) := by decide +kernel
theorem dX2_beginShape_15 : decode cX2_beginShape 15 = .ok (.aload_n 0, 1) := by decide +kernel
theorem dX2_beginShape_16 : decode cX2_beginShape 16 = .ok (.getfield 9, 3) := by decide +kernel
theorem dX2_beginShape_19 : decode cX2_beginShape 19 = .ok (.if_icmp .ge 62, 3) := by decide +kernel
theorem dX2_beginShape_22 : decode cX2_beginShape 22 = .ok (.aload_n 0, 1) := by decide +kernel
theorem dX2_beginShape_23 : decode cX2_beginShape 23 = .ok (.iload 4, 2) := by decide +kernel
theorem dX2_beginShape_25 : decode cX2_beginShape 25 = .ok (.iload_n 3, 1) := by decide +kernel
theorem dX2_beginShape_26 : decode cX2_beginShape 26 = .ok (.invokevirtual 57, 3) := by decide +kernel
theorem dX2_beginShape_29 : decode cX2_beginShape 29 = .ok (.istore 5, 2) := by decide +kernel
theorem dX2_beginShape_31 : decode cX2_beginShape 31 = .ok (.iconst 3, 1) := by decide +kernel
theorem dX2_beginShape_32 : decode cX2_beginShape 32 = .ok (.iload 4, 2) := by decide +kernel
theorem dX2_beginShape_34 : decode cX2_beginShape 34 = .ok (.imul, 1) := by decide +kernel
theorem dX2_beginShape_35 : decode cX2_beginShape 35 = .ok (.iconst 5, 1) := by decide +kernel
theorem dX2_beginShape_36 : decode cX2_beginShape 36 = .ok (.iload_n 3, 1) := by decide +kernel
theorem dX2_beginShape_37 : decode cX2_beginShape 37 = .ok (.imul, 1) := by decide +kernel
theorem dX2_beginShape_38 : decode cX2_beginShape 38 = .ok (.iadd, 1) := by decide +kernel
theorem dX2_beginShape_39 : decode cX2_beginShape 39 = .ok (.bipush 7, 2) := by decide +kernel
theorem dX2_beginShape_41 : decode cX2_beginShape 41 = .ok (.iload_n 2, 1) := by decide +kernel
theorem dX2_beginShape_42 : decode cX2_beginShape 42 = .ok (.imul, 1) := by decide +kernel
theorem dX2_beginShape_43 : decode cX2_beginShape 43 = .ok (.iadd, 1) := by decide +kernel
theorem dX2_beginShape_44 : decode cX2_beginShape 44 = .ok (.bipush 11, 2) := by decide +kernel
theorem dX2_beginShape_46 : decode cX2_beginShape 46 = .ok (.irem, 1) := by decide +kernel
theorem dX2_beginShape_47 : decode cX2_beginShape 47 = .ok (.i2d, 1) := by decide +kernel
theorem dX2_beginShape_48 : decode cX2_beginShape 48 = .ok (.dstore 6, 2) := by decide +kernel
theorem dX2_beginShape_50 : decode cX2_beginShape 50 = .ok (.aload_n 1, 1) := by decide +kernel
theorem dX2_beginShape_51 : decode cX2_beginShape 51 = .ok (.iload 5, 2) := by decide +kernel
theorem dX2_beginShape_53 : decode cX2_beginShape 53 = .ok (.aload_n 0, 1) := by decide +kernel
theorem dX2_beginShape_54 : decode cX2_beginShape 54 = .ok (.iload 5, 2) := by decide +kernel
theorem dX2_beginShape_56 : decode cX2_beginShape 56 = .ok (.invokevirtual 73, 3) := by decide +kernel
theorem dX2_beginShape_59 : decode cX2_beginShape 59 = .ok (.ifCond .eq 14, 3) := by decide +kernel
theorem dX2_beginShape_62 : decode cX2_beginShape 62 = .ok (.dconst 1, 1) := by decide +kernel
theorem dX2_beginShape_63 : decode cX2_beginShape 63 = .ok (.dload 6, 2) := by decide +kernel
theorem dX2_beginShape_65 : decode cX2_beginShape 65 = .ok (.ldc2_w 96, 3) := by decide +kernel
theorem dX2_beginShape_68 : decode cX2_beginShape 68 = .ok (.ddiv, 1) := by decide +kernel
theorem dX2_beginShape_69 : decode cX2_beginShape 69 = .ok (.dadd, 1) := by decide +kernel
theorem dX2_beginShape_70 : decode cX2_beginShape 70 = .ok (.goto 4, 3) := by decide +kernel
theorem dX2_beginShape_73 : decode cX2_beginShape 73 = .ok (.dconst 0, 1) := by decide +kernel
theorem dX2_beginShape_74 : decode cX2_beginShape 74 = .ok (.dastore, 1) := by decide +kernel
theorem dX2_beginShape_75 : decode cX2_beginShape 75 = .ok (.iinc 4 1, 3) := by decide +kernel
theorem dX2_beginShape_78 : decode cX2_beginShape 78 = .ok (.goto (-65), 3) := by decide +kernel
theorem dX2_beginShape_81 : decode cX2_beginShape 81 = .ok (.iinc 3 1, 3) := by decide +kernel
theorem dX2_beginShape_84 : decode cX2_beginShape 84 = .ok (.goto (-82), 3) := by decide +kernel
theorem dX2_beginShape_87 : decode cX2_beginShape 87 = .ok (.return_, 1) := by decide +kernel
set_option maxRecDepth 20000 in
theorem ggX2_relax_X2_cellAt : GoodIn wsX2_relax wsX2_cellAt := goodIn_r _ [8, 2, 28, 29, 30, 31, 32, 33, 34, 35, 36] (by decide +kernel) (by decide +kernel)
set_option maxRecDepth 20000 in
theorem gX2_relax_X2_cellAt : GoodIn wsX2_relax (wsV RX2 57 RX2 yX2_cellAt wsX2_cellAt) := goodIn_app (goodIn_of _ (by decide +kernel)) ggX2_relax_X2_cellAt
set_option maxRecDepth 20000 in
theorem ggX2_relax_X2_hasWood : GoodIn wsX2_relax wsX2_hasWood := goodIn_r _ [12, 13, 28, 29, 30, 31, 32, 33, 34, 35, 36] (by decide +kernel) (by decide +kernel)
set_option maxRecDepth 20000 in
theorem gX2_relax_X2_hasWood : GoodIn wsX2_relax (wsV RX2 73 RX2 yX2_hasWood wsX2_hasWood) := goodIn_app (goodIn_of _ (by decide +kernel)) ggX2_relax_X2_hasWood
set_option maxRecDepth 20000 in
theorem ggX2_relax_X2_forceAt : GoodIn wsX2_relax wsX2_forceAt := goodIn_r _ [17, 2, 18, 1, 19, 4, 5, 6, 7, 8, 20, 21, 22, 23, 28, 29, 30, 31, 32, 33, 34, 35, 36] (by decide +kernel) (by decide +kernel)
set_option maxRecDepth 20000 in
theorem gX2_relax_X2_forceAt : GoodIn wsX2_relax (wsV RX2 100 RX2 yX2_forceAt wsX2_forceAt) := goodIn_app (goodIn_of _ (by decide +kernel)) ggX2_relax_X2_forceAt
set_option maxRecDepth 20000 in
theorem ggX2_relax_X2_heldAt : GoodIn wsX2_relax wsX2_heldAt := goodIn_r _ [27, 18, 19, 2, 4, 5, 6, 7, 8, 20, 21, 22, 23, 28, 29, 30, 31, 32, 33, 34, 35, 36] (by decide +kernel) (by decide +kernel)
set_option maxRecDepth 20000 in
theorem gX2_relax_X2_heldAt : GoodIn wsX2_relax (wsV RX2 104 RX2 yX2_heldAt wsX2_heldAt) := goodIn_app (goodIn_of _ (by decide +kernel)) ggX2_relax_X2_heldAt
theorem dX2_relax_0 : decode cX2_relax 0 = .ok (.iconst 0, 1) := by decide +kernel
theorem dX2_relax_1 : decode cX2_relax 1 = .ok (.istore_n 2, 1) := by decide +kernel
theorem dX2_relax_2 : decode cX2_relax 2 = .ok (.iload_n 2, 1) := by decide +kernel
theorem dX2_relax_3 : decode cX2_relax 3 = .ok (.aload_n 0, 1) := by decide +kernel
theorem dX2_relax_4 : decode cX2_relax 4 = .ok (.getfield 15, 3) := by decide +kernel
theorem dX2_relax_7 : decode cX2_relax 7 = .ok (.if_icmp .ge 69, 3) := by decide +kernel
theorem dX2_relax_10 : decode cX2_relax 10 = .ok (.iconst 0, 1) := by decide +kernel
theorem dX2_relax_11 : decode cX2_relax 11 = .ok (.istore_n 3, 1) := by decide +kernel
theorem dX2_relax_12 : decode cX2_relax 12 = .ok (.iload_n 3, 1) := by decide +kernel
theorem dX2_relax_13 : decode cX2_relax 13 = .ok (.aload_n 0, 1) := by decide +kernel
theorem dX2_relax_14 : decode cX2_relax 14 = .ok (.getfield 9, 3) := by decide +kernel
theorem dX2_relax_17 : decode cX2_relax 17 = .ok (.if_icmp .ge 53, 3) := by decide +kernel
theorem dX2_relax_20 : decode cX2_relax 20 = .ok (.aload_n 0, 1) := by decide +kernel
theorem dX2_relax_21 : decode cX2_relax 21 = .ok (.iload_n 3, 1) := by decide +kernel
theorem dX2_relax_22 : decode cX2_relax 22 = .ok (.iload_n 2, 1) := by decide +kernel
theorem dX2_relax_23 : decode cX2_relax 23 = .ok (.invokevirtual 57, 3) := by decide +kernel
theorem dX2_relax_26 : decode cX2_relax 26 = .ok (.istore 4, 2) := by decide +kernel
theorem dX2_relax_28 : decode cX2_relax 28 = .ok (.aload_n 0, 1) := by decide +kernel
theorem dX2_relax_29 : decode cX2_relax 29 = .ok (.iload 4, 2) := by decide +kernel
theorem dX2_relax_31 : decode cX2_relax 31 = .ok (.invokevirtual 73, 3) := by decide +kernel
theorem dX2_relax_34 : decode cX2_relax 34 = .ok (.ifCond .eq 30, 3) := by decide +kernel
theorem dX2_relax_37 : decode cX2_relax 37 = .ok (.aload_n 1, 1) := by decide +kernel
theorem dX2_relax_38 : decode cX2_relax 38 = .ok (.iload 4, 2) := by decide +kernel
theorem dX2_relax_40 : decode cX2_relax 40 = .ok (.aload_n 1, 1) := by decide +kernel
theorem dX2_relax_41 : decode cX2_relax 41 = .ok (.iload 4, 2) := by decide +kernel
theorem dX2_relax_43 : decode cX2_relax 43 = .ok (.daload, 1) := by decide +kernel
theorem dX2_relax_44 : decode cX2_relax 44 = .ok (.ldc2_w 98, 3) := by decide +kernel
theorem dX2_relax_47 : decode cX2_relax 47 = .ok (.aload_n 0, 1) := by decide +kernel
theorem dX2_relax_48 : decode cX2_relax 48 = .ok (.aload_n 1, 1) := by decide +kernel
theorem dX2_relax_49 : decode cX2_relax 49 = .ok (.iload_n 3, 1) := by decide +kernel
theorem dX2_relax_50 : decode cX2_relax 50 = .ok (.iload_n 2, 1) := by decide +kernel
theorem dX2_relax_51 : decode cX2_relax 51 = .ok (.invokevirtual 100, 3) := by decide +kernel
theorem dX2_relax_54 : decode cX2_relax 54 = .ok (.dmul, 1) := by decide +kernel
theorem dX2_relax_55 : decode cX2_relax 55 = .ok (.aload_n 0, 1) := by decide +kernel
theorem dX2_relax_56 : decode cX2_relax 56 = .ok (.iload_n 3, 1) := by decide +kernel
theorem dX2_relax_57 : decode cX2_relax 57 = .ok (.iload_n 2, 1) := by decide +kernel
theorem dX2_relax_58 : decode cX2_relax 58 = .ok (.invokevirtual 104, 3) := by decide +kernel
theorem dX2_relax_61 : decode cX2_relax 61 = .ok (.ddiv, 1) := by decide +kernel
theorem dX2_relax_62 : decode cX2_relax 62 = .ok (.dadd, 1) := by decide +kernel
theorem dX2_relax_63 : decode cX2_relax 63 = .ok (.dastore, 1) := by decide +kernel
theorem dX2_relax_64 : decode cX2_relax 64 = .ok (.iinc 3 1, 3) := by decide +kernel
theorem dX2_relax_67 : decode cX2_relax 67 = .ok (.goto (-55), 3) := by decide +kernel
theorem dX2_relax_70 : decode cX2_relax 70 = .ok (.iinc 2 1, 3) := by decide +kernel
theorem dX2_relax_73 : decode cX2_relax 73 = .ok (.goto (-71), 3) := by decide +kernel
theorem dX2_relax_76 : decode cX2_relax 76 = .ok (.return_, 1) := by decide +kernel
set_option maxRecDepth 20000 in
theorem ggX2_productOver_X2_hasWood : GoodIn wsX2_productOver wsX2_hasWood := goodIn_r _ [6, 1, 12, 13, 14, 15, 16, 17, 18, 19, 20] (by decide +kernel) (by decide +kernel)
set_option maxRecDepth 20000 in
theorem gX2_productOver_X2_hasWood : GoodIn wsX2_productOver (wsV RX2 73 RX2 yX2_hasWood wsX2_hasWood) := goodIn_app (goodIn_of _ (by decide +kernel)) ggX2_productOver_X2_hasWood
set_option maxRecDepth 20000 in
theorem ggX2_productOver_X2_massOf : GoodIn wsX2_productOver wsX2_massOf := goodIn_r _ [10, 1, 11, 12, 13, 14, 15, 16, 17, 18, 19, 20] (by decide +kernel) (by decide +kernel)
set_option maxRecDepth 20000 in
theorem gX2_productOver_X2_massOf : GoodIn wsX2_productOver (wsV RX2 53 RX2 yX2_massOf wsX2_massOf) := goodIn_app (goodIn_of _ (by decide +kernel)) ggX2_productOver_X2_massOf
theorem dX2_productOver_0 : decode cX2_productOver 0 = .ok (.dconst 0, 1) := by decide +kernel
theorem dX2_productOver_1 : decode cX2_productOver 1 = .ok (.dstore_n 3, 1) := by decide +kernel
theorem dX2_productOver_2 : decode cX2_productOver 2 = .ok (.iconst 0, 1) := by decide +kernel
theorem dX2_productOver_3 : decode cX2_productOver 3 = .ok (.istore 5, 2) := by decide +kernel
theorem dX2_productOver_5 : decode cX2_productOver 5 = .ok (.iload 5, 2) := by decide +kernel
theorem dX2_productOver_7 : decode cX2_productOver 7 = .ok (.aload_n 0, 1) := by decide +kernel
theorem dX2_productOver_8 : decode cX2_productOver 8 = .ok (.getfield 18, 3) := by decide +kernel
theorem dX2_productOver_11 : decode cX2_productOver 11 = .ok (.arraylength, 1) := by decide +kernel
theorem dX2_productOver_12 : decode cX2_productOver 12 = .ok (.if_icmp .ge 37, 3) := by decide +kernel
theorem dX2_productOver_15 : decode cX2_productOver 15 = .ok (.aload_n 0, 1) := by decide +kernel
theorem dX2_productOver_16 : decode cX2_productOver 16 = .ok (.iload 5, 2) := by decide +kernel
theorem dX2_productOver_18 : decode cX2_productOver 18 = .ok (.invokevirtual 73, 3) := by decide +kernel
theorem dX2_productOver_21 : decode cX2_productOver 21 = .ok (.ifCond .eq 22, 3) := by decide +kernel
theorem dX2_productOver_24 : decode cX2_productOver 24 = .ok (.dload_n 3, 1) := by decide +kernel
theorem dX2_productOver_25 : decode cX2_productOver 25 = .ok (.aload_n 0, 1) := by decide +kernel
theorem dX2_productOver_26 : decode cX2_productOver 26 = .ok (.iload 5, 2) := by decide +kernel
theorem dX2_productOver_28 : decode cX2_productOver 28 = .ok (.invokevirtual 53, 3) := by decide +kernel
theorem dX2_productOver_31 : decode cX2_productOver 31 = .ok (.aload_n 1, 1) := by decide +kernel
theorem dX2_productOver_32 : decode cX2_productOver 32 = .ok (.iload 5, 2) := by decide +kernel
theorem dX2_productOver_34 : decode cX2_productOver 34 = .ok (.daload, 1) := by decide +kernel
theorem dX2_productOver_35 : decode cX2_productOver 35 = .ok (.dmul, 1) := by decide +kernel
theorem dX2_productOver_36 : decode cX2_productOver 36 = .ok (.aload_n 2, 1) := by decide +kernel
theorem dX2_productOver_37 : decode cX2_productOver 37 = .ok (.iload 5, 2) := by decide +kernel
theorem dX2_productOver_39 : decode cX2_productOver 39 = .ok (.daload, 1) := by decide +kernel
theorem dX2_productOver_40 : decode cX2_productOver 40 = .ok (.dmul, 1) := by decide +kernel
theorem dX2_productOver_41 : decode cX2_productOver 41 = .ok (.dadd, 1) := by decide +kernel
theorem dX2_productOver_42 : decode cX2_productOver 42 = .ok (.dstore_n 3, 1) := by decide +kernel
theorem dX2_productOver_43 : decode cX2_productOver 43 = .ok (.iinc 5 1, 3) := by decide +kernel
theorem dX2_productOver_46 : decode cX2_productOver 46 = .ok (.goto (-41), 3) := by decide +kernel
theorem dX2_productOver_49 : decode cX2_productOver 49 = .ok (.dload_n 3, 1) := by decide +kernel
theorem dX2_productOver_50 : decode cX2_productOver 50 = .ok (.dreturn, 1) := by decide +kernel
set_option maxRecDepth 20000 in
theorem ggX2_totalOver_X2_hasWood : GoodIn wsX2_totalOver wsX2_hasWood := goodIn_r _ [6, 1, 7, 8, 9, 10, 11, 12, 13, 14, 15] (by decide +kernel) (by decide +kernel)
set_option maxRecDepth 20000 in
theorem gX2_totalOver_X2_hasWood : GoodIn wsX2_totalOver (wsV RX2 73 RX2 yX2_hasWood wsX2_hasWood) := goodIn_app (goodIn_of _ (by decide +kernel)) ggX2_totalOver_X2_hasWood
theorem dX2_totalOver_0 : decode cX2_totalOver 0 = .ok (.dconst 0, 1) := by decide +kernel
theorem dX2_totalOver_1 : decode cX2_totalOver 1 = .ok (.dstore_n 2, 1) := by decide +kernel
theorem dX2_totalOver_2 : decode cX2_totalOver 2 = .ok (.iconst 0, 1) := by decide +kernel
theorem dX2_totalOver_3 : decode cX2_totalOver 3 = .ok (.istore 4, 2) := by decide +kernel
theorem dX2_totalOver_5 : decode cX2_totalOver 5 = .ok (.iload 4, 2) := by decide +kernel
theorem dX2_totalOver_7 : decode cX2_totalOver 7 = .ok (.aload_n 0, 1) := by decide +kernel
theorem dX2_totalOver_8 : decode cX2_totalOver 8 = .ok (.getfield 18, 3) := by decide +kernel
theorem dX2_totalOver_11 : decode cX2_totalOver 11 = .ok (.arraylength, 1) := by decide +kernel
theorem dX2_totalOver_12 : decode cX2_totalOver 12 = .ok (.if_icmp .ge 25, 3) := by decide +kernel
theorem dX2_totalOver_15 : decode cX2_totalOver 15 = .ok (.aload_n 0, 1) := by decide +kernel
theorem dX2_totalOver_16 : decode cX2_totalOver 16 = .ok (.iload 4, 2) := by decide +kernel
theorem dX2_totalOver_18 : decode cX2_totalOver 18 = .ok (.invokevirtual 73, 3) := by decide +kernel
theorem dX2_totalOver_21 : decode cX2_totalOver 21 = .ok (.ifCond .eq 10, 3) := by decide +kernel
theorem dX2_totalOver_24 : decode cX2_totalOver 24 = .ok (.dload_n 2, 1) := by decide +kernel
theorem dX2_totalOver_25 : decode cX2_totalOver 25 = .ok (.aload_n 1, 1) := by decide +kernel
theorem dX2_totalOver_26 : decode cX2_totalOver 26 = .ok (.iload 4, 2) := by decide +kernel
theorem dX2_totalOver_28 : decode cX2_totalOver 28 = .ok (.daload, 1) := by decide +kernel
theorem dX2_totalOver_29 : decode cX2_totalOver 29 = .ok (.dadd, 1) := by decide +kernel
theorem dX2_totalOver_30 : decode cX2_totalOver 30 = .ok (.dstore_n 2, 1) := by decide +kernel
theorem dX2_totalOver_31 : decode cX2_totalOver 31 = .ok (.iinc 4 1, 3) := by decide +kernel
theorem dX2_totalOver_34 : decode cX2_totalOver 34 = .ok (.goto (-29), 3) := by decide +kernel
theorem dX2_totalOver_37 : decode cX2_totalOver 37 = .ok (.dload_n 2, 1) := by decide +kernel
theorem dX2_totalOver_38 : decode cX2_totalOver 38 = .ok (.dreturn, 1) := by decide +kernel
set_option maxRecDepth 20000 in
theorem ggX2_squareOver_X2_cellAt : GoodIn wsX2_squareOver wsX2_cellAt := goodIn_r _ [7, 2, 23, 24, 25, 26, 27, 28, 29, 30, 31] (by decide +kernel) (by decide +kernel)
set_option maxRecDepth 20000 in
theorem gX2_squareOver_X2_cellAt : GoodIn wsX2_squareOver (wsV RX2 57 RX2 yX2_cellAt wsX2_cellAt) := goodIn_app (goodIn_of _ (by decide +kernel)) ggX2_squareOver_X2_cellAt
set_option maxRecDepth 20000 in
theorem ggX2_squareOver_X2_hasWood : GoodIn wsX2_squareOver wsX2_hasWood := goodIn_r _ [11, 12, 23, 24, 25, 26, 27, 28, 29, 30, 31] (by decide +kernel) (by decide +kernel)
set_option maxRecDepth 20000 in
theorem gX2_squareOver_X2_hasWood : GoodIn wsX2_squareOver (wsV RX2 73 RX2 yX2_hasWood wsX2_hasWood) := goodIn_app (goodIn_of _ (by decide +kernel)) ggX2_squareOver_X2_hasWood
set_option maxRecDepth 20000 in
theorem ggX2_squareOver_X2_forceAt : GoodIn wsX2_squareOver wsX2_forceAt := goodIn_r _ [16, 2, 17, 1, 18, 3, 4, 5, 6, 7, 19, 20, 21, 22, 23, 24, 25, 26, 27, 28, 29, 30, 31] (by decide +kernel) (by decide +kernel)
set_option maxRecDepth 20000 in
theorem gX2_squareOver_X2_forceAt : GoodIn wsX2_squareOver (wsV RX2 100 RX2 yX2_forceAt wsX2_forceAt) := goodIn_app (goodIn_of _ (by decide +kernel)) ggX2_squareOver_X2_forceAt
theorem dX2_squareOver_0 : decode cX2_squareOver 0 = .ok (.dconst 0, 1) := by decide +kernel
theorem dX2_squareOver_1 : decode cX2_squareOver 1 = .ok (.dstore_n 2, 1) := by decide +kernel
theorem dX2_squareOver_2 : decode cX2_squareOver 2 = .ok (.iconst 0, 1) := by decide +kernel
theorem dX2_squareOver_3 : decode cX2_squareOver 3 = .ok (.istore 4, 2) := by decide +kernel
theorem dX2_squareOver_5 : decode cX2_squareOver 5 = .ok (.iload 4, 2) := by decide +kernel
theorem dX2_squareOver_7 : decode cX2_squareOver 7 = .ok (.aload_n 0, 1) := by decide +kernel
theorem dX2_squareOver_8 : decode cX2_squareOver 8 = .ok (.getfield 15, 3) := by decide +kernel
theorem dX2_squareOver_11 : decode cX2_squareOver 11 = .ok (.if_icmp .ge 63, 3) := by decide +kernel
theorem dX2_squareOver_14 : decode cX2_squareOver 14 = .ok (.iconst 0, 1) := by decide +kernel
theorem dX2_squareOver_15 : decode cX2_squareOver 15 = .ok (.istore 5, 2) := by decide +kernel
theorem dX2_squareOver_17 : decode cX2_squareOver 17 = .ok (.iload 5, 2) := by decide +kernel
theorem dX2_squareOver_19 : decode cX2_squareOver 19 = .ok (.aload_n 0, 1) := by decide +kernel
theorem dX2_squareOver_20 : decode cX2_squareOver 20 = .ok (.getfield 9, 3) := by decide +kernel
theorem dX2_squareOver_23 : decode cX2_squareOver 23 = .ok (.if_icmp .ge 45, 3) := by decide +kernel
theorem dX2_squareOver_26 : decode cX2_squareOver 26 = .ok (.aload_n 0, 1) := by decide +kernel
theorem dX2_squareOver_27 : decode cX2_squareOver 27 = .ok (.iload 5, 2) := by decide +kernel
theorem dX2_squareOver_29 : decode cX2_squareOver 29 = .ok (.iload 4, 2) := by decide +kernel
theorem dX2_squareOver_31 : decode cX2_squareOver 31 = .ok (.invokevirtual 57, 3) := by decide +kernel
theorem dX2_squareOver_34 : decode cX2_squareOver 34 = .ok (.istore 6, 2) := by decide +kernel
theorem dX2_squareOver_36 : decode cX2_squareOver 36 = .ok (.aload_n 0, 1) := by decide +kernel
theorem dX2_squareOver_37 : decode cX2_squareOver 37 = .ok (.iload 6, 2) := by decide +kernel
theorem dX2_squareOver_39 : decode cX2_squareOver 39 = .ok (.invokevirtual 73, 3) := by decide +kernel
theorem dX2_squareOver_42 : decode cX2_squareOver 42 = .ok (.ifCond .eq 20, 3) := by decide +kernel
theorem dX2_squareOver_45 : decode cX2_squareOver 45 = .ok (.dload_n 2, 1) := by decide +kernel
theorem dX2_squareOver_46 : decode cX2_squareOver 46 = .ok (.aload_n 1, 1) := by decide +kernel
theorem dX2_squareOver_47 : decode cX2_squareOver 47 = .ok (.iload 6, 2) := by decide +kernel
theorem dX2_squareOver_49 : decode cX2_squareOver 49 = .ok (.daload, 1) := by decide +kernel
theorem dX2_squareOver_50 : decode cX2_squareOver 50 = .ok (.aload_n 0, 1) := by decide +kernel
theorem dX2_squareOver_51 : decode cX2_squareOver 51 = .ok (.aload_n 1, 1) := by decide +kernel
theorem dX2_squareOver_52 : decode cX2_squareOver 52 = .ok (.iload 5, 2) := by decide +kernel
theorem dX2_squareOver_54 : decode cX2_squareOver 54 = .ok (.iload 4, 2) := by decide +kernel
theorem dX2_squareOver_56 : decode cX2_squareOver 56 = .ok (.invokevirtual 100, 3) := by decide +kernel
theorem dX2_squareOver_59 : decode cX2_squareOver 59 = .ok (.dmul, 1) := by decide +kernel
theorem dX2_squareOver_60 : decode cX2_squareOver 60 = .ok (.dadd, 1) := by decide +kernel
theorem dX2_squareOver_61 : decode cX2_squareOver 61 = .ok (.dstore_n 2, 1) := by decide +kernel
theorem dX2_squareOver_62 : decode cX2_squareOver 62 = .ok (.iinc 5 1, 3) := by decide +kernel
theorem dX2_squareOver_65 : decode cX2_squareOver 65 = .ok (.goto (-48), 3) := by decide +kernel
theorem dX2_squareOver_68 : decode cX2_squareOver 68 = .ok (.iinc 4 1, 3) := by decide +kernel
theorem dX2_squareOver_71 : decode cX2_squareOver 71 = .ok (.goto (-66), 3) := by decide +kernel
theorem dX2_squareOver_74 : decode cX2_squareOver 74 = .ok (.dload_n 2, 1) := by decide +kernel
theorem dX2_squareOver_75 : decode cX2_squareOver 75 = .ok (.dneg, 1) := by decide +kernel
theorem dX2_squareOver_76 : decode cX2_squareOver 76 = .ok (.dreturn, 1) := by decide +kernel
set_option maxRecDepth 20000 in
theorem ggX2_residueOver_X2_cellAt : GoodIn wsX2_residueOver wsX2_cellAt := goodIn_r _ [7, 2, 28, 29, 30, 31, 32, 33, 34, 35, 36] (by decide +kernel) (by decide +kernel)
set_option maxRecDepth 20000 in
theorem gX2_residueOver_X2_cellAt : GoodIn wsX2_residueOver (wsV RX2 57 RX2 yX2_cellAt wsX2_cellAt) := goodIn_app (goodIn_of _ (by decide +kernel)) ggX2_residueOver_X2_cellAt
set_option maxRecDepth 20000 in
theorem ggX2_residueOver_X2_hasWood : GoodIn wsX2_residueOver wsX2_hasWood := goodIn_r _ [11, 12, 28, 29, 30, 31, 32, 33, 34, 35, 36] (by decide +kernel) (by decide +kernel)
set_option maxRecDepth 20000 in
theorem gX2_residueOver_X2_hasWood : GoodIn wsX2_residueOver (wsV RX2 73 RX2 yX2_hasWood wsX2_hasWood) := goodIn_app (goodIn_of _ (by decide +kernel)) ggX2_residueOver_X2_hasWood
set_option maxRecDepth 20000 in
theorem ggX2_residueOver_X2_forceAt : GoodIn wsX2_residueOver wsX2_forceAt := goodIn_r _ [16, 2, 17, 1, 18, 3, 4, 5, 6, 7, 19, 20, 21, 22, 28, 29, 30, 31, 32, 33, 34, 35, 36] (by decide +kernel) (by decide +kernel)
set_option maxRecDepth 20000 in
theorem gX2_residueOver_X2_forceAt : GoodIn wsX2_residueOver (wsV RX2 100 RX2 yX2_forceAt wsX2_forceAt) := goodIn_app (goodIn_of _ (by decide +kernel)) ggX2_residueOver_X2_forceAt
set_option maxRecDepth 20000 in
theorem ggX2_residueOver_X2_massOf : GoodIn wsX2_residueOver wsX2_massOf := goodIn_r _ [26, 12, 27, 28, 29, 30, 31, 32, 33, 34, 35, 36] (by decide +kernel) (by decide +kernel)
set_option maxRecDepth 20000 in
theorem gX2_residueOver_X2_massOf : GoodIn wsX2_residueOver (wsV RX2 53 RX2 yX2_massOf wsX2_massOf) := goodIn_app (goodIn_of _ (by decide +kernel)) ggX2_residueOver_X2_massOf
theorem dX2_residueOver_0 : decode cX2_residueOver 0 = .ok (.dconst 0, 1) := by decide +kernel
theorem dX2_residueOver_1 : decode cX2_residueOver 1 = .ok (.dstore 4, 2) := by decide +kernel
theorem dX2_residueOver_3 : decode cX2_residueOver 3 = .ok (.iconst 0, 1) := by decide +kernel
theorem dX2_residueOver_4 : decode cX2_residueOver 4 = .ok (.istore 6, 2) := by decide +kernel
theorem dX2_residueOver_6 : decode cX2_residueOver 6 = .ok (.iload 6, 2) := by decide +kernel
theorem dX2_residueOver_8 : decode cX2_residueOver 8 = .ok (.aload_n 0, 1) := by decide +kernel
theorem dX2_residueOver_9 : decode cX2_residueOver 9 = .ok (.getfield 15, 3) := by decide +kernel
theorem dX2_residueOver_12 : decode cX2_residueOver 12 = .ok (.if_icmp .ge 105, 3) := by decide +kernel
theorem dX2_residueOver_15 : decode cX2_residueOver 15 = .ok (.iconst 0, 1) := by decide +kernel
theorem dX2_residueOver_16 : decode cX2_residueOver 16 = .ok (.istore 7, 2) := by decide +kernel
theorem dX2_residueOver_18 : decode cX2_residueOver 18 = .ok (.iload 7, 2) := by decide +kernel
theorem dX2_residueOver_20 : decode cX2_residueOver 20 = .ok (.aload_n 0, 1) := by decide +kernel
theorem dX2_residueOver_21 : decode cX2_residueOver 21 = .ok (.getfield 9, 3) := by decide +kernel
theorem dX2_residueOver_24 : decode cX2_residueOver 24 = .ok (.if_icmp .ge 87, 3) := by decide +kernel
theorem dX2_residueOver_27 : decode cX2_residueOver 27 = .ok (.aload_n 0, 1) := by decide +kernel
theorem dX2_residueOver_28 : decode cX2_residueOver 28 = .ok (.iload 7, 2) := by decide +kernel
theorem dX2_residueOver_30 : decode cX2_residueOver 30 = .ok (.iload 6, 2) := by decide +kernel
theorem dX2_residueOver_32 : decode cX2_residueOver 32 = .ok (.invokevirtual 57, 3) := by decide +kernel
theorem dX2_residueOver_35 : decode cX2_residueOver 35 = .ok (.istore 8, 2) := by decide +kernel
theorem dX2_residueOver_37 : decode cX2_residueOver 37 = .ok (.aload_n 0, 1) := by decide +kernel
theorem dX2_residueOver_38 : decode cX2_residueOver 38 = .ok (.iload 8, 2) := by decide +kernel
theorem dX2_residueOver_40 : decode cX2_residueOver 40 = .ok (.invokevirtual 73, 3) := by decide +kernel
theorem dX2_residueOver_43 : decode cX2_residueOver 43 = .ok (.ifCond .eq 62, 3) := by decide +kernel
theorem dX2_residueOver_46 : decode cX2_residueOver 46 = .ok (.aload_n 0, 1) := by decide +kernel
theorem dX2_residueOver_47 : decode cX2_residueOver 47 = .ok (.aload_n 1, 1) := by decide +kernel
theorem dX2_residueOver_48 : decode cX2_residueOver 48 = .ok (.iload 7, 2) := by decide +kernel
theorem dX2_residueOver_50 : decode cX2_residueOver 50 = .ok (.iload 6, 2) := by decide +kernel
theorem dX2_residueOver_52 : decode cX2_residueOver 52 = .ok (.invokevirtual 100, 3) := by decide +kernel
theorem dX2_residueOver_55 : decode cX2_residueOver 55 = .ok (.dload_n 2, 1) := by decide +kernel
theorem dX2_residueOver_56 : decode cX2_residueOver 56 = .ok (.aload_n 0, 1) := by decide +kernel
theorem dX2_residueOver_57 : decode cX2_residueOver 57 = .ok (.iload 8, 2) := by decide +kernel
theorem dX2_residueOver_59 : decode cX2_residueOver 59 = .ok (.invokevirtual 53, 3) := by decide +kernel
theorem dX2_residueOver_62 : decode cX2_residueOver 62 = .ok (.dmul, 1) := by decide +kernel
theorem dX2_residueOver_63 : decode cX2_residueOver 63 = .ok (.aload_n 1, 1) := by decide +kernel
theorem dX2_residueOver_64 : decode cX2_residueOver 64 = .ok (.iload 8, 2) := by decide +kernel
theorem dX2_residueOver_66 : decode cX2_residueOver 66 = .ok (.daload, 1) := by decide +kernel
theorem dX2_residueOver_67 : decode cX2_residueOver 67 = .ok (.dmul, 1) := by decide +kernel
theorem dX2_residueOver_68 : decode cX2_residueOver 68 = .ok (.dadd, 1) := by decide +kernel
theorem dX2_residueOver_69 : decode cX2_residueOver 69 = .ok (.dstore 9, 2) := by decide +kernel
theorem dX2_residueOver_71 : decode cX2_residueOver 71 = .ok (.dload 9, 2) := by decide +kernel
theorem dX2_residueOver_73 : decode cX2_residueOver 73 = .ok (.dconst 0, 1) := by decide +kernel
theorem dX2_residueOver_74 : decode cX2_residueOver 74 = .ok (.dcmp .g, 1) := by decide +kernel
theorem dX2_residueOver_75 : decode cX2_residueOver 75 = .ok (.ifCond .ge 9, 3) := by decide +kernel
theorem dX2_residueOver_78 : decode cX2_residueOver 78 = .ok (.dload 9, 2) := by decide +kernel
theorem dX2_residueOver_80 : decode cX2_residueOver 80 = .ok (.dneg, 1) := by decide +kernel
theorem dX2_residueOver_81 : decode cX2_residueOver 81 = .ok (.goto 5, 3) := by decide +kernel
theorem dX2_residueOver_84 : decode cX2_residueOver 84 = .ok (.dload 9, 2) := by decide +kernel
theorem dX2_residueOver_86 : decode cX2_residueOver 86 = .ok (.dstore 11, 2) := by decide +kernel
theorem dX2_residueOver_88 : decode cX2_residueOver 88 = .ok (.dload 11, 2) := by decide +kernel
theorem dX2_residueOver_90 : decode cX2_residueOver 90 = .ok (.dload 4, 2) := by decide +kernel
theorem dX2_residueOver_92 : decode cX2_residueOver 92 = .ok (.dcmp .l, 1) := by decide +kernel
theorem dX2_residueOver_93 : decode cX2_residueOver 93 = .ok (.ifCond .le 8, 3) := by decide +kernel
theorem dX2_residueOver_96 : decode cX2_residueOver 96 = .ok (.dload 11, 2) := by decide +kernel
theorem dX2_residueOver_98 : decode cX2_residueOver 98 = .ok (.goto 5, 3) := by decide +kernel
theorem dX2_residueOver_101 : decode cX2_residueOver 101 = .ok (.dload 4, 2) := by decide +kernel
theorem dX2_residueOver_103 : decode cX2_residueOver 103 = .ok (.dstore 4, 2) := by decide +kernel
theorem dX2_residueOver_105 : decode cX2_residueOver 105 = .ok (.iinc 7 1, 3) := by decide +kernel
theorem dX2_residueOver_108 : decode cX2_residueOver 108 = .ok (.goto (-90), 3) := by decide +kernel
theorem dX2_residueOver_111 : decode cX2_residueOver 111 = .ok (.iinc 6 1, 3) := by decide +kernel
theorem dX2_residueOver_114 : decode cX2_residueOver 114 = .ok (.goto (-108), 3) := by decide +kernel
theorem dX2_residueOver_117 : decode cX2_residueOver 117 = .ok (.dload 4, 2) := by decide +kernel
theorem dX2_residueOver_119 : decode cX2_residueOver 119 = .ok (.dreturn, 1) := by decide +kernel
theorem dX3_init_0 : decode cX3_init 0 = .ok (.aload_n 0, 1) := by decide +kernel
theorem dX3_init_1 : decode cX3_init 1 = .ok (.invokespecial 3, 3) := by decide +kernel
theorem dX3_init_4 : decode cX3_init 4 = .ok (.aload_n 0, 1) := by decide +kernel
theorem dX3_init_5 : decode cX3_init 5 = .ok (.iconst 4, 1) := by decide +kernel
theorem dX3_init_6 : decode cX3_init 6 = .ok (.newarray .int, 2) := by decide +kernel
theorem dX3_init_8 : decode cX3_init 8 = .ok (.putfield 9, 3) := by decide +kernel
theorem dX3_init_11 : decode cX3_init 11 = .ok (.aload_n 0, 1) := by decide +kernel
theorem dX3_init_12 : decode cX3_init 12 = .ok (.iconst 4, 1) := by decide +kernel
theorem dX3_init_13 : decode cX3_init 13 = .ok (.newarray .double, 2) := by decide +kernel
theorem dX3_init_15 : decode cX3_init 15 = .ok (.putfield 15, 3) := by decide +kernel
theorem dX3_init_18 : decode cX3_init 18 = .ok (.return_, 1) := by decide +kernel
theorem dX3_full_0 : decode cX3_full 0 = .ok (.aload_n 0, 1) := by decide +kernel
theorem dX3_full_1 : decode cX3_full 1 = .ok (.getfield 19, 3) := by decide +kernel
theorem dX3_full_4 : decode cX3_full 4 = .ok (.iconst 4, 1) := by decide +kernel
theorem dX3_full_5 : decode cX3_full 5 = .ok (.if_icmp .lt 7, 3) := by decide +kernel
theorem dX3_full_8 : decode cX3_full 8 = .ok (.iconst 1, 1) := by decide +kernel
theorem dX3_full_9 : decode cX3_full 9 = .ok (.goto 4, 3) := by decide +kernel
theorem dX3_full_12 : decode cX3_full 12 = .ok (.iconst 0, 1) := by decide +kernel
theorem dX3_full_13 : decode cX3_full 13 = .ok (.ireturn, 1) := by decide +kernel
set_option maxRecDepth 20000 in
theorem ggX3_add_X3_full : GoodIn wsX3_add wsX3_full := goodIn_r _ [8, 2, 9, 10, 11] (by decide +kernel) (by decide +kernel)
set_option maxRecDepth 20000 in
theorem gX3_add_X3_full : GoodIn wsX3_add (wsV RX3 23 RX3 yX3_full wsX3_full) := goodIn_app (goodIn_of _ (by decide +kernel)) ggX3_add_X3_full
theorem dX3_add_0 : decode cX3_add 0 = .ok (.aload_n 0, 1) := by decide +kernel
theorem dX3_add_1 : decode cX3_add 1 = .ok (.invokevirtual 23, 3) := by decide +kernel
theorem dX3_add_4 : decode cX3_add 4 = .ok (.ifCond .ne 33, 3) := by decide +kernel
theorem dX3_add_7 : decode cX3_add 7 = .ok (.aload_n 0, 1) := by decide +kernel
theorem dX3_add_8 : decode cX3_add 8 = .ok (.getfield 9, 3) := by decide +kernel
theorem dX3_add_11 : decode cX3_add 11 = .ok (.aload_n 0, 1) := by decide +kernel
theorem dX3_add_12 : decode cX3_add 12 = .ok (.getfield 19, 3) := by decide +kernel
theorem dX3_add_15 : decode cX3_add 15 = .ok (.iload_n 1, 1) := by decide +kernel
theorem dX3_add_16 : decode cX3_add 16 = .ok (.iastore, 1) := by decide +kernel
theorem dX3_add_17 : decode cX3_add 17 = .ok (.aload_n 0, 1) := by decide +kernel
theorem dX3_add_18 : decode cX3_add 18 = .ok (.getfield 15, 3) := by decide +kernel
theorem dX3_add_21 : decode cX3_add 21 = .ok (.aload_n 0, 1) := by decide +kernel
theorem dX3_add_22 : decode cX3_add 22 = .ok (.getfield 19, 3) := by decide +kernel
theorem dX3_add_25 : decode cX3_add 25 = .ok (.dload_n 2, 1) := by decide +kernel
theorem dX3_add_26 : decode cX3_add 26 = .ok (.dastore, 1) := by decide +kernel
theorem dX3_add_27 : decode cX3_add 27 = .ok (.aload_n 0, 1) := by decide +kernel
theorem dX3_add_28 : decode cX3_add 28 = .ok (.dup, 1) := by decide +kernel
theorem dX3_add_29 : decode cX3_add 29 = .ok (.getfield 19, 3) := by decide +kernel
theorem dX3_add_32 : decode cX3_add 32 = .ok (.iconst 1, 1) := by decide +kernel
theorem dX3_add_33 : decode cX3_add 33 = .ok (.iadd, 1) := by decide +kernel
theorem dX3_add_34 : decode cX3_add 34 = .ok (.putfield 19, 3) := by decide +kernel
theorem dX3_add_37 : decode cX3_add 37 = .ok (.aload_n 0, 1) := by decide +kernel
theorem dX3_add_38 : decode cX3_add 38 = .ok (.getfield 19, 3) := by decide +kernel
theorem dX3_add_41 : decode cX3_add 41 = .ok (.ireturn, 1) := by decide +kernel
theorem dX3_modesNeeded_0 : decode cX3_modesNeeded 0 = .ok (.iconst 0, 1) := by decide +kernel
theorem dX3_modesNeeded_1 : decode cX3_modesNeeded 1 = .ok (.istore_n 1, 1) := by decide +kernel
theorem dX3_modesNeeded_2 : decode cX3_modesNeeded 2 = .ok (.iconst 0, 1) := by decide +kernel
theorem dX3_modesNeeded_3 : decode cX3_modesNeeded 3 = .ok (.istore_n 2, 1) := by decide +kernel
theorem dX3_modesNeeded_4 : decode cX3_modesNeeded 4 = .ok (.iload_n 2, 1) := by decide +kernel
theorem dX3_modesNeeded_5 : decode cX3_modesNeeded 5 = .ok (.aload_n 0, 1) := by decide +kernel
theorem dX3_modesNeeded_6 : decode cX3_modesNeeded 6 = .ok (.getfield 19, 3) := by decide +kernel
theorem dX3_modesNeeded_9 : decode cX3_modesNeeded 9 = .ok (.if_icmp .ge 22, 3) := by decide +kernel
theorem dX3_modesNeeded_12 : decode cX3_modesNeeded 12 = .ok (.iload_n 1, 1) := by decide +kernel
theorem dX3_modesNeeded_13 : decode cX3_modesNeeded 13 = .ok (.aload_n 0, 1) := by decide +kernel
theorem dX3_modesNeeded_14 : decode cX3_modesNeeded 14 = .ok (.getfield 9, 3) := by decide +kernel
theorem dX3_modesNeeded_17 : decode cX3_modesNeeded 17 = .ok (.iload_n 2, 1) := by decide +kernel
theorem dX3_modesNeeded_18 : decode cX3_modesNeeded 18 = .ok (.iaload, 1) := by decide +kernel
theorem dX3_modesNeeded_19 : decode cX3_modesNeeded 19 = .ok (.iconst 1, 1) := by decide +kernel
theorem dX3_modesNeeded_20 : decode cX3_modesNeeded 20 = .ok (.iadd, 1) := by decide +kernel
theorem dX3_modesNeeded_21 : decode cX3_modesNeeded 21 = .ok (.invokestatic 27, 3) := by decide +kernel
theorem dX3_modesNeeded_24 : decode cX3_modesNeeded 24 = .ok (.istore_n 1, 1) := by decide +kernel
theorem dX3_modesNeeded_25 : decode cX3_modesNeeded 25 = .ok (.iinc 2 1, 3) := by decide +kernel
theorem dX3_modesNeeded_28 : decode cX3_modesNeeded 28 = .ok (.goto (-24), 3) := by decide +kernel
theorem dX3_modesNeeded_31 : decode cX3_modesNeeded 31 = .ok (.iload_n 1, 1) := by decide +kernel
theorem dX3_modesNeeded_32 : decode cX3_modesNeeded 32 = .ok (.ireturn, 1) := by decide +kernel
set_option maxRecDepth 20000 in
theorem ggX3_missedBy_X1_squareOf : GoodIn wsX3_missedBy wsX1_squareOf := goodIn_r _ [8, 9, 13, 14, 15, 16, 17, 18] (by decide +kernel) (by decide +kernel)
set_option maxRecDepth 20000 in
theorem gX3_missedBy_X1_squareOf : GoodIn wsX3_missedBy (wsV RX3 33 RX1 yX1_squareOf wsX1_squareOf) := goodIn_app (goodIn_of _ (by decide +kernel)) ggX3_missedBy_X1_squareOf
theorem dX3_missedBy_0 : decode cX3_missedBy 0 = .ok (.dconst 0, 1) := by decide +kernel
theorem dX3_missedBy_1 : decode cX3_missedBy 1 = .ok (.dstore_n 2, 1) := by decide +kernel
theorem dX3_missedBy_2 : decode cX3_missedBy 2 = .ok (.iconst 0, 1) := by decide +kernel
theorem dX3_missedBy_3 : decode cX3_missedBy 3 = .ok (.istore 4, 2) := by decide +kernel
theorem dX3_missedBy_5 : decode cX3_missedBy 5 = .ok (.iload 4, 2) := by decide +kernel
theorem dX3_missedBy_7 : decode cX3_missedBy 7 = .ok (.aload_n 0, 1) := by decide +kernel
theorem dX3_missedBy_8 : decode cX3_missedBy 8 = .ok (.getfield 19, 3) := by decide +kernel
theorem dX3_missedBy_11 : decode cX3_missedBy 11 = .ok (.if_icmp .ge 38, 3) := by decide +kernel
theorem dX3_missedBy_14 : decode cX3_missedBy 14 = .ok (.aload_n 1, 1) := by decide +kernel
theorem dX3_missedBy_15 : decode cX3_missedBy 15 = .ok (.aload_n 0, 1) := by decide +kernel
theorem dX3_missedBy_16 : decode cX3_missedBy 16 = .ok (.getfield 9, 3) := by decide +kernel
theorem dX3_missedBy_19 : decode cX3_missedBy 19 = .ok (.iload 4, 2) := by decide +kernel
theorem dX3_missedBy_21 : decode cX3_missedBy 21 = .ok (.iaload, 1) := by decide +kernel
theorem dX3_missedBy_22 : decode cX3_missedBy 22 = .ok (.invokevirtual 33, 3) := by decide +kernel
theorem dX3_missedBy_25 : decode cX3_missedBy 25 = .ok (.aload_n 0, 1) := by decide +kernel
theorem dX3_missedBy_26 : decode cX3_missedBy 26 = .ok (.getfield 15, 3) := by decide +kernel
theorem dX3_missedBy_29 : decode cX3_missedBy 29 = .ok (.iload 4, 2) := by decide +kernel
theorem dX3_missedBy_31 : decode cX3_missedBy 31 = .ok (.daload, 1) := by decide +kernel
theorem dX3_missedBy_32 : decode cX3_missedBy 32 = .ok (.dsub, 1) := by decide +kernel
theorem dX3_missedBy_33 : decode cX3_missedBy 33 = .ok (.dstore 5, 2) := by decide +kernel
theorem dX3_missedBy_35 : decode cX3_missedBy 35 = .ok (.dload_n 2, 1) := by decide +kernel
theorem dX3_missedBy_36 : decode cX3_missedBy 36 = .ok (.dload 5, 2) := by decide +kernel
theorem dX3_missedBy_38 : decode cX3_missedBy 38 = .ok (.dload 5, 2) := by decide +kernel
theorem dX3_missedBy_40 : decode cX3_missedBy 40 = .ok (.dmul, 1) := by decide +kernel
theorem dX3_missedBy_41 : decode cX3_missedBy 41 = .ok (.dadd, 1) := by decide +kernel
theorem dX3_missedBy_42 : decode cX3_missedBy 42 = .ok (.dstore_n 2, 1) := by decide +kernel
theorem dX3_missedBy_43 : decode cX3_missedBy 43 = .ok (.iinc 4 1, 3) := by decide +kernel
theorem dX3_missedBy_46 : decode cX3_missedBy 46 = .ok (.goto (-41), 3) := by decide +kernel
theorem dX3_missedBy_49 : decode cX3_missedBy 49 = .ok (.dload_n 2, 1) := by decide +kernel
theorem dX3_missedBy_50 : decode cX3_missedBy 50 = .ok (.dreturn, 1) := by decide +kernel
