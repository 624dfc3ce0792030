theorem dX5_init_0 : decode cX5_init 0 = .ok (.aload_n 0, 1) := by decide +kernel
theorem dX5_init_1 : decode cX5_init 1 = .ok (.invokespecial 1, 3) := by decide +kernel
theorem dX5_init_4 : decode cX5_init 4 = .ok (.aload_n 0, 1) := by decide +kernel
theorem dX5_init_5 : decode cX5_init 5 = .ok (.bipush 36, 2) := by decide +kernel
theorem dX5_init_7 : decode cX5_init 7 = .ok (.newarray .double, 2) := by decide +kernel
theorem dX5_init_9 : decode cX5_init 9 = .ok (.putfield 7, 3) := by decide +kernel
theorem dX5_init_12 : decode cX5_init 12 = .ok (.aload_n 0, 1) := by decide +kernel
theorem dX5_init_13 : decode cX5_init 13 = .ok (.dconst 1, 1) := by decide +kernel
theorem dX5_init_14 : decode cX5_init 14 = .ok (.putfield 13, 3) := by decide +kernel
theorem dX5_init_17 : decode cX5_init 17 = .ok (.aload_n 0, 1) := by decide +kernel
theorem dX5_init_18 : decode cX5_init 18 = .ok (.dconst 1, 1) := by decide +kernel
theorem dX5_init_19 : decode cX5_init 19 = .ok (.putfield 17, 3) := by decide +kernel
theorem dX5_init_22 : decode cX5_init 22 = .ok (.aload_n 0, 1) := by decide +kernel
theorem dX5_init_23 : decode cX5_init 23 = .ok (.dconst 1, 1) := by decide +kernel
theorem dX5_init_24 : decode cX5_init 24 = .ok (.putfield 20, 3) := by decide +kernel
theorem dX5_init_27 : decode cX5_init 27 = .ok (.aload_n 0, 1) := by decide +kernel
theorem dX5_init_28 : decode cX5_init 28 = .ok (.bipush 48, 2) := by decide +kernel
theorem dX5_init_30 : decode cX5_init 30 = .ok (.newarray .int, 2) := by decide +kernel
theorem dX5_init_32 : decode cX5_init 32 = .ok (.putfield 23, 3) := by decide +kernel
theorem dX5_init_35 : decode cX5_init 35 = .ok (.aload_n 0, 1) := by decide +kernel
theorem dX5_init_36 : decode cX5_init 36 = .ok (.bipush 12, 2) := by decide +kernel
theorem dX5_init_38 : decode cX5_init 38 = .ok (.newarray .double, 2) := by decide +kernel
theorem dX5_init_40 : decode cX5_init 40 = .ok (.putfield 27, 3) := by decide +kernel
theorem dX5_init_43 : decode cX5_init 43 = .ok (.aload_n 0, 1) := by decide +kernel
theorem dX5_init_44 : decode cX5_init 44 = .ok (.bipush 36, 2) := by decide +kernel
theorem dX5_init_46 : decode cX5_init 46 = .ok (.newarray .double, 2) := by decide +kernel
theorem dX5_init_48 : decode cX5_init 48 = .ok (.putfield 30, 3) := by decide +kernel
theorem dX5_init_51 : decode cX5_init 51 = .ok (.aload_n 0, 1) := by decide +kernel
theorem dX5_init_52 : decode cX5_init 52 = .ok (.bipush 36, 2) := by decide +kernel
theorem dX5_init_54 : decode cX5_init 54 = .ok (.newarray .double, 2) := by decide +kernel
theorem dX5_init_56 : decode cX5_init 56 = .ok (.putfield 33, 3) := by decide +kernel
theorem dX5_init_59 : decode cX5_init 59 = .ok (.aload_n 0, 1) := by decide +kernel
theorem dX5_init_60 : decode cX5_init 60 = .ok (.sipush 144, 3) := by decide +kernel
theorem dX5_init_63 : decode cX5_init 63 = .ok (.newarray .double, 2) := by decide +kernel
theorem dX5_init_65 : decode cX5_init 65 = .ok (.putfield 36, 3) := by decide +kernel
theorem dX5_init_68 : decode cX5_init 68 = .ok (.aload_n 0, 1) := by decide +kernel
theorem dX5_init_69 : decode cX5_init 69 = .ok (.iconst 4, 1) := by decide +kernel
theorem dX5_init_70 : decode cX5_init 70 = .ok (.newarray .double, 2) := by decide +kernel
theorem dX5_init_72 : decode cX5_init 72 = .ok (.putfield 39, 3) := by decide +kernel
theorem dX5_init_75 : decode cX5_init 75 = .ok (.aload_n 0, 1) := by decide +kernel
theorem dX5_init_76 : decode cX5_init 76 = .ok (.iconst 4, 1) := by decide +kernel
theorem dX5_init_77 : decode cX5_init 77 = .ok (.newarray .int, 2) := by decide +kernel
theorem dX5_init_79 : decode cX5_init 79 = .ok (.putfield 42, 3) := by decide +kernel
theorem dX5_init_82 : decode cX5_init 82 = .ok (.aload_n 0, 1) := by decide +kernel
theorem dX5_init_83 : decode cX5_init 83 = .ok (.iconst 4, 1) := by decide +kernel
theorem dX5_init_84 : decode cX5_init 84 = .ok (.newarray .double, 2) := by decide +kernel
theorem dX5_init_86 : decode cX5_init 86 = .ok (.putfield 45, 3) := by decide +kernel
theorem dX5_init_89 : decode cX5_init 89 = .ok (.aload_n 0, 1) := by decide +kernel
theorem dX5_init_90 : decode cX5_init 90 = .ok (.iload_n 1, 1) := by decide +kernel
theorem dX5_init_91 : decode cX5_init 91 = .ok (.iconst 2, 1) := by decide +kernel
theorem dX5_init_92 : decode cX5_init 92 = .ok (.if_icmp .ge 7, 3) := by decide +kernel
theorem dX5_init_95 : decode cX5_init 95 = .ok (.iconst 2, 1) := by decide +kernel
theorem dX5_init_96 : decode cX5_init 96 = .ok (.goto 15, 3) := by decide +kernel
theorem dX5_init_99 : decode cX5_init 99 = .ok (.iload_n 1, 1) := by decide +kernel
theorem dX5_init_100 : decode cX5_init 100 = .ok (.bipush 6, 2) := by decide +kernel
theorem dX5_init_102 : decode cX5_init 102 = .ok (.if_icmp .le 8, 3) := by decide +kernel
theorem dX5_init_105 : decode cX5_init 105 = .ok (.bipush 6, 2) := by decide +kernel
theorem dX5_init_107 : decode cX5_init 107 = .ok (.goto 4, 3) := by decide +kernel
theorem dX5_init_110 : decode cX5_init 110 = .ok (.iload_n 1, 1) := by decide +kernel
theorem dX5_init_111 : decode cX5_init 111 = .ok (.putfield 48, 3) := by decide +kernel
theorem dX5_init_114 : decode cX5_init 114 = .ok (.aload_n 0, 1) := by decide +kernel
theorem dX5_init_115 : decode cX5_init 115 = .ok (.iload_n 2, 1) := by decide +kernel
theorem dX5_init_116 : decode cX5_init 116 = .ok (.iconst 2, 1) := by decide +kernel
theorem dX5_init_117 : decode cX5_init 117 = .ok (.if_icmp .ge 7, 3) := by decide +kernel
theorem dX5_init_120 : decode cX5_init 120 = .ok (.iconst 2, 1) := by decide +kernel
theorem dX5_init_121 : decode cX5_init 121 = .ok (.goto 15, 3) := by decide +kernel
theorem dX5_init_124 : decode cX5_init 124 = .ok (.iload_n 2, 1) := by decide +kernel
theorem dX5_init_125 : decode cX5_init 125 = .ok (.bipush 6, 2) := by decide +kernel
theorem dX5_init_127 : decode cX5_init 127 = .ok (.if_icmp .le 8, 3) := by decide +kernel
theorem dX5_init_130 : decode cX5_init 130 = .ok (.bipush 6, 2) := by decide +kernel
theorem dX5_init_132 : decode cX5_init 132 = .ok (.goto 4, 3) := by decide +kernel
theorem dX5_init_135 : decode cX5_init 135 = .ok (.iload_n 2, 1) := by decide +kernel
theorem dX5_init_136 : decode cX5_init 136 = .ok (.putfield 52, 3) := by decide +kernel
theorem dX5_init_139 : decode cX5_init 139 = .ok (.iconst 0, 1) := by decide +kernel
theorem dX5_init_140 : decode cX5_init 140 = .ok (.istore_n 3, 1) := by decide +kernel
theorem dX5_init_141 : decode cX5_init 141 = .ok (.iload_n 3, 1) := by decide +kernel
theorem dX5_init_142 : decode cX5_init 142 = .ok (.bipush 36, 2) := by decide +kernel
theorem dX5_init_144 : decode cX5_init 144 = .ok (.if_icmp .ge 16, 3) := by decide +kernel
theorem dX5_init_147 : decode cX5_init 147 = .ok (.aload_n 0, 1) := by decide +kernel
theorem dX5_init_148 : decode cX5_init 148 = .ok (.getfield 7, 3) := by decide +kernel
theorem dX5_init_151 : decode cX5_init 151 = .ok (.iload_n 3, 1) := by decide +kernel
theorem dX5_init_152 : decode cX5_init 152 = .ok (.dconst 1, 1) := by decide +kernel
theorem dX5_init_153 : decode cX5_init 153 = .ok (.dastore, 1) := by decide +kernel
theorem dX5_init_154 : decode cX5_init 154 = .ok (.iinc 3 1, 3) := by decide +kernel
theorem dX5_init_157 : decode cX5_init 157 = .ok (.goto (-16), 3) := by decide +kernel
theorem dX5_init_160 : decode cX5_init 160 = .ok (.return_, 1) := by decide +kernel
set_option maxRecDepth 20000 in
theorem ggX5_wood_X5_noCell : GoodIn wsX5_wood wsX5_noCell := goodIn_r _ [10, 11, 12, 16, 17, 18, 19, 20, 21, 22, 23, 24, 25, 26, 27, 28, 29, 30, 31, 32, 33, 34] (by decide +kernel) (by decide +kernel)
set_option maxRecDepth 20000 in
theorem gX5_wood_X5_noCell : GoodIn wsX5_wood (wsV RX5 60 RX5 yX5_noCell wsX5_noCell) := goodIn_app (goodIn_of _ (by decide +kernel)) ggX5_wood_X5_noCell
set_option maxRecDepth 20000 in
theorem ggX5_wood_X5_between : GoodIn wsX5_wood wsX5_between := goodIn_r _ [15] (by decide +kernel) (by decide +kernel)
set_option maxRecDepth 20000 in
theorem gX5_wood_X5_between : GoodIn wsX5_wood (va_wsS RX5 68 yX5_between wsX5_between) := goodIn_app (goodIn_of _ (by decide +kernel)) ggX5_wood_X5_between
theorem dX5_wood_0 : decode cX5_wood 0 = .ok (.aload_n 0, 1) := by decide +kernel
theorem dX5_wood_1 : decode cX5_wood 1 = .ok (.aload_n 0, 1) := by decide +kernel
theorem dX5_wood_2 : decode cX5_wood 2 = .ok (.iload_n 1, 1) := by decide +kernel
theorem dX5_wood_3 : decode cX5_wood 3 = .ok (.iload_n 2, 1) := by decide +kernel
theorem dX5_wood_4 : decode cX5_wood 4 = .ok (.invokevirtual 60, 3) := by decide +kernel
theorem dX5_wood_7 : decode cX5_wood 7 = .ok (.ifCond .eq 7, 3) := by decide +kernel
theorem dX5_wood_10 : decode cX5_wood 10 = .ok (.iconst 1, 1) := by decide +kernel
theorem dX5_wood_11 : decode cX5_wood 11 = .ok (.goto 27, 3) := by decide +kernel
theorem dX5_wood_14 : decode cX5_wood 14 = .ok (.dload_n 3, 1) := by decide +kernel
theorem dX5_wood_15 : decode cX5_wood 15 = .ok (.dconst 0, 1) := by decide +kernel
theorem dX5_wood_16 : decode cX5_wood 16 = .ok (.dcmp .l, 1) := by decide +kernel
theorem dX5_wood_17 : decode cX5_wood 17 = .ok (.ifCond .eq 16, 3) := by decide +kernel
theorem dX5_wood_20 : decode cX5_wood 20 = .ok (.dload_n 3, 1) := by decide +kernel
theorem dX5_wood_21 : decode cX5_wood 21 = .ok (.ldc2_w 64, 3) := by decide +kernel
theorem dX5_wood_24 : decode cX5_wood 24 = .ok (.ldc2_w 66, 3) := by decide +kernel
theorem dX5_wood_27 : decode cX5_wood 27 = .ok (.invokestatic 68, 3) := by decide +kernel
theorem dX5_wood_30 : decode cX5_wood 30 = .ok (.ifCond .eq 7, 3) := by decide +kernel
theorem dX5_wood_33 : decode cX5_wood 33 = .ok (.iconst 0, 1) := by decide +kernel
theorem dX5_wood_34 : decode cX5_wood 34 = .ok (.goto 4, 3) := by decide +kernel
theorem dX5_wood_37 : decode cX5_wood 37 = .ok (.iconst 2, 1) := by decide +kernel
theorem dX5_wood_38 : decode cX5_wood 38 = .ok (.putfield 55, 3) := by decide +kernel
theorem dX5_wood_41 : decode cX5_wood 41 = .ok (.aload_n 0, 1) := by decide +kernel
theorem dX5_wood_42 : decode cX5_wood 42 = .ok (.getfield 55, 3) := by decide +kernel
theorem dX5_wood_45 : decode cX5_wood 45 = .ok (.ifCond .le 5, 3) := by decide +kernel
theorem dX5_wood_48 : decode cX5_wood 48 = .ok (.iconst 0, 1) := by decide +kernel
theorem dX5_wood_49 : decode cX5_wood 49 = .ok (.ireturn, 1) := by decide +kernel
theorem dX5_wood_50 : decode cX5_wood 50 = .ok (.aload_n 0, 1) := by decide +kernel
theorem dX5_wood_51 : decode cX5_wood 51 = .ok (.getfield 7, 3) := by decide +kernel
theorem dX5_wood_54 : decode cX5_wood 54 = .ok (.bipush 6, 2) := by decide +kernel
theorem dX5_wood_56 : decode cX5_wood 56 = .ok (.iload_n 2, 1) := by decide +kernel
theorem dX5_wood_57 : decode cX5_wood 57 = .ok (.imul, 1) := by decide +kernel
theorem dX5_wood_58 : decode cX5_wood 58 = .ok (.iload_n 1, 1) := by decide +kernel
theorem dX5_wood_59 : decode cX5_wood 59 = .ok (.iadd, 1) := by decide +kernel
theorem dX5_wood_60 : decode cX5_wood 60 = .ok (.daload, 1) := by decide +kernel
theorem dX5_wood_61 : decode cX5_wood 61 = .ok (.dload_n 3, 1) := by decide +kernel
theorem dX5_wood_62 : decode cX5_wood 62 = .ok (.dcmp .l, 1) := by decide +kernel
theorem dX5_wood_63 : decode cX5_wood 63 = .ok (.ifCond .eq 7, 3) := by decide +kernel
theorem dX5_wood_66 : decode cX5_wood 66 = .ok (.iconst 1, 1) := by decide +kernel
theorem dX5_wood_67 : decode cX5_wood 67 = .ok (.goto 4, 3) := by decide +kernel
theorem dX5_wood_70 : decode cX5_wood 70 = .ok (.iconst 0, 1) := by decide +kernel
theorem dX5_wood_71 : decode cX5_wood 71 = .ok (.istore 5, 2) := by decide +kernel
theorem dX5_wood_73 : decode cX5_wood 73 = .ok (.aload_n 0, 1) := by decide +kernel
theorem dX5_wood_74 : decode cX5_wood 74 = .ok (.getfield 7, 3) := by decide +kernel
theorem dX5_wood_77 : decode cX5_wood 77 = .ok (.bipush 6, 2) := by decide +kernel
theorem dX5_wood_79 : decode cX5_wood 79 = .ok (.iload_n 2, 1) := by decide +kernel
theorem dX5_wood_80 : decode cX5_wood 80 = .ok (.imul, 1) := by decide +kernel
theorem dX5_wood_81 : decode cX5_wood 81 = .ok (.iload_n 1, 1) := by decide +kernel
theorem dX5_wood_82 : decode cX5_wood 82 = .ok (.iadd, 1) := by decide +kernel
theorem dX5_wood_83 : decode cX5_wood 83 = .ok (.dload_n 3, 1) := by decide +kernel
theorem dX5_wood_84 : decode cX5_wood 84 = .ok (.dastore, 1) := by decide +kernel
theorem dX5_wood_85 : decode cX5_wood 85 = .ok (.aload_n 0, 1) := by decide +kernel
theorem dX5_wood_86 : decode cX5_wood 86 = .ok (.aload_n 0, 1) := by decide +kernel
theorem dX5_wood_87 : decode cX5_wood 87 = .ok (.getfield 72, 3) := by decide +kernel
theorem dX5_wood_90 : decode cX5_wood 90 = .ok (.ifCond .eq 12, 3) := by decide +kernel
theorem dX5_wood_93 : decode cX5_wood 93 = .ok (.iload 5, 2) := by decide +kernel
theorem dX5_wood_95 : decode cX5_wood 95 = .ok (.ifCond .ne 7, 3) := by decide +kernel
theorem dX5_wood_98 : decode cX5_wood 98 = .ok (.iconst 1, 1) := by decide +kernel
theorem dX5_wood_99 : decode cX5_wood 99 = .ok (.goto 4, 3) := by decide +kernel
theorem dX5_wood_102 : decode cX5_wood 102 = .ok (.iconst 0, 1) := by decide +kernel
theorem dX5_wood_103 : decode cX5_wood 103 = .ok (.putfield 72, 3) := by decide +kernel
theorem dX5_wood_106 : decode cX5_wood 106 = .ok (.iload 5, 2) := by decide +kernel
theorem dX5_wood_108 : decode cX5_wood 108 = .ok (.ireturn, 1) := by decide +kernel
set_option maxRecDepth 20000 in
theorem ggX5_rates_X5_between : GoodIn wsX5_rates wsX5_between := goodIn_r _ [11] (by decide +kernel) (by decide +kernel)
set_option maxRecDepth 20000 in
theorem gX5_rates_X5_between : GoodIn wsX5_rates (va_wsS RX5 68 yX5_between wsX5_between) := goodIn_app (goodIn_of _ (by decide +kernel)) ggX5_rates_X5_between
theorem dX5_rates_0 : decode cX5_rates 0 = .ok (.aload_n 0, 1) := by decide +kernel
theorem dX5_rates_1 : decode cX5_rates 1 = .ok (.dload_n 1, 1) := by decide +kernel
theorem dX5_rates_2 : decode cX5_rates 2 = .ok (.ldc2_w 64, 3) := by decide +kernel
theorem dX5_rates_5 : decode cX5_rates 5 = .ok (.ldc2_w 66, 3) := by decide +kernel
theorem dX5_rates_8 : decode cX5_rates 8 = .ok (.invokestatic 68, 3) := by decide +kernel
theorem dX5_rates_11 : decode cX5_rates 11 = .ok (.ifCond .eq 34, 3) := by decide +kernel
theorem dX5_rates_14 : decode cX5_rates 14 = .ok (.dload_n 3, 1) := by decide +kernel
theorem dX5_rates_15 : decode cX5_rates 15 = .ok (.ldc2_w 64, 3) := by decide +kernel
theorem dX5_rates_18 : decode cX5_rates 18 = .ok (.ldc2_w 66, 3) := by decide +kernel
theorem dX5_rates_21 : decode cX5_rates 21 = .ok (.invokestatic 68, 3) := by decide +kernel
theorem dX5_rates_24 : decode cX5_rates 24 = .ok (.ifCond .eq 21, 3) := by decide +kernel
theorem dX5_rates_27 : decode cX5_rates 27 = .ok (.dload 5, 2) := by decide +kernel
theorem dX5_rates_29 : decode cX5_rates 29 = .ok (.ldc2_w 64, 3) := by decide +kernel
theorem dX5_rates_32 : decode cX5_rates 32 = .ok (.ldc2_w 66, 3) := by decide +kernel
theorem dX5_rates_35 : decode cX5_rates 35 = .ok (.invokestatic 68, 3) := by decide +kernel
theorem dX5_rates_38 : decode cX5_rates 38 = .ok (.ifCond .eq 7, 3) := by decide +kernel
theorem dX5_rates_41 : decode cX5_rates 41 = .ok (.iconst 0, 1) := by decide +kernel
theorem dX5_rates_42 : decode cX5_rates 42 = .ok (.goto 4, 3) := by decide +kernel
theorem dX5_rates_45 : decode cX5_rates 45 = .ok (.iconst 1, 1) := by decide +kernel
theorem dX5_rates_46 : decode cX5_rates 46 = .ok (.putfield 55, 3) := by decide +kernel
theorem dX5_rates_49 : decode cX5_rates 49 = .ok (.aload_n 0, 1) := by decide +kernel
theorem dX5_rates_50 : decode cX5_rates 50 = .ok (.getfield 55, 3) := by decide +kernel
theorem dX5_rates_53 : decode cX5_rates 53 = .ok (.ifCond .ne 24, 3) := by decide +kernel
theorem dX5_rates_56 : decode cX5_rates 56 = .ok (.aload_n 0, 1) := by decide +kernel
theorem dX5_rates_57 : decode cX5_rates 57 = .ok (.dload_n 1, 1) := by decide +kernel
theorem dX5_rates_58 : decode cX5_rates 58 = .ok (.putfield 13, 3) := by decide +kernel
theorem dX5_rates_61 : decode cX5_rates 61 = .ok (.aload_n 0, 1) := by decide +kernel
theorem dX5_rates_62 : decode cX5_rates 62 = .ok (.dload_n 3, 1) := by decide +kernel
theorem dX5_rates_63 : decode cX5_rates 63 = .ok (.putfield 17, 3) := by decide +kernel
theorem dX5_rates_66 : decode cX5_rates 66 = .ok (.aload_n 0, 1) := by decide +kernel
theorem dX5_rates_67 : decode cX5_rates 67 = .ok (.dload 5, 2) := by decide +kernel
theorem dX5_rates_69 : decode cX5_rates 69 = .ok (.putfield 20, 3) := by decide +kernel
theorem dX5_rates_72 : decode cX5_rates 72 = .ok (.aload_n 0, 1) := by decide +kernel
theorem dX5_rates_73 : decode cX5_rates 73 = .ok (.iconst 0, 1) := by decide +kernel
theorem dX5_rates_74 : decode cX5_rates 74 = .ok (.putfield 72, 3) := by decide +kernel
theorem dX5_rates_77 : decode cX5_rates 77 = .ok (.return_, 1) := by decide +kernel
set_option maxRecDepth 20000 in
theorem ggX5_brace_X5_noCell : GoodIn wsX5_brace wsX5_noCell := goodIn_r _ [12, 13, 14, 18, 19, 20, 21, 22, 23, 24, 25, 26, 27, 28, 29, 30, 31, 32, 33, 34, 35, 36] (by decide +kernel) (by decide +kernel)
set_option maxRecDepth 20000 in
theorem gX5_brace_X5_noCell : GoodIn wsX5_brace (wsV RX5 60 RX5 yX5_noCell wsX5_noCell) := goodIn_app (goodIn_of _ (by decide +kernel)) ggX5_brace_X5_noCell
set_option maxRecDepth 20000 in
theorem ggX5_brace_X5_between : GoodIn wsX5_brace wsX5_between := goodIn_r _ [17] (by decide +kernel) (by decide +kernel)
set_option maxRecDepth 20000 in
theorem gX5_brace_X5_between : GoodIn wsX5_brace (va_wsS RX5 68 yX5_between wsX5_between) := goodIn_app (goodIn_of _ (by decide +kernel)) ggX5_brace_X5_between
theorem dX5_brace_0 : decode cX5_brace 0 = .ok (.iload_n 1, 1) := by decide +kernel
theorem dX5_brace_1 : decode cX5_brace 1 = .ok (.iload_n 3, 1) := by decide +kernel
theorem dX5_brace_2 : decode cX5_brace 2 = .ok (.if_icmp .ne 7, 3) := by decide +kernel
theorem dX5_brace_5 : decode cX5_brace 5 = .ok (.iconst 1, 1) := by decide +kernel
theorem dX5_brace_6 : decode cX5_brace 6 = .ok (.goto 4, 3) := by decide +kernel
theorem dX5_brace_9 : decode cX5_brace 9 = .ok (.iconst 0, 1) := by decide +kernel
theorem dX5_brace_10 : decode cX5_brace 10 = .ok (.iload_n 2, 1) := by decide +kernel
theorem dX5_brace_11 : decode cX5_brace 11 = .ok (.iload 4, 2) := by decide +kernel
theorem dX5_brace_13 : decode cX5_brace 13 = .ok (.if_icmp .ne 7, 3) := by decide +kernel
theorem dX5_brace_16 : decode cX5_brace 16 = .ok (.iconst 1, 1) := by decide +kernel
theorem dX5_brace_17 : decode cX5_brace 17 = .ok (.goto 4, 3) := by decide +kernel
theorem dX5_brace_20 : decode cX5_brace 20 = .ok (.iconst 0, 1) := by decide +kernel
theorem dX5_brace_21 : decode cX5_brace 21 = .ok (.if_icmp .eq 7, 3) := by decide +kernel
theorem dX5_brace_24 : decode cX5_brace 24 = .ok (.iconst 1, 1) := by decide +kernel
theorem dX5_brace_25 : decode cX5_brace 25 = .ok (.goto 4, 3) := by decide +kernel
theorem dX5_brace_28 : decode cX5_brace 28 = .ok (.iconst 0, 1) := by decide +kernel
theorem dX5_brace_29 : decode cX5_brace 29 = .ok (.istore 7, 2) := by decide +kernel
theorem dX5_brace_31 : decode cX5_brace 31 = .ok (.aload_n 0, 1) := by decide +kernel
theorem dX5_brace_32 : decode cX5_brace 32 = .ok (.aload_n 0, 1) := by decide +kernel
theorem dX5_brace_33 : decode cX5_brace 33 = .ok (.iload_n 1, 1) := by decide +kernel
theorem dX5_brace_34 : decode cX5_brace 34 = .ok (.iload_n 2, 1) := by decide +kernel
theorem dX5_brace_35 : decode cX5_brace 35 = .ok (.invokevirtual 60, 3) := by decide +kernel
theorem dX5_brace_38 : decode cX5_brace 38 = .ok (.ifCond .ne 13, 3) := by decide +kernel
theorem dX5_brace_41 : decode cX5_brace 41 = .ok (.aload_n 0, 1) := by decide +kernel
theorem dX5_brace_42 : decode cX5_brace 42 = .ok (.iload_n 3, 1) := by decide +kernel
theorem dX5_brace_43 : decode cX5_brace 43 = .ok (.iload 4, 2) := by decide +kernel
theorem dX5_brace_45 : decode cX5_brace 45 = .ok (.invokevirtual 60, 3) := by decide +kernel
theorem dX5_brace_48 : decode cX5_brace 48 = .ok (.ifCond .eq 7, 3) := by decide +kernel
theorem dX5_brace_51 : decode cX5_brace 51 = .ok (.iconst 1, 1) := by decide +kernel
theorem dX5_brace_52 : decode cX5_brace 52 = .ok (.goto 40, 3) := by decide +kernel
theorem dX5_brace_55 : decode cX5_brace 55 = .ok (.iload 7, 2) := by decide +kernel
theorem dX5_brace_57 : decode cX5_brace 57 = .ok (.ifCond .eq 17, 3) := by decide +kernel
theorem dX5_brace_60 : decode cX5_brace 60 = .ok (.dload 5, 2) := by decide +kernel
theorem dX5_brace_62 : decode cX5_brace 62 = .ok (.ldc2_w 64, 3) := by decide +kernel
theorem dX5_brace_65 : decode cX5_brace 65 = .ok (.ldc2_w 66, 3) := by decide +kernel
theorem dX5_brace_68 : decode cX5_brace 68 = .ok (.invokestatic 68, 3) := by decide +kernel
theorem dX5_brace_71 : decode cX5_brace 71 = .ok (.ifCond .ne 7, 3) := by decide +kernel
theorem dX5_brace_74 : decode cX5_brace 74 = .ok (.iconst 2, 1) := by decide +kernel
theorem dX5_brace_75 : decode cX5_brace 75 = .ok (.goto 17, 3) := by decide +kernel
theorem dX5_brace_78 : decode cX5_brace 78 = .ok (.aload_n 0, 1) := by decide +kernel
theorem dX5_brace_79 : decode cX5_brace 79 = .ok (.getfield 76, 3) := by decide +kernel
theorem dX5_brace_82 : decode cX5_brace 82 = .ok (.bipush 12, 2) := by decide +kernel
theorem dX5_brace_84 : decode cX5_brace 84 = .ok (.if_icmp .ne 7, 3) := by decide +kernel
theorem dX5_brace_87 : decode cX5_brace 87 = .ok (.iconst 3, 1) := by decide +kernel
theorem dX5_brace_88 : decode cX5_brace 88 = .ok (.goto 4, 3) := by decide +kernel
theorem dX5_brace_91 : decode cX5_brace 91 = .ok (.iconst 0, 1) := by decide +kernel
theorem dX5_brace_92 : decode cX5_brace 92 = .ok (.putfield 55, 3) := by decide +kernel
theorem dX5_brace_95 : decode cX5_brace 95 = .ok (.aload_n 0, 1) := by decide +kernel
theorem dX5_brace_96 : decode cX5_brace 96 = .ok (.getfield 55, 3) := by decide +kernel
theorem dX5_brace_99 : decode cX5_brace 99 = .ok (.ifCond .le 5, 3) := by decide +kernel
theorem dX5_brace_102 : decode cX5_brace 102 = .ok (.iconst 0, 1) := by decide +kernel
theorem dX5_brace_103 : decode cX5_brace 103 = .ok (.ireturn, 1) := by decide +kernel
theorem dX5_brace_104 : decode cX5_brace 104 = .ok (.aload_n 0, 1) := by decide +kernel
theorem dX5_brace_105 : decode cX5_brace 105 = .ok (.getfield 23, 3) := by decide +kernel
theorem dX5_brace_108 : decode cX5_brace 108 = .ok (.iconst 4, 1) := by decide +kernel
theorem dX5_brace_109 : decode cX5_brace 109 = .ok (.aload_n 0, 1) := by decide +kernel
theorem dX5_brace_110 : decode cX5_brace 110 = .ok (.getfield 76, 3) := by decide +kernel
theorem dX5_brace_113 : decode cX5_brace 113 = .ok (.imul, 1) := by decide +kernel
theorem dX5_brace_114 : decode cX5_brace 114 = .ok (.iload_n 1, 1) := by decide +kernel
theorem dX5_brace_115 : decode cX5_brace 115 = .ok (.iload_n 3, 1) := by decide +kernel
theorem dX5_brace_116 : decode cX5_brace 116 = .ok (.if_icmp .ge 7, 3) := by decide +kernel
theorem dX5_brace_119 : decode cX5_brace 119 = .ok (.iload_n 1, 1) := by decide +kernel
theorem dX5_brace_120 : decode cX5_brace 120 = .ok (.goto 4, 3) := by decide +kernel
theorem dX5_brace_123 : decode cX5_brace 123 = .ok (.iload_n 3, 1) := by decide +kernel
theorem dX5_brace_124 : decode cX5_brace 124 = .ok (.iastore, 1) := by decide +kernel
theorem dX5_brace_125 : decode cX5_brace 125 = .ok (.aload_n 0, 1) := by decide +kernel
theorem dX5_brace_126 : decode cX5_brace 126 = .ok (.getfield 23, 3) := by decide +kernel
theorem dX5_brace_129 : decode cX5_brace 129 = .ok (.iconst 4, 1) := by decide +kernel
theorem dX5_brace_130 : decode cX5_brace 130 = .ok (.aload_n 0, 1) := by decide +kernel
theorem dX5_brace_131 : decode cX5_brace 131 = .ok (.getfield 76, 3) := by decide +kernel
theorem dX5_brace_134 : decode cX5_brace 134 = .ok (.imul, 1) := by decide +kernel
theorem dX5_brace_135 : decode cX5_brace 135 = .ok (.iconst 1, 1) := by decide +kernel
theorem dX5_brace_136 : decode cX5_brace 136 = .ok (.iadd, 1) := by decide +kernel
theorem dX5_brace_137 : decode cX5_brace 137 = .ok (.iload_n 2, 1) := by decide +kernel
theorem dX5_brace_138 : decode cX5_brace 138 = .ok (.iload 4, 2) := by decide +kernel
theorem dX5_brace_140 : decode cX5_brace 140 = .ok (.if_icmp .ge 7, 3) := by decide +kernel
theorem dX5_brace_143 : decode cX5_brace 143 = .ok (.iload_n 2, 1) := by decide +kernel
theorem dX5_brace_144 : decode cX5_brace 144 = .ok (.goto 5, 3) := by decide +kernel
theorem dX5_brace_147 : decode cX5_brace 147 = .ok (.iload 4, 2) := by decide +kernel
theorem dX5_brace_149 : decode cX5_brace 149 = .ok (.iastore, 1) := by decide +kernel
theorem dX5_brace_150 : decode cX5_brace 150 = .ok (.aload_n 0, 1) := by decide +kernel
theorem dX5_brace_151 : decode cX5_brace 151 = .ok (.getfield 23, 3) := by decide +kernel
theorem dX5_brace_154 : decode cX5_brace 154 = .ok (.iconst 4, 1) := by decide +kernel
theorem dX5_brace_155 : decode cX5_brace 155 = .ok (.aload_n 0, 1) := by decide +kernel
theorem dX5_brace_156 : decode cX5_brace 156 = .ok (.getfield 76, 3) := by decide +kernel
theorem dX5_brace_159 : decode cX5_brace 159 = .ok (.imul, 1) := by decide +kernel
theorem dX5_brace_160 : decode cX5_brace 160 = .ok (.iconst 2, 1) := by decide +kernel
theorem dX5_brace_161 : decode cX5_brace 161 = .ok (.iadd, 1) := by decide +kernel
theorem dX5_brace_162 : decode cX5_brace 162 = .ok (.iload_n 1, 1) := by decide +kernel
theorem dX5_brace_163 : decode cX5_brace 163 = .ok (.iload_n 3, 1) := by decide +kernel
theorem dX5_brace_164 : decode cX5_brace 164 = .ok (.if_icmp .ge 7, 3) := by decide +kernel
theorem dX5_brace_167 : decode cX5_brace 167 = .ok (.iload_n 3, 1) := by decide +kernel
theorem dX5_brace_168 : decode cX5_brace 168 = .ok (.goto 4, 3) := by decide +kernel
theorem dX5_brace_171 : decode cX5_brace 171 = .ok (.iload_n 1, 1) := by decide +kernel
theorem dX5_brace_172 : decode cX5_brace 172 = .ok (.iastore, 1) := by decide +kernel
theorem dX5_brace_173 : decode cX5_brace 173 = .ok (.aload_n 0, 1) := by decide +kernel
theorem dX5_brace_174 : decode cX5_brace 174 = .ok (.getfield 23, 3) := by decide +kernel
theorem dX5_brace_177 : decode cX5_brace 177 = .ok (.iconst 4, 1) := by decide +kernel
theorem dX5_brace_178 : decode cX5_brace 178 = .ok (.aload_n 0, 1) := by decide +kernel
theorem dX5_brace_179 : decode cX5_brace 179 = .ok (.getfield 76, 3) := by decide +kernel
theorem dX5_brace_182 : decode cX5_brace 182 = .ok (.imul, 1) := by decide +kernel
theorem dX5_brace_183 : decode cX5_brace 183 = .ok (.iconst 3, 1) := by decide +kernel
theorem dX5_brace_184 : decode cX5_brace 184 = .ok (.iadd, 1) := by decide +kernel
theorem dX5_brace_185 : decode cX5_brace 185 = .ok (.iload_n 2, 1) := by decide +kernel
theorem dX5_brace_186 : decode cX5_brace 186 = .ok (.iload 4, 2) := by decide +kernel
theorem dX5_brace_188 : decode cX5_brace 188 = .ok (.if_icmp .ge 8, 3) := by decide +kernel
theorem dX5_brace_191 : decode cX5_brace 191 = .ok (.iload 4, 2) := by decide +kernel
theorem dX5_brace_193 : decode cX5_brace 193 = .ok (.goto 4, 3) := by decide +kernel
theorem dX5_brace_196 : decode cX5_brace 196 = .ok (.iload_n 2, 1) := by decide +kernel
theorem dX5_brace_197 : decode cX5_brace 197 = .ok (.iastore, 1) := by decide +kernel
theorem dX5_brace_198 : decode cX5_brace 198 = .ok (.aload_n 0, 1) := by decide +kernel
theorem dX5_brace_199 : decode cX5_brace 199 = .ok (.getfield 27, 3) := by decide +kernel
theorem dX5_brace_202 : decode cX5_brace 202 = .ok (.aload_n 0, 1) := by decide +kernel
theorem dX5_brace_203 : decode cX5_brace 203 = .ok (.getfield 76, 3) := by decide +kernel
theorem dX5_brace_206 : decode cX5_brace 206 = .ok (.dload 5, 2) := by decide +kernel
theorem dX5_brace_208 : decode cX5_brace 208 = .ok (.dastore, 1) := by decide +kernel
theorem dX5_brace_209 : decode cX5_brace 209 = .ok (.aload_n 0, 1) := by decide +kernel
theorem dX5_brace_210 : decode cX5_brace 210 = .ok (.dup, 1) := by decide +kernel
theorem dX5_brace_211 : decode cX5_brace 211 = .ok (.getfield 76, 3) := by decide +kernel
theorem dX5_brace_214 : decode cX5_brace 214 = .ok (.iconst 1, 1) := by decide +kernel
theorem dX5_brace_215 : decode cX5_brace 215 = .ok (.iadd, 1) := by decide +kernel
theorem dX5_brace_216 : decode cX5_brace 216 = .ok (.putfield 76, 3) := by decide +kernel
theorem dX5_brace_219 : decode cX5_brace 219 = .ok (.aload_n 0, 1) := by decide +kernel
theorem dX5_brace_220 : decode cX5_brace 220 = .ok (.iconst 0, 1) := by decide +kernel
theorem dX5_brace_221 : decode cX5_brace 221 = .ok (.putfield 72, 3) := by decide +kernel
theorem dX5_brace_224 : decode cX5_brace 224 = .ok (.aload_n 0, 1) := by decide +kernel
theorem dX5_brace_225 : decode cX5_brace 225 = .ok (.getfield 76, 3) := by decide +kernel
theorem dX5_brace_228 : decode cX5_brace 228 = .ok (.ireturn, 1) := by decide +kernel
set_option maxRecDepth 20000 in
theorem ggX5_modes_X5_makeAll : GoodIn wsX5_modes wsX5_makeAll := goodIn_r _ [7, 2, 8, 9, 10, 11, 6, 12, 13, 14, 15, 16, 17, 18, 19, 20, 21, 22, 23, 24, 25, 26, 27, 28, 29, 30, 31, 32, 33, 34, 35, 36, 37, 38, 39, 40, 41, 42, 43, 44, 45, 46, 47, 48, 49, 50, 51, 52, 53, 54, 55, 56, 57, 58, 59, 60, 61, 62, 63, 64, 65, 66, 67, 68, 69, 70, 71, 72, 73, 74, 75, 76, 77, 78, 79, 80, 81, 82] (by decide +kernel) (by decide +kernel)
set_option maxRecDepth 20000 in
theorem gX5_modes_X5_makeAll : GoodIn wsX5_modes (wsV RX5 122 RX5 yX5_makeAll wsX5_makeAll) := goodIn_app (goodIn_of _ (by decide +kernel)) ggX5_modes_X5_makeAll
theorem dX5_modes_0 : decode cX5_modes 0 = .ok (.aload_n 0, 1) := by decide +kernel
theorem dX5_modes_1 : decode cX5_modes 1 = .ok (.iload_n 1, 1) := by decide +kernel
theorem dX5_modes_2 : decode cX5_modes 2 = .ok (.iconst 1, 1) := by decide +kernel
theorem dX5_modes_3 : decode cX5_modes 3 = .ok (.if_icmp .lt 8, 3) := by decide +kernel
theorem dX5_modes_6 : decode cX5_modes 6 = .ok (.iload_n 1, 1) := by decide +kernel
theorem dX5_modes_7 : decode cX5_modes 7 = .ok (.iconst 4, 1) := by decide +kernel
theorem dX5_modes_8 : decode cX5_modes 8 = .ok (.if_icmp .le 7, 3) := by decide +kernel
theorem dX5_modes_11 : decode cX5_modes 11 = .ok (.iconst 1, 1) := by decide +kernel
theorem dX5_modes_12 : decode cX5_modes 12 = .ok (.goto 4, 3) := by decide +kernel
theorem dX5_modes_15 : decode cX5_modes 15 = .ok (.iconst 0, 1) := by decide +kernel
theorem dX5_modes_16 : decode cX5_modes 16 = .ok (.putfield 55, 3) := by decide +kernel
theorem dX5_modes_19 : decode cX5_modes 19 = .ok (.aload_n 0, 1) := by decide +kernel
theorem dX5_modes_20 : decode cX5_modes 20 = .ok (.getfield 55, 3) := by decide +kernel
theorem dX5_modes_23 : decode cX5_modes 23 = .ok (.ifCond .le 5, 3) := by decide +kernel
theorem dX5_modes_26 : decode cX5_modes 26 = .ok (.iconst 0, 1) := by decide +kernel
theorem dX5_modes_27 : decode cX5_modes 27 = .ok (.ireturn, 1) := by decide +kernel
theorem dX5_modes_28 : decode cX5_modes 28 = .ok (.aload_n 0, 1) := by decide +kernel
theorem dX5_modes_29 : decode cX5_modes 29 = .ok (.iload_n 1, 1) := by decide +kernel
theorem dX5_modes_30 : decode cX5_modes 30 = .ok (.invokevirtual 122, 3) := by decide +kernel
theorem dX5_modes_33 : decode cX5_modes 33 = .ok (.aload_n 0, 1) := by decide +kernel
theorem dX5_modes_34 : decode cX5_modes 34 = .ok (.getfield 116, 3) := by decide +kernel
theorem dX5_modes_37 : decode cX5_modes 37 = .ok (.ireturn, 1) := by decide +kernel
set_option maxRecDepth 20000 in
theorem ggX5_mode_X5_noMode : GoodIn wsX5_mode wsX5_noMode := goodIn_r _ [7] (by decide +kernel) (by decide +kernel)
set_option maxRecDepth 20000 in
theorem gX5_mode_X5_noMode : GoodIn wsX5_mode (wsV RX5 126 RX5 yX5_noMode wsX5_noMode) := goodIn_app (goodIn_of _ (by decide +kernel)) ggX5_mode_X5_noMode
set_option maxRecDepth 20000 in
theorem ggX5_mode_X5_check : GoodIn wsX5_mode wsX5_check := goodIn_r _ [11, 12, 13, 42, 43, 44, 45, 46, 47, 48, 49, 50, 51, 52, 53, 54, 55, 56, 57, 58, 59, 60] (by decide +kernel) (by decide +kernel)
set_option maxRecDepth 20000 in
theorem gX5_mode_X5_check : GoodIn wsX5_mode (wsV RX5 129 RX5 yX5_check wsX5_check) := goodIn_app (goodIn_of _ (by decide +kernel)) ggX5_mode_X5_check
set_option maxRecDepth 20000 in
theorem ggX5_mode_X5_residue : GoodIn wsX5_mode wsX5_residue := goodIn_r _ [17, 18, 19, 2, 20, 21, 22, 23, 6, 24, 25, 26, 27, 28, 29, 30, 31, 32, 33, 34, 35, 36, 37, 42, 43, 44, 45, 46, 47, 48, 49, 50, 51, 52, 53, 54, 55, 56, 57, 58, 59, 60] (by decide +kernel) (by decide +kernel)
set_option maxRecDepth 20000 in
theorem gX5_mode_X5_residue : GoodIn wsX5_mode (wsV RX5 133 RX5 yX5_residue wsX5_residue) := goodIn_app (goodIn_of _ (by decide +kernel)) ggX5_mode_X5_residue
set_option maxRecDepth 20000 in
theorem ggX5_mode_X5_sumOf : GoodIn wsX5_mode wsX5_sumOf := goodIn_r _ [41, 18, 19, 20, 34, 35, 36, 6, 37, 32, 42, 43, 44, 45, 46, 47, 48, 49, 50, 51, 52, 53, 54, 55, 56, 57, 58, 59, 60] (by decide +kernel) (by decide +kernel)
set_option maxRecDepth 20000 in
theorem gX5_mode_X5_sumOf : GoodIn wsX5_mode (wsV RX5 136 RX5 yX5_sumOf wsX5_sumOf) := goodIn_app (goodIn_of _ (by decide +kernel)) ggX5_mode_X5_sumOf
theorem dX5_mode_0 : decode cX5_mode 0 = .ok (.aload_n 0, 1) := by decide +kernel
theorem dX5_mode_1 : decode cX5_mode 1 = .ok (.aload_n 0, 1) := by decide +kernel
theorem dX5_mode_2 : decode cX5_mode 2 = .ok (.aload_n 0, 1) := by decide +kernel
theorem dX5_mode_3 : decode cX5_mode 3 = .ok (.iload_n 1, 1) := by decide +kernel
theorem dX5_mode_4 : decode cX5_mode 4 = .ok (.invokevirtual 126, 3) := by decide +kernel
theorem dX5_mode_7 : decode cX5_mode 7 = .ok (.ifCond .ne 16, 3) := by decide +kernel
theorem dX5_mode_10 : decode cX5_mode 10 = .ok (.iload_n 2, 1) := by decide +kernel
theorem dX5_mode_11 : decode cX5_mode 11 = .ok (.ifCond .lt 12, 3) := by decide +kernel
theorem dX5_mode_14 : decode cX5_mode 14 = .ok (.iload_n 2, 1) := by decide +kernel
theorem dX5_mode_15 : decode cX5_mode 15 = .ok (.iconst 2, 1) := by decide +kernel
theorem dX5_mode_16 : decode cX5_mode 16 = .ok (.if_icmp .gt 7, 3) := by decide +kernel
theorem dX5_mode_19 : decode cX5_mode 19 = .ok (.iconst 1, 1) := by decide +kernel
theorem dX5_mode_20 : decode cX5_mode 20 = .ok (.goto 4, 3) := by decide +kernel
theorem dX5_mode_23 : decode cX5_mode 23 = .ok (.iconst 0, 1) := by decide +kernel
theorem dX5_mode_24 : decode cX5_mode 24 = .ok (.iload_n 1, 1) := by decide +kernel
theorem dX5_mode_25 : decode cX5_mode 25 = .ok (.invokevirtual 129, 3) := by decide +kernel
theorem dX5_mode_28 : decode cX5_mode 28 = .ok (.putfield 55, 3) := by decide +kernel
theorem dX5_mode_31 : decode cX5_mode 31 = .ok (.aload_n 0, 1) := by decide +kernel
theorem dX5_mode_32 : decode cX5_mode 32 = .ok (.getfield 55, 3) := by decide +kernel
theorem dX5_mode_35 : decode cX5_mode 35 = .ok (.ifCond .le 7, 3) := by decide +kernel
theorem dX5_mode_38 : decode cX5_mode 38 = .ok (.dconst 0, 1) := by decide +kernel
theorem dX5_mode_39 : decode cX5_mode 39 = .ok (.goto 34, 3) := by decide +kernel
theorem dX5_mode_42 : decode cX5_mode 42 = .ok (.iload_n 2, 1) := by decide +kernel
theorem dX5_mode_43 : decode cX5_mode 43 = .ok (.ifCond .ne 12, 3) := by decide +kernel
theorem dX5_mode_46 : decode cX5_mode 46 = .ok (.aload_n 0, 1) := by decide +kernel
theorem dX5_mode_47 : decode cX5_mode 47 = .ok (.getfield 39, 3) := by decide +kernel
theorem dX5_mode_50 : decode cX5_mode 50 = .ok (.iload_n 1, 1) := by decide +kernel
theorem dX5_mode_51 : decode cX5_mode 51 = .ok (.daload, 1) := by decide +kernel
theorem dX5_mode_52 : decode cX5_mode 52 = .ok (.goto 21, 3) := by decide +kernel
theorem dX5_mode_55 : decode cX5_mode 55 = .ok (.iload_n 2, 1) := by decide +kernel
theorem dX5_mode_56 : decode cX5_mode 56 = .ok (.iconst 1, 1) := by decide +kernel
theorem dX5_mode_57 : decode cX5_mode 57 = .ok (.if_icmp .ne 11, 3) := by decide +kernel
theorem dX5_mode_60 : decode cX5_mode 60 = .ok (.aload_n 0, 1) := by decide +kernel
theorem dX5_mode_61 : decode cX5_mode 61 = .ok (.iload_n 1, 1) := by decide +kernel
theorem dX5_mode_62 : decode cX5_mode 62 = .ok (.invokevirtual 133, 3) := by decide +kernel
theorem dX5_mode_65 : decode cX5_mode 65 = .ok (.goto 8, 3) := by decide +kernel
theorem dX5_mode_68 : decode cX5_mode 68 = .ok (.aload_n 0, 1) := by decide +kernel
theorem dX5_mode_69 : decode cX5_mode 69 = .ok (.iload_n 1, 1) := by decide +kernel
theorem dX5_mode_70 : decode cX5_mode 70 = .ok (.invokevirtual 136, 3) := by decide +kernel
theorem dX5_mode_73 : decode cX5_mode 73 = .ok (.dreturn, 1) := by decide +kernel
set_option maxRecDepth 20000 in
theorem ggX5_shape_X5_noMode : GoodIn wsX5_shape wsX5_noMode := goodIn_r _ [7] (by decide +kernel) (by decide +kernel)
set_option maxRecDepth 20000 in
theorem gX5_shape_X5_noMode : GoodIn wsX5_shape (wsV RX5 126 RX5 yX5_noMode wsX5_noMode) := goodIn_app (goodIn_of _ (by decide +kernel)) ggX5_shape_X5_noMode
set_option maxRecDepth 20000 in
theorem ggX5_shape_X5_noCell : GoodIn wsX5_shape wsX5_noCell := goodIn_r _ [11, 12, 13, 20, 21, 22, 23, 24, 25, 26, 27, 28, 29, 30, 31, 32, 33, 34, 35, 36, 37, 38] (by decide +kernel) (by decide +kernel)
set_option maxRecDepth 20000 in
theorem gX5_shape_X5_noCell : GoodIn wsX5_shape (wsV RX5 60 RX5 yX5_noCell wsX5_noCell) := goodIn_app (goodIn_of _ (by decide +kernel)) ggX5_shape_X5_noCell
set_option maxRecDepth 20000 in
theorem ggX5_shape_X5_check : GoodIn wsX5_shape wsX5_check := goodIn_r _ [17, 18, 19, 20, 21, 22, 23, 24, 25, 26, 27, 28, 29, 30, 31, 32, 33, 34, 35, 36, 37, 38] (by decide +kernel) (by decide +kernel)
set_option maxRecDepth 20000 in
theorem gX5_shape_X5_check : GoodIn wsX5_shape (wsV RX5 129 RX5 yX5_check wsX5_check) := goodIn_app (goodIn_of _ (by decide +kernel)) ggX5_shape_X5_check
theorem dX5_shape_0 : decode cX5_shape 0 = .ok (.aload_n 0, 1) := by decide +kernel
theorem dX5_shape_1 : decode cX5_shape 1 = .ok (.aload_n 0, 1) := by decide +kernel
theorem dX5_shape_2 : decode cX5_shape 2 = .ok (.aload_n 0, 1) := by decide +kernel
theorem dX5_shape_3 : decode cX5_shape 3 = .ok (.iload_n 1, 1) := by decide +kernel
theorem dX5_shape_4 : decode cX5_shape 4 = .ok (.invokevirtual 126, 3) := by decide +kernel
theorem dX5_shape_7 : decode cX5_shape 7 = .ok (.ifCond .ne 16, 3) := by decide +kernel
theorem dX5_shape_10 : decode cX5_shape 10 = .ok (.aload_n 0, 1) := by decide +kernel
theorem dX5_shape_11 : decode cX5_shape 11 = .ok (.iload_n 2, 1) := by decide +kernel
theorem dX5_shape_12 : decode cX5_shape 12 = .ok (.iload_n 3, 1) := by decide +kernel
theorem dX5_shape_13 : decode cX5_shape 13 = .ok (.invokevirtual 60, 3) := by decide +kernel
theorem dX5_shape_16 : decode cX5_shape 16 = .ok (.ifCond .ne 7, 3) := by decide +kernel
theorem dX5_shape_19 : decode cX5_shape 19 = .ok (.iconst 1, 1) := by decide +kernel
theorem dX5_shape_20 : decode cX5_shape 20 = .ok (.goto 4, 3) := by decide +kernel
theorem dX5_shape_23 : decode cX5_shape 23 = .ok (.iconst 0, 1) := by decide +kernel
theorem dX5_shape_24 : decode cX5_shape 24 = .ok (.iload_n 1, 1) := by decide +kernel
theorem dX5_shape_25 : decode cX5_shape 25 = .ok (.invokevirtual 129, 3) := by decide +kernel
theorem dX5_shape_28 : decode cX5_shape 28 = .ok (.putfield 55, 3) := by decide +kernel
theorem dX5_shape_31 : decode cX5_shape 31 = .ok (.aload_n 0, 1) := by decide +kernel
theorem dX5_shape_32 : decode cX5_shape 32 = .ok (.getfield 55, 3) := by decide +kernel
theorem dX5_shape_35 : decode cX5_shape 35 = .ok (.ifCond .le 7, 3) := by decide +kernel
theorem dX5_shape_38 : decode cX5_shape 38 = .ok (.dconst 0, 1) := by decide +kernel
theorem dX5_shape_39 : decode cX5_shape 39 = .ok (.goto 19, 3) := by decide +kernel
theorem dX5_shape_42 : decode cX5_shape 42 = .ok (.aload_n 0, 1) := by decide +kernel
theorem dX5_shape_43 : decode cX5_shape 43 = .ok (.getfield 36, 3) := by decide +kernel
theorem dX5_shape_46 : decode cX5_shape 46 = .ok (.bipush 36, 2) := by decide +kernel
theorem dX5_shape_48 : decode cX5_shape 48 = .ok (.iload_n 1, 1) := by decide +kernel
theorem dX5_shape_49 : decode cX5_shape 49 = .ok (.imul, 1) := by decide +kernel
theorem dX5_shape_50 : decode cX5_shape 50 = .ok (.bipush 6, 2) := by decide +kernel
theorem dX5_shape_52 : decode cX5_shape 52 = .ok (.iload_n 3, 1) := by decide +kernel
theorem dX5_shape_53 : decode cX5_shape 53 = .ok (.imul, 1) := by decide +kernel
theorem dX5_shape_54 : decode cX5_shape 54 = .ok (.iadd, 1) := by decide +kernel
theorem dX5_shape_55 : decode cX5_shape 55 = .ok (.iload_n 2, 1) := by decide +kernel
theorem dX5_shape_56 : decode cX5_shape 56 = .ok (.iadd, 1) := by decide +kernel
theorem dX5_shape_57 : decode cX5_shape 57 = .ok (.daload, 1) := by decide +kernel
theorem dX5_shape_58 : decode cX5_shape 58 = .ok (.dreturn, 1) := by decide +kernel
set_option maxRecDepth 20000 in
theorem ggX5_product_X5_noMode : GoodIn wsX5_product wsX5_noMode := goodIn_r _ [6] (by decide +kernel) (by decide +kernel)
set_option maxRecDepth 20000 in
theorem gX5_product_X5_noMode : GoodIn wsX5_product (wsV RX5 126 RX5 yX5_noMode wsX5_noMode) := goodIn_app (goodIn_of _ (by decide +kernel)) ggX5_product_X5_noMode
set_option maxRecDepth 20000 in
theorem ggX5_product_X5_check : GoodIn wsX5_product wsX5_check := goodIn_r _ [10, 11, 12, 30, 31, 32, 33, 34, 35, 36, 37, 38, 39, 40, 41, 42, 43, 44, 45, 46, 47, 48] (by decide +kernel) (by decide +kernel)
set_option maxRecDepth 20000 in
theorem gX5_product_X5_check : GoodIn wsX5_product (wsV RX5 129 RX5 yX5_check wsX5_check) := goodIn_app (goodIn_of _ (by decide +kernel)) ggX5_product_X5_check
set_option maxRecDepth 20000 in
theorem ggX5_product_X5_productOf : GoodIn wsX5_product wsX5_productOf := goodIn_r _ [16, 17, 18, 19, 20, 21, 22, 5, 23, 24, 25, 26, 27, 28, 29, 30, 31, 32, 33, 34, 35, 36, 37, 38, 39, 40, 41, 42, 43, 44, 45, 46, 47, 48] (by decide +kernel) (by decide +kernel)
set_option maxRecDepth 20000 in
theorem gX5_product_X5_productOf : GoodIn wsX5_product (wsV RX5 103 RX5 yX5_productOf wsX5_productOf) := goodIn_app (goodIn_of _ (by decide +kernel)) ggX5_product_X5_productOf
theorem dX5_product_0 : decode cX5_product 0 = .ok (.aload_n 0, 1) := by decide +kernel
theorem dX5_product_1 : decode cX5_product 1 = .ok (.aload_n 0, 1) := by decide +kernel
theorem dX5_product_2 : decode cX5_product 2 = .ok (.aload_n 0, 1) := by decide +kernel
theorem dX5_product_3 : decode cX5_product 3 = .ok (.iload_n 1, 1) := by decide +kernel
theorem dX5_product_4 : decode cX5_product 4 = .ok (.invokevirtual 126, 3) := by decide +kernel
theorem dX5_product_7 : decode cX5_product 7 = .ok (.ifCond .ne 15, 3) := by decide +kernel
theorem dX5_product_10 : decode cX5_product 10 = .ok (.aload_n 0, 1) := by decide +kernel
theorem dX5_product_11 : decode cX5_product 11 = .ok (.iload_n 2, 1) := by decide +kernel
theorem dX5_product_12 : decode cX5_product 12 = .ok (.invokevirtual 126, 3) := by decide +kernel
theorem dX5_product_15 : decode cX5_product 15 = .ok (.ifCond .ne 7, 3) := by decide +kernel
theorem dX5_product_18 : decode cX5_product 18 = .ok (.iconst 1, 1) := by decide +kernel
theorem dX5_product_19 : decode cX5_product 19 = .ok (.goto 4, 3) := by decide +kernel
theorem dX5_product_22 : decode cX5_product 22 = .ok (.iconst 0, 1) := by decide +kernel
theorem dX5_product_23 : decode cX5_product 23 = .ok (.iload_n 1, 1) := by decide +kernel
theorem dX5_product_24 : decode cX5_product 24 = .ok (.iload_n 2, 1) := by decide +kernel
theorem dX5_product_25 : decode cX5_product 25 = .ok (.if_icmp .le 7, 3) := by decide +kernel
theorem dX5_product_28 : decode cX5_product 28 = .ok (.iload_n 1, 1) := by decide +kernel
theorem dX5_product_29 : decode cX5_product 29 = .ok (.goto 4, 3) := by decide +kernel
theorem dX5_product_32 : decode cX5_product 32 = .ok (.iload_n 2, 1) := by decide +kernel
theorem dX5_product_33 : decode cX5_product 33 = .ok (.invokevirtual 129, 3) := by decide +kernel
theorem dX5_product_36 : decode cX5_product 36 = .ok (.putfield 55, 3) := by decide +kernel
theorem dX5_product_39 : decode cX5_product 39 = .ok (.aload_n 0, 1) := by decide +kernel
theorem dX5_product_40 : decode cX5_product 40 = .ok (.getfield 55, 3) := by decide +kernel
theorem dX5_product_43 : decode cX5_product 43 = .ok (.ifCond .le 7, 3) := by decide +kernel
theorem dX5_product_46 : decode cX5_product 46 = .ok (.dconst 0, 1) := by decide +kernel
theorem dX5_product_47 : decode cX5_product 47 = .ok (.goto 9, 3) := by decide +kernel
theorem dX5_product_50 : decode cX5_product 50 = .ok (.aload_n 0, 1) := by decide +kernel
theorem dX5_product_51 : decode cX5_product 51 = .ok (.iload_n 1, 1) := by decide +kernel
theorem dX5_product_52 : decode cX5_product 52 = .ok (.iload_n 2, 1) := by decide +kernel
theorem dX5_product_53 : decode cX5_product 53 = .ok (.invokevirtual 103, 3) := by decide +kernel
theorem dX5_product_56 : decode cX5_product 56 = .ok (.dreturn, 1) := by decide +kernel
theorem dX5_mirrored_0 : decode cX5_mirrored 0 = .ok (.aload_n 0, 1) := by decide +kernel
theorem dX5_mirrored_1 : decode cX5_mirrored 1 = .ok (.iconst 0, 1) := by decide +kernel
theorem dX5_mirrored_2 : decode cX5_mirrored 2 = .ok (.putfield 55, 3) := by decide +kernel
theorem dX5_mirrored_5 : decode cX5_mirrored 5 = .ok (.iconst 1, 1) := by decide +kernel
theorem dX5_mirrored_6 : decode cX5_mirrored 6 = .ok (.istore_n 2, 1) := by decide +kernel
theorem dX5_mirrored_7 : decode cX5_mirrored 7 = .ok (.iconst 0, 1) := by decide +kernel
theorem dX5_mirrored_8 : decode cX5_mirrored 8 = .ok (.istore_n 3, 1) := by decide +kernel
theorem dX5_mirrored_9 : decode cX5_mirrored 9 = .ok (.iload_n 3, 1) := by decide +kernel
theorem dX5_mirrored_10 : decode cX5_mirrored 10 = .ok (.aload_n 0, 1) := by decide +kernel
theorem dX5_mirrored_11 : decode cX5_mirrored 11 = .ok (.getfield 52, 3) := by decide +kernel
theorem dX5_mirrored_14 : decode cX5_mirrored 14 = .ok (.if_icmp .ge 97, 3) := by decide +kernel
theorem dX5_mirrored_17 : decode cX5_mirrored 17 = .ok (.iconst 0, 1) := by decide +kernel
theorem dX5_mirrored_18 : decode cX5_mirrored 18 = .ok (.istore 4, 2) := by decide +kernel
theorem dX5_mirrored_20 : decode cX5_mirrored 20 = .ok (.iload 4, 2) := by decide +kernel
theorem dX5_mirrored_22 : decode cX5_mirrored 22 = .ok (.aload_n 0, 1) := by decide +kernel
theorem dX5_mirrored_23 : decode cX5_mirrored 23 = .ok (.getfield 48, 3) := by decide +kernel
theorem dX5_mirrored_26 : decode cX5_mirrored 26 = .ok (.if_icmp .ge 79, 3) := by decide +kernel
theorem dX5_mirrored_29 : decode cX5_mirrored 29 = .ok (.iload_n 1, 1) := by decide +kernel
theorem dX5_mirrored_30 : decode cX5_mirrored 30 = .ok (.ifCond .eq 20, 3) := by decide +kernel
theorem dX5_mirrored_33 : decode cX5_mirrored 33 = .ok (.bipush 6, 2) := by decide +kernel
theorem dX5_mirrored_35 : decode cX5_mirrored 35 = .ok (.iload_n 3, 1) := by decide +kernel
theorem dX5_mirrored_36 : decode cX5_mirrored 36 = .ok (.imul, 1) := by decide +kernel
theorem dX5_mirrored_37 : decode cX5_mirrored 37 = .ok (.aload_n 0, 1) := by decide +kernel
theorem dX5_mirrored_38 : decode cX5_mirrored 38 = .ok (.getfield 48, 3) := by decide +kernel
theorem dX5_mirrored_41 : decode cX5_mirrored 41 = .ok (.iadd, 1) := by decide +kernel
theorem dX5_mirrored_42 : decode cX5_mirrored 42 = .ok (.iconst 1, 1) := by decide +kernel
theorem dX5_mirrored_43 : decode cX5_mirrored 43 = .ok (.isub, 1) := by decide +kernel
theorem dX5_mirrored_44 : decode cX5_mirrored 44 = .ok (.iload 4, 2) := by decide +kernel
theorem dX5_mirrored_46 : decode cX5_mirrored 46 = .ok (.isub, 1) := by decide +kernel
theorem dX5_mirrored_47 : decode cX5_mirrored 47 = .ok (.goto 17, 3) := by decide +kernel
theorem dX5_mirrored_50 : decode cX5_mirrored 50 = .ok (.bipush 6, 2) := by decide +kernel
theorem dX5_mirrored_52 : decode cX5_mirrored 52 = .ok (.aload_n 0, 1) := by decide +kernel
theorem dX5_mirrored_53 : decode cX5_mirrored 53 = .ok (.getfield 52, 3) := by decide +kernel
theorem dX5_mirrored_56 : decode cX5_mirrored 56 = .ok (.iconst 1, 1) := by decide +kernel
theorem dX5_mirrored_57 : decode cX5_mirrored 57 = .ok (.isub, 1) := by decide +kernel
theorem dX5_mirrored_58 : decode cX5_mirrored 58 = .ok (.iload_n 3, 1) := by decide +kernel
theorem dX5_mirrored_59 : decode cX5_mirrored 59 = .ok (.isub, 1) := by decide +kernel
theorem dX5_mirrored_60 : decode cX5_mirrored 60 = .ok (.imul, 1) := by decide +kernel
theorem dX5_mirrored_61 : decode cX5_mirrored 61 = .ok (.iload 4, 2) := by decide +kernel
theorem dX5_mirrored_63 : decode cX5_mirrored 63 = .ok (.iadd, 1) := by decide +kernel
theorem dX5_mirrored_64 : decode cX5_mirrored 64 = .ok (.istore 5, 2) := by decide +kernel
theorem dX5_mirrored_66 : decode cX5_mirrored 66 = .ok (.iload_n 2, 1) := by decide +kernel
theorem dX5_mirrored_67 : decode cX5_mirrored 67 = .ok (.ifCond .eq 30, 3) := by decide +kernel
theorem dX5_mirrored_70 : decode cX5_mirrored 70 = .ok (.aload_n 0, 1) := by decide +kernel
theorem dX5_mirrored_71 : decode cX5_mirrored 71 = .ok (.getfield 7, 3) := by decide +kernel
theorem dX5_mirrored_74 : decode cX5_mirrored 74 = .ok (.bipush 6, 2) := by decide +kernel
theorem dX5_mirrored_76 : decode cX5_mirrored 76 = .ok (.iload_n 3, 1) := by decide +kernel
theorem dX5_mirrored_77 : decode cX5_mirrored 77 = .ok (.imul, 1) := by decide +kernel
theorem dX5_mirrored_78 : decode cX5_mirrored 78 = .ok (.iload 4, 2) := by decide +kernel
theorem dX5_mirrored_80 : decode cX5_mirrored 80 = .ok (.iadd, 1) := by decide +kernel
theorem dX5_mirrored_81 : decode cX5_mirrored 81 = .ok (.daload, 1) := by decide +kernel
theorem dX5_mirrored_82 : decode cX5_mirrored 82 = .ok (.aload_n 0, 1) := by decide +kernel
theorem dX5_mirrored_83 : decode cX5_mirrored 83 = .ok (.getfield 7, 3) := by decide +kernel
theorem dX5_mirrored_86 : decode cX5_mirrored 86 = .ok (.iload 5, 2) := by decide +kernel
theorem dX5_mirrored_88 : decode cX5_mirrored 88 = .ok (.daload, 1) := by decide +kernel
theorem dX5_mirrored_89 : decode cX5_mirrored 89 = .ok (.dcmp .l, 1) := by decide +kernel
theorem dX5_mirrored_90 : decode cX5_mirrored 90 = .ok (.ifCond .ne 7, 3) := by decide +kernel
theorem dX5_mirrored_93 : decode cX5_mirrored 93 = .ok (.iconst 1, 1) := by decide +kernel
theorem dX5_mirrored_94 : decode cX5_mirrored 94 = .ok (.goto 4, 3) := by decide +kernel
theorem dX5_mirrored_97 : decode cX5_mirrored 97 = .ok (.iconst 0, 1) := by decide +kernel
theorem dX5_mirrored_98 : decode cX5_mirrored 98 = .ok (.istore_n 2, 1) := by decide +kernel
theorem dX5_mirrored_99 : decode cX5_mirrored 99 = .ok (.iinc 4 1, 3) := by decide +kernel
theorem dX5_mirrored_102 : decode cX5_mirrored 102 = .ok (.goto (-82), 3) := by decide +kernel
theorem dX5_mirrored_105 : decode cX5_mirrored 105 = .ok (.iinc 3 1, 3) := by decide +kernel
theorem dX5_mirrored_108 : decode cX5_mirrored 108 = .ok (.goto (-99), 3) := by decide +kernel
theorem dX5_mirrored_111 : decode cX5_mirrored 111 = .ok (.iload_n 2, 1) := by decide +kernel
theorem dX5_mirrored_112 : decode cX5_mirrored 112 = .ok (.ireturn, 1) := by decide +kernel
set_option maxRecDepth 20000 in
theorem ggX5_coupled_X5_noMode : GoodIn wsX5_coupled wsX5_noMode := goodIn_r _ [12] (by decide +kernel) (by decide +kernel)
set_option maxRecDepth 20000 in
theorem gX5_coupled_X5_noMode : GoodIn wsX5_coupled (wsV RX5 126 RX5 yX5_noMode wsX5_noMode) := goodIn_app (goodIn_of _ (by decide +kernel)) ggX5_coupled_X5_noMode
set_option maxRecDepth 20000 in
theorem ggX5_coupled_X5_between : GoodIn wsX5_coupled wsX5_between := goodIn_r _ [15] (by decide +kernel) (by decide +kernel)
set_option maxRecDepth 20000 in
theorem gX5_coupled_X5_between : GoodIn wsX5_coupled (va_wsS RX5 68 yX5_between wsX5_between) := goodIn_app (goodIn_of _ (by decide +kernel)) ggX5_coupled_X5_between
set_option maxRecDepth 20000 in
theorem ggX5_coupled_X5_sumOf : GoodIn wsX5_coupled wsX5_sumOf := goodIn_r _ [19, 20, 21, 22, 23, 24, 25, 11, 26, 27, 31, 32, 33, 34, 35, 36, 37, 38, 39, 40, 41, 42, 43, 44, 45, 46, 47, 48, 49] (by decide +kernel) (by decide +kernel)
set_option maxRecDepth 20000 in
theorem gX5_coupled_X5_sumOf : GoodIn wsX5_coupled (wsV RX5 136 RX5 yX5_sumOf wsX5_sumOf) := goodIn_app (goodIn_of _ (by decide +kernel)) ggX5_coupled_X5_sumOf
set_option maxRecDepth 20000 in
theorem ggX5_coupled_X5_root : GoodIn wsX5_coupled wsX5_root := goodIn_r _ [30, 7] (by decide +kernel) (by decide +kernel)
set_option maxRecDepth 20000 in
theorem gX5_coupled_X5_root : GoodIn wsX5_coupled (va_wsS RX5 106 yX5_root wsX5_root) := goodIn_app (goodIn_of _ (by decide +kernel)) ggX5_coupled_X5_root
theorem dX5_coupled_0 : decode cX5_coupled 0 = .ok (.aload_n 0, 1) := by decide +kernel
theorem dX5_coupled_1 : decode cX5_coupled 1 = .ok (.aload_n 0, 1) := by decide +kernel
theorem dX5_coupled_2 : decode cX5_coupled 2 = .ok (.iload_n 1, 1) := by decide +kernel
theorem dX5_coupled_3 : decode cX5_coupled 3 = .ok (.invokevirtual 126, 3) := by decide +kernel
theorem dX5_coupled_6 : decode cX5_coupled 6 = .ok (.ifCond .eq 7, 3) := by decide +kernel
theorem dX5_coupled_9 : decode cX5_coupled 9 = .ok (.iconst 1, 1) := by decide +kernel
theorem dX5_coupled_10 : decode cX5_coupled 10 = .ok (.goto 50, 3) := by decide +kernel
theorem dX5_coupled_13 : decode cX5_coupled 13 = .ok (.dload_n 2, 1) := by decide +kernel
theorem dX5_coupled_14 : decode cX5_coupled 14 = .ok (.dconst 0, 1) := by decide +kernel
theorem dX5_coupled_15 : decode cX5_coupled 15 = .ok (.ldc2_w 66, 3) := by decide +kernel
theorem dX5_coupled_18 : decode cX5_coupled 18 = .ok (.invokestatic 68, 3) := by decide +kernel
theorem dX5_coupled_21 : decode cX5_coupled 21 = .ok (.ifCond .eq 15, 3) := by decide +kernel
theorem dX5_coupled_24 : decode cX5_coupled 24 = .ok (.dload 4, 2) := by decide +kernel
theorem dX5_coupled_26 : decode cX5_coupled 26 = .ok (.dconst 0, 1) := by decide +kernel
theorem dX5_coupled_27 : decode cX5_coupled 27 = .ok (.ldc2_w 66, 3) := by decide +kernel
theorem dX5_coupled_30 : decode cX5_coupled 30 = .ok (.invokestatic 68, 3) := by decide +kernel
theorem dX5_coupled_33 : decode cX5_coupled 33 = .ok (.ifCond .ne 7, 3) := by decide +kernel
theorem dX5_coupled_36 : decode cX5_coupled 36 = .ok (.iconst 2, 1) := by decide +kernel
theorem dX5_coupled_37 : decode cX5_coupled 37 = .ok (.goto 23, 3) := by decide +kernel
theorem dX5_coupled_40 : decode cX5_coupled 40 = .ok (.aload_n 0, 1) := by decide +kernel
theorem dX5_coupled_41 : decode cX5_coupled 41 = .ok (.getfield 72, 3) := by decide +kernel
theorem dX5_coupled_44 : decode cX5_coupled 44 = .ok (.ifCond .eq 15, 3) := by decide +kernel
theorem dX5_coupled_47 : decode cX5_coupled 47 = .ok (.iload_n 1, 1) := by decide +kernel
theorem dX5_coupled_48 : decode cX5_coupled 48 = .ok (.aload_n 0, 1) := by decide +kernel
theorem dX5_coupled_49 : decode cX5_coupled 49 = .ok (.getfield 116, 3) := by decide +kernel
theorem dX5_coupled_52 : decode cX5_coupled 52 = .ok (.if_icmp .ge 7, 3) := by decide +kernel
theorem dX5_coupled_55 : decode cX5_coupled 55 = .ok (.iconst 0, 1) := by decide +kernel
theorem dX5_coupled_56 : decode cX5_coupled 56 = .ok (.goto 4, 3) := by decide +kernel
theorem dX5_coupled_59 : decode cX5_coupled 59 = .ok (.iconst 3, 1) := by decide +kernel
theorem dX5_coupled_60 : decode cX5_coupled 60 = .ok (.putfield 55, 3) := by decide +kernel
theorem dX5_coupled_63 : decode cX5_coupled 63 = .ok (.aload_n 0, 1) := by decide +kernel
theorem dX5_coupled_64 : decode cX5_coupled 64 = .ok (.getfield 55, 3) := by decide +kernel
theorem dX5_coupled_67 : decode cX5_coupled 67 = .ok (.ifCond .le 5, 3) := by decide +kernel
theorem dX5_coupled_70 : decode cX5_coupled 70 = .ok (.dconst 0, 1) := by decide +kernel
theorem dX5_coupled_71 : decode cX5_coupled 71 = .ok (.dreturn, 1) := by decide +kernel
theorem dX5_coupled_72 : decode cX5_coupled 72 = .ok (.aload_n 0, 1) := by decide +kernel
theorem dX5_coupled_73 : decode cX5_coupled 73 = .ok (.iload_n 1, 1) := by decide +kernel
theorem dX5_coupled_74 : decode cX5_coupled 74 = .ok (.invokevirtual 136, 3) := by decide +kernel
theorem dX5_coupled_77 : decode cX5_coupled 77 = .ok (.dstore 7, 2) := by decide +kernel
theorem dX5_coupled_79 : decode cX5_coupled 79 = .ok (.aload_n 0, 1) := by decide +kernel
theorem dX5_coupled_80 : decode cX5_coupled 80 = .ok (.getfield 39, 3) := by decide +kernel
theorem dX5_coupled_83 : decode cX5_coupled 83 = .ok (.iload_n 1, 1) := by decide +kernel
theorem dX5_coupled_84 : decode cX5_coupled 84 = .ok (.daload, 1) := by decide +kernel
theorem dX5_coupled_85 : decode cX5_coupled 85 = .ok (.dload_n 2, 1) := by decide +kernel
theorem dX5_coupled_86 : decode cX5_coupled 86 = .ok (.dload 7, 2) := by decide +kernel
theorem dX5_coupled_88 : decode cX5_coupled 88 = .ok (.dmul, 1) := by decide +kernel
theorem dX5_coupled_89 : decode cX5_coupled 89 = .ok (.dload 7, 2) := by decide +kernel
theorem dX5_coupled_91 : decode cX5_coupled 91 = .ok (.dmul, 1) := by decide +kernel
theorem dX5_coupled_92 : decode cX5_coupled 92 = .ok (.dadd, 1) := by decide +kernel
theorem dX5_coupled_93 : decode cX5_coupled 93 = .ok (.dload 4, 2) := by decide +kernel
theorem dX5_coupled_95 : decode cX5_coupled 95 = .ok (.dadd, 1) := by decide +kernel
theorem dX5_coupled_96 : decode cX5_coupled 96 = .ok (.dstore 9, 2) := by decide +kernel
theorem dX5_coupled_98 : decode cX5_coupled 98 = .ok (.dload 9, 2) := by decide +kernel
theorem dX5_coupled_100 : decode cX5_coupled 100 = .ok (.dload 9, 2) := by decide +kernel
theorem dX5_coupled_102 : decode cX5_coupled 102 = .ok (.dmul, 1) := by decide +kernel
theorem dX5_coupled_103 : decode cX5_coupled 103 = .ok (.ldc2_w 139, 3) := by decide +kernel
theorem dX5_coupled_106 : decode cX5_coupled 106 = .ok (.aload_n 0, 1) := by decide +kernel
theorem dX5_coupled_107 : decode cX5_coupled 107 = .ok (.getfield 39, 3) := by decide +kernel
theorem dX5_coupled_110 : decode cX5_coupled 110 = .ok (.iload_n 1, 1) := by decide +kernel
theorem dX5_coupled_111 : decode cX5_coupled 111 = .ok (.daload, 1) := by decide +kernel
theorem dX5_coupled_112 : decode cX5_coupled 112 = .ok (.dmul, 1) := by decide +kernel
theorem dX5_coupled_113 : decode cX5_coupled 113 = .ok (.dload 4, 2) := by decide +kernel
theorem dX5_coupled_115 : decode cX5_coupled 115 = .ok (.dmul, 1) := by decide +kernel
theorem dX5_coupled_116 : decode cX5_coupled 116 = .ok (.dsub, 1) := by decide +kernel
theorem dX5_coupled_117 : decode cX5_coupled 117 = .ok (.invokestatic 106, 3) := by decide +kernel
theorem dX5_coupled_120 : decode cX5_coupled 120 = .ok (.dstore 11, 2) := by decide +kernel
theorem dX5_coupled_122 : decode cX5_coupled 122 = .ok (.iload 6, 2) := by decide +kernel
theorem dX5_coupled_124 : decode cX5_coupled 124 = .ok (.ifCond .eq 15, 3) := by decide +kernel
theorem dX5_coupled_127 : decode cX5_coupled 127 = .ok (.dload 9, 2) := by decide +kernel
theorem dX5_coupled_129 : decode cX5_coupled 129 = .ok (.dload 11, 2) := by decide +kernel
theorem dX5_coupled_131 : decode cX5_coupled 131 = .ok (.dadd, 1) := by decide +kernel
theorem dX5_coupled_132 : decode cX5_coupled 132 = .ok (.ldc2_w 58, 3) := by decide +kernel
theorem dX5_coupled_135 : decode cX5_coupled 135 = .ok (.ddiv, 1) := by decide +kernel
theorem dX5_coupled_136 : decode cX5_coupled 136 = .ok (.goto 12, 3) := by decide +kernel
theorem dX5_coupled_139 : decode cX5_coupled 139 = .ok (.dload 9, 2) := by decide +kernel
theorem dX5_coupled_141 : decode cX5_coupled 141 = .ok (.dload 11, 2) := by decide +kernel
theorem dX5_coupled_143 : decode cX5_coupled 143 = .ok (.dsub, 1) := by decide +kernel
theorem dX5_coupled_144 : decode cX5_coupled 144 = .ok (.ldc2_w 58, 3) := by decide +kernel
theorem dX5_coupled_147 : decode cX5_coupled 147 = .ok (.ddiv, 1) := by decide +kernel
theorem dX5_coupled_148 : decode cX5_coupled 148 = .ok (.dreturn, 1) := by decide +kernel
set_option maxRecDepth 20000 in
theorem ggX5_weight_X5_mass : GoodIn wsX5_weight wsX5_mass := goodIn_r _ [8, 9, 10, 11, 12, 13, 14, 15, 16, 17, 18, 19, 20, 21, 22, 23, 24, 25, 26, 27, 28, 29] (by decide +kernel) (by decide +kernel)
set_option maxRecDepth 20000 in
theorem gX5_weight_X5_mass : GoodIn wsX5_weight (wsV RX5 89 RX5 yX5_mass wsX5_mass) := goodIn_app (goodIn_of _ (by decide +kernel)) ggX5_weight_X5_mass
theorem dX5_weight_0 : decode cX5_weight 0 = .ok (.aload_n 0, 1) := by decide +kernel
theorem dX5_weight_1 : decode cX5_weight 1 = .ok (.iconst 0, 1) := by decide +kernel
theorem dX5_weight_2 : decode cX5_weight 2 = .ok (.putfield 55, 3) := by decide +kernel
theorem dX5_weight_5 : decode cX5_weight 5 = .ok (.dconst 0, 1) := by decide +kernel
theorem dX5_weight_6 : decode cX5_weight 6 = .ok (.dstore_n 1, 1) := by decide +kernel
theorem dX5_weight_7 : decode cX5_weight 7 = .ok (.iconst 0, 1) := by decide +kernel
theorem dX5_weight_8 : decode cX5_weight 8 = .ok (.istore_n 3, 1) := by decide +kernel
theorem dX5_weight_9 : decode cX5_weight 9 = .ok (.iload_n 3, 1) := by decide +kernel
theorem dX5_weight_10 : decode cX5_weight 10 = .ok (.aload_n 0, 1) := by decide +kernel
theorem dX5_weight_11 : decode cX5_weight 11 = .ok (.getfield 52, 3) := by decide +kernel
theorem dX5_weight_14 : decode cX5_weight 14 = .ok (.if_icmp .ge 41, 3) := by decide +kernel
theorem dX5_weight_17 : decode cX5_weight 17 = .ok (.iconst 0, 1) := by decide +kernel
theorem dX5_weight_18 : decode cX5_weight 18 = .ok (.istore 4, 2) := by decide +kernel
theorem dX5_weight_20 : decode cX5_weight 20 = .ok (.iload 4, 2) := by decide +kernel
theorem dX5_weight_22 : decode cX5_weight 22 = .ok (.aload_n 0, 1) := by decide +kernel
theorem dX5_weight_23 : decode cX5_weight 23 = .ok (.getfield 48, 3) := by decide +kernel
theorem dX5_weight_26 : decode cX5_weight 26 = .ok (.if_icmp .ge 23, 3) := by decide +kernel
theorem dX5_weight_29 : decode cX5_weight 29 = .ok (.dload_n 1, 1) := by decide +kernel
theorem dX5_weight_30 : decode cX5_weight 30 = .ok (.aload_n 0, 1) := by decide +kernel
theorem dX5_weight_31 : decode cX5_weight 31 = .ok (.bipush 6, 2) := by decide +kernel
theorem dX5_weight_33 : decode cX5_weight 33 = .ok (.iload_n 3, 1) := by decide +kernel
theorem dX5_weight_34 : decode cX5_weight 34 = .ok (.imul, 1) := by decide +kernel
theorem dX5_weight_35 : decode cX5_weight 35 = .ok (.iload 4, 2) := by decide +kernel
theorem dX5_weight_37 : decode cX5_weight 37 = .ok (.iadd, 1) := by decide +kernel
theorem dX5_weight_38 : decode cX5_weight 38 = .ok (.invokevirtual 89, 3) := by decide +kernel
theorem dX5_weight_41 : decode cX5_weight 41 = .ok (.dadd, 1) := by decide +kernel
theorem dX5_weight_42 : decode cX5_weight 42 = .ok (.dstore_n 1, 1) := by decide +kernel
theorem dX5_weight_43 : decode cX5_weight 43 = .ok (.iinc 4 1, 3) := by decide +kernel
theorem dX5_weight_46 : decode cX5_weight 46 = .ok (.goto (-26), 3) := by decide +kernel
theorem dX5_weight_49 : decode cX5_weight 49 = .ok (.iinc 3 1, 3) := by decide +kernel
theorem dX5_weight_52 : decode cX5_weight 52 = .ok (.goto (-43), 3) := by decide +kernel
theorem dX5_weight_55 : decode cX5_weight 55 = .ok (.dload_n 1, 1) := by decide +kernel
theorem dX5_weight_56 : decode cX5_weight 56 = .ok (.dreturn, 1) := by decide +kernel
set_option maxRecDepth 20000 in
theorem ggX5_want_X5_between : GoodIn wsX5_want wsX5_between := goodIn_r _ [9] (by decide +kernel) (by decide +kernel)
set_option maxRecDepth 20000 in
theorem gX5_want_X5_between : GoodIn wsX5_want (va_wsS RX5 68 yX5_between wsX5_between) := goodIn_app (goodIn_of _ (by decide +kernel)) ggX5_want_X5_between
theorem dX5_want_0 : decode cX5_want 0 = .ok (.aload_n 0, 1) := by decide +kernel
theorem dX5_want_1 : decode cX5_want 1 = .ok (.iload_n 1, 1) := by decide +kernel
theorem dX5_want_2 : decode cX5_want 2 = .ok (.ifCond .lt 8, 3) := by decide +kernel
theorem dX5_want_5 : decode cX5_want 5 = .ok (.iload_n 1, 1) := by decide +kernel
theorem dX5_want_6 : decode cX5_want 6 = .ok (.iconst 4, 1) := by decide +kernel
theorem dX5_want_7 : decode cX5_want 7 = .ok (.if_icmp .lt 7, 3) := by decide +kernel
theorem dX5_want_10 : decode cX5_want 10 = .ok (.iconst 1, 1) := by decide +kernel
theorem dX5_want_11 : decode cX5_want 11 = .ok (.goto 31, 3) := by decide +kernel
theorem dX5_want_14 : decode cX5_want 14 = .ok (.dload_n 2, 1) := by decide +kernel
theorem dX5_want_15 : decode cX5_want 15 = .ok (.dconst 0, 1) := by decide +kernel
theorem dX5_want_16 : decode cX5_want 16 = .ok (.ldc2_w 141, 3) := by decide +kernel
theorem dX5_want_19 : decode cX5_want 19 = .ok (.invokestatic 68, 3) := by decide +kernel
theorem dX5_want_22 : decode cX5_want 22 = .ok (.ifCond .ne 7, 3) := by decide +kernel
theorem dX5_want_25 : decode cX5_want 25 = .ok (.iconst 2, 1) := by decide +kernel
theorem dX5_want_26 : decode cX5_want 26 = .ok (.goto 16, 3) := by decide +kernel
theorem dX5_want_29 : decode cX5_want 29 = .ok (.aload_n 0, 1) := by decide +kernel
theorem dX5_want_30 : decode cX5_want 30 = .ok (.getfield 143, 3) := by decide +kernel
theorem dX5_want_33 : decode cX5_want 33 = .ok (.iconst 4, 1) := by decide +kernel
theorem dX5_want_34 : decode cX5_want 34 = .ok (.if_icmp .ne 7, 3) := by decide +kernel
theorem dX5_want_37 : decode cX5_want 37 = .ok (.iconst 3, 1) := by decide +kernel
theorem dX5_want_38 : decode cX5_want 38 = .ok (.goto 4, 3) := by decide +kernel
theorem dX5_want_41 : decode cX5_want 41 = .ok (.iconst 0, 1) := by decide +kernel
theorem dX5_want_42 : decode cX5_want 42 = .ok (.putfield 55, 3) := by decide +kernel
theorem dX5_want_45 : decode cX5_want 45 = .ok (.aload_n 0, 1) := by decide +kernel
theorem dX5_want_46 : decode cX5_want 46 = .ok (.getfield 55, 3) := by decide +kernel
theorem dX5_want_49 : decode cX5_want 49 = .ok (.ifCond .le 5, 3) := by decide +kernel
theorem dX5_want_52 : decode cX5_want 52 = .ok (.iconst 0, 1) := by decide +kernel
theorem dX5_want_53 : decode cX5_want 53 = .ok (.ireturn, 1) := by decide +kernel
theorem dX5_want_54 : decode cX5_want 54 = .ok (.aload_n 0, 1) := by decide +kernel
theorem dX5_want_55 : decode cX5_want 55 = .ok (.getfield 42, 3) := by decide +kernel
theorem dX5_want_58 : decode cX5_want 58 = .ok (.aload_n 0, 1) := by decide +kernel
theorem dX5_want_59 : decode cX5_want 59 = .ok (.getfield 143, 3) := by decide +kernel
theorem dX5_want_62 : decode cX5_want 62 = .ok (.iload_n 1, 1) := by decide +kernel
theorem dX5_want_63 : decode cX5_want 63 = .ok (.iastore, 1) := by decide +kernel
theorem dX5_want_64 : decode cX5_want 64 = .ok (.aload_n 0, 1) := by decide +kernel
theorem dX5_want_65 : decode cX5_want 65 = .ok (.getfield 45, 3) := by decide +kernel
theorem dX5_want_68 : decode cX5_want 68 = .ok (.aload_n 0, 1) := by decide +kernel
theorem dX5_want_69 : decode cX5_want 69 = .ok (.getfield 143, 3) := by decide +kernel
theorem dX5_want_72 : decode cX5_want 72 = .ok (.dload_n 2, 1) := by decide +kernel
theorem dX5_want_73 : decode cX5_want 73 = .ok (.dastore, 1) := by decide +kernel
theorem dX5_want_74 : decode cX5_want 74 = .ok (.aload_n 0, 1) := by decide +kernel
theorem dX5_want_75 : decode cX5_want 75 = .ok (.dup, 1) := by decide +kernel
theorem dX5_want_76 : decode cX5_want 76 = .ok (.getfield 143, 3) := by decide +kernel
theorem dX5_want_79 : decode cX5_want 79 = .ok (.iconst 1, 1) := by decide +kernel
theorem dX5_want_80 : decode cX5_want 80 = .ok (.iadd, 1) := by decide +kernel
theorem dX5_want_81 : decode cX5_want 81 = .ok (.putfield 143, 3) := by decide +kernel
theorem dX5_want_84 : decode cX5_want 84 = .ok (.aload_n 0, 1) := by decide +kernel
theorem dX5_want_85 : decode cX5_want 85 = .ok (.getfield 143, 3) := by decide +kernel
theorem dX5_want_88 : decode cX5_want 88 = .ok (.ireturn, 1) := by decide +kernel
set_option maxRecDepth 20000 in
theorem ggX5_thin_X5_between : GoodIn wsX5_thin wsX5_between := goodIn_r _ [12] (by decide +kernel) (by decide +kernel)
set_option maxRecDepth 20000 in
theorem gX5_thin_X5_between : GoodIn wsX5_thin (va_wsS RX5 68 yX5_between wsX5_between) := goodIn_app (goodIn_of _ (by decide +kernel)) ggX5_thin_X5_between
set_option maxRecDepth 20000 in
theorem ggX5_thin_X5_needed : GoodIn wsX5_thin wsX5_needed := goodIn_r _ [16, 17, 18, 79, 80, 81, 82, 83, 84, 85, 86, 87, 88, 89, 90, 91, 92, 93, 94, 95, 96, 97] (by decide +kernel) (by decide +kernel)
set_option maxRecDepth 20000 in
theorem gX5_thin_X5_needed : GoodIn wsX5_thin (wsV RX5 146 RX5 yX5_needed wsX5_needed) := goodIn_app (goodIn_of _ (by decide +kernel)) ggX5_thin_X5_needed
set_option maxRecDepth 20000 in
theorem ggX5_thin_X5_makeAll : GoodIn wsX5_thin wsX5_makeAll := goodIn_r _ [22, 5, 4, 23, 24, 25, 11, 26, 6, 7, 27, 28, 8, 29, 30, 31, 32, 33, 34, 35, 36, 37, 38, 39, 40, 41, 42, 43, 44, 45, 46, 2, 47, 48, 49, 50, 51, 52, 53, 54, 55, 56, 57, 58, 59, 60, 61, 62, 63, 64, 65, 66, 67, 68, 69, 70, 71, 72, 73, 79, 80, 81, 82, 83, 84, 85, 86, 87, 88, 89, 90, 91, 92, 93, 94, 95, 96, 97] (by decide +kernel) (by decide +kernel)
set_option maxRecDepth 20000 in
theorem gX5_thin_X5_makeAll : GoodIn wsX5_thin (wsV RX5 122 RX5 yX5_makeAll wsX5_makeAll) := goodIn_app (goodIn_of _ (by decide +kernel)) ggX5_thin_X5_makeAll
set_option maxRecDepth 20000 in
theorem ggX5_thin_X5_total : GoodIn wsX5_thin wsX5_total := goodIn_r _ [77, 17, 47, 18, 78, 79, 80, 81, 82, 83, 84, 85, 86, 87, 88, 89, 90, 91, 92, 93, 94, 95, 96, 97] (by decide +kernel) (by decide +kernel)
set_option maxRecDepth 20000 in
theorem gX5_thin_X5_total : GoodIn wsX5_thin (wsV RX5 150 RX5 yX5_total wsX5_total) := goodIn_app (goodIn_of _ (by decide +kernel)) ggX5_thin_X5_total
set_option maxRecDepth 20000 in
theorem ggX5_thin_X5_isWood : GoodIn wsX5_thin wsX5_isWood := goodIn_r _ [37, 8, 79, 80, 81, 82, 83, 84, 85, 86, 87, 88, 89, 90, 91, 92, 93, 94, 95, 96, 97] (by decide +kernel) (by decide +kernel)
set_option maxRecDepth 20000 in
theorem gX5_thin_X5_isWood : GoodIn wsX5_thin (wsV RX5 79 RX5 yX5_isWood wsX5_isWood) := goodIn_app (goodIn_of _ (by decide +kernel)) ggX5_thin_X5_isWood
theorem dX5_thin_0 : decode cX5_thin 0 = .ok (.aload_n 0, 1) := by decide +kernel
theorem dX5_thin_1 : decode cX5_thin 1 = .ok (.dload_n 1, 1) := by decide +kernel
theorem dX5_thin_2 : decode cX5_thin 2 = .ok (.ldc2_w 64, 3) := by decide +kernel
theorem dX5_thin_5 : decode cX5_thin 5 = .ok (.dconst 1, 1) := by decide +kernel
theorem dX5_thin_6 : decode cX5_thin 6 = .ok (.invokestatic 68, 3) := by decide +kernel
theorem dX5_thin_9 : decode cX5_thin 9 = .ok (.ifCond .eq 20, 3) := by decide +kernel
theorem dX5_thin_12 : decode cX5_thin 12 = .ok (.dload_n 3, 1) := by decide +kernel
theorem dX5_thin_13 : decode cX5_thin 13 = .ok (.ldc2_w 64, 3) := by decide +kernel
theorem dX5_thin_16 : decode cX5_thin 16 = .ok (.ldc2_w 66, 3) := by decide +kernel
theorem dX5_thin_19 : decode cX5_thin 19 = .ok (.invokestatic 68, 3) := by decide +kernel
theorem dX5_thin_22 : decode cX5_thin 22 = .ok (.ifCond .eq 7, 3) := by decide +kernel
theorem dX5_thin_25 : decode cX5_thin 25 = .ok (.iconst 0, 1) := by decide +kernel
theorem dX5_thin_26 : decode cX5_thin 26 = .ok (.goto 4, 3) := by decide +kernel
theorem dX5_thin_29 : decode cX5_thin 29 = .ok (.iconst 1, 1) := by decide +kernel
theorem dX5_thin_30 : decode cX5_thin 30 = .ok (.putfield 55, 3) := by decide +kernel
theorem dX5_thin_33 : decode cX5_thin 33 = .ok (.aload_n 0, 1) := by decide +kernel
theorem dX5_thin_34 : decode cX5_thin 34 = .ok (.getfield 55, 3) := by decide +kernel
theorem dX5_thin_37 : decode cX5_thin 37 = .ok (.ifCond .le 5, 3) := by decide +kernel
theorem dX5_thin_40 : decode cX5_thin 40 = .ok (.iconst 0, 1) := by decide +kernel
theorem dX5_thin_41 : decode cX5_thin 41 = .ok (.ireturn, 1) := by decide +kernel
theorem dX5_thin_42 : decode cX5_thin 42 = .ok (.aload_n 0, 1) := by decide +kernel
theorem dX5_thin_43 : decode cX5_thin 43 = .ok (.invokevirtual 146, 3) := by decide +kernel
theorem dX5_thin_46 : decode cX5_thin 46 = .ok (.istore 5, 2) := by decide +kernel
theorem dX5_thin_48 : decode cX5_thin 48 = .ok (.aload_n 0, 1) := by decide +kernel
theorem dX5_thin_49 : decode cX5_thin 49 = .ok (.getfield 72, 3) := by decide +kernel
theorem dX5_thin_52 : decode cX5_thin 52 = .ok (.istore 6, 2) := by decide +kernel
theorem dX5_thin_54 : decode cX5_thin 54 = .ok (.aload_n 0, 1) := by decide +kernel
theorem dX5_thin_55 : decode cX5_thin 55 = .ok (.getfield 116, 3) := by decide +kernel
theorem dX5_thin_58 : decode cX5_thin 58 = .ok (.istore 7, 2) := by decide +kernel
theorem dX5_thin_60 : decode cX5_thin 60 = .ok (.iload 5, 2) := by decide +kernel
theorem dX5_thin_62 : decode cX5_thin 62 = .ok (.ifCond .le 9, 3) := by decide +kernel
theorem dX5_thin_65 : decode cX5_thin 65 = .ok (.aload_n 0, 1) := by decide +kernel
theorem dX5_thin_66 : decode cX5_thin 66 = .ok (.iload 5, 2) := by decide +kernel
theorem dX5_thin_68 : decode cX5_thin 68 = .ok (.invokevirtual 122, 3) := by decide +kernel
theorem dX5_thin_71 : decode cX5_thin 71 = .ok (.iload 5, 2) := by decide +kernel
theorem dX5_thin_73 : decode cX5_thin 73 = .ok (.ifCond .eq 12, 3) := by decide +kernel
theorem dX5_thin_76 : decode cX5_thin 76 = .ok (.aload_n 0, 1) := by decide +kernel
theorem dX5_thin_77 : decode cX5_thin 77 = .ok (.getfield 116, 3) := by decide +kernel
theorem dX5_thin_80 : decode cX5_thin 80 = .ok (.iload 5, 2) := by decide +kernel
theorem dX5_thin_82 : decode cX5_thin 82 = .ok (.if_icmp .ge 32, 3) := by decide +kernel
theorem dX5_thin_85 : decode cX5_thin 85 = .ok (.aload_n 0, 1) := by decide +kernel
theorem dX5_thin_86 : decode cX5_thin 86 = .ok (.iconst 2, 1) := by decide +kernel
theorem dX5_thin_87 : decode cX5_thin 87 = .ok (.putfield 55, 3) := by decide +kernel
theorem dX5_thin_90 : decode cX5_thin 90 = .ok (.iload 5, 2) := by decide +kernel
theorem dX5_thin_92 : decode cX5_thin 92 = .ok (.ifCond .le 14, 3) := by decide +kernel
theorem dX5_thin_95 : decode cX5_thin 95 = .ok (.iload 6, 2) := by decide +kernel
theorem dX5_thin_97 : decode cX5_thin 97 = .ok (.ifCond .eq 9, 3) := by decide +kernel
theorem dX5_thin_100 : decode cX5_thin 100 = .ok (.aload_n 0, 1) := by decide +kernel
theorem dX5_thin_101 : decode cX5_thin 101 = .ok (.iload 7, 2) := by decide +kernel
theorem dX5_thin_103 : decode cX5_thin 103 = .ok (.invokevirtual 122, 3) := by decide +kernel
theorem dX5_thin_106 : decode cX5_thin 106 = .ok (.aload_n 0, 1) := by decide +kernel
theorem dX5_thin_107 : decode cX5_thin 107 = .ok (.iload 6, 2) := by decide +kernel
theorem dX5_thin_109 : decode cX5_thin 109 = .ok (.putfield 72, 3) := by decide +kernel
theorem dX5_thin_112 : decode cX5_thin 112 = .ok (.iconst 0, 1) := by decide +kernel
theorem dX5_thin_113 : decode cX5_thin 113 = .ok (.ireturn, 1) := by decide +kernel
theorem dX5_thin_114 : decode cX5_thin 114 = .ok (.aload_n 0, 1) := by decide +kernel
theorem dX5_thin_115 : decode cX5_thin 115 = .ok (.invokevirtual 150, 3) := by decide +kernel
theorem dX5_thin_118 : decode cX5_thin 118 = .ok (.dstore 8, 2) := by decide +kernel
theorem dX5_thin_120 : decode cX5_thin 120 = .ok (.iconst 0, 1) := by decide +kernel
theorem dX5_thin_121 : decode cX5_thin 121 = .ok (.istore 10, 2) := by decide +kernel
theorem dX5_thin_123 : decode cX5_thin 123 = .ok (.iconst 0, 1) := by decide +kernel
theorem dX5_thin_124 : decode cX5_thin 124 = .ok (.istore 11, 2) := by decide +kernel
theorem dX5_thin_126 : decode cX5_thin 126 = .ok (.iload 11, 2) := by decide +kernel
theorem dX5_thin_128 : decode cX5_thin 128 = .ok (.aload_n 0, 1) := by decide +kernel
theorem dX5_thin_129 : decode cX5_thin 129 = .ok (.getfield 52, 3) := by decide +kernel
theorem dX5_thin_132 : decode cX5_thin 132 = .ok (.if_icmp .ge 163, 3) := by decide +kernel
theorem dX5_thin_135 : decode cX5_thin 135 = .ok (.iconst 0, 1) := by decide +kernel
theorem dX5_thin_136 : decode cX5_thin 136 = .ok (.istore 12, 2) := by decide +kernel
theorem dX5_thin_138 : decode cX5_thin 138 = .ok (.iload 12, 2) := by decide +kernel
theorem dX5_thin_140 : decode cX5_thin 140 = .ok (.aload_n 0, 1) := by decide +kernel
theorem dX5_thin_141 : decode cX5_thin 141 = .ok (.getfield 48, 3) := by decide +kernel
theorem dX5_thin_144 : decode cX5_thin 144 = .ok (.if_icmp .ge 145, 3) := by decide +kernel
theorem dX5_thin_147 : decode cX5_thin 147 = .ok (.bipush 6, 2) := by decide +kernel
theorem dX5_thin_149 : decode cX5_thin 149 = .ok (.iload 11, 2) := by decide +kernel
theorem dX5_thin_151 : decode cX5_thin 151 = .ok (.imul, 1) := by decide +kernel
theorem dX5_thin_152 : decode cX5_thin 152 = .ok (.iload 12, 2) := by decide +kernel
theorem dX5_thin_154 : decode cX5_thin 154 = .ok (.iadd, 1) := by decide +kernel
theorem dX5_thin_155 : decode cX5_thin 155 = .ok (.istore 13, 2) := by decide +kernel
theorem dX5_thin_157 : decode cX5_thin 157 = .ok (.aload_n 0, 1) := by decide +kernel
theorem dX5_thin_158 : decode cX5_thin 158 = .ok (.getfield 7, 3) := by decide +kernel
theorem dX5_thin_161 : decode cX5_thin 161 = .ok (.iload 13, 2) := by decide +kernel
theorem dX5_thin_163 : decode cX5_thin 163 = .ok (.daload, 1) := by decide +kernel
theorem dX5_thin_164 : decode cX5_thin 164 = .ok (.dstore 14, 2) := by decide +kernel
theorem dX5_thin_166 : decode cX5_thin 166 = .ok (.aload_n 0, 1) := by decide +kernel
theorem dX5_thin_167 : decode cX5_thin 167 = .ok (.iload 13, 2) := by decide +kernel
theorem dX5_thin_169 : decode cX5_thin 169 = .ok (.invokevirtual 79, 3) := by decide +kernel
theorem dX5_thin_172 : decode cX5_thin 172 = .ok (.ifCond .eq 111, 3) := by decide +kernel
theorem dX5_thin_175 : decode cX5_thin 175 = .ok (.dload 14, 2) := by decide +kernel
theorem dX5_thin_177 : decode cX5_thin 177 = .ok (.dload_n 1, 1) := by decide +kernel
theorem dX5_thin_178 : decode cX5_thin 178 = .ok (.dsub, 1) := by decide +kernel
theorem dX5_thin_179 : decode cX5_thin 179 = .ok (.dload_n 3, 1) := by decide +kernel
theorem dX5_thin_180 : decode cX5_thin 180 = .ok (.dcmp .l, 1) := by decide +kernel
theorem dX5_thin_181 : decode cX5_thin 181 = .ok (.ifCond .lt 102, 3) := by decide +kernel
theorem dX5_thin_184 : decode cX5_thin 184 = .ok (.aload_n 0, 1) := by decide +kernel
theorem dX5_thin_185 : decode cX5_thin 185 = .ok (.getfield 7, 3) := by decide +kernel
theorem dX5_thin_188 : decode cX5_thin 188 = .ok (.iload 13, 2) := by decide +kernel
theorem dX5_thin_190 : decode cX5_thin 190 = .ok (.dload 14, 2) := by decide +kernel
theorem dX5_thin_192 : decode cX5_thin 192 = .ok (.dload_n 1, 1) := by decide +kernel
theorem dX5_thin_193 : decode cX5_thin 193 = .ok (.dsub, 1) := by decide +kernel
theorem dX5_thin_194 : decode cX5_thin 194 = .ok (.dastore, 1) := by decide +kernel
theorem dX5_thin_195 : decode cX5_thin 195 = .ok (.aload_n 0, 1) := by decide +kernel
theorem dX5_thin_196 : decode cX5_thin 196 = .ok (.iload 5, 2) := by decide +kernel
theorem dX5_thin_198 : decode cX5_thin 198 = .ok (.invokevirtual 122, 3) := by decide +kernel
theorem dX5_thin_201 : decode cX5_thin 201 = .ok (.aload_n 0, 1) := by decide +kernel
theorem dX5_thin_202 : decode cX5_thin 202 = .ok (.getfield 116, 3) := by decide +kernel
theorem dX5_thin_205 : decode cX5_thin 205 = .ok (.iload 5, 2) := by decide +kernel
theorem dX5_thin_207 : decode cX5_thin 207 = .ok (.if_icmp .ne 17, 3) := by decide +kernel
theorem dX5_thin_210 : decode cX5_thin 210 = .ok (.aload_n 0, 1) := by decide +kernel
theorem dX5_thin_211 : decode cX5_thin 211 = .ok (.invokevirtual 150, 3) := by decide +kernel
theorem dX5_thin_214 : decode cX5_thin 214 = .ok (.dload 8, 2) := by decide +kernel
theorem dX5_thin_216 : decode cX5_thin 216 = .ok (.dcmp .g, 1) := by decide +kernel
theorem dX5_thin_217 : decode cX5_thin 217 = .ok (.ifCond .ge 7, 3) := by decide +kernel
theorem dX5_thin_220 : decode cX5_thin 220 = .ok (.iconst 1, 1) := by decide +kernel
theorem dX5_thin_221 : decode cX5_thin 221 = .ok (.goto 4, 3) := by decide +kernel
theorem dX5_thin_224 : decode cX5_thin 224 = .ok (.iconst 0, 1) := by decide +kernel
theorem dX5_thin_225 : decode cX5_thin 225 = .ok (.istore 16, 2) := by decide +kernel
theorem dX5_thin_227 : decode cX5_thin 227 = .ok (.iload 16, 2) := by decide +kernel
theorem dX5_thin_229 : decode cX5_thin 229 = .ok (.ifCond .eq 10, 3) := by decide +kernel
theorem dX5_thin_232 : decode cX5_thin 232 = .ok (.aload_n 0, 1) := by decide +kernel
theorem dX5_thin_233 : decode cX5_thin 233 = .ok (.invokevirtual 150, 3) := by decide +kernel
theorem dX5_thin_236 : decode cX5_thin 236 = .ok (.goto 5, 3) := by decide +kernel
theorem dX5_thin_239 : decode cX5_thin 239 = .ok (.dload 8, 2) := by decide +kernel
theorem dX5_thin_241 : decode cX5_thin 241 = .ok (.dstore 8, 2) := by decide +kernel
theorem dX5_thin_243 : decode cX5_thin 243 = .ok (.iload 16, 2) := by decide +kernel
theorem dX5_thin_245 : decode cX5_thin 245 = .ok (.ifCond .eq 10, 3) := by decide +kernel
theorem dX5_thin_248 : decode cX5_thin 248 = .ok (.iload 10, 2) := by decide +kernel
theorem dX5_thin_250 : decode cX5_thin 250 = .ok (.iconst 1, 1) := by decide +kernel
theorem dX5_thin_251 : decode cX5_thin 251 = .ok (.iadd, 1) := by decide +kernel
theorem dX5_thin_252 : decode cX5_thin 252 = .ok (.goto 5, 3) := by decide +kernel
theorem dX5_thin_255 : decode cX5_thin 255 = .ok (.iload 10, 2) := by decide +kernel
theorem dX5_thin_257 : decode cX5_thin 257 = .ok (.istore 10, 2) := by decide +kernel
theorem dX5_thin_259 : decode cX5_thin 259 = .ok (.aload_n 0, 1) := by decide +kernel
theorem dX5_thin_260 : decode cX5_thin 260 = .ok (.getfield 7, 3) := by decide +kernel
theorem dX5_thin_263 : decode cX5_thin 263 = .ok (.iload 13, 2) := by decide +kernel
theorem dX5_thin_265 : decode cX5_thin 265 = .ok (.iload 16, 2) := by decide +kernel
theorem dX5_thin_267 : decode cX5_thin 267 = .ok (.ifCond .eq 13, 3) := by decide +kernel
theorem dX5_thin_270 : decode cX5_thin 270 = .ok (.aload_n 0, 1) := by decide +kernel
theorem dX5_thin_271 : decode cX5_thin 271 = .ok (.getfield 7, 3) := by decide +kernel
theorem dX5_thin_274 : decode cX5_thin 274 = .ok (.iload 13, 2) := by decide +kernel
theorem dX5_thin_276 : decode cX5_thin 276 = .ok (.daload, 1) := by decide +kernel
theorem dX5_thin_277 : decode cX5_thin 277 = .ok (.goto 5, 3) := by decide +kernel
theorem dX5_thin_280 : decode cX5_thin 280 = .ok (.dload 14, 2) := by decide +kernel
theorem dX5_thin_282 : decode cX5_thin 282 = .ok (.dastore, 1) := by decide +kernel
theorem dX5_thin_283 : decode cX5_thin 283 = .ok (.iinc 12 1, 3) := by decide +kernel
theorem dX5_thin_286 : decode cX5_thin 286 = .ok (.goto (-148), 3) := by decide +kernel
theorem dX5_thin_289 : decode cX5_thin 289 = .ok (.iinc 11 1, 3) := by decide +kernel
theorem dX5_thin_292 : decode cX5_thin 292 = .ok (.goto (-166), 3) := by decide +kernel
theorem dX5_thin_295 : decode cX5_thin 295 = .ok (.aload_n 0, 1) := by decide +kernel
theorem dX5_thin_296 : decode cX5_thin 296 = .ok (.iload 5, 2) := by decide +kernel
theorem dX5_thin_298 : decode cX5_thin 298 = .ok (.invokevirtual 122, 3) := by decide +kernel
theorem dX5_thin_301 : decode cX5_thin 301 = .ok (.iload 10, 2) := by decide +kernel
theorem dX5_thin_303 : decode cX5_thin 303 = .ok (.ireturn, 1) := by decide +kernel
set_option maxRecDepth 20000 in
theorem ggX5_sum_X5_needed : GoodIn wsX5_sum wsX5_needed := goodIn_r _ [9, 1, 10, 17, 18, 19, 20, 21, 22, 23, 24, 25, 26, 27, 28, 29, 30, 31, 32, 33, 34, 35] (by decide +kernel) (by decide +kernel)
set_option maxRecDepth 20000 in
theorem gX5_sum_X5_needed : GoodIn wsX5_sum (wsV RX5 146 RX5 yX5_needed wsX5_needed) := goodIn_app (goodIn_of _ (by decide +kernel)) ggX5_sum_X5_needed
set_option maxRecDepth 20000 in
theorem ggX5_sum_X5_total : GoodIn wsX5_sum wsX5_total := goodIn_r _ [14, 1, 15, 10, 16, 17, 18, 19, 20, 21, 22, 23, 24, 25, 26, 27, 28, 29, 30, 31, 32, 33, 34, 35] (by decide +kernel) (by decide +kernel)
set_option maxRecDepth 20000 in
theorem gX5_sum_X5_total : GoodIn wsX5_sum (wsV RX5 150 RX5 yX5_total wsX5_total) := goodIn_app (goodIn_of _ (by decide +kernel)) ggX5_sum_X5_total
theorem dX5_sum_0 : decode cX5_sum 0 = .ok (.aload_n 0, 1) := by decide +kernel
theorem dX5_sum_1 : decode cX5_sum 1 = .ok (.aload_n 0, 1) := by decide +kernel
theorem dX5_sum_2 : decode cX5_sum 2 = .ok (.getfield 143, 3) := by decide +kernel
theorem dX5_sum_5 : decode cX5_sum 5 = .ok (.ifCond .le 25, 3) := by decide +kernel
theorem dX5_sum_8 : decode cX5_sum 8 = .ok (.aload_n 0, 1) := by decide +kernel
theorem dX5_sum_9 : decode cX5_sum 9 = .ok (.getfield 72, 3) := by decide +kernel
theorem dX5_sum_12 : decode cX5_sum 12 = .ok (.ifCond .eq 18, 3) := by decide +kernel
theorem dX5_sum_15 : decode cX5_sum 15 = .ok (.aload_n 0, 1) := by decide +kernel
theorem dX5_sum_16 : decode cX5_sum 16 = .ok (.getfield 116, 3) := by decide +kernel
theorem dX5_sum_19 : decode cX5_sum 19 = .ok (.aload_n 0, 1) := by decide +kernel
theorem dX5_sum_20 : decode cX5_sum 20 = .ok (.invokevirtual 146, 3) := by decide +kernel
theorem dX5_sum_23 : decode cX5_sum 23 = .ok (.if_icmp .lt 7, 3) := by decide +kernel
theorem dX5_sum_26 : decode cX5_sum 26 = .ok (.iconst 0, 1) := by decide +kernel
theorem dX5_sum_27 : decode cX5_sum 27 = .ok (.goto 4, 3) := by decide +kernel
theorem dX5_sum_30 : decode cX5_sum 30 = .ok (.iconst 1, 1) := by decide +kernel
theorem dX5_sum_31 : decode cX5_sum 31 = .ok (.putfield 55, 3) := by decide +kernel
theorem dX5_sum_34 : decode cX5_sum 34 = .ok (.aload_n 0, 1) := by decide +kernel
theorem dX5_sum_35 : decode cX5_sum 35 = .ok (.getfield 55, 3) := by decide +kernel
theorem dX5_sum_38 : decode cX5_sum 38 = .ok (.ifCond .le 7, 3) := by decide +kernel
theorem dX5_sum_41 : decode cX5_sum 41 = .ok (.dconst 0, 1) := by decide +kernel
theorem dX5_sum_42 : decode cX5_sum 42 = .ok (.goto 7, 3) := by decide +kernel
theorem dX5_sum_45 : decode cX5_sum 45 = .ok (.aload_n 0, 1) := by decide +kernel
theorem dX5_sum_46 : decode cX5_sum 46 = .ok (.invokevirtual 150, 3) := by decide +kernel
theorem dX5_sum_49 : decode cX5_sum 49 = .ok (.dreturn, 1) := by decide +kernel
set_option maxRecDepth 20000 in
theorem ggX5_tap_X5_noMode : GoodIn wsX5_tap wsX5_noMode := goodIn_r _ [11] (by decide +kernel) (by decide +kernel)
set_option maxRecDepth 20000 in
theorem gX5_tap_X5_noMode : GoodIn wsX5_tap (wsV RX5 126 RX5 yX5_noMode wsX5_noMode) := goodIn_app (goodIn_of _ (by decide +kernel)) ggX5_tap_X5_noMode
set_option maxRecDepth 20000 in
theorem ggX5_tap_X5_noCell : GoodIn wsX5_tap wsX5_noCell := goodIn_r _ [15, 16, 17, 21, 22, 23, 24, 25, 26, 27, 28, 29, 30, 31, 32, 33, 34, 35, 36, 37, 38, 39] (by decide +kernel) (by decide +kernel)
set_option maxRecDepth 20000 in
theorem gX5_tap_X5_noCell : GoodIn wsX5_tap (wsV RX5 60 RX5 yX5_noCell wsX5_noCell) := goodIn_app (goodIn_of _ (by decide +kernel)) ggX5_tap_X5_noCell
set_option maxRecDepth 20000 in
theorem ggX5_tap_X5_between : GoodIn wsX5_tap wsX5_between := goodIn_r _ [20] (by decide +kernel) (by decide +kernel)
set_option maxRecDepth 20000 in
theorem gX5_tap_X5_between : GoodIn wsX5_tap (va_wsS RX5 68 yX5_between wsX5_between) := goodIn_app (goodIn_of _ (by decide +kernel)) ggX5_tap_X5_between
theorem dX5_tap_0 : decode cX5_tap 0 = .ok (.aload_n 0, 1) := by decide +kernel
theorem dX5_tap_1 : decode cX5_tap 1 = .ok (.aload_n 0, 1) := by decide +kernel
theorem dX5_tap_2 : decode cX5_tap 2 = .ok (.iload_n 1, 1) := by decide +kernel
theorem dX5_tap_3 : decode cX5_tap 3 = .ok (.invokevirtual 126, 3) := by decide +kernel
theorem dX5_tap_6 : decode cX5_tap 6 = .ok (.ifCond .ne 12, 3) := by decide +kernel
theorem dX5_tap_9 : decode cX5_tap 9 = .ok (.aload_n 0, 1) := by decide +kernel
theorem dX5_tap_10 : decode cX5_tap 10 = .ok (.iload_n 2, 1) := by decide +kernel
theorem dX5_tap_11 : decode cX5_tap 11 = .ok (.iload_n 3, 1) := by decide +kernel
theorem dX5_tap_12 : decode cX5_tap 12 = .ok (.invokevirtual 60, 3) := by decide +kernel
theorem dX5_tap_15 : decode cX5_tap 15 = .ok (.ifCond .eq 7, 3) := by decide +kernel
theorem dX5_tap_18 : decode cX5_tap 18 = .ok (.iconst 1, 1) := by decide +kernel
theorem dX5_tap_19 : decode cX5_tap 19 = .ok (.goto 39, 3) := by decide +kernel
theorem dX5_tap_22 : decode cX5_tap 22 = .ok (.dload 4, 2) := by decide +kernel
theorem dX5_tap_24 : decode cX5_tap 24 = .ok (.dconst 0, 1) := by decide +kernel
theorem dX5_tap_25 : decode cX5_tap 25 = .ok (.ldc2_w 141, 3) := by decide +kernel
theorem dX5_tap_28 : decode cX5_tap 28 = .ok (.invokestatic 68, 3) := by decide +kernel
theorem dX5_tap_31 : decode cX5_tap 31 = .ok (.ifCond .ne 7, 3) := by decide +kernel
theorem dX5_tap_34 : decode cX5_tap 34 = .ok (.iconst 2, 1) := by decide +kernel
theorem dX5_tap_35 : decode cX5_tap 35 = .ok (.goto 23, 3) := by decide +kernel
theorem dX5_tap_38 : decode cX5_tap 38 = .ok (.aload_n 0, 1) := by decide +kernel
theorem dX5_tap_39 : decode cX5_tap 39 = .ok (.getfield 72, 3) := by decide +kernel
theorem dX5_tap_42 : decode cX5_tap 42 = .ok (.ifCond .eq 15, 3) := by decide +kernel
theorem dX5_tap_45 : decode cX5_tap 45 = .ok (.iload_n 1, 1) := by decide +kernel
theorem dX5_tap_46 : decode cX5_tap 46 = .ok (.aload_n 0, 1) := by decide +kernel
theorem dX5_tap_47 : decode cX5_tap 47 = .ok (.getfield 116, 3) := by decide +kernel
theorem dX5_tap_50 : decode cX5_tap 50 = .ok (.if_icmp .ge 7, 3) := by decide +kernel
theorem dX5_tap_53 : decode cX5_tap 53 = .ok (.iconst 0, 1) := by decide +kernel
theorem dX5_tap_54 : decode cX5_tap 54 = .ok (.goto 4, 3) := by decide +kernel
theorem dX5_tap_57 : decode cX5_tap 57 = .ok (.iconst 3, 1) := by decide +kernel
theorem dX5_tap_58 : decode cX5_tap 58 = .ok (.putfield 55, 3) := by decide +kernel
theorem dX5_tap_61 : decode cX5_tap 61 = .ok (.aload_n 0, 1) := by decide +kernel
theorem dX5_tap_62 : decode cX5_tap 62 = .ok (.getfield 55, 3) := by decide +kernel
theorem dX5_tap_65 : decode cX5_tap 65 = .ok (.ifCond .le 5, 3) := by decide +kernel
theorem dX5_tap_68 : decode cX5_tap 68 = .ok (.dconst 0, 1) := by decide +kernel
theorem dX5_tap_69 : decode cX5_tap 69 = .ok (.dreturn, 1) := by decide +kernel
theorem dX5_tap_70 : decode cX5_tap 70 = .ok (.aload_n 0, 1) := by decide +kernel
theorem dX5_tap_71 : decode cX5_tap 71 = .ok (.getfield 36, 3) := by decide +kernel
theorem dX5_tap_74 : decode cX5_tap 74 = .ok (.bipush 36, 2) := by decide +kernel
theorem dX5_tap_76 : decode cX5_tap 76 = .ok (.iload_n 1, 1) := by decide +kernel
theorem dX5_tap_77 : decode cX5_tap 77 = .ok (.imul, 1) := by decide +kernel
theorem dX5_tap_78 : decode cX5_tap 78 = .ok (.bipush 6, 2) := by decide +kernel
theorem dX5_tap_80 : decode cX5_tap 80 = .ok (.iload_n 3, 1) := by decide +kernel
theorem dX5_tap_81 : decode cX5_tap 81 = .ok (.imul, 1) := by decide +kernel
theorem dX5_tap_82 : decode cX5_tap 82 = .ok (.iadd, 1) := by decide +kernel
theorem dX5_tap_83 : decode cX5_tap 83 = .ok (.iload_n 2, 1) := by decide +kernel
theorem dX5_tap_84 : decode cX5_tap 84 = .ok (.iadd, 1) := by decide +kernel
theorem dX5_tap_85 : decode cX5_tap 85 = .ok (.daload, 1) := by decide +kernel
theorem dX5_tap_86 : decode cX5_tap 86 = .ok (.dstore 6, 2) := by decide +kernel
theorem dX5_tap_88 : decode cX5_tap 88 = .ok (.dload 6, 2) := by decide +kernel
theorem dX5_tap_90 : decode cX5_tap 90 = .ok (.dload 6, 2) := by decide +kernel
theorem dX5_tap_92 : decode cX5_tap 92 = .ok (.dmul, 1) := by decide +kernel
theorem dX5_tap_93 : decode cX5_tap 93 = .ok (.dconst 1, 1) := by decide +kernel
theorem dX5_tap_94 : decode cX5_tap 94 = .ok (.dload 4, 2) := by decide +kernel
theorem dX5_tap_96 : decode cX5_tap 96 = .ok (.aload_n 0, 1) := by decide +kernel
theorem dX5_tap_97 : decode cX5_tap 97 = .ok (.getfield 39, 3) := by decide +kernel
theorem dX5_tap_100 : decode cX5_tap 100 = .ok (.iload_n 1, 1) := by decide +kernel
theorem dX5_tap_101 : decode cX5_tap 101 = .ok (.daload, 1) := by decide +kernel
theorem dX5_tap_102 : decode cX5_tap 102 = .ok (.dsub, 1) := by decide +kernel
theorem dX5_tap_103 : decode cX5_tap 103 = .ok (.dload 4, 2) := by decide +kernel
theorem dX5_tap_105 : decode cX5_tap 105 = .ok (.aload_n 0, 1) := by decide +kernel
theorem dX5_tap_106 : decode cX5_tap 106 = .ok (.getfield 39, 3) := by decide +kernel
theorem dX5_tap_109 : decode cX5_tap 109 = .ok (.iload_n 1, 1) := by decide +kernel
theorem dX5_tap_110 : decode cX5_tap 110 = .ok (.daload, 1) := by decide +kernel
theorem dX5_tap_111 : decode cX5_tap 111 = .ok (.dsub, 1) := by decide +kernel
theorem dX5_tap_112 : decode cX5_tap 112 = .ok (.dmul, 1) := by decide +kernel
theorem dX5_tap_113 : decode cX5_tap 113 = .ok (.dadd, 1) := by decide +kernel
theorem dX5_tap_114 : decode cX5_tap 114 = .ok (.ddiv, 1) := by decide +kernel
theorem dX5_tap_115 : decode cX5_tap 115 = .ok (.dreturn, 1) := by decide +kernel
