theorem dX5_thrown_0 : decode cX5_thrown 0 = .ok (.aload_n 0, 1) := by decide +kernel
theorem dX5_thrown_1 : decode cX5_thrown 1 = .ok (.getfield 55, 3) := by decide +kernel
theorem dX5_thrown_4 : decode cX5_thrown 4 = .ok (.ireturn, 1) := by decide +kernel
theorem dX5_between_0 : decode cX5_between 0 = .ok (.dload_n 0, 1) := by decide +kernel
theorem dX5_between_1 : decode cX5_between 1 = .ok (.dload_n 2, 1) := by decide +kernel
theorem dX5_between_2 : decode cX5_between 2 = .ok (.dcmp .l, 1) := by decide +kernel
theorem dX5_between_3 : decode cX5_between 3 = .ok (.ifCond .lt 14, 3) := by decide +kernel
theorem dX5_between_6 : decode cX5_between 6 = .ok (.dload_n 0, 1) := by decide +kernel
theorem dX5_between_7 : decode cX5_between 7 = .ok (.dload 4, 2) := by decide +kernel
theorem dX5_between_9 : decode cX5_between 9 = .ok (.dcmp .g, 1) := by decide +kernel
theorem dX5_between_10 : decode cX5_between 10 = .ok (.ifCond .gt 7, 3) := by decide +kernel
theorem dX5_between_13 : decode cX5_between 13 = .ok (.iconst 1, 1) := by decide +kernel
theorem dX5_between_14 : decode cX5_between 14 = .ok (.goto 4, 3) := by decide +kernel
theorem dX5_between_17 : decode cX5_between 17 = .ok (.iconst 0, 1) := by decide +kernel
theorem dX5_between_18 : decode cX5_between 18 = .ok (.ireturn, 1) := by decide +kernel
theorem dX5_noCell_0 : decode cX5_noCell 0 = .ok (.iload_n 1, 1) := by decide +kernel
theorem dX5_noCell_1 : decode cX5_noCell 1 = .ok (.ifCond .lt 23, 3) := by decide +kernel
theorem dX5_noCell_4 : decode cX5_noCell 4 = .ok (.iload_n 1, 1) := by decide +kernel
theorem dX5_noCell_5 : decode cX5_noCell 5 = .ok (.aload_n 0, 1) := by decide +kernel
theorem dX5_noCell_6 : decode cX5_noCell 6 = .ok (.getfield 48, 3) := by decide +kernel
theorem dX5_noCell_9 : decode cX5_noCell 9 = .ok (.if_icmp .ge 15, 3) := by decide +kernel
theorem dX5_noCell_12 : decode cX5_noCell 12 = .ok (.iload_n 2, 1) := by decide +kernel
theorem dX5_noCell_13 : decode cX5_noCell 13 = .ok (.ifCond .lt 11, 3) := by decide +kernel
theorem dX5_noCell_16 : decode cX5_noCell 16 = .ok (.iload_n 2, 1) := by decide +kernel
theorem dX5_noCell_17 : decode cX5_noCell 17 = .ok (.aload_n 0, 1) := by decide +kernel
theorem dX5_noCell_18 : decode cX5_noCell 18 = .ok (.getfield 52, 3) := by decide +kernel
theorem dX5_noCell_21 : decode cX5_noCell 21 = .ok (.if_icmp .lt 7, 3) := by decide +kernel
theorem dX5_noCell_24 : decode cX5_noCell 24 = .ok (.iconst 1, 1) := by decide +kernel
theorem dX5_noCell_25 : decode cX5_noCell 25 = .ok (.goto 4, 3) := by decide +kernel
theorem dX5_noCell_28 : decode cX5_noCell 28 = .ok (.iconst 0, 1) := by decide +kernel
theorem dX5_noCell_29 : decode cX5_noCell 29 = .ok (.ireturn, 1) := by decide +kernel
theorem dX5_root_0 : decode cX5_root 0 = .ok (.dload_n 0, 1) := by decide +kernel
theorem dX5_root_1 : decode cX5_root 1 = .ok (.dconst 0, 1) := by decide +kernel
theorem dX5_root_2 : decode cX5_root 2 = .ok (.dcmp .l, 1) := by decide +kernel
theorem dX5_root_3 : decode cX5_root 3 = .ok (.ifCond .gt 5, 3) := by decide +kernel
theorem dX5_root_6 : decode cX5_root 6 = .ok (.dconst 0, 1) := by decide +kernel
theorem dX5_root_7 : decode cX5_root 7 = .ok (.dreturn, 1) := by decide +kernel
theorem dX5_root_8 : decode cX5_root 8 = .ok (.dconst 1, 1) := by decide +kernel
theorem dX5_root_9 : decode cX5_root 9 = .ok (.dload_n 0, 1) := by decide +kernel
theorem dX5_root_10 : decode cX5_root 10 = .ok (.dadd, 1) := by decide +kernel
theorem dX5_root_11 : decode cX5_root 11 = .ok (.dstore_n 2, 1) := by decide +kernel
theorem dX5_root_12 : decode cX5_root 12 = .ok (.iconst 0, 1) := by decide +kernel
theorem dX5_root_13 : decode cX5_root 13 = .ok (.istore 4, 2) := by decide +kernel
theorem dX5_root_15 : decode cX5_root 15 = .ok (.iload 4, 2) := by decide +kernel
theorem dX5_root_17 : decode cX5_root 17 = .ok (.bipush 30, 2) := by decide +kernel
theorem dX5_root_19 : decode cX5_root 19 = .ok (.if_icmp .ge 19, 3) := by decide +kernel
theorem dX5_root_22 : decode cX5_root 22 = .ok (.dload_n 2, 1) := by decide +kernel
theorem dX5_root_23 : decode cX5_root 23 = .ok (.dload_n 0, 1) := by decide +kernel
theorem dX5_root_24 : decode cX5_root 24 = .ok (.dload_n 2, 1) := by decide +kernel
theorem dX5_root_25 : decode cX5_root 25 = .ok (.ddiv, 1) := by decide +kernel
theorem dX5_root_26 : decode cX5_root 26 = .ok (.dadd, 1) := by decide +kernel
theorem dX5_root_27 : decode cX5_root 27 = .ok (.ldc2_w 58, 3) := by decide +kernel
theorem dX5_root_30 : decode cX5_root 30 = .ok (.ddiv, 1) := by decide +kernel
theorem dX5_root_31 : decode cX5_root 31 = .ok (.dstore_n 2, 1) := by decide +kernel
theorem dX5_root_32 : decode cX5_root 32 = .ok (.iinc 4 1, 3) := by decide +kernel
theorem dX5_root_35 : decode cX5_root 35 = .ok (.goto (-20), 3) := by decide +kernel
theorem dX5_root_38 : decode cX5_root 38 = .ok (.dload_n 2, 1) := by decide +kernel
theorem dX5_root_39 : decode cX5_root 39 = .ok (.dreturn, 1) := by decide +kernel
theorem dX5_isWood_0 : decode cX5_isWood 0 = .ok (.aload_n 0, 1) := by decide +kernel
theorem dX5_isWood_1 : decode cX5_isWood 1 = .ok (.getfield 7, 3) := by decide +kernel
theorem dX5_isWood_4 : decode cX5_isWood 4 = .ok (.iload_n 1, 1) := by decide +kernel
theorem dX5_isWood_5 : decode cX5_isWood 5 = .ok (.daload, 1) := by decide +kernel
theorem dX5_isWood_6 : decode cX5_isWood 6 = .ok (.dconst 0, 1) := by decide +kernel
theorem dX5_isWood_7 : decode cX5_isWood 7 = .ok (.dcmp .l, 1) := by decide +kernel
theorem dX5_isWood_8 : decode cX5_isWood 8 = .ok (.ifCond .le 7, 3) := by decide +kernel
theorem dX5_isWood_11 : decode cX5_isWood 11 = .ok (.iconst 1, 1) := by decide +kernel
theorem dX5_isWood_12 : decode cX5_isWood 12 = .ok (.goto 4, 3) := by decide +kernel
theorem dX5_isWood_15 : decode cX5_isWood 15 = .ok (.iconst 0, 1) := by decide +kernel
theorem dX5_isWood_16 : decode cX5_isWood 16 = .ok (.ireturn, 1) := by decide +kernel
theorem dX5_spring_0 : decode cX5_spring 0 = .ok (.dload_n 2, 1) := by decide +kernel
theorem dX5_spring_1 : decode cX5_spring 1 = .ok (.dload 4, 2) := by decide +kernel
theorem dX5_spring_3 : decode cX5_spring 3 = .ok (.dadd, 1) := by decide +kernel
theorem dX5_spring_4 : decode cX5_spring 4 = .ok (.ldc2_w 58, 3) := by decide +kernel
theorem dX5_spring_7 : decode cX5_spring 7 = .ok (.ddiv, 1) := by decide +kernel
theorem dX5_spring_8 : decode cX5_spring 8 = .ok (.dstore 6, 2) := by decide +kernel
theorem dX5_spring_10 : decode cX5_spring 10 = .ok (.dload_n 0, 1) := by decide +kernel
theorem dX5_spring_11 : decode cX5_spring 11 = .ok (.dload 6, 2) := by decide +kernel
theorem dX5_spring_13 : decode cX5_spring 13 = .ok (.dmul, 1) := by decide +kernel
theorem dX5_spring_14 : decode cX5_spring 14 = .ok (.dload 6, 2) := by decide +kernel
theorem dX5_spring_16 : decode cX5_spring 16 = .ok (.dmul, 1) := by decide +kernel
theorem dX5_spring_17 : decode cX5_spring 17 = .ok (.dload 6, 2) := by decide +kernel
theorem dX5_spring_19 : decode cX5_spring 19 = .ok (.dmul, 1) := by decide +kernel
theorem dX5_spring_20 : decode cX5_spring 20 = .ok (.dreturn, 1) := by decide +kernel
theorem dX5_force_0 : decode cX5_force 0 = .ok (.bipush 6, 2) := by decide +kernel
theorem dX5_force_2 : decode cX5_force 2 = .ok (.iload_n 3, 1) := by decide +kernel
theorem dX5_force_3 : decode cX5_force 3 = .ok (.imul, 1) := by decide +kernel
theorem dX5_force_4 : decode cX5_force 4 = .ok (.iload_n 2, 1) := by decide +kernel
theorem dX5_force_5 : decode cX5_force 5 = .ok (.iadd, 1) := by decide +kernel
theorem dX5_force_6 : decode cX5_force 6 = .ok (.istore 4, 2) := by decide +kernel
theorem dX5_force_8 : decode cX5_force 8 = .ok (.bipush 36, 2) := by decide +kernel
theorem dX5_force_10 : decode cX5_force 10 = .ok (.iload_n 1, 1) := by decide +kernel
theorem dX5_force_11 : decode cX5_force 11 = .ok (.imul, 1) := by decide +kernel
theorem dX5_force_12 : decode cX5_force 12 = .ok (.iload 4, 2) := by decide +kernel
theorem dX5_force_14 : decode cX5_force 14 = .ok (.iadd, 1) := by decide +kernel
theorem dX5_force_15 : decode cX5_force 15 = .ok (.istore 5, 2) := by decide +kernel
theorem dX5_force_17 : decode cX5_force 17 = .ok (.dconst 0, 1) := by decide +kernel
theorem dX5_force_18 : decode cX5_force 18 = .ok (.dstore 6, 2) := by decide +kernel
theorem dX5_force_20 : decode cX5_force 20 = .ok (.iload_n 2, 1) := by decide +kernel
theorem dX5_force_21 : decode cX5_force 21 = .ok (.iconst 1, 1) := by decide +kernel
theorem dX5_force_22 : decode cX5_force 22 = .ok (.iadd, 1) := by decide +kernel
theorem dX5_force_23 : decode cX5_force 23 = .ok (.aload_n 0, 1) := by decide +kernel
theorem dX5_force_24 : decode cX5_force 24 = .ok (.getfield 48, 3) := by decide +kernel
theorem dX5_force_27 : decode cX5_force 27 = .ok (.if_icmp .ge 34, 3) := by decide +kernel
theorem dX5_force_30 : decode cX5_force 30 = .ok (.dload 6, 2) := by decide +kernel
theorem dX5_force_32 : decode cX5_force 32 = .ok (.aload_n 0, 1) := by decide +kernel
theorem dX5_force_33 : decode cX5_force 33 = .ok (.getfield 30, 3) := by decide +kernel
theorem dX5_force_36 : decode cX5_force 36 = .ok (.iload 4, 2) := by decide +kernel
theorem dX5_force_38 : decode cX5_force 38 = .ok (.daload, 1) := by decide +kernel
theorem dX5_force_39 : decode cX5_force 39 = .ok (.aload_n 0, 1) := by decide +kernel
theorem dX5_force_40 : decode cX5_force 40 = .ok (.getfield 36, 3) := by decide +kernel
theorem dX5_force_43 : decode cX5_force 43 = .ok (.iload 5, 2) := by decide +kernel
theorem dX5_force_45 : decode cX5_force 45 = .ok (.iconst 1, 1) := by decide +kernel
theorem dX5_force_46 : decode cX5_force 46 = .ok (.iadd, 1) := by decide +kernel
theorem dX5_force_47 : decode cX5_force 47 = .ok (.daload, 1) := by decide +kernel
theorem dX5_force_48 : decode cX5_force 48 = .ok (.aload_n 0, 1) := by decide +kernel
theorem dX5_force_49 : decode cX5_force 49 = .ok (.getfield 36, 3) := by decide +kernel
theorem dX5_force_52 : decode cX5_force 52 = .ok (.iload 5, 2) := by decide +kernel
theorem dX5_force_54 : decode cX5_force 54 = .ok (.daload, 1) := by decide +kernel
theorem dX5_force_55 : decode cX5_force 55 = .ok (.dsub, 1) := by decide +kernel
theorem dX5_force_56 : decode cX5_force 56 = .ok (.dmul, 1) := by decide +kernel
theorem dX5_force_57 : decode cX5_force 57 = .ok (.dadd, 1) := by decide +kernel
theorem dX5_force_58 : decode cX5_force 58 = .ok (.goto 5, 3) := by decide +kernel
theorem dX5_force_61 : decode cX5_force 61 = .ok (.dload 6, 2) := by decide +kernel
theorem dX5_force_63 : decode cX5_force 63 = .ok (.dstore 6, 2) := by decide +kernel
theorem dX5_force_65 : decode cX5_force 65 = .ok (.iload_n 2, 1) := by decide +kernel
theorem dX5_force_66 : decode cX5_force 66 = .ok (.ifCond .le 36, 3) := by decide +kernel
theorem dX5_force_69 : decode cX5_force 69 = .ok (.dload 6, 2) := by decide +kernel
theorem dX5_force_71 : decode cX5_force 71 = .ok (.aload_n 0, 1) := by decide +kernel
theorem dX5_force_72 : decode cX5_force 72 = .ok (.getfield 30, 3) := by decide +kernel
theorem dX5_force_75 : decode cX5_force 75 = .ok (.iload 4, 2) := by decide +kernel
theorem dX5_force_77 : decode cX5_force 77 = .ok (.iconst 1, 1) := by decide +kernel
theorem dX5_force_78 : decode cX5_force 78 = .ok (.isub, 1) := by decide +kernel
theorem dX5_force_79 : decode cX5_force 79 = .ok (.daload, 1) := by decide +kernel
theorem dX5_force_80 : decode cX5_force 80 = .ok (.aload_n 0, 1) := by decide +kernel
theorem dX5_force_81 : decode cX5_force 81 = .ok (.getfield 36, 3) := by decide +kernel
theorem dX5_force_84 : decode cX5_force 84 = .ok (.iload 5, 2) := by decide +kernel
theorem dX5_force_86 : decode cX5_force 86 = .ok (.iconst 1, 1) := by decide +kernel
theorem dX5_force_87 : decode cX5_force 87 = .ok (.isub, 1) := by decide +kernel
theorem dX5_force_88 : decode cX5_force 88 = .ok (.daload, 1) := by decide +kernel
theorem dX5_force_89 : decode cX5_force 89 = .ok (.aload_n 0, 1) := by decide +kernel
theorem dX5_force_90 : decode cX5_force 90 = .ok (.getfield 36, 3) := by decide +kernel
theorem dX5_force_93 : decode cX5_force 93 = .ok (.iload 5, 2) := by decide +kernel
theorem dX5_force_95 : decode cX5_force 95 = .ok (.daload, 1) := by decide +kernel
theorem dX5_force_96 : decode cX5_force 96 = .ok (.dsub, 1) := by decide +kernel
theorem dX5_force_97 : decode cX5_force 97 = .ok (.dmul, 1) := by decide +kernel
theorem dX5_force_98 : decode cX5_force 98 = .ok (.dadd, 1) := by decide +kernel
theorem dX5_force_99 : decode cX5_force 99 = .ok (.goto 5, 3) := by decide +kernel
theorem dX5_force_102 : decode cX5_force 102 = .ok (.dload 6, 2) := by decide +kernel
theorem dX5_force_104 : decode cX5_force 104 = .ok (.dstore 6, 2) := by decide +kernel
theorem dX5_force_106 : decode cX5_force 106 = .ok (.iload_n 3, 1) := by decide +kernel
theorem dX5_force_107 : decode cX5_force 107 = .ok (.iconst 1, 1) := by decide +kernel
theorem dX5_force_108 : decode cX5_force 108 = .ok (.iadd, 1) := by decide +kernel
theorem dX5_force_109 : decode cX5_force 109 = .ok (.aload_n 0, 1) := by decide +kernel
theorem dX5_force_110 : decode cX5_force 110 = .ok (.getfield 52, 3) := by decide +kernel
theorem dX5_force_113 : decode cX5_force 113 = .ok (.if_icmp .ge 35, 3) := by decide +kernel
theorem dX5_force_116 : decode cX5_force 116 = .ok (.dload 6, 2) := by decide +kernel
theorem dX5_force_118 : decode cX5_force 118 = .ok (.aload_n 0, 1) := by decide +kernel
theorem dX5_force_119 : decode cX5_force 119 = .ok (.getfield 33, 3) := by decide +kernel
theorem dX5_force_122 : decode cX5_force 122 = .ok (.iload 4, 2) := by decide +kernel
theorem dX5_force_124 : decode cX5_force 124 = .ok (.daload, 1) := by decide +kernel
theorem dX5_force_125 : decode cX5_force 125 = .ok (.aload_n 0, 1) := by decide +kernel
theorem dX5_force_126 : decode cX5_force 126 = .ok (.getfield 36, 3) := by decide +kernel
theorem dX5_force_129 : decode cX5_force 129 = .ok (.iload 5, 2) := by decide +kernel
theorem dX5_force_131 : decode cX5_force 131 = .ok (.bipush 6, 2) := by decide +kernel
theorem dX5_force_133 : decode cX5_force 133 = .ok (.iadd, 1) := by decide +kernel
theorem dX5_force_134 : decode cX5_force 134 = .ok (.daload, 1) := by decide +kernel
theorem dX5_force_135 : decode cX5_force 135 = .ok (.aload_n 0, 1) := by decide +kernel
theorem dX5_force_136 : decode cX5_force 136 = .ok (.getfield 36, 3) := by decide +kernel
theorem dX5_force_139 : decode cX5_force 139 = .ok (.iload 5, 2) := by decide +kernel
theorem dX5_force_141 : decode cX5_force 141 = .ok (.daload, 1) := by decide +kernel
theorem dX5_force_142 : decode cX5_force 142 = .ok (.dsub, 1) := by decide +kernel
theorem dX5_force_143 : decode cX5_force 143 = .ok (.dmul, 1) := by decide +kernel
theorem dX5_force_144 : decode cX5_force 144 = .ok (.dadd, 1) := by decide +kernel
theorem dX5_force_145 : decode cX5_force 145 = .ok (.goto 5, 3) := by decide +kernel
theorem dX5_force_148 : decode cX5_force 148 = .ok (.dload 6, 2) := by decide +kernel
theorem dX5_force_150 : decode cX5_force 150 = .ok (.dstore 6, 2) := by decide +kernel
theorem dX5_force_152 : decode cX5_force 152 = .ok (.iload_n 3, 1) := by decide +kernel
theorem dX5_force_153 : decode cX5_force 153 = .ok (.ifCond .le 38, 3) := by decide +kernel
theorem dX5_force_156 : decode cX5_force 156 = .ok (.dload 6, 2) := by decide +kernel
theorem dX5_force_158 : decode cX5_force 158 = .ok (.aload_n 0, 1) := by decide +kernel
theorem dX5_force_159 : decode cX5_force 159 = .ok (.getfield 33, 3) := by decide +kernel
theorem dX5_force_162 : decode cX5_force 162 = .ok (.iload 4, 2) := by decide +kernel
theorem dX5_force_164 : decode cX5_force 164 = .ok (.bipush 6, 2) := by decide +kernel
theorem dX5_force_166 : decode cX5_force 166 = .ok (.isub, 1) := by decide +kernel
theorem dX5_force_167 : decode cX5_force 167 = .ok (.daload, 1) := by decide +kernel
theorem dX5_force_168 : decode cX5_force 168 = .ok (.aload_n 0, 1) := by decide +kernel
theorem dX5_force_169 : decode cX5_force 169 = .ok (.getfield 36, 3) := by decide +kernel
theorem dX5_force_172 : decode cX5_force 172 = .ok (.iload 5, 2) := by decide +kernel
theorem dX5_force_174 : decode cX5_force 174 = .ok (.bipush 6, 2) := by decide +kernel
theorem dX5_force_176 : decode cX5_force 176 = .ok (.isub, 1) := by decide +kernel
theorem dX5_force_177 : decode cX5_force 177 = .ok (.daload, 1) := by decide +kernel
theorem dX5_force_178 : decode cX5_force 178 = .ok (.aload_n 0, 1) := by decide +kernel
theorem dX5_force_179 : decode cX5_force 179 = .ok (.getfield 36, 3) := by decide +kernel
theorem dX5_force_182 : decode cX5_force 182 = .ok (.iload 5, 2) := by decide +kernel
theorem dX5_force_184 : decode cX5_force 184 = .ok (.daload, 1) := by decide +kernel
theorem dX5_force_185 : decode cX5_force 185 = .ok (.dsub, 1) := by decide +kernel
theorem dX5_force_186 : decode cX5_force 186 = .ok (.dmul, 1) := by decide +kernel
theorem dX5_force_187 : decode cX5_force 187 = .ok (.dadd, 1) := by decide +kernel
theorem dX5_force_188 : decode cX5_force 188 = .ok (.goto 5, 3) := by decide +kernel
theorem dX5_force_191 : decode cX5_force 191 = .ok (.dload 6, 2) := by decide +kernel
theorem dX5_force_193 : decode cX5_force 193 = .ok (.dstore 6, 2) := by decide +kernel
theorem dX5_force_195 : decode cX5_force 195 = .ok (.dload 6, 2) := by decide +kernel
theorem dX5_force_197 : decode cX5_force 197 = .ok (.ldc2_w 87, 3) := by decide +kernel
theorem dX5_force_200 : decode cX5_force 200 = .ok (.aload_n 0, 1) := by decide +kernel
theorem dX5_force_201 : decode cX5_force 201 = .ok (.getfield 36, 3) := by decide +kernel
theorem dX5_force_204 : decode cX5_force 204 = .ok (.iload 5, 2) := by decide +kernel
theorem dX5_force_206 : decode cX5_force 206 = .ok (.daload, 1) := by decide +kernel
theorem dX5_force_207 : decode cX5_force 207 = .ok (.dmul, 1) := by decide +kernel
theorem dX5_force_208 : decode cX5_force 208 = .ok (.dsub, 1) := by decide +kernel
theorem dX5_force_209 : decode cX5_force 209 = .ok (.dreturn, 1) := by decide +kernel
theorem dX5_hold_0 : decode cX5_hold 0 = .ok (.bipush 6, 2) := by decide +kernel
theorem dX5_hold_2 : decode cX5_hold 2 = .ok (.iload_n 2, 1) := by decide +kernel
theorem dX5_hold_3 : decode cX5_hold 3 = .ok (.imul, 1) := by decide +kernel
theorem dX5_hold_4 : decode cX5_hold 4 = .ok (.iload_n 1, 1) := by decide +kernel
theorem dX5_hold_5 : decode cX5_hold 5 = .ok (.iadd, 1) := by decide +kernel
theorem dX5_hold_6 : decode cX5_hold 6 = .ok (.istore_n 3, 1) := by decide +kernel
theorem dX5_hold_7 : decode cX5_hold 7 = .ok (.ldc2_w 87, 3) := by decide +kernel
theorem dX5_hold_10 : decode cX5_hold 10 = .ok (.dstore 4, 2) := by decide +kernel
theorem dX5_hold_12 : decode cX5_hold 12 = .ok (.iload_n 1, 1) := by decide +kernel
theorem dX5_hold_13 : decode cX5_hold 13 = .ok (.iconst 1, 1) := by decide +kernel
theorem dX5_hold_14 : decode cX5_hold 14 = .ok (.iadd, 1) := by decide +kernel
theorem dX5_hold_15 : decode cX5_hold 15 = .ok (.aload_n 0, 1) := by decide +kernel
theorem dX5_hold_16 : decode cX5_hold 16 = .ok (.getfield 48, 3) := by decide +kernel
theorem dX5_hold_19 : decode cX5_hold 19 = .ok (.if_icmp .ge 15, 3) := by decide +kernel
theorem dX5_hold_22 : decode cX5_hold 22 = .ok (.dload 4, 2) := by decide +kernel
theorem dX5_hold_24 : decode cX5_hold 24 = .ok (.aload_n 0, 1) := by decide +kernel
theorem dX5_hold_25 : decode cX5_hold 25 = .ok (.getfield 30, 3) := by decide +kernel
theorem dX5_hold_28 : decode cX5_hold 28 = .ok (.iload_n 3, 1) := by decide +kernel
theorem dX5_hold_29 : decode cX5_hold 29 = .ok (.daload, 1) := by decide +kernel
theorem dX5_hold_30 : decode cX5_hold 30 = .ok (.dadd, 1) := by decide +kernel
theorem dX5_hold_31 : decode cX5_hold 31 = .ok (.goto 5, 3) := by decide +kernel
theorem dX5_hold_34 : decode cX5_hold 34 = .ok (.dload 4, 2) := by decide +kernel
theorem dX5_hold_36 : decode cX5_hold 36 = .ok (.dstore 4, 2) := by decide +kernel
theorem dX5_hold_38 : decode cX5_hold 38 = .ok (.iload_n 1, 1) := by decide +kernel
theorem dX5_hold_39 : decode cX5_hold 39 = .ok (.ifCond .le 17, 3) := by decide +kernel
theorem dX5_hold_42 : decode cX5_hold 42 = .ok (.dload 4, 2) := by decide +kernel
theorem dX5_hold_44 : decode cX5_hold 44 = .ok (.aload_n 0, 1) := by decide +kernel
theorem dX5_hold_45 : decode cX5_hold 45 = .ok (.getfield 30, 3) := by decide +kernel
theorem dX5_hold_48 : decode cX5_hold 48 = .ok (.iload_n 3, 1) := by decide +kernel
theorem dX5_hold_49 : decode cX5_hold 49 = .ok (.iconst 1, 1) := by decide +kernel
theorem dX5_hold_50 : decode cX5_hold 50 = .ok (.isub, 1) := by decide +kernel
theorem dX5_hold_51 : decode cX5_hold 51 = .ok (.daload, 1) := by decide +kernel
theorem dX5_hold_52 : decode cX5_hold 52 = .ok (.dadd, 1) := by decide +kernel
theorem dX5_hold_53 : decode cX5_hold 53 = .ok (.goto 5, 3) := by decide +kernel
theorem dX5_hold_56 : decode cX5_hold 56 = .ok (.dload 4, 2) := by decide +kernel
theorem dX5_hold_58 : decode cX5_hold 58 = .ok (.dstore 4, 2) := by decide +kernel
theorem dX5_hold_60 : decode cX5_hold 60 = .ok (.iload_n 2, 1) := by decide +kernel
theorem dX5_hold_61 : decode cX5_hold 61 = .ok (.iconst 1, 1) := by decide +kernel
theorem dX5_hold_62 : decode cX5_hold 62 = .ok (.iadd, 1) := by decide +kernel
theorem dX5_hold_63 : decode cX5_hold 63 = .ok (.aload_n 0, 1) := by decide +kernel
theorem dX5_hold_64 : decode cX5_hold 64 = .ok (.getfield 52, 3) := by decide +kernel
theorem dX5_hold_67 : decode cX5_hold 67 = .ok (.if_icmp .ge 15, 3) := by decide +kernel
theorem dX5_hold_70 : decode cX5_hold 70 = .ok (.dload 4, 2) := by decide +kernel
theorem dX5_hold_72 : decode cX5_hold 72 = .ok (.aload_n 0, 1) := by decide +kernel
theorem dX5_hold_73 : decode cX5_hold 73 = .ok (.getfield 33, 3) := by decide +kernel
theorem dX5_hold_76 : decode cX5_hold 76 = .ok (.iload_n 3, 1) := by decide +kernel
theorem dX5_hold_77 : decode cX5_hold 77 = .ok (.daload, 1) := by decide +kernel
theorem dX5_hold_78 : decode cX5_hold 78 = .ok (.dadd, 1) := by decide +kernel
theorem dX5_hold_79 : decode cX5_hold 79 = .ok (.goto 5, 3) := by decide +kernel
theorem dX5_hold_82 : decode cX5_hold 82 = .ok (.dload 4, 2) := by decide +kernel
theorem dX5_hold_84 : decode cX5_hold 84 = .ok (.dstore 4, 2) := by decide +kernel
theorem dX5_hold_86 : decode cX5_hold 86 = .ok (.iload_n 2, 1) := by decide +kernel
theorem dX5_hold_87 : decode cX5_hold 87 = .ok (.ifCond .le 18, 3) := by decide +kernel
theorem dX5_hold_90 : decode cX5_hold 90 = .ok (.dload 4, 2) := by decide +kernel
theorem dX5_hold_92 : decode cX5_hold 92 = .ok (.aload_n 0, 1) := by decide +kernel
theorem dX5_hold_93 : decode cX5_hold 93 = .ok (.getfield 33, 3) := by decide +kernel
theorem dX5_hold_96 : decode cX5_hold 96 = .ok (.iload_n 3, 1) := by decide +kernel
theorem dX5_hold_97 : decode cX5_hold 97 = .ok (.bipush 6, 2) := by decide +kernel
theorem dX5_hold_99 : decode cX5_hold 99 = .ok (.isub, 1) := by decide +kernel
theorem dX5_hold_100 : decode cX5_hold 100 = .ok (.daload, 1) := by decide +kernel
theorem dX5_hold_101 : decode cX5_hold 101 = .ok (.dadd, 1) := by decide +kernel
theorem dX5_hold_102 : decode cX5_hold 102 = .ok (.goto 5, 3) := by decide +kernel
theorem dX5_hold_105 : decode cX5_hold 105 = .ok (.dload 4, 2) := by decide +kernel
theorem dX5_hold_107 : decode cX5_hold 107 = .ok (.dreturn, 1) := by decide +kernel
theorem dX5_mass_0 : decode cX5_mass 0 = .ok (.aload_n 0, 1) := by decide +kernel
theorem dX5_mass_1 : decode cX5_mass 1 = .ok (.getfield 7, 3) := by decide +kernel
theorem dX5_mass_4 : decode cX5_mass 4 = .ok (.iload_n 1, 1) := by decide +kernel
theorem dX5_mass_5 : decode cX5_mass 5 = .ok (.daload, 1) := by decide +kernel
theorem dX5_mass_6 : decode cX5_mass 6 = .ok (.aload_n 0, 1) := by decide +kernel
theorem dX5_mass_7 : decode cX5_mass 7 = .ok (.getfield 20, 3) := by decide +kernel
theorem dX5_mass_10 : decode cX5_mass 10 = .ok (.dmul, 1) := by decide +kernel
theorem dX5_mass_11 : decode cX5_mass 11 = .ok (.dreturn, 1) := by decide +kernel
set_option maxRecDepth 20000 in
theorem ggX5_productOf_X5_isWood : GoodIn wsX5_productOf wsX5_isWood := goodIn_r _ [8, 9, 15, 16, 17, 18, 19, 20, 21, 22, 23, 24, 25, 26, 27, 28, 29, 30, 31, 32, 33] (by decide +kernel) (by decide +kernel)
set_option maxRecDepth 20000 in
theorem gX5_productOf_X5_isWood : GoodIn wsX5_productOf (wsV RX5 79 RX5 yX5_isWood wsX5_isWood) := goodIn_app (goodIn_of _ (by decide +kernel)) ggX5_productOf_X5_isWood
set_option maxRecDepth 20000 in
theorem ggX5_productOf_X5_mass : GoodIn wsX5_productOf wsX5_mass := goodIn_r _ [13, 9, 14, 15, 16, 17, 18, 19, 20, 21, 22, 23, 24, 25, 26, 27, 28, 29, 30, 31, 32, 33] (by decide +kernel) (by decide +kernel)
set_option maxRecDepth 20000 in
theorem gX5_productOf_X5_mass : GoodIn wsX5_productOf (wsV RX5 89 RX5 yX5_mass wsX5_mass) := goodIn_app (goodIn_of _ (by decide +kernel)) ggX5_productOf_X5_mass
theorem dX5_productOf_0 : decode cX5_productOf 0 = .ok (.dconst 0, 1) := by decide +kernel
theorem dX5_productOf_1 : decode cX5_productOf 1 = .ok (.dstore_n 3, 1) := by decide +kernel
theorem dX5_productOf_2 : decode cX5_productOf 2 = .ok (.iconst 0, 1) := by decide +kernel
theorem dX5_productOf_3 : decode cX5_productOf 3 = .ok (.istore 5, 2) := by decide +kernel
theorem dX5_productOf_5 : decode cX5_productOf 5 = .ok (.iload 5, 2) := by decide +kernel
theorem dX5_productOf_7 : decode cX5_productOf 7 = .ok (.aload_n 0, 1) := by decide +kernel
theorem dX5_productOf_8 : decode cX5_productOf 8 = .ok (.getfield 52, 3) := by decide +kernel
theorem dX5_productOf_11 : decode cX5_productOf 11 = .ok (.if_icmp .ge 85, 3) := by decide +kernel
theorem dX5_productOf_14 : decode cX5_productOf 14 = .ok (.iconst 0, 1) := by decide +kernel
theorem dX5_productOf_15 : decode cX5_productOf 15 = .ok (.istore 6, 2) := by decide +kernel
theorem dX5_productOf_17 : decode cX5_productOf 17 = .ok (.iload 6, 2) := by decide +kernel
theorem dX5_productOf_19 : decode cX5_productOf 19 = .ok (.aload_n 0, 1) := by decide +kernel
theorem dX5_productOf_20 : decode cX5_productOf 20 = .ok (.getfield 48, 3) := by decide +kernel
theorem dX5_productOf_23 : decode cX5_productOf 23 = .ok (.if_icmp .ge 67, 3) := by decide +kernel
theorem dX5_productOf_26 : decode cX5_productOf 26 = .ok (.bipush 6, 2) := by decide +kernel
theorem dX5_productOf_28 : decode cX5_productOf 28 = .ok (.iload 5, 2) := by decide +kernel
theorem dX5_productOf_30 : decode cX5_productOf 30 = .ok (.imul, 1) := by decide +kernel
theorem dX5_productOf_31 : decode cX5_productOf 31 = .ok (.iload 6, 2) := by decide +kernel
theorem dX5_productOf_33 : decode cX5_productOf 33 = .ok (.iadd, 1) := by decide +kernel
theorem dX5_productOf_34 : decode cX5_productOf 34 = .ok (.istore 7, 2) := by decide +kernel
theorem dX5_productOf_36 : decode cX5_productOf 36 = .ok (.aload_n 0, 1) := by decide +kernel
theorem dX5_productOf_37 : decode cX5_productOf 37 = .ok (.iload 7, 2) := by decide +kernel
theorem dX5_productOf_39 : decode cX5_productOf 39 = .ok (.invokevirtual 79, 3) := by decide +kernel
theorem dX5_productOf_42 : decode cX5_productOf 42 = .ok (.ifCond .eq 40, 3) := by decide +kernel
theorem dX5_productOf_45 : decode cX5_productOf 45 = .ok (.dload_n 3, 1) := by decide +kernel
theorem dX5_productOf_46 : decode cX5_productOf 46 = .ok (.aload_n 0, 1) := by decide +kernel
theorem dX5_productOf_47 : decode cX5_productOf 47 = .ok (.iload 7, 2) := by decide +kernel
theorem dX5_productOf_49 : decode cX5_productOf 49 = .ok (.invokevirtual 89, 3) := by decide +kernel
theorem dX5_productOf_52 : decode cX5_productOf 52 = .ok (.aload_n 0, 1) := by decide +kernel
theorem dX5_productOf_53 : decode cX5_productOf 53 = .ok (.getfield 36, 3) := by decide +kernel
theorem dX5_productOf_56 : decode cX5_productOf 56 = .ok (.bipush 36, 2) := by decide +kernel
theorem dX5_productOf_58 : decode cX5_productOf 58 = .ok (.iload_n 1, 1) := by decide +kernel
theorem dX5_productOf_59 : decode cX5_productOf 59 = .ok (.imul, 1) := by decide +kernel
theorem dX5_productOf_60 : decode cX5_productOf 60 = .ok (.iload 7, 2) := by decide +kernel
theorem dX5_productOf_62 : decode cX5_productOf 62 = .ok (.iadd, 1) := by decide +kernel
theorem dX5_productOf_63 : decode cX5_productOf 63 = .ok (.daload, 1) := by decide +kernel
theorem dX5_productOf_64 : decode cX5_productOf 64 = .ok (.dmul, 1) := by decide +kernel
theorem dX5_productOf_65 : decode cX5_productOf 65 = .ok (.aload_n 0, 1) := by decide +kernel
theorem dX5_productOf_66 : decode cX5_productOf 66 = .ok (.getfield 36, 3) := by decide +kernel
theorem dX5_productOf_69 : decode cX5_productOf 69 = .ok (.bipush 36, 2) := by decide +kernel
theorem dX5_productOf_71 : decode cX5_productOf 71 = .ok (.iload_n 2, 1) := by decide +kernel
theorem dX5_productOf_72 : decode cX5_productOf 72 = .ok (.imul, 1) := by decide +kernel
theorem dX5_productOf_73 : decode cX5_productOf 73 = .ok (.iload 7, 2) := by decide +kernel
theorem dX5_productOf_75 : decode cX5_productOf 75 = .ok (.iadd, 1) := by decide +kernel
theorem dX5_productOf_76 : decode cX5_productOf 76 = .ok (.daload, 1) := by decide +kernel
theorem dX5_productOf_77 : decode cX5_productOf 77 = .ok (.dmul, 1) := by decide +kernel
theorem dX5_productOf_78 : decode cX5_productOf 78 = .ok (.dadd, 1) := by decide +kernel
theorem dX5_productOf_79 : decode cX5_productOf 79 = .ok (.goto 4, 3) := by decide +kernel
theorem dX5_productOf_82 : decode cX5_productOf 82 = .ok (.dload_n 3, 1) := by decide +kernel
theorem dX5_productOf_83 : decode cX5_productOf 83 = .ok (.dstore_n 3, 1) := by decide +kernel
theorem dX5_productOf_84 : decode cX5_productOf 84 = .ok (.iinc 6 1, 3) := by decide +kernel
theorem dX5_productOf_87 : decode cX5_productOf 87 = .ok (.goto (-70), 3) := by decide +kernel
theorem dX5_productOf_90 : decode cX5_productOf 90 = .ok (.iinc 5 1, 3) := by decide +kernel
theorem dX5_productOf_93 : decode cX5_productOf 93 = .ok (.goto (-88), 3) := by decide +kernel
theorem dX5_productOf_96 : decode cX5_productOf 96 = .ok (.dload_n 3, 1) := by decide +kernel
theorem dX5_productOf_97 : decode cX5_productOf 97 = .ok (.dreturn, 1) := by decide +kernel
theorem dX5_noMode_0 : decode cX5_noMode 0 = .ok (.iload_n 1, 1) := by decide +kernel
theorem dX5_noMode_1 : decode cX5_noMode 1 = .ok (.ifCond .lt 8, 3) := by decide +kernel
theorem dX5_noMode_4 : decode cX5_noMode 4 = .ok (.iload_n 1, 1) := by decide +kernel
theorem dX5_noMode_5 : decode cX5_noMode 5 = .ok (.iconst 4, 1) := by decide +kernel
theorem dX5_noMode_6 : decode cX5_noMode 6 = .ok (.if_icmp .lt 7, 3) := by decide +kernel
theorem dX5_noMode_9 : decode cX5_noMode 9 = .ok (.iconst 1, 1) := by decide +kernel
theorem dX5_noMode_10 : decode cX5_noMode 10 = .ok (.goto 4, 3) := by decide +kernel
theorem dX5_noMode_13 : decode cX5_noMode 13 = .ok (.iconst 0, 1) := by decide +kernel
theorem dX5_noMode_14 : decode cX5_noMode 14 = .ok (.ireturn, 1) := by decide +kernel
theorem dX5_check_0 : decode cX5_check 0 = .ok (.iload_n 1, 1) := by decide +kernel
theorem dX5_check_1 : decode cX5_check 1 = .ok (.ifCond .ne 7, 3) := by decide +kernel
theorem dX5_check_4 : decode cX5_check 4 = .ok (.iconst 1, 1) := by decide +kernel
theorem dX5_check_5 : decode cX5_check 5 = .ok (.goto 23, 3) := by decide +kernel
theorem dX5_check_8 : decode cX5_check 8 = .ok (.aload_n 0, 1) := by decide +kernel
theorem dX5_check_9 : decode cX5_check 9 = .ok (.getfield 72, 3) := by decide +kernel
theorem dX5_check_12 : decode cX5_check 12 = .ok (.ifCond .eq 15, 3) := by decide +kernel
theorem dX5_check_15 : decode cX5_check 15 = .ok (.iload_n 2, 1) := by decide +kernel
theorem dX5_check_16 : decode cX5_check 16 = .ok (.aload_n 0, 1) := by decide +kernel
theorem dX5_check_17 : decode cX5_check 17 = .ok (.getfield 116, 3) := by decide +kernel
theorem dX5_check_20 : decode cX5_check 20 = .ok (.if_icmp .ge 7, 3) := by decide +kernel
theorem dX5_check_23 : decode cX5_check 23 = .ok (.iconst 0, 1) := by decide +kernel
theorem dX5_check_24 : decode cX5_check 24 = .ok (.goto 4, 3) := by decide +kernel
theorem dX5_check_27 : decode cX5_check 27 = .ok (.iconst 2, 1) := by decide +kernel
theorem dX5_check_28 : decode cX5_check 28 = .ok (.ireturn, 1) := by decide +kernel
set_option maxRecDepth 20000 in
theorem ggX5_sumOf_X5_isWood : GoodIn wsX5_sumOf wsX5_isWood := goodIn_r _ [8, 9, 10, 11, 12, 13, 14, 15, 16, 17, 18, 19, 20, 21, 22, 23, 24, 25, 26, 27, 28] (by decide +kernel) (by decide +kernel)
set_option maxRecDepth 20000 in
theorem gX5_sumOf_X5_isWood : GoodIn wsX5_sumOf (wsV RX5 79 RX5 yX5_isWood wsX5_isWood) := goodIn_app (goodIn_of _ (by decide +kernel)) ggX5_sumOf_X5_isWood
theorem dX5_sumOf_0 : decode cX5_sumOf 0 = .ok (.dconst 0, 1) := by decide +kernel
theorem dX5_sumOf_1 : decode cX5_sumOf 1 = .ok (.dstore_n 2, 1) := by decide +kernel
theorem dX5_sumOf_2 : decode cX5_sumOf 2 = .ok (.iconst 0, 1) := by decide +kernel
theorem dX5_sumOf_3 : decode cX5_sumOf 3 = .ok (.istore 4, 2) := by decide +kernel
theorem dX5_sumOf_5 : decode cX5_sumOf 5 = .ok (.iload 4, 2) := by decide +kernel
theorem dX5_sumOf_7 : decode cX5_sumOf 7 = .ok (.aload_n 0, 1) := by decide +kernel
theorem dX5_sumOf_8 : decode cX5_sumOf 8 = .ok (.getfield 52, 3) := by decide +kernel
theorem dX5_sumOf_11 : decode cX5_sumOf 11 = .ok (.if_icmp .ge 67, 3) := by decide +kernel
theorem dX5_sumOf_14 : decode cX5_sumOf 14 = .ok (.iconst 0, 1) := by decide +kernel
theorem dX5_sumOf_15 : decode cX5_sumOf 15 = .ok (.istore 5, 2) := by decide +kernel
theorem dX5_sumOf_17 : decode cX5_sumOf 17 = .ok (.iload 5, 2) := by decide +kernel
theorem dX5_sumOf_19 : decode cX5_sumOf 19 = .ok (.aload_n 0, 1) := by decide +kernel
theorem dX5_sumOf_20 : decode cX5_sumOf 20 = .ok (.getfield 48, 3) := by decide +kernel
theorem dX5_sumOf_23 : decode cX5_sumOf 23 = .ok (.if_icmp .ge 49, 3) := by decide +kernel
theorem dX5_sumOf_26 : decode cX5_sumOf 26 = .ok (.aload_n 0, 1) := by decide +kernel
theorem dX5_sumOf_27 : decode cX5_sumOf 27 = .ok (.bipush 6, 2) := by decide +kernel
theorem dX5_sumOf_29 : decode cX5_sumOf 29 = .ok (.iload 4, 2) := by decide +kernel
theorem dX5_sumOf_31 : decode cX5_sumOf 31 = .ok (.imul, 1) := by decide +kernel
theorem dX5_sumOf_32 : decode cX5_sumOf 32 = .ok (.iload 5, 2) := by decide +kernel
theorem dX5_sumOf_34 : decode cX5_sumOf 34 = .ok (.iadd, 1) := by decide +kernel
theorem dX5_sumOf_35 : decode cX5_sumOf 35 = .ok (.invokevirtual 79, 3) := by decide +kernel
theorem dX5_sumOf_38 : decode cX5_sumOf 38 = .ok (.ifCond .eq 26, 3) := by decide +kernel
theorem dX5_sumOf_41 : decode cX5_sumOf 41 = .ok (.dload_n 2, 1) := by decide +kernel
theorem dX5_sumOf_42 : decode cX5_sumOf 42 = .ok (.aload_n 0, 1) := by decide +kernel
theorem dX5_sumOf_43 : decode cX5_sumOf 43 = .ok (.getfield 36, 3) := by decide +kernel
theorem dX5_sumOf_46 : decode cX5_sumOf 46 = .ok (.bipush 36, 2) := by decide +kernel
theorem dX5_sumOf_48 : decode cX5_sumOf 48 = .ok (.iload_n 1, 1) := by decide +kernel
theorem dX5_sumOf_49 : decode cX5_sumOf 49 = .ok (.imul, 1) := by decide +kernel
theorem dX5_sumOf_50 : decode cX5_sumOf 50 = .ok (.bipush 6, 2) := by decide +kernel
theorem dX5_sumOf_52 : decode cX5_sumOf 52 = .ok (.iload 4, 2) := by decide +kernel
theorem dX5_sumOf_54 : decode cX5_sumOf 54 = .ok (.imul, 1) := by decide +kernel
theorem dX5_sumOf_55 : decode cX5_sumOf 55 = .ok (.iadd, 1) := by decide +kernel
theorem dX5_sumOf_56 : decode cX5_sumOf 56 = .ok (.iload 5, 2) := by decide +kernel
theorem dX5_sumOf_58 : decode cX5_sumOf 58 = .ok (.iadd, 1) := by decide +kernel
theorem dX5_sumOf_59 : decode cX5_sumOf 59 = .ok (.daload, 1) := by decide +kernel
theorem dX5_sumOf_60 : decode cX5_sumOf 60 = .ok (.dadd, 1) := by decide +kernel
theorem dX5_sumOf_61 : decode cX5_sumOf 61 = .ok (.goto 4, 3) := by decide +kernel
theorem dX5_sumOf_64 : decode cX5_sumOf 64 = .ok (.dload_n 2, 1) := by decide +kernel
theorem dX5_sumOf_65 : decode cX5_sumOf 65 = .ok (.dstore_n 2, 1) := by decide +kernel
theorem dX5_sumOf_66 : decode cX5_sumOf 66 = .ok (.iinc 5 1, 3) := by decide +kernel
theorem dX5_sumOf_69 : decode cX5_sumOf 69 = .ok (.goto (-52), 3) := by decide +kernel
theorem dX5_sumOf_72 : decode cX5_sumOf 72 = .ok (.iinc 4 1, 3) := by decide +kernel
theorem dX5_sumOf_75 : decode cX5_sumOf 75 = .ok (.goto (-70), 3) := by decide +kernel
theorem dX5_sumOf_78 : decode cX5_sumOf 78 = .ok (.dload_n 2, 1) := by decide +kernel
theorem dX5_sumOf_79 : decode cX5_sumOf 79 = .ok (.dreturn, 1) := by decide +kernel
set_option maxRecDepth 20000 in
theorem ggX5_residue_X5_force : GoodIn wsX5_residue wsX5_force := goodIn_r _ [9, 2, 10, 4, 1, 11, 12, 23, 24, 25, 26, 27, 28, 29, 30, 31, 32, 33, 34, 35, 36, 37, 38, 39, 40, 41] (by decide +kernel) (by decide +kernel)
set_option maxRecDepth 20000 in
theorem gX5_residue_X5_force : GoodIn wsX5_residue (wsV RX5 95 RX5 yX5_force wsX5_force) := goodIn_app (goodIn_of _ (by decide +kernel)) ggX5_residue_X5_force
set_option maxRecDepth 20000 in
theorem ggX5_residue_X5_mass : GoodIn wsX5_residue wsX5_mass := goodIn_r _ [16, 17, 18, 23, 24, 25, 26, 27, 28, 29, 30, 31, 32, 33, 34, 35, 36, 37, 38, 39, 40, 41] (by decide +kernel) (by decide +kernel)
set_option maxRecDepth 20000 in
theorem gX5_residue_X5_mass : GoodIn wsX5_residue (wsV RX5 89 RX5 yX5_mass wsX5_mass) := goodIn_app (goodIn_of _ (by decide +kernel)) ggX5_residue_X5_mass
set_option maxRecDepth 20000 in
theorem ggX5_residue_X5_isWood : GoodIn wsX5_residue wsX5_isWood := goodIn_r _ [22, 17, 23, 24, 25, 26, 27, 28, 29, 30, 31, 32, 33, 34, 35, 36, 37, 38, 39, 40, 41] (by decide +kernel) (by decide +kernel)
set_option maxRecDepth 20000 in
theorem gX5_residue_X5_isWood : GoodIn wsX5_residue (wsV RX5 79 RX5 yX5_isWood wsX5_isWood) := goodIn_app (goodIn_of _ (by decide +kernel)) ggX5_residue_X5_isWood
theorem dX5_residue_0 : decode cX5_residue 0 = .ok (.dconst 0, 1) := by decide +kernel
theorem dX5_residue_1 : decode cX5_residue 1 = .ok (.dstore_n 2, 1) := by decide +kernel
theorem dX5_residue_2 : decode cX5_residue 2 = .ok (.iconst 0, 1) := by decide +kernel
theorem dX5_residue_3 : decode cX5_residue 3 = .ok (.istore 4, 2) := by decide +kernel
theorem dX5_residue_5 : decode cX5_residue 5 = .ok (.iload 4, 2) := by decide +kernel
theorem dX5_residue_7 : decode cX5_residue 7 = .ok (.aload_n 0, 1) := by decide +kernel
theorem dX5_residue_8 : decode cX5_residue 8 = .ok (.getfield 52, 3) := by decide +kernel
theorem dX5_residue_11 : decode cX5_residue 11 = .ok (.if_icmp .ge 115, 3) := by decide +kernel
theorem dX5_residue_14 : decode cX5_residue 14 = .ok (.iconst 0, 1) := by decide +kernel
theorem dX5_residue_15 : decode cX5_residue 15 = .ok (.istore 5, 2) := by decide +kernel
theorem dX5_residue_17 : decode cX5_residue 17 = .ok (.iload 5, 2) := by decide +kernel
theorem dX5_residue_19 : decode cX5_residue 19 = .ok (.aload_n 0, 1) := by decide +kernel
theorem dX5_residue_20 : decode cX5_residue 20 = .ok (.getfield 48, 3) := by decide +kernel
theorem dX5_residue_23 : decode cX5_residue 23 = .ok (.if_icmp .ge 97, 3) := by decide +kernel
theorem dX5_residue_26 : decode cX5_residue 26 = .ok (.bipush 6, 2) := by decide +kernel
theorem dX5_residue_28 : decode cX5_residue 28 = .ok (.iload 4, 2) := by decide +kernel
theorem dX5_residue_30 : decode cX5_residue 30 = .ok (.imul, 1) := by decide +kernel
theorem dX5_residue_31 : decode cX5_residue 31 = .ok (.iload 5, 2) := by decide +kernel
theorem dX5_residue_33 : decode cX5_residue 33 = .ok (.iadd, 1) := by decide +kernel
theorem dX5_residue_34 : decode cX5_residue 34 = .ok (.istore 6, 2) := by decide +kernel
theorem dX5_residue_36 : decode cX5_residue 36 = .ok (.aload_n 0, 1) := by decide +kernel
theorem dX5_residue_37 : decode cX5_residue 37 = .ok (.iload_n 1, 1) := by decide +kernel
theorem dX5_residue_38 : decode cX5_residue 38 = .ok (.iload 5, 2) := by decide +kernel
theorem dX5_residue_40 : decode cX5_residue 40 = .ok (.iload 4, 2) := by decide +kernel
theorem dX5_residue_42 : decode cX5_residue 42 = .ok (.invokevirtual 95, 3) := by decide +kernel
theorem dX5_residue_45 : decode cX5_residue 45 = .ok (.aload_n 0, 1) := by decide +kernel
theorem dX5_residue_46 : decode cX5_residue 46 = .ok (.getfield 39, 3) := by decide +kernel
theorem dX5_residue_49 : decode cX5_residue 49 = .ok (.iload_n 1, 1) := by decide +kernel
theorem dX5_residue_50 : decode cX5_residue 50 = .ok (.daload, 1) := by decide +kernel
theorem dX5_residue_51 : decode cX5_residue 51 = .ok (.aload_n 0, 1) := by decide +kernel
theorem dX5_residue_52 : decode cX5_residue 52 = .ok (.iload 6, 2) := by decide +kernel
theorem dX5_residue_54 : decode cX5_residue 54 = .ok (.invokevirtual 89, 3) := by decide +kernel
theorem dX5_residue_57 : decode cX5_residue 57 = .ok (.dmul, 1) := by decide +kernel
theorem dX5_residue_58 : decode cX5_residue 58 = .ok (.aload_n 0, 1) := by decide +kernel
theorem dX5_residue_59 : decode cX5_residue 59 = .ok (.getfield 36, 3) := by decide +kernel
theorem dX5_residue_62 : decode cX5_residue 62 = .ok (.bipush 36, 2) := by decide +kernel
theorem dX5_residue_64 : decode cX5_residue 64 = .ok (.iload_n 1, 1) := by decide +kernel
theorem dX5_residue_65 : decode cX5_residue 65 = .ok (.imul, 1) := by decide +kernel
theorem dX5_residue_66 : decode cX5_residue 66 = .ok (.iload 6, 2) := by decide +kernel
theorem dX5_residue_68 : decode cX5_residue 68 = .ok (.iadd, 1) := by decide +kernel
theorem dX5_residue_69 : decode cX5_residue 69 = .ok (.daload, 1) := by decide +kernel
theorem dX5_residue_70 : decode cX5_residue 70 = .ok (.dmul, 1) := by decide +kernel
theorem dX5_residue_71 : decode cX5_residue 71 = .ok (.dadd, 1) := by decide +kernel
theorem dX5_residue_72 : decode cX5_residue 72 = .ok (.dstore 7, 2) := by decide +kernel
theorem dX5_residue_74 : decode cX5_residue 74 = .ok (.dload 7, 2) := by decide +kernel
theorem dX5_residue_76 : decode cX5_residue 76 = .ok (.dconst 0, 1) := by decide +kernel
theorem dX5_residue_77 : decode cX5_residue 77 = .ok (.dcmp .g, 1) := by decide +kernel
theorem dX5_residue_78 : decode cX5_residue 78 = .ok (.ifCond .ge 9, 3) := by decide +kernel
theorem dX5_residue_81 : decode cX5_residue 81 = .ok (.dload 7, 2) := by decide +kernel
theorem dX5_residue_83 : decode cX5_residue 83 = .ok (.dneg, 1) := by decide +kernel
theorem dX5_residue_84 : decode cX5_residue 84 = .ok (.goto 5, 3) := by decide +kernel
theorem dX5_residue_87 : decode cX5_residue 87 = .ok (.dload 7, 2) := by decide +kernel
theorem dX5_residue_89 : decode cX5_residue 89 = .ok (.dstore 7, 2) := by decide +kernel
theorem dX5_residue_91 : decode cX5_residue 91 = .ok (.aload_n 0, 1) := by decide +kernel
theorem dX5_residue_92 : decode cX5_residue 92 = .ok (.iload 6, 2) := by decide +kernel
theorem dX5_residue_94 : decode cX5_residue 94 = .ok (.invokevirtual 79, 3) := by decide +kernel
theorem dX5_residue_97 : decode cX5_residue 97 = .ok (.ifCond .eq 15, 3) := by decide +kernel
theorem dX5_residue_100 : decode cX5_residue 100 = .ok (.dload 7, 2) := by decide +kernel
theorem dX5_residue_102 : decode cX5_residue 102 = .ok (.dload_n 2, 1) := by decide +kernel
theorem dX5_residue_103 : decode cX5_residue 103 = .ok (.dcmp .l, 1) := by decide +kernel
theorem dX5_residue_104 : decode cX5_residue 104 = .ok (.ifCond .le 8, 3) := by decide +kernel
theorem dX5_residue_107 : decode cX5_residue 107 = .ok (.dload 7, 2) := by decide +kernel
theorem dX5_residue_109 : decode cX5_residue 109 = .ok (.goto 4, 3) := by decide +kernel
theorem dX5_residue_112 : decode cX5_residue 112 = .ok (.dload_n 2, 1) := by decide +kernel
theorem dX5_residue_113 : decode cX5_residue 113 = .ok (.dstore_n 2, 1) := by decide +kernel
theorem dX5_residue_114 : decode cX5_residue 114 = .ok (.iinc 5 1, 3) := by decide +kernel
theorem dX5_residue_117 : decode cX5_residue 117 = .ok (.goto (-100), 3) := by decide +kernel
theorem dX5_residue_120 : decode cX5_residue 120 = .ok (.iinc 4 1, 3) := by decide +kernel
theorem dX5_residue_123 : decode cX5_residue 123 = .ok (.goto (-118), 3) := by decide +kernel
theorem dX5_residue_126 : decode cX5_residue 126 = .ok (.dload_n 2, 1) := by decide +kernel
theorem dX5_residue_127 : decode cX5_residue 127 = .ok (.dreturn, 1) := by decide +kernel
theorem dX5_needed_0 : decode cX5_needed 0 = .ok (.iconst 0, 1) := by decide +kernel
theorem dX5_needed_1 : decode cX5_needed 1 = .ok (.istore_n 1, 1) := by decide +kernel
theorem dX5_needed_2 : decode cX5_needed 2 = .ok (.iconst 0, 1) := by decide +kernel
theorem dX5_needed_3 : decode cX5_needed 3 = .ok (.istore_n 2, 1) := by decide +kernel
theorem dX5_needed_4 : decode cX5_needed 4 = .ok (.iload_n 2, 1) := by decide +kernel
theorem dX5_needed_5 : decode cX5_needed 5 = .ok (.aload_n 0, 1) := by decide +kernel
theorem dX5_needed_6 : decode cX5_needed 6 = .ok (.getfield 143, 3) := by decide +kernel
theorem dX5_needed_9 : decode cX5_needed 9 = .ok (.if_icmp .ge 34, 3) := by decide +kernel
theorem dX5_needed_12 : decode cX5_needed 12 = .ok (.aload_n 0, 1) := by decide +kernel
theorem dX5_needed_13 : decode cX5_needed 13 = .ok (.getfield 42, 3) := by decide +kernel
theorem dX5_needed_16 : decode cX5_needed 16 = .ok (.iload_n 2, 1) := by decide +kernel
theorem dX5_needed_17 : decode cX5_needed 17 = .ok (.iaload, 1) := by decide +kernel
theorem dX5_needed_18 : decode cX5_needed 18 = .ok (.iconst 1, 1) := by decide +kernel
theorem dX5_needed_19 : decode cX5_needed 19 = .ok (.iadd, 1) := by decide +kernel
theorem dX5_needed_20 : decode cX5_needed 20 = .ok (.iload_n 1, 1) := by decide +kernel
theorem dX5_needed_21 : decode cX5_needed 21 = .ok (.if_icmp .le 14, 3) := by decide +kernel
theorem dX5_needed_24 : decode cX5_needed 24 = .ok (.aload_n 0, 1) := by decide +kernel
theorem dX5_needed_25 : decode cX5_needed 25 = .ok (.getfield 42, 3) := by decide +kernel
theorem dX5_needed_28 : decode cX5_needed 28 = .ok (.iload_n 2, 1) := by decide +kernel
theorem dX5_needed_29 : decode cX5_needed 29 = .ok (.iaload, 1) := by decide +kernel
theorem dX5_needed_30 : decode cX5_needed 30 = .ok (.iconst 1, 1) := by decide +kernel
theorem dX5_needed_31 : decode cX5_needed 31 = .ok (.iadd, 1) := by decide +kernel
theorem dX5_needed_32 : decode cX5_needed 32 = .ok (.goto 4, 3) := by decide +kernel
theorem dX5_needed_35 : decode cX5_needed 35 = .ok (.iload_n 1, 1) := by decide +kernel
theorem dX5_needed_36 : decode cX5_needed 36 = .ok (.istore_n 1, 1) := by decide +kernel
theorem dX5_needed_37 : decode cX5_needed 37 = .ok (.iinc 2 1, 3) := by decide +kernel
theorem dX5_needed_40 : decode cX5_needed 40 = .ok (.goto (-36), 3) := by decide +kernel
theorem dX5_needed_43 : decode cX5_needed 43 = .ok (.iload_n 1, 1) := by decide +kernel
theorem dX5_needed_44 : decode cX5_needed 44 = .ok (.ireturn, 1) := by decide +kernel
theorem dX5_total_0 : decode cX5_total 0 = .ok (.dconst 0, 1) := by decide +kernel
theorem dX5_total_1 : decode cX5_total 1 = .ok (.dstore_n 1, 1) := by decide +kernel
theorem dX5_total_2 : decode cX5_total 2 = .ok (.iconst 0, 1) := by decide +kernel
theorem dX5_total_3 : decode cX5_total 3 = .ok (.istore_n 3, 1) := by decide +kernel
theorem dX5_total_4 : decode cX5_total 4 = .ok (.iload_n 3, 1) := by decide +kernel
theorem dX5_total_5 : decode cX5_total 5 = .ok (.aload_n 0, 1) := by decide +kernel
theorem dX5_total_6 : decode cX5_total 6 = .ok (.getfield 143, 3) := by decide +kernel
theorem dX5_total_9 : decode cX5_total 9 = .ok (.if_icmp .ge 37, 3) := by decide +kernel
theorem dX5_total_12 : decode cX5_total 12 = .ok (.aload_n 0, 1) := by decide +kernel
theorem dX5_total_13 : decode cX5_total 13 = .ok (.getfield 39, 3) := by decide +kernel
theorem dX5_total_16 : decode cX5_total 16 = .ok (.aload_n 0, 1) := by decide +kernel
theorem dX5_total_17 : decode cX5_total 17 = .ok (.getfield 42, 3) := by decide +kernel
theorem dX5_total_20 : decode cX5_total 20 = .ok (.iload_n 3, 1) := by decide +kernel
theorem dX5_total_21 : decode cX5_total 21 = .ok (.iaload, 1) := by decide +kernel
theorem dX5_total_22 : decode cX5_total 22 = .ok (.daload, 1) := by decide +kernel
theorem dX5_total_23 : decode cX5_total 23 = .ok (.aload_n 0, 1) := by decide +kernel
theorem dX5_total_24 : decode cX5_total 24 = .ok (.getfield 45, 3) := by decide +kernel
theorem dX5_total_27 : decode cX5_total 27 = .ok (.iload_n 3, 1) := by decide +kernel
theorem dX5_total_28 : decode cX5_total 28 = .ok (.daload, 1) := by decide +kernel
theorem dX5_total_29 : decode cX5_total 29 = .ok (.dsub, 1) := by decide +kernel
theorem dX5_total_30 : decode cX5_total 30 = .ok (.dstore 4, 2) := by decide +kernel
theorem dX5_total_32 : decode cX5_total 32 = .ok (.dload_n 1, 1) := by decide +kernel
theorem dX5_total_33 : decode cX5_total 33 = .ok (.dload 4, 2) := by decide +kernel
theorem dX5_total_35 : decode cX5_total 35 = .ok (.dload 4, 2) := by decide +kernel
theorem dX5_total_37 : decode cX5_total 37 = .ok (.dmul, 1) := by decide +kernel
theorem dX5_total_38 : decode cX5_total 38 = .ok (.dadd, 1) := by decide +kernel
theorem dX5_total_39 : decode cX5_total 39 = .ok (.dstore_n 1, 1) := by decide +kernel
theorem dX5_total_40 : decode cX5_total 40 = .ok (.iinc 3 1, 3) := by decide +kernel
theorem dX5_total_43 : decode cX5_total 43 = .ok (.goto (-39), 3) := by decide +kernel
theorem dX5_total_46 : decode cX5_total 46 = .ok (.dload_n 1, 1) := by decide +kernel
theorem dX5_total_47 : decode cX5_total 47 = .ok (.dreturn, 1) := by decide +kernel
