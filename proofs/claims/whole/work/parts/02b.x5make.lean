set_option maxRecDepth 20000 in
theorem ggX5_springs_X5_isWood : GoodIn wsX5_springs wsX5_isWood := goodIn_r _ [15, 5, 20, 21, 22, 23, 24, 25, 26, 27, 28, 29, 30, 31, 32, 33, 34, 35, 36, 37, 38] (by decide +kernel) (by decide +kernel)
set_option maxRecDepth 20000 in
theorem gX5_springs_X5_isWood : GoodIn wsX5_springs (wsV RX5 79 RX5 yX5_isWood wsX5_isWood) := goodIn_app (goodIn_of _ (by decide +kernel)) ggX5_springs_X5_isWood
set_option maxRecDepth 20000 in
theorem ggX5_springs_X5_spring : GoodIn wsX5_springs wsX5_spring := goodIn_r _ [18, 19] (by decide +kernel) (by decide +kernel)
set_option maxRecDepth 20000 in
theorem gX5_springs_X5_spring : GoodIn wsX5_springs (va_wsS RX5 83 yX5_spring wsX5_spring) := goodIn_app (goodIn_of _ (by decide +kernel)) ggX5_springs_X5_spring
theorem dX5_springs_0 : decode cX5_springs 0 = .ok (.iconst 0, 1) := by decide +kernel
theorem dX5_springs_1 : decode cX5_springs 1 = .ok (.istore_n 1, 1) := by decide +kernel
theorem dX5_springs_2 : decode cX5_springs 2 = .ok (.iload_n 1, 1) := by decide +kernel
theorem dX5_springs_3 : decode cX5_springs 3 = .ok (.aload_n 0, 1) := by decide +kernel
theorem dX5_springs_4 : decode cX5_springs 4 = .ok (.getfield 52, 3) := by decide +kernel
theorem dX5_springs_7 : decode cX5_springs 7 = .ok (.if_icmp .ge 152, 3) := by decide +kernel
theorem dX5_springs_10 : decode cX5_springs 10 = .ok (.iconst 0, 1) := by decide +kernel
theorem dX5_springs_11 : decode cX5_springs 11 = .ok (.istore_n 2, 1) := by decide +kernel
theorem dX5_springs_12 : decode cX5_springs 12 = .ok (.iload_n 2, 1) := by decide +kernel
theorem dX5_springs_13 : decode cX5_springs 13 = .ok (.aload_n 0, 1) := by decide +kernel
theorem dX5_springs_14 : decode cX5_springs 14 = .ok (.getfield 48, 3) := by decide +kernel
theorem dX5_springs_17 : decode cX5_springs 17 = .ok (.if_icmp .ge 136, 3) := by decide +kernel
theorem dX5_springs_20 : decode cX5_springs 20 = .ok (.bipush 6, 2) := by decide +kernel
theorem dX5_springs_22 : decode cX5_springs 22 = .ok (.iload_n 1, 1) := by decide +kernel
theorem dX5_springs_23 : decode cX5_springs 23 = .ok (.imul, 1) := by decide +kernel
theorem dX5_springs_24 : decode cX5_springs 24 = .ok (.iload_n 2, 1) := by decide +kernel
theorem dX5_springs_25 : decode cX5_springs 25 = .ok (.iadd, 1) := by decide +kernel
theorem dX5_springs_26 : decode cX5_springs 26 = .ok (.istore_n 3, 1) := by decide +kernel
theorem dX5_springs_27 : decode cX5_springs 27 = .ok (.aload_n 0, 1) := by decide +kernel
theorem dX5_springs_28 : decode cX5_springs 28 = .ok (.getfield 30, 3) := by decide +kernel
theorem dX5_springs_31 : decode cX5_springs 31 = .ok (.iload_n 3, 1) := by decide +kernel
theorem dX5_springs_32 : decode cX5_springs 32 = .ok (.iload_n 2, 1) := by decide +kernel
theorem dX5_springs_33 : decode cX5_springs 33 = .ok (.iconst 1, 1) := by decide +kernel
theorem dX5_springs_34 : decode cX5_springs 34 = .ok (.iadd, 1) := by decide +kernel
theorem dX5_springs_35 : decode cX5_springs 35 = .ok (.aload_n 0, 1) := by decide +kernel
theorem dX5_springs_36 : decode cX5_springs 36 = .ok (.getfield 48, 3) := by decide +kernel
theorem dX5_springs_39 : decode cX5_springs 39 = .ok (.if_icmp .ge 45, 3) := by decide +kernel
theorem dX5_springs_42 : decode cX5_springs 42 = .ok (.aload_n 0, 1) := by decide +kernel
theorem dX5_springs_43 : decode cX5_springs 43 = .ok (.iload_n 3, 1) := by decide +kernel
theorem dX5_springs_44 : decode cX5_springs 44 = .ok (.invokevirtual 79, 3) := by decide +kernel
theorem dX5_springs_47 : decode cX5_springs 47 = .ok (.ifCond .eq 37, 3) := by decide +kernel
theorem dX5_springs_50 : decode cX5_springs 50 = .ok (.aload_n 0, 1) := by decide +kernel
theorem dX5_springs_51 : decode cX5_springs 51 = .ok (.iload_n 3, 1) := by decide +kernel
theorem dX5_springs_52 : decode cX5_springs 52 = .ok (.iconst 1, 1) := by decide +kernel
theorem dX5_springs_53 : decode cX5_springs 53 = .ok (.iadd, 1) := by decide +kernel
theorem dX5_springs_54 : decode cX5_springs 54 = .ok (.invokevirtual 79, 3) := by decide +kernel
theorem dX5_springs_57 : decode cX5_springs 57 = .ok (.ifCond .eq 27, 3) := by decide +kernel
theorem dX5_springs_60 : decode cX5_springs 60 = .ok (.aload_n 0, 1) := by decide +kernel
theorem dX5_springs_61 : decode cX5_springs 61 = .ok (.getfield 13, 3) := by decide +kernel
theorem dX5_springs_64 : decode cX5_springs 64 = .ok (.aload_n 0, 1) := by decide +kernel
theorem dX5_springs_65 : decode cX5_springs 65 = .ok (.getfield 7, 3) := by decide +kernel
theorem dX5_springs_68 : decode cX5_springs 68 = .ok (.iload_n 3, 1) := by decide +kernel
theorem dX5_springs_69 : decode cX5_springs 69 = .ok (.daload, 1) := by decide +kernel
theorem dX5_springs_70 : decode cX5_springs 70 = .ok (.aload_n 0, 1) := by decide +kernel
theorem dX5_springs_71 : decode cX5_springs 71 = .ok (.getfield 7, 3) := by decide +kernel
theorem dX5_springs_74 : decode cX5_springs 74 = .ok (.iload_n 3, 1) := by decide +kernel
theorem dX5_springs_75 : decode cX5_springs 75 = .ok (.iconst 1, 1) := by decide +kernel
theorem dX5_springs_76 : decode cX5_springs 76 = .ok (.iadd, 1) := by decide +kernel
theorem dX5_springs_77 : decode cX5_springs 77 = .ok (.daload, 1) := by decide +kernel
theorem dX5_springs_78 : decode cX5_springs 78 = .ok (.invokestatic 83, 3) := by decide +kernel
theorem dX5_springs_81 : decode cX5_springs 81 = .ok (.goto 4, 3) := by decide +kernel
theorem dX5_springs_84 : decode cX5_springs 84 = .ok (.dconst 0, 1) := by decide +kernel
theorem dX5_springs_85 : decode cX5_springs 85 = .ok (.dastore, 1) := by decide +kernel
theorem dX5_springs_86 : decode cX5_springs 86 = .ok (.aload_n 0, 1) := by decide +kernel
theorem dX5_springs_87 : decode cX5_springs 87 = .ok (.getfield 33, 3) := by decide +kernel
theorem dX5_springs_90 : decode cX5_springs 90 = .ok (.iload_n 3, 1) := by decide +kernel
theorem dX5_springs_91 : decode cX5_springs 91 = .ok (.iload_n 1, 1) := by decide +kernel
theorem dX5_springs_92 : decode cX5_springs 92 = .ok (.iconst 1, 1) := by decide +kernel
theorem dX5_springs_93 : decode cX5_springs 93 = .ok (.iadd, 1) := by decide +kernel
theorem dX5_springs_94 : decode cX5_springs 94 = .ok (.aload_n 0, 1) := by decide +kernel
theorem dX5_springs_95 : decode cX5_springs 95 = .ok (.getfield 52, 3) := by decide +kernel
theorem dX5_springs_98 : decode cX5_springs 98 = .ok (.if_icmp .ge 47, 3) := by decide +kernel
theorem dX5_springs_101 : decode cX5_springs 101 = .ok (.aload_n 0, 1) := by decide +kernel
theorem dX5_springs_102 : decode cX5_springs 102 = .ok (.iload_n 3, 1) := by decide +kernel
theorem dX5_springs_103 : decode cX5_springs 103 = .ok (.invokevirtual 79, 3) := by decide +kernel
theorem dX5_springs_106 : decode cX5_springs 106 = .ok (.ifCond .eq 39, 3) := by decide +kernel
theorem dX5_springs_109 : decode cX5_springs 109 = .ok (.aload_n 0, 1) := by decide +kernel
theorem dX5_springs_110 : decode cX5_springs 110 = .ok (.iload_n 3, 1) := by decide +kernel
theorem dX5_springs_111 : decode cX5_springs 111 = .ok (.bipush 6, 2) := by decide +kernel
theorem dX5_springs_113 : decode cX5_springs 113 = .ok (.iadd, 1) := by decide +kernel
theorem dX5_springs_114 : decode cX5_springs 114 = .ok (.invokevirtual 79, 3) := by decide +kernel
theorem dX5_springs_117 : decode cX5_springs 117 = .ok (.ifCond .eq 28, 3) := by decide +kernel
theorem dX5_springs_120 : decode cX5_springs 120 = .ok (.aload_n 0, 1) := by decide +kernel
theorem dX5_springs_121 : decode cX5_springs 121 = .ok (.getfield 17, 3) := by decide +kernel
theorem dX5_springs_124 : decode cX5_springs 124 = .ok (.aload_n 0, 1) := by decide +kernel
theorem dX5_springs_125 : decode cX5_springs 125 = .ok (.getfield 7, 3) := by decide +kernel
theorem dX5_springs_128 : decode cX5_springs 128 = .ok (.iload_n 3, 1) := by decide +kernel
theorem dX5_springs_129 : decode cX5_springs 129 = .ok (.daload, 1) := by decide +kernel
theorem dX5_springs_130 : decode cX5_springs 130 = .ok (.aload_n 0, 1) := by decide +kernel
theorem dX5_springs_131 : decode cX5_springs 131 = .ok (.getfield 7, 3) := by decide +kernel
theorem dX5_springs_134 : decode cX5_springs 134 = .ok (.iload_n 3, 1) := by decide +kernel
theorem dX5_springs_135 : decode cX5_springs 135 = .ok (.bipush 6, 2) := by decide +kernel
theorem dX5_springs_137 : decode cX5_springs 137 = .ok (.iadd, 1) := by decide +kernel
theorem dX5_springs_138 : decode cX5_springs 138 = .ok (.daload, 1) := by decide +kernel
theorem dX5_springs_139 : decode cX5_springs 139 = .ok (.invokestatic 83, 3) := by decide +kernel
theorem dX5_springs_142 : decode cX5_springs 142 = .ok (.goto 4, 3) := by decide +kernel
theorem dX5_springs_145 : decode cX5_springs 145 = .ok (.dconst 0, 1) := by decide +kernel
theorem dX5_springs_146 : decode cX5_springs 146 = .ok (.dastore, 1) := by decide +kernel
theorem dX5_springs_147 : decode cX5_springs 147 = .ok (.iinc 2 1, 3) := by decide +kernel
theorem dX5_springs_150 : decode cX5_springs 150 = .ok (.goto (-138), 3) := by decide +kernel
theorem dX5_springs_153 : decode cX5_springs 153 = .ok (.iinc 1 1, 3) := by decide +kernel
theorem dX5_springs_156 : decode cX5_springs 156 = .ok (.goto (-154), 3) := by decide +kernel
theorem dX5_springs_159 : decode cX5_springs 159 = .ok (.iconst 0, 1) := by decide +kernel
theorem dX5_springs_160 : decode cX5_springs 160 = .ok (.istore_n 1, 1) := by decide +kernel
theorem dX5_springs_161 : decode cX5_springs 161 = .ok (.iload_n 1, 1) := by decide +kernel
theorem dX5_springs_162 : decode cX5_springs 162 = .ok (.aload_n 0, 1) := by decide +kernel
theorem dX5_springs_163 : decode cX5_springs 163 = .ok (.getfield 76, 3) := by decide +kernel
theorem dX5_springs_166 : decode cX5_springs 166 = .ok (.if_icmp .ge 192, 3) := by decide +kernel
theorem dX5_springs_169 : decode cX5_springs 169 = .ok (.aload_n 0, 1) := by decide +kernel
theorem dX5_springs_170 : decode cX5_springs 170 = .ok (.getfield 23, 3) := by decide +kernel
theorem dX5_springs_173 : decode cX5_springs 173 = .ok (.iconst 4, 1) := by decide +kernel
theorem dX5_springs_174 : decode cX5_springs 174 = .ok (.iload_n 1, 1) := by decide +kernel
theorem dX5_springs_175 : decode cX5_springs 175 = .ok (.imul, 1) := by decide +kernel
theorem dX5_springs_176 : decode cX5_springs 176 = .ok (.iaload, 1) := by decide +kernel
theorem dX5_springs_177 : decode cX5_springs 177 = .ok (.istore_n 2, 1) := by decide +kernel
theorem dX5_springs_178 : decode cX5_springs 178 = .ok (.iload_n 2, 1) := by decide +kernel
theorem dX5_springs_179 : decode cX5_springs 179 = .ok (.aload_n 0, 1) := by decide +kernel
theorem dX5_springs_180 : decode cX5_springs 180 = .ok (.getfield 23, 3) := by decide +kernel
theorem dX5_springs_183 : decode cX5_springs 183 = .ok (.iconst 4, 1) := by decide +kernel
theorem dX5_springs_184 : decode cX5_springs 184 = .ok (.iload_n 1, 1) := by decide +kernel
theorem dX5_springs_185 : decode cX5_springs 185 = .ok (.imul, 1) := by decide +kernel
theorem dX5_springs_186 : decode cX5_springs 186 = .ok (.iconst 2, 1) := by decide +kernel
theorem dX5_springs_187 : decode cX5_springs 187 = .ok (.iadd, 1) := by decide +kernel
theorem dX5_springs_188 : decode cX5_springs 188 = .ok (.iaload, 1) := by decide +kernel
theorem dX5_springs_189 : decode cX5_springs 189 = .ok (.if_icmp .ge 71, 3) := by decide +kernel
theorem dX5_springs_192 : decode cX5_springs 192 = .ok (.bipush 6, 2) := by decide +kernel
theorem dX5_springs_194 : decode cX5_springs 194 = .ok (.aload_n 0, 1) := by decide +kernel
theorem dX5_springs_195 : decode cX5_springs 195 = .ok (.getfield 23, 3) := by decide +kernel
theorem dX5_springs_198 : decode cX5_springs 198 = .ok (.iconst 4, 1) := by decide +kernel
theorem dX5_springs_199 : decode cX5_springs 199 = .ok (.iload_n 1, 1) := by decide +kernel
theorem dX5_springs_200 : decode cX5_springs 200 = .ok (.imul, 1) := by decide +kernel
theorem dX5_springs_201 : decode cX5_springs 201 = .ok (.iconst 1, 1) := by decide +kernel
theorem dX5_springs_202 : decode cX5_springs 202 = .ok (.iadd, 1) := by decide +kernel
theorem dX5_springs_203 : decode cX5_springs 203 = .ok (.iaload, 1) := by decide +kernel
theorem dX5_springs_204 : decode cX5_springs 204 = .ok (.imul, 1) := by decide +kernel
theorem dX5_springs_205 : decode cX5_springs 205 = .ok (.iload_n 2, 1) := by decide +kernel
theorem dX5_springs_206 : decode cX5_springs 206 = .ok (.iadd, 1) := by decide +kernel
theorem dX5_springs_207 : decode cX5_springs 207 = .ok (.istore_n 3, 1) := by decide +kernel
theorem dX5_springs_208 : decode cX5_springs 208 = .ok (.aload_n 0, 1) := by decide +kernel
theorem dX5_springs_209 : decode cX5_springs 209 = .ok (.getfield 30, 3) := by decide +kernel
theorem dX5_springs_212 : decode cX5_springs 212 = .ok (.iload_n 3, 1) := by decide +kernel
theorem dX5_springs_213 : decode cX5_springs 213 = .ok (.aload_n 0, 1) := by decide +kernel
theorem dX5_springs_214 : decode cX5_springs 214 = .ok (.iload_n 3, 1) := by decide +kernel
theorem dX5_springs_215 : decode cX5_springs 215 = .ok (.invokevirtual 79, 3) := by decide +kernel
theorem dX5_springs_218 : decode cX5_springs 218 = .ok (.ifCond .eq 29, 3) := by decide +kernel
theorem dX5_springs_221 : decode cX5_springs 221 = .ok (.aload_n 0, 1) := by decide +kernel
theorem dX5_springs_222 : decode cX5_springs 222 = .ok (.iload_n 3, 1) := by decide +kernel
theorem dX5_springs_223 : decode cX5_springs 223 = .ok (.iconst 1, 1) := by decide +kernel
theorem dX5_springs_224 : decode cX5_springs 224 = .ok (.iadd, 1) := by decide +kernel
theorem dX5_springs_225 : decode cX5_springs 225 = .ok (.invokevirtual 79, 3) := by decide +kernel
theorem dX5_springs_228 : decode cX5_springs 228 = .ok (.ifCond .eq 19, 3) := by decide +kernel
theorem dX5_springs_231 : decode cX5_springs 231 = .ok (.aload_n 0, 1) := by decide +kernel
theorem dX5_springs_232 : decode cX5_springs 232 = .ok (.getfield 30, 3) := by decide +kernel
theorem dX5_springs_235 : decode cX5_springs 235 = .ok (.iload_n 3, 1) := by decide +kernel
theorem dX5_springs_236 : decode cX5_springs 236 = .ok (.daload, 1) := by decide +kernel
theorem dX5_springs_237 : decode cX5_springs 237 = .ok (.aload_n 0, 1) := by decide +kernel
theorem dX5_springs_238 : decode cX5_springs 238 = .ok (.getfield 27, 3) := by decide +kernel
theorem dX5_springs_241 : decode cX5_springs 241 = .ok (.iload_n 1, 1) := by decide +kernel
theorem dX5_springs_242 : decode cX5_springs 242 = .ok (.daload, 1) := by decide +kernel
theorem dX5_springs_243 : decode cX5_springs 243 = .ok (.dadd, 1) := by decide +kernel
theorem dX5_springs_244 : decode cX5_springs 244 = .ok (.goto 9, 3) := by decide +kernel
theorem dX5_springs_247 : decode cX5_springs 247 = .ok (.aload_n 0, 1) := by decide +kernel
theorem dX5_springs_248 : decode cX5_springs 248 = .ok (.getfield 30, 3) := by decide +kernel
theorem dX5_springs_251 : decode cX5_springs 251 = .ok (.iload_n 3, 1) := by decide +kernel
theorem dX5_springs_252 : decode cX5_springs 252 = .ok (.daload, 1) := by decide +kernel
theorem dX5_springs_253 : decode cX5_springs 253 = .ok (.dastore, 1) := by decide +kernel
theorem dX5_springs_254 : decode cX5_springs 254 = .ok (.iinc 2 1, 3) := by decide +kernel
theorem dX5_springs_257 : decode cX5_springs 257 = .ok (.goto (-79), 3) := by decide +kernel
theorem dX5_springs_260 : decode cX5_springs 260 = .ok (.aload_n 0, 1) := by decide +kernel
theorem dX5_springs_261 : decode cX5_springs 261 = .ok (.getfield 23, 3) := by decide +kernel
theorem dX5_springs_264 : decode cX5_springs 264 = .ok (.iconst 4, 1) := by decide +kernel
theorem dX5_springs_265 : decode cX5_springs 265 = .ok (.iload_n 1, 1) := by decide +kernel
theorem dX5_springs_266 : decode cX5_springs 266 = .ok (.imul, 1) := by decide +kernel
theorem dX5_springs_267 : decode cX5_springs 267 = .ok (.iconst 1, 1) := by decide +kernel
theorem dX5_springs_268 : decode cX5_springs 268 = .ok (.iadd, 1) := by decide +kernel
theorem dX5_springs_269 : decode cX5_springs 269 = .ok (.iaload, 1) := by decide +kernel
theorem dX5_springs_270 : decode cX5_springs 270 = .ok (.istore_n 2, 1) := by decide +kernel
theorem dX5_springs_271 : decode cX5_springs 271 = .ok (.iload_n 2, 1) := by decide +kernel
theorem dX5_springs_272 : decode cX5_springs 272 = .ok (.aload_n 0, 1) := by decide +kernel
theorem dX5_springs_273 : decode cX5_springs 273 = .ok (.getfield 23, 3) := by decide +kernel
theorem dX5_springs_276 : decode cX5_springs 276 = .ok (.iconst 4, 1) := by decide +kernel
theorem dX5_springs_277 : decode cX5_springs 277 = .ok (.iload_n 1, 1) := by decide +kernel
theorem dX5_springs_278 : decode cX5_springs 278 = .ok (.imul, 1) := by decide +kernel
theorem dX5_springs_279 : decode cX5_springs 279 = .ok (.iconst 3, 1) := by decide +kernel
theorem dX5_springs_280 : decode cX5_springs 280 = .ok (.iadd, 1) := by decide +kernel
theorem dX5_springs_281 : decode cX5_springs 281 = .ok (.iaload, 1) := by decide +kernel
theorem dX5_springs_282 : decode cX5_springs 282 = .ok (.if_icmp .ge 70, 3) := by decide +kernel
theorem dX5_springs_285 : decode cX5_springs 285 = .ok (.bipush 6, 2) := by decide +kernel
theorem dX5_springs_287 : decode cX5_springs 287 = .ok (.iload_n 2, 1) := by decide +kernel
theorem dX5_springs_288 : decode cX5_springs 288 = .ok (.imul, 1) := by decide +kernel
theorem dX5_springs_289 : decode cX5_springs 289 = .ok (.aload_n 0, 1) := by decide +kernel
theorem dX5_springs_290 : decode cX5_springs 290 = .ok (.getfield 23, 3) := by decide +kernel
theorem dX5_springs_293 : decode cX5_springs 293 = .ok (.iconst 4, 1) := by decide +kernel
theorem dX5_springs_294 : decode cX5_springs 294 = .ok (.iload_n 1, 1) := by decide +kernel
theorem dX5_springs_295 : decode cX5_springs 295 = .ok (.imul, 1) := by decide +kernel
theorem dX5_springs_296 : decode cX5_springs 296 = .ok (.iaload, 1) := by decide +kernel
theorem dX5_springs_297 : decode cX5_springs 297 = .ok (.iadd, 1) := by decide +kernel
theorem dX5_springs_298 : decode cX5_springs 298 = .ok (.istore_n 3, 1) := by decide +kernel
theorem dX5_springs_299 : decode cX5_springs 299 = .ok (.aload_n 0, 1) := by decide +kernel
theorem dX5_springs_300 : decode cX5_springs 300 = .ok (.getfield 33, 3) := by decide +kernel
theorem dX5_springs_303 : decode cX5_springs 303 = .ok (.iload_n 3, 1) := by decide +kernel
theorem dX5_springs_304 : decode cX5_springs 304 = .ok (.aload_n 0, 1) := by decide +kernel
theorem dX5_springs_305 : decode cX5_springs 305 = .ok (.iload_n 3, 1) := by decide +kernel
theorem dX5_springs_306 : decode cX5_springs 306 = .ok (.invokevirtual 79, 3) := by decide +kernel
theorem dX5_springs_309 : decode cX5_springs 309 = .ok (.ifCond .eq 30, 3) := by decide +kernel
theorem dX5_springs_312 : decode cX5_springs 312 = .ok (.aload_n 0, 1) := by decide +kernel
theorem dX5_springs_313 : decode cX5_springs 313 = .ok (.iload_n 3, 1) := by decide +kernel
theorem dX5_springs_314 : decode cX5_springs 314 = .ok (.bipush 6, 2) := by decide +kernel
theorem dX5_springs_316 : decode cX5_springs 316 = .ok (.iadd, 1) := by decide +kernel
theorem dX5_springs_317 : decode cX5_springs 317 = .ok (.invokevirtual 79, 3) := by decide +kernel
theorem dX5_springs_320 : decode cX5_springs 320 = .ok (.ifCond .eq 19, 3) := by decide +kernel
theorem dX5_springs_323 : decode cX5_springs 323 = .ok (.aload_n 0, 1) := by decide +kernel
theorem dX5_springs_324 : decode cX5_springs 324 = .ok (.getfield 33, 3) := by decide +kernel
theorem dX5_springs_327 : decode cX5_springs 327 = .ok (.iload_n 3, 1) := by decide +kernel
theorem dX5_springs_328 : decode cX5_springs 328 = .ok (.daload, 1) := by decide +kernel
theorem dX5_springs_329 : decode cX5_springs 329 = .ok (.aload_n 0, 1) := by decide +kernel
theorem dX5_springs_330 : decode cX5_springs 330 = .ok (.getfield 27, 3) := by decide +kernel
theorem dX5_springs_333 : decode cX5_springs 333 = .ok (.iload_n 1, 1) := by decide +kernel
theorem dX5_springs_334 : decode cX5_springs 334 = .ok (.daload, 1) := by decide +kernel
theorem dX5_springs_335 : decode cX5_springs 335 = .ok (.dadd, 1) := by decide +kernel
theorem dX5_springs_336 : decode cX5_springs 336 = .ok (.goto 9, 3) := by decide +kernel
theorem dX5_springs_339 : decode cX5_springs 339 = .ok (.aload_n 0, 1) := by decide +kernel
theorem dX5_springs_340 : decode cX5_springs 340 = .ok (.getfield 33, 3) := by decide +kernel
theorem dX5_springs_343 : decode cX5_springs 343 = .ok (.iload_n 3, 1) := by decide +kernel
theorem dX5_springs_344 : decode cX5_springs 344 = .ok (.daload, 1) := by decide +kernel
theorem dX5_springs_345 : decode cX5_springs 345 = .ok (.dastore, 1) := by decide +kernel
theorem dX5_springs_346 : decode cX5_springs 346 = .ok (.iinc 2 1, 3) := by decide +kernel
theorem dX5_springs_349 : decode cX5_springs 349 = .ok (.goto (-78), 3) := by decide +kernel
theorem dX5_springs_352 : decode cX5_springs 352 = .ok (.iinc 1 1, 3) := by decide +kernel
theorem dX5_springs_355 : decode cX5_springs 355 = .ok (.goto (-194), 3) := by decide +kernel
theorem dX5_springs_358 : decode cX5_springs 358 = .ok (.return_, 1) := by decide +kernel
set_option maxRecDepth 20000 in
theorem ggX5_sweep_X5_isWood : GoodIn wsX5_sweep wsX5_isWood := goodIn_r _ [9, 10, 35, 36, 37, 38, 39, 40, 41, 42, 43, 44, 45, 46, 47, 48, 49, 50, 51, 52, 53] (by decide +kernel) (by decide +kernel)
set_option maxRecDepth 20000 in
theorem gX5_sweep_X5_isWood : GoodIn wsX5_sweep (wsV RX5 79 RX5 yX5_isWood wsX5_isWood) := goodIn_app (goodIn_of _ (by decide +kernel)) ggX5_sweep_X5_isWood
set_option maxRecDepth 20000 in
theorem ggX5_sweep_X5_force : GoodIn wsX5_sweep wsX5_force := goodIn_r _ [14, 2, 15, 3, 1, 16, 17, 35, 36, 37, 38, 39, 40, 41, 42, 43, 44, 45, 46, 47, 48, 49, 50, 51, 52, 53] (by decide +kernel) (by decide +kernel)
set_option maxRecDepth 20000 in
theorem gX5_sweep_X5_force : GoodIn wsX5_sweep (wsV RX5 95 RX5 yX5_force wsX5_force) := goodIn_app (goodIn_of _ (by decide +kernel)) ggX5_sweep_X5_force
set_option maxRecDepth 20000 in
theorem ggX5_sweep_X5_hold : GoodIn wsX5_sweep wsX5_hold := goodIn_r _ [21, 17, 2, 15, 1, 16, 35, 36, 37, 38, 39, 40, 41, 42, 43, 44, 45, 46, 47, 48, 49, 50, 51, 52, 53] (by decide +kernel) (by decide +kernel)
set_option maxRecDepth 20000 in
theorem gX5_sweep_X5_hold : GoodIn wsX5_sweep (wsV RX5 99 RX5 yX5_hold wsX5_hold) := goodIn_app (goodIn_of _ (by decide +kernel)) ggX5_sweep_X5_hold
set_option maxRecDepth 20000 in
theorem ggX5_sweep_X5_productOf : GoodIn wsX5_sweep wsX5_productOf := goodIn_r _ [25, 1, 2, 3, 5, 6, 7, 8, 9, 10, 26, 27, 28, 29, 30, 35, 36, 37, 38, 39, 40, 41, 42, 43, 44, 45, 46, 47, 48, 49, 50, 51, 52, 53] (by decide +kernel) (by decide +kernel)
set_option maxRecDepth 20000 in
theorem gX5_sweep_X5_productOf : GoodIn wsX5_sweep (wsV RX5 103 RX5 yX5_productOf wsX5_productOf) := goodIn_app (goodIn_of _ (by decide +kernel)) ggX5_sweep_X5_productOf
set_option maxRecDepth 20000 in
theorem ggX5_sweep_X5_root : GoodIn wsX5_sweep wsX5_root := goodIn_r _ [33, 34] (by decide +kernel) (by decide +kernel)
set_option maxRecDepth 20000 in
theorem gX5_sweep_X5_root : GoodIn wsX5_sweep (va_wsS RX5 106 yX5_root wsX5_root) := goodIn_app (goodIn_of _ (by decide +kernel)) ggX5_sweep_X5_root
theorem dX5_sweep_0 : decode cX5_sweep 0 = .ok (.iconst 0, 1) := by decide +kernel
theorem dX5_sweep_1 : decode cX5_sweep 1 = .ok (.istore_n 2, 1) := by decide +kernel
theorem dX5_sweep_2 : decode cX5_sweep 2 = .ok (.iload_n 2, 1) := by decide +kernel
theorem dX5_sweep_3 : decode cX5_sweep 3 = .ok (.aload_n 0, 1) := by decide +kernel
theorem dX5_sweep_4 : decode cX5_sweep 4 = .ok (.getfield 52, 3) := by decide +kernel
theorem dX5_sweep_7 : decode cX5_sweep 7 = .ok (.if_icmp .ge 84, 3) := by decide +kernel
theorem dX5_sweep_10 : decode cX5_sweep 10 = .ok (.iconst 0, 1) := by decide +kernel
theorem dX5_sweep_11 : decode cX5_sweep 11 = .ok (.istore_n 3, 1) := by decide +kernel
theorem dX5_sweep_12 : decode cX5_sweep 12 = .ok (.iload_n 3, 1) := by decide +kernel
theorem dX5_sweep_13 : decode cX5_sweep 13 = .ok (.aload_n 0, 1) := by decide +kernel
theorem dX5_sweep_14 : decode cX5_sweep 14 = .ok (.getfield 48, 3) := by decide +kernel
theorem dX5_sweep_17 : decode cX5_sweep 17 = .ok (.if_icmp .ge 68, 3) := by decide +kernel
theorem dX5_sweep_20 : decode cX5_sweep 20 = .ok (.bipush 36, 2) := by decide +kernel
theorem dX5_sweep_22 : decode cX5_sweep 22 = .ok (.iload_n 1, 1) := by decide +kernel
theorem dX5_sweep_23 : decode cX5_sweep 23 = .ok (.imul, 1) := by decide +kernel
theorem dX5_sweep_24 : decode cX5_sweep 24 = .ok (.bipush 6, 2) := by decide +kernel
theorem dX5_sweep_26 : decode cX5_sweep 26 = .ok (.iload_n 2, 1) := by decide +kernel
theorem dX5_sweep_27 : decode cX5_sweep 27 = .ok (.imul, 1) := by decide +kernel
theorem dX5_sweep_28 : decode cX5_sweep 28 = .ok (.iadd, 1) := by decide +kernel
theorem dX5_sweep_29 : decode cX5_sweep 29 = .ok (.iload_n 3, 1) := by decide +kernel
theorem dX5_sweep_30 : decode cX5_sweep 30 = .ok (.iadd, 1) := by decide +kernel
theorem dX5_sweep_31 : decode cX5_sweep 31 = .ok (.istore 4, 2) := by decide +kernel
theorem dX5_sweep_33 : decode cX5_sweep 33 = .ok (.aload_n 0, 1) := by decide +kernel
theorem dX5_sweep_34 : decode cX5_sweep 34 = .ok (.bipush 6, 2) := by decide +kernel
theorem dX5_sweep_36 : decode cX5_sweep 36 = .ok (.iload_n 2, 1) := by decide +kernel
theorem dX5_sweep_37 : decode cX5_sweep 37 = .ok (.imul, 1) := by decide +kernel
theorem dX5_sweep_38 : decode cX5_sweep 38 = .ok (.iload_n 3, 1) := by decide +kernel
theorem dX5_sweep_39 : decode cX5_sweep 39 = .ok (.iadd, 1) := by decide +kernel
theorem dX5_sweep_40 : decode cX5_sweep 40 = .ok (.invokevirtual 79, 3) := by decide +kernel
theorem dX5_sweep_43 : decode cX5_sweep 43 = .ok (.ifCond .eq 36, 3) := by decide +kernel
theorem dX5_sweep_46 : decode cX5_sweep 46 = .ok (.aload_n 0, 1) := by decide +kernel
theorem dX5_sweep_47 : decode cX5_sweep 47 = .ok (.getfield 36, 3) := by decide +kernel
theorem dX5_sweep_50 : decode cX5_sweep 50 = .ok (.iload 4, 2) := by decide +kernel
theorem dX5_sweep_52 : decode cX5_sweep 52 = .ok (.aload_n 0, 1) := by decide +kernel
theorem dX5_sweep_53 : decode cX5_sweep 53 = .ok (.getfield 36, 3) := by decide +kernel
theorem dX5_sweep_56 : decode cX5_sweep 56 = .ok (.iload 4, 2) := by decide +kernel
theorem dX5_sweep_58 : decode cX5_sweep 58 = .ok (.daload, 1) := by decide +kernel
theorem dX5_sweep_59 : decode cX5_sweep 59 = .ok (.ldc2_w 93, 3) := by decide +kernel
theorem dX5_sweep_62 : decode cX5_sweep 62 = .ok (.aload_n 0, 1) := by decide +kernel
theorem dX5_sweep_63 : decode cX5_sweep 63 = .ok (.iload_n 1, 1) := by decide +kernel
theorem dX5_sweep_64 : decode cX5_sweep 64 = .ok (.iload_n 3, 1) := by decide +kernel
theorem dX5_sweep_65 : decode cX5_sweep 65 = .ok (.iload_n 2, 1) := by decide +kernel
theorem dX5_sweep_66 : decode cX5_sweep 66 = .ok (.invokevirtual 95, 3) := by decide +kernel
theorem dX5_sweep_69 : decode cX5_sweep 69 = .ok (.dmul, 1) := by decide +kernel
theorem dX5_sweep_70 : decode cX5_sweep 70 = .ok (.aload_n 0, 1) := by decide +kernel
theorem dX5_sweep_71 : decode cX5_sweep 71 = .ok (.iload_n 3, 1) := by decide +kernel
theorem dX5_sweep_72 : decode cX5_sweep 72 = .ok (.iload_n 2, 1) := by decide +kernel
theorem dX5_sweep_73 : decode cX5_sweep 73 = .ok (.invokevirtual 99, 3) := by decide +kernel
theorem dX5_sweep_76 : decode cX5_sweep 76 = .ok (.ddiv, 1) := by decide +kernel
theorem dX5_sweep_77 : decode cX5_sweep 77 = .ok (.dadd, 1) := by decide +kernel
theorem dX5_sweep_78 : decode cX5_sweep 78 = .ok (.dastore, 1) := by decide +kernel
theorem dX5_sweep_79 : decode cX5_sweep 79 = .ok (.iinc 3 1, 3) := by decide +kernel
theorem dX5_sweep_82 : decode cX5_sweep 82 = .ok (.goto (-70), 3) := by decide +kernel
theorem dX5_sweep_85 : decode cX5_sweep 85 = .ok (.iinc 2 1, 3) := by decide +kernel
theorem dX5_sweep_88 : decode cX5_sweep 88 = .ok (.goto (-86), 3) := by decide +kernel
theorem dX5_sweep_91 : decode cX5_sweep 91 = .ok (.iconst 0, 1) := by decide +kernel
theorem dX5_sweep_92 : decode cX5_sweep 92 = .ok (.istore_n 2, 1) := by decide +kernel
theorem dX5_sweep_93 : decode cX5_sweep 93 = .ok (.iload_n 2, 1) := by decide +kernel
theorem dX5_sweep_94 : decode cX5_sweep 94 = .ok (.iload_n 1, 1) := by decide +kernel
theorem dX5_sweep_95 : decode cX5_sweep 95 = .ok (.if_icmp .ge 84, 3) := by decide +kernel
theorem dX5_sweep_98 : decode cX5_sweep 98 = .ok (.aload_n 0, 1) := by decide +kernel
theorem dX5_sweep_99 : decode cX5_sweep 99 = .ok (.iload_n 1, 1) := by decide +kernel
theorem dX5_sweep_100 : decode cX5_sweep 100 = .ok (.iload_n 2, 1) := by decide +kernel
theorem dX5_sweep_101 : decode cX5_sweep 101 = .ok (.invokevirtual 103, 3) := by decide +kernel
theorem dX5_sweep_104 : decode cX5_sweep 104 = .ok (.dstore_n 3, 1) := by decide +kernel
theorem dX5_sweep_105 : decode cX5_sweep 105 = .ok (.iconst 0, 1) := by decide +kernel
theorem dX5_sweep_106 : decode cX5_sweep 106 = .ok (.istore 5, 2) := by decide +kernel
theorem dX5_sweep_108 : decode cX5_sweep 108 = .ok (.iload 5, 2) := by decide +kernel
theorem dX5_sweep_110 : decode cX5_sweep 110 = .ok (.bipush 36, 2) := by decide +kernel
theorem dX5_sweep_112 : decode cX5_sweep 112 = .ok (.if_icmp .ge 61, 3) := by decide +kernel
theorem dX5_sweep_115 : decode cX5_sweep 115 = .ok (.aload_n 0, 1) := by decide +kernel
theorem dX5_sweep_116 : decode cX5_sweep 116 = .ok (.getfield 36, 3) := by decide +kernel
theorem dX5_sweep_119 : decode cX5_sweep 119 = .ok (.bipush 36, 2) := by decide +kernel
theorem dX5_sweep_121 : decode cX5_sweep 121 = .ok (.iload_n 1, 1) := by decide +kernel
theorem dX5_sweep_122 : decode cX5_sweep 122 = .ok (.imul, 1) := by decide +kernel
theorem dX5_sweep_123 : decode cX5_sweep 123 = .ok (.iload 5, 2) := by decide +kernel
theorem dX5_sweep_125 : decode cX5_sweep 125 = .ok (.iadd, 1) := by decide +kernel
theorem dX5_sweep_126 : decode cX5_sweep 126 = .ok (.aload_n 0, 1) := by decide +kernel
theorem dX5_sweep_127 : decode cX5_sweep 127 = .ok (.iload 5, 2) := by decide +kernel
theorem dX5_sweep_129 : decode cX5_sweep 129 = .ok (.invokevirtual 79, 3) := by decide +kernel
theorem dX5_sweep_132 : decode cX5_sweep 132 = .ok (.ifCond .eq 33, 3) := by decide +kernel
theorem dX5_sweep_135 : decode cX5_sweep 135 = .ok (.aload_n 0, 1) := by decide +kernel
theorem dX5_sweep_136 : decode cX5_sweep 136 = .ok (.getfield 36, 3) := by decide +kernel
theorem dX5_sweep_139 : decode cX5_sweep 139 = .ok (.bipush 36, 2) := by decide +kernel
theorem dX5_sweep_141 : decode cX5_sweep 141 = .ok (.iload_n 1, 1) := by decide +kernel
theorem dX5_sweep_142 : decode cX5_sweep 142 = .ok (.imul, 1) := by decide +kernel
theorem dX5_sweep_143 : decode cX5_sweep 143 = .ok (.iload 5, 2) := by decide +kernel
theorem dX5_sweep_145 : decode cX5_sweep 145 = .ok (.iadd, 1) := by decide +kernel
theorem dX5_sweep_146 : decode cX5_sweep 146 = .ok (.daload, 1) := by decide +kernel
theorem dX5_sweep_147 : decode cX5_sweep 147 = .ok (.dload_n 3, 1) := by decide +kernel
theorem dX5_sweep_148 : decode cX5_sweep 148 = .ok (.aload_n 0, 1) := by decide +kernel
theorem dX5_sweep_149 : decode cX5_sweep 149 = .ok (.getfield 36, 3) := by decide +kernel
theorem dX5_sweep_152 : decode cX5_sweep 152 = .ok (.bipush 36, 2) := by decide +kernel
theorem dX5_sweep_154 : decode cX5_sweep 154 = .ok (.iload_n 2, 1) := by decide +kernel
theorem dX5_sweep_155 : decode cX5_sweep 155 = .ok (.imul, 1) := by decide +kernel
theorem dX5_sweep_156 : decode cX5_sweep 156 = .ok (.iload 5, 2) := by decide +kernel
theorem dX5_sweep_158 : decode cX5_sweep 158 = .ok (.iadd, 1) := by decide +kernel
theorem dX5_sweep_159 : decode cX5_sweep 159 = .ok (.daload, 1) := by decide +kernel
theorem dX5_sweep_160 : decode cX5_sweep 160 = .ok (.dmul, 1) := by decide +kernel
theorem dX5_sweep_161 : decode cX5_sweep 161 = .ok (.dsub, 1) := by decide +kernel
theorem dX5_sweep_162 : decode cX5_sweep 162 = .ok (.goto 4, 3) := by decide +kernel
theorem dX5_sweep_165 : decode cX5_sweep 165 = .ok (.dconst 0, 1) := by decide +kernel
theorem dX5_sweep_166 : decode cX5_sweep 166 = .ok (.dastore, 1) := by decide +kernel
theorem dX5_sweep_167 : decode cX5_sweep 167 = .ok (.iinc 5 1, 3) := by decide +kernel
theorem dX5_sweep_170 : decode cX5_sweep 170 = .ok (.goto (-62), 3) := by decide +kernel
theorem dX5_sweep_173 : decode cX5_sweep 173 = .ok (.iinc 2 1, 3) := by decide +kernel
theorem dX5_sweep_176 : decode cX5_sweep 176 = .ok (.goto (-83), 3) := by decide +kernel
theorem dX5_sweep_179 : decode cX5_sweep 179 = .ok (.aload_n 0, 1) := by decide +kernel
theorem dX5_sweep_180 : decode cX5_sweep 180 = .ok (.iload_n 1, 1) := by decide +kernel
theorem dX5_sweep_181 : decode cX5_sweep 181 = .ok (.iload_n 1, 1) := by decide +kernel
theorem dX5_sweep_182 : decode cX5_sweep 182 = .ok (.invokevirtual 103, 3) := by decide +kernel
theorem dX5_sweep_185 : decode cX5_sweep 185 = .ok (.invokestatic 106, 3) := by decide +kernel
theorem dX5_sweep_188 : decode cX5_sweep 188 = .ok (.dstore_n 2, 1) := by decide +kernel
theorem dX5_sweep_189 : decode cX5_sweep 189 = .ok (.iconst 0, 1) := by decide +kernel
theorem dX5_sweep_190 : decode cX5_sweep 190 = .ok (.istore 4, 2) := by decide +kernel
theorem dX5_sweep_192 : decode cX5_sweep 192 = .ok (.iload 4, 2) := by decide +kernel
theorem dX5_sweep_194 : decode cX5_sweep 194 = .ok (.bipush 36, 2) := by decide +kernel
theorem dX5_sweep_196 : decode cX5_sweep 196 = .ok (.if_icmp .ge 54, 3) := by decide +kernel
theorem dX5_sweep_199 : decode cX5_sweep 199 = .ok (.dload_n 2, 1) := by decide +kernel
theorem dX5_sweep_200 : decode cX5_sweep 200 = .ok (.dconst 0, 1) := by decide +kernel
theorem dX5_sweep_201 : decode cX5_sweep 201 = .ok (.dcmp .l, 1) := by decide +kernel
theorem dX5_sweep_202 : decode cX5_sweep 202 = .ok (.ifCond .eq 48, 3) := by decide +kernel
theorem dX5_sweep_205 : decode cX5_sweep 205 = .ok (.aload_n 0, 1) := by decide +kernel
theorem dX5_sweep_206 : decode cX5_sweep 206 = .ok (.getfield 36, 3) := by decide +kernel
theorem dX5_sweep_209 : decode cX5_sweep 209 = .ok (.bipush 36, 2) := by decide +kernel
theorem dX5_sweep_211 : decode cX5_sweep 211 = .ok (.iload_n 1, 1) := by decide +kernel
theorem dX5_sweep_212 : decode cX5_sweep 212 = .ok (.imul, 1) := by decide +kernel
theorem dX5_sweep_213 : decode cX5_sweep 213 = .ok (.iload 4, 2) := by decide +kernel
theorem dX5_sweep_215 : decode cX5_sweep 215 = .ok (.iadd, 1) := by decide +kernel
theorem dX5_sweep_216 : decode cX5_sweep 216 = .ok (.aload_n 0, 1) := by decide +kernel
theorem dX5_sweep_217 : decode cX5_sweep 217 = .ok (.iload 4, 2) := by decide +kernel
theorem dX5_sweep_219 : decode cX5_sweep 219 = .ok (.invokevirtual 79, 3) := by decide +kernel
theorem dX5_sweep_222 : decode cX5_sweep 222 = .ok (.ifCond .eq 20, 3) := by decide +kernel
theorem dX5_sweep_225 : decode cX5_sweep 225 = .ok (.aload_n 0, 1) := by decide +kernel
theorem dX5_sweep_226 : decode cX5_sweep 226 = .ok (.getfield 36, 3) := by decide +kernel
theorem dX5_sweep_229 : decode cX5_sweep 229 = .ok (.bipush 36, 2) := by decide +kernel
theorem dX5_sweep_231 : decode cX5_sweep 231 = .ok (.iload_n 1, 1) := by decide +kernel
theorem dX5_sweep_232 : decode cX5_sweep 232 = .ok (.imul, 1) := by decide +kernel
theorem dX5_sweep_233 : decode cX5_sweep 233 = .ok (.iload 4, 2) := by decide +kernel
theorem dX5_sweep_235 : decode cX5_sweep 235 = .ok (.iadd, 1) := by decide +kernel
theorem dX5_sweep_236 : decode cX5_sweep 236 = .ok (.daload, 1) := by decide +kernel
theorem dX5_sweep_237 : decode cX5_sweep 237 = .ok (.dload_n 2, 1) := by decide +kernel
theorem dX5_sweep_238 : decode cX5_sweep 238 = .ok (.ddiv, 1) := by decide +kernel
theorem dX5_sweep_239 : decode cX5_sweep 239 = .ok (.goto 4, 3) := by decide +kernel
theorem dX5_sweep_242 : decode cX5_sweep 242 = .ok (.dconst 0, 1) := by decide +kernel
theorem dX5_sweep_243 : decode cX5_sweep 243 = .ok (.dastore, 1) := by decide +kernel
theorem dX5_sweep_244 : decode cX5_sweep 244 = .ok (.iinc 4 1, 3) := by decide +kernel
theorem dX5_sweep_247 : decode cX5_sweep 247 = .ok (.goto (-55), 3) := by decide +kernel
theorem dX5_sweep_250 : decode cX5_sweep 250 = .ok (.dload_n 2, 1) := by decide +kernel
theorem dX5_sweep_251 : decode cX5_sweep 251 = .ok (.dconst 0, 1) := by decide +kernel
theorem dX5_sweep_252 : decode cX5_sweep 252 = .ok (.dcmp .l, 1) := by decide +kernel
theorem dX5_sweep_253 : decode cX5_sweep 253 = .ok (.ifCond .eq 7, 3) := by decide +kernel
theorem dX5_sweep_256 : decode cX5_sweep 256 = .ok (.iconst 1, 1) := by decide +kernel
theorem dX5_sweep_257 : decode cX5_sweep 257 = .ok (.goto 4, 3) := by decide +kernel
theorem dX5_sweep_260 : decode cX5_sweep 260 = .ok (.iconst 0, 1) := by decide +kernel
theorem dX5_sweep_261 : decode cX5_sweep 261 = .ok (.ireturn, 1) := by decide +kernel
set_option maxRecDepth 20000 in
theorem ggX5_make_X5_isWood : GoodIn wsX5_make wsX5_isWood := goodIn_r _ [10, 11, 41, 42, 43, 44, 45, 46, 47, 48, 49, 50, 51, 52, 53, 54, 55, 56, 57, 58, 59] (by decide +kernel) (by decide +kernel)
set_option maxRecDepth 20000 in
theorem gX5_make_X5_isWood : GoodIn wsX5_make (wsV RX5 79 RX5 yX5_isWood wsX5_isWood) := goodIn_app (goodIn_of _ (by decide +kernel)) ggX5_make_X5_isWood
set_option maxRecDepth 20000 in
theorem ggX5_make_X5_sweep : GoodIn wsX5_make wsX5_sweep := goodIn_r _ [15, 2, 1, 3, 16, 6, 7, 8, 9, 10, 11, 17, 18, 19, 20, 21, 22, 23, 24, 25, 26, 27, 28, 29, 30, 31, 32, 33, 34, 35, 36, 37, 38, 39, 40, 41, 42, 43, 44, 45, 46, 47, 48, 49, 50, 51, 52, 53, 54, 55, 56, 57, 58, 59] (by decide +kernel) (by decide +kernel)
set_option maxRecDepth 20000 in
theorem gX5_make_X5_sweep : GoodIn wsX5_make (wsV RX5 110 RX5 yX5_sweep wsX5_sweep) := goodIn_app (goodIn_of _ (by decide +kernel)) ggX5_make_X5_sweep
set_option maxRecDepth 20000 in
theorem ggX5_make_X5_force : GoodIn wsX5_make wsX5_force := goodIn_r _ [20, 1, 21, 3, 2, 22, 23, 41, 42, 43, 44, 45, 46, 47, 48, 49, 50, 51, 52, 53, 54, 55, 56, 57, 58, 59] (by decide +kernel) (by decide +kernel)
set_option maxRecDepth 20000 in
theorem gX5_make_X5_force : GoodIn wsX5_make (wsV RX5 95 RX5 yX5_force wsX5_force) := goodIn_app (goodIn_of _ (by decide +kernel)) ggX5_make_X5_force
theorem dX5_make_0 : decode cX5_make 0 = .ok (.iconst 0, 1) := by decide +kernel
theorem dX5_make_1 : decode cX5_make 1 = .ok (.istore_n 2, 1) := by decide +kernel
theorem dX5_make_2 : decode cX5_make 2 = .ok (.iload_n 2, 1) := by decide +kernel
theorem dX5_make_3 : decode cX5_make 3 = .ok (.bipush 6, 2) := by decide +kernel
theorem dX5_make_5 : decode cX5_make 5 = .ok (.if_icmp .ge 106, 3) := by decide +kernel
theorem dX5_make_8 : decode cX5_make 8 = .ok (.iconst 0, 1) := by decide +kernel
theorem dX5_make_9 : decode cX5_make 9 = .ok (.istore_n 3, 1) := by decide +kernel
theorem dX5_make_10 : decode cX5_make 10 = .ok (.iload_n 3, 1) := by decide +kernel
theorem dX5_make_11 : decode cX5_make 11 = .ok (.bipush 6, 2) := by decide +kernel
theorem dX5_make_13 : decode cX5_make 13 = .ok (.if_icmp .ge 92, 3) := by decide +kernel
theorem dX5_make_16 : decode cX5_make 16 = .ok (.iload_n 3, 1) := by decide +kernel
theorem dX5_make_17 : decode cX5_make 17 = .ok (.aload_n 0, 1) := by decide +kernel
theorem dX5_make_18 : decode cX5_make 18 = .ok (.getfield 48, 3) := by decide +kernel
theorem dX5_make_21 : decode cX5_make 21 = .ok (.if_icmp .ge 28, 3) := by decide +kernel
theorem dX5_make_24 : decode cX5_make 24 = .ok (.iload_n 2, 1) := by decide +kernel
theorem dX5_make_25 : decode cX5_make 25 = .ok (.aload_n 0, 1) := by decide +kernel
theorem dX5_make_26 : decode cX5_make 26 = .ok (.getfield 52, 3) := by decide +kernel
theorem dX5_make_29 : decode cX5_make 29 = .ok (.if_icmp .ge 20, 3) := by decide +kernel
theorem dX5_make_32 : decode cX5_make 32 = .ok (.aload_n 0, 1) := by decide +kernel
theorem dX5_make_33 : decode cX5_make 33 = .ok (.bipush 6, 2) := by decide +kernel
theorem dX5_make_35 : decode cX5_make 35 = .ok (.iload_n 2, 1) := by decide +kernel
theorem dX5_make_36 : decode cX5_make 36 = .ok (.imul, 1) := by decide +kernel
theorem dX5_make_37 : decode cX5_make 37 = .ok (.iload_n 3, 1) := by decide +kernel
theorem dX5_make_38 : decode cX5_make 38 = .ok (.iadd, 1) := by decide +kernel
theorem dX5_make_39 : decode cX5_make 39 = .ok (.invokevirtual 79, 3) := by decide +kernel
theorem dX5_make_42 : decode cX5_make 42 = .ok (.ifCond .eq 7, 3) := by decide +kernel
theorem dX5_make_45 : decode cX5_make 45 = .ok (.iconst 1, 1) := by decide +kernel
theorem dX5_make_46 : decode cX5_make 46 = .ok (.goto 4, 3) := by decide +kernel
theorem dX5_make_49 : decode cX5_make 49 = .ok (.iconst 0, 1) := by decide +kernel
theorem dX5_make_50 : decode cX5_make 50 = .ok (.istore 4, 2) := by decide +kernel
theorem dX5_make_52 : decode cX5_make 52 = .ok (.aload_n 0, 1) := by decide +kernel
theorem dX5_make_53 : decode cX5_make 53 = .ok (.getfield 36, 3) := by decide +kernel
theorem dX5_make_56 : decode cX5_make 56 = .ok (.bipush 36, 2) := by decide +kernel
theorem dX5_make_58 : decode cX5_make 58 = .ok (.iload_n 1, 1) := by decide +kernel
theorem dX5_make_59 : decode cX5_make 59 = .ok (.imul, 1) := by decide +kernel
theorem dX5_make_60 : decode cX5_make 60 = .ok (.bipush 6, 2) := by decide +kernel
theorem dX5_make_62 : decode cX5_make 62 = .ok (.iload_n 2, 1) := by decide +kernel
theorem dX5_make_63 : decode cX5_make 63 = .ok (.imul, 1) := by decide +kernel
theorem dX5_make_64 : decode cX5_make 64 = .ok (.iadd, 1) := by decide +kernel
theorem dX5_make_65 : decode cX5_make 65 = .ok (.iload_n 3, 1) := by decide +kernel
theorem dX5_make_66 : decode cX5_make 66 = .ok (.iadd, 1) := by decide +kernel
theorem dX5_make_67 : decode cX5_make 67 = .ok (.iload 4, 2) := by decide +kernel
theorem dX5_make_69 : decode cX5_make 69 = .ok (.ifCond .eq 28, 3) := by decide +kernel
theorem dX5_make_72 : decode cX5_make 72 = .ok (.dconst 1, 1) := by decide +kernel
theorem dX5_make_73 : decode cX5_make 73 = .ok (.iconst 3, 1) := by decide +kernel
theorem dX5_make_74 : decode cX5_make 74 = .ok (.iload_n 3, 1) := by decide +kernel
theorem dX5_make_75 : decode cX5_make 75 = .ok (.imul, 1) := by decide +kernel
theorem dX5_make_76 : decode cX5_make 76 = .ok (.iconst 5, 1) := by decide +kernel
theorem dX5_make_77 : decode cX5_make 77 = .ok (.iload_n 2, 1) := by decide +kernel
theorem dX5_make_78 : decode cX5_make 78 = .ok (.imul, 1) := by decide +kernel
theorem dX5_make_79 : decode cX5_make 79 = .ok (.iadd, 1) := by decide +kernel
theorem dX5_make_80 : decode cX5_make 80 = .ok (.bipush 7, 2) := by decide +kernel
theorem dX5_make_82 : decode cX5_make 82 = .ok (.iload_n 1, 1) := by decide +kernel
theorem dX5_make_83 : decode cX5_make 83 = .ok (.imul, 1) := by decide +kernel
theorem dX5_make_84 : decode cX5_make 84 = .ok (.iadd, 1) := by decide +kernel
theorem dX5_make_85 : decode cX5_make 85 = .ok (.bipush 11, 2) := by decide +kernel
theorem dX5_make_87 : decode cX5_make 87 = .ok (.irem, 1) := by decide +kernel
theorem dX5_make_88 : decode cX5_make 88 = .ok (.i2d, 1) := by decide +kernel
theorem dX5_make_89 : decode cX5_make 89 = .ok (.ldc2_w 66, 3) := by decide +kernel
theorem dX5_make_92 : decode cX5_make 92 = .ok (.ddiv, 1) := by decide +kernel
theorem dX5_make_93 : decode cX5_make 93 = .ok (.dadd, 1) := by decide +kernel
theorem dX5_make_94 : decode cX5_make 94 = .ok (.goto 4, 3) := by decide +kernel
theorem dX5_make_97 : decode cX5_make 97 = .ok (.dconst 0, 1) := by decide +kernel
theorem dX5_make_98 : decode cX5_make 98 = .ok (.dastore, 1) := by decide +kernel
theorem dX5_make_99 : decode cX5_make 99 = .ok (.iinc 3 1, 3) := by decide +kernel
theorem dX5_make_102 : decode cX5_make 102 = .ok (.goto (-92), 3) := by decide +kernel
theorem dX5_make_105 : decode cX5_make 105 = .ok (.iinc 2 1, 3) := by decide +kernel
theorem dX5_make_108 : decode cX5_make 108 = .ok (.goto (-106), 3) := by decide +kernel
theorem dX5_make_111 : decode cX5_make 111 = .ok (.iconst 0, 1) := by decide +kernel
theorem dX5_make_112 : decode cX5_make 112 = .ok (.istore_n 2, 1) := by decide +kernel
theorem dX5_make_113 : decode cX5_make 113 = .ok (.iload_n 2, 1) := by decide +kernel
theorem dX5_make_114 : decode cX5_make 114 = .ok (.bipush 24, 2) := by decide +kernel
theorem dX5_make_116 : decode cX5_make 116 = .ok (.if_icmp .ge 19, 3) := by decide +kernel
theorem dX5_make_119 : decode cX5_make 119 = .ok (.aload_n 0, 1) := by decide +kernel
theorem dX5_make_120 : decode cX5_make 120 = .ok (.iload_n 1, 1) := by decide +kernel
theorem dX5_make_121 : decode cX5_make 121 = .ok (.invokevirtual 110, 3) := by decide +kernel
theorem dX5_make_124 : decode cX5_make 124 = .ok (.ifCond .ne 5, 3) := by decide +kernel
theorem dX5_make_127 : decode cX5_make 127 = .ok (.iconst 0, 1) := by decide +kernel
theorem dX5_make_128 : decode cX5_make 128 = .ok (.ireturn, 1) := by decide +kernel
theorem dX5_make_129 : decode cX5_make 129 = .ok (.iinc 2 1, 3) := by decide +kernel
theorem dX5_make_132 : decode cX5_make 132 = .ok (.goto (-19), 3) := by decide +kernel
theorem dX5_make_135 : decode cX5_make 135 = .ok (.dconst 0, 1) := by decide +kernel
theorem dX5_make_136 : decode cX5_make 136 = .ok (.dstore_n 2, 1) := by decide +kernel
theorem dX5_make_137 : decode cX5_make 137 = .ok (.iconst 0, 1) := by decide +kernel
theorem dX5_make_138 : decode cX5_make 138 = .ok (.istore 4, 2) := by decide +kernel
theorem dX5_make_140 : decode cX5_make 140 = .ok (.iload 4, 2) := by decide +kernel
theorem dX5_make_142 : decode cX5_make 142 = .ok (.aload_n 0, 1) := by decide +kernel
theorem dX5_make_143 : decode cX5_make 143 = .ok (.getfield 52, 3) := by decide +kernel
theorem dX5_make_146 : decode cX5_make 146 = .ok (.if_icmp .ge 77, 3) := by decide +kernel
theorem dX5_make_149 : decode cX5_make 149 = .ok (.iconst 0, 1) := by decide +kernel
theorem dX5_make_150 : decode cX5_make 150 = .ok (.istore 5, 2) := by decide +kernel
theorem dX5_make_152 : decode cX5_make 152 = .ok (.iload 5, 2) := by decide +kernel
theorem dX5_make_154 : decode cX5_make 154 = .ok (.aload_n 0, 1) := by decide +kernel
theorem dX5_make_155 : decode cX5_make 155 = .ok (.getfield 48, 3) := by decide +kernel
theorem dX5_make_158 : decode cX5_make 158 = .ok (.if_icmp .ge 59, 3) := by decide +kernel
theorem dX5_make_161 : decode cX5_make 161 = .ok (.aload_n 0, 1) := by decide +kernel
theorem dX5_make_162 : decode cX5_make 162 = .ok (.bipush 6, 2) := by decide +kernel
theorem dX5_make_164 : decode cX5_make 164 = .ok (.iload 4, 2) := by decide +kernel
theorem dX5_make_166 : decode cX5_make 166 = .ok (.imul, 1) := by decide +kernel
theorem dX5_make_167 : decode cX5_make 167 = .ok (.iload 5, 2) := by decide +kernel
theorem dX5_make_169 : decode cX5_make 169 = .ok (.iadd, 1) := by decide +kernel
theorem dX5_make_170 : decode cX5_make 170 = .ok (.invokevirtual 79, 3) := by decide +kernel
theorem dX5_make_173 : decode cX5_make 173 = .ok (.ifCond .eq 36, 3) := by decide +kernel
theorem dX5_make_176 : decode cX5_make 176 = .ok (.dload_n 2, 1) := by decide +kernel
theorem dX5_make_177 : decode cX5_make 177 = .ok (.aload_n 0, 1) := by decide +kernel
theorem dX5_make_178 : decode cX5_make 178 = .ok (.getfield 36, 3) := by decide +kernel
theorem dX5_make_181 : decode cX5_make 181 = .ok (.bipush 36, 2) := by decide +kernel
theorem dX5_make_183 : decode cX5_make 183 = .ok (.iload_n 1, 1) := by decide +kernel
theorem dX5_make_184 : decode cX5_make 184 = .ok (.imul, 1) := by decide +kernel
theorem dX5_make_185 : decode cX5_make 185 = .ok (.bipush 6, 2) := by decide +kernel
theorem dX5_make_187 : decode cX5_make 187 = .ok (.iload 4, 2) := by decide +kernel
theorem dX5_make_189 : decode cX5_make 189 = .ok (.imul, 1) := by decide +kernel
theorem dX5_make_190 : decode cX5_make 190 = .ok (.iadd, 1) := by decide +kernel
theorem dX5_make_191 : decode cX5_make 191 = .ok (.iload 5, 2) := by decide +kernel
theorem dX5_make_193 : decode cX5_make 193 = .ok (.iadd, 1) := by decide +kernel
theorem dX5_make_194 : decode cX5_make 194 = .ok (.daload, 1) := by decide +kernel
theorem dX5_make_195 : decode cX5_make 195 = .ok (.aload_n 0, 1) := by decide +kernel
theorem dX5_make_196 : decode cX5_make 196 = .ok (.iload_n 1, 1) := by decide +kernel
theorem dX5_make_197 : decode cX5_make 197 = .ok (.iload 5, 2) := by decide +kernel
theorem dX5_make_199 : decode cX5_make 199 = .ok (.iload 4, 2) := by decide +kernel
theorem dX5_make_201 : decode cX5_make 201 = .ok (.invokevirtual 95, 3) := by decide +kernel
theorem dX5_make_204 : decode cX5_make 204 = .ok (.dmul, 1) := by decide +kernel
theorem dX5_make_205 : decode cX5_make 205 = .ok (.dadd, 1) := by decide +kernel
theorem dX5_make_206 : decode cX5_make 206 = .ok (.goto 4, 3) := by decide +kernel
theorem dX5_make_209 : decode cX5_make 209 = .ok (.dload_n 2, 1) := by decide +kernel
theorem dX5_make_210 : decode cX5_make 210 = .ok (.dstore_n 2, 1) := by decide +kernel
theorem dX5_make_211 : decode cX5_make 211 = .ok (.iinc 5 1, 3) := by decide +kernel
theorem dX5_make_214 : decode cX5_make 214 = .ok (.goto (-62), 3) := by decide +kernel
theorem dX5_make_217 : decode cX5_make 217 = .ok (.iinc 4 1, 3) := by decide +kernel
theorem dX5_make_220 : decode cX5_make 220 = .ok (.goto (-80), 3) := by decide +kernel
theorem dX5_make_223 : decode cX5_make 223 = .ok (.aload_n 0, 1) := by decide +kernel
theorem dX5_make_224 : decode cX5_make 224 = .ok (.getfield 39, 3) := by decide +kernel
theorem dX5_make_227 : decode cX5_make 227 = .ok (.iload_n 1, 1) := by decide +kernel
theorem dX5_make_228 : decode cX5_make 228 = .ok (.dconst 0, 1) := by decide +kernel
theorem dX5_make_229 : decode cX5_make 229 = .ok (.dload_n 2, 1) := by decide +kernel
theorem dX5_make_230 : decode cX5_make 230 = .ok (.dsub, 1) := by decide +kernel
theorem dX5_make_231 : decode cX5_make 231 = .ok (.dastore, 1) := by decide +kernel
theorem dX5_make_232 : decode cX5_make 232 = .ok (.iconst 1, 1) := by decide +kernel
theorem dX5_make_233 : decode cX5_make 233 = .ok (.ireturn, 1) := by decide +kernel
set_option maxRecDepth 20000 in
theorem ggX5_makeAll_X5_springs : GoodIn wsX5_makeAll wsX5_springs := goodIn_r _ [7, 8, 9, 10, 11, 12, 13, 14, 15, 16, 17, 18, 19, 20, 6, 21, 22, 23, 24, 25, 59, 60, 61, 62, 63, 64, 65, 66, 67, 68, 69, 70, 71, 72, 73, 74, 75, 76, 77] (by decide +kernel) (by decide +kernel)
set_option maxRecDepth 20000 in
theorem gX5_makeAll_X5_springs : GoodIn wsX5_makeAll (wsV RX5 113 RX5 yX5_springs wsX5_springs) := goodIn_app (goodIn_of _ (by decide +kernel)) ggX5_makeAll_X5_springs
set_option maxRecDepth 20000 in
theorem ggX5_makeAll_X5_make : GoodIn wsX5_makeAll wsX5_make := goodIn_r _ [29, 9, 8, 30, 31, 32, 18, 19, 20, 6, 21, 12, 33, 34, 35, 36, 37, 38, 39, 40, 41, 10, 13, 42, 43, 44, 45, 46, 47, 48, 49, 50, 51, 52, 53, 54, 55, 56, 57, 58, 25, 59, 60, 61, 62, 63, 64, 65, 66, 67, 68, 69, 70, 71, 72, 73, 74, 75, 76, 77] (by decide +kernel) (by decide +kernel)
set_option maxRecDepth 20000 in
theorem gX5_makeAll_X5_make : GoodIn wsX5_makeAll (wsV RX5 119 RX5 yX5_make wsX5_make) := goodIn_app (goodIn_of _ (by decide +kernel)) ggX5_makeAll_X5_make
theorem dX5_makeAll_0 : decode cX5_makeAll 0 = .ok (.aload_n 0, 1) := by decide +kernel
theorem dX5_makeAll_1 : decode cX5_makeAll 1 = .ok (.invokevirtual 113, 3) := by decide +kernel
theorem dX5_makeAll_4 : decode cX5_makeAll 4 = .ok (.aload_n 0, 1) := by decide +kernel
theorem dX5_makeAll_5 : decode cX5_makeAll 5 = .ok (.iconst 0, 1) := by decide +kernel
theorem dX5_makeAll_6 : decode cX5_makeAll 6 = .ok (.putfield 116, 3) := by decide +kernel
theorem dX5_makeAll_9 : decode cX5_makeAll 9 = .ok (.iconst 1, 1) := by decide +kernel
theorem dX5_makeAll_10 : decode cX5_makeAll 10 = .ok (.istore_n 2, 1) := by decide +kernel
theorem dX5_makeAll_11 : decode cX5_makeAll 11 = .ok (.iload_n 2, 1) := by decide +kernel
theorem dX5_makeAll_12 : decode cX5_makeAll 12 = .ok (.ifCond .eq 44, 3) := by decide +kernel
theorem dX5_makeAll_15 : decode cX5_makeAll 15 = .ok (.aload_n 0, 1) := by decide +kernel
theorem dX5_makeAll_16 : decode cX5_makeAll 16 = .ok (.getfield 116, 3) := by decide +kernel
theorem dX5_makeAll_19 : decode cX5_makeAll 19 = .ok (.iload_n 1, 1) := by decide +kernel
theorem dX5_makeAll_20 : decode cX5_makeAll 20 = .ok (.if_icmp .ge 36, 3) := by decide +kernel
theorem dX5_makeAll_23 : decode cX5_makeAll 23 = .ok (.aload_n 0, 1) := by decide +kernel
theorem dX5_makeAll_24 : decode cX5_makeAll 24 = .ok (.aload_n 0, 1) := by decide +kernel
theorem dX5_makeAll_25 : decode cX5_makeAll 25 = .ok (.getfield 116, 3) := by decide +kernel
theorem dX5_makeAll_28 : decode cX5_makeAll 28 = .ok (.invokevirtual 119, 3) := by decide +kernel
theorem dX5_makeAll_31 : decode cX5_makeAll 31 = .ok (.istore_n 2, 1) := by decide +kernel
theorem dX5_makeAll_32 : decode cX5_makeAll 32 = .ok (.aload_n 0, 1) := by decide +kernel
theorem dX5_makeAll_33 : decode cX5_makeAll 33 = .ok (.iload_n 2, 1) := by decide +kernel
theorem dX5_makeAll_34 : decode cX5_makeAll 34 = .ok (.ifCond .eq 12, 3) := by decide +kernel
theorem dX5_makeAll_37 : decode cX5_makeAll 37 = .ok (.aload_n 0, 1) := by decide +kernel
theorem dX5_makeAll_38 : decode cX5_makeAll 38 = .ok (.getfield 116, 3) := by decide +kernel
theorem dX5_makeAll_41 : decode cX5_makeAll 41 = .ok (.iconst 1, 1) := by decide +kernel
theorem dX5_makeAll_42 : decode cX5_makeAll 42 = .ok (.iadd, 1) := by decide +kernel
theorem dX5_makeAll_43 : decode cX5_makeAll 43 = .ok (.goto 7, 3) := by decide +kernel
theorem dX5_makeAll_46 : decode cX5_makeAll 46 = .ok (.aload_n 0, 1) := by decide +kernel
theorem dX5_makeAll_47 : decode cX5_makeAll 47 = .ok (.getfield 116, 3) := by decide +kernel
theorem dX5_makeAll_50 : decode cX5_makeAll 50 = .ok (.putfield 116, 3) := by decide +kernel
theorem dX5_makeAll_53 : decode cX5_makeAll 53 = .ok (.goto (-42), 3) := by decide +kernel
theorem dX5_makeAll_56 : decode cX5_makeAll 56 = .ok (.aload_n 0, 1) := by decide +kernel
theorem dX5_makeAll_57 : decode cX5_makeAll 57 = .ok (.iconst 1, 1) := by decide +kernel
theorem dX5_makeAll_58 : decode cX5_makeAll 58 = .ok (.putfield 72, 3) := by decide +kernel
theorem dX5_makeAll_61 : decode cX5_makeAll 61 = .ok (.return_, 1) := by decide +kernel
