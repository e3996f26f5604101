theorem dX12_builds_61 : decode cX12_builds 61 = .ok (.getfield 131, 3) := by decide +kernel
theorem dX12_builds_64 : decode cX12_builds 64 = .ok (.iload 4, 2) := by decide +kernel
theorem dX12_builds_66 : decode cX12_builds 66 = .ok (.iaload, 1) := by decide +kernel
theorem dX12_builds_67 : decode cX12_builds 67 = .ok (.ifCond .ne 5, 3) := by decide +kernel
theorem dX12_builds_70 : decode cX12_builds 70 = .ok (.iload_n 1, 1) := by decide +kernel
theorem dX12_builds_71 : decode cX12_builds 71 = .ok (.istore_n 2, 1) := by decide +kernel
theorem dX12_builds_72 : decode cX12_builds 72 = .ok (.aload_n 0, 1) := by decide +kernel
theorem dX12_builds_73 : decode cX12_builds 73 = .ok (.getfield 131, 3) := by decide +kernel
theorem dX12_builds_76 : decode cX12_builds 76 = .ok (.iload 4, 2) := by decide +kernel
theorem dX12_builds_78 : decode cX12_builds 78 = .ok (.iaload, 1) := by decide +kernel
theorem dX12_builds_79 : decode cX12_builds 79 = .ok (.iconst 1, 1) := by decide +kernel
theorem dX12_builds_80 : decode cX12_builds 80 = .ok (.if_icmp .ne 54, 3) := by decide +kernel
theorem dX12_builds_83 : decode cX12_builds 83 = .ok (.iload_n 1, 1) := by decide +kernel
theorem dX12_builds_84 : decode cX12_builds 84 = .ok (.iload_n 2, 1) := by decide +kernel
theorem dX12_builds_85 : decode cX12_builds 85 = .ok (.if_icmp .le 49, 3) := by decide +kernel
theorem dX12_builds_88 : decode cX12_builds 88 = .ok (.iload 5, 2) := by decide +kernel
theorem dX12_builds_90 : decode cX12_builds 90 = .ok (.iload 6, 2) := by decide +kernel
theorem dX12_builds_92 : decode cX12_builds 92 = .ok (.if_icmp .ge 42, 3) := by decide +kernel
theorem dX12_builds_95 : decode cX12_builds 95 = .ok (.aload_n 0, 1) := by decide +kernel
theorem dX12_builds_96 : decode cX12_builds 96 = .ok (.aload_n 0, 1) := by decide +kernel
theorem dX12_builds_97 : decode cX12_builds 97 = .ok (.getfield 141, 3) := by decide +kernel
theorem dX12_builds_100 : decode cX12_builds 100 = .ok (.iload_n 1, 1) := by decide +kernel
theorem dX12_builds_101 : decode cX12_builds 101 = .ok (.iconst 1, 1) := by decide +kernel
theorem dX12_builds_102 : decode cX12_builds 102 = .ok (.isub, 1) := by decide +kernel
theorem dX12_builds_103 : decode cX12_builds 103 = .ok (.iaload, 1) := by decide +kernel
theorem dX12_builds_104 : decode cX12_builds 104 = .ok (.iload 5, 2) := by decide +kernel
theorem dX12_builds_106 : decode cX12_builds 106 = .ok (.invokevirtual 547, 3) := by decide +kernel
theorem dX12_builds_109 : decode cX12_builds 109 = .ok (.ifCond .ne 5, 3) := by decide +kernel
theorem dX12_builds_112 : decode cX12_builds 112 = .ok (.iconst 0, 1) := by decide +kernel
theorem dX12_builds_113 : decode cX12_builds 113 = .ok (.ireturn, 1) := by decide +kernel
theorem dX12_builds_114 : decode cX12_builds 114 = .ok (.aload_n 0, 1) := by decide +kernel
theorem dX12_builds_115 : decode cX12_builds 115 = .ok (.getfield 141, 3) := by decide +kernel
theorem dX12_builds_118 : decode cX12_builds 118 = .ok (.iload_n 1, 1) := by decide +kernel
theorem dX12_builds_119 : decode cX12_builds 119 = .ok (.iconst 1, 1) := by decide +kernel
theorem dX12_builds_120 : decode cX12_builds 120 = .ok (.isub, 1) := by decide +kernel
theorem dX12_builds_121 : decode cX12_builds 121 = .ok (.aload_n 0, 1) := by decide +kernel
theorem dX12_builds_122 : decode cX12_builds 122 = .ok (.getfield 397, 3) := by decide +kernel
theorem dX12_builds_125 : decode cX12_builds 125 = .ok (.iconst 1, 1) := by decide +kernel
theorem dX12_builds_126 : decode cX12_builds 126 = .ok (.isub, 1) := by decide +kernel
theorem dX12_builds_127 : decode cX12_builds 127 = .ok (.iastore, 1) := by decide +kernel
theorem dX12_builds_128 : decode cX12_builds 128 = .ok (.iinc 3 (-1), 3) := by decide +kernel
theorem dX12_builds_131 : decode cX12_builds 131 = .ok (.iinc 5 1, 3) := by decide +kernel
theorem dX12_builds_134 : decode cX12_builds 134 = .ok (.iload 5, 2) := by decide +kernel
theorem dX12_builds_136 : decode cX12_builds 136 = .ok (.istore 7, 2) := by decide +kernel
theorem dX12_builds_138 : decode cX12_builds 138 = .ok (.iload 7, 2) := by decide +kernel
theorem dX12_builds_140 : decode cX12_builds 140 = .ok (.iload 6, 2) := by decide +kernel
theorem dX12_builds_142 : decode cX12_builds 142 = .ok (.if_icmp .ge 20, 3) := by decide +kernel
theorem dX12_builds_145 : decode cX12_builds 145 = .ok (.aload_n 0, 1) := by decide +kernel
theorem dX12_builds_146 : decode cX12_builds 146 = .ok (.getfield 141, 3) := by decide +kernel
theorem dX12_builds_149 : decode cX12_builds 149 = .ok (.iload_n 1, 1) := by decide +kernel
theorem dX12_builds_150 : decode cX12_builds 150 = .ok (.iload 7, 2) := by decide +kernel
theorem dX12_builds_152 : decode cX12_builds 152 = .ok (.iastore, 1) := by decide +kernel
theorem dX12_builds_153 : decode cX12_builds 153 = .ok (.iinc 1 1, 3) := by decide +kernel
theorem dX12_builds_156 : decode cX12_builds 156 = .ok (.iinc 7 1, 3) := by decide +kernel
theorem dX12_builds_159 : decode cX12_builds 159 = .ok (.goto (-21), 3) := by decide +kernel
theorem dX12_builds_162 : decode cX12_builds 162 = .ok (.iinc 4 1, 3) := by decide +kernel
theorem dX12_builds_165 : decode cX12_builds 165 = .ok (.goto (-140), 3) := by decide +kernel
theorem dX12_builds_168 : decode cX12_builds 168 = .ok (.iload_n 3, 1) := by decide +kernel
theorem dX12_builds_169 : decode cX12_builds 169 = .ok (.bipush 30, 2) := by decide +kernel
theorem dX12_builds_171 : decode cX12_builds 171 = .ok (.if_icmp .le 19, 3) := by decide +kernel
theorem dX12_builds_174 : decode cX12_builds 174 = .ok (.aload_n 0, 1) := by decide +kernel
theorem dX12_builds_175 : decode cX12_builds 175 = .ok (.bipush 7, 2) := by decide +kernel
theorem dX12_builds_177 : decode cX12_builds 177 = .ok (.aload_n 0, 1) := by decide +kernel
theorem dX12_builds_178 : decode cX12_builds 178 = .ok (.getfield 101, 3) := by decide +kernel
theorem dX12_builds_181 : decode cX12_builds 181 = .ok (.aload_n 0, 1) := by decide +kernel
theorem dX12_builds_182 : decode cX12_builds 182 = .ok (.getfield 448, 3) := by decide +kernel
theorem dX12_builds_185 : decode cX12_builds 185 = .ok (.iaload, 1) := by decide +kernel
theorem dX12_builds_186 : decode cX12_builds 186 = .ok (.invokevirtual 376, 3) := by decide +kernel
theorem dX12_builds_189 : decode cX12_builds 189 = .ok (.ireturn, 1) := by decide +kernel
theorem dX12_builds_190 : decode cX12_builds 190 = .ok (.aload_n 0, 1) := by decide +kernel
theorem dX12_builds_191 : decode cX12_builds 191 = .ok (.getfield 394, 3) := by decide +kernel
theorem dX12_builds_194 : decode cX12_builds 194 = .ok (.istore 4, 2) := by decide +kernel
theorem dX12_builds_196 : decode cX12_builds 196 = .ok (.iconst 0, 1) := by decide +kernel
theorem dX12_builds_197 : decode cX12_builds 197 = .ok (.istore 5, 2) := by decide +kernel
theorem dX12_builds_199 : decode cX12_builds 199 = .ok (.iload 5, 2) := by decide +kernel
theorem dX12_builds_201 : decode cX12_builds 201 = .ok (.iload_n 1, 1) := by decide +kernel
theorem dX12_builds_202 : decode cX12_builds 202 = .ok (.if_icmp .ge 83, 3) := by decide +kernel
theorem dX12_builds_205 : decode cX12_builds 205 = .ok (.aload_n 0, 1) := by decide +kernel
theorem dX12_builds_206 : decode cX12_builds 206 = .ok (.aload_n 0, 1) := by decide +kernel
theorem dX12_builds_207 : decode cX12_builds 207 = .ok (.getfield 141, 3) := by decide +kernel
theorem dX12_builds_210 : decode cX12_builds 210 = .ok (.iload 5, 2) := by decide +kernel
theorem dX12_builds_212 : decode cX12_builds 212 = .ok (.iaload, 1) := by decide +kernel
theorem dX12_builds_213 : decode cX12_builds 213 = .ok (.aload_n 0, 1) := by decide +kernel
theorem dX12_builds_214 : decode cX12_builds 214 = .ok (.getfield 394, 3) := by decide +kernel
theorem dX12_builds_217 : decode cX12_builds 217 = .ok (.invokevirtual 461, 3) := by decide +kernel
theorem dX12_builds_220 : decode cX12_builds 220 = .ok (.aload_n 0, 1) := by decide +kernel
theorem dX12_builds_221 : decode cX12_builds 221 = .ok (.getfield 58, 3) := by decide +kernel
theorem dX12_builds_224 : decode cX12_builds 224 = .ok (.aload_n 0, 1) := by decide +kernel
theorem dX12_builds_225 : decode cX12_builds 225 = .ok (.getfield 394, 3) := by decide +kernel
theorem dX12_builds_228 : decode cX12_builds 228 = .ok (.dup2, 1) := by decide +kernel
theorem dX12_builds_229 : decode cX12_builds 229 = .ok (.iaload, 1) := by decide +kernel
theorem dX12_builds_230 : decode cX12_builds 230 = .ok (.aload_n 0, 1) := by decide +kernel
theorem dX12_builds_231 : decode cX12_builds 231 = .ok (.getfield 104, 3) := by decide +kernel
theorem dX12_builds_234 : decode cX12_builds 234 = .ok (.aload_n 0, 1) := by decide +kernel
theorem dX12_builds_235 : decode cX12_builds 235 = .ok (.getfield 448, 3) := by decide +kernel
theorem dX12_builds_238 : decode cX12_builds 238 = .ok (.iaload, 1) := by decide +kernel
theorem dX12_builds_239 : decode cX12_builds 239 = .ok (.ior, 1) := by decide +kernel
theorem dX12_builds_240 : decode cX12_builds 240 = .ok (.iastore, 1) := by decide +kernel
theorem dX12_builds_241 : decode cX12_builds 241 = .ok (.iload 5, 2) := by decide +kernel
theorem dX12_builds_243 : decode cX12_builds 243 = .ok (.ifCond .ne 26, 3) := by decide +kernel
theorem dX12_builds_246 : decode cX12_builds 246 = .ok (.aload_n 0, 1) := by decide +kernel
theorem dX12_builds_247 : decode cX12_builds 247 = .ok (.getfield 61, 3) := by decide +kernel
theorem dX12_builds_250 : decode cX12_builds 250 = .ok (.aload_n 0, 1) := by decide +kernel
theorem dX12_builds_251 : decode cX12_builds 251 = .ok (.getfield 394, 3) := by decide +kernel
theorem dX12_builds_254 : decode cX12_builds 254 = .ok (.aload_n 0, 1) := by decide +kernel
theorem dX12_builds_255 : decode cX12_builds 255 = .ok (.getfield 61, 3) := by decide +kernel
theorem dX12_builds_258 : decode cX12_builds 258 = .ok (.aload_n 0, 1) := by decide +kernel
theorem dX12_builds_259 : decode cX12_builds 259 = .ok (.getfield 101, 3) := by decide +kernel
theorem dX12_builds_262 : decode cX12_builds 262 = .ok (.aload_n 0, 1) := by decide +kernel
theorem dX12_builds_263 : decode cX12_builds 263 = .ok (.getfield 448, 3) := by decide +kernel
theorem dX12_builds_266 : decode cX12_builds 266 = .ok (.iaload, 1) := by decide +kernel
theorem dX12_builds_267 : decode cX12_builds 267 = .ok (.iaload, 1) := by decide +kernel
theorem dX12_builds_268 : decode cX12_builds 268 = .ok (.iastore, 1) := by decide +kernel
theorem dX12_builds_269 : decode cX12_builds 269 = .ok (.aload_n 0, 1) := by decide +kernel
theorem dX12_builds_270 : decode cX12_builds 270 = .ok (.dup, 1) := by decide +kernel
theorem dX12_builds_271 : decode cX12_builds 271 = .ok (.getfield 394, 3) := by decide +kernel
theorem dX12_builds_274 : decode cX12_builds 274 = .ok (.iconst 1, 1) := by decide +kernel
theorem dX12_builds_275 : decode cX12_builds 275 = .ok (.iadd, 1) := by decide +kernel
theorem dX12_builds_276 : decode cX12_builds 276 = .ok (.putfield 394, 3) := by decide +kernel
theorem dX12_builds_279 : decode cX12_builds 279 = .ok (.iinc 5 1, 3) := by decide +kernel
theorem dX12_builds_282 : decode cX12_builds 282 = .ok (.goto (-83), 3) := by decide +kernel
theorem dX12_builds_285 : decode cX12_builds 285 = .ok (.aload_n 0, 1) := by decide +kernel
theorem dX12_builds_286 : decode cX12_builds 286 = .ok (.iload 4, 2) := by decide +kernel
theorem dX12_builds_288 : decode cX12_builds 288 = .ok (.aload_n 0, 1) := by decide +kernel
theorem dX12_builds_289 : decode cX12_builds 289 = .ok (.getfield 394, 3) := by decide +kernel
theorem dX12_builds_292 : decode cX12_builds 292 = .ok (.iconst 0, 1) := by decide +kernel
theorem dX12_builds_293 : decode cX12_builds 293 = .ok (.invokevirtual 476, 3) := by decide +kernel
theorem dX12_builds_296 : decode cX12_builds 296 = .ok (.aload_n 0, 1) := by decide +kernel
theorem dX12_builds_297 : decode cX12_builds 297 = .ok (.aload_n 0, 1) := by decide +kernel
theorem dX12_builds_298 : decode cX12_builds 298 = .ok (.getfield 116, 3) := by decide +kernel
theorem dX12_builds_301 : decode cX12_builds 301 = .ok (.aload_n 0, 1) := by decide +kernel
theorem dX12_builds_302 : decode cX12_builds 302 = .ok (.getfield 448, 3) := by decide +kernel
theorem dX12_builds_305 : decode cX12_builds 305 = .ok (.iaload, 1) := by decide +kernel
theorem dX12_builds_306 : decode cX12_builds 306 = .ok (.putfield 458, 3) := by decide +kernel
theorem dX12_builds_309 : decode cX12_builds 309 = .ok (.aload_n 0, 1) := by decide +kernel
theorem dX12_builds_310 : decode cX12_builds 310 = .ok (.aload_n 0, 1) := by decide +kernel
theorem dX12_builds_311 : decode cX12_builds 311 = .ok (.getfield 119, 3) := by decide +kernel
theorem dX12_builds_314 : decode cX12_builds 314 = .ok (.aload_n 0, 1) := by decide +kernel
theorem dX12_builds_315 : decode cX12_builds 315 = .ok (.getfield 448, 3) := by decide +kernel
theorem dX12_builds_318 : decode cX12_builds 318 = .ok (.iaload, 1) := by decide +kernel
theorem dX12_builds_319 : decode cX12_builds 319 = .ok (.putfield 397, 3) := by decide +kernel
theorem dX12_builds_322 : decode cX12_builds 322 = .ok (.aload_n 0, 1) := by decide +kernel
theorem dX12_builds_323 : decode cX12_builds 323 = .ok (.aload_n 0, 1) := by decide +kernel
theorem dX12_builds_324 : decode cX12_builds 324 = .ok (.getfield 110, 3) := by decide +kernel
theorem dX12_builds_327 : decode cX12_builds 327 = .ok (.aload_n 0, 1) := by decide +kernel
theorem dX12_builds_328 : decode cX12_builds 328 = .ok (.getfield 448, 3) := by decide +kernel
theorem dX12_builds_331 : decode cX12_builds 331 = .ok (.iaload, 1) := by decide +kernel
theorem dX12_builds_332 : decode cX12_builds 332 = .ok (.putfield 500, 3) := by decide +kernel
theorem dX12_builds_335 : decode cX12_builds 335 = .ok (.aload_n 0, 1) := by decide +kernel
theorem dX12_builds_336 : decode cX12_builds 336 = .ok (.getfield 98, 3) := by decide +kernel
theorem dX12_builds_339 : decode cX12_builds 339 = .ok (.aload_n 0, 1) := by decide +kernel
theorem dX12_builds_340 : decode cX12_builds 340 = .ok (.getfield 448, 3) := by decide +kernel
theorem dX12_builds_343 : decode cX12_builds 343 = .ok (.iconst (-1), 1) := by decide +kernel
theorem dX12_builds_344 : decode cX12_builds 344 = .ok (.iastore, 1) := by decide +kernel
theorem dX12_builds_345 : decode cX12_builds 345 = .ok (.iconst 1, 1) := by decide +kernel
theorem dX12_builds_346 : decode cX12_builds 346 = .ok (.ireturn, 1) := by decide +kernel
theorem dX12_expandsLine_0 : decode cX12_expandsLine 0 = .ok (.aload_n 0, 1) := by decide +kernel
theorem dX12_expandsLine_1 : decode cX12_expandsLine 1 = .ok (.iconst 0, 1) := by decide +kernel
theorem dX12_expandsLine_2 : decode cX12_expandsLine 2 = .ok (.putfield 448, 3) := by decide +kernel
theorem dX12_expandsLine_5 : decode cX12_expandsLine 5 = .ok (.aload_n 0, 1) := by decide +kernel
theorem dX12_expandsLine_6 : decode cX12_expandsLine 6 = .ok (.iconst 0, 1) := by decide +kernel
theorem dX12_expandsLine_7 : decode cX12_expandsLine 7 = .ok (.putfield 445, 3) := by decide +kernel
theorem dX12_expandsLine_10 : decode cX12_expandsLine 10 = .ok (.aload_n 0, 1) := by decide +kernel
theorem dX12_expandsLine_11 : decode cX12_expandsLine 11 = .ok (.iconst 0, 1) := by decide +kernel
theorem dX12_expandsLine_12 : decode cX12_expandsLine 12 = .ok (.putfield 500, 3) := by decide +kernel
theorem dX12_expandsLine_15 : decode cX12_expandsLine 15 = .ok (.aload_n 0, 1) := by decide +kernel
theorem dX12_expandsLine_16 : decode cX12_expandsLine 16 = .ok (.iconst 0, 1) := by decide +kernel
theorem dX12_expandsLine_17 : decode cX12_expandsLine 17 = .ok (.putfield 458, 3) := by decide +kernel
theorem dX12_expandsLine_20 : decode cX12_expandsLine 20 = .ok (.aload_n 0, 1) := by decide +kernel
theorem dX12_expandsLine_21 : decode cX12_expandsLine 21 = .ok (.getfield 95, 3) := by decide +kernel
theorem dX12_expandsLine_24 : decode cX12_expandsLine 24 = .ok (.iconst 0, 1) := by decide +kernel
theorem dX12_expandsLine_25 : decode cX12_expandsLine 25 = .ok (.iconst 0, 1) := by decide +kernel
theorem dX12_expandsLine_26 : decode cX12_expandsLine 26 = .ok (.iastore, 1) := by decide +kernel
theorem dX12_expandsLine_27 : decode cX12_expandsLine 27 = .ok (.aload_n 0, 1) := by decide +kernel
theorem dX12_expandsLine_28 : decode cX12_expandsLine 28 = .ok (.iconst 0, 1) := by decide +kernel
theorem dX12_expandsLine_29 : decode cX12_expandsLine 29 = .ok (.aload_n 0, 1) := by decide +kernel
theorem dX12_expandsLine_30 : decode cX12_expandsLine 30 = .ok (.getfield 355, 3) := by decide +kernel
theorem dX12_expandsLine_33 : decode cX12_expandsLine 33 = .ok (.iconst 0, 1) := by decide +kernel
theorem dX12_expandsLine_34 : decode cX12_expandsLine 34 = .ok (.invokevirtual 550, 3) := by decide +kernel
theorem dX12_expandsLine_37 : decode cX12_expandsLine 37 = .ok (.aload_n 0, 1) := by decide +kernel
theorem dX12_expandsLine_38 : decode cX12_expandsLine 38 = .ok (.invokevirtual 553, 3) := by decide +kernel
theorem dX12_expandsLine_41 : decode cX12_expandsLine 41 = .ok (.ireturn, 1) := by decide +kernel
theorem dX12_opensLine_0 : decode cX12_opensLine 0 = .ok (.aload_n 0, 1) := by decide +kernel
theorem dX12_opensLine_1 : decode cX12_opensLine 1 = .ok (.iload_n 1, 1) := by decide +kernel
theorem dX12_opensLine_2 : decode cX12_opensLine 2 = .ok (.putfield 467, 3) := by decide +kernel
theorem dX12_opensLine_5 : decode cX12_opensLine 5 = .ok (.aload_n 0, 1) := by decide +kernel
theorem dX12_opensLine_6 : decode cX12_opensLine 6 = .ok (.iload_n 2, 1) := by decide +kernel
theorem dX12_opensLine_7 : decode cX12_opensLine 7 = .ok (.putfield 470, 3) := by decide +kernel
theorem dX12_opensLine_10 : decode cX12_opensLine 10 = .ok (.aload_n 0, 1) := by decide +kernel
theorem dX12_opensLine_11 : decode cX12_opensLine 11 = .ok (.iload_n 3, 1) := by decide +kernel
theorem dX12_opensLine_12 : decode cX12_opensLine 12 = .ok (.putfield 473, 3) := by decide +kernel
theorem dX12_opensLine_15 : decode cX12_opensLine 15 = .ok (.return_, 1) := by decide +kernel
theorem dX12_code_0 : decode cX12_code 0 = .ok (.aload_n 0, 1) := by decide +kernel
theorem dX12_code_1 : decode cX12_code 1 = .ok (.getfield 144, 3) := by decide +kernel
theorem dX12_code_4 : decode cX12_code 4 = .ok (.aload_n 0, 1) := by decide +kernel
theorem dX12_code_5 : decode cX12_code 5 = .ok (.getfield 556, 3) := by decide +kernel
theorem dX12_code_8 : decode cX12_code 8 = .ok (.iload_n 1, 1) := by decide +kernel
theorem dX12_code_9 : decode cX12_code 9 = .ok (.iastore, 1) := by decide +kernel
theorem dX12_code_10 : decode cX12_code 10 = .ok (.aload_n 0, 1) := by decide +kernel
theorem dX12_code_11 : decode cX12_code 11 = .ok (.getfield 162, 3) := by decide +kernel
theorem dX12_code_14 : decode cX12_code 14 = .ok (.aload_n 0, 1) := by decide +kernel
theorem dX12_code_15 : decode cX12_code 15 = .ok (.getfield 556, 3) := by decide +kernel
theorem dX12_code_18 : decode cX12_code 18 = .ok (.lload_n 2, 1) := by decide +kernel
theorem dX12_code_19 : decode cX12_code 19 = .ok (.lastore, 1) := by decide +kernel
theorem dX12_code_20 : decode cX12_code 20 = .ok (.aload_n 0, 1) := by decide +kernel
theorem dX12_code_21 : decode cX12_code 21 = .ok (.getfield 150, 3) := by decide +kernel
theorem dX12_code_24 : decode cX12_code 24 = .ok (.aload_n 0, 1) := by decide +kernel
theorem dX12_code_25 : decode cX12_code 25 = .ok (.getfield 556, 3) := by decide +kernel
theorem dX12_code_28 : decode cX12_code 28 = .ok (.iload 4, 2) := by decide +kernel
theorem dX12_code_30 : decode cX12_code 30 = .ok (.iastore, 1) := by decide +kernel
theorem dX12_code_31 : decode cX12_code 31 = .ok (.aload_n 0, 1) := by decide +kernel
theorem dX12_code_32 : decode cX12_code 32 = .ok (.dup, 1) := by decide +kernel
theorem dX12_code_33 : decode cX12_code 33 = .ok (.getfield 556, 3) := by decide +kernel
theorem dX12_code_36 : decode cX12_code 36 = .ok (.iconst 1, 1) := by decide +kernel
theorem dX12_code_37 : decode cX12_code 37 = .ok (.iadd, 1) := by decide +kernel
theorem dX12_code_38 : decode cX12_code 38 = .ok (.putfield 556, 3) := by decide +kernel
theorem dX12_code_41 : decode cX12_code 41 = .ok (.return_, 1) := by decide +kernel
theorem dX12_reads_0 : decode cX12_reads 0 = .ok (.aload_n 0, 1) := by decide +kernel
theorem dX12_reads_1 : decode cX12_reads 1 = .ok (.lconst 0, 1) := by decide +kernel
theorem dX12_reads_2 : decode cX12_reads 2 = .ok (.putfield 559, 3) := by decide +kernel
theorem dX12_reads_5 : decode cX12_reads 5 = .ok (.aload_n 0, 1) := by decide +kernel
theorem dX12_reads_6 : decode cX12_reads 6 = .ok (.getfield 46, 3) := by decide +kernel
theorem dX12_reads_9 : decode cX12_reads 9 = .ok (.iload_n 1, 1) := by decide +kernel
theorem dX12_reads_10 : decode cX12_reads 10 = .ok (.iaload, 1) := by decide +kernel
theorem dX12_reads_11 : decode cX12_reads 11 = .ok (.istore_n 2, 1) := by decide +kernel
theorem dX12_reads_12 : decode cX12_reads 12 = .ok (.iload_n 2, 1) := by decide +kernel
theorem dX12_reads_13 : decode cX12_reads 13 = .ok (.iconst 2, 1) := by decide +kernel
theorem dX12_reads_14 : decode cX12_reads 14 = .ok (.if_icmp .le 136, 3) := by decide +kernel
theorem dX12_reads_17 : decode cX12_reads 17 = .ok (.aload_n 0, 1) := by decide +kernel
theorem dX12_reads_18 : decode cX12_reads 18 = .ok (.iload_n 1, 1) := by decide +kernel
theorem dX12_reads_19 : decode cX12_reads 19 = .ok (.iconst 0, 1) := by decide +kernel
theorem dX12_reads_20 : decode cX12_reads 20 = .ok (.invokevirtual 370, 3) := by decide +kernel
theorem dX12_reads_23 : decode cX12_reads 23 = .ok (.bipush 48, 2) := by decide +kernel
theorem dX12_reads_25 : decode cX12_reads 25 = .ok (.if_icmp .ne 125, 3) := by decide +kernel
theorem dX12_reads_28 : decode cX12_reads 28 = .ok (.aload_n 0, 1) := by decide +kernel
theorem dX12_reads_29 : decode cX12_reads 29 = .ok (.iload_n 1, 1) := by decide +kernel
theorem dX12_reads_30 : decode cX12_reads 30 = .ok (.iconst 1, 1) := by decide +kernel
theorem dX12_reads_31 : decode cX12_reads 31 = .ok (.invokevirtual 370, 3) := by decide +kernel
theorem dX12_reads_34 : decode cX12_reads 34 = .ok (.bipush 120, 2) := by decide +kernel
theorem dX12_reads_36 : decode cX12_reads 36 = .ok (.if_icmp .ne 114, 3) := by decide +kernel
theorem dX12_reads_39 : decode cX12_reads 39 = .ok (.iload_n 2, 1) := by decide +kernel
theorem dX12_reads_40 : decode cX12_reads 40 = .ok (.bipush 18, 2) := by decide +kernel
theorem dX12_reads_42 : decode cX12_reads 42 = .ok (.if_icmp .le 5, 3) := by decide +kernel
theorem dX12_reads_45 : decode cX12_reads 45 = .ok (.iconst 0, 1) := by decide +kernel
theorem dX12_reads_46 : decode cX12_reads 46 = .ok (.ireturn, 1) := by decide +kernel
theorem dX12_reads_47 : decode cX12_reads 47 = .ok (.iconst 2, 1) := by decide +kernel
theorem dX12_reads_48 : decode cX12_reads 48 = .ok (.istore_n 3, 1) := by decide +kernel
theorem dX12_reads_49 : decode cX12_reads 49 = .ok (.iload_n 3, 1) := by decide +kernel
theorem dX12_reads_50 : decode cX12_reads 50 = .ok (.iload_n 2, 1) := by decide +kernel
theorem dX12_reads_51 : decode cX12_reads 51 = .ok (.if_icmp .ge 97, 3) := by decide +kernel
theorem dX12_reads_54 : decode cX12_reads 54 = .ok (.aload_n 0, 1) := by decide +kernel
theorem dX12_reads_55 : decode cX12_reads 55 = .ok (.iload_n 1, 1) := by decide +kernel
theorem dX12_reads_56 : decode cX12_reads 56 = .ok (.iload_n 3, 1) := by decide +kernel
theorem dX12_reads_57 : decode cX12_reads 57 = .ok (.invokevirtual 370, 3) := by decide +kernel
theorem dX12_reads_60 : decode cX12_reads 60 = .ok (.istore 4, 2) := by decide +kernel
theorem dX12_reads_62 : decode cX12_reads 62 = .ok (.iload 4, 2) := by decide +kernel
theorem dX12_reads_64 : decode cX12_reads 64 = .ok (.invokestatic 307, 3) := by decide +kernel
theorem dX12_reads_67 : decode cX12_reads 67 = .ok (.ifCond .eq 11, 3) := by decide +kernel
theorem dX12_reads_70 : decode cX12_reads 70 = .ok (.iload 4, 2) := by decide +kernel
theorem dX12_reads_72 : decode cX12_reads 72 = .ok (.bipush 48, 2) := by decide +kernel
theorem dX12_reads_74 : decode cX12_reads 74 = .ok (.isub, 1) := by decide +kernel
theorem dX12_reads_75 : decode cX12_reads 75 = .ok (.goto 44, 3) := by decide +kernel
theorem dX12_reads_78 : decode cX12_reads 78 = .ok (.iload 4, 2) := by decide +kernel
theorem dX12_reads_80 : decode cX12_reads 80 = .ok (.bipush 97, 2) := by decide +kernel
theorem dX12_reads_82 : decode cX12_reads 82 = .ok (.bipush 102, 2) := by decide +kernel
theorem dX12_reads_84 : decode cX12_reads 84 = .ok (.invokestatic 277, 3) := by decide +kernel
theorem dX12_reads_87 : decode cX12_reads 87 = .ok (.ifCond .eq 11, 3) := by decide +kernel
theorem dX12_reads_90 : decode cX12_reads 90 = .ok (.iload 4, 2) := by decide +kernel
theorem dX12_reads_92 : decode cX12_reads 92 = .ok (.bipush 87, 2) := by decide +kernel
theorem dX12_reads_94 : decode cX12_reads 94 = .ok (.isub, 1) := by decide +kernel
theorem dX12_reads_95 : decode cX12_reads 95 = .ok (.goto 24, 3) := by decide +kernel
theorem dX12_reads_98 : decode cX12_reads 98 = .ok (.iload 4, 2) := by decide +kernel
theorem dX12_reads_100 : decode cX12_reads 100 = .ok (.bipush 65, 2) := by decide +kernel
theorem dX12_reads_102 : decode cX12_reads 102 = .ok (.bipush 70, 2) := by decide +kernel
theorem dX12_reads_104 : decode cX12_reads 104 = .ok (.invokestatic 277, 3) := by decide +kernel
theorem dX12_reads_107 : decode cX12_reads 107 = .ok (.ifCond .eq 11, 3) := by decide +kernel
theorem dX12_reads_110 : decode cX12_reads 110 = .ok (.iload 4, 2) := by decide +kernel
theorem dX12_reads_112 : decode cX12_reads 112 = .ok (.bipush 55, 2) := by decide +kernel
theorem dX12_reads_114 : decode cX12_reads 114 = .ok (.isub, 1) := by decide +kernel
theorem dX12_reads_115 : decode cX12_reads 115 = .ok (.goto 4, 3) := by decide +kernel
theorem dX12_reads_118 : decode cX12_reads 118 = .ok (.iconst (-1), 1) := by decide +kernel
theorem dX12_reads_119 : decode cX12_reads 119 = .ok (.istore 5, 2) := by decide +kernel
theorem dX12_reads_121 : decode cX12_reads 121 = .ok (.iload 5, 2) := by decide +kernel
theorem dX12_reads_123 : decode cX12_reads 123 = .ok (.ifCond .ge 5, 3) := by decide +kernel
theorem dX12_reads_126 : decode cX12_reads 126 = .ok (.iconst 0, 1) := by decide +kernel
theorem dX12_reads_127 : decode cX12_reads 127 = .ok (.ireturn, 1) := by decide +kernel
theorem dX12_reads_128 : decode cX12_reads 128 = .ok (.aload_n 0, 1) := by decide +kernel
theorem dX12_reads_129 : decode cX12_reads 129 = .ok (.aload_n 0, 1) := by decide +kernel
theorem dX12_reads_130 : decode cX12_reads 130 = .ok (.getfield 559, 3) := by decide +kernel
theorem dX12_reads_133 : decode cX12_reads 133 = .ok (.iconst 4, 1) := by decide +kernel
theorem dX12_reads_134 : decode cX12_reads 134 = .ok (.lshl, 1) := by decide +kernel
theorem dX12_reads_135 : decode cX12_reads 135 = .ok (.iload 5, 2) := by decide +kernel
theorem dX12_reads_137 : decode cX12_reads 137 = .ok (.i2l, 1) := by decide +kernel
theorem dX12_reads_138 : decode cX12_reads 138 = .ok (.lor, 1) := by decide +kernel
theorem dX12_reads_139 : decode cX12_reads 139 = .ok (.putfield 559, 3) := by decide +kernel
theorem dX12_reads_142 : decode cX12_reads 142 = .ok (.iinc 3 1, 3) := by decide +kernel
theorem dX12_reads_145 : decode cX12_reads 145 = .ok (.goto (-96), 3) := by decide +kernel
theorem dX12_reads_148 : decode cX12_reads 148 = .ok (.iconst 1, 1) := by decide +kernel
theorem dX12_reads_149 : decode cX12_reads 149 = .ok (.ireturn, 1) := by decide +kernel
theorem dX12_reads_150 : decode cX12_reads 150 = .ok (.iconst 0, 1) := by decide +kernel
theorem dX12_reads_151 : decode cX12_reads 151 = .ok (.istore_n 3, 1) := by decide +kernel
theorem dX12_reads_152 : decode cX12_reads 152 = .ok (.iload_n 3, 1) := by decide +kernel
theorem dX12_reads_153 : decode cX12_reads 153 = .ok (.iload_n 2, 1) := by decide +kernel
theorem dX12_reads_154 : decode cX12_reads 154 = .ok (.if_icmp .ge 78, 3) := by decide +kernel
theorem dX12_reads_157 : decode cX12_reads 157 = .ok (.aload_n 0, 1) := by decide +kernel
theorem dX12_reads_158 : decode cX12_reads 158 = .ok (.iload_n 1, 1) := by decide +kernel
theorem dX12_reads_159 : decode cX12_reads 159 = .ok (.iload_n 3, 1) := by decide +kernel
theorem dX12_reads_160 : decode cX12_reads 160 = .ok (.invokevirtual 370, 3) := by decide +kernel
theorem dX12_reads_163 : decode cX12_reads 163 = .ok (.istore 4, 2) := by decide +kernel
theorem dX12_reads_165 : decode cX12_reads 165 = .ok (.iload 4, 2) := by decide +kernel
theorem dX12_reads_167 : decode cX12_reads 167 = .ok (.invokestatic 307, 3) := by decide +kernel
theorem dX12_reads_170 : decode cX12_reads 170 = .ok (.ifCond .ne 5, 3) := by decide +kernel
theorem dX12_reads_173 : decode cX12_reads 173 = .ok (.iconst 0, 1) := by decide +kernel
theorem dX12_reads_174 : decode cX12_reads 174 = .ok (.ireturn, 1) := by decide +kernel
theorem dX12_reads_175 : decode cX12_reads 175 = .ok (.aload_n 0, 1) := by decide +kernel
theorem dX12_reads_176 : decode cX12_reads 176 = .ok (.getfield 559, 3) := by decide +kernel
theorem dX12_reads_179 : decode cX12_reads 179 = .ok (.ldc2_w 563, 3) := by decide +kernel
theorem dX12_reads_182 : decode cX12_reads 182 = .ok (.lcmp, 1) := by decide +kernel
theorem dX12_reads_183 : decode cX12_reads 183 = .ok (.ifCond .gt 21, 3) := by decide +kernel
theorem dX12_reads_186 : decode cX12_reads 186 = .ok (.aload_n 0, 1) := by decide +kernel
theorem dX12_reads_187 : decode cX12_reads 187 = .ok (.getfield 559, 3) := by decide +kernel
theorem dX12_reads_190 : decode cX12_reads 190 = .ok (.ldc2_w 563, 3) := by decide +kernel
theorem dX12_reads_193 : decode cX12_reads 193 = .ok (.lcmp, 1) := by decide +kernel
theorem dX12_reads_194 : decode cX12_reads 194 = .ok (.ifCond .ne 12, 3) := by decide +kernel
theorem dX12_reads_197 : decode cX12_reads 197 = .ok (.iload 4, 2) := by decide +kernel
theorem dX12_reads_199 : decode cX12_reads 199 = .ok (.bipush 55, 2) := by decide +kernel
theorem dX12_reads_201 : decode cX12_reads 201 = .ok (.if_icmp .le 5, 3) := by decide +kernel
theorem dX12_reads_204 : decode cX12_reads 204 = .ok (.iconst 0, 1) := by decide +kernel
theorem dX12_reads_205 : decode cX12_reads 205 = .ok (.ireturn, 1) := by decide +kernel
theorem dX12_reads_206 : decode cX12_reads 206 = .ok (.aload_n 0, 1) := by decide +kernel
theorem dX12_reads_207 : decode cX12_reads 207 = .ok (.ldc2_w 565, 3) := by decide +kernel
theorem dX12_reads_210 : decode cX12_reads 210 = .ok (.aload_n 0, 1) := by decide +kernel
theorem dX12_reads_211 : decode cX12_reads 211 = .ok (.getfield 559, 3) := by decide +kernel
theorem dX12_reads_214 : decode cX12_reads 214 = .ok (.lmul, 1) := by decide +kernel
theorem dX12_reads_215 : decode cX12_reads 215 = .ok (.iload 4, 2) := by decide +kernel
theorem dX12_reads_217 : decode cX12_reads 217 = .ok (.i2l, 1) := by decide +kernel
theorem dX12_reads_218 : decode cX12_reads 218 = .ok (.ladd, 1) := by decide +kernel
theorem dX12_reads_219 : decode cX12_reads 219 = .ok (.ldc2_w 567, 3) := by decide +kernel
theorem dX12_reads_222 : decode cX12_reads 222 = .ok (.lsub, 1) := by decide +kernel
theorem dX12_reads_223 : decode cX12_reads 223 = .ok (.putfield 559, 3) := by decide +kernel
theorem dX12_reads_226 : decode cX12_reads 226 = .ok (.iinc 3 1, 3) := by decide +kernel
theorem dX12_reads_229 : decode cX12_reads 229 = .ok (.goto (-77), 3) := by decide +kernel
theorem dX12_reads_232 : decode cX12_reads 232 = .ok (.iconst 1, 1) := by decide +kernel
theorem dX12_reads_233 : decode cX12_reads 233 = .ok (.ireturn, 1) := by decide +kernel
theorem dX12_operator_0 : decode cX12_operator 0 = .ok (.aload_n 0, 1) := by decide +kernel
theorem dX12_operator_1 : decode cX12_operator 1 = .ok (.getfield 40, 3) := by decide +kernel
theorem dX12_operator_4 : decode cX12_operator 4 = .ok (.iload_n 1, 1) := by decide +kernel
theorem dX12_operator_5 : decode cX12_operator 5 = .ok (.iaload, 1) := by decide +kernel
theorem dX12_operator_6 : decode cX12_operator 6 = .ok (.iconst 3, 1) := by decide +kernel
theorem dX12_operator_7 : decode cX12_operator 7 = .ok (.if_icmp .eq 5, 3) := by decide +kernel
theorem dX12_operator_10 : decode cX12_operator 10 = .ok (.iconst (-1), 1) := by decide +kernel
theorem dX12_operator_11 : decode cX12_operator 11 = .ok (.ireturn, 1) := by decide +kernel
theorem dX12_operator_12 : decode cX12_operator 12 = .ok (.aload_n 0, 1) := by decide +kernel
theorem dX12_operator_13 : decode cX12_operator 13 = .ok (.iload_n 1, 1) := by decide +kernel
theorem dX12_operator_14 : decode cX12_operator 14 = .ok (.iconst 0, 1) := by decide +kernel
theorem dX12_operator_15 : decode cX12_operator 15 = .ok (.invokevirtual 370, 3) := by decide +kernel
theorem dX12_operator_18 : decode cX12_operator 18 = .ok (.istore_n 2, 1) := by decide +kernel
theorem dX12_operator_19 : decode cX12_operator 19 = .ok (.aload_n 0, 1) := by decide +kernel
theorem dX12_operator_20 : decode cX12_operator 20 = .ok (.getfield 46, 3) := by decide +kernel
theorem dX12_operator_23 : decode cX12_operator 23 = .ok (.iload_n 1, 1) := by decide +kernel
theorem dX12_operator_24 : decode cX12_operator 24 = .ok (.iaload, 1) := by decide +kernel
theorem dX12_operator_25 : decode cX12_operator 25 = .ok (.iconst 2, 1) := by decide +kernel
theorem dX12_operator_26 : decode cX12_operator 26 = .ok (.if_icmp .ne 12, 3) := by decide +kernel
theorem dX12_operator_29 : decode cX12_operator 29 = .ok (.aload_n 0, 1) := by decide +kernel
theorem dX12_operator_30 : decode cX12_operator 30 = .ok (.iload_n 1, 1) := by decide +kernel
theorem dX12_operator_31 : decode cX12_operator 31 = .ok (.iconst 1, 1) := by decide +kernel
theorem dX12_operator_32 : decode cX12_operator 32 = .ok (.invokevirtual 370, 3) := by decide +kernel
theorem dX12_operator_35 : decode cX12_operator 35 = .ok (.goto 4, 3) := by decide +kernel
theorem dX12_operator_38 : decode cX12_operator 38 = .ok (.iconst 0, 1) := by decide +kernel
theorem dX12_operator_39 : decode cX12_operator 39 = .ok (.istore_n 3, 1) := by decide +kernel
theorem dX12_operator_40 : decode cX12_operator 40 = .ok (.iload_n 2, 1) := by decide +kernel
theorem dX12_operator_41 : decode cX12_operator 41 = .ok (.bipush 124, 2) := by decide +kernel
theorem dX12_operator_43 : decode cX12_operator 43 = .ok (.if_icmp .ne 16, 3) := by decide +kernel
theorem dX12_operator_46 : decode cX12_operator 46 = .ok (.iload_n 3, 1) := by decide +kernel
theorem dX12_operator_47 : decode cX12_operator 47 = .ok (.bipush 124, 2) := by decide +kernel
theorem dX12_operator_49 : decode cX12_operator 49 = .ok (.if_icmp .ne 8, 3) := by decide +kernel
theorem dX12_operator_52 : decode cX12_operator 52 = .ok (.bipush 31, 2) := by decide +kernel
theorem dX12_operator_54 : decode cX12_operator 54 = .ok (.goto 4, 3) := by decide +kernel
theorem dX12_operator_57 : decode cX12_operator 57 = .ok (.iconst 2, 1) := by decide +kernel
theorem dX12_operator_58 : decode cX12_operator 58 = .ok (.ireturn, 1) := by decide +kernel
theorem dX12_operator_59 : decode cX12_operator 59 = .ok (.iload_n 2, 1) := by decide +kernel
theorem dX12_operator_60 : decode cX12_operator 60 = .ok (.bipush 38, 2) := by decide +kernel
theorem dX12_operator_62 : decode cX12_operator 62 = .ok (.if_icmp .ne 16, 3) := by decide +kernel
theorem dX12_operator_65 : decode cX12_operator 65 = .ok (.iload_n 3, 1) := by decide +kernel
theorem dX12_operator_66 : decode cX12_operator 66 = .ok (.bipush 38, 2) := by decide +kernel
theorem dX12_operator_68 : decode cX12_operator 68 = .ok (.if_icmp .ne 8, 3) := by decide +kernel
theorem dX12_operator_71 : decode cX12_operator 71 = .ok (.bipush 30, 2) := by decide +kernel
theorem dX12_operator_73 : decode cX12_operator 73 = .ok (.goto 4, 3) := by decide +kernel
theorem dX12_operator_76 : decode cX12_operator 76 = .ok (.iconst 4, 1) := by decide +kernel
theorem dX12_operator_77 : decode cX12_operator 77 = .ok (.ireturn, 1) := by decide +kernel
theorem dX12_operator_78 : decode cX12_operator 78 = .ok (.iload_n 2, 1) := by decide +kernel
theorem dX12_operator_79 : decode cX12_operator 79 = .ok (.bipush 94, 2) := by decide +kernel
theorem dX12_operator_81 : decode cX12_operator 81 = .ok (.if_icmp .ne 5, 3) := by decide +kernel
theorem dX12_operator_84 : decode cX12_operator 84 = .ok (.iconst 3, 1) := by decide +kernel
theorem dX12_operator_85 : decode cX12_operator 85 = .ok (.ireturn, 1) := by decide +kernel
theorem dX12_operator_86 : decode cX12_operator 86 = .ok (.iload_n 2, 1) := by decide +kernel
theorem dX12_operator_87 : decode cX12_operator 87 = .ok (.bipush 61, 2) := by decide +kernel
theorem dX12_operator_89 : decode cX12_operator 89 = .ok (.if_icmp .ne 15, 3) := by decide +kernel
theorem dX12_operator_92 : decode cX12_operator 92 = .ok (.iload_n 3, 1) := by decide +kernel
theorem dX12_operator_93 : decode cX12_operator 93 = .ok (.bipush 61, 2) := by decide +kernel
theorem dX12_operator_95 : decode cX12_operator 95 = .ok (.if_icmp .ne 7, 3) := by decide +kernel
theorem dX12_operator_98 : decode cX12_operator 98 = .ok (.iconst 5, 1) := by decide +kernel
theorem dX12_operator_99 : decode cX12_operator 99 = .ok (.goto 4, 3) := by decide +kernel
theorem dX12_operator_102 : decode cX12_operator 102 = .ok (.iconst (-1), 1) := by decide +kernel
theorem dX12_operator_103 : decode cX12_operator 103 = .ok (.ireturn, 1) := by decide +kernel
theorem dX12_operator_104 : decode cX12_operator 104 = .ok (.iload_n 2, 1) := by decide +kernel
theorem dX12_operator_105 : decode cX12_operator 105 = .ok (.bipush 33, 2) := by decide +kernel
theorem dX12_operator_107 : decode cX12_operator 107 = .ok (.if_icmp .ne 16, 3) := by decide +kernel
theorem dX12_operator_110 : decode cX12_operator 110 = .ok (.iload_n 3, 1) := by decide +kernel
theorem dX12_operator_111 : decode cX12_operator 111 = .ok (.bipush 61, 2) := by decide +kernel
theorem dX12_operator_113 : decode cX12_operator 113 = .ok (.if_icmp .ne 8, 3) := by decide +kernel
theorem dX12_operator_116 : decode cX12_operator 116 = .ok (.bipush 6, 2) := by decide +kernel
theorem dX12_operator_118 : decode cX12_operator 118 = .ok (.goto 4, 3) := by decide +kernel
theorem dX12_operator_121 : decode cX12_operator 121 = .ok (.iconst (-1), 1) := by decide +kernel
theorem dX12_operator_122 : decode cX12_operator 122 = .ok (.ireturn, 1) := by decide +kernel
theorem dX12_operator_123 : decode cX12_operator 123 = .ok (.iload_n 2, 1) := by decide +kernel
theorem dX12_operator_124 : decode cX12_operator 124 = .ok (.bipush 60, 2) := by decide +kernel
theorem dX12_operator_126 : decode cX12_operator 126 = .ok (.if_icmp .ne 28, 3) := by decide +kernel
theorem dX12_operator_129 : decode cX12_operator 129 = .ok (.iload_n 3, 1) := by decide +kernel
theorem dX12_operator_130 : decode cX12_operator 130 = .ok (.bipush 60, 2) := by decide +kernel
theorem dX12_operator_132 : decode cX12_operator 132 = .ok (.if_icmp .ne 8, 3) := by decide +kernel
theorem dX12_operator_135 : decode cX12_operator 135 = .ok (.bipush 11, 2) := by decide +kernel
theorem dX12_operator_137 : decode cX12_operator 137 = .ok (.goto 16, 3) := by decide +kernel
theorem dX12_operator_140 : decode cX12_operator 140 = .ok (.iload_n 3, 1) := by decide +kernel
theorem dX12_operator_141 : decode cX12_operator 141 = .ok (.bipush 61, 2) := by decide +kernel
theorem dX12_operator_143 : decode cX12_operator 143 = .ok (.if_icmp .ne 8, 3) := by decide +kernel
theorem dX12_operator_146 : decode cX12_operator 146 = .ok (.bipush 8, 2) := by decide +kernel
theorem dX12_operator_148 : decode cX12_operator 148 = .ok (.goto 5, 3) := by decide +kernel
theorem dX12_operator_151 : decode cX12_operator 151 = .ok (.bipush 7, 2) := by decide +kernel
theorem dX12_operator_153 : decode cX12_operator 153 = .ok (.ireturn, 1) := by decide +kernel
theorem dX12_operator_154 : decode cX12_operator 154 = .ok (.iload_n 2, 1) := by decide +kernel
theorem dX12_operator_155 : decode cX12_operator 155 = .ok (.bipush 62, 2) := by decide +kernel
theorem dX12_operator_157 : decode cX12_operator 157 = .ok (.if_icmp .ne 28, 3) := by decide +kernel
theorem dX12_operator_160 : decode cX12_operator 160 = .ok (.iload_n 3, 1) := by decide +kernel
theorem dX12_operator_161 : decode cX12_operator 161 = .ok (.bipush 62, 2) := by decide +kernel
theorem dX12_operator_163 : decode cX12_operator 163 = .ok (.if_icmp .ne 8, 3) := by decide +kernel
theorem dX12_operator_166 : decode cX12_operator 166 = .ok (.bipush 12, 2) := by decide +kernel
theorem dX12_operator_168 : decode cX12_operator 168 = .ok (.goto 16, 3) := by decide +kernel
theorem dX12_operator_171 : decode cX12_operator 171 = .ok (.iload_n 3, 1) := by decide +kernel
theorem dX12_operator_172 : decode cX12_operator 172 = .ok (.bipush 61, 2) := by decide +kernel
theorem dX12_operator_174 : decode cX12_operator 174 = .ok (.if_icmp .ne 8, 3) := by decide +kernel
theorem dX12_operator_177 : decode cX12_operator 177 = .ok (.bipush 10, 2) := by decide +kernel
theorem dX12_operator_179 : decode cX12_operator 179 = .ok (.goto 5, 3) := by decide +kernel
theorem dX12_operator_182 : decode cX12_operator 182 = .ok (.bipush 9, 2) := by decide +kernel
theorem dX12_operator_184 : decode cX12_operator 184 = .ok (.ireturn, 1) := by decide +kernel
theorem dX12_operator_185 : decode cX12_operator 185 = .ok (.iload_n 2, 1) := by decide +kernel
theorem dX12_operator_186 : decode cX12_operator 186 = .ok (.bipush 43, 2) := by decide +kernel
theorem dX12_operator_188 : decode cX12_operator 188 = .ok (.if_icmp .ne 8, 3) := by decide +kernel
theorem dX12_operator_191 : decode cX12_operator 191 = .ok (.bipush 13, 2) := by decide +kernel
theorem dX12_operator_193 : decode cX12_operator 193 = .ok (.goto 48, 3) := by decide +kernel
theorem dX12_operator_196 : decode cX12_operator 196 = .ok (.iload_n 2, 1) := by decide +kernel
theorem dX12_operator_197 : decode cX12_operator 197 = .ok (.bipush 45, 2) := by decide +kernel
theorem dX12_operator_199 : decode cX12_operator 199 = .ok (.if_icmp .ne 8, 3) := by decide +kernel
theorem dX12_operator_202 : decode cX12_operator 202 = .ok (.bipush 14, 2) := by decide +kernel
theorem dX12_operator_204 : decode cX12_operator 204 = .ok (.goto 37, 3) := by decide +kernel
theorem dX12_operator_207 : decode cX12_operator 207 = .ok (.iload_n 2, 1) := by decide +kernel
theorem dX12_operator_208 : decode cX12_operator 208 = .ok (.bipush 42, 2) := by decide +kernel
theorem dX12_operator_210 : decode cX12_operator 210 = .ok (.if_icmp .ne 8, 3) := by decide +kernel
theorem dX12_operator_213 : decode cX12_operator 213 = .ok (.bipush 15, 2) := by decide +kernel
theorem dX12_operator_215 : decode cX12_operator 215 = .ok (.goto 26, 3) := by decide +kernel
theorem dX12_operator_218 : decode cX12_operator 218 = .ok (.iload_n 2, 1) := by decide +kernel
theorem dX12_operator_219 : decode cX12_operator 219 = .ok (.bipush 47, 2) := by decide +kernel
theorem dX12_operator_221 : decode cX12_operator 221 = .ok (.if_icmp .ne 8, 3) := by decide +kernel
theorem dX12_operator_224 : decode cX12_operator 224 = .ok (.bipush 16, 2) := by decide +kernel
theorem dX12_operator_226 : decode cX12_operator 226 = .ok (.goto 15, 3) := by decide +kernel
theorem dX12_operator_229 : decode cX12_operator 229 = .ok (.iload_n 2, 1) := by decide +kernel
theorem dX12_operator_230 : decode cX12_operator 230 = .ok (.bipush 37, 2) := by decide +kernel
theorem dX12_operator_232 : decode cX12_operator 232 = .ok (.if_icmp .ne 8, 3) := by decide +kernel
theorem dX12_operator_235 : decode cX12_operator 235 = .ok (.bipush 17, 2) := by decide +kernel
theorem dX12_operator_237 : decode cX12_operator 237 = .ok (.goto 4, 3) := by decide +kernel
theorem dX12_operator_240 : decode cX12_operator 240 = .ok (.iconst (-1), 1) := by decide +kernel
theorem dX12_operator_241 : decode cX12_operator 241 = .ok (.ireturn, 1) := by decide +kernel
theorem dX12_strength_0 : decode cX12_strength 0 = .ok (.iload_n 0, 1) := by decide +kernel
theorem dX12_strength_1 : decode cX12_strength 1 = .ok (.bipush 31, 2) := by decide +kernel
theorem dX12_strength_3 : decode cX12_strength 3 = .ok (.if_icmp .ne 5, 3) := by decide +kernel
theorem dX12_strength_6 : decode cX12_strength 6 = .ok (.iconst 1, 1) := by decide +kernel
theorem dX12_strength_7 : decode cX12_strength 7 = .ok (.ireturn, 1) := by decide +kernel
theorem dX12_strength_8 : decode cX12_strength 8 = .ok (.iload_n 0, 1) := by decide +kernel
theorem dX12_strength_9 : decode cX12_strength 9 = .ok (.bipush 30, 2) := by decide +kernel
theorem dX12_strength_11 : decode cX12_strength 11 = .ok (.if_icmp .ne 5, 3) := by decide +kernel
theorem dX12_strength_14 : decode cX12_strength 14 = .ok (.iconst 2, 1) := by decide +kernel
theorem dX12_strength_15 : decode cX12_strength 15 = .ok (.ireturn, 1) := by decide +kernel
theorem dX12_strength_16 : decode cX12_strength 16 = .ok (.iload_n 0, 1) := by decide +kernel
theorem dX12_strength_17 : decode cX12_strength 17 = .ok (.bipush 40, 2) := by decide +kernel
theorem dX12_strength_19 : decode cX12_strength 19 = .ok (.if_icmp .lt 5, 3) := by decide +kernel
theorem dX12_strength_22 : decode cX12_strength 22 = .ok (.iconst 0, 1) := by decide +kernel
theorem dX12_strength_23 : decode cX12_strength 23 = .ok (.ireturn, 1) := by decide +kernel
theorem dX12_strength_24 : decode cX12_strength 24 = .ok (.iload_n 0, 1) := by decide +kernel
theorem dX12_strength_25 : decode cX12_strength 25 = .ok (.iconst 5, 1) := by decide +kernel
theorem dX12_strength_26 : decode cX12_strength 26 = .ok (.if_icmp .ge 7, 3) := by decide +kernel
theorem dX12_strength_29 : decode cX12_strength 29 = .ok (.iload_n 0, 1) := by decide +kernel
theorem dX12_strength_30 : decode cX12_strength 30 = .ok (.iconst 1, 1) := by decide +kernel
theorem dX12_strength_31 : decode cX12_strength 31 = .ok (.iadd, 1) := by decide +kernel
theorem dX12_strength_32 : decode cX12_strength 32 = .ok (.ireturn, 1) := by decide +kernel
theorem dX12_strength_33 : decode cX12_strength 33 = .ok (.iload_n 0, 1) := by decide +kernel
theorem dX12_strength_34 : decode cX12_strength 34 = .ok (.bipush 7, 2) := by decide +kernel
theorem dX12_strength_36 : decode cX12_strength 36 = .ok (.if_icmp .ge 8, 3) := by decide +kernel
theorem dX12_strength_39 : decode cX12_strength 39 = .ok (.bipush 6, 2) := by decide +kernel
theorem dX12_strength_41 : decode cX12_strength 41 = .ok (.goto 49, 3) := by decide +kernel
theorem dX12_strength_44 : decode cX12_strength 44 = .ok (.iload_n 0, 1) := by decide +kernel
theorem dX12_strength_45 : decode cX12_strength 45 = .ok (.bipush 11, 2) := by decide +kernel
theorem dX12_strength_47 : decode cX12_strength 47 = .ok (.if_icmp .ge 8, 3) := by decide +kernel
theorem dX12_strength_50 : decode cX12_strength 50 = .ok (.bipush 7, 2) := by decide +kernel
theorem dX12_strength_52 : decode cX12_strength 52 = .ok (.goto 38, 3) := by decide +kernel
theorem dX12_strength_55 : decode cX12_strength 55 = .ok (.iload_n 0, 1) := by decide +kernel
theorem dX12_strength_56 : decode cX12_strength 56 = .ok (.bipush 13, 2) := by decide +kernel
theorem dX12_strength_58 : decode cX12_strength 58 = .ok (.if_icmp .ge 8, 3) := by decide +kernel
theorem dX12_strength_61 : decode cX12_strength 61 = .ok (.bipush 8, 2) := by decide +kernel
theorem dX12_strength_63 : decode cX12_strength 63 = .ok (.goto 27, 3) := by decide +kernel
theorem dX12_strength_66 : decode cX12_strength 66 = .ok (.iload_n 0, 1) := by decide +kernel
theorem dX12_strength_67 : decode cX12_strength 67 = .ok (.bipush 15, 2) := by decide +kernel
theorem dX12_strength_69 : decode cX12_strength 69 = .ok (.if_icmp .ge 8, 3) := by decide +kernel
theorem dX12_strength_72 : decode cX12_strength 72 = .ok (.bipush 9, 2) := by decide +kernel
theorem dX12_strength_74 : decode cX12_strength 74 = .ok (.goto 16, 3) := by decide +kernel
theorem dX12_strength_77 : decode cX12_strength 77 = .ok (.iload_n 0, 1) := by decide +kernel
theorem dX12_strength_78 : decode cX12_strength 78 = .ok (.bipush 18, 2) := by decide +kernel
theorem dX12_strength_80 : decode cX12_strength 80 = .ok (.if_icmp .ge 8, 3) := by decide +kernel
theorem dX12_strength_83 : decode cX12_strength 83 = .ok (.bipush 10, 2) := by decide +kernel
theorem dX12_strength_85 : decode cX12_strength 85 = .ok (.goto 5, 3) := by decide +kernel
theorem dX12_strength_88 : decode cX12_strength 88 = .ok (.bipush 11, 2) := by decide +kernel
theorem dX12_strength_90 : decode cX12_strength 90 = .ok (.ireturn, 1) := by decide +kernel
theorem dX12_isAhead_0 : decode cX12_isAhead 0 = .ok (.iload_n 0, 1) := by decide +kernel
theorem dX12_isAhead_1 : decode cX12_isAhead 1 = .ok (.bipush 20, 2) := by decide +kernel
theorem dX12_isAhead_3 : decode cX12_isAhead 3 = .ok (.if_icmp .lt 13, 3) := by decide +kernel
theorem dX12_isAhead_6 : decode cX12_isAhead 6 = .ok (.iload_n 0, 1) := by decide +kernel
theorem dX12_isAhead_7 : decode cX12_isAhead 7 = .ok (.bipush 24, 2) := by decide +kernel
theorem dX12_isAhead_9 : decode cX12_isAhead 9 = .ok (.if_icmp .ge 7, 3) := by decide +kernel
theorem dX12_isAhead_12 : decode cX12_isAhead 12 = .ok (.iconst 1, 1) := by decide +kernel
theorem dX12_isAhead_13 : decode cX12_isAhead 13 = .ok (.goto 4, 3) := by decide +kernel
theorem dX12_isAhead_16 : decode cX12_isAhead 16 = .ok (.iconst 0, 1) := by decide +kernel
theorem dX12_isAhead_17 : decode cX12_isAhead 17 = .ok (.ireturn, 1) := by decide +kernel
theorem dX12_waitsFor_0 : decode cX12_waitsFor 0 = .ok (.aload_n 0, 1) := by decide +kernel
theorem dX12_waitsFor_1 : decode cX12_waitsFor 1 = .ok (.getfield 153, 3) := by decide +kernel
theorem dX12_waitsFor_4 : decode cX12_waitsFor 4 = .ok (.aload_n 0, 1) := by decide +kernel
theorem dX12_waitsFor_5 : decode cX12_waitsFor 5 = .ok (.getfield 569, 3) := by decide +kernel
theorem dX12_waitsFor_8 : decode cX12_waitsFor 8 = .ok (.iload_n 1, 1) := by decide +kernel
theorem dX12_waitsFor_9 : decode cX12_waitsFor 9 = .ok (.iastore, 1) := by decide +kernel
theorem dX12_waitsFor_10 : decode cX12_waitsFor 10 = .ok (.aload_n 0, 1) := by decide +kernel
theorem dX12_waitsFor_11 : decode cX12_waitsFor 11 = .ok (.getfield 156, 3) := by decide +kernel
theorem dX12_waitsFor_14 : decode cX12_waitsFor 14 = .ok (.aload_n 0, 1) := by decide +kernel
theorem dX12_waitsFor_15 : decode cX12_waitsFor 15 = .ok (.getfield 569, 3) := by decide +kernel
theorem dX12_waitsFor_18 : decode cX12_waitsFor 18 = .ok (.iload_n 2, 1) := by decide +kernel
theorem dX12_waitsFor_19 : decode cX12_waitsFor 19 = .ok (.iastore, 1) := by decide +kernel
theorem dX12_waitsFor_20 : decode cX12_waitsFor 20 = .ok (.aload_n 0, 1) := by decide +kernel
theorem dX12_waitsFor_21 : decode cX12_waitsFor 21 = .ok (.getfield 159, 3) := by decide +kernel
theorem dX12_waitsFor_24 : decode cX12_waitsFor 24 = .ok (.aload_n 0, 1) := by decide +kernel
theorem dX12_waitsFor_25 : decode cX12_waitsFor 25 = .ok (.getfield 569, 3) := by decide +kernel
theorem dX12_waitsFor_28 : decode cX12_waitsFor 28 = .ok (.iload_n 3, 1) := by decide +kernel
theorem dX12_waitsFor_29 : decode cX12_waitsFor 29 = .ok (.iastore, 1) := by decide +kernel
theorem dX12_waitsFor_30 : decode cX12_waitsFor 30 = .ok (.aload_n 0, 1) := by decide +kernel
theorem dX12_waitsFor_31 : decode cX12_waitsFor 31 = .ok (.dup, 1) := by decide +kernel
theorem dX12_waitsFor_32 : decode cX12_waitsFor 32 = .ok (.getfield 569, 3) := by decide +kernel
theorem dX12_waitsFor_35 : decode cX12_waitsFor 35 = .ok (.iconst 1, 1) := by decide +kernel
theorem dX12_waitsFor_36 : decode cX12_waitsFor 36 = .ok (.iadd, 1) := by decide +kernel
theorem dX12_waitsFor_37 : decode cX12_waitsFor 37 = .ok (.putfield 569, 3) := by decide +kernel
theorem dX12_waitsFor_40 : decode cX12_waitsFor 40 = .ok (.return_, 1) := by decide +kernel
theorem dX12_does_0 : decode cX12_does 0 = .ok (.aload_n 0, 1) := by decide +kernel
theorem dX12_does_1 : decode cX12_does 1 = .ok (.dup, 1) := by decide +kernel
theorem dX12_does_2 : decode cX12_does 2 = .ok (.getfield 569, 3) := by decide +kernel
theorem dX12_does_5 : decode cX12_does 5 = .ok (.iconst 1, 1) := by decide +kernel
theorem dX12_does_6 : decode cX12_does 6 = .ok (.isub, 1) := by decide +kernel
theorem dX12_does_7 : decode cX12_does 7 = .ok (.putfield 569, 3) := by decide +kernel
theorem dX12_does_10 : decode cX12_does 10 = .ok (.aload_n 0, 1) := by decide +kernel
theorem dX12_does_11 : decode cX12_does 11 = .ok (.getfield 153, 3) := by decide +kernel
theorem dX12_does_14 : decode cX12_does 14 = .ok (.aload_n 0, 1) := by decide +kernel
theorem dX12_does_15 : decode cX12_does 15 = .ok (.getfield 569, 3) := by decide +kernel
theorem dX12_does_18 : decode cX12_does 18 = .ok (.iaload, 1) := by decide +kernel
theorem dX12_does_19 : decode cX12_does 19 = .ok (.istore_n 1, 1) := by decide +kernel
theorem dX12_does_20 : decode cX12_does 20 = .ok (.iload_n 1, 1) := by decide +kernel
theorem dX12_does_21 : decode cX12_does 21 = .ok (.invokestatic 572, 3) := by decide +kernel
theorem dX12_does_24 : decode cX12_does 24 = .ok (.ifCond .ne 9, 3) := by decide +kernel
theorem dX12_does_27 : decode cX12_does 27 = .ok (.iload_n 1, 1) := by decide +kernel
theorem dX12_does_28 : decode cX12_does 28 = .ok (.bipush 40, 2) := by decide +kernel
theorem dX12_does_30 : decode cX12_does 30 = .ok (.if_icmp .lt 13, 3) := by decide +kernel
theorem dX12_does_33 : decode cX12_does 33 = .ok (.aload_n 0, 1) := by decide +kernel
theorem dX12_does_34 : decode cX12_does 34 = .ok (.dup, 1) := by decide +kernel
theorem dX12_does_35 : decode cX12_does 35 = .ok (.getfield 575, 3) := by decide +kernel
theorem dX12_does_38 : decode cX12_does 38 = .ok (.iconst 1, 1) := by decide +kernel
theorem dX12_does_39 : decode cX12_does 39 = .ok (.isub, 1) := by decide +kernel
theorem dX12_does_40 : decode cX12_does 40 = .ok (.putfield 575, 3) := by decide +kernel
theorem dX12_does_43 : decode cX12_does 43 = .ok (.iload_n 1, 1) := by decide +kernel
theorem dX12_does_44 : decode cX12_does 44 = .ok (.bipush 30, 2) := by decide +kernel
theorem dX12_does_46 : decode cX12_does 46 = .ok (.if_icmp .eq 9, 3) := by decide +kernel
theorem dX12_does_49 : decode cX12_does 49 = .ok (.iload_n 1, 1) := by decide +kernel
theorem dX12_does_50 : decode cX12_does 50 = .ok (.bipush 31, 2) := by decide +kernel
theorem dX12_does_52 : decode cX12_does 52 = .ok (.if_icmp .ne 32, 3) := by decide +kernel
theorem dX12_does_55 : decode cX12_does 55 = .ok (.aload_n 0, 1) := by decide +kernel
theorem dX12_does_56 : decode cX12_does 56 = .ok (.bipush 32, 2) := by decide +kernel
theorem dX12_does_58 : decode cX12_does 58 = .ok (.lconst 0, 1) := by decide +kernel
theorem dX12_does_59 : decode cX12_does 59 = .ok (.iconst 0, 1) := by decide +kernel
theorem dX12_does_60 : decode cX12_does 60 = .ok (.invokevirtual 578, 3) := by decide +kernel
theorem dX12_does_63 : decode cX12_does 63 = .ok (.aload_n 0, 1) := by decide +kernel
theorem dX12_does_64 : decode cX12_does 64 = .ok (.getfield 147, 3) := by decide +kernel
theorem dX12_does_67 : decode cX12_does 67 = .ok (.aload_n 0, 1) := by decide +kernel
theorem dX12_does_68 : decode cX12_does 68 = .ok (.getfield 156, 3) := by decide +kernel
theorem dX12_does_71 : decode cX12_does 71 = .ok (.aload_n 0, 1) := by decide +kernel
theorem dX12_does_72 : decode cX12_does 72 = .ok (.getfield 569, 3) := by decide +kernel
theorem dX12_does_75 : decode cX12_does 75 = .ok (.iaload, 1) := by decide +kernel
theorem dX12_does_76 : decode cX12_does 76 = .ok (.aload_n 0, 1) := by decide +kernel
theorem dX12_does_77 : decode cX12_does 77 = .ok (.getfield 556, 3) := by decide +kernel
theorem dX12_does_80 : decode cX12_does 80 = .ok (.iastore, 1) := by decide +kernel
theorem dX12_does_81 : decode cX12_does 81 = .ok (.goto 51, 3) := by decide +kernel
theorem dX12_does_84 : decode cX12_does 84 = .ok (.iload_n 1, 1) := by decide +kernel
theorem dX12_does_85 : decode cX12_does 85 = .ok (.bipush 42, 2) := by decide +kernel
theorem dX12_does_87 : decode cX12_does 87 = .ok (.if_icmp .ne 24, 3) := by decide +kernel
theorem dX12_does_90 : decode cX12_does 90 = .ok (.aload_n 0, 1) := by decide +kernel
theorem dX12_does_91 : decode cX12_does 91 = .ok (.getfield 147, 3) := by decide +kernel
theorem dX12_does_94 : decode cX12_does 94 = .ok (.aload_n 0, 1) := by decide +kernel
theorem dX12_does_95 : decode cX12_does 95 = .ok (.getfield 156, 3) := by decide +kernel
theorem dX12_does_98 : decode cX12_does 98 = .ok (.aload_n 0, 1) := by decide +kernel
theorem dX12_does_99 : decode cX12_does 99 = .ok (.getfield 569, 3) := by decide +kernel
theorem dX12_does_102 : decode cX12_does 102 = .ok (.iaload, 1) := by decide +kernel
theorem dX12_does_103 : decode cX12_does 103 = .ok (.aload_n 0, 1) := by decide +kernel
theorem dX12_does_104 : decode cX12_does 104 = .ok (.getfield 556, 3) := by decide +kernel
theorem dX12_does_107 : decode cX12_does 107 = .ok (.iastore, 1) := by decide +kernel
theorem dX12_does_108 : decode cX12_does 108 = .ok (.goto 24, 3) := by decide +kernel
theorem dX12_does_111 : decode cX12_does 111 = .ok (.iload_n 1, 1) := by decide +kernel
theorem dX12_does_112 : decode cX12_does 112 = .ok (.bipush 40, 2) := by decide +kernel
theorem dX12_does_114 : decode cX12_does 114 = .ok (.if_icmp .ge 18, 3) := by decide +kernel
theorem dX12_does_117 : decode cX12_does 117 = .ok (.aload_n 0, 1) := by decide +kernel
theorem dX12_does_118 : decode cX12_does 118 = .ok (.iload_n 1, 1) := by decide +kernel
theorem dX12_does_119 : decode cX12_does 119 = .ok (.lconst 0, 1) := by decide +kernel
theorem dX12_does_120 : decode cX12_does 120 = .ok (.aload_n 0, 1) := by decide +kernel
theorem dX12_does_121 : decode cX12_does 121 = .ok (.getfield 159, 3) := by decide +kernel
theorem dX12_does_124 : decode cX12_does 124 = .ok (.aload_n 0, 1) := by decide +kernel
theorem dX12_does_125 : decode cX12_does 125 = .ok (.getfield 569, 3) := by decide +kernel
theorem dX12_does_128 : decode cX12_does 128 = .ok (.iaload, 1) := by decide +kernel
theorem dX12_does_129 : decode cX12_does 129 = .ok (.invokevirtual 578, 3) := by decide +kernel
theorem dX12_does_132 : decode cX12_does 132 = .ok (.return_, 1) := by decide +kernel
theorem dX12_doesAbove_0 : decode cX12_doesAbove 0 = .ok (.aload_n 0, 1) := by decide +kernel
theorem dX12_doesAbove_1 : decode cX12_doesAbove 1 = .ok (.getfield 569, 3) := by decide +kernel
theorem dX12_doesAbove_4 : decode cX12_doesAbove 4 = .ok (.ifCond .le 28, 3) := by decide +kernel
theorem dX12_doesAbove_7 : decode cX12_doesAbove 7 = .ok (.aload_n 0, 1) := by decide +kernel
theorem dX12_doesAbove_8 : decode cX12_doesAbove 8 = .ok (.getfield 153, 3) := by decide +kernel
theorem dX12_doesAbove_11 : decode cX12_doesAbove 11 = .ok (.aload_n 0, 1) := by decide +kernel
theorem dX12_doesAbove_12 : decode cX12_doesAbove 12 = .ok (.getfield 569, 3) := by decide +kernel
theorem dX12_doesAbove_15 : decode cX12_doesAbove 15 = .ok (.iconst 1, 1) := by decide +kernel
theorem dX12_doesAbove_16 : decode cX12_doesAbove 16 = .ok (.isub, 1) := by decide +kernel
theorem dX12_doesAbove_17 : decode cX12_doesAbove 17 = .ok (.iaload, 1) := by decide +kernel
theorem dX12_doesAbove_18 : decode cX12_doesAbove 18 = .ok (.invokestatic 582, 3) := by decide +kernel
theorem dX12_doesAbove_21 : decode cX12_doesAbove 21 = .ok (.iload_n 1, 1) := by decide +kernel
theorem dX12_doesAbove_22 : decode cX12_doesAbove 22 = .ok (.if_icmp .lt 10, 3) := by decide +kernel
theorem dX12_doesAbove_25 : decode cX12_doesAbove 25 = .ok (.aload_n 0, 1) := by decide +kernel
theorem dX12_doesAbove_26 : decode cX12_doesAbove 26 = .ok (.invokevirtual 585, 3) := by decide +kernel
theorem dX12_doesAbove_29 : decode cX12_doesAbove 29 = .ok (.goto (-29), 3) := by decide +kernel
theorem dX12_doesAbove_32 : decode cX12_doesAbove 32 = .ok (.return_, 1) := by decide +kernel
theorem dX12_doesDown_0 : decode cX12_doesDown 0 = .ok (.aload_n 0, 1) := by decide +kernel
theorem dX12_doesDown_1 : decode cX12_doesDown 1 = .ok (.getfield 569, 3) := by decide +kernel
theorem dX12_doesDown_4 : decode cX12_doesDown 4 = .ok (.ifCond .le 42, 3) := by decide +kernel
theorem dX12_doesDown_7 : decode cX12_doesDown 7 = .ok (.aload_n 0, 1) := by decide +kernel
theorem dX12_doesDown_8 : decode cX12_doesDown 8 = .ok (.getfield 153, 3) := by decide +kernel
theorem dX12_doesDown_11 : decode cX12_doesDown 11 = .ok (.aload_n 0, 1) := by decide +kernel
theorem dX12_doesDown_12 : decode cX12_doesDown 12 = .ok (.getfield 569, 3) := by decide +kernel
theorem dX12_doesDown_15 : decode cX12_doesDown 15 = .ok (.iconst 1, 1) := by decide +kernel
theorem dX12_doesDown_16 : decode cX12_doesDown 16 = .ok (.isub, 1) := by decide +kernel
theorem dX12_doesDown_17 : decode cX12_doesDown 17 = .ok (.iaload, 1) := by decide +kernel
theorem dX12_doesDown_18 : decode cX12_doesDown 18 = .ok (.bipush 40, 2) := by decide +kernel
theorem dX12_doesDown_20 : decode cX12_doesDown 20 = .ok (.if_icmp .eq 26, 3) := by decide +kernel
theorem dX12_doesDown_23 : decode cX12_doesDown 23 = .ok (.aload_n 0, 1) := by decide +kernel
theorem dX12_doesDown_24 : decode cX12_doesDown 24 = .ok (.getfield 153, 3) := by decide +kernel
theorem dX12_doesDown_27 : decode cX12_doesDown 27 = .ok (.aload_n 0, 1) := by decide +kernel
theorem dX12_doesDown_28 : decode cX12_doesDown 28 = .ok (.getfield 569, 3) := by decide +kernel
theorem dX12_doesDown_31 : decode cX12_doesDown 31 = .ok (.iconst 1, 1) := by decide +kernel
theorem dX12_doesDown_32 : decode cX12_doesDown 32 = .ok (.isub, 1) := by decide +kernel
theorem dX12_doesDown_33 : decode cX12_doesDown 33 = .ok (.iaload, 1) := by decide +kernel
theorem dX12_doesDown_34 : decode cX12_doesDown 34 = .ok (.bipush 41, 2) := by decide +kernel
theorem dX12_doesDown_36 : decode cX12_doesDown 36 = .ok (.if_icmp .eq 10, 3) := by decide +kernel
theorem dX12_doesDown_39 : decode cX12_doesDown 39 = .ok (.aload_n 0, 1) := by decide +kernel
theorem dX12_doesDown_40 : decode cX12_doesDown 40 = .ok (.invokevirtual 585, 3) := by decide +kernel
theorem dX12_doesDown_43 : decode cX12_doesDown 43 = .ok (.goto (-43), 3) := by decide +kernel
theorem dX12_doesDown_46 : decode cX12_doesDown 46 = .ok (.return_, 1) := by decide +kernel
theorem dX12_aheadOf_0 : decode cX12_aheadOf 0 = .ok (.aload_n 0, 1) := by decide +kernel
theorem dX12_aheadOf_1 : decode cX12_aheadOf 1 = .ok (.iload_n 1, 1) := by decide +kernel
theorem dX12_aheadOf_2 : decode cX12_aheadOf 2 = .ok (.bipush 33, 2) := by decide +kernel
theorem dX12_aheadOf_4 : decode cX12_aheadOf 4 = .ok (.invokevirtual 406, 3) := by decide +kernel
theorem dX12_aheadOf_7 : decode cX12_aheadOf 7 = .ok (.ifCond .eq 8, 3) := by decide +kernel
theorem dX12_aheadOf_10 : decode cX12_aheadOf 10 = .ok (.bipush 20, 2) := by decide +kernel
theorem dX12_aheadOf_12 : decode cX12_aheadOf 12 = .ok (.goto 49, 3) := by decide +kernel
theorem dX12_aheadOf_15 : decode cX12_aheadOf 15 = .ok (.aload_n 0, 1) := by decide +kernel
theorem dX12_aheadOf_16 : decode cX12_aheadOf 16 = .ok (.iload_n 1, 1) := by decide +kernel
theorem dX12_aheadOf_17 : decode cX12_aheadOf 17 = .ok (.bipush 126, 2) := by decide +kernel
theorem dX12_aheadOf_19 : decode cX12_aheadOf 19 = .ok (.invokevirtual 406, 3) := by decide +kernel
theorem dX12_aheadOf_22 : decode cX12_aheadOf 22 = .ok (.ifCond .eq 8, 3) := by decide +kernel
theorem dX12_aheadOf_25 : decode cX12_aheadOf 25 = .ok (.bipush 21, 2) := by decide +kernel
theorem dX12_aheadOf_27 : decode cX12_aheadOf 27 = .ok (.goto 34, 3) := by decide +kernel
theorem dX12_aheadOf_30 : decode cX12_aheadOf 30 = .ok (.aload_n 0, 1) := by decide +kernel
theorem dX12_aheadOf_31 : decode cX12_aheadOf 31 = .ok (.iload_n 1, 1) := by decide +kernel
theorem dX12_aheadOf_32 : decode cX12_aheadOf 32 = .ok (.bipush 45, 2) := by decide +kernel
theorem dX12_aheadOf_34 : decode cX12_aheadOf 34 = .ok (.invokevirtual 406, 3) := by decide +kernel
theorem dX12_aheadOf_37 : decode cX12_aheadOf 37 = .ok (.ifCond .eq 8, 3) := by decide +kernel
theorem dX12_aheadOf_40 : decode cX12_aheadOf 40 = .ok (.bipush 22, 2) := by decide +kernel
theorem dX12_aheadOf_42 : decode cX12_aheadOf 42 = .ok (.goto 19, 3) := by decide +kernel
theorem dX12_aheadOf_45 : decode cX12_aheadOf 45 = .ok (.aload_n 0, 1) := by decide +kernel
theorem dX12_aheadOf_46 : decode cX12_aheadOf 46 = .ok (.iload_n 1, 1) := by decide +kernel
theorem dX12_aheadOf_47 : decode cX12_aheadOf 47 = .ok (.bipush 43, 2) := by decide +kernel
theorem dX12_aheadOf_49 : decode cX12_aheadOf 49 = .ok (.invokevirtual 406, 3) := by decide +kernel
theorem dX12_aheadOf_52 : decode cX12_aheadOf 52 = .ok (.ifCond .eq 8, 3) := by decide +kernel
theorem dX12_aheadOf_55 : decode cX12_aheadOf 55 = .ok (.bipush 23, 2) := by decide +kernel
theorem dX12_aheadOf_57 : decode cX12_aheadOf 57 = .ok (.goto 4, 3) := by decide +kernel
theorem dX12_aheadOf_60 : decode cX12_aheadOf 60 = .ok (.iconst (-1), 1) := by decide +kernel
theorem dX12_aheadOf_61 : decode cX12_aheadOf 61 = .ok (.ireturn, 1) := by decide +kernel
theorem dX12_operand_0 : decode cX12_operand 0 = .ok (.aload_n 0, 1) := by decide +kernel
theorem dX12_operand_1 : decode cX12_operand 1 = .ok (.iload_n 1, 1) := by decide +kernel
theorem dX12_operand_2 : decode cX12_operand 2 = .ok (.invokevirtual 588, 3) := by decide +kernel
theorem dX12_operand_5 : decode cX12_operand 5 = .ok (.istore_n 2, 1) := by decide +kernel
theorem dX12_operand_6 : decode cX12_operand 6 = .ok (.aload_n 0, 1) := by decide +kernel
theorem dX12_operand_7 : decode cX12_operand 7 = .ok (.iload_n 1, 1) := by decide +kernel
theorem dX12_operand_8 : decode cX12_operand 8 = .ok (.bipush 40, 2) := by decide +kernel
theorem dX12_operand_10 : decode cX12_operand 10 = .ok (.invokevirtual 406, 3) := by decide +kernel
theorem dX12_operand_13 : decode cX12_operand 13 = .ok (.istore_n 3, 1) := by decide +kernel
theorem dX12_operand_14 : decode cX12_operand 14 = .ok (.iload_n 2, 1) := by decide +kernel
theorem dX12_operand_15 : decode cX12_operand 15 = .ok (.ifCond .ge 7, 3) := by decide +kernel
theorem dX12_operand_18 : decode cX12_operand 18 = .ok (.iload_n 3, 1) := by decide +kernel
theorem dX12_operand_19 : decode cX12_operand 19 = .ok (.ifCond .eq 48, 3) := by decide +kernel
theorem dX12_operand_22 : decode cX12_operand 22 = .ok (.aload_n 0, 1) := by decide +kernel
theorem dX12_operand_23 : decode cX12_operand 23 = .ok (.getfield 575, 3) := by decide +kernel
theorem dX12_operand_26 : decode cX12_operand 26 = .ok (.bipush 8, 2) := by decide +kernel
theorem dX12_operand_28 : decode cX12_operand 28 = .ok (.if_icmp .ne 11, 3) := by decide +kernel
theorem dX12_operand_31 : decode cX12_operand 31 = .ok (.aload_n 0, 1) := by decide +kernel
theorem dX12_operand_32 : decode cX12_operand 32 = .ok (.bipush 8, 2) := by decide +kernel
theorem dX12_operand_34 : decode cX12_operand 34 = .ok (.iload_n 1, 1) := by decide +kernel
theorem dX12_operand_35 : decode cX12_operand 35 = .ok (.invokevirtual 376, 3) := by decide +kernel
theorem dX12_operand_38 : decode cX12_operand 38 = .ok (.ireturn, 1) := by decide +kernel
theorem dX12_operand_39 : decode cX12_operand 39 = .ok (.aload_n 0, 1) := by decide +kernel
theorem dX12_operand_40 : decode cX12_operand 40 = .ok (.dup, 1) := by decide +kernel
theorem dX12_operand_41 : decode cX12_operand 41 = .ok (.getfield 575, 3) := by decide +kernel
theorem dX12_operand_44 : decode cX12_operand 44 = .ok (.iconst 1, 1) := by decide +kernel
theorem dX12_operand_45 : decode cX12_operand 45 = .ok (.iadd, 1) := by decide +kernel
theorem dX12_operand_46 : decode cX12_operand 46 = .ok (.putfield 575, 3) := by decide +kernel
theorem dX12_operand_49 : decode cX12_operand 49 = .ok (.aload_n 0, 1) := by decide +kernel
theorem dX12_operand_50 : decode cX12_operand 50 = .ok (.iload_n 3, 1) := by decide +kernel
theorem dX12_operand_51 : decode cX12_operand 51 = .ok (.ifCond .eq 8, 3) := by decide +kernel
theorem dX12_operand_54 : decode cX12_operand 54 = .ok (.bipush 40, 2) := by decide +kernel
theorem dX12_operand_56 : decode cX12_operand 56 = .ok (.goto 4, 3) := by decide +kernel
theorem dX12_operand_59 : decode cX12_operand 59 = .ok (.iload_n 2, 1) := by decide +kernel
theorem dX12_operand_60 : decode cX12_operand 60 = .ok (.iconst 0, 1) := by decide +kernel
theorem dX12_operand_61 : decode cX12_operand 61 = .ok (.iload_n 1, 1) := by decide +kernel
theorem dX12_operand_62 : decode cX12_operand 62 = .ok (.invokevirtual 591, 3) := by decide +kernel
theorem dX12_operand_65 : decode cX12_operand 65 = .ok (.iconst 1, 1) := by decide +kernel
theorem dX12_operand_66 : decode cX12_operand 66 = .ok (.ireturn, 1) := by decide +kernel
theorem dX12_operand_67 : decode cX12_operand 67 = .ok (.aload_n 0, 1) := by decide +kernel
theorem dX12_operand_68 : decode cX12_operand 68 = .ok (.getfield 40, 3) := by decide +kernel
theorem dX12_operand_71 : decode cX12_operand 71 = .ok (.iload_n 1, 1) := by decide +kernel
theorem dX12_operand_72 : decode cX12_operand 72 = .ok (.iaload, 1) := by decide +kernel
theorem dX12_operand_73 : decode cX12_operand 73 = .ok (.ifCond .ne 11, 3) := by decide +kernel
theorem dX12_operand_76 : decode cX12_operand 76 = .ok (.aload_n 0, 1) := by decide +kernel
theorem dX12_operand_77 : decode cX12_operand 77 = .ok (.lconst 0, 1) := by decide +kernel
theorem dX12_operand_78 : decode cX12_operand 78 = .ok (.putfield 559, 3) := by decide +kernel
theorem dX12_operand_81 : decode cX12_operand 81 = .ok (.goto 29, 3) := by decide +kernel
theorem dX12_operand_84 : decode cX12_operand 84 = .ok (.aload_n 0, 1) := by decide +kernel
theorem dX12_operand_85 : decode cX12_operand 85 = .ok (.getfield 40, 3) := by decide +kernel
theorem dX12_operand_88 : decode cX12_operand 88 = .ok (.iload_n 1, 1) := by decide +kernel
theorem dX12_operand_89 : decode cX12_operand 89 = .ok (.iaload, 1) := by decide +kernel
theorem dX12_operand_90 : decode cX12_operand 90 = .ok (.iconst 1, 1) := by decide +kernel
theorem dX12_operand_91 : decode cX12_operand 91 = .ok (.if_icmp .ne 11, 3) := by decide +kernel
theorem dX12_operand_94 : decode cX12_operand 94 = .ok (.aload_n 0, 1) := by decide +kernel
theorem dX12_operand_95 : decode cX12_operand 95 = .ok (.iload_n 1, 1) := by decide +kernel
theorem dX12_operand_96 : decode cX12_operand 96 = .ok (.invokevirtual 594, 3) := by decide +kernel
theorem dX12_operand_99 : decode cX12_operand 99 = .ok (.ifCond .ne 11, 3) := by decide +kernel
theorem dX12_operand_102 : decode cX12_operand 102 = .ok (.aload_n 0, 1) := by decide +kernel
theorem dX12_operand_103 : decode cX12_operand 103 = .ok (.bipush 8, 2) := by decide +kernel
theorem dX12_operand_105 : decode cX12_operand 105 = .ok (.iload_n 1, 1) := by decide +kernel
theorem dX12_operand_106 : decode cX12_operand 106 = .ok (.invokevirtual 376, 3) := by decide +kernel
theorem dX12_operand_109 : decode cX12_operand 109 = .ok (.ireturn, 1) := by decide +kernel
theorem dX12_operand_110 : decode cX12_operand 110 = .ok (.aload_n 0, 1) := by decide +kernel
theorem dX12_operand_111 : decode cX12_operand 111 = .ok (.iconst 0, 1) := by decide +kernel
theorem dX12_operand_112 : decode cX12_operand 112 = .ok (.aload_n 0, 1) := by decide +kernel
theorem dX12_operand_113 : decode cX12_operand 113 = .ok (.getfield 559, 3) := by decide +kernel
theorem dX12_operand_116 : decode cX12_operand 116 = .ok (.iload_n 1, 1) := by decide +kernel
theorem dX12_operand_117 : decode cX12_operand 117 = .ok (.invokevirtual 578, 3) := by decide +kernel
theorem dX12_operand_120 : decode cX12_operand 120 = .ok (.aload_n 0, 1) := by decide +kernel
theorem dX12_operand_121 : decode cX12_operand 121 = .ok (.iconst 1, 1) := by decide +kernel
theorem dX12_operand_122 : decode cX12_operand 122 = .ok (.putfield 597, 3) := by decide +kernel
theorem dX12_operand_125 : decode cX12_operand 125 = .ok (.iconst 1, 1) := by decide +kernel
theorem dX12_operand_126 : decode cX12_operand 126 = .ok (.ireturn, 1) := by decide +kernel
theorem dX12_behind_0 : decode cX12_behind 0 = .ok (.aload_n 0, 1) := by decide +kernel
theorem dX12_behind_1 : decode cX12_behind 1 = .ok (.iload_n 1, 1) := by decide +kernel
theorem dX12_behind_2 : decode cX12_behind 2 = .ok (.bipush 41, 2) := by decide +kernel
theorem dX12_behind_4 : decode cX12_behind 4 = .ok (.invokevirtual 406, 3) := by decide +kernel
theorem dX12_behind_7 : decode cX12_behind 7 = .ok (.ifCond .eq 44, 3) := by decide +kernel
theorem dX12_behind_10 : decode cX12_behind 10 = .ok (.aload_n 0, 1) := by decide +kernel
theorem dX12_behind_11 : decode cX12_behind 11 = .ok (.invokevirtual 600, 3) := by decide +kernel
theorem dX12_behind_14 : decode cX12_behind 14 = .ok (.aload_n 0, 1) := by decide +kernel
theorem dX12_behind_15 : decode cX12_behind 15 = .ok (.getfield 569, 3) := by decide +kernel
theorem dX12_behind_18 : decode cX12_behind 18 = .ok (.ifCond .eq 19, 3) := by decide +kernel
theorem dX12_behind_21 : decode cX12_behind 21 = .ok (.aload_n 0, 1) := by decide +kernel
theorem dX12_behind_22 : decode cX12_behind 22 = .ok (.getfield 153, 3) := by decide +kernel
theorem dX12_behind_25 : decode cX12_behind 25 = .ok (.aload_n 0, 1) := by decide +kernel
theorem dX12_behind_26 : decode cX12_behind 26 = .ok (.getfield 569, 3) := by decide +kernel
theorem dX12_behind_29 : decode cX12_behind 29 = .ok (.iconst 1, 1) := by decide +kernel
theorem dX12_behind_30 : decode cX12_behind 30 = .ok (.isub, 1) := by decide +kernel
theorem dX12_behind_31 : decode cX12_behind 31 = .ok (.iaload, 1) := by decide +kernel
theorem dX12_behind_32 : decode cX12_behind 32 = .ok (.bipush 40, 2) := by decide +kernel
theorem dX12_behind_34 : decode cX12_behind 34 = .ok (.if_icmp .eq 11, 3) := by decide +kernel
theorem dX12_behind_37 : decode cX12_behind 37 = .ok (.aload_n 0, 1) := by decide +kernel
theorem dX12_behind_38 : decode cX12_behind 38 = .ok (.bipush 8, 2) := by decide +kernel
theorem dX12_behind_40 : decode cX12_behind 40 = .ok (.iload_n 1, 1) := by decide +kernel
theorem dX12_behind_41 : decode cX12_behind 41 = .ok (.invokevirtual 376, 3) := by decide +kernel
theorem dX12_behind_44 : decode cX12_behind 44 = .ok (.ireturn, 1) := by decide +kernel
theorem dX12_behind_45 : decode cX12_behind 45 = .ok (.aload_n 0, 1) := by decide +kernel
theorem dX12_behind_46 : decode cX12_behind 46 = .ok (.invokevirtual 585, 3) := by decide +kernel
theorem dX12_behind_49 : decode cX12_behind 49 = .ok (.iconst 1, 1) := by decide +kernel
theorem dX12_behind_50 : decode cX12_behind 50 = .ok (.ireturn, 1) := by decide +kernel
theorem dX12_behind_51 : decode cX12_behind 51 = .ok (.aload_n 0, 1) := by decide +kernel
theorem dX12_behind_52 : decode cX12_behind 52 = .ok (.iload_n 1, 1) := by decide +kernel
theorem dX12_behind_53 : decode cX12_behind 53 = .ok (.bipush 58, 2) := by decide +kernel
theorem dX12_behind_55 : decode cX12_behind 55 = .ok (.invokevirtual 406, 3) := by decide +kernel
theorem dX12_behind_58 : decode cX12_behind 58 = .ok (.ifCond .eq 103, 3) := by decide +kernel
theorem dX12_behind_61 : decode cX12_behind 61 = .ok (.aload_n 0, 1) := by decide +kernel
theorem dX12_behind_62 : decode cX12_behind 62 = .ok (.invokevirtual 600, 3) := by decide +kernel
theorem dX12_behind_65 : decode cX12_behind 65 = .ok (.aload_n 0, 1) := by decide +kernel
theorem dX12_behind_66 : decode cX12_behind 66 = .ok (.getfield 569, 3) := by decide +kernel
theorem dX12_behind_69 : decode cX12_behind 69 = .ok (.ifCond .eq 19, 3) := by decide +kernel
theorem dX12_behind_72 : decode cX12_behind 72 = .ok (.aload_n 0, 1) := by decide +kernel
theorem dX12_behind_73 : decode cX12_behind 73 = .ok (.getfield 153, 3) := by decide +kernel
theorem dX12_behind_76 : decode cX12_behind 76 = .ok (.aload_n 0, 1) := by decide +kernel
theorem dX12_behind_77 : decode cX12_behind 77 = .ok (.getfield 569, 3) := by decide +kernel
theorem dX12_behind_80 : decode cX12_behind 80 = .ok (.iconst 1, 1) := by decide +kernel
theorem dX12_behind_81 : decode cX12_behind 81 = .ok (.isub, 1) := by decide +kernel
theorem dX12_behind_82 : decode cX12_behind 82 = .ok (.iaload, 1) := by decide +kernel
theorem dX12_behind_83 : decode cX12_behind 83 = .ok (.bipush 41, 2) := by decide +kernel
theorem dX12_behind_85 : decode cX12_behind 85 = .ok (.if_icmp .eq 11, 3) := by decide +kernel
theorem dX12_behind_88 : decode cX12_behind 88 = .ok (.aload_n 0, 1) := by decide +kernel
theorem dX12_behind_89 : decode cX12_behind 89 = .ok (.bipush 8, 2) := by decide +kernel
theorem dX12_behind_91 : decode cX12_behind 91 = .ok (.iload_n 1, 1) := by decide +kernel
theorem dX12_behind_92 : decode cX12_behind 92 = .ok (.invokevirtual 376, 3) := by decide +kernel
theorem dX12_behind_95 : decode cX12_behind 95 = .ok (.ireturn, 1) := by decide +kernel
theorem dX12_behind_96 : decode cX12_behind 96 = .ok (.aload_n 0, 1) := by decide +kernel
theorem dX12_behind_97 : decode cX12_behind 97 = .ok (.bipush 34, 2) := by decide +kernel
theorem dX12_behind_99 : decode cX12_behind 99 = .ok (.lconst 0, 1) := by decide +kernel
theorem dX12_behind_100 : decode cX12_behind 100 = .ok (.iload_n 1, 1) := by decide +kernel
theorem dX12_behind_101 : decode cX12_behind 101 = .ok (.invokevirtual 578, 3) := by decide +kernel
theorem dX12_behind_104 : decode cX12_behind 104 = .ok (.aload_n 0, 1) := by decide +kernel
theorem dX12_behind_105 : decode cX12_behind 105 = .ok (.getfield 147, 3) := by decide +kernel
theorem dX12_behind_108 : decode cX12_behind 108 = .ok (.aload_n 0, 1) := by decide +kernel
theorem dX12_behind_109 : decode cX12_behind 109 = .ok (.getfield 156, 3) := by decide +kernel
theorem dX12_behind_112 : decode cX12_behind 112 = .ok (.aload_n 0, 1) := by decide +kernel
theorem dX12_behind_113 : decode cX12_behind 113 = .ok (.getfield 569, 3) := by decide +kernel
theorem dX12_behind_116 : decode cX12_behind 116 = .ok (.iconst 1, 1) := by decide +kernel
theorem dX12_behind_117 : decode cX12_behind 117 = .ok (.isub, 1) := by decide +kernel
theorem dX12_behind_118 : decode cX12_behind 118 = .ok (.iaload, 1) := by decide +kernel
theorem dX12_behind_119 : decode cX12_behind 119 = .ok (.aload_n 0, 1) := by decide +kernel
theorem dX12_behind_120 : decode cX12_behind 120 = .ok (.getfield 556, 3) := by decide +kernel
theorem dX12_behind_123 : decode cX12_behind 123 = .ok (.iastore, 1) := by decide +kernel
theorem dX12_behind_124 : decode cX12_behind 124 = .ok (.aload_n 0, 1) := by decide +kernel
theorem dX12_behind_125 : decode cX12_behind 125 = .ok (.getfield 153, 3) := by decide +kernel
theorem dX12_behind_128 : decode cX12_behind 128 = .ok (.aload_n 0, 1) := by decide +kernel
theorem dX12_behind_129 : decode cX12_behind 129 = .ok (.getfield 569, 3) := by decide +kernel
theorem dX12_behind_132 : decode cX12_behind 132 = .ok (.iconst 1, 1) := by decide +kernel
theorem dX12_behind_133 : decode cX12_behind 133 = .ok (.isub, 1) := by decide +kernel
theorem dX12_behind_134 : decode cX12_behind 134 = .ok (.bipush 42, 2) := by decide +kernel
theorem dX12_behind_136 : decode cX12_behind 136 = .ok (.iastore, 1) := by decide +kernel
theorem dX12_behind_137 : decode cX12_behind 137 = .ok (.aload_n 0, 1) := by decide +kernel
theorem dX12_behind_138 : decode cX12_behind 138 = .ok (.getfield 156, 3) := by decide +kernel
theorem dX12_behind_141 : decode cX12_behind 141 = .ok (.aload_n 0, 1) := by decide +kernel
theorem dX12_behind_142 : decode cX12_behind 142 = .ok (.getfield 569, 3) := by decide +kernel
theorem dX12_behind_145 : decode cX12_behind 145 = .ok (.iconst 1, 1) := by decide +kernel
theorem dX12_behind_146 : decode cX12_behind 146 = .ok (.isub, 1) := by decide +kernel
theorem dX12_behind_147 : decode cX12_behind 147 = .ok (.aload_n 0, 1) := by decide +kernel
theorem dX12_behind_148 : decode cX12_behind 148 = .ok (.getfield 556, 3) := by decide +kernel
theorem dX12_behind_151 : decode cX12_behind 151 = .ok (.iconst 1, 1) := by decide +kernel
theorem dX12_behind_152 : decode cX12_behind 152 = .ok (.isub, 1) := by decide +kernel
theorem dX12_behind_153 : decode cX12_behind 153 = .ok (.iastore, 1) := by decide +kernel
theorem dX12_behind_154 : decode cX12_behind 154 = .ok (.aload_n 0, 1) := by decide +kernel
theorem dX12_behind_155 : decode cX12_behind 155 = .ok (.iconst 0, 1) := by decide +kernel
theorem dX12_behind_156 : decode cX12_behind 156 = .ok (.putfield 597, 3) := by decide +kernel
theorem dX12_behind_159 : decode cX12_behind 159 = .ok (.iconst 1, 1) := by decide +kernel
theorem dX12_behind_160 : decode cX12_behind 160 = .ok (.ireturn, 1) := by decide +kernel
theorem dX12_behind_161 : decode cX12_behind 161 = .ok (.aload_n 0, 1) := by decide +kernel
theorem dX12_behind_162 : decode cX12_behind 162 = .ok (.iload_n 1, 1) := by decide +kernel
theorem dX12_behind_163 : decode cX12_behind 163 = .ok (.bipush 63, 2) := by decide +kernel
theorem dX12_behind_165 : decode cX12_behind 165 = .ok (.invokevirtual 406, 3) := by decide +kernel
theorem dX12_behind_168 : decode cX12_behind 168 = .ok (.ifCond .eq 46, 3) := by decide +kernel
theorem dX12_behind_171 : decode cX12_behind 171 = .ok (.aload_n 0, 1) := by decide +kernel
theorem dX12_behind_172 : decode cX12_behind 172 = .ok (.iconst 1, 1) := by decide +kernel
theorem dX12_behind_173 : decode cX12_behind 173 = .ok (.invokevirtual 603, 3) := by decide +kernel
theorem dX12_behind_176 : decode cX12_behind 176 = .ok (.aload_n 0, 1) := by decide +kernel
theorem dX12_behind_177 : decode cX12_behind 177 = .ok (.bipush 33, 2) := by decide +kernel
theorem dX12_behind_179 : decode cX12_behind 179 = .ok (.lconst 0, 1) := by decide +kernel
theorem dX12_behind_180 : decode cX12_behind 180 = .ok (.iload_n 1, 1) := by decide +kernel
theorem dX12_behind_181 : decode cX12_behind 181 = .ok (.invokevirtual 578, 3) := by decide +kernel
theorem dX12_behind_184 : decode cX12_behind 184 = .ok (.aload_n 0, 1) := by decide +kernel
theorem dX12_behind_185 : decode cX12_behind 185 = .ok (.bipush 41, 2) := by decide +kernel
theorem dX12_behind_187 : decode cX12_behind 187 = .ok (.aload_n 0, 1) := by decide +kernel
theorem dX12_behind_188 : decode cX12_behind 188 = .ok (.getfield 556, 3) := by decide +kernel
theorem dX12_behind_191 : decode cX12_behind 191 = .ok (.iconst 1, 1) := by decide +kernel
theorem dX12_behind_192 : decode cX12_behind 192 = .ok (.isub, 1) := by decide +kernel
theorem dX12_behind_193 : decode cX12_behind 193 = .ok (.iload_n 1, 1) := by decide +kernel
theorem dX12_behind_194 : decode cX12_behind 194 = .ok (.invokevirtual 591, 3) := by decide +kernel
theorem dX12_behind_197 : decode cX12_behind 197 = .ok (.aload_n 0, 1) := by decide +kernel
theorem dX12_behind_198 : decode cX12_behind 198 = .ok (.dup, 1) := by decide +kernel
theorem dX12_behind_199 : decode cX12_behind 199 = .ok (.getfield 575, 3) := by decide +kernel
theorem dX12_behind_202 : decode cX12_behind 202 = .ok (.iconst 1, 1) := by decide +kernel
theorem dX12_behind_203 : decode cX12_behind 203 = .ok (.iadd, 1) := by decide +kernel
theorem dX12_behind_204 : decode cX12_behind 204 = .ok (.putfield 575, 3) := by decide +kernel
theorem dX12_behind_207 : decode cX12_behind 207 = .ok (.aload_n 0, 1) := by decide +kernel
theorem dX12_behind_208 : decode cX12_behind 208 = .ok (.iconst 0, 1) := by decide +kernel
theorem dX12_behind_209 : decode cX12_behind 209 = .ok (.putfield 597, 3) := by decide +kernel
theorem dX12_behind_212 : decode cX12_behind 212 = .ok (.iconst 1, 1) := by decide +kernel
theorem dX12_behind_213 : decode cX12_behind 213 = .ok (.ireturn, 1) := by decide +kernel
theorem dX12_behind_214 : decode cX12_behind 214 = .ok (.aload_n 0, 1) := by decide +kernel
theorem dX12_behind_215 : decode cX12_behind 215 = .ok (.iload_n 1, 1) := by decide +kernel
theorem dX12_behind_216 : decode cX12_behind 216 = .ok (.invokevirtual 606, 3) := by decide +kernel
theorem dX12_behind_219 : decode cX12_behind 219 = .ok (.istore_n 2, 1) := by decide +kernel
theorem dX12_behind_220 : decode cX12_behind 220 = .ok (.iload_n 2, 1) := by decide +kernel
theorem dX12_behind_221 : decode cX12_behind 221 = .ok (.ifCond .ge 11, 3) := by decide +kernel
theorem dX12_behind_224 : decode cX12_behind 224 = .ok (.aload_n 0, 1) := by decide +kernel
theorem dX12_behind_225 : decode cX12_behind 225 = .ok (.bipush 8, 2) := by decide +kernel
theorem dX12_behind_227 : decode cX12_behind 227 = .ok (.iload_n 1, 1) := by decide +kernel
theorem dX12_behind_228 : decode cX12_behind 228 = .ok (.invokevirtual 376, 3) := by decide +kernel
theorem dX12_behind_231 : decode cX12_behind 231 = .ok (.ireturn, 1) := by decide +kernel
theorem dX12_behind_232 : decode cX12_behind 232 = .ok (.aload_n 0, 1) := by decide +kernel
theorem dX12_behind_233 : decode cX12_behind 233 = .ok (.iload_n 2, 1) := by decide +kernel
theorem dX12_behind_234 : decode cX12_behind 234 = .ok (.invokestatic 582, 3) := by decide +kernel
theorem dX12_behind_237 : decode cX12_behind 237 = .ok (.invokevirtual 603, 3) := by decide +kernel
theorem dX12_behind_240 : decode cX12_behind 240 = .ok (.iload_n 2, 1) := by decide +kernel
theorem dX12_behind_241 : decode cX12_behind 241 = .ok (.bipush 30, 2) := by decide +kernel
theorem dX12_behind_243 : decode cX12_behind 243 = .ok (.if_icmp .eq 9, 3) := by decide +kernel
theorem dX12_behind_246 : decode cX12_behind 246 = .ok (.iload_n 2, 1) := by decide +kernel
theorem dX12_behind_247 : decode cX12_behind 247 = .ok (.bipush 31, 2) := by decide +kernel
theorem dX12_behind_249 : decode cX12_behind 249 = .ok (.if_icmp .ne 10, 3) := by decide +kernel
theorem dX12_behind_252 : decode cX12_behind 252 = .ok (.aload_n 0, 1) := by decide +kernel
theorem dX12_behind_253 : decode cX12_behind 253 = .ok (.iload_n 2, 1) := by decide +kernel
theorem dX12_behind_254 : decode cX12_behind 254 = .ok (.lconst 0, 1) := by decide +kernel
theorem dX12_behind_255 : decode cX12_behind 255 = .ok (.iload_n 1, 1) := by decide +kernel
theorem dX12_behind_256 : decode cX12_behind 256 = .ok (.invokevirtual 578, 3) := by decide +kernel
theorem dX12_behind_259 : decode cX12_behind 259 = .ok (.aload_n 0, 1) := by decide +kernel
theorem dX12_behind_260 : decode cX12_behind 260 = .ok (.iload_n 2, 1) := by decide +kernel
theorem dX12_behind_261 : decode cX12_behind 261 = .ok (.aload_n 0, 1) := by decide +kernel
theorem dX12_behind_262 : decode cX12_behind 262 = .ok (.getfield 556, 3) := by decide +kernel
theorem dX12_behind_265 : decode cX12_behind 265 = .ok (.iconst 1, 1) := by decide +kernel
theorem dX12_behind_266 : decode cX12_behind 266 = .ok (.isub, 1) := by decide +kernel
theorem dX12_behind_267 : decode cX12_behind 267 = .ok (.iload_n 1, 1) := by decide +kernel
theorem dX12_behind_268 : decode cX12_behind 268 = .ok (.invokevirtual 591, 3) := by decide +kernel
theorem dX12_behind_271 : decode cX12_behind 271 = .ok (.aload_n 0, 1) := by decide +kernel
theorem dX12_behind_272 : decode cX12_behind 272 = .ok (.iconst 0, 1) := by decide +kernel
theorem dX12_behind_273 : decode cX12_behind 273 = .ok (.putfield 597, 3) := by decide +kernel
theorem dX12_behind_276 : decode cX12_behind 276 = .ok (.iconst 1, 1) := by decide +kernel
theorem dX12_behind_277 : decode cX12_behind 277 = .ok (.ireturn, 1) := by decide +kernel
theorem dX12_readsList_0 : decode cX12_readsList 0 = .ok (.aload_n 0, 1) := by decide +kernel
theorem dX12_readsList_1 : decode cX12_readsList 1 = .ok (.iconst 0, 1) := by decide +kernel
theorem dX12_readsList_2 : decode cX12_readsList 2 = .ok (.putfield 556, 3) := by decide +kernel
theorem dX12_readsList_5 : decode cX12_readsList 5 = .ok (.aload_n 0, 1) := by decide +kernel
theorem dX12_readsList_6 : decode cX12_readsList 6 = .ok (.iconst 0, 1) := by decide +kernel
theorem dX12_readsList_7 : decode cX12_readsList 7 = .ok (.putfield 569, 3) := by decide +kernel
theorem dX12_readsList_10 : decode cX12_readsList 10 = .ok (.aload_n 0, 1) := by decide +kernel
theorem dX12_readsList_11 : decode cX12_readsList 11 = .ok (.iconst 0, 1) := by decide +kernel
theorem dX12_readsList_12 : decode cX12_readsList 12 = .ok (.putfield 575, 3) := by decide +kernel
theorem dX12_readsList_15 : decode cX12_readsList 15 = .ok (.aload_n 0, 1) := by decide +kernel
theorem dX12_readsList_16 : decode cX12_readsList 16 = .ok (.iconst 0, 1) := by decide +kernel
theorem dX12_readsList_17 : decode cX12_readsList 17 = .ok (.putfield 597, 3) := by decide +kernel
theorem dX12_readsList_20 : decode cX12_readsList 20 = .ok (.iconst 0, 1) := by decide +kernel
theorem dX12_readsList_21 : decode cX12_readsList 21 = .ok (.istore_n 1, 1) := by decide +kernel
theorem dX12_readsList_22 : decode cX12_readsList 22 = .ok (.iload_n 1, 1) := by decide +kernel
theorem dX12_readsList_23 : decode cX12_readsList 23 = .ok (.aload_n 0, 1) := by decide +kernel
theorem dX12_readsList_24 : decode cX12_readsList 24 = .ok (.getfield 451, 3) := by decide +kernel
theorem dX12_readsList_27 : decode cX12_readsList 27 = .ok (.if_icmp .ge 61, 3) := by decide +kernel
theorem dX12_readsList_30 : decode cX12_readsList 30 = .ok (.aload_n 0, 1) := by decide +kernel
theorem dX12_readsList_31 : decode cX12_readsList 31 = .ok (.getfield 138, 3) := by decide +kernel
theorem dX12_readsList_34 : decode cX12_readsList 34 = .ok (.iload_n 1, 1) := by decide +kernel
theorem dX12_readsList_35 : decode cX12_readsList 35 = .ok (.iaload, 1) := by decide +kernel
theorem dX12_readsList_36 : decode cX12_readsList 36 = .ok (.istore_n 2, 1) := by decide +kernel
theorem dX12_readsList_37 : decode cX12_readsList 37 = .ok (.aload_n 0, 1) := by decide +kernel
theorem dX12_readsList_38 : decode cX12_readsList 38 = .ok (.getfield 575, 3) := by decide +kernel
theorem dX12_readsList_41 : decode cX12_readsList 41 = .ok (.bipush 8, 2) := by decide +kernel
theorem dX12_readsList_43 : decode cX12_readsList 43 = .ok (.if_icmp .le 11, 3) := by decide +kernel
theorem dX12_readsList_46 : decode cX12_readsList 46 = .ok (.aload_n 0, 1) := by decide +kernel
theorem dX12_readsList_47 : decode cX12_readsList 47 = .ok (.bipush 8, 2) := by decide +kernel
theorem dX12_readsList_49 : decode cX12_readsList 49 = .ok (.iload_n 2, 1) := by decide +kernel
theorem dX12_readsList_50 : decode cX12_readsList 50 = .ok (.invokevirtual 376, 3) := by decide +kernel
theorem dX12_readsList_53 : decode cX12_readsList 53 = .ok (.ireturn, 1) := by decide +kernel
theorem dX12_readsList_54 : decode cX12_readsList 54 = .ok (.aload_n 0, 1) := by decide +kernel
theorem dX12_readsList_55 : decode cX12_readsList 55 = .ok (.getfield 597, 3) := by decide +kernel
theorem dX12_readsList_58 : decode cX12_readsList 58 = .ok (.ifCond .eq 14, 3) := by decide +kernel
theorem dX12_readsList_61 : decode cX12_readsList 61 = .ok (.aload_n 0, 1) := by decide +kernel
theorem dX12_readsList_62 : decode cX12_readsList 62 = .ok (.iload_n 2, 1) := by decide +kernel
theorem dX12_readsList_63 : decode cX12_readsList 63 = .ok (.invokevirtual 609, 3) := by decide +kernel
theorem dX12_readsList_66 : decode cX12_readsList 66 = .ok (.ifCond .ne 16, 3) := by decide +kernel
theorem dX12_readsList_69 : decode cX12_readsList 69 = .ok (.goto 11, 3) := by decide +kernel
theorem dX12_readsList_72 : decode cX12_readsList 72 = .ok (.aload_n 0, 1) := by decide +kernel
theorem dX12_readsList_73 : decode cX12_readsList 73 = .ok (.iload_n 2, 1) := by decide +kernel
theorem dX12_readsList_74 : decode cX12_readsList 74 = .ok (.invokevirtual 612, 3) := by decide +kernel
theorem dX12_readsList_77 : decode cX12_readsList 77 = .ok (.ifCond .ne 5, 3) := by decide +kernel
theorem dX12_readsList_80 : decode cX12_readsList 80 = .ok (.iconst 0, 1) := by decide +kernel
theorem dX12_readsList_81 : decode cX12_readsList 81 = .ok (.ireturn, 1) := by decide +kernel
theorem dX12_readsList_82 : decode cX12_readsList 82 = .ok (.iinc 1 1, 3) := by decide +kernel
theorem dX12_readsList_85 : decode cX12_readsList 85 = .ok (.goto (-63), 3) := by decide +kernel
theorem dX12_readsList_88 : decode cX12_readsList 88 = .ok (.aload_n 0, 1) := by decide +kernel
theorem dX12_readsList_89 : decode cX12_readsList 89 = .ok (.getfield 597, 3) := by decide +kernel
theorem dX12_readsList_92 : decode cX12_readsList 92 = .ok (.ifCond .ne 14, 3) := by decide +kernel
theorem dX12_readsList_95 : decode cX12_readsList 95 = .ok (.aload_n 0, 1) := by decide +kernel
theorem dX12_readsList_96 : decode cX12_readsList 96 = .ok (.bipush 8, 2) := by decide +kernel
theorem dX12_readsList_98 : decode cX12_readsList 98 = .ok (.aload_n 0, 1) := by decide +kernel
theorem dX12_readsList_99 : decode cX12_readsList 99 = .ok (.getfield 355, 3) := by decide +kernel
theorem dX12_readsList_102 : decode cX12_readsList 102 = .ok (.invokevirtual 430, 3) := by decide +kernel
theorem dX12_readsList_105 : decode cX12_readsList 105 = .ok (.ireturn, 1) := by decide +kernel
theorem dX12_readsList_106 : decode cX12_readsList 106 = .ok (.aload_n 0, 1) := by decide +kernel
theorem dX12_readsList_107 : decode cX12_readsList 107 = .ok (.invokevirtual 600, 3) := by decide +kernel
theorem dX12_readsList_110 : decode cX12_readsList 110 = .ok (.aload_n 0, 1) := by decide +kernel
theorem dX12_readsList_111 : decode cX12_readsList 111 = .ok (.getfield 569, 3) := by decide +kernel
theorem dX12_readsList_114 : decode cX12_readsList 114 = .ok (.ifCond .eq 16, 3) := by decide +kernel
theorem dX12_readsList_117 : decode cX12_readsList 117 = .ok (.aload_n 0, 1) := by decide +kernel
theorem dX12_readsList_118 : decode cX12_readsList 118 = .ok (.bipush 8, 2) := by decide +kernel
theorem dX12_readsList_120 : decode cX12_readsList 120 = .ok (.aload_n 0, 1) := by decide +kernel
theorem dX12_readsList_121 : decode cX12_readsList 121 = .ok (.getfield 355, 3) := by decide +kernel
theorem dX12_readsList_124 : decode cX12_readsList 124 = .ok (.invokevirtual 430, 3) := by decide +kernel
theorem dX12_readsList_127 : decode cX12_readsList 127 = .ok (.ifCond .eq 7, 3) := by decide +kernel
theorem dX12_readsList_130 : decode cX12_readsList 130 = .ok (.iconst 1, 1) := by decide +kernel
theorem dX12_readsList_131 : decode cX12_readsList 131 = .ok (.goto 4, 3) := by decide +kernel
theorem dX12_readsList_134 : decode cX12_readsList 134 = .ok (.iconst 0, 1) := by decide +kernel
theorem dX12_readsList_135 : decode cX12_readsList 135 = .ok (.ireturn, 1) := by decide +kernel
theorem dX12_truth_0 : decode cX12_truth 0 = .ok (.iload_n 0, 1) := by decide +kernel
theorem dX12_truth_1 : decode cX12_truth 1 = .ok (.ifCond .eq 7, 3) := by decide +kernel
theorem dX12_truth_4 : decode cX12_truth 4 = .ok (.lconst 1, 1) := by decide +kernel
theorem dX12_truth_5 : decode cX12_truth 5 = .ok (.goto 4, 3) := by decide +kernel
theorem dX12_truth_8 : decode cX12_truth 8 = .ok (.lconst 0, 1) := by decide +kernel
theorem dX12_truth_9 : decode cX12_truth 9 = .ok (.lreturn, 1) := by decide +kernel
theorem dX12_two_0 : decode cX12_two 0 = .ok (.iload_n 0, 1) := by decide +kernel
theorem dX12_two_1 : decode cX12_two 1 = .ok (.tableswitch 211 2 16 #[75, 79, 83, 87, 102, 117, 132, 147, 162, 177, 186, 195, 199, 203, 207], 75) := by decide +kernel
theorem dX12_two_76 : decode cX12_two 76 = .ok (.lload_n 1, 1) := by decide +kernel
theorem dX12_two_77 : decode cX12_two 77 = .ok (.lload_n 3, 1) := by decide +kernel
theorem dX12_two_78 : decode cX12_two 78 = .ok (.lor, 1) := by decide +kernel
theorem dX12_two_79 : decode cX12_two 79 = .ok (.lreturn, 1) := by decide +kernel
theorem dX12_two_80 : decode cX12_two 80 = .ok (.lload_n 1, 1) := by decide +kernel
theorem dX12_two_81 : decode cX12_two 81 = .ok (.lload_n 3, 1) := by decide +kernel
theorem dX12_two_82 : decode cX12_two 82 = .ok (.lxor, 1) := by decide +kernel
theorem dX12_two_83 : decode cX12_two 83 = .ok (.lreturn, 1) := by decide +kernel
theorem dX12_two_84 : decode cX12_two 84 = .ok (.lload_n 1, 1) := by decide +kernel
theorem dX12_two_85 : decode cX12_two 85 = .ok (.lload_n 3, 1) := by decide +kernel
theorem dX12_two_86 : decode cX12_two 86 = .ok (.land, 1) := by decide +kernel
theorem dX12_two_87 : decode cX12_two 87 = .ok (.lreturn, 1) := by decide +kernel
theorem dX12_two_88 : decode cX12_two 88 = .ok (.lload_n 1, 1) := by decide +kernel
theorem dX12_two_89 : decode cX12_two 89 = .ok (.lload_n 3, 1) := by decide +kernel
theorem dX12_two_90 : decode cX12_two 90 = .ok (.lcmp, 1) := by decide +kernel
theorem dX12_two_91 : decode cX12_two 91 = .ok (.ifCond .ne 7, 3) := by decide +kernel
theorem dX12_two_94 : decode cX12_two 94 = .ok (.iconst 1, 1) := by decide +kernel
theorem dX12_two_95 : decode cX12_two 95 = .ok (.goto 4, 3) := by decide +kernel
theorem dX12_two_98 : decode cX12_two 98 = .ok (.iconst 0, 1) := by decide +kernel
theorem dX12_two_99 : decode cX12_two 99 = .ok (.invokestatic 615, 3) := by decide +kernel
theorem dX12_two_102 : decode cX12_two 102 = .ok (.lreturn, 1) := by decide +kernel
theorem dX12_two_103 : decode cX12_two 103 = .ok (.lload_n 1, 1) := by decide +kernel
theorem dX12_two_104 : decode cX12_two 104 = .ok (.lload_n 3, 1) := by decide +kernel
theorem dX12_two_105 : decode cX12_two 105 = .ok (.lcmp, 1) := by decide +kernel
theorem dX12_two_106 : decode cX12_two 106 = .ok (.ifCond .eq 7, 3) := by decide +kernel
theorem dX12_two_109 : decode cX12_two 109 = .ok (.iconst 1, 1) := by decide +kernel
theorem dX12_two_110 : decode cX12_two 110 = .ok (.goto 4, 3) := by decide +kernel
theorem dX12_two_113 : decode cX12_two 113 = .ok (.iconst 0, 1) := by decide +kernel
theorem dX12_two_114 : decode cX12_two 114 = .ok (.invokestatic 615, 3) := by decide +kernel
theorem dX12_two_117 : decode cX12_two 117 = .ok (.lreturn, 1) := by decide +kernel
theorem dX12_two_118 : decode cX12_two 118 = .ok (.lload_n 1, 1) := by decide +kernel
theorem dX12_two_119 : decode cX12_two 119 = .ok (.lload_n 3, 1) := by decide +kernel
theorem dX12_two_120 : decode cX12_two 120 = .ok (.lcmp, 1) := by decide +kernel
theorem dX12_two_121 : decode cX12_two 121 = .ok (.ifCond .ge 7, 3) := by decide +kernel
theorem dX12_two_124 : decode cX12_two 124 = .ok (.iconst 1, 1) := by decide +kernel
theorem dX12_two_125 : decode cX12_two 125 = .ok (.goto 4, 3) := by decide +kernel
theorem dX12_two_128 : decode cX12_two 128 = .ok (.iconst 0, 1) := by decide +kernel
theorem dX12_two_129 : decode cX12_two 129 = .ok (.invokestatic 615, 3) := by decide +kernel
theorem dX12_two_132 : decode cX12_two 132 = .ok (.lreturn, 1) := by decide +kernel
theorem dX12_two_133 : decode cX12_two 133 = .ok (.lload_n 1, 1) := by decide +kernel
theorem dX12_two_134 : decode cX12_two 134 = .ok (.lload_n 3, 1) := by decide +kernel
theorem dX12_two_135 : decode cX12_two 135 = .ok (.lcmp, 1) := by decide +kernel
theorem dX12_two_136 : decode cX12_two 136 = .ok (.ifCond .gt 7, 3) := by decide +kernel
theorem dX12_two_139 : decode cX12_two 139 = .ok (.iconst 1, 1) := by decide +kernel
theorem dX12_two_140 : decode cX12_two 140 = .ok (.goto 4, 3) := by decide +kernel
theorem dX12_two_143 : decode cX12_two 143 = .ok (.iconst 0, 1) := by decide +kernel
theorem dX12_two_144 : decode cX12_two 144 = .ok (.invokestatic 615, 3) := by decide +kernel
theorem dX12_two_147 : decode cX12_two 147 = .ok (.lreturn, 1) := by decide +kernel
theorem dX12_two_148 : decode cX12_two 148 = .ok (.lload_n 1, 1) := by decide +kernel
theorem dX12_two_149 : decode cX12_two 149 = .ok (.lload_n 3, 1) := by decide +kernel
theorem dX12_two_150 : decode cX12_two 150 = .ok (.lcmp, 1) := by decide +kernel
theorem dX12_two_151 : decode cX12_two 151 = .ok (.ifCond .le 7, 3) := by decide +kernel
theorem dX12_two_154 : decode cX12_two 154 = .ok (.iconst 1, 1) := by decide +kernel
theorem dX12_two_155 : decode cX12_two 155 = .ok (.goto 4, 3) := by decide +kernel
theorem dX12_two_158 : decode cX12_two 158 = .ok (.iconst 0, 1) := by decide +kernel
theorem dX12_two_159 : decode cX12_two 159 = .ok (.invokestatic 615, 3) := by decide +kernel
theorem dX12_two_162 : decode cX12_two 162 = .ok (.lreturn, 1) := by decide +kernel
theorem dX12_two_163 : decode cX12_two 163 = .ok (.lload_n 1, 1) := by decide +kernel
theorem dX12_two_164 : decode cX12_two 164 = .ok (.lload_n 3, 1) := by decide +kernel
theorem dX12_two_165 : decode cX12_two 165 = .ok (.lcmp, 1) := by decide +kernel
theorem dX12_two_166 : decode cX12_two 166 = .ok (.ifCond .lt 7, 3) := by decide +kernel
theorem dX12_two_169 : decode cX12_two 169 = .ok (.iconst 1, 1) := by decide +kernel
theorem dX12_two_170 : decode cX12_two 170 = .ok (.goto 4, 3) := by decide +kernel
theorem dX12_two_173 : decode cX12_two 173 = .ok (.iconst 0, 1) := by decide +kernel
theorem dX12_two_174 : decode cX12_two 174 = .ok (.invokestatic 615, 3) := by decide +kernel
theorem dX12_two_177 : decode cX12_two 177 = .ok (.lreturn, 1) := by decide +kernel
theorem dX12_two_178 : decode cX12_two 178 = .ok (.lload_n 1, 1) := by decide +kernel
theorem dX12_two_179 : decode cX12_two 179 = .ok (.lload_n 3, 1) := by decide +kernel
theorem dX12_two_180 : decode cX12_two 180 = .ok (.ldc2_w 619, 3) := by decide +kernel
theorem dX12_two_183 : decode cX12_two 183 = .ok (.land, 1) := by decide +kernel
theorem dX12_two_184 : decode cX12_two 184 = .ok (.l2i, 1) := by decide +kernel
theorem dX12_two_185 : decode cX12_two 185 = .ok (.lshl, 1) := by decide +kernel
theorem dX12_two_186 : decode cX12_two 186 = .ok (.lreturn, 1) := by decide +kernel
theorem dX12_two_187 : decode cX12_two 187 = .ok (.lload_n 1, 1) := by decide +kernel
theorem dX12_two_188 : decode cX12_two 188 = .ok (.lload_n 3, 1) := by decide +kernel
theorem dX12_two_189 : decode cX12_two 189 = .ok (.ldc2_w 619, 3) := by decide +kernel
theorem dX12_two_192 : decode cX12_two 192 = .ok (.land, 1) := by decide +kernel
theorem dX12_two_193 : decode cX12_two 193 = .ok (.l2i, 1) := by decide +kernel
theorem dX12_two_194 : decode cX12_two 194 = .ok (.lshr, 1) := by decide +kernel
theorem dX12_two_195 : decode cX12_two 195 = .ok (.lreturn, 1) := by decide +kernel
theorem dX12_two_196 : decode cX12_two 196 = .ok (.lload_n 1, 1) := by decide +kernel
theorem dX12_two_197 : decode cX12_two 197 = .ok (.lload_n 3, 1) := by decide +kernel
theorem dX12_two_198 : decode cX12_two 198 = .ok (.ladd, 1) := by decide +kernel
theorem dX12_two_199 : decode cX12_two 199 = .ok (.lreturn, 1) := by decide +kernel
theorem dX12_two_200 : decode cX12_two 200 = .ok (.lload_n 1, 1) := by decide +kernel
theorem dX12_two_201 : decode cX12_two 201 = .ok (.lload_n 3, 1) := by decide +kernel
theorem dX12_two_202 : decode cX12_two 202 = .ok (.lsub, 1) := by decide +kernel
theorem dX12_two_203 : decode cX12_two 203 = .ok (.lreturn, 1) := by decide +kernel
theorem dX12_two_204 : decode cX12_two 204 = .ok (.lload_n 1, 1) := by decide +kernel
theorem dX12_two_205 : decode cX12_two 205 = .ok (.lload_n 3, 1) := by decide +kernel
theorem dX12_two_206 : decode cX12_two 206 = .ok (.lmul, 1) := by decide +kernel
theorem dX12_two_207 : decode cX12_two 207 = .ok (.lreturn, 1) := by decide +kernel
theorem dX12_two_208 : decode cX12_two 208 = .ok (.lload_n 1, 1) := by decide +kernel
theorem dX12_two_209 : decode cX12_two 209 = .ok (.lload_n 3, 1) := by decide +kernel
theorem dX12_two_210 : decode cX12_two 210 = .ok (.ldiv, 1) := by decide +kernel
theorem dX12_two_211 : decode cX12_two 211 = .ok (.lreturn, 1) := by decide +kernel
theorem dX12_two_212 : decode cX12_two 212 = .ok (.lload_n 1, 1) := by decide +kernel
theorem dX12_two_213 : decode cX12_two 213 = .ok (.lload_n 3, 1) := by decide +kernel
theorem dX12_two_214 : decode cX12_two 214 = .ok (.lrem, 1) := by decide +kernel
theorem dX12_two_215 : decode cX12_two 215 = .ok (.lreturn, 1) := by decide +kernel
theorem dX12_works_0 : decode cX12_works 0 = .ok (.iconst 0, 1) := by decide +kernel
theorem dX12_works_1 : decode cX12_works 1 = .ok (.istore_n 1, 1) := by decide +kernel
theorem dX12_works_2 : decode cX12_works 2 = .ok (.iconst 0, 1) := by decide +kernel
theorem dX12_works_3 : decode cX12_works 3 = .ok (.istore_n 2, 1) := by decide +kernel
theorem dX12_works_4 : decode cX12_works 4 = .ok (.iload_n 2, 1) := by decide +kernel
theorem dX12_works_5 : decode cX12_works 5 = .ok (.aload_n 0, 1) := by decide +kernel
theorem dX12_works_6 : decode cX12_works 6 = .ok (.getfield 556, 3) := by decide +kernel
theorem dX12_works_9 : decode cX12_works 9 = .ok (.if_icmp .ge 358, 3) := by decide +kernel
theorem dX12_works_12 : decode cX12_works 12 = .ok (.aload_n 0, 1) := by decide +kernel
theorem dX12_works_13 : decode cX12_works 13 = .ok (.getfield 144, 3) := by decide +kernel
theorem dX12_works_16 : decode cX12_works 16 = .ok (.iload_n 2, 1) := by decide +kernel
theorem dX12_works_17 : decode cX12_works 17 = .ok (.iaload, 1) := by decide +kernel
theorem dX12_works_18 : decode cX12_works 18 = .ok (.istore_n 3, 1) := by decide +kernel
theorem dX12_works_19 : decode cX12_works 19 = .ok (.iload_n 2, 1) := by decide +kernel
theorem dX12_works_20 : decode cX12_works 20 = .ok (.iconst 1, 1) := by decide +kernel
theorem dX12_works_21 : decode cX12_works 21 = .ok (.iadd, 1) := by decide +kernel
theorem dX12_works_22 : decode cX12_works 22 = .ok (.istore 4, 2) := by decide +kernel
theorem dX12_works_24 : decode cX12_works 24 = .ok (.iload_n 3, 1) := by decide +kernel
theorem dX12_works_25 : decode cX12_works 25 = .ok (.ifCond .ne 21, 3) := by decide +kernel
theorem dX12_works_28 : decode cX12_works 28 = .ok (.aload_n 0, 1) := by decide +kernel
theorem dX12_works_29 : decode cX12_works 29 = .ok (.getfield 166, 3) := by decide +kernel
theorem dX12_works_32 : decode cX12_works 32 = .ok (.iload_n 1, 1) := by decide +kernel
theorem dX12_works_33 : decode cX12_works 33 = .ok (.aload_n 0, 1) := by decide +kernel
theorem dX12_works_34 : decode cX12_works 34 = .ok (.getfield 162, 3) := by decide +kernel
theorem dX12_works_37 : decode cX12_works 37 = .ok (.iload_n 2, 1) := by decide +kernel
theorem dX12_works_38 : decode cX12_works 38 = .ok (.laload, 1) := by decide +kernel
theorem dX12_works_39 : decode cX12_works 39 = .ok (.lastore, 1) := by decide +kernel
theorem dX12_works_40 : decode cX12_works 40 = .ok (.iinc 1 1, 3) := by decide +kernel
theorem dX12_works_43 : decode cX12_works 43 = .ok (.goto 318, 3) := by decide +kernel
theorem dX12_works_46 : decode cX12_works 46 = .ok (.iload_n 3, 1) := by decide +kernel
theorem dX12_works_47 : decode cX12_works 47 = .ok (.bipush 32, 2) := by decide +kernel
theorem dX12_works_49 : decode cX12_works 49 = .ok (.if_icmp .ne 35, 3) := by decide +kernel
theorem dX12_works_52 : decode cX12_works 52 = .ok (.aload_n 0, 1) := by decide +kernel
theorem dX12_works_53 : decode cX12_works 53 = .ok (.getfield 166, 3) := by decide +kernel
theorem dX12_works_56 : decode cX12_works 56 = .ok (.iload_n 1, 1) := by decide +kernel
theorem dX12_works_57 : decode cX12_works 57 = .ok (.iconst 1, 1) := by decide +kernel
theorem dX12_works_58 : decode cX12_works 58 = .ok (.isub, 1) := by decide +kernel
theorem dX12_works_59 : decode cX12_works 59 = .ok (.aload_n 0, 1) := by decide +kernel
theorem dX12_works_60 : decode cX12_works 60 = .ok (.getfield 166, 3) := by decide +kernel
theorem dX12_works_63 : decode cX12_works 63 = .ok (.iload_n 1, 1) := by decide +kernel
theorem dX12_works_64 : decode cX12_works 64 = .ok (.iconst 1, 1) := by decide +kernel
theorem dX12_works_65 : decode cX12_works 65 = .ok (.isub, 1) := by decide +kernel
theorem dX12_works_66 : decode cX12_works 66 = .ok (.laload, 1) := by decide +kernel
theorem dX12_works_67 : decode cX12_works 67 = .ok (.lconst 0, 1) := by decide +kernel
theorem dX12_works_68 : decode cX12_works 68 = .ok (.lcmp, 1) := by decide +kernel
theorem dX12_works_69 : decode cX12_works 69 = .ok (.ifCond .eq 7, 3) := by decide +kernel
theorem dX12_works_72 : decode cX12_works 72 = .ok (.iconst 1, 1) := by decide +kernel
theorem dX12_works_73 : decode cX12_works 73 = .ok (.goto 4, 3) := by decide +kernel
theorem dX12_works_76 : decode cX12_works 76 = .ok (.iconst 0, 1) := by decide +kernel
theorem dX12_works_77 : decode cX12_works 77 = .ok (.invokestatic 615, 3) := by decide +kernel
theorem dX12_works_80 : decode cX12_works 80 = .ok (.lastore, 1) := by decide +kernel
theorem dX12_works_81 : decode cX12_works 81 = .ok (.goto 280, 3) := by decide +kernel
theorem dX12_works_84 : decode cX12_works 84 = .ok (.iload_n 3, 1) := by decide +kernel
theorem dX12_works_85 : decode cX12_works 85 = .ok (.bipush 30, 2) := by decide +kernel
theorem dX12_works_87 : decode cX12_works 87 = .ok (.if_icmp .eq 9, 3) := by decide +kernel
theorem dX12_works_90 : decode cX12_works 90 = .ok (.iload_n 3, 1) := by decide +kernel
theorem dX12_works_91 : decode cX12_works 91 = .ok (.bipush 31, 2) := by decide +kernel
theorem dX12_works_93 : decode cX12_works 93 = .ok (.if_icmp .ne 74, 3) := by decide +kernel
theorem dX12_works_96 : decode cX12_works 96 = .ok (.aload_n 0, 1) := by decide +kernel
theorem dX12_works_97 : decode cX12_works 97 = .ok (.getfield 166, 3) := by decide +kernel
theorem dX12_works_100 : decode cX12_works 100 = .ok (.iload_n 1, 1) := by decide +kernel
theorem dX12_works_101 : decode cX12_works 101 = .ok (.iconst 1, 1) := by decide +kernel
theorem dX12_works_102 : decode cX12_works 102 = .ok (.isub, 1) := by decide +kernel
theorem dX12_works_103 : decode cX12_works 103 = .ok (.laload, 1) := by decide +kernel
theorem dX12_works_104 : decode cX12_works 104 = .ok (.lconst 0, 1) := by decide +kernel
theorem dX12_works_105 : decode cX12_works 105 = .ok (.lcmp, 1) := by decide +kernel
theorem dX12_works_106 : decode cX12_works 106 = .ok (.ifCond .eq 7, 3) := by decide +kernel
theorem dX12_works_109 : decode cX12_works 109 = .ok (.iconst 1, 1) := by decide +kernel
theorem dX12_works_110 : decode cX12_works 110 = .ok (.goto 4, 3) := by decide +kernel
theorem dX12_works_113 : decode cX12_works 113 = .ok (.iconst 0, 1) := by decide +kernel
theorem dX12_works_114 : decode cX12_works 114 = .ok (.iload_n 3, 1) := by decide +kernel
theorem dX12_works_115 : decode cX12_works 115 = .ok (.bipush 31, 2) := by decide +kernel
theorem dX12_works_117 : decode cX12_works 117 = .ok (.if_icmp .ne 7, 3) := by decide +kernel
theorem dX12_works_120 : decode cX12_works 120 = .ok (.iconst 1, 1) := by decide +kernel
theorem dX12_works_121 : decode cX12_works 121 = .ok (.goto 4, 3) := by decide +kernel
theorem dX12_works_124 : decode cX12_works 124 = .ok (.iconst 0, 1) := by decide +kernel
theorem dX12_works_125 : decode cX12_works 125 = .ok (.if_icmp .ne 36, 3) := by decide +kernel
theorem dX12_works_128 : decode cX12_works 128 = .ok (.aload_n 0, 1) := by decide +kernel
theorem dX12_works_129 : decode cX12_works 129 = .ok (.getfield 166, 3) := by decide +kernel
theorem dX12_works_132 : decode cX12_works 132 = .ok (.iload_n 1, 1) := by decide +kernel
theorem dX12_works_133 : decode cX12_works 133 = .ok (.iconst 1, 1) := by decide +kernel
theorem dX12_works_134 : decode cX12_works 134 = .ok (.isub, 1) := by decide +kernel
theorem dX12_works_135 : decode cX12_works 135 = .ok (.iload_n 3, 1) := by decide +kernel
theorem dX12_works_136 : decode cX12_works 136 = .ok (.bipush 31, 2) := by decide +kernel
theorem dX12_works_138 : decode cX12_works 138 = .ok (.if_icmp .ne 7, 3) := by decide +kernel
theorem dX12_works_141 : decode cX12_works 141 = .ok (.iconst 1, 1) := by decide +kernel
theorem dX12_works_142 : decode cX12_works 142 = .ok (.goto 4, 3) := by decide +kernel
theorem dX12_works_145 : decode cX12_works 145 = .ok (.iconst 0, 1) := by decide +kernel
theorem dX12_works_146 : decode cX12_works 146 = .ok (.invokestatic 615, 3) := by decide +kernel
theorem dX12_works_149 : decode cX12_works 149 = .ok (.lastore, 1) := by decide +kernel
theorem dX12_works_150 : decode cX12_works 150 = .ok (.aload_n 0, 1) := by decide +kernel
theorem dX12_works_151 : decode cX12_works 151 = .ok (.getfield 147, 3) := by decide +kernel
theorem dX12_works_154 : decode cX12_works 154 = .ok (.iload_n 2, 1) := by decide +kernel
theorem dX12_works_155 : decode cX12_works 155 = .ok (.iaload, 1) := by decide +kernel
theorem dX12_works_156 : decode cX12_works 156 = .ok (.istore 4, 2) := by decide +kernel
theorem dX12_works_158 : decode cX12_works 158 = .ok (.goto 203, 3) := by decide +kernel
theorem dX12_works_161 : decode cX12_works 161 = .ok (.iinc 1 (-1), 3) := by decide +kernel
theorem dX12_works_164 : decode cX12_works 164 = .ok (.goto 197, 3) := by decide +kernel
theorem dX12_works_167 : decode cX12_works 167 = .ok (.iload_n 3, 1) := by decide +kernel
theorem dX12_works_168 : decode cX12_works 168 = .ok (.bipush 33, 2) := by decide +kernel
theorem dX12_works_170 : decode cX12_works 170 = .ok (.if_icmp .ne 28, 3) := by decide +kernel
theorem dX12_works_173 : decode cX12_works 173 = .ok (.iinc 1 (-1), 3) := by decide +kernel
theorem dX12_works_176 : decode cX12_works 176 = .ok (.aload_n 0, 1) := by decide +kernel
theorem dX12_works_177 : decode cX12_works 177 = .ok (.getfield 166, 3) := by decide +kernel
theorem dX12_works_180 : decode cX12_works 180 = .ok (.iload_n 1, 1) := by decide +kernel
theorem dX12_works_181 : decode cX12_works 181 = .ok (.laload, 1) := by decide +kernel
theorem dX12_works_182 : decode cX12_works 182 = .ok (.lconst 0, 1) := by decide +kernel
theorem dX12_works_183 : decode cX12_works 183 = .ok (.lcmp, 1) := by decide +kernel
theorem dX12_works_184 : decode cX12_works 184 = .ok (.ifCond .ne 177, 3) := by decide +kernel
theorem dX12_works_187 : decode cX12_works 187 = .ok (.aload_n 0, 1) := by decide +kernel
theorem dX12_works_188 : decode cX12_works 188 = .ok (.getfield 147, 3) := by decide +kernel
theorem dX12_works_191 : decode cX12_works 191 = .ok (.iload_n 2, 1) := by decide +kernel
theorem dX12_works_192 : decode cX12_works 192 = .ok (.iaload, 1) := by decide +kernel
theorem dX12_works_193 : decode cX12_works 193 = .ok (.istore 4, 2) := by decide +kernel
theorem dX12_works_195 : decode cX12_works 195 = .ok (.goto 166, 3) := by decide +kernel
theorem dX12_works_198 : decode cX12_works 198 = .ok (.iload_n 3, 1) := by decide +kernel
theorem dX12_works_199 : decode cX12_works 199 = .ok (.bipush 34, 2) := by decide +kernel
theorem dX12_works_201 : decode cX12_works 201 = .ok (.if_icmp .ne 14, 3) := by decide +kernel
theorem dX12_works_204 : decode cX12_works 204 = .ok (.aload_n 0, 1) := by decide +kernel
theorem dX12_works_205 : decode cX12_works 205 = .ok (.getfield 147, 3) := by decide +kernel
theorem dX12_works_208 : decode cX12_works 208 = .ok (.iload_n 2, 1) := by decide +kernel
theorem dX12_works_209 : decode cX12_works 209 = .ok (.iaload, 1) := by decide +kernel
theorem dX12_works_210 : decode cX12_works 210 = .ok (.istore 4, 2) := by decide +kernel
theorem dX12_works_212 : decode cX12_works 212 = .ok (.goto 149, 3) := by decide +kernel
theorem dX12_works_215 : decode cX12_works 215 = .ok (.iload_n 3, 1) := by decide +kernel
theorem dX12_works_216 : decode cX12_works 216 = .ok (.invokestatic 572, 3) := by decide +kernel
theorem dX12_works_219 : decode cX12_works 219 = .ok (.ifCond .eq 77, 3) := by decide +kernel
theorem dX12_works_222 : decode cX12_works 222 = .ok (.aload_n 0, 1) := by decide +kernel
theorem dX12_works_223 : decode cX12_works 223 = .ok (.getfield 166, 3) := by decide +kernel
theorem dX12_works_226 : decode cX12_works 226 = .ok (.iload_n 1, 1) := by decide +kernel
theorem dX12_works_227 : decode cX12_works 227 = .ok (.iconst 1, 1) := by decide +kernel
theorem dX12_works_228 : decode cX12_works 228 = .ok (.isub, 1) := by decide +kernel
theorem dX12_works_229 : decode cX12_works 229 = .ok (.laload, 1) := by decide +kernel
theorem dX12_works_230 : decode cX12_works 230 = .ok (.lstore 5, 2) := by decide +kernel
theorem dX12_works_232 : decode cX12_works 232 = .ok (.aload_n 0, 1) := by decide +kernel
theorem dX12_works_233 : decode cX12_works 233 = .ok (.getfield 166, 3) := by decide +kernel
theorem dX12_works_236 : decode cX12_works 236 = .ok (.iload_n 1, 1) := by decide +kernel
theorem dX12_works_237 : decode cX12_works 237 = .ok (.iconst 1, 1) := by decide +kernel
theorem dX12_works_238 : decode cX12_works 238 = .ok (.isub, 1) := by decide +kernel
theorem dX12_works_239 : decode cX12_works 239 = .ok (.iload_n 3, 1) := by decide +kernel
theorem dX12_works_240 : decode cX12_works 240 = .ok (.bipush 20, 2) := by decide +kernel
theorem dX12_works_242 : decode cX12_works 242 = .ok (.if_icmp .ne 21, 3) := by decide +kernel
theorem dX12_works_245 : decode cX12_works 245 = .ok (.lload 5, 2) := by decide +kernel
theorem dX12_works_247 : decode cX12_works 247 = .ok (.lconst 0, 1) := by decide +kernel
theorem dX12_works_248 : decode cX12_works 248 = .ok (.lcmp, 1) := by decide +kernel
theorem dX12_works_249 : decode cX12_works 249 = .ok (.ifCond .ne 7, 3) := by decide +kernel
theorem dX12_works_252 : decode cX12_works 252 = .ok (.iconst 1, 1) := by decide +kernel
theorem dX12_works_253 : decode cX12_works 253 = .ok (.goto 4, 3) := by decide +kernel
theorem dX12_works_256 : decode cX12_works 256 = .ok (.iconst 0, 1) := by decide +kernel
theorem dX12_works_257 : decode cX12_works 257 = .ok (.invokestatic 615, 3) := by decide +kernel
theorem dX12_works_260 : decode cX12_works 260 = .ok (.goto 32, 3) := by decide +kernel
theorem dX12_works_263 : decode cX12_works 263 = .ok (.iload_n 3, 1) := by decide +kernel
theorem dX12_works_264 : decode cX12_works 264 = .ok (.bipush 21, 2) := by decide +kernel
theorem dX12_works_266 : decode cX12_works 266 = .ok (.if_icmp .ne 12, 3) := by decide +kernel
theorem dX12_works_269 : decode cX12_works 269 = .ok (.lload 5, 2) := by decide +kernel
theorem dX12_works_271 : decode cX12_works 271 = .ok (.ldc2_w 621, 3) := by decide +kernel
theorem dX12_works_274 : decode cX12_works 274 = .ok (.lxor, 1) := by decide +kernel
theorem dX12_works_275 : decode cX12_works 275 = .ok (.goto 17, 3) := by decide +kernel
theorem dX12_works_278 : decode cX12_works 278 = .ok (.iload_n 3, 1) := by decide +kernel
theorem dX12_works_279 : decode cX12_works 279 = .ok (.bipush 22, 2) := by decide +kernel
theorem dX12_works_281 : decode cX12_works 281 = .ok (.if_icmp .ne 9, 3) := by decide +kernel
theorem dX12_works_284 : decode cX12_works 284 = .ok (.lload 5, 2) := by decide +kernel
theorem dX12_works_286 : decode cX12_works 286 = .ok (.lneg, 1) := by decide +kernel
theorem dX12_works_287 : decode cX12_works 287 = .ok (.goto 5, 3) := by decide +kernel
theorem dX12_works_290 : decode cX12_works 290 = .ok (.lload 5, 2) := by decide +kernel
theorem dX12_works_292 : decode cX12_works 292 = .ok (.lastore, 1) := by decide +kernel
theorem dX12_works_293 : decode cX12_works 293 = .ok (.goto 68, 3) := by decide +kernel
theorem dX12_works_296 : decode cX12_works 296 = .ok (.iinc 1 (-1), 3) := by decide +kernel
theorem dX12_works_299 : decode cX12_works 299 = .ok (.iload_n 3, 1) := by decide +kernel
theorem dX12_works_300 : decode cX12_works 300 = .ok (.bipush 16, 2) := by decide +kernel
theorem dX12_works_302 : decode cX12_works 302 = .ok (.if_icmp .eq 9, 3) := by decide +kernel
theorem dX12_works_305 : decode cX12_works 305 = .ok (.iload_n 3, 1) := by decide +kernel
theorem dX12_works_306 : decode cX12_works 306 = .ok (.bipush 17, 2) := by decide +kernel
theorem dX12_works_308 : decode cX12_works 308 = .ok (.if_icmp .ne 27, 3) := by decide +kernel
theorem dX12_works_311 : decode cX12_works 311 = .ok (.aload_n 0, 1) := by decide +kernel
theorem dX12_works_312 : decode cX12_works 312 = .ok (.getfield 166, 3) := by decide +kernel
theorem dX12_works_315 : decode cX12_works 315 = .ok (.iload_n 1, 1) := by decide +kernel
theorem dX12_works_316 : decode cX12_works 316 = .ok (.laload, 1) := by decide +kernel
theorem dX12_works_317 : decode cX12_works 317 = .ok (.lconst 0, 1) := by decide +kernel
theorem dX12_works_318 : decode cX12_works 318 = .ok (.lcmp, 1) := by decide +kernel
theorem dX12_works_319 : decode cX12_works 319 = .ok (.ifCond .ne 16, 3) := by decide +kernel
theorem dX12_works_322 : decode cX12_works 322 = .ok (.aload_n 0, 1) := by decide +kernel
theorem dX12_works_323 : decode cX12_works 323 = .ok (.bipush 9, 2) := by decide +kernel
theorem dX12_works_325 : decode cX12_works 325 = .ok (.aload_n 0, 1) := by decide +kernel
theorem dX12_works_326 : decode cX12_works 326 = .ok (.getfield 150, 3) := by decide +kernel
theorem dX12_works_329 : decode cX12_works 329 = .ok (.iload_n 2, 1) := by decide +kernel
theorem dX12_works_330 : decode cX12_works 330 = .ok (.iaload, 1) := by decide +kernel
theorem dX12_works_331 : decode cX12_works 331 = .ok (.invokevirtual 376, 3) := by decide +kernel
theorem dX12_works_334 : decode cX12_works 334 = .ok (.ireturn, 1) := by decide +kernel
theorem dX12_works_335 : decode cX12_works 335 = .ok (.aload_n 0, 1) := by decide +kernel
theorem dX12_works_336 : decode cX12_works 336 = .ok (.getfield 166, 3) := by decide +kernel
theorem dX12_works_339 : decode cX12_works 339 = .ok (.iload_n 1, 1) := by decide +kernel
theorem dX12_works_340 : decode cX12_works 340 = .ok (.iconst 1, 1) := by decide +kernel
theorem dX12_works_341 : decode cX12_works 341 = .ok (.isub, 1) := by decide +kernel
theorem dX12_works_342 : decode cX12_works 342 = .ok (.iload_n 3, 1) := by decide +kernel
theorem dX12_works_343 : decode cX12_works 343 = .ok (.aload_n 0, 1) := by decide +kernel
theorem dX12_works_344 : decode cX12_works 344 = .ok (.getfield 166, 3) := by decide +kernel
theorem dX12_works_347 : decode cX12_works 347 = .ok (.iload_n 1, 1) := by decide +kernel
theorem dX12_works_348 : decode cX12_works 348 = .ok (.iconst 1, 1) := by decide +kernel
theorem dX12_works_349 : decode cX12_works 349 = .ok (.isub, 1) := by decide +kernel
theorem dX12_works_350 : decode cX12_works 350 = .ok (.laload, 1) := by decide +kernel
theorem dX12_works_351 : decode cX12_works 351 = .ok (.aload_n 0, 1) := by decide +kernel
theorem dX12_works_352 : decode cX12_works 352 = .ok (.getfield 166, 3) := by decide +kernel
theorem dX12_works_355 : decode cX12_works 355 = .ok (.iload_n 1, 1) := by decide +kernel
theorem dX12_works_356 : decode cX12_works 356 = .ok (.laload, 1) := by decide +kernel
theorem dX12_works_357 : decode cX12_works 357 = .ok (.invokestatic 623, 3) := by decide +kernel
theorem dX12_works_360 : decode cX12_works 360 = .ok (.lastore, 1) := by decide +kernel
theorem dX12_works_361 : decode cX12_works 361 = .ok (.iload 4, 2) := by decide +kernel
theorem dX12_works_363 : decode cX12_works 363 = .ok (.istore_n 2, 1) := by decide +kernel
theorem dX12_works_364 : decode cX12_works 364 = .ok (.goto (-360), 3) := by decide +kernel
theorem dX12_works_367 : decode cX12_works 367 = .ok (.aload_n 0, 1) := by decide +kernel
theorem dX12_works_368 : decode cX12_works 368 = .ok (.aload_n 0, 1) := by decide +kernel
theorem dX12_works_369 : decode cX12_works 369 = .ok (.getfield 166, 3) := by decide +kernel
theorem dX12_works_372 : decode cX12_works 372 = .ok (.iconst 0, 1) := by decide +kernel
theorem dX12_works_373 : decode cX12_works 373 = .ok (.laload, 1) := by decide +kernel
theorem dX12_works_374 : decode cX12_works 374 = .ok (.putfield 627, 3) := by decide +kernel
theorem dX12_works_377 : decode cX12_works 377 = .ok (.iconst 1, 1) := by decide +kernel
theorem dX12_works_378 : decode cX12_works 378 = .ok (.ireturn, 1) := by decide +kernel
theorem dX12_conditions_0 : decode cX12_conditions 0 = .ok (.aload_n 0, 1) := by decide +kernel
theorem dX12_conditions_1 : decode cX12_conditions 1 = .ok (.iconst 0, 1) := by decide +kernel
theorem dX12_conditions_2 : decode cX12_conditions 2 = .ok (.putfield 500, 3) := by decide +kernel
theorem dX12_conditions_5 : decode cX12_conditions 5 = .ok (.iload_n 1, 1) := by decide +kernel
theorem dX12_conditions_6 : decode cX12_conditions 6 = .ok (.istore_n 2, 1) := by decide +kernel
theorem dX12_conditions_7 : decode cX12_conditions 7 = .ok (.iload_n 2, 1) := by decide +kernel
theorem dX12_conditions_8 : decode cX12_conditions 8 = .ok (.aload_n 0, 1) := by decide +kernel
theorem dX12_conditions_9 : decode cX12_conditions 9 = .ok (.getfield 355, 3) := by decide +kernel
theorem dX12_conditions_12 : decode cX12_conditions 12 = .ok (.if_icmp .ge 277, 3) := by decide +kernel
theorem dX12_conditions_15 : decode cX12_conditions 15 = .ok (.aload_n 0, 1) := by decide +kernel
theorem dX12_conditions_16 : decode cX12_conditions 16 = .ok (.iload_n 2, 1) := by decide +kernel
theorem dX12_conditions_17 : decode cX12_conditions 17 = .ok (.invokevirtual 433, 3) := by decide +kernel
theorem dX12_conditions_20 : decode cX12_conditions 20 = .ok (.ifCond .ne 29, 3) := by decide +kernel
theorem dX12_conditions_23 : decode cX12_conditions 23 = .ok (.aload_n 0, 1) := by decide +kernel
theorem dX12_conditions_24 : decode cX12_conditions 24 = .ok (.getfield 135, 3) := by decide +kernel
theorem dX12_conditions_27 : decode cX12_conditions 27 = .ok (.aload_n 0, 1) := by decide +kernel
theorem dX12_conditions_28 : decode cX12_conditions 28 = .ok (.getfield 500, 3) := by decide +kernel
theorem dX12_conditions_31 : decode cX12_conditions 31 = .ok (.iload_n 2, 1) := by decide +kernel
theorem dX12_conditions_32 : decode cX12_conditions 32 = .ok (.iastore, 1) := by decide +kernel
theorem dX12_conditions_33 : decode cX12_conditions 33 = .ok (.aload_n 0, 1) := by decide +kernel
theorem dX12_conditions_34 : decode cX12_conditions 34 = .ok (.dup, 1) := by decide +kernel
theorem dX12_conditions_35 : decode cX12_conditions 35 = .ok (.getfield 500, 3) := by decide +kernel
theorem dX12_conditions_38 : decode cX12_conditions 38 = .ok (.iconst 1, 1) := by decide +kernel
theorem dX12_conditions_39 : decode cX12_conditions 39 = .ok (.iadd, 1) := by decide +kernel
theorem dX12_conditions_40 : decode cX12_conditions 40 = .ok (.putfield 500, 3) := by decide +kernel
theorem dX12_conditions_43 : decode cX12_conditions 43 = .ok (.iinc 2 1, 3) := by decide +kernel
theorem dX12_conditions_46 : decode cX12_conditions 46 = .ok (.goto (-39), 3) := by decide +kernel
theorem dX12_conditions_49 : decode cX12_conditions 49 = .ok (.iload_n 2, 1) := by decide +kernel
theorem dX12_conditions_50 : decode cX12_conditions 50 = .ok (.iconst 1, 1) := by decide +kernel
theorem dX12_conditions_51 : decode cX12_conditions 51 = .ok (.iadd, 1) := by decide +kernel
theorem dX12_conditions_52 : decode cX12_conditions 52 = .ok (.aload_n 0, 1) := by decide +kernel
theorem dX12_conditions_53 : decode cX12_conditions 53 = .ok (.getfield 355, 3) := by decide +kernel
theorem dX12_conditions_56 : decode cX12_conditions 56 = .ok (.if_icmp .ge 19, 3) := by decide +kernel
theorem dX12_conditions_59 : decode cX12_conditions 59 = .ok (.aload_n 0, 1) := by decide +kernel
theorem dX12_conditions_60 : decode cX12_conditions 60 = .ok (.iload_n 2, 1) := by decide +kernel
theorem dX12_conditions_61 : decode cX12_conditions 61 = .ok (.iconst 1, 1) := by decide +kernel
theorem dX12_conditions_62 : decode cX12_conditions 62 = .ok (.iadd, 1) := by decide +kernel
theorem dX12_conditions_63 : decode cX12_conditions 63 = .ok (.bipush 40, 2) := by decide +kernel
theorem dX12_conditions_65 : decode cX12_conditions 65 = .ok (.invokevirtual 406, 3) := by decide +kernel
theorem dX12_conditions_68 : decode cX12_conditions 68 = .ok (.ifCond .eq 7, 3) := by decide +kernel
theorem dX12_conditions_71 : decode cX12_conditions 71 = .ok (.iconst 1, 1) := by decide +kernel
theorem dX12_conditions_72 : decode cX12_conditions 72 = .ok (.goto 4, 3) := by decide +kernel
theorem dX12_conditions_75 : decode cX12_conditions 75 = .ok (.iconst 0, 1) := by decide +kernel
theorem dX12_conditions_76 : decode cX12_conditions 76 = .ok (.istore_n 3, 1) := by decide +kernel
theorem dX12_conditions_77 : decode cX12_conditions 77 = .ok (.iload_n 3, 1) := by decide +kernel
theorem dX12_conditions_78 : decode cX12_conditions 78 = .ok (.ifCond .eq 9, 3) := by decide +kernel
theorem dX12_conditions_81 : decode cX12_conditions 81 = .ok (.iload_n 2, 1) := by decide +kernel
theorem dX12_conditions_82 : decode cX12_conditions 82 = .ok (.iconst 2, 1) := by decide +kernel
theorem dX12_conditions_83 : decode cX12_conditions 83 = .ok (.iadd, 1) := by decide +kernel
theorem dX12_conditions_84 : decode cX12_conditions 84 = .ok (.goto 6, 3) := by decide +kernel
theorem dX12_conditions_87 : decode cX12_conditions 87 = .ok (.iload_n 2, 1) := by decide +kernel
theorem dX12_conditions_88 : decode cX12_conditions 88 = .ok (.iconst 1, 1) := by decide +kernel
theorem dX12_conditions_89 : decode cX12_conditions 89 = .ok (.iadd, 1) := by decide +kernel
theorem dX12_conditions_90 : decode cX12_conditions 90 = .ok (.istore 4, 2) := by decide +kernel
theorem dX12_conditions_92 : decode cX12_conditions 92 = .ok (.iload 4, 2) := by decide +kernel
theorem dX12_conditions_94 : decode cX12_conditions 94 = .ok (.aload_n 0, 1) := by decide +kernel
theorem dX12_conditions_95 : decode cX12_conditions 95 = .ok (.getfield 355, 3) := by decide +kernel
theorem dX12_conditions_98 : decode cX12_conditions 98 = .ok (.if_icmp .ge 13, 3) := by decide +kernel
theorem dX12_conditions_101 : decode cX12_conditions 101 = .ok (.aload_n 0, 1) := by decide +kernel
theorem dX12_conditions_102 : decode cX12_conditions 102 = .ok (.getfield 40, 3) := by decide +kernel
theorem dX12_conditions_105 : decode cX12_conditions 105 = .ok (.iload 4, 2) := by decide +kernel
theorem dX12_conditions_107 : decode cX12_conditions 107 = .ok (.iaload, 1) := by decide +kernel
theorem dX12_conditions_108 : decode cX12_conditions 108 = .ok (.ifCond .eq 12, 3) := by decide +kernel
theorem dX12_conditions_111 : decode cX12_conditions 111 = .ok (.aload_n 0, 1) := by decide +kernel
theorem dX12_conditions_112 : decode cX12_conditions 112 = .ok (.bipush 8, 2) := by decide +kernel
theorem dX12_conditions_114 : decode cX12_conditions 114 = .ok (.iload 4, 2) := by decide +kernel
theorem dX12_conditions_116 : decode cX12_conditions 116 = .ok (.invokevirtual 430, 3) := by decide +kernel
theorem dX12_conditions_119 : decode cX12_conditions 119 = .ok (.ireturn, 1) := by decide +kernel
theorem dX12_conditions_120 : decode cX12_conditions 120 = .ok (.iload_n 3, 1) := by decide +kernel
theorem dX12_conditions_121 : decode cX12_conditions 121 = .ok (.ifCond .eq 38, 3) := by decide +kernel
theorem dX12_conditions_124 : decode cX12_conditions 124 = .ok (.iload 4, 2) := by decide +kernel
theorem dX12_conditions_126 : decode cX12_conditions 126 = .ok (.iconst 1, 1) := by decide +kernel
theorem dX12_conditions_127 : decode cX12_conditions 127 = .ok (.iadd, 1) := by decide +kernel
theorem dX12_conditions_128 : decode cX12_conditions 128 = .ok (.aload_n 0, 1) := by decide +kernel
theorem dX12_conditions_129 : decode cX12_conditions 129 = .ok (.getfield 355, 3) := by decide +kernel
theorem dX12_conditions_132 : decode cX12_conditions 132 = .ok (.if_icmp .ge 16, 3) := by decide +kernel
theorem dX12_conditions_135 : decode cX12_conditions 135 = .ok (.aload_n 0, 1) := by decide +kernel
theorem dX12_conditions_136 : decode cX12_conditions 136 = .ok (.iload 4, 2) := by decide +kernel
theorem dX12_conditions_138 : decode cX12_conditions 138 = .ok (.iconst 1, 1) := by decide +kernel
theorem dX12_conditions_139 : decode cX12_conditions 139 = .ok (.iadd, 1) := by decide +kernel
theorem dX12_conditions_140 : decode cX12_conditions 140 = .ok (.bipush 41, 2) := by decide +kernel
theorem dX12_conditions_142 : decode cX12_conditions 142 = .ok (.invokevirtual 406, 3) := by decide +kernel
theorem dX12_conditions_145 : decode cX12_conditions 145 = .ok (.ifCond .ne 14, 3) := by decide +kernel
theorem dX12_conditions_148 : decode cX12_conditions 148 = .ok (.aload_n 0, 1) := by decide +kernel
theorem dX12_conditions_149 : decode cX12_conditions 149 = .ok (.bipush 8, 2) := by decide +kernel
theorem dX12_conditions_151 : decode cX12_conditions 151 = .ok (.iload 4, 2) := by decide +kernel
theorem dX12_conditions_153 : decode cX12_conditions 153 = .ok (.iconst 1, 1) := by decide +kernel
theorem dX12_conditions_154 : decode cX12_conditions 154 = .ok (.iadd, 1) := by decide +kernel
theorem dX12_conditions_155 : decode cX12_conditions 155 = .ok (.invokevirtual 430, 3) := by decide +kernel
theorem dX12_conditions_158 : decode cX12_conditions 158 = .ok (.ireturn, 1) := by decide +kernel
theorem dX12_conditions_159 : decode cX12_conditions 159 = .ok (.aload_n 0, 1) := by decide +kernel
theorem dX12_conditions_160 : decode cX12_conditions 160 = .ok (.iload_n 2, 1) := by decide +kernel
theorem dX12_conditions_161 : decode cX12_conditions 161 = .ok (.aload_n 0, 1) := by decide +kernel
theorem dX12_conditions_162 : decode cX12_conditions 162 = .ok (.getfield 394, 3) := by decide +kernel
theorem dX12_conditions_165 : decode cX12_conditions 165 = .ok (.invokevirtual 461, 3) := by decide +kernel
theorem dX12_conditions_168 : decode cX12_conditions 168 = .ok (.aload_n 0, 1) := by decide +kernel
theorem dX12_conditions_169 : decode cX12_conditions 169 = .ok (.getfield 40, 3) := by decide +kernel
theorem dX12_conditions_172 : decode cX12_conditions 172 = .ok (.aload_n 0, 1) := by decide +kernel
theorem dX12_conditions_173 : decode cX12_conditions 173 = .ok (.getfield 394, 3) := by decide +kernel
theorem dX12_conditions_176 : decode cX12_conditions 176 = .ok (.iconst 1, 1) := by decide +kernel
theorem dX12_conditions_177 : decode cX12_conditions 177 = .ok (.iastore, 1) := by decide +kernel
theorem dX12_conditions_178 : decode cX12_conditions 178 = .ok (.aload_n 0, 1) := by decide +kernel
theorem dX12_conditions_179 : decode cX12_conditions 179 = .ok (.getfield 46, 3) := by decide +kernel
theorem dX12_conditions_182 : decode cX12_conditions 182 = .ok (.aload_n 0, 1) := by decide +kernel
theorem dX12_conditions_183 : decode cX12_conditions 183 = .ok (.getfield 394, 3) := by decide +kernel
theorem dX12_conditions_186 : decode cX12_conditions 186 = .ok (.iconst 1, 1) := by decide +kernel
theorem dX12_conditions_187 : decode cX12_conditions 187 = .ok (.iastore, 1) := by decide +kernel
theorem dX12_conditions_188 : decode cX12_conditions 188 = .ok (.aload_n 0, 1) := by decide +kernel
theorem dX12_conditions_189 : decode cX12_conditions 189 = .ok (.getfield 43, 3) := by decide +kernel
theorem dX12_conditions_192 : decode cX12_conditions 192 = .ok (.aload_n 0, 1) := by decide +kernel
theorem dX12_conditions_193 : decode cX12_conditions 193 = .ok (.getfield 394, 3) := by decide +kernel
theorem dX12_conditions_196 : decode cX12_conditions 196 = .ok (.aload_n 0, 1) := by decide +kernel
theorem dX12_conditions_197 : decode cX12_conditions 197 = .ok (.getfield 391, 3) := by decide +kernel
theorem dX12_conditions_200 : decode cX12_conditions 200 = .ok (.iastore, 1) := by decide +kernel
theorem dX12_conditions_201 : decode cX12_conditions 201 = .ok (.aload_n 0, 1) := by decide +kernel
theorem dX12_conditions_202 : decode cX12_conditions 202 = .ok (.getfield 65, 3) := by decide +kernel
theorem dX12_conditions_205 : decode cX12_conditions 205 = .ok (.aload_n 0, 1) := by decide +kernel
theorem dX12_conditions_206 : decode cX12_conditions 206 = .ok (.getfield 391, 3) := by decide +kernel
theorem dX12_conditions_209 : decode cX12_conditions 209 = .ok (.aload_n 0, 1) := by decide +kernel
theorem dX12_conditions_210 : decode cX12_conditions 210 = .ok (.iload 4, 2) := by decide +kernel
theorem dX12_conditions_212 : decode cX12_conditions 212 = .ok (.invokevirtual 436, 3) := by decide +kernel
theorem dX12_conditions_215 : decode cX12_conditions 215 = .ok (.ifCond .lt 8, 3) := by decide +kernel
theorem dX12_conditions_218 : decode cX12_conditions 218 = .ok (.bipush 49, 2) := by decide +kernel
theorem dX12_conditions_220 : decode cX12_conditions 220 = .ok (.goto 5, 3) := by decide +kernel
theorem dX12_conditions_223 : decode cX12_conditions 223 = .ok (.bipush 48, 2) := by decide +kernel
theorem dX12_conditions_225 : decode cX12_conditions 225 = .ok (.i2b, 1) := by decide +kernel
theorem dX12_conditions_226 : decode cX12_conditions 226 = .ok (.bastore, 1) := by decide +kernel
theorem dX12_conditions_227 : decode cX12_conditions 227 = .ok (.aload_n 0, 1) := by decide +kernel
theorem dX12_conditions_228 : decode cX12_conditions 228 = .ok (.dup, 1) := by decide +kernel
theorem dX12_conditions_229 : decode cX12_conditions 229 = .ok (.getfield 391, 3) := by decide +kernel
theorem dX12_conditions_232 : decode cX12_conditions 232 = .ok (.iconst 1, 1) := by decide +kernel
theorem dX12_conditions_233 : decode cX12_conditions 233 = .ok (.iadd, 1) := by decide +kernel
theorem dX12_conditions_234 : decode cX12_conditions 234 = .ok (.putfield 391, 3) := by decide +kernel
theorem dX12_conditions_237 : decode cX12_conditions 237 = .ok (.aload_n 0, 1) := by decide +kernel
theorem dX12_conditions_238 : decode cX12_conditions 238 = .ok (.getfield 135, 3) := by decide +kernel
theorem dX12_conditions_241 : decode cX12_conditions 241 = .ok (.aload_n 0, 1) := by decide +kernel
theorem dX12_conditions_242 : decode cX12_conditions 242 = .ok (.getfield 500, 3) := by decide +kernel
theorem dX12_conditions_245 : decode cX12_conditions 245 = .ok (.aload_n 0, 1) := by decide +kernel
theorem dX12_conditions_246 : decode cX12_conditions 246 = .ok (.getfield 394, 3) := by decide +kernel
theorem dX12_conditions_249 : decode cX12_conditions 249 = .ok (.iastore, 1) := by decide +kernel
theorem dX12_conditions_250 : decode cX12_conditions 250 = .ok (.aload_n 0, 1) := by decide +kernel
theorem dX12_conditions_251 : decode cX12_conditions 251 = .ok (.dup, 1) := by decide +kernel
theorem dX12_conditions_252 : decode cX12_conditions 252 = .ok (.getfield 500, 3) := by decide +kernel
theorem dX12_conditions_255 : decode cX12_conditions 255 = .ok (.iconst 1, 1) := by decide +kernel
theorem dX12_conditions_256 : decode cX12_conditions 256 = .ok (.iadd, 1) := by decide +kernel
theorem dX12_conditions_257 : decode cX12_conditions 257 = .ok (.putfield 500, 3) := by decide +kernel
theorem dX12_conditions_260 : decode cX12_conditions 260 = .ok (.aload_n 0, 1) := by decide +kernel
theorem dX12_conditions_261 : decode cX12_conditions 261 = .ok (.dup, 1) := by decide +kernel
theorem dX12_conditions_262 : decode cX12_conditions 262 = .ok (.getfield 394, 3) := by decide +kernel
theorem dX12_conditions_265 : decode cX12_conditions 265 = .ok (.iconst 1, 1) := by decide +kernel
theorem dX12_conditions_266 : decode cX12_conditions 266 = .ok (.iadd, 1) := by decide +kernel
theorem dX12_conditions_267 : decode cX12_conditions 267 = .ok (.putfield 394, 3) := by decide +kernel
theorem dX12_conditions_270 : decode cX12_conditions 270 = .ok (.iload_n 3, 1) := by decide +kernel
theorem dX12_conditions_271 : decode cX12_conditions 271 = .ok (.ifCond .eq 10, 3) := by decide +kernel
theorem dX12_conditions_274 : decode cX12_conditions 274 = .ok (.iload 4, 2) := by decide +kernel
theorem dX12_conditions_276 : decode cX12_conditions 276 = .ok (.iconst 2, 1) := by decide +kernel
theorem dX12_conditions_277 : decode cX12_conditions 277 = .ok (.iadd, 1) := by decide +kernel
theorem dX12_conditions_278 : decode cX12_conditions 278 = .ok (.goto 7, 3) := by decide +kernel
theorem dX12_conditions_281 : decode cX12_conditions 281 = .ok (.iload 4, 2) := by decide +kernel
theorem dX12_conditions_283 : decode cX12_conditions 283 = .ok (.iconst 1, 1) := by decide +kernel
theorem dX12_conditions_284 : decode cX12_conditions 284 = .ok (.iadd, 1) := by decide +kernel
theorem dX12_conditions_285 : decode cX12_conditions 285 = .ok (.istore_n 2, 1) := by decide +kernel
theorem dX12_conditions_286 : decode cX12_conditions 286 = .ok (.goto (-279), 3) := by decide +kernel
theorem dX12_conditions_289 : decode cX12_conditions 289 = .ok (.aload_n 0, 1) := by decide +kernel
theorem dX12_conditions_290 : decode cX12_conditions 290 = .ok (.iconst 0, 1) := by decide +kernel
theorem dX12_conditions_291 : decode cX12_conditions 291 = .ok (.putfield 448, 3) := by decide +kernel
theorem dX12_conditions_294 : decode cX12_conditions 294 = .ok (.aload_n 0, 1) := by decide +kernel
theorem dX12_conditions_295 : decode cX12_conditions 295 = .ok (.iconst 0, 1) := by decide +kernel
theorem dX12_conditions_296 : decode cX12_conditions 296 = .ok (.putfield 445, 3) := by decide +kernel
theorem dX12_conditions_299 : decode cX12_conditions 299 = .ok (.aload_n 0, 1) := by decide +kernel
theorem dX12_conditions_300 : decode cX12_conditions 300 = .ok (.iconst 0, 1) := by decide +kernel
theorem dX12_conditions_301 : decode cX12_conditions 301 = .ok (.putfield 458, 3) := by decide +kernel
theorem dX12_conditions_304 : decode cX12_conditions 304 = .ok (.aload_n 0, 1) := by decide +kernel
theorem dX12_conditions_305 : decode cX12_conditions 305 = .ok (.iconst 0, 1) := by decide +kernel
theorem dX12_conditions_306 : decode cX12_conditions 306 = .ok (.aload_n 0, 1) := by decide +kernel
theorem dX12_conditions_307 : decode cX12_conditions 307 = .ok (.getfield 500, 3) := by decide +kernel
theorem dX12_conditions_310 : decode cX12_conditions 310 = .ok (.iconst 1, 1) := by decide +kernel
theorem dX12_conditions_311 : decode cX12_conditions 311 = .ok (.invokevirtual 550, 3) := by decide +kernel
theorem dX12_conditions_314 : decode cX12_conditions 314 = .ok (.aload_n 0, 1) := by decide +kernel
theorem dX12_conditions_315 : decode cX12_conditions 315 = .ok (.invokevirtual 553, 3) := by decide +kernel
theorem dX12_conditions_318 : decode cX12_conditions 318 = .ok (.ifCond .eq 21, 3) := by decide +kernel
theorem dX12_conditions_321 : decode cX12_conditions 321 = .ok (.aload_n 0, 1) := by decide +kernel
theorem dX12_conditions_322 : decode cX12_conditions 322 = .ok (.invokevirtual 630, 3) := by decide +kernel
theorem dX12_conditions_325 : decode cX12_conditions 325 = .ok (.ifCond .eq 14, 3) := by decide +kernel
theorem dX12_conditions_328 : decode cX12_conditions 328 = .ok (.aload_n 0, 1) := by decide +kernel
theorem dX12_conditions_329 : decode cX12_conditions 329 = .ok (.invokevirtual 633, 3) := by decide +kernel
theorem dX12_conditions_332 : decode cX12_conditions 332 = .ok (.ifCond .eq 7, 3) := by decide +kernel
theorem dX12_conditions_335 : decode cX12_conditions 335 = .ok (.iconst 1, 1) := by decide +kernel
theorem dX12_conditions_336 : decode cX12_conditions 336 = .ok (.goto 4, 3) := by decide +kernel
theorem dX12_conditions_339 : decode cX12_conditions 339 = .ok (.iconst 0, 1) := by decide +kernel
theorem dX12_conditions_340 : decode cX12_conditions 340 = .ok (.ireturn, 1) := by decide +kernel
theorem dX12_clears_0 : decode cX12_clears 0 = .ok (.iconst 0, 1) := by decide +kernel
theorem dX12_clears_1 : decode cX12_clears 1 = .ok (.istore_n 1, 1) := by decide +kernel
theorem dX12_clears_2 : decode cX12_clears 2 = .ok (.iload_n 1, 1) := by decide +kernel
theorem dX12_clears_3 : decode cX12_clears 3 = .ok (.sipush 1219, 3) := by decide +kernel
theorem dX12_clears_6 : decode cX12_clears 6 = .ok (.if_icmp .ge 16, 3) := by decide +kernel
theorem dX12_clears_9 : decode cX12_clears 9 = .ok (.aload_n 0, 1) := by decide +kernel
theorem dX12_clears_10 : decode cX12_clears 10 = .ok (.getfield 68, 3) := by decide +kernel
theorem dX12_clears_13 : decode cX12_clears 13 = .ok (.iload_n 1, 1) := by decide +kernel
theorem dX12_clears_14 : decode cX12_clears 14 = .ok (.iconst 0, 1) := by decide +kernel
theorem dX12_clears_15 : decode cX12_clears 15 = .ok (.iastore, 1) := by decide +kernel
theorem dX12_clears_16 : decode cX12_clears 16 = .ok (.iinc 1 1, 3) := by decide +kernel
theorem dX12_clears_19 : decode cX12_clears 19 = .ok (.goto (-17), 3) := by decide +kernel
theorem dX12_clears_22 : decode cX12_clears 22 = .ok (.aload_n 0, 1) := by decide +kernel
theorem dX12_clears_23 : decode cX12_clears 23 = .ok (.iconst 0, 1) := by decide +kernel
theorem dX12_clears_24 : decode cX12_clears 24 = .ok (.iconst (-1), 1) := by decide +kernel
theorem dX12_clears_25 : decode cX12_clears 25 = .ok (.iconst (-1), 1) := by decide +kernel
theorem dX12_clears_26 : decode cX12_clears 26 = .ok (.iconst (-1), 1) := by decide +kernel
theorem dX12_clears_27 : decode cX12_clears 27 = .ok (.invokevirtual 373, 3) := by decide +kernel
theorem dX12_clears_30 : decode cX12_clears 30 = .ok (.pop, 1) := by decide +kernel
theorem dX12_clears_31 : decode cX12_clears 31 = .ok (.aload_n 0, 1) := by decide +kernel
theorem dX12_clears_32 : decode cX12_clears 32 = .ok (.iconst 0, 1) := by decide +kernel
theorem dX12_clears_33 : decode cX12_clears 33 = .ok (.putfield 636, 3) := by decide +kernel
theorem dX12_clears_36 : decode cX12_clears 36 = .ok (.aload_n 0, 1) := by decide +kernel
theorem dX12_clears_37 : decode cX12_clears 37 = .ok (.iconst 0, 1) := by decide +kernel
theorem dX12_clears_38 : decode cX12_clears 38 = .ok (.putfield 639, 3) := by decide +kernel
theorem dX12_clears_41 : decode cX12_clears 41 = .ok (.aload_n 0, 1) := by decide +kernel
theorem dX12_clears_42 : decode cX12_clears 42 = .ok (.iconst 0, 1) := by decide +kernel
theorem dX12_clears_43 : decode cX12_clears 43 = .ok (.putfield 509, 3) := by decide +kernel
theorem dX12_clears_46 : decode cX12_clears 46 = .ok (.return_, 1) := by decide +kernel
theorem dX12_laysSwitches_0 : decode cX12_laysSwitches 0 = .ok (.aload_n 0, 1) := by decide +kernel
theorem dX12_laysSwitches_1 : decode cX12_laysSwitches 1 = .ok (.getfield 68, 3) := by decide +kernel
theorem dX12_laysSwitches_4 : decode cX12_laysSwitches 4 = .ok (.iconst 0, 1) := by decide +kernel
theorem dX12_laysSwitches_5 : decode cX12_laysSwitches 5 = .ok (.aload_n 0, 1) := by decide +kernel
theorem dX12_laysSwitches_6 : decode cX12_laysSwitches 6 = .ok (.getfield 17, 3) := by decide +kernel
theorem dX12_laysSwitches_9 : decode cX12_laysSwitches 9 = .ok (.sipush 168, 3) := by decide +kernel
theorem dX12_laysSwitches_12 : decode cX12_laysSwitches 12 = .ok (.iaload, 1) := by decide +kernel
theorem dX12_laysSwitches_13 : decode cX12_laysSwitches 13 = .ok (.iastore, 1) := by decide +kernel
theorem dX12_laysSwitches_14 : decode cX12_laysSwitches 14 = .ok (.iconst 0, 1) := by decide +kernel
theorem dX12_laysSwitches_15 : decode cX12_laysSwitches 15 = .ok (.istore_n 2, 1) := by decide +kernel
theorem dX12_laysSwitches_16 : decode cX12_laysSwitches 16 = .ok (.iload_n 2, 1) := by decide +kernel
theorem dX12_laysSwitches_17 : decode cX12_laysSwitches 17 = .ok (.aload_n 0, 1) := by decide +kernel
theorem dX12_laysSwitches_18 : decode cX12_laysSwitches 18 = .ok (.getfield 68, 3) := by decide +kernel
theorem dX12_laysSwitches_21 : decode cX12_laysSwitches 21 = .ok (.iconst 0, 1) := by decide +kernel
theorem dX12_laysSwitches_22 : decode cX12_laysSwitches 22 = .ok (.iaload, 1) := by decide +kernel
theorem dX12_laysSwitches_23 : decode cX12_laysSwitches 23 = .ok (.if_icmp .ge 208, 3) := by decide +kernel
theorem dX12_laysSwitches_26 : decode cX12_laysSwitches 26 = .ok (.aload_n 0, 1) := by decide +kernel
theorem dX12_laysSwitches_27 : decode cX12_laysSwitches 27 = .ok (.getfield 68, 3) := by decide +kernel
theorem dX12_laysSwitches_30 : decode cX12_laysSwitches 30 = .ok (.sipush 175, 3) := by decide +kernel
theorem dX12_laysSwitches_33 : decode cX12_laysSwitches 33 = .ok (.iload_n 2, 1) := by decide +kernel
theorem dX12_laysSwitches_34 : decode cX12_laysSwitches 34 = .ok (.iadd, 1) := by decide +kernel
theorem dX12_laysSwitches_35 : decode cX12_laysSwitches 35 = .ok (.aload_n 0, 1) := by decide +kernel
theorem dX12_laysSwitches_36 : decode cX12_laysSwitches 36 = .ok (.getfield 17, 3) := by decide +kernel
theorem dX12_laysSwitches_39 : decode cX12_laysSwitches 39 = .ok (.sipush 169, 3) := by decide +kernel
theorem dX12_laysSwitches_42 : decode cX12_laysSwitches 42 = .ok (.iload_n 2, 1) := by decide +kernel
theorem dX12_laysSwitches_43 : decode cX12_laysSwitches 43 = .ok (.iadd, 1) := by decide +kernel
theorem dX12_laysSwitches_44 : decode cX12_laysSwitches 44 = .ok (.iaload, 1) := by decide +kernel
theorem dX12_laysSwitches_45 : decode cX12_laysSwitches 45 = .ok (.iastore, 1) := by decide +kernel
theorem dX12_laysSwitches_46 : decode cX12_laysSwitches 46 = .ok (.iconst 0, 1) := by decide +kernel
theorem dX12_laysSwitches_47 : decode cX12_laysSwitches 47 = .ok (.istore_n 3, 1) := by decide +kernel
theorem dX12_laysSwitches_48 : decode cX12_laysSwitches 48 = .ok (.iload_n 3, 1) := by decide +kernel
theorem dX12_laysSwitches_49 : decode cX12_laysSwitches 49 = .ok (.bipush 30, 2) := by decide +kernel
theorem dX12_laysSwitches_51 : decode cX12_laysSwitches 51 = .ok (.if_icmp .ge 35, 3) := by decide +kernel
theorem dX12_laysSwitches_54 : decode cX12_laysSwitches 54 = .ok (.aload_n 0, 1) := by decide +kernel
theorem dX12_laysSwitches_55 : decode cX12_laysSwitches 55 = .ok (.getfield 74, 3) := by decide +kernel
theorem dX12_laysSwitches_58 : decode cX12_laysSwitches 58 = .ok (.bipush 30, 2) := by decide +kernel
theorem dX12_laysSwitches_60 : decode cX12_laysSwitches 60 = .ok (.iload_n 2, 1) := by decide +kernel
theorem dX12_laysSwitches_61 : decode cX12_laysSwitches 61 = .ok (.imul, 1) := by decide +kernel
theorem dX12_laysSwitches_62 : decode cX12_laysSwitches 62 = .ok (.iload_n 3, 1) := by decide +kernel
theorem dX12_laysSwitches_63 : decode cX12_laysSwitches 63 = .ok (.iadd, 1) := by decide +kernel
theorem dX12_laysSwitches_64 : decode cX12_laysSwitches 64 = .ok (.aload_n 0, 1) := by decide +kernel
theorem dX12_laysSwitches_65 : decode cX12_laysSwitches 65 = .ok (.getfield 24, 3) := by decide +kernel
theorem dX12_laysSwitches_68 : decode cX12_laysSwitches 68 = .ok (.sipush 1600, 3) := by decide +kernel
theorem dX12_laysSwitches_71 : decode cX12_laysSwitches 71 = .ok (.bipush 30, 2) := by decide +kernel
theorem dX12_laysSwitches_73 : decode cX12_laysSwitches 73 = .ok (.iload_n 2, 1) := by decide +kernel
theorem dX12_laysSwitches_74 : decode cX12_laysSwitches 74 = .ok (.imul, 1) := by decide +kernel
theorem dX12_laysSwitches_75 : decode cX12_laysSwitches 75 = .ok (.iadd, 1) := by decide +kernel
theorem dX12_laysSwitches_76 : decode cX12_laysSwitches 76 = .ok (.iload_n 3, 1) := by decide +kernel
theorem dX12_laysSwitches_77 : decode cX12_laysSwitches 77 = .ok (.iadd, 1) := by decide +kernel
theorem dX12_laysSwitches_78 : decode cX12_laysSwitches 78 = .ok (.baload, 1) := by decide +kernel
theorem dX12_laysSwitches_79 : decode cX12_laysSwitches 79 = .ok (.bastore, 1) := by decide +kernel
theorem dX12_laysSwitches_80 : decode cX12_laysSwitches 80 = .ok (.iinc 3 1, 3) := by decide +kernel
theorem dX12_laysSwitches_83 : decode cX12_laysSwitches 83 = .ok (.goto (-35), 3) := by decide +kernel
theorem dX12_laysSwitches_86 : decode cX12_laysSwitches 86 = .ok (.aload_n 0, 1) := by decide +kernel
theorem dX12_laysSwitches_87 : decode cX12_laysSwitches 87 = .ok (.getfield 68, 3) := by decide +kernel
theorem dX12_laysSwitches_90 : decode cX12_laysSwitches 90 = .ok (.sipush 187, 3) := by decide +kernel
theorem dX12_laysSwitches_93 : decode cX12_laysSwitches 93 = .ok (.iload_n 2, 1) := by decide +kernel
theorem dX12_laysSwitches_94 : decode cX12_laysSwitches 94 = .ok (.iadd, 1) := by decide +kernel
theorem dX12_laysSwitches_95 : decode cX12_laysSwitches 95 = .ok (.iload_n 1, 1) := by decide +kernel
theorem dX12_laysSwitches_96 : decode cX12_laysSwitches 96 = .ok (.iload_n 2, 1) := by decide +kernel
theorem dX12_laysSwitches_97 : decode cX12_laysSwitches 97 = .ok (.invokestatic 494, 3) := by decide +kernel
theorem dX12_laysSwitches_100 : decode cX12_laysSwitches 100 = .ok (.ifCond .eq 7, 3) := by decide +kernel
theorem dX12_laysSwitches_103 : decode cX12_laysSwitches 103 = .ok (.iconst 1, 1) := by decide +kernel
theorem dX12_laysSwitches_104 : decode cX12_laysSwitches 104 = .ok (.goto 4, 3) := by decide +kernel
theorem dX12_laysSwitches_107 : decode cX12_laysSwitches 107 = .ok (.iconst 0, 1) := by decide +kernel
theorem dX12_laysSwitches_108 : decode cX12_laysSwitches 108 = .ok (.iastore, 1) := by decide +kernel
theorem dX12_laysSwitches_109 : decode cX12_laysSwitches 109 = .ok (.aload_n 0, 1) := by decide +kernel
theorem dX12_laysSwitches_110 : decode cX12_laysSwitches 110 = .ok (.getfield 68, 3) := by decide +kernel
theorem dX12_laysSwitches_113 : decode cX12_laysSwitches 113 = .ok (.sipush 199, 3) := by decide +kernel
theorem dX12_laysSwitches_116 : decode cX12_laysSwitches 116 = .ok (.iload_n 2, 1) := by decide +kernel
theorem dX12_laysSwitches_117 : decode cX12_laysSwitches 117 = .ok (.iadd, 1) := by decide +kernel
theorem dX12_laysSwitches_118 : decode cX12_laysSwitches 118 = .ok (.iconst (-1), 1) := by decide +kernel
theorem dX12_laysSwitches_119 : decode cX12_laysSwitches 119 = .ok (.iastore, 1) := by decide +kernel
theorem dX12_laysSwitches_120 : decode cX12_laysSwitches 120 = .ok (.aload_n 0, 1) := by decide +kernel
theorem dX12_laysSwitches_121 : decode cX12_laysSwitches 121 = .ok (.getfield 68, 3) := by decide +kernel
theorem dX12_laysSwitches_124 : decode cX12_laysSwitches 124 = .ok (.sipush 211, 3) := by decide +kernel
theorem dX12_laysSwitches_127 : decode cX12_laysSwitches 127 = .ok (.iload_n 2, 1) := by decide +kernel
theorem dX12_laysSwitches_128 : decode cX12_laysSwitches 128 = .ok (.iadd, 1) := by decide +kernel
theorem dX12_laysSwitches_129 : decode cX12_laysSwitches 129 = .ok (.iconst 1, 1) := by decide +kernel
theorem dX12_laysSwitches_130 : decode cX12_laysSwitches 130 = .ok (.iastore, 1) := by decide +kernel
theorem dX12_laysSwitches_131 : decode cX12_laysSwitches 131 = .ok (.aload_n 0, 1) := by decide +kernel
theorem dX12_laysSwitches_132 : decode cX12_laysSwitches 132 = .ok (.getfield 68, 3) := by decide +kernel
theorem dX12_laysSwitches_135 : decode cX12_laysSwitches 135 = .ok (.sipush 223, 3) := by decide +kernel
theorem dX12_laysSwitches_138 : decode cX12_laysSwitches 138 = .ok (.iload_n 2, 1) := by decide +kernel
theorem dX12_laysSwitches_139 : decode cX12_laysSwitches 139 = .ok (.iadd, 1) := by decide +kernel
theorem dX12_laysSwitches_140 : decode cX12_laysSwitches 140 = .ok (.iconst (-1), 1) := by decide +kernel
theorem dX12_laysSwitches_141 : decode cX12_laysSwitches 141 = .ok (.iastore, 1) := by decide +kernel
theorem dX12_laysSwitches_142 : decode cX12_laysSwitches 142 = .ok (.aload_n 0, 1) := by decide +kernel
theorem dX12_laysSwitches_143 : decode cX12_laysSwitches 143 = .ok (.getfield 68, 3) := by decide +kernel
theorem dX12_laysSwitches_146 : decode cX12_laysSwitches 146 = .ok (.sipush 235, 3) := by decide +kernel
theorem dX12_laysSwitches_149 : decode cX12_laysSwitches 149 = .ok (.iload_n 2, 1) := by decide +kernel
theorem dX12_laysSwitches_150 : decode cX12_laysSwitches 150 = .ok (.iadd, 1) := by decide +kernel
theorem dX12_laysSwitches_151 : decode cX12_laysSwitches 151 = .ok (.iconst (-1), 1) := by decide +kernel
theorem dX12_laysSwitches_152 : decode cX12_laysSwitches 152 = .ok (.iastore, 1) := by decide +kernel
theorem dX12_laysSwitches_153 : decode cX12_laysSwitches 153 = .ok (.aload_n 0, 1) := by decide +kernel
theorem dX12_laysSwitches_154 : decode cX12_laysSwitches 154 = .ok (.getfield 68, 3) := by decide +kernel
theorem dX12_laysSwitches_157 : decode cX12_laysSwitches 157 = .ok (.sipush 259, 3) := by decide +kernel
theorem dX12_laysSwitches_160 : decode cX12_laysSwitches 160 = .ok (.iload_n 2, 1) := by decide +kernel
theorem dX12_laysSwitches_161 : decode cX12_laysSwitches 161 = .ok (.iconst 0, 1) := by decide +kernel
theorem dX12_laysSwitches_162 : decode cX12_laysSwitches 162 = .ok (.invokestatic 412, 3) := by decide +kernel
theorem dX12_laysSwitches_165 : decode cX12_laysSwitches 165 = .ok (.iadd, 1) := by decide +kernel
theorem dX12_laysSwitches_166 : decode cX12_laysSwitches 166 = .ok (.iconst 1, 1) := by decide +kernel
theorem dX12_laysSwitches_167 : decode cX12_laysSwitches 167 = .ok (.iastore, 1) := by decide +kernel
theorem dX12_laysSwitches_168 : decode cX12_laysSwitches 168 = .ok (.aload_n 0, 1) := by decide +kernel
theorem dX12_laysSwitches_169 : decode cX12_laysSwitches 169 = .ok (.getfield 68, 3) := by decide +kernel
theorem dX12_laysSwitches_172 : decode cX12_laysSwitches 172 = .ok (.sipush 499, 3) := by decide +kernel
theorem dX12_laysSwitches_175 : decode cX12_laysSwitches 175 = .ok (.iload_n 2, 1) := by decide +kernel
theorem dX12_laysSwitches_176 : decode cX12_laysSwitches 176 = .ok (.iconst 0, 1) := by decide +kernel
theorem dX12_laysSwitches_177 : decode cX12_laysSwitches 177 = .ok (.invokestatic 412, 3) := by decide +kernel
theorem dX12_laysSwitches_180 : decode cX12_laysSwitches 180 = .ok (.iadd, 1) := by decide +kernel
theorem dX12_laysSwitches_181 : decode cX12_laysSwitches 181 = .ok (.iconst 1, 1) := by decide +kernel
theorem dX12_laysSwitches_182 : decode cX12_laysSwitches 182 = .ok (.iastore, 1) := by decide +kernel
theorem dX12_laysSwitches_183 : decode cX12_laysSwitches 183 = .ok (.aload_n 0, 1) := by decide +kernel
theorem dX12_laysSwitches_184 : decode cX12_laysSwitches 184 = .ok (.getfield 68, 3) := by decide +kernel
theorem dX12_laysSwitches_187 : decode cX12_laysSwitches 187 = .ok (.sipush 739, 3) := by decide +kernel
theorem dX12_laysSwitches_190 : decode cX12_laysSwitches 190 = .ok (.iload_n 2, 1) := by decide +kernel
theorem dX12_laysSwitches_191 : decode cX12_laysSwitches 191 = .ok (.iconst 0, 1) := by decide +kernel
theorem dX12_laysSwitches_192 : decode cX12_laysSwitches 192 = .ok (.invokestatic 412, 3) := by decide +kernel
theorem dX12_laysSwitches_195 : decode cX12_laysSwitches 195 = .ok (.iadd, 1) := by decide +kernel
theorem dX12_laysSwitches_196 : decode cX12_laysSwitches 196 = .ok (.iconst 0, 1) := by decide +kernel
theorem dX12_laysSwitches_197 : decode cX12_laysSwitches 197 = .ok (.iastore, 1) := by decide +kernel
theorem dX12_laysSwitches_198 : decode cX12_laysSwitches 198 = .ok (.aload_n 0, 1) := by decide +kernel
theorem dX12_laysSwitches_199 : decode cX12_laysSwitches 199 = .ok (.getfield 68, 3) := by decide +kernel
theorem dX12_laysSwitches_202 : decode cX12_laysSwitches 202 = .ok (.sipush 979, 3) := by decide +kernel
theorem dX12_laysSwitches_205 : decode cX12_laysSwitches 205 = .ok (.iload_n 2, 1) := by decide +kernel
theorem dX12_laysSwitches_206 : decode cX12_laysSwitches 206 = .ok (.iconst 0, 1) := by decide +kernel
theorem dX12_laysSwitches_207 : decode cX12_laysSwitches 207 = .ok (.invokestatic 412, 3) := by decide +kernel
theorem dX12_laysSwitches_210 : decode cX12_laysSwitches 210 = .ok (.iadd, 1) := by decide +kernel
theorem dX12_laysSwitches_211 : decode cX12_laysSwitches 211 = .ok (.iconst (-1), 1) := by decide +kernel
theorem dX12_laysSwitches_212 : decode cX12_laysSwitches 212 = .ok (.iastore, 1) := by decide +kernel
theorem dX12_laysSwitches_213 : decode cX12_laysSwitches 213 = .ok (.aload_n 0, 1) := by decide +kernel
theorem dX12_laysSwitches_214 : decode cX12_laysSwitches 214 = .ok (.getfield 74, 3) := by decide +kernel
theorem dX12_laysSwitches_217 : decode cX12_laysSwitches 217 = .ok (.iload_n 2, 1) := by decide +kernel
theorem dX12_laysSwitches_218 : decode cX12_laysSwitches 218 = .ok (.iconst 0, 1) := by decide +kernel
theorem dX12_laysSwitches_219 : decode cX12_laysSwitches 219 = .ok (.invokestatic 415, 3) := by decide +kernel
theorem dX12_laysSwitches_222 : decode cX12_laysSwitches 222 = .ok (.bipush 49, 2) := by decide +kernel
theorem dX12_laysSwitches_224 : decode cX12_laysSwitches 224 = .ok (.bastore, 1) := by decide +kernel
theorem dX12_laysSwitches_225 : decode cX12_laysSwitches 225 = .ok (.iinc 2 1, 3) := by decide +kernel
theorem dX12_laysSwitches_228 : decode cX12_laysSwitches 228 = .ok (.goto (-212), 3) := by decide +kernel
theorem dX12_laysSwitches_231 : decode cX12_laysSwitches 231 = .ok (.return_, 1) := by decide +kernel
theorem dX12_comes_0 : decode cX12_comes 0 = .ok (.aload_n 0, 1) := by decide +kernel
theorem dX12_comes_1 : decode cX12_comes 1 = .ok (.getfield 636, 3) := by decide +kernel
theorem dX12_comes_4 : decode cX12_comes 4 = .ok (.istore_n 2, 1) := by decide +kernel
theorem dX12_comes_5 : decode cX12_comes 5 = .ok (.aload_n 0, 1) := by decide +kernel
theorem dX12_comes_6 : decode cX12_comes 6 = .ok (.getfield 193, 3) := by decide +kernel
theorem dX12_comes_9 : decode cX12_comes 9 = .ok (.iload_n 2, 1) := by decide +kernel
theorem dX12_comes_10 : decode cX12_comes 10 = .ok (.aload_n 0, 1) := by decide +kernel
theorem dX12_comes_11 : decode cX12_comes 11 = .ok (.getfield 40, 3) := by decide +kernel
theorem dX12_comes_14 : decode cX12_comes 14 = .ok (.iload_n 1, 1) := by decide +kernel
theorem dX12_comes_15 : decode cX12_comes 15 = .ok (.iaload, 1) := by decide +kernel
theorem dX12_comes_16 : decode cX12_comes 16 = .ok (.iastore, 1) := by decide +kernel
theorem dX12_comes_17 : decode cX12_comes 17 = .ok (.aload_n 0, 1) := by decide +kernel
theorem dX12_comes_18 : decode cX12_comes 18 = .ok (.getfield 196, 3) := by decide +kernel
theorem dX12_comes_21 : decode cX12_comes 21 = .ok (.iload_n 2, 1) := by decide +kernel
theorem dX12_comes_22 : decode cX12_comes 22 = .ok (.aload_n 0, 1) := by decide +kernel
theorem dX12_comes_23 : decode cX12_comes 23 = .ok (.getfield 639, 3) := by decide +kernel
theorem dX12_comes_26 : decode cX12_comes 26 = .ok (.iastore, 1) := by decide +kernel
theorem dX12_comes_27 : decode cX12_comes 27 = .ok (.aload_n 0, 1) := by decide +kernel
theorem dX12_comes_28 : decode cX12_comes 28 = .ok (.getfield 199, 3) := by decide +kernel
theorem dX12_comes_31 : decode cX12_comes 31 = .ok (.iload_n 2, 1) := by decide +kernel
theorem dX12_comes_32 : decode cX12_comes 32 = .ok (.aload_n 0, 1) := by decide +kernel
theorem dX12_comes_33 : decode cX12_comes 33 = .ok (.getfield 46, 3) := by decide +kernel
theorem dX12_comes_36 : decode cX12_comes 36 = .ok (.iload_n 1, 1) := by decide +kernel
theorem dX12_comes_37 : decode cX12_comes 37 = .ok (.iaload, 1) := by decide +kernel
theorem dX12_comes_38 : decode cX12_comes 38 = .ok (.iastore, 1) := by decide +kernel
theorem dX12_comes_39 : decode cX12_comes 39 = .ok (.aload_n 0, 1) := by decide +kernel
theorem dX12_comes_40 : decode cX12_comes 40 = .ok (.getfield 202, 3) := by decide +kernel
theorem dX12_comes_43 : decode cX12_comes 43 = .ok (.iload_n 2, 1) := by decide +kernel
theorem dX12_comes_44 : decode cX12_comes 44 = .ok (.aload_n 0, 1) := by decide +kernel
theorem dX12_comes_45 : decode cX12_comes 45 = .ok (.getfield 49, 3) := by decide +kernel
theorem dX12_comes_48 : decode cX12_comes 48 = .ok (.iload_n 1, 1) := by decide +kernel
theorem dX12_comes_49 : decode cX12_comes 49 = .ok (.iaload, 1) := by decide +kernel
theorem dX12_comes_50 : decode cX12_comes 50 = .ok (.iastore, 1) := by decide +kernel
theorem dX12_comes_51 : decode cX12_comes 51 = .ok (.aload_n 0, 1) := by decide +kernel
theorem dX12_comes_52 : decode cX12_comes 52 = .ok (.getfield 205, 3) := by decide +kernel
theorem dX12_comes_55 : decode cX12_comes 55 = .ok (.iload_n 2, 1) := by decide +kernel
theorem dX12_comes_56 : decode cX12_comes 56 = .ok (.aload_n 0, 1) := by decide +kernel
theorem dX12_comes_57 : decode cX12_comes 57 = .ok (.getfield 52, 3) := by decide +kernel
theorem dX12_comes_60 : decode cX12_comes 60 = .ok (.iload_n 1, 1) := by decide +kernel
theorem dX12_comes_61 : decode cX12_comes 61 = .ok (.iaload, 1) := by decide +kernel
theorem dX12_comes_62 : decode cX12_comes 62 = .ok (.iastore, 1) := by decide +kernel
theorem dX12_comes_63 : decode cX12_comes 63 = .ok (.aload_n 0, 1) := by decide +kernel
theorem dX12_comes_64 : decode cX12_comes 64 = .ok (.getfield 208, 3) := by decide +kernel
theorem dX12_comes_67 : decode cX12_comes 67 = .ok (.iload_n 2, 1) := by decide +kernel
theorem dX12_comes_68 : decode cX12_comes 68 = .ok (.aload_n 0, 1) := by decide +kernel
theorem dX12_comes_69 : decode cX12_comes 69 = .ok (.getfield 55, 3) := by decide +kernel
theorem dX12_comes_72 : decode cX12_comes 72 = .ok (.iload_n 1, 1) := by decide +kernel
theorem dX12_comes_73 : decode cX12_comes 73 = .ok (.iaload, 1) := by decide +kernel
theorem dX12_comes_74 : decode cX12_comes 74 = .ok (.iastore, 1) := by decide +kernel
theorem dX12_comes_75 : decode cX12_comes 75 = .ok (.aload_n 0, 1) := by decide +kernel
theorem dX12_comes_76 : decode cX12_comes 76 = .ok (.getfield 211, 3) := by decide +kernel
theorem dX12_comes_79 : decode cX12_comes 79 = .ok (.iload_n 2, 1) := by decide +kernel
theorem dX12_comes_80 : decode cX12_comes 80 = .ok (.aload_n 0, 1) := by decide +kernel
theorem dX12_comes_81 : decode cX12_comes 81 = .ok (.getfield 58, 3) := by decide +kernel
theorem dX12_comes_84 : decode cX12_comes 84 = .ok (.iload_n 1, 1) := by decide +kernel
theorem dX12_comes_85 : decode cX12_comes 85 = .ok (.iaload, 1) := by decide +kernel
theorem dX12_comes_86 : decode cX12_comes 86 = .ok (.iastore, 1) := by decide +kernel
theorem dX12_comes_87 : decode cX12_comes 87 = .ok (.aload_n 0, 1) := by decide +kernel
theorem dX12_comes_88 : decode cX12_comes 88 = .ok (.getfield 214, 3) := by decide +kernel
theorem dX12_comes_91 : decode cX12_comes 91 = .ok (.iload_n 2, 1) := by decide +kernel
theorem dX12_comes_92 : decode cX12_comes 92 = .ok (.aload_n 0, 1) := by decide +kernel
theorem dX12_comes_93 : decode cX12_comes 93 = .ok (.getfield 61, 3) := by decide +kernel
theorem dX12_comes_96 : decode cX12_comes 96 = .ok (.iload_n 1, 1) := by decide +kernel
theorem dX12_comes_97 : decode cX12_comes 97 = .ok (.iaload, 1) := by decide +kernel
theorem dX12_comes_98 : decode cX12_comes 98 = .ok (.iastore, 1) := by decide +kernel
theorem dX12_comes_99 : decode cX12_comes 99 = .ok (.iconst 0, 1) := by decide +kernel
theorem dX12_comes_100 : decode cX12_comes 100 = .ok (.istore_n 3, 1) := by decide +kernel
theorem dX12_comes_101 : decode cX12_comes 101 = .ok (.iload_n 3, 1) := by decide +kernel
theorem dX12_comes_102 : decode cX12_comes 102 = .ok (.aload_n 0, 1) := by decide +kernel
theorem dX12_comes_103 : decode cX12_comes 103 = .ok (.getfield 46, 3) := by decide +kernel
theorem dX12_comes_106 : decode cX12_comes 106 = .ok (.iload_n 1, 1) := by decide +kernel
theorem dX12_comes_107 : decode cX12_comes 107 = .ok (.iaload, 1) := by decide +kernel
theorem dX12_comes_108 : decode cX12_comes 108 = .ok (.if_icmp .ge 27, 3) := by decide +kernel
theorem dX12_comes_111 : decode cX12_comes 111 = .ok (.aload_n 0, 1) := by decide +kernel
theorem dX12_comes_112 : decode cX12_comes 112 = .ok (.getfield 218, 3) := by decide +kernel
theorem dX12_comes_115 : decode cX12_comes 115 = .ok (.aload_n 0, 1) := by decide +kernel
theorem dX12_comes_116 : decode cX12_comes 116 = .ok (.getfield 639, 3) := by decide +kernel
theorem dX12_comes_119 : decode cX12_comes 119 = .ok (.iload_n 3, 1) := by decide +kernel
theorem dX12_comes_120 : decode cX12_comes 120 = .ok (.iadd, 1) := by decide +kernel
theorem dX12_comes_121 : decode cX12_comes 121 = .ok (.aload_n 0, 1) := by decide +kernel
theorem dX12_comes_122 : decode cX12_comes 122 = .ok (.iload_n 1, 1) := by decide +kernel
theorem dX12_comes_123 : decode cX12_comes 123 = .ok (.iload_n 3, 1) := by decide +kernel
theorem dX12_comes_124 : decode cX12_comes 124 = .ok (.invokevirtual 370, 3) := by decide +kernel
theorem dX12_comes_127 : decode cX12_comes 127 = .ok (.i2b, 1) := by decide +kernel
theorem dX12_comes_128 : decode cX12_comes 128 = .ok (.bastore, 1) := by decide +kernel
theorem dX12_comes_129 : decode cX12_comes 129 = .ok (.iinc 3 1, 3) := by decide +kernel
theorem dX12_comes_132 : decode cX12_comes 132 = .ok (.goto (-31), 3) := by decide +kernel
theorem dX12_comes_135 : decode cX12_comes 135 = .ok (.aload_n 0, 1) := by decide +kernel
theorem dX12_comes_136 : decode cX12_comes 136 = .ok (.dup, 1) := by decide +kernel
theorem dX12_comes_137 : decode cX12_comes 137 = .ok (.getfield 639, 3) := by decide +kernel
theorem dX12_comes_140 : decode cX12_comes 140 = .ok (.aload_n 0, 1) := by decide +kernel
theorem dX12_comes_141 : decode cX12_comes 141 = .ok (.getfield 46, 3) := by decide +kernel
theorem dX12_comes_144 : decode cX12_comes 144 = .ok (.iload_n 1, 1) := by decide +kernel
theorem dX12_comes_145 : decode cX12_comes 145 = .ok (.iaload, 1) := by decide +kernel
theorem dX12_comes_146 : decode cX12_comes 146 = .ok (.iadd, 1) := by decide +kernel
theorem dX12_comes_147 : decode cX12_comes 147 = .ok (.putfield 639, 3) := by decide +kernel
theorem dX12_comes_150 : decode cX12_comes 150 = .ok (.aload_n 0, 1) := by decide +kernel
theorem dX12_comes_151 : decode cX12_comes 151 = .ok (.dup, 1) := by decide +kernel
theorem dX12_comes_152 : decode cX12_comes 152 = .ok (.getfield 636, 3) := by decide +kernel
theorem dX12_comes_155 : decode cX12_comes 155 = .ok (.iconst 1, 1) := by decide +kernel
theorem dX12_comes_156 : decode cX12_comes 156 = .ok (.iadd, 1) := by decide +kernel
theorem dX12_comes_157 : decode cX12_comes 157 = .ok (.putfield 636, 3) := by decide +kernel
theorem dX12_comes_160 : decode cX12_comes 160 = .ok (.return_, 1) := by decide +kernel
theorem dX12_counts_0 : decode cX12_counts 0 = .ok (.aload_n 0, 1) := by decide +kernel
theorem dX12_counts_1 : decode cX12_counts 1 = .ok (.getfield 68, 3) := by decide +kernel
theorem dX12_counts_4 : decode cX12_counts 4 = .ok (.bipush 15, 2) := by decide +kernel
theorem dX12_counts_6 : decode cX12_counts 6 = .ok (.bipush 40, 2) := by decide +kernel
theorem dX12_counts_8 : decode cX12_counts 8 = .ok (.iload_n 1, 1) := by decide +kernel
theorem dX12_counts_9 : decode cX12_counts 9 = .ok (.imul, 1) := by decide +kernel
theorem dX12_counts_10 : decode cX12_counts 10 = .ok (.iadd, 1) := by decide +kernel
theorem dX12_counts_11 : decode cX12_counts 11 = .ok (.iload_n 2, 1) := by decide +kernel
theorem dX12_counts_12 : decode cX12_counts 12 = .ok (.iadd, 1) := by decide +kernel
theorem dX12_counts_13 : decode cX12_counts 13 = .ok (.dup2, 1) := by decide +kernel
theorem dX12_counts_14 : decode cX12_counts 14 = .ok (.iaload, 1) := by decide +kernel
theorem dX12_counts_15 : decode cX12_counts 15 = .ok (.iconst 1, 1) := by decide +kernel
theorem dX12_counts_16 : decode cX12_counts 16 = .ok (.iadd, 1) := by decide +kernel
theorem dX12_counts_17 : decode cX12_counts 17 = .ok (.iastore, 1) := by decide +kernel
theorem dX12_counts_18 : decode cX12_counts 18 = .ok (.return_, 1) := by decide +kernel
theorem dX12_group_0 : decode cX12_group 0 = .ok (.aload_n 0, 1) := by decide +kernel
theorem dX12_group_1 : decode cX12_group 1 = .ok (.getfield 178, 3) := by decide +kernel
theorem dX12_group_4 : decode cX12_group 4 = .ok (.aload_n 0, 1) := by decide +kernel
theorem dX12_group_5 : decode cX12_group 5 = .ok (.getfield 642, 3) := by decide +kernel
theorem dX12_group_8 : decode cX12_group 8 = .ok (.iload_n 1, 1) := by decide +kernel
theorem dX12_group_9 : decode cX12_group 9 = .ok (.iastore, 1) := by decide +kernel
theorem dX12_group_10 : decode cX12_group 10 = .ok (.aload_n 0, 1) := by decide +kernel
theorem dX12_group_11 : decode cX12_group 11 = .ok (.getfield 181, 3) := by decide +kernel
theorem dX12_group_14 : decode cX12_group 14 = .ok (.aload_n 0, 1) := by decide +kernel
theorem dX12_group_15 : decode cX12_group 15 = .ok (.getfield 642, 3) := by decide +kernel
theorem dX12_group_18 : decode cX12_group 18 = .ok (.iload_n 2, 1) := by decide +kernel
theorem dX12_group_19 : decode cX12_group 19 = .ok (.ifCond .eq 7, 3) := by decide +kernel
theorem dX12_group_22 : decode cX12_group 22 = .ok (.iconst 1, 1) := by decide +kernel
theorem dX12_group_23 : decode cX12_group 23 = .ok (.goto 4, 3) := by decide +kernel
theorem dX12_group_26 : decode cX12_group 26 = .ok (.iconst 0, 1) := by decide +kernel
theorem dX12_group_27 : decode cX12_group 27 = .ok (.iastore, 1) := by decide +kernel
theorem dX12_group_28 : decode cX12_group 28 = .ok (.aload_n 0, 1) := by decide +kernel
theorem dX12_group_29 : decode cX12_group 29 = .ok (.getfield 184, 3) := by decide +kernel
theorem dX12_group_32 : decode cX12_group 32 = .ok (.aload_n 0, 1) := by decide +kernel
theorem dX12_group_33 : decode cX12_group 33 = .ok (.getfield 642, 3) := by decide +kernel
theorem dX12_group_36 : decode cX12_group 36 = .ok (.iload_n 2, 1) := by decide +kernel
theorem dX12_group_37 : decode cX12_group 37 = .ok (.ifCond .eq 7, 3) := by decide +kernel
theorem dX12_group_40 : decode cX12_group 40 = .ok (.iconst 1, 1) := by decide +kernel
theorem dX12_group_41 : decode cX12_group 41 = .ok (.goto 4, 3) := by decide +kernel
theorem dX12_group_44 : decode cX12_group 44 = .ok (.iconst 0, 1) := by decide +kernel
theorem dX12_group_45 : decode cX12_group 45 = .ok (.iastore, 1) := by decide +kernel
theorem dX12_group_46 : decode cX12_group 46 = .ok (.aload_n 0, 1) := by decide +kernel
theorem dX12_group_47 : decode cX12_group 47 = .ok (.getfield 187, 3) := by decide +kernel
theorem dX12_group_50 : decode cX12_group 50 = .ok (.aload_n 0, 1) := by decide +kernel
theorem dX12_group_51 : decode cX12_group 51 = .ok (.getfield 642, 3) := by decide +kernel
theorem dX12_group_54 : decode cX12_group 54 = .ok (.iconst 0, 1) := by decide +kernel
theorem dX12_group_55 : decode cX12_group 55 = .ok (.iastore, 1) := by decide +kernel
theorem dX12_group_56 : decode cX12_group 56 = .ok (.aload_n 0, 1) := by decide +kernel
theorem dX12_group_57 : decode cX12_group 57 = .ok (.getfield 190, 3) := by decide +kernel
theorem dX12_group_60 : decode cX12_group 60 = .ok (.aload_n 0, 1) := by decide +kernel
theorem dX12_group_61 : decode cX12_group 61 = .ok (.getfield 642, 3) := by decide +kernel
theorem dX12_group_64 : decode cX12_group 64 = .ok (.iload_n 3, 1) := by decide +kernel
theorem dX12_group_65 : decode cX12_group 65 = .ok (.ifCond .eq 7, 3) := by decide +kernel
theorem dX12_group_68 : decode cX12_group 68 = .ok (.iconst 1, 1) := by decide +kernel
theorem dX12_group_69 : decode cX12_group 69 = .ok (.goto 4, 3) := by decide +kernel
theorem dX12_group_72 : decode cX12_group 72 = .ok (.iconst 0, 1) := by decide +kernel
theorem dX12_group_73 : decode cX12_group 73 = .ok (.iastore, 1) := by decide +kernel
theorem dX12_group_74 : decode cX12_group 74 = .ok (.aload_n 0, 1) := by decide +kernel
theorem dX12_group_75 : decode cX12_group 75 = .ok (.dup, 1) := by decide +kernel
theorem dX12_group_76 : decode cX12_group 76 = .ok (.getfield 642, 3) := by decide +kernel
theorem dX12_group_79 : decode cX12_group 79 = .ok (.iconst 1, 1) := by decide +kernel
theorem dX12_group_80 : decode cX12_group 80 = .ok (.iadd, 1) := by decide +kernel
theorem dX12_group_81 : decode cX12_group 81 = .ok (.putfield 642, 3) := by decide +kernel
theorem dX12_group_84 : decode cX12_group 84 = .ok (.return_, 1) := by decide +kernel
theorem dX12_isInside_0 : decode cX12_isInside 0 = .ok (.aload_n 0, 1) := by decide +kernel
theorem dX12_isInside_1 : decode cX12_isInside 1 = .ok (.getfield 642, 3) := by decide +kernel
theorem dX12_isInside_4 : decode cX12_isInside 4 = .ok (.aload_n 0, 1) := by decide +kernel
theorem dX12_isInside_5 : decode cX12_isInside 5 = .ok (.getfield 175, 3) := by decide +kernel
theorem dX12_isInside_8 : decode cX12_isInside 8 = .ok (.aload_n 0, 1) := by decide +kernel
theorem dX12_isInside_9 : decode cX12_isInside 9 = .ok (.getfield 645, 3) := by decide +kernel
theorem dX12_isInside_12 : decode cX12_isInside 12 = .ok (.iaload, 1) := by decide +kernel
theorem dX12_isInside_13 : decode cX12_isInside 13 = .ok (.if_icmp .le 7, 3) := by decide +kernel
theorem dX12_isInside_16 : decode cX12_isInside 16 = .ok (.iconst 1, 1) := by decide +kernel
theorem dX12_isInside_17 : decode cX12_isInside 17 = .ok (.goto 4, 3) := by decide +kernel
theorem dX12_isInside_20 : decode cX12_isInside 20 = .ok (.iconst 0, 1) := by decide +kernel
theorem dX12_isInside_21 : decode cX12_isInside 21 = .ok (.ireturn, 1) := by decide +kernel
theorem dX12_isNothing_0 : decode cX12_isNothing 0 = .ok (.aload_n 0, 1) := by decide +kernel
theorem dX12_isNothing_1 : decode cX12_isNothing 1 = .ok (.getfield 355, 3) := by decide +kernel
theorem dX12_isNothing_4 : decode cX12_isNothing 4 = .ok (.iload_n 1, 1) := by decide +kernel
theorem dX12_isNothing_5 : decode cX12_isNothing 5 = .ok (.if_icmp .eq 12, 3) := by decide +kernel
theorem dX12_isNothing_8 : decode cX12_isNothing 8 = .ok (.aload_n 0, 1) := by decide +kernel
theorem dX12_isNothing_9 : decode cX12_isNothing 9 = .ok (.iconst 2, 1) := by decide +kernel
theorem dX12_isNothing_10 : decode cX12_isNothing 10 = .ok (.iload_n 1, 1) := by decide +kernel
theorem dX12_isNothing_11 : decode cX12_isNothing 11 = .ok (.invokevirtual 430, 3) := by decide +kernel
theorem dX12_isNothing_14 : decode cX12_isNothing 14 = .ok (.ifCond .eq 7, 3) := by decide +kernel
theorem dX12_isNothing_17 : decode cX12_isNothing 17 = .ok (.iconst 1, 1) := by decide +kernel
theorem dX12_isNothing_18 : decode cX12_isNothing 18 = .ok (.goto 4, 3) := by decide +kernel
theorem dX12_isNothing_21 : decode cX12_isNothing 21 = .ok (.iconst 0, 1) := by decide +kernel
theorem dX12_isNothing_22 : decode cX12_isNothing 22 = .ok (.ireturn, 1) := by decide +kernel
theorem dX12_doesGroup_0 : decode cX12_doesGroup 0 = .ok (.aload_n 0, 1) := by decide +kernel
theorem dX12_doesGroup_1 : decode cX12_doesGroup 1 = .ok (.getfield 642, 3) := by decide +kernel
theorem dX12_doesGroup_4 : decode cX12_doesGroup 4 = .ok (.iconst 1, 1) := by decide +kernel
theorem dX12_doesGroup_5 : decode cX12_doesGroup 5 = .ok (.isub, 1) := by decide +kernel
theorem dX12_doesGroup_6 : decode cX12_doesGroup 6 = .ok (.istore 4, 2) := by decide +kernel
theorem dX12_doesGroup_8 : decode cX12_doesGroup 8 = .ok (.iload_n 3, 1) := by decide +kernel
theorem dX12_doesGroup_9 : decode cX12_doesGroup 9 = .ok (.iconst 4, 1) := by decide +kernel
theorem dX12_doesGroup_10 : decode cX12_doesGroup 10 = .ok (.if_icmp .ge 29, 3) := by decide +kernel
theorem dX12_doesGroup_13 : decode cX12_doesGroup 13 = .ok (.aload_n 0, 1) := by decide +kernel
theorem dX12_doesGroup_14 : decode cX12_doesGroup 14 = .ok (.getfield 187, 3) := by decide +kernel
theorem dX12_doesGroup_17 : decode cX12_doesGroup 17 = .ok (.iload 4, 2) := by decide +kernel
theorem dX12_doesGroup_19 : decode cX12_doesGroup 19 = .ok (.iaload, 1) := by decide +kernel
theorem dX12_doesGroup_20 : decode cX12_doesGroup 20 = .ok (.iconst 1, 1) := by decide +kernel
theorem dX12_doesGroup_21 : decode cX12_doesGroup 21 = .ok (.if_icmp .ne 18, 3) := by decide +kernel
theorem dX12_doesGroup_24 : decode cX12_doesGroup 24 = .ok (.aload_n 0, 1) := by decide +kernel
theorem dX12_doesGroup_25 : decode cX12_doesGroup 25 = .ok (.bipush 10, 2) := by decide +kernel
theorem dX12_doesGroup_27 : decode cX12_doesGroup 27 = .ok (.iload_n 1, 1) := by decide +kernel
theorem dX12_doesGroup_28 : decode cX12_doesGroup 28 = .ok (.iload_n 2, 1) := by decide +kernel
theorem dX12_doesGroup_29 : decode cX12_doesGroup 29 = .ok (.aload_n 0, 1) := by decide +kernel
theorem dX12_doesGroup_30 : decode cX12_doesGroup 30 = .ok (.iload_n 1, 1) := by decide +kernel
theorem dX12_doesGroup_31 : decode cX12_doesGroup 31 = .ok (.iload_n 2, 1) := by decide +kernel
theorem dX12_doesGroup_32 : decode cX12_doesGroup 32 = .ok (.invokevirtual 330, 3) := by decide +kernel
theorem dX12_doesGroup_35 : decode cX12_doesGroup 35 = .ok (.invokevirtual 373, 3) := by decide +kernel
theorem dX12_doesGroup_38 : decode cX12_doesGroup 38 = .ok (.ireturn, 1) := by decide +kernel
theorem dX12_doesGroup_39 : decode cX12_doesGroup 39 = .ok (.iload_n 3, 1) := by decide +kernel
theorem dX12_doesGroup_40 : decode cX12_doesGroup 40 = .ok (.iconst 2, 1) := by decide +kernel
theorem dX12_doesGroup_41 : decode cX12_doesGroup 41 = .ok (.if_icmp .ne 30, 3) := by decide +kernel
theorem dX12_doesGroup_44 : decode cX12_doesGroup 44 = .ok (.aload_n 0, 1) := by decide +kernel
theorem dX12_doesGroup_45 : decode cX12_doesGroup 45 = .ok (.getfield 181, 3) := by decide +kernel
theorem dX12_doesGroup_48 : decode cX12_doesGroup 48 = .ok (.iload 4, 2) := by decide +kernel
theorem dX12_doesGroup_50 : decode cX12_doesGroup 50 = .ok (.iaload, 1) := by decide +kernel
theorem dX12_doesGroup_51 : decode cX12_doesGroup 51 = .ok (.iconst 1, 1) := by decide +kernel
theorem dX12_doesGroup_52 : decode cX12_doesGroup 52 = .ok (.if_icmp .ne 19, 3) := by decide +kernel
theorem dX12_doesGroup_55 : decode cX12_doesGroup 55 = .ok (.aload_n 0, 1) := by decide +kernel
theorem dX12_doesGroup_56 : decode cX12_doesGroup 56 = .ok (.getfield 184, 3) := by decide +kernel
theorem dX12_doesGroup_59 : decode cX12_doesGroup 59 = .ok (.iload 4, 2) := by decide +kernel
theorem dX12_doesGroup_61 : decode cX12_doesGroup 61 = .ok (.iconst 0, 1) := by decide +kernel
theorem dX12_doesGroup_62 : decode cX12_doesGroup 62 = .ok (.iastore, 1) := by decide +kernel
theorem dX12_doesGroup_63 : decode cX12_doesGroup 63 = .ok (.aload_n 0, 1) := by decide +kernel
theorem dX12_doesGroup_64 : decode cX12_doesGroup 64 = .ok (.iload_n 1, 1) := by decide +kernel
theorem dX12_doesGroup_65 : decode cX12_doesGroup 65 = .ok (.iload_n 2, 1) := by decide +kernel
theorem dX12_doesGroup_66 : decode cX12_doesGroup 66 = .ok (.invokevirtual 648, 3) := by decide +kernel
theorem dX12_doesGroup_69 : decode cX12_doesGroup 69 = .ok (.iconst 1, 1) := by decide +kernel
theorem dX12_doesGroup_70 : decode cX12_doesGroup 70 = .ok (.ireturn, 1) := by decide +kernel
theorem dX12_doesGroup_71 : decode cX12_doesGroup 71 = .ok (.aload_n 0, 1) := by decide +kernel
theorem dX12_doesGroup_72 : decode cX12_doesGroup 72 = .ok (.iload_n 1, 1) := by decide +kernel
theorem dX12_doesGroup_73 : decode cX12_doesGroup 73 = .ok (.iload_n 2, 1) := by decide +kernel
theorem dX12_doesGroup_74 : decode cX12_doesGroup 74 = .ok (.invokevirtual 352, 3) := by decide +kernel
theorem dX12_doesGroup_77 : decode cX12_doesGroup 77 = .ok (.ifCond .ne 5, 3) := by decide +kernel
theorem dX12_doesGroup_80 : decode cX12_doesGroup 80 = .ok (.iconst 0, 1) := by decide +kernel
theorem dX12_doesGroup_81 : decode cX12_doesGroup 81 = .ok (.ireturn, 1) := by decide +kernel
theorem dX12_doesGroup_82 : decode cX12_doesGroup 82 = .ok (.iload_n 3, 1) := by decide +kernel
theorem dX12_doesGroup_83 : decode cX12_doesGroup 83 = .ok (.iconst 2, 1) := by decide +kernel
theorem dX12_doesGroup_84 : decode cX12_doesGroup 84 = .ok (.if_icmp .ne 62, 3) := by decide +kernel
theorem dX12_doesGroup_87 : decode cX12_doesGroup 87 = .ok (.aload_n 0, 1) := by decide +kernel
theorem dX12_doesGroup_88 : decode cX12_doesGroup 88 = .ok (.iconst 2, 1) := by decide +kernel
theorem dX12_doesGroup_89 : decode cX12_doesGroup 89 = .ok (.invokevirtual 651, 3) := by decide +kernel
theorem dX12_doesGroup_92 : decode cX12_doesGroup 92 = .ok (.ifCond .ne 5, 3) := by decide +kernel
theorem dX12_doesGroup_95 : decode cX12_doesGroup 95 = .ok (.iconst 0, 1) := by decide +kernel
theorem dX12_doesGroup_96 : decode cX12_doesGroup 96 = .ok (.ireturn, 1) := by decide +kernel
theorem dX12_doesGroup_97 : decode cX12_doesGroup 97 = .ok (.aload_n 0, 1) := by decide +kernel
theorem dX12_doesGroup_98 : decode cX12_doesGroup 98 = .ok (.getfield 68, 3) := by decide +kernel
theorem dX12_doesGroup_101 : decode cX12_doesGroup 101 = .ok (.bipush 9, 2) := by decide +kernel
theorem dX12_doesGroup_103 : decode cX12_doesGroup 103 = .ok (.dup2, 1) := by decide +kernel
theorem dX12_doesGroup_104 : decode cX12_doesGroup 104 = .ok (.iaload, 1) := by decide +kernel
theorem dX12_doesGroup_105 : decode cX12_doesGroup 105 = .ok (.iconst 1, 1) := by decide +kernel
theorem dX12_doesGroup_106 : decode cX12_doesGroup 106 = .ok (.iadd, 1) := by decide +kernel
theorem dX12_doesGroup_107 : decode cX12_doesGroup 107 = .ok (.iastore, 1) := by decide +kernel
theorem dX12_doesGroup_108 : decode cX12_doesGroup 108 = .ok (.aload_n 0, 1) := by decide +kernel
theorem dX12_doesGroup_109 : decode cX12_doesGroup 109 = .ok (.getfield 184, 3) := by decide +kernel
theorem dX12_doesGroup_112 : decode cX12_doesGroup 112 = .ok (.iload 4, 2) := by decide +kernel
theorem dX12_doesGroup_114 : decode cX12_doesGroup 114 = .ok (.aload_n 0, 1) := by decide +kernel
theorem dX12_doesGroup_115 : decode cX12_doesGroup 115 = .ok (.getfield 627, 3) := by decide +kernel
theorem dX12_doesGroup_118 : decode cX12_doesGroup 118 = .ok (.lconst 0, 1) := by decide +kernel
theorem dX12_doesGroup_119 : decode cX12_doesGroup 119 = .ok (.lcmp, 1) := by decide +kernel
theorem dX12_doesGroup_120 : decode cX12_doesGroup 120 = .ok (.ifCond .eq 7, 3) := by decide +kernel
theorem dX12_doesGroup_123 : decode cX12_doesGroup 123 = .ok (.iconst 1, 1) := by decide +kernel
theorem dX12_doesGroup_124 : decode cX12_doesGroup 124 = .ok (.goto 4, 3) := by decide +kernel
theorem dX12_doesGroup_127 : decode cX12_doesGroup 127 = .ok (.iconst 0, 1) := by decide +kernel
theorem dX12_doesGroup_128 : decode cX12_doesGroup 128 = .ok (.iastore, 1) := by decide +kernel
theorem dX12_doesGroup_129 : decode cX12_doesGroup 129 = .ok (.aload_n 0, 1) := by decide +kernel
theorem dX12_doesGroup_130 : decode cX12_doesGroup 130 = .ok (.getfield 181, 3) := by decide +kernel
theorem dX12_doesGroup_133 : decode cX12_doesGroup 133 = .ok (.iload 4, 2) := by decide +kernel
theorem dX12_doesGroup_135 : decode cX12_doesGroup 135 = .ok (.aload_n 0, 1) := by decide +kernel
theorem dX12_doesGroup_136 : decode cX12_doesGroup 136 = .ok (.getfield 184, 3) := by decide +kernel
theorem dX12_doesGroup_139 : decode cX12_doesGroup 139 = .ok (.iload 4, 2) := by decide +kernel
theorem dX12_doesGroup_141 : decode cX12_doesGroup 141 = .ok (.iaload, 1) := by decide +kernel
theorem dX12_doesGroup_142 : decode cX12_doesGroup 142 = .ok (.iastore, 1) := by decide +kernel
theorem dX12_doesGroup_143 : decode cX12_doesGroup 143 = .ok (.goto 63, 3) := by decide +kernel
theorem dX12_doesGroup_146 : decode cX12_doesGroup 146 = .ok (.aload_n 0, 1) := by decide +kernel
theorem dX12_doesGroup_147 : decode cX12_doesGroup 147 = .ok (.iconst 2, 1) := by decide +kernel
theorem dX12_doesGroup_148 : decode cX12_doesGroup 148 = .ok (.invokevirtual 654, 3) := by decide +kernel
theorem dX12_doesGroup_151 : decode cX12_doesGroup 151 = .ok (.ifCond .ne 5, 3) := by decide +kernel
theorem dX12_doesGroup_154 : decode cX12_doesGroup 154 = .ok (.iconst 0, 1) := by decide +kernel
theorem dX12_doesGroup_155 : decode cX12_doesGroup 155 = .ok (.ireturn, 1) := by decide +kernel
theorem dX12_doesGroup_156 : decode cX12_doesGroup 156 = .ok (.iload_n 3, 1) := by decide +kernel
theorem dX12_doesGroup_157 : decode cX12_doesGroup 157 = .ok (.iconst 3, 1) := by decide +kernel
theorem dX12_doesGroup_158 : decode cX12_doesGroup 158 = .ok (.if_icmp .ne 38, 3) := by decide +kernel
theorem dX12_doesGroup_161 : decode cX12_doesGroup 161 = .ok (.aload_n 0, 1) := by decide +kernel
theorem dX12_doesGroup_162 : decode cX12_doesGroup 162 = .ok (.getfield 187, 3) := by decide +kernel
theorem dX12_doesGroup_165 : decode cX12_doesGroup 165 = .ok (.iload 4, 2) := by decide +kernel
theorem dX12_doesGroup_167 : decode cX12_doesGroup 167 = .ok (.iconst 1, 1) := by decide +kernel
theorem dX12_doesGroup_168 : decode cX12_doesGroup 168 = .ok (.iastore, 1) := by decide +kernel
theorem dX12_doesGroup_169 : decode cX12_doesGroup 169 = .ok (.aload_n 0, 1) := by decide +kernel
theorem dX12_doesGroup_170 : decode cX12_doesGroup 170 = .ok (.getfield 184, 3) := by decide +kernel
theorem dX12_doesGroup_173 : decode cX12_doesGroup 173 = .ok (.iload 4, 2) := by decide +kernel
theorem dX12_doesGroup_175 : decode cX12_doesGroup 175 = .ok (.iconst 1, 1) := by decide +kernel
theorem dX12_doesGroup_176 : decode cX12_doesGroup 176 = .ok (.aload_n 0, 1) := by decide +kernel
theorem dX12_doesGroup_177 : decode cX12_doesGroup 177 = .ok (.getfield 181, 3) := by decide +kernel
theorem dX12_doesGroup_180 : decode cX12_doesGroup 180 = .ok (.iload 4, 2) := by decide +kernel
theorem dX12_doesGroup_182 : decode cX12_doesGroup 182 = .ok (.iaload, 1) := by decide +kernel
theorem dX12_doesGroup_183 : decode cX12_doesGroup 183 = .ok (.isub, 1) := by decide +kernel
theorem dX12_doesGroup_184 : decode cX12_doesGroup 184 = .ok (.iastore, 1) := by decide +kernel
theorem dX12_doesGroup_185 : decode cX12_doesGroup 185 = .ok (.aload_n 0, 1) := by decide +kernel
theorem dX12_doesGroup_186 : decode cX12_doesGroup 186 = .ok (.getfield 181, 3) := by decide +kernel
theorem dX12_doesGroup_189 : decode cX12_doesGroup 189 = .ok (.iload 4, 2) := by decide +kernel
theorem dX12_doesGroup_191 : decode cX12_doesGroup 191 = .ok (.iconst 1, 1) := by decide +kernel
theorem dX12_doesGroup_192 : decode cX12_doesGroup 192 = .ok (.iastore, 1) := by decide +kernel
theorem dX12_doesGroup_193 : decode cX12_doesGroup 193 = .ok (.goto 13, 3) := by decide +kernel
theorem dX12_doesGroup_196 : decode cX12_doesGroup 196 = .ok (.aload_n 0, 1) := by decide +kernel
theorem dX12_doesGroup_197 : decode cX12_doesGroup 197 = .ok (.dup, 1) := by decide +kernel
theorem dX12_doesGroup_198 : decode cX12_doesGroup 198 = .ok (.getfield 642, 3) := by decide +kernel
theorem dX12_doesGroup_201 : decode cX12_doesGroup 201 = .ok (.iconst 1, 1) := by decide +kernel
theorem dX12_doesGroup_202 : decode cX12_doesGroup 202 = .ok (.isub, 1) := by decide +kernel
theorem dX12_doesGroup_203 : decode cX12_doesGroup 203 = .ok (.putfield 642, 3) := by decide +kernel
theorem dX12_doesGroup_206 : decode cX12_doesGroup 206 = .ok (.aload_n 0, 1) := by decide +kernel
theorem dX12_doesGroup_207 : decode cX12_doesGroup 207 = .ok (.iload_n 1, 1) := by decide +kernel
theorem dX12_doesGroup_208 : decode cX12_doesGroup 208 = .ok (.iload_n 2, 1) := by decide +kernel
theorem dX12_doesGroup_209 : decode cX12_doesGroup 209 = .ok (.invokevirtual 648, 3) := by decide +kernel
theorem dX12_doesGroup_212 : decode cX12_doesGroup 212 = .ok (.iconst 1, 1) := by decide +kernel
theorem dX12_doesGroup_213 : decode cX12_doesGroup 213 = .ok (.ireturn, 1) := by decide +kernel
theorem dX12_doesNamed_0 : decode cX12_doesNamed 0 = .ok (.aload_n 0, 1) := by decide +kernel
theorem dX12_doesNamed_1 : decode cX12_doesNamed 1 = .ok (.getfield 355, 3) := by decide +kernel
theorem dX12_doesNamed_4 : decode cX12_doesNamed 4 = .ok (.iconst 2, 1) := by decide +kernel
theorem dX12_doesNamed_5 : decode cX12_doesNamed 5 = .ok (.if_icmp .eq 12, 3) := by decide +kernel
theorem dX12_doesNamed_8 : decode cX12_doesNamed 8 = .ok (.aload_n 0, 1) := by decide +kernel
theorem dX12_doesNamed_9 : decode cX12_doesNamed 9 = .ok (.getfield 40, 3) := by decide +kernel
theorem dX12_doesNamed_12 : decode cX12_doesNamed 12 = .ok (.iconst 2, 1) := by decide +kernel
theorem dX12_doesNamed_13 : decode cX12_doesNamed 13 = .ok (.iaload, 1) := by decide +kernel
theorem dX12_doesNamed_14 : decode cX12_doesNamed 14 = .ok (.ifCond .eq 10, 3) := by decide +kernel
theorem dX12_doesNamed_17 : decode cX12_doesNamed 17 = .ok (.aload_n 0, 1) := by decide +kernel
theorem dX12_doesNamed_18 : decode cX12_doesNamed 18 = .ok (.iconst 2, 1) := by decide +kernel
theorem dX12_doesNamed_19 : decode cX12_doesNamed 19 = .ok (.iconst 2, 1) := by decide +kernel
theorem dX12_doesNamed_20 : decode cX12_doesNamed 20 = .ok (.invokevirtual 430, 3) := by decide +kernel
theorem dX12_doesNamed_23 : decode cX12_doesNamed 23 = .ok (.ireturn, 1) := by decide +kernel
theorem dX12_doesNamed_24 : decode cX12_doesNamed 24 = .ok (.aload_n 0, 1) := by decide +kernel
theorem dX12_doesNamed_25 : decode cX12_doesNamed 25 = .ok (.iconst 3, 1) := by decide +kernel
theorem dX12_doesNamed_26 : decode cX12_doesNamed 26 = .ok (.invokevirtual 654, 3) := by decide +kernel
theorem dX12_doesNamed_29 : decode cX12_doesNamed 29 = .ok (.ifCond .ne 5, 3) := by decide +kernel
theorem dX12_doesNamed_32 : decode cX12_doesNamed 32 = .ok (.iconst 0, 1) := by decide +kernel
theorem dX12_doesNamed_33 : decode cX12_doesNamed 33 = .ok (.ireturn, 1) := by decide +kernel
theorem dX12_doesNamed_34 : decode cX12_doesNamed 34 = .ok (.aload_n 0, 1) := by decide +kernel
theorem dX12_doesNamed_35 : decode cX12_doesNamed 35 = .ok (.iconst 2, 1) := by decide +kernel
theorem dX12_doesNamed_36 : decode cX12_doesNamed 36 = .ok (.invokevirtual 436, 3) := by decide +kernel
theorem dX12_doesNamed_39 : decode cX12_doesNamed 39 = .ok (.istore_n 3, 1) := by decide +kernel
theorem dX12_doesNamed_40 : decode cX12_doesNamed 40 = .ok (.iload_n 1, 1) := by decide +kernel
theorem dX12_doesNamed_41 : decode cX12_doesNamed 41 = .ok (.iconst 1, 1) := by decide +kernel
theorem dX12_doesNamed_42 : decode cX12_doesNamed 42 = .ok (.if_icmp .ne 20, 3) := by decide +kernel
theorem dX12_doesNamed_45 : decode cX12_doesNamed 45 = .ok (.iload_n 3, 1) := by decide +kernel
theorem dX12_doesNamed_46 : decode cX12_doesNamed 46 = .ok (.ifCond .lt 14, 3) := by decide +kernel
theorem dX12_doesNamed_49 : decode cX12_doesNamed 49 = .ok (.aload_n 0, 1) := by decide +kernel
theorem dX12_doesNamed_50 : decode cX12_doesNamed 50 = .ok (.getfield 68, 3) := by decide +kernel
theorem dX12_doesNamed_53 : decode cX12_doesNamed 53 = .ok (.sipush 187, 3) := by decide +kernel
theorem dX12_doesNamed_56 : decode cX12_doesNamed 56 = .ok (.iload_n 3, 1) := by decide +kernel
theorem dX12_doesNamed_57 : decode cX12_doesNamed 57 = .ok (.iadd, 1) := by decide +kernel
theorem dX12_doesNamed_58 : decode cX12_doesNamed 58 = .ok (.iconst 0, 1) := by decide +kernel
theorem dX12_doesNamed_59 : decode cX12_doesNamed 59 = .ok (.iastore, 1) := by decide +kernel
theorem dX12_doesNamed_60 : decode cX12_doesNamed 60 = .ok (.iconst 1, 1) := by decide +kernel
theorem dX12_doesNamed_61 : decode cX12_doesNamed 61 = .ok (.ireturn, 1) := by decide +kernel
theorem dX12_doesNamed_62 : decode cX12_doesNamed 62 = .ok (.aload_n 0, 1) := by decide +kernel
theorem dX12_doesNamed_63 : decode cX12_doesNamed 63 = .ok (.getfield 68, 3) := by decide +kernel
theorem dX12_doesNamed_66 : decode cX12_doesNamed 66 = .ok (.bipush 9, 2) := by decide +kernel
theorem dX12_doesNamed_68 : decode cX12_doesNamed 68 = .ok (.dup2, 1) := by decide +kernel
theorem dX12_doesNamed_69 : decode cX12_doesNamed 69 = .ok (.iaload, 1) := by decide +kernel
theorem dX12_doesNamed_70 : decode cX12_doesNamed 70 = .ok (.iconst 1, 1) := by decide +kernel
theorem dX12_doesNamed_71 : decode cX12_doesNamed 71 = .ok (.iadd, 1) := by decide +kernel
theorem dX12_doesNamed_72 : decode cX12_doesNamed 72 = .ok (.iastore, 1) := by decide +kernel
theorem dX12_doesNamed_73 : decode cX12_doesNamed 73 = .ok (.aload_n 0, 1) := by decide +kernel
theorem dX12_doesNamed_74 : decode cX12_doesNamed 74 = .ok (.iload_n 2, 1) := by decide +kernel
theorem dX12_doesNamed_75 : decode cX12_doesNamed 75 = .ok (.iload_n 3, 1) := by decide +kernel
theorem dX12_doesNamed_76 : decode cX12_doesNamed 76 = .ok (.ifCond .lt 7, 3) := by decide +kernel
theorem dX12_doesNamed_79 : decode cX12_doesNamed 79 = .ok (.iconst 1, 1) := by decide +kernel
theorem dX12_doesNamed_80 : decode cX12_doesNamed 80 = .ok (.goto 4, 3) := by decide +kernel
theorem dX12_doesNamed_83 : decode cX12_doesNamed 83 = .ok (.iconst 0, 1) := by decide +kernel
theorem dX12_doesNamed_84 : decode cX12_doesNamed 84 = .ok (.iload_n 1, 1) := by decide +kernel
theorem dX12_doesNamed_85 : decode cX12_doesNamed 85 = .ok (.iconst 4, 1) := by decide +kernel
theorem dX12_doesNamed_86 : decode cX12_doesNamed 86 = .ok (.if_icmp .ne 7, 3) := by decide +kernel
theorem dX12_doesNamed_89 : decode cX12_doesNamed 89 = .ok (.iconst 1, 1) := by decide +kernel
theorem dX12_doesNamed_90 : decode cX12_doesNamed 90 = .ok (.goto 4, 3) := by decide +kernel
theorem dX12_doesNamed_93 : decode cX12_doesNamed 93 = .ok (.iconst 0, 1) := by decide +kernel
theorem dX12_doesNamed_94 : decode cX12_doesNamed 94 = .ok (.if_icmp .ne 7, 3) := by decide +kernel
theorem dX12_doesNamed_97 : decode cX12_doesNamed 97 = .ok (.iconst 1, 1) := by decide +kernel
theorem dX12_doesNamed_98 : decode cX12_doesNamed 98 = .ok (.goto 4, 3) := by decide +kernel
theorem dX12_doesNamed_101 : decode cX12_doesNamed 101 = .ok (.iconst 0, 1) := by decide +kernel
theorem dX12_doesNamed_102 : decode cX12_doesNamed 102 = .ok (.iconst 0, 1) := by decide +kernel
theorem dX12_doesNamed_103 : decode cX12_doesNamed 103 = .ok (.invokevirtual 657, 3) := by decide +kernel
theorem dX12_doesNamed_106 : decode cX12_doesNamed 106 = .ok (.iconst 1, 1) := by decide +kernel
theorem dX12_doesNamed_107 : decode cX12_doesNamed 107 = .ok (.ireturn, 1) := by decide +kernel
theorem dX12_includes_0 : decode cX12_includes 0 = .ok (.aload_n 0, 1) := by decide +kernel
theorem dX12_includes_1 : decode cX12_includes 1 = .ok (.getfield 355, 3) := by decide +kernel
theorem dX12_includes_4 : decode cX12_includes 4 = .ok (.iconst 2, 1) := by decide +kernel
theorem dX12_includes_5 : decode cX12_includes 5 = .ok (.if_icmp .eq 23, 3) := by decide +kernel
theorem dX12_includes_8 : decode cX12_includes 8 = .ok (.aload_n 0, 1) := by decide +kernel
theorem dX12_includes_9 : decode cX12_includes 9 = .ok (.getfield 40, 3) := by decide +kernel
theorem dX12_includes_12 : decode cX12_includes 12 = .ok (.iconst 2, 1) := by decide +kernel
theorem dX12_includes_13 : decode cX12_includes 13 = .ok (.iaload, 1) := by decide +kernel
theorem dX12_includes_14 : decode cX12_includes 14 = .ok (.iconst 1, 1) := by decide +kernel
theorem dX12_includes_15 : decode cX12_includes 15 = .ok (.if_icmp .ne 13, 3) := by decide +kernel
theorem dX12_includes_18 : decode cX12_includes 18 = .ok (.aload_n 0, 1) := by decide +kernel
theorem dX12_includes_19 : decode cX12_includes 19 = .ok (.getfield 46, 3) := by decide +kernel
theorem dX12_includes_22 : decode cX12_includes 22 = .ok (.iconst 2, 1) := by decide +kernel
theorem dX12_includes_23 : decode cX12_includes 23 = .ok (.iaload, 1) := by decide +kernel
theorem dX12_includes_24 : decode cX12_includes 24 = .ok (.iconst 1, 1) := by decide +kernel
theorem dX12_includes_25 : decode cX12_includes 25 = .ok (.if_icmp .le 10, 3) := by decide +kernel
theorem dX12_includes_28 : decode cX12_includes 28 = .ok (.aload_n 0, 1) := by decide +kernel
theorem dX12_includes_29 : decode cX12_includes 29 = .ok (.iconst 2, 1) := by decide +kernel
theorem dX12_includes_30 : decode cX12_includes 30 = .ok (.iconst 2, 1) := by decide +kernel
theorem dX12_includes_31 : decode cX12_includes 31 = .ok (.invokevirtual 430, 3) := by decide +kernel
theorem dX12_includes_34 : decode cX12_includes 34 = .ok (.ireturn, 1) := by decide +kernel
theorem dX12_includes_35 : decode cX12_includes 35 = .ok (.aload_n 0, 1) := by decide +kernel
theorem dX12_includes_36 : decode cX12_includes 36 = .ok (.iconst 2, 1) := by decide +kernel
theorem dX12_includes_37 : decode cX12_includes 37 = .ok (.iconst 0, 1) := by decide +kernel
theorem dX12_includes_38 : decode cX12_includes 38 = .ok (.invokevirtual 370, 3) := by decide +kernel
theorem dX12_includes_41 : decode cX12_includes 41 = .ok (.bipush 48, 2) := by decide +kernel
theorem dX12_includes_43 : decode cX12_includes 43 = .ok (.isub, 1) := by decide +kernel
theorem dX12_includes_44 : decode cX12_includes 44 = .ok (.istore_n 1, 1) := by decide +kernel
theorem dX12_includes_45 : decode cX12_includes 45 = .ok (.aload_n 0, 1) := by decide +kernel
theorem dX12_includes_46 : decode cX12_includes 46 = .ok (.getfield 379, 3) := by decide +kernel
theorem dX12_includes_49 : decode cX12_includes 49 = .ok (.istore_n 2, 1) := by decide +kernel
theorem dX12_includes_50 : decode cX12_includes 50 = .ok (.aload_n 0, 1) := by decide +kernel
theorem dX12_includes_51 : decode cX12_includes 51 = .ok (.getfield 382, 3) := by decide +kernel
theorem dX12_includes_54 : decode cX12_includes 54 = .ok (.istore_n 3, 1) := by decide +kernel
theorem dX12_includes_55 : decode cX12_includes 55 = .ok (.aload_n 0, 1) := by decide +kernel
theorem dX12_includes_56 : decode cX12_includes 56 = .ok (.iload_n 1, 1) := by decide +kernel
theorem dX12_includes_57 : decode cX12_includes 57 = .ok (.invokevirtual 281, 3) := by decide +kernel
theorem dX12_includes_60 : decode cX12_includes 60 = .ok (.ifCond .ne 11, 3) := by decide +kernel
theorem dX12_includes_63 : decode cX12_includes 63 = .ok (.aload_n 0, 1) := by decide +kernel
theorem dX12_includes_64 : decode cX12_includes 64 = .ok (.bipush 11, 2) := by decide +kernel
theorem dX12_includes_66 : decode cX12_includes 66 = .ok (.iconst 2, 1) := by decide +kernel
theorem dX12_includes_67 : decode cX12_includes 67 = .ok (.invokevirtual 376, 3) := by decide +kernel
theorem dX12_includes_70 : decode cX12_includes 70 = .ok (.ireturn, 1) := by decide +kernel
theorem dX12_includes_71 : decode cX12_includes 71 = .ok (.aload_n 0, 1) := by decide +kernel
theorem dX12_includes_72 : decode cX12_includes 72 = .ok (.iload_n 1, 1) := by decide +kernel
theorem dX12_includes_73 : decode cX12_includes 73 = .ok (.invokevirtual 364, 3) := by decide +kernel
theorem dX12_includes_76 : decode cX12_includes 76 = .ok (.ifCond .le 15, 3) := by decide +kernel
theorem dX12_includes_79 : decode cX12_includes 79 = .ok (.aload_n 0, 1) := by decide +kernel
theorem dX12_includes_80 : decode cX12_includes 80 = .ok (.iconst 2, 1) := by decide +kernel
theorem dX12_includes_81 : decode cX12_includes 81 = .ok (.invokevirtual 436, 3) := by decide +kernel
theorem dX12_includes_84 : decode cX12_includes 84 = .ok (.ifCond .lt 7, 3) := by decide +kernel
theorem dX12_includes_87 : decode cX12_includes 87 = .ok (.iconst 1, 1) := by decide +kernel
theorem dX12_includes_88 : decode cX12_includes 88 = .ok (.goto 4, 3) := by decide +kernel
theorem dX12_includes_91 : decode cX12_includes 91 = .ok (.iconst 0, 1) := by decide +kernel
theorem dX12_includes_92 : decode cX12_includes 92 = .ok (.istore 4, 2) := by decide +kernel
theorem dX12_includes_94 : decode cX12_includes 94 = .ok (.aload_n 0, 1) := by decide +kernel
theorem dX12_includes_95 : decode cX12_includes 95 = .ok (.iload_n 2, 1) := by decide +kernel
theorem dX12_includes_96 : decode cX12_includes 96 = .ok (.iload_n 3, 1) := by decide +kernel
theorem dX12_includes_97 : decode cX12_includes 97 = .ok (.invokevirtual 352, 3) := by decide +kernel
theorem dX12_includes_100 : decode cX12_includes 100 = .ok (.pop, 1) := by decide +kernel
theorem dX12_includes_101 : decode cX12_includes 101 = .ok (.iload 4, 2) := by decide +kernel
theorem dX12_includes_103 : decode cX12_includes 103 = .ok (.ifCond .ne 31, 3) := by decide +kernel
theorem dX12_includes_106 : decode cX12_includes 106 = .ok (.aload_n 0, 1) := by decide +kernel
theorem dX12_includes_107 : decode cX12_includes 107 = .ok (.getfield 645, 3) := by decide +kernel
theorem dX12_includes_110 : decode cX12_includes 110 = .ok (.bipush 6, 2) := by decide +kernel
theorem dX12_includes_112 : decode cX12_includes 112 = .ok (.if_icmp .eq 14, 3) := by decide +kernel
theorem dX12_includes_115 : decode cX12_includes 115 = .ok (.aload_n 0, 1) := by decide +kernel
theorem dX12_includes_116 : decode cX12_includes 116 = .ok (.getfield 68, 3) := by decide +kernel
theorem dX12_includes_119 : decode cX12_includes 119 = .ok (.iconst 3, 1) := by decide +kernel
theorem dX12_includes_120 : decode cX12_includes 120 = .ok (.iaload, 1) := by decide +kernel
theorem dX12_includes_121 : decode cX12_includes 121 = .ok (.bipush 12, 2) := by decide +kernel
theorem dX12_includes_123 : decode cX12_includes 123 = .ok (.if_icmp .ne 11, 3) := by decide +kernel
theorem dX12_includes_126 : decode cX12_includes 126 = .ok (.aload_n 0, 1) := by decide +kernel
theorem dX12_includes_127 : decode cX12_includes 127 = .ok (.bipush 11, 2) := by decide +kernel
theorem dX12_includes_129 : decode cX12_includes 129 = .ok (.iconst 2, 1) := by decide +kernel
theorem dX12_includes_130 : decode cX12_includes 130 = .ok (.invokevirtual 376, 3) := by decide +kernel
theorem dX12_includes_133 : decode cX12_includes 133 = .ok (.ireturn, 1) := by decide +kernel
theorem dX12_includes_134 : decode cX12_includes 134 = .ok (.aload_n 0, 1) := by decide +kernel
theorem dX12_includes_135 : decode cX12_includes 135 = .ok (.iconst 3, 1) := by decide +kernel
theorem dX12_includes_136 : decode cX12_includes 136 = .ok (.invokevirtual 654, 3) := by decide +kernel
theorem dX12_includes_139 : decode cX12_includes 139 = .ok (.ifCond .ne 5, 3) := by decide +kernel
theorem dX12_includes_142 : decode cX12_includes 142 = .ok (.iconst 0, 1) := by decide +kernel
theorem dX12_includes_143 : decode cX12_includes 143 = .ok (.ireturn, 1) := by decide +kernel
theorem dX12_includes_144 : decode cX12_includes 144 = .ok (.iload 4, 2) := by decide +kernel
theorem dX12_includes_146 : decode cX12_includes 146 = .ok (.ifCond .eq 15, 3) := by decide +kernel
theorem dX12_includes_149 : decode cX12_includes 149 = .ok (.aload_n 0, 1) := by decide +kernel
theorem dX12_includes_150 : decode cX12_includes 150 = .ok (.getfield 68, 3) := by decide +kernel
theorem dX12_includes_153 : decode cX12_includes 153 = .ok (.iconst 4, 1) := by decide +kernel
theorem dX12_includes_154 : decode cX12_includes 154 = .ok (.dup2, 1) := by decide +kernel
theorem dX12_includes_155 : decode cX12_includes 155 = .ok (.iaload, 1) := by decide +kernel
theorem dX12_includes_156 : decode cX12_includes 156 = .ok (.iconst 1, 1) := by decide +kernel
theorem dX12_includes_157 : decode cX12_includes 157 = .ok (.iadd, 1) := by decide +kernel
theorem dX12_includes_158 : decode cX12_includes 158 = .ok (.iastore, 1) := by decide +kernel
theorem dX12_includes_159 : decode cX12_includes 159 = .ok (.iconst 1, 1) := by decide +kernel
theorem dX12_includes_160 : decode cX12_includes 160 = .ok (.ireturn, 1) := by decide +kernel
theorem dX12_includes_161 : decode cX12_includes 161 = .ok (.aload_n 0, 1) := by decide +kernel
theorem dX12_includes_162 : decode cX12_includes 162 = .ok (.getfield 68, 3) := by decide +kernel
theorem dX12_includes_165 : decode cX12_includes 165 = .ok (.iconst 3, 1) := by decide +kernel
theorem dX12_includes_166 : decode cX12_includes 166 = .ok (.dup2, 1) := by decide +kernel
theorem dX12_includes_167 : decode cX12_includes 167 = .ok (.iaload, 1) := by decide +kernel
theorem dX12_includes_168 : decode cX12_includes 168 = .ok (.iconst 1, 1) := by decide +kernel
theorem dX12_includes_169 : decode cX12_includes 169 = .ok (.iadd, 1) := by decide +kernel
theorem dX12_includes_170 : decode cX12_includes 170 = .ok (.iastore, 1) := by decide +kernel
theorem dX12_includes_171 : decode cX12_includes 171 = .ok (.aload_n 0, 1) := by decide +kernel
theorem dX12_includes_172 : decode cX12_includes 172 = .ok (.dup, 1) := by decide +kernel
theorem dX12_includes_173 : decode cX12_includes 173 = .ok (.getfield 645, 3) := by decide +kernel
theorem dX12_includes_176 : decode cX12_includes 176 = .ok (.iconst 1, 1) := by decide +kernel
theorem dX12_includes_177 : decode cX12_includes 177 = .ok (.iadd, 1) := by decide +kernel
theorem dX12_includes_178 : decode cX12_includes 178 = .ok (.putfield 645, 3) := by decide +kernel
theorem dX12_includes_181 : decode cX12_includes 181 = .ok (.aload_n 0, 1) := by decide +kernel
theorem dX12_includes_182 : decode cX12_includes 182 = .ok (.getfield 645, 3) := by decide +kernel
theorem dX12_includes_185 : decode cX12_includes 185 = .ok (.aload_n 0, 1) := by decide +kernel
theorem dX12_includes_186 : decode cX12_includes 186 = .ok (.getfield 68, 3) := by decide +kernel
