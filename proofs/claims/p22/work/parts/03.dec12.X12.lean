theorem dX12_throwsIf_0 : decode cX12_throwsIf 0 = .ok (.aload_n 0, 1) := by decide +kernel
theorem dX12_throwsIf_1 : decode cX12_throwsIf 1 = .ok (.iload_n 1, 1) := by decide +kernel
theorem dX12_throwsIf_2 : decode cX12_throwsIf 2 = .ok (.ifCond .eq 7, 3) := by decide +kernel
theorem dX12_throwsIf_5 : decode cX12_throwsIf 5 = .ok (.iconst 1, 1) := by decide +kernel
theorem dX12_throwsIf_6 : decode cX12_throwsIf 6 = .ok (.goto 4, 3) := by decide +kernel
theorem dX12_throwsIf_9 : decode cX12_throwsIf 9 = .ok (.iconst 0, 1) := by decide +kernel
theorem dX12_throwsIf_10 : decode cX12_throwsIf 10 = .ok (.putfield 1, 3) := by decide +kernel
theorem dX12_throwsIf_13 : decode cX12_throwsIf 13 = .ok (.iload_n 1, 1) := by decide +kernel
theorem dX12_throwsIf_14 : decode cX12_throwsIf 14 = .ok (.ireturn, 1) := by decide +kernel
theorem dX12_init_0 : decode cX12_init 0 = .ok (.aload_n 0, 1) := by decide +kernel
theorem dX12_init_1 : decode cX12_init 1 = .ok (.invokespecial 7, 3) := by decide +kernel
theorem dX12_init_4 : decode cX12_init 4 = .ok (.aload_n 0, 1) := by decide +kernel
theorem dX12_init_5 : decode cX12_init 5 = .ok (.sipush 440, 3) := by decide +kernel
theorem dX12_init_8 : decode cX12_init 8 = .ok (.newarray .byte, 2) := by decide +kernel
theorem dX12_init_10 : decode cX12_init 10 = .ok (.putfield 13, 3) := by decide +kernel
theorem dX12_init_13 : decode cX12_init 13 = .ok (.aload_n 0, 1) := by decide +kernel
theorem dX12_init_14 : decode cX12_init 14 = .ok (.sipush 173, 3) := by decide +kernel
theorem dX12_init_17 : decode cX12_init 17 = .ok (.newarray .int, 2) := by decide +kernel
theorem dX12_init_19 : decode cX12_init 19 = .ok (.putfield 17, 3) := by decide +kernel
theorem dX12_init_22 : decode cX12_init 22 = .ok (.aload_n 0, 1) := by decide +kernel
theorem dX12_init_23 : decode cX12_init 23 = .ok (.sipush 346, 3) := by decide +kernel
theorem dX12_init_26 : decode cX12_init 26 = .ok (.newarray .int, 2) := by decide +kernel
theorem dX12_init_28 : decode cX12_init 28 = .ok (.putfield 21, 3) := by decide +kernel
theorem dX12_init_31 : decode cX12_init 31 = .ok (.aload_n 0, 1) := by decide +kernel
theorem dX12_init_32 : decode cX12_init 32 = .ok (.sipush 1690, 3) := by decide +kernel
theorem dX12_init_35 : decode cX12_init 35 = .ok (.newarray .byte, 2) := by decide +kernel
theorem dX12_init_37 : decode cX12_init 37 = .ok (.putfield 24, 3) := by decide +kernel
theorem dX12_init_40 : decode cX12_init 40 = .ok (.aload_n 0, 1) := by decide +kernel
theorem dX12_init_41 : decode cX12_init 41 = .ok (.sipush 3380, 3) := by decide +kernel
theorem dX12_init_44 : decode cX12_init 44 = .ok (.newarray .byte, 2) := by decide +kernel
theorem dX12_init_46 : decode cX12_init 46 = .ok (.putfield 27, 3) := by decide +kernel
theorem dX12_init_49 : decode cX12_init 49 = .ok (.aload_n 0, 1) := by decide +kernel
theorem dX12_init_50 : decode cX12_init 50 = .ok (.iconst 2, 1) := by decide +kernel
theorem dX12_init_51 : decode cX12_init 51 = .ok (.newarray .boolean, 2) := by decide +kernel
theorem dX12_init_53 : decode cX12_init 53 = .ok (.putfield 30, 3) := by decide +kernel
theorem dX12_init_56 : decode cX12_init 56 = .ok (.aload_n 0, 1) := by decide +kernel
theorem dX12_init_57 : decode cX12_init 57 = .ok (.bipush 8, 2) := by decide +kernel
theorem dX12_init_59 : decode cX12_init 59 = .ok (.newarray .int, 2) := by decide +kernel
theorem dX12_init_61 : decode cX12_init 61 = .ok (.putfield 34, 3) := by decide +kernel
theorem dX12_init_64 : decode cX12_init 64 = .ok (.aload_n 0, 1) := by decide +kernel
theorem dX12_init_65 : decode cX12_init 65 = .ok (.bipush 30, 2) := by decide +kernel
theorem dX12_init_67 : decode cX12_init 67 = .ok (.newarray .byte, 2) := by decide +kernel
theorem dX12_init_69 : decode cX12_init 69 = .ok (.putfield 37, 3) := by decide +kernel
theorem dX12_init_72 : decode cX12_init 72 = .ok (.aload_n 0, 1) := by decide +kernel
theorem dX12_init_73 : decode cX12_init 73 = .ok (.sipush 18600, 3) := by decide +kernel
theorem dX12_init_76 : decode cX12_init 76 = .ok (.newarray .int, 2) := by decide +kernel
theorem dX12_init_78 : decode cX12_init 78 = .ok (.putfield 40, 3) := by decide +kernel
theorem dX12_init_81 : decode cX12_init 81 = .ok (.aload_n 0, 1) := by decide +kernel
theorem dX12_init_82 : decode cX12_init 82 = .ok (.sipush 18600, 3) := by decide +kernel
theorem dX12_init_85 : decode cX12_init 85 = .ok (.newarray .int, 2) := by decide +kernel
theorem dX12_init_87 : decode cX12_init 87 = .ok (.putfield 43, 3) := by decide +kernel
theorem dX12_init_90 : decode cX12_init 90 = .ok (.aload_n 0, 1) := by decide +kernel
theorem dX12_init_91 : decode cX12_init 91 = .ok (.sipush 18600, 3) := by decide +kernel
theorem dX12_init_94 : decode cX12_init 94 = .ok (.newarray .int, 2) := by decide +kernel
theorem dX12_init_96 : decode cX12_init 96 = .ok (.putfield 46, 3) := by decide +kernel
theorem dX12_init_99 : decode cX12_init 99 = .ok (.aload_n 0, 1) := by decide +kernel
theorem dX12_init_100 : decode cX12_init 100 = .ok (.sipush 18600, 3) := by decide +kernel
theorem dX12_init_103 : decode cX12_init 103 = .ok (.newarray .int, 2) := by decide +kernel
theorem dX12_init_105 : decode cX12_init 105 = .ok (.putfield 49, 3) := by decide +kernel
theorem dX12_init_108 : decode cX12_init 108 = .ok (.aload_n 0, 1) := by decide +kernel
theorem dX12_init_109 : decode cX12_init 109 = .ok (.sipush 18600, 3) := by decide +kernel
theorem dX12_init_112 : decode cX12_init 112 = .ok (.newarray .int, 2) := by decide +kernel
theorem dX12_init_114 : decode cX12_init 114 = .ok (.putfield 52, 3) := by decide +kernel
theorem dX12_init_117 : decode cX12_init 117 = .ok (.aload_n 0, 1) := by decide +kernel
theorem dX12_init_118 : decode cX12_init 118 = .ok (.sipush 18600, 3) := by decide +kernel
theorem dX12_init_121 : decode cX12_init 121 = .ok (.newarray .int, 2) := by decide +kernel
theorem dX12_init_123 : decode cX12_init 123 = .ok (.putfield 55, 3) := by decide +kernel
theorem dX12_init_126 : decode cX12_init 126 = .ok (.aload_n 0, 1) := by decide +kernel
theorem dX12_init_127 : decode cX12_init 127 = .ok (.sipush 18600, 3) := by decide +kernel
theorem dX12_init_130 : decode cX12_init 130 = .ok (.newarray .int, 2) := by decide +kernel
theorem dX12_init_132 : decode cX12_init 132 = .ok (.putfield 58, 3) := by decide +kernel
theorem dX12_init_135 : decode cX12_init 135 = .ok (.aload_n 0, 1) := by decide +kernel
theorem dX12_init_136 : decode cX12_init 136 = .ok (.sipush 18600, 3) := by decide +kernel
theorem dX12_init_139 : decode cX12_init 139 = .ok (.newarray .int, 2) := by decide +kernel
theorem dX12_init_141 : decode cX12_init 141 = .ok (.putfield 61, 3) := by decide +kernel
theorem dX12_init_144 : decode cX12_init 144 = .ok (.aload_n 0, 1) := by decide +kernel
theorem dX12_init_145 : decode cX12_init 145 = .ok (.ldc 64, 2) := by decide +kernel
theorem dX12_init_147 : decode cX12_init 147 = .ok (.newarray .byte, 2) := by decide +kernel
theorem dX12_init_149 : decode cX12_init 149 = .ok (.putfield 65, 3) := by decide +kernel
theorem dX12_init_152 : decode cX12_init 152 = .ok (.aload_n 0, 1) := by decide +kernel
theorem dX12_init_153 : decode cX12_init 153 = .ok (.sipush 1219, 3) := by decide +kernel
theorem dX12_init_156 : decode cX12_init 156 = .ok (.newarray .int, 2) := by decide +kernel
theorem dX12_init_158 : decode cX12_init 158 = .ok (.putfield 68, 3) := by decide +kernel
theorem dX12_init_161 : decode cX12_init 161 = .ok (.aload_n 0, 1) := by decide +kernel
theorem dX12_init_162 : decode cX12_init 162 = .ok (.sipush 1219, 3) := by decide +kernel
theorem dX12_init_165 : decode cX12_init 165 = .ok (.newarray .int, 2) := by decide +kernel
theorem dX12_init_167 : decode cX12_init 167 = .ok (.putfield 71, 3) := by decide +kernel
theorem dX12_init_170 : decode cX12_init 170 = .ok (.aload_n 0, 1) := by decide +kernel
theorem dX12_init_171 : decode cX12_init 171 = .ok (.sipush 7560, 3) := by decide +kernel
theorem dX12_init_174 : decode cX12_init 174 = .ok (.newarray .byte, 2) := by decide +kernel
theorem dX12_init_176 : decode cX12_init 176 = .ok (.putfield 74, 3) := by decide +kernel
theorem dX12_init_179 : decode cX12_init 179 = .ok (.aload_n 0, 1) := by decide +kernel
theorem dX12_init_180 : decode cX12_init 180 = .ok (.sipush 7560, 3) := by decide +kernel
theorem dX12_init_183 : decode cX12_init 183 = .ok (.newarray .byte, 2) := by decide +kernel
theorem dX12_init_185 : decode cX12_init 185 = .ok (.putfield 77, 3) := by decide +kernel
theorem dX12_init_188 : decode cX12_init 188 = .ok (.aload_n 0, 1) := by decide +kernel
theorem dX12_init_189 : decode cX12_init 189 = .ok (.bipush 30, 2) := by decide +kernel
theorem dX12_init_191 : decode cX12_init 191 = .ok (.newarray .byte, 2) := by decide +kernel
theorem dX12_init_193 : decode cX12_init 193 = .ok (.putfield 80, 3) := by decide +kernel
theorem dX12_init_196 : decode cX12_init 196 = .ok (.aload_n 0, 1) := by decide +kernel
theorem dX12_init_197 : decode cX12_init 197 = .ok (.iconst 4, 1) := by decide +kernel
theorem dX12_init_198 : decode cX12_init 198 = .ok (.newarray .int, 2) := by decide +kernel
theorem dX12_init_200 : decode cX12_init 200 = .ok (.putfield 83, 3) := by decide +kernel
theorem dX12_init_203 : decode cX12_init 203 = .ok (.aload_n 0, 1) := by decide +kernel
theorem dX12_init_204 : decode cX12_init 204 = .ok (.sipush 256, 3) := by decide +kernel
theorem dX12_init_207 : decode cX12_init 207 = .ok (.newarray .int, 2) := by decide +kernel
theorem dX12_init_209 : decode cX12_init 209 = .ok (.putfield 86, 3) := by decide +kernel
theorem dX12_init_212 : decode cX12_init 212 = .ok (.aload_n 0, 1) := by decide +kernel
theorem dX12_init_213 : decode cX12_init 213 = .ok (.sipush 256, 3) := by decide +kernel
theorem dX12_init_216 : decode cX12_init 216 = .ok (.newarray .int, 2) := by decide +kernel
theorem dX12_init_218 : decode cX12_init 218 = .ok (.putfield 89, 3) := by decide +kernel
theorem dX12_init_221 : decode cX12_init 221 = .ok (.aload_n 0, 1) := by decide +kernel
theorem dX12_init_222 : decode cX12_init 222 = .ok (.sipush 256, 3) := by decide +kernel
theorem dX12_init_225 : decode cX12_init 225 = .ok (.newarray .int, 2) := by decide +kernel
theorem dX12_init_227 : decode cX12_init 227 = .ok (.putfield 92, 3) := by decide +kernel
theorem dX12_init_230 : decode cX12_init 230 = .ok (.aload_n 0, 1) := by decide +kernel
theorem dX12_init_231 : decode cX12_init 231 = .ok (.bipush 102, 2) := by decide +kernel
theorem dX12_init_233 : decode cX12_init 233 = .ok (.newarray .int, 2) := by decide +kernel
theorem dX12_init_235 : decode cX12_init 235 = .ok (.putfield 95, 3) := by decide +kernel
theorem dX12_init_238 : decode cX12_init 238 = .ok (.aload_n 0, 1) := by decide +kernel
theorem dX12_init_239 : decode cX12_init 239 = .ok (.bipush 102, 2) := by decide +kernel
theorem dX12_init_241 : decode cX12_init 241 = .ok (.newarray .int, 2) := by decide +kernel
theorem dX12_init_243 : decode cX12_init 243 = .ok (.putfield 98, 3) := by decide +kernel
theorem dX12_init_246 : decode cX12_init 246 = .ok (.aload_n 0, 1) := by decide +kernel
theorem dX12_init_247 : decode cX12_init 247 = .ok (.bipush 102, 2) := by decide +kernel
theorem dX12_init_249 : decode cX12_init 249 = .ok (.newarray .int, 2) := by decide +kernel
theorem dX12_init_251 : decode cX12_init 251 = .ok (.putfield 101, 3) := by decide +kernel
theorem dX12_init_254 : decode cX12_init 254 = .ok (.aload_n 0, 1) := by decide +kernel
theorem dX12_init_255 : decode cX12_init 255 = .ok (.bipush 102, 2) := by decide +kernel
theorem dX12_init_257 : decode cX12_init 257 = .ok (.newarray .int, 2) := by decide +kernel
theorem dX12_init_259 : decode cX12_init 259 = .ok (.putfield 104, 3) := by decide +kernel
theorem dX12_init_262 : decode cX12_init 262 = .ok (.aload_n 0, 1) := by decide +kernel
theorem dX12_init_263 : decode cX12_init 263 = .ok (.bipush 102, 2) := by decide +kernel
theorem dX12_init_265 : decode cX12_init 265 = .ok (.newarray .int, 2) := by decide +kernel
theorem dX12_init_267 : decode cX12_init 267 = .ok (.putfield 107, 3) := by decide +kernel
theorem dX12_init_270 : decode cX12_init 270 = .ok (.aload_n 0, 1) := by decide +kernel
theorem dX12_init_271 : decode cX12_init 271 = .ok (.bipush 102, 2) := by decide +kernel
theorem dX12_init_273 : decode cX12_init 273 = .ok (.newarray .int, 2) := by decide +kernel
theorem dX12_init_275 : decode cX12_init 275 = .ok (.putfield 110, 3) := by decide +kernel
theorem dX12_init_278 : decode cX12_init 278 = .ok (.aload_n 0, 1) := by decide +kernel
theorem dX12_init_279 : decode cX12_init 279 = .ok (.sipush 510, 3) := by decide +kernel
theorem dX12_init_282 : decode cX12_init 282 = .ok (.newarray .int, 2) := by decide +kernel
theorem dX12_init_284 : decode cX12_init 284 = .ok (.putfield 113, 3) := by decide +kernel
theorem dX12_init_287 : decode cX12_init 287 = .ok (.aload_n 0, 1) := by decide +kernel
theorem dX12_init_288 : decode cX12_init 288 = .ok (.bipush 102, 2) := by decide +kernel
theorem dX12_init_290 : decode cX12_init 290 = .ok (.newarray .int, 2) := by decide +kernel
theorem dX12_init_292 : decode cX12_init 292 = .ok (.putfield 116, 3) := by decide +kernel
theorem dX12_init_295 : decode cX12_init 295 = .ok (.aload_n 0, 1) := by decide +kernel
theorem dX12_init_296 : decode cX12_init 296 = .ok (.bipush 102, 2) := by decide +kernel
theorem dX12_init_298 : decode cX12_init 298 = .ok (.newarray .int, 2) := by decide +kernel
theorem dX12_init_300 : decode cX12_init 300 = .ok (.putfield 119, 3) := by decide +kernel
theorem dX12_init_303 : decode cX12_init 303 = .ok (.aload_n 0, 1) := by decide +kernel
theorem dX12_init_304 : decode cX12_init 304 = .ok (.bipush 102, 2) := by decide +kernel
theorem dX12_init_306 : decode cX12_init 306 = .ok (.newarray .int, 2) := by decide +kernel
theorem dX12_init_308 : decode cX12_init 308 = .ok (.putfield 122, 3) := by decide +kernel
theorem dX12_init_311 : decode cX12_init 311 = .ok (.aload_n 0, 1) := by decide +kernel
theorem dX12_init_312 : decode cX12_init 312 = .ok (.sipush 2040, 3) := by decide +kernel
theorem dX12_init_315 : decode cX12_init 315 = .ok (.newarray .int, 2) := by decide +kernel
theorem dX12_init_317 : decode cX12_init 317 = .ok (.putfield 125, 3) := by decide +kernel
theorem dX12_init_320 : decode cX12_init 320 = .ok (.aload_n 0, 1) := by decide +kernel
theorem dX12_init_321 : decode cX12_init 321 = .ok (.sipush 2040, 3) := by decide +kernel
theorem dX12_init_324 : decode cX12_init 324 = .ok (.newarray .int, 2) := by decide +kernel
theorem dX12_init_326 : decode cX12_init 326 = .ok (.putfield 128, 3) := by decide +kernel
theorem dX12_init_329 : decode cX12_init 329 = .ok (.aload_n 0, 1) := by decide +kernel
theorem dX12_init_330 : decode cX12_init 330 = .ok (.sipush 2040, 3) := by decide +kernel
theorem dX12_init_333 : decode cX12_init 333 = .ok (.newarray .int, 2) := by decide +kernel
theorem dX12_init_335 : decode cX12_init 335 = .ok (.putfield 131, 3) := by decide +kernel
theorem dX12_init_338 : decode cX12_init 338 = .ok (.aload_n 0, 1) := by decide +kernel
theorem dX12_init_339 : decode cX12_init 339 = .ok (.ldc 134, 2) := by decide +kernel
theorem dX12_init_341 : decode cX12_init 341 = .ok (.newarray .int, 2) := by decide +kernel
theorem dX12_init_343 : decode cX12_init 343 = .ok (.putfield 135, 3) := by decide +kernel
theorem dX12_init_346 : decode cX12_init 346 = .ok (.aload_n 0, 1) := by decide +kernel
theorem dX12_init_347 : decode cX12_init 347 = .ok (.sipush 3500, 3) := by decide +kernel
theorem dX12_init_350 : decode cX12_init 350 = .ok (.newarray .int, 2) := by decide +kernel
theorem dX12_init_352 : decode cX12_init 352 = .ok (.putfield 138, 3) := by decide +kernel
theorem dX12_init_355 : decode cX12_init 355 = .ok (.aload_n 0, 1) := by decide +kernel
theorem dX12_init_356 : decode cX12_init 356 = .ok (.sipush 140, 3) := by decide +kernel
theorem dX12_init_359 : decode cX12_init 359 = .ok (.newarray .int, 2) := by decide +kernel
theorem dX12_init_361 : decode cX12_init 361 = .ok (.putfield 141, 3) := by decide +kernel
theorem dX12_init_364 : decode cX12_init 364 = .ok (.aload_n 0, 1) := by decide +kernel
theorem dX12_init_365 : decode cX12_init 365 = .ok (.sipush 11000, 3) := by decide +kernel
theorem dX12_init_368 : decode cX12_init 368 = .ok (.newarray .int, 2) := by decide +kernel
theorem dX12_init_370 : decode cX12_init 370 = .ok (.putfield 144, 3) := by decide +kernel
theorem dX12_init_373 : decode cX12_init 373 = .ok (.aload_n 0, 1) := by decide +kernel
theorem dX12_init_374 : decode cX12_init 374 = .ok (.sipush 11000, 3) := by decide +kernel
theorem dX12_init_377 : decode cX12_init 377 = .ok (.newarray .int, 2) := by decide +kernel
theorem dX12_init_379 : decode cX12_init 379 = .ok (.putfield 147, 3) := by decide +kernel
theorem dX12_init_382 : decode cX12_init 382 = .ok (.aload_n 0, 1) := by decide +kernel
theorem dX12_init_383 : decode cX12_init 383 = .ok (.sipush 11000, 3) := by decide +kernel
theorem dX12_init_386 : decode cX12_init 386 = .ok (.newarray .int, 2) := by decide +kernel
theorem dX12_init_388 : decode cX12_init 388 = .ok (.putfield 150, 3) := by decide +kernel
theorem dX12_init_391 : decode cX12_init 391 = .ok (.aload_n 0, 1) := by decide +kernel
theorem dX12_init_392 : decode cX12_init 392 = .ok (.sipush 3600, 3) := by decide +kernel
theorem dX12_init_395 : decode cX12_init 395 = .ok (.newarray .int, 2) := by decide +kernel
theorem dX12_init_397 : decode cX12_init 397 = .ok (.putfield 153, 3) := by decide +kernel
theorem dX12_init_400 : decode cX12_init 400 = .ok (.aload_n 0, 1) := by decide +kernel
theorem dX12_init_401 : decode cX12_init 401 = .ok (.sipush 3600, 3) := by decide +kernel
theorem dX12_init_404 : decode cX12_init 404 = .ok (.newarray .int, 2) := by decide +kernel
theorem dX12_init_406 : decode cX12_init 406 = .ok (.putfield 156, 3) := by decide +kernel
theorem dX12_init_409 : decode cX12_init 409 = .ok (.aload_n 0, 1) := by decide +kernel
theorem dX12_init_410 : decode cX12_init 410 = .ok (.sipush 3600, 3) := by decide +kernel
theorem dX12_init_413 : decode cX12_init 413 = .ok (.newarray .int, 2) := by decide +kernel
theorem dX12_init_415 : decode cX12_init 415 = .ok (.putfield 159, 3) := by decide +kernel
theorem dX12_init_418 : decode cX12_init 418 = .ok (.aload_n 0, 1) := by decide +kernel
theorem dX12_init_419 : decode cX12_init 419 = .ok (.sipush 11000, 3) := by decide +kernel
theorem dX12_init_422 : decode cX12_init 422 = .ok (.newarray .long, 2) := by decide +kernel
theorem dX12_init_424 : decode cX12_init 424 = .ok (.putfield 162, 3) := by decide +kernel
theorem dX12_init_427 : decode cX12_init 427 = .ok (.aload_n 0, 1) := by decide +kernel
theorem dX12_init_428 : decode cX12_init 428 = .ok (.sipush 3600, 3) := by decide +kernel
theorem dX12_init_431 : decode cX12_init 431 = .ok (.newarray .long, 2) := by decide +kernel
theorem dX12_init_433 : decode cX12_init 433 = .ok (.putfield 166, 3) := by decide +kernel
theorem dX12_init_436 : decode cX12_init 436 = .ok (.aload_n 0, 1) := by decide +kernel
theorem dX12_init_437 : decode cX12_init 437 = .ok (.bipush 8, 2) := by decide +kernel
theorem dX12_init_439 : decode cX12_init 439 = .ok (.newarray .int, 2) := by decide +kernel
theorem dX12_init_441 : decode cX12_init 441 = .ok (.putfield 169, 3) := by decide +kernel
theorem dX12_init_444 : decode cX12_init 444 = .ok (.aload_n 0, 1) := by decide +kernel
theorem dX12_init_445 : decode cX12_init 445 = .ok (.bipush 8, 2) := by decide +kernel
theorem dX12_init_447 : decode cX12_init 447 = .ok (.newarray .int, 2) := by decide +kernel
theorem dX12_init_449 : decode cX12_init 449 = .ok (.putfield 172, 3) := by decide +kernel
theorem dX12_init_452 : decode cX12_init 452 = .ok (.aload_n 0, 1) := by decide +kernel
theorem dX12_init_453 : decode cX12_init 453 = .ok (.bipush 8, 2) := by decide +kernel
theorem dX12_init_455 : decode cX12_init 455 = .ok (.newarray .int, 2) := by decide +kernel
theorem dX12_init_457 : decode cX12_init 457 = .ok (.putfield 175, 3) := by decide +kernel
theorem dX12_init_460 : decode cX12_init 460 = .ok (.aload_n 0, 1) := by decide +kernel
theorem dX12_init_461 : decode cX12_init 461 = .ok (.sipush 290, 3) := by decide +kernel
theorem dX12_init_464 : decode cX12_init 464 = .ok (.newarray .int, 2) := by decide +kernel
theorem dX12_init_466 : decode cX12_init 466 = .ok (.putfield 178, 3) := by decide +kernel
theorem dX12_init_469 : decode cX12_init 469 = .ok (.aload_n 0, 1) := by decide +kernel
theorem dX12_init_470 : decode cX12_init 470 = .ok (.sipush 290, 3) := by decide +kernel
theorem dX12_init_473 : decode cX12_init 473 = .ok (.newarray .int, 2) := by decide +kernel
theorem dX12_init_475 : decode cX12_init 475 = .ok (.putfield 181, 3) := by decide +kernel
theorem dX12_init_478 : decode cX12_init 478 = .ok (.aload_n 0, 1) := by decide +kernel
theorem dX12_init_479 : decode cX12_init 479 = .ok (.sipush 290, 3) := by decide +kernel
theorem dX12_init_482 : decode cX12_init 482 = .ok (.newarray .int, 2) := by decide +kernel
theorem dX12_init_484 : decode cX12_init 484 = .ok (.putfield 184, 3) := by decide +kernel
theorem dX12_init_487 : decode cX12_init 487 = .ok (.aload_n 0, 1) := by decide +kernel
theorem dX12_init_488 : decode cX12_init 488 = .ok (.sipush 290, 3) := by decide +kernel
theorem dX12_init_491 : decode cX12_init 491 = .ok (.newarray .int, 2) := by decide +kernel
theorem dX12_init_493 : decode cX12_init 493 = .ok (.putfield 187, 3) := by decide +kernel
theorem dX12_init_496 : decode cX12_init 496 = .ok (.aload_n 0, 1) := by decide +kernel
theorem dX12_init_497 : decode cX12_init 497 = .ok (.sipush 290, 3) := by decide +kernel
theorem dX12_init_500 : decode cX12_init 500 = .ok (.newarray .int, 2) := by decide +kernel
theorem dX12_init_502 : decode cX12_init 502 = .ok (.putfield 190, 3) := by decide +kernel
theorem dX12_init_505 : decode cX12_init 505 = .ok (.aload_n 0, 1) := by decide +kernel
theorem dX12_init_506 : decode cX12_init 506 = .ok (.sipush 3500, 3) := by decide +kernel
theorem dX12_init_509 : decode cX12_init 509 = .ok (.newarray .int, 2) := by decide +kernel
theorem dX12_init_511 : decode cX12_init 511 = .ok (.putfield 193, 3) := by decide +kernel
theorem dX12_init_514 : decode cX12_init 514 = .ok (.aload_n 0, 1) := by decide +kernel
theorem dX12_init_515 : decode cX12_init 515 = .ok (.sipush 3500, 3) := by decide +kernel
theorem dX12_init_518 : decode cX12_init 518 = .ok (.newarray .int, 2) := by decide +kernel
theorem dX12_init_520 : decode cX12_init 520 = .ok (.putfield 196, 3) := by decide +kernel
theorem dX12_init_523 : decode cX12_init 523 = .ok (.aload_n 0, 1) := by decide +kernel
theorem dX12_init_524 : decode cX12_init 524 = .ok (.sipush 3500, 3) := by decide +kernel
theorem dX12_init_527 : decode cX12_init 527 = .ok (.newarray .int, 2) := by decide +kernel
theorem dX12_init_529 : decode cX12_init 529 = .ok (.putfield 199, 3) := by decide +kernel
theorem dX12_init_532 : decode cX12_init 532 = .ok (.aload_n 0, 1) := by decide +kernel
theorem dX12_init_533 : decode cX12_init 533 = .ok (.sipush 3500, 3) := by decide +kernel
theorem dX12_init_536 : decode cX12_init 536 = .ok (.newarray .int, 2) := by decide +kernel
theorem dX12_init_538 : decode cX12_init 538 = .ok (.putfield 202, 3) := by decide +kernel
theorem dX12_init_541 : decode cX12_init 541 = .ok (.aload_n 0, 1) := by decide +kernel
theorem dX12_init_542 : decode cX12_init 542 = .ok (.sipush 3500, 3) := by decide +kernel
theorem dX12_init_545 : decode cX12_init 545 = .ok (.newarray .int, 2) := by decide +kernel
theorem dX12_init_547 : decode cX12_init 547 = .ok (.putfield 205, 3) := by decide +kernel
theorem dX12_init_550 : decode cX12_init 550 = .ok (.aload_n 0, 1) := by decide +kernel
theorem dX12_init_551 : decode cX12_init 551 = .ok (.sipush 3500, 3) := by decide +kernel
theorem dX12_init_554 : decode cX12_init 554 = .ok (.newarray .int, 2) := by decide +kernel
theorem dX12_init_556 : decode cX12_init 556 = .ok (.putfield 208, 3) := by decide +kernel
theorem dX12_init_559 : decode cX12_init 559 = .ok (.aload_n 0, 1) := by decide +kernel
theorem dX12_init_560 : decode cX12_init 560 = .ok (.sipush 3500, 3) := by decide +kernel
theorem dX12_init_563 : decode cX12_init 563 = .ok (.newarray .int, 2) := by decide +kernel
theorem dX12_init_565 : decode cX12_init 565 = .ok (.putfield 211, 3) := by decide +kernel
theorem dX12_init_568 : decode cX12_init 568 = .ok (.aload_n 0, 1) := by decide +kernel
theorem dX12_init_569 : decode cX12_init 569 = .ok (.sipush 3500, 3) := by decide +kernel
theorem dX12_init_572 : decode cX12_init 572 = .ok (.newarray .int, 2) := by decide +kernel
theorem dX12_init_574 : decode cX12_init 574 = .ok (.putfield 214, 3) := by decide +kernel
theorem dX12_init_577 : decode cX12_init 577 = .ok (.aload_n 0, 1) := by decide +kernel
theorem dX12_init_578 : decode cX12_init 578 = .ok (.ldc 217, 2) := by decide +kernel
theorem dX12_init_580 : decode cX12_init 580 = .ok (.newarray .byte, 2) := by decide +kernel
theorem dX12_init_582 : decode cX12_init 582 = .ok (.putfield 218, 3) := by decide +kernel
theorem dX12_init_585 : decode cX12_init 585 = .ok (.aload_n 0, 1) := by decide +kernel
theorem dX12_init_586 : decode cX12_init 586 = .ok (.iconst 4, 1) := by decide +kernel
theorem dX12_init_587 : decode cX12_init 587 = .ok (.newarray .int, 2) := by decide +kernel
theorem dX12_init_589 : decode cX12_init 589 = .ok (.putfield 221, 3) := by decide +kernel
theorem dX12_init_592 : decode cX12_init 592 = .ok (.aload_n 0, 1) := by decide +kernel
theorem dX12_init_593 : decode cX12_init 593 = .ok (.sipush 3500, 3) := by decide +kernel
theorem dX12_init_596 : decode cX12_init 596 = .ok (.newarray .int, 2) := by decide +kernel
theorem dX12_init_598 : decode cX12_init 598 = .ok (.putfield 224, 3) := by decide +kernel
theorem dX12_init_601 : decode cX12_init 601 = .ok (.aload_n 0, 1) := by decide +kernel
theorem dX12_init_602 : decode cX12_init 602 = .ok (.sipush 3500, 3) := by decide +kernel
theorem dX12_init_605 : decode cX12_init 605 = .ok (.newarray .int, 2) := by decide +kernel
theorem dX12_init_607 : decode cX12_init 607 = .ok (.putfield 227, 3) := by decide +kernel
theorem dX12_init_610 : decode cX12_init 610 = .ok (.aload_n 0, 1) := by decide +kernel
theorem dX12_init_611 : decode cX12_init 611 = .ok (.sipush 3500, 3) := by decide +kernel
theorem dX12_init_614 : decode cX12_init 614 = .ok (.newarray .int, 2) := by decide +kernel
theorem dX12_init_616 : decode cX12_init 616 = .ok (.putfield 230, 3) := by decide +kernel
theorem dX12_init_619 : decode cX12_init 619 = .ok (.aload_n 0, 1) := by decide +kernel
theorem dX12_init_620 : decode cX12_init 620 = .ok (.sipush 3500, 3) := by decide +kernel
theorem dX12_init_623 : decode cX12_init 623 = .ok (.newarray .int, 2) := by decide +kernel
theorem dX12_init_625 : decode cX12_init 625 = .ok (.putfield 233, 3) := by decide +kernel
theorem dX12_init_628 : decode cX12_init 628 = .ok (.aload_n 0, 1) := by decide +kernel
theorem dX12_init_629 : decode cX12_init 629 = .ok (.sipush 3500, 3) := by decide +kernel
theorem dX12_init_632 : decode cX12_init 632 = .ok (.newarray .int, 2) := by decide +kernel
theorem dX12_init_634 : decode cX12_init 634 = .ok (.putfield 236, 3) := by decide +kernel
theorem dX12_init_637 : decode cX12_init 637 = .ok (.aload_n 0, 1) := by decide +kernel
theorem dX12_init_638 : decode cX12_init 638 = .ok (.sipush 3500, 3) := by decide +kernel
theorem dX12_init_641 : decode cX12_init 641 = .ok (.newarray .int, 2) := by decide +kernel
theorem dX12_init_643 : decode cX12_init 643 = .ok (.putfield 239, 3) := by decide +kernel
theorem dX12_init_646 : decode cX12_init 646 = .ok (.aload_n 0, 1) := by decide +kernel
theorem dX12_init_647 : decode cX12_init 647 = .ok (.sipush 3500, 3) := by decide +kernel
theorem dX12_init_650 : decode cX12_init 650 = .ok (.newarray .int, 2) := by decide +kernel
theorem dX12_init_652 : decode cX12_init 652 = .ok (.putfield 242, 3) := by decide +kernel
theorem dX12_init_655 : decode cX12_init 655 = .ok (.aload_n 0, 1) := by decide +kernel
theorem dX12_init_656 : decode cX12_init 656 = .ok (.sipush 3500, 3) := by decide +kernel
theorem dX12_init_659 : decode cX12_init 659 = .ok (.newarray .int, 2) := by decide +kernel
theorem dX12_init_661 : decode cX12_init 661 = .ok (.putfield 245, 3) := by decide +kernel
theorem dX12_init_664 : decode cX12_init 664 = .ok (.aload_n 0, 1) := by decide +kernel
theorem dX12_init_665 : decode cX12_init 665 = .ok (.ldc 217, 2) := by decide +kernel
theorem dX12_init_667 : decode cX12_init 667 = .ok (.newarray .byte, 2) := by decide +kernel
theorem dX12_init_669 : decode cX12_init 669 = .ok (.putfield 248, 3) := by decide +kernel
theorem dX12_init_672 : decode cX12_init 672 = .ok (.aload_n 0, 1) := by decide +kernel
theorem dX12_init_673 : decode cX12_init 673 = .ok (.sipush 160, 3) := by decide +kernel
theorem dX12_init_676 : decode cX12_init 676 = .ok (.newarray .int, 2) := by decide +kernel
theorem dX12_init_678 : decode cX12_init 678 = .ok (.putfield 251, 3) := by decide +kernel
theorem dX12_init_681 : decode cX12_init 681 = .ok (.aload_n 0, 1) := by decide +kernel
theorem dX12_init_682 : decode cX12_init 682 = .ok (.bipush 8, 2) := by decide +kernel
theorem dX12_init_684 : decode cX12_init 684 = .ok (.newarray .int, 2) := by decide +kernel
theorem dX12_init_686 : decode cX12_init 686 = .ok (.putfield 254, 3) := by decide +kernel
theorem dX12_init_689 : decode cX12_init 689 = .ok (.aload_n 0, 1) := by decide +kernel
theorem dX12_init_690 : decode cX12_init 690 = .ok (.bipush 8, 2) := by decide +kernel
theorem dX12_init_692 : decode cX12_init 692 = .ok (.newarray .int, 2) := by decide +kernel
theorem dX12_init_694 : decode cX12_init 694 = .ok (.putfield 257, 3) := by decide +kernel
theorem dX12_init_697 : decode cX12_init 697 = .ok (.aload_n 0, 1) := by decide +kernel
theorem dX12_init_698 : decode cX12_init 698 = .ok (.bipush 32, 2) := by decide +kernel
theorem dX12_init_700 : decode cX12_init 700 = .ok (.newarray .int, 2) := by decide +kernel
theorem dX12_init_702 : decode cX12_init 702 = .ok (.putfield 260, 3) := by decide +kernel
theorem dX12_init_705 : decode cX12_init 705 = .ok (.aload_n 0, 1) := by decide +kernel
theorem dX12_init_706 : decode cX12_init 706 = .ok (.ldc_w 263, 3) := by decide +kernel
theorem dX12_init_709 : decode cX12_init 709 = .ok (.newarray .byte, 2) := by decide +kernel
theorem dX12_init_711 : decode cX12_init 711 = .ok (.putfield 264, 3) := by decide +kernel
theorem dX12_init_714 : decode cX12_init 714 = .ok (.return_, 1) := by decide +kernel
theorem dX12_feed_0 : decode cX12_feed 0 = .ok (.aload_n 0, 1) := by decide +kernel
theorem dX12_feed_1 : decode cX12_feed 1 = .ok (.iconst 0, 1) := by decide +kernel
theorem dX12_feed_2 : decode cX12_feed 2 = .ok (.putfield 1, 3) := by decide +kernel
theorem dX12_feed_5 : decode cX12_feed 5 = .ok (.aload_n 0, 1) := by decide +kernel
theorem dX12_feed_6 : decode cX12_feed 6 = .ok (.getfield 267, 3) := by decide +kernel
theorem dX12_feed_9 : decode cX12_feed 9 = .ok (.bipush 20, 2) := by decide +kernel
theorem dX12_feed_11 : decode cX12_feed 11 = .ok (.iadd, 1) := by decide +kernel
theorem dX12_feed_12 : decode cX12_feed 12 = .ok (.sipush 440, 3) := by decide +kernel
theorem dX12_feed_15 : decode cX12_feed 15 = .ok (.if_icmp .le 5, 3) := by decide +kernel
theorem dX12_feed_18 : decode cX12_feed 18 = .ok (.iconst (-1), 1) := by decide +kernel
theorem dX12_feed_19 : decode cX12_feed 19 = .ok (.ireturn, 1) := by decide +kernel
theorem dX12_feed_20 : decode cX12_feed 20 = .ok (.aload_n 0, 1) := by decide +kernel
theorem dX12_feed_21 : decode cX12_feed 21 = .ok (.iload_n 1, 1) := by decide +kernel
theorem dX12_feed_22 : decode cX12_feed 22 = .ok (.invokevirtual 270, 3) := by decide +kernel
theorem dX12_feed_25 : decode cX12_feed 25 = .ok (.aload_n 0, 1) := by decide +kernel
theorem dX12_feed_26 : decode cX12_feed 26 = .ok (.iload_n 2, 1) := by decide +kernel
theorem dX12_feed_27 : decode cX12_feed 27 = .ok (.invokevirtual 270, 3) := by decide +kernel
theorem dX12_feed_30 : decode cX12_feed 30 = .ok (.aload_n 0, 1) := by decide +kernel
theorem dX12_feed_31 : decode cX12_feed 31 = .ok (.iload_n 3, 1) := by decide +kernel
theorem dX12_feed_32 : decode cX12_feed 32 = .ok (.invokevirtual 270, 3) := by decide +kernel
theorem dX12_feed_35 : decode cX12_feed 35 = .ok (.aload_n 0, 1) := by decide +kernel
theorem dX12_feed_36 : decode cX12_feed 36 = .ok (.iload 4, 2) := by decide +kernel
theorem dX12_feed_38 : decode cX12_feed 38 = .ok (.invokevirtual 270, 3) := by decide +kernel
theorem dX12_feed_41 : decode cX12_feed 41 = .ok (.aload_n 0, 1) := by decide +kernel
theorem dX12_feed_42 : decode cX12_feed 42 = .ok (.iload 5, 2) := by decide +kernel
theorem dX12_feed_44 : decode cX12_feed 44 = .ok (.invokevirtual 270, 3) := by decide +kernel
theorem dX12_feed_47 : decode cX12_feed 47 = .ok (.aload_n 0, 1) := by decide +kernel
theorem dX12_feed_48 : decode cX12_feed 48 = .ok (.getfield 267, 3) := by decide +kernel
theorem dX12_feed_51 : decode cX12_feed 51 = .ok (.ireturn, 1) := by decide +kernel
theorem dX12_four_0 : decode cX12_four 0 = .ok (.bipush 24, 2) := by decide +kernel
theorem dX12_four_2 : decode cX12_four 2 = .ok (.istore_n 2, 1) := by decide +kernel
theorem dX12_four_3 : decode cX12_four 3 = .ok (.iload_n 2, 1) := by decide +kernel
theorem dX12_four_4 : decode cX12_four 4 = .ok (.ifCond .lt 32, 3) := by decide +kernel
theorem dX12_four_7 : decode cX12_four 7 = .ok (.aload_n 0, 1) := by decide +kernel
theorem dX12_four_8 : decode cX12_four 8 = .ok (.getfield 13, 3) := by decide +kernel
theorem dX12_four_11 : decode cX12_four 11 = .ok (.aload_n 0, 1) := by decide +kernel
theorem dX12_four_12 : decode cX12_four 12 = .ok (.getfield 267, 3) := by decide +kernel
theorem dX12_four_15 : decode cX12_four 15 = .ok (.iload_n 1, 1) := by decide +kernel
theorem dX12_four_16 : decode cX12_four 16 = .ok (.iload_n 2, 1) := by decide +kernel
theorem dX12_four_17 : decode cX12_four 17 = .ok (.ishr, 1) := by decide +kernel
theorem dX12_four_18 : decode cX12_four 18 = .ok (.i2b, 1) := by decide +kernel
theorem dX12_four_19 : decode cX12_four 19 = .ok (.bastore, 1) := by decide +kernel
theorem dX12_four_20 : decode cX12_four 20 = .ok (.aload_n 0, 1) := by decide +kernel
theorem dX12_four_21 : decode cX12_four 21 = .ok (.dup, 1) := by decide +kernel
theorem dX12_four_22 : decode cX12_four 22 = .ok (.getfield 267, 3) := by decide +kernel
theorem dX12_four_25 : decode cX12_four 25 = .ok (.iconst 1, 1) := by decide +kernel
theorem dX12_four_26 : decode cX12_four 26 = .ok (.iadd, 1) := by decide +kernel
theorem dX12_four_27 : decode cX12_four 27 = .ok (.putfield 267, 3) := by decide +kernel
theorem dX12_four_30 : decode cX12_four 30 = .ok (.iinc 2 (-8), 3) := by decide +kernel
theorem dX12_four_33 : decode cX12_four 33 = .ok (.goto (-30), 3) := by decide +kernel
theorem dX12_four_36 : decode cX12_four 36 = .ok (.return_, 1) := by decide +kernel
theorem dX12_end_0 : decode cX12_end 0 = .ok (.aload_n 0, 1) := by decide +kernel
theorem dX12_end_1 : decode cX12_end 1 = .ok (.iconst 0, 1) := by decide +kernel
theorem dX12_end_2 : decode cX12_end 2 = .ok (.putfield 1, 3) := by decide +kernel
theorem dX12_end_5 : decode cX12_end 5 = .ok (.iload_n 1, 1) := by decide +kernel
theorem dX12_end_6 : decode cX12_end 6 = .ok (.ifCond .lt 11, 3) := by decide +kernel
theorem dX12_end_9 : decode cX12_end 9 = .ok (.iload_n 1, 1) := by decide +kernel
theorem dX12_end_10 : decode cX12_end 10 = .ok (.aload_n 0, 1) := by decide +kernel
theorem dX12_end_11 : decode cX12_end 11 = .ok (.getfield 267, 3) := by decide +kernel
theorem dX12_end_14 : decode cX12_end 14 = .ok (.if_icmp .le 5, 3) := by decide +kernel
theorem dX12_end_17 : decode cX12_end 17 = .ok (.iconst 0, 1) := by decide +kernel
theorem dX12_end_18 : decode cX12_end 18 = .ok (.ireturn, 1) := by decide +kernel
theorem dX12_end_19 : decode cX12_end 19 = .ok (.aload_n 0, 1) := by decide +kernel
theorem dX12_end_20 : decode cX12_end 20 = .ok (.iload_n 1, 1) := by decide +kernel
theorem dX12_end_21 : decode cX12_end 21 = .ok (.putfield 267, 3) := by decide +kernel
theorem dX12_end_24 : decode cX12_end 24 = .ok (.iconst 1, 1) := by decide +kernel
theorem dX12_end_25 : decode cX12_end 25 = .ok (.ireturn, 1) := by decide +kernel
theorem dX12_taken_0 : decode cX12_taken 0 = .ok (.aload_n 0, 1) := by decide +kernel
theorem dX12_taken_1 : decode cX12_taken 1 = .ok (.iconst 0, 1) := by decide +kernel
theorem dX12_taken_2 : decode cX12_taken 2 = .ok (.putfield 1, 3) := by decide +kernel
theorem dX12_taken_5 : decode cX12_taken 5 = .ok (.aload_n 0, 1) := by decide +kernel
theorem dX12_taken_6 : decode cX12_taken 6 = .ok (.aload_n 0, 1) := by decide +kernel
theorem dX12_taken_7 : decode cX12_taken 7 = .ok (.getfield 267, 3) := by decide +kernel
theorem dX12_taken_10 : decode cX12_taken 10 = .ok (.putfield 274, 3) := by decide +kernel
theorem dX12_taken_13 : decode cX12_taken 13 = .ok (.aload_n 0, 1) := by decide +kernel
theorem dX12_taken_14 : decode cX12_taken 14 = .ok (.iconst 0, 1) := by decide +kernel
theorem dX12_taken_15 : decode cX12_taken 15 = .ok (.putfield 267, 3) := by decide +kernel
theorem dX12_taken_18 : decode cX12_taken 18 = .ok (.return_, 1) := by decide +kernel
theorem dX12_isIn_0 : decode cX12_isIn 0 = .ok (.iload_n 0, 1) := by decide +kernel
theorem dX12_isIn_1 : decode cX12_isIn 1 = .ok (.iload_n 1, 1) := by decide +kernel
theorem dX12_isIn_2 : decode cX12_isIn 2 = .ok (.if_icmp .lt 12, 3) := by decide +kernel
theorem dX12_isIn_5 : decode cX12_isIn 5 = .ok (.iload_n 0, 1) := by decide +kernel
theorem dX12_isIn_6 : decode cX12_isIn 6 = .ok (.iload_n 2, 1) := by decide +kernel
theorem dX12_isIn_7 : decode cX12_isIn 7 = .ok (.if_icmp .gt 7, 3) := by decide +kernel
theorem dX12_isIn_10 : decode cX12_isIn 10 = .ok (.iconst 1, 1) := by decide +kernel
theorem dX12_isIn_11 : decode cX12_isIn 11 = .ok (.goto 4, 3) := by decide +kernel
theorem dX12_isIn_14 : decode cX12_isIn 14 = .ok (.iconst 0, 1) := by decide +kernel
theorem dX12_isIn_15 : decode cX12_isIn 15 = .ok (.ireturn, 1) := by decide +kernel
theorem dX12_bitOf_0 : decode cX12_bitOf 0 = .ok (.iload_n 0, 1) := by decide +kernel
theorem dX12_bitOf_1 : decode cX12_bitOf 1 = .ok (.iload_n 1, 1) := by decide +kernel
theorem dX12_bitOf_2 : decode cX12_bitOf 2 = .ok (.ishr, 1) := by decide +kernel
theorem dX12_bitOf_3 : decode cX12_bitOf 3 = .ok (.iconst 1, 1) := by decide +kernel
theorem dX12_bitOf_4 : decode cX12_bitOf 4 = .ok (.iand, 1) := by decide +kernel
theorem dX12_bitOf_5 : decode cX12_bitOf 5 = .ok (.iconst 1, 1) := by decide +kernel
theorem dX12_bitOf_6 : decode cX12_bitOf 6 = .ok (.if_icmp .ne 7, 3) := by decide +kernel
theorem dX12_bitOf_9 : decode cX12_bitOf 9 = .ok (.iconst 1, 1) := by decide +kernel
theorem dX12_bitOf_10 : decode cX12_bitOf 10 = .ok (.goto 4, 3) := by decide +kernel
theorem dX12_bitOf_13 : decode cX12_bitOf 13 = .ok (.iconst 0, 1) := by decide +kernel
theorem dX12_bitOf_14 : decode cX12_bitOf 14 = .ok (.ireturn, 1) := by decide +kernel
theorem dX12_isDigit_0 : decode cX12_isDigit 0 = .ok (.iload_n 0, 1) := by decide +kernel
theorem dX12_isDigit_1 : decode cX12_isDigit 1 = .ok (.bipush 48, 2) := by decide +kernel
theorem dX12_isDigit_3 : decode cX12_isDigit 3 = .ok (.if_icmp .lt 13, 3) := by decide +kernel
theorem dX12_isDigit_6 : decode cX12_isDigit 6 = .ok (.iload_n 0, 1) := by decide +kernel
theorem dX12_isDigit_7 : decode cX12_isDigit 7 = .ok (.bipush 57, 2) := by decide +kernel
theorem dX12_isDigit_9 : decode cX12_isDigit 9 = .ok (.if_icmp .gt 7, 3) := by decide +kernel
theorem dX12_isDigit_12 : decode cX12_isDigit 12 = .ok (.iconst 1, 1) := by decide +kernel
theorem dX12_isDigit_13 : decode cX12_isDigit 13 = .ok (.goto 4, 3) := by decide +kernel
theorem dX12_isDigit_16 : decode cX12_isDigit 16 = .ok (.iconst 0, 1) := by decide +kernel
theorem dX12_isDigit_17 : decode cX12_isDigit 17 = .ok (.ireturn, 1) := by decide +kernel
theorem dX12_isStart_0 : decode cX12_isStart 0 = .ok (.iload_n 0, 1) := by decide +kernel
theorem dX12_isStart_1 : decode cX12_isStart 1 = .ok (.bipush 97, 2) := by decide +kernel
theorem dX12_isStart_3 : decode cX12_isStart 3 = .ok (.if_icmp .lt 9, 3) := by decide +kernel
theorem dX12_isStart_6 : decode cX12_isStart 6 = .ok (.iload_n 0, 1) := by decide +kernel
theorem dX12_isStart_7 : decode cX12_isStart 7 = .ok (.bipush 122, 2) := by decide +kernel
theorem dX12_isStart_9 : decode cX12_isStart 9 = .ok (.if_icmp .le 21, 3) := by decide +kernel
theorem dX12_isStart_12 : decode cX12_isStart 12 = .ok (.iload_n 0, 1) := by decide +kernel
theorem dX12_isStart_13 : decode cX12_isStart 13 = .ok (.bipush 65, 2) := by decide +kernel
theorem dX12_isStart_15 : decode cX12_isStart 15 = .ok (.if_icmp .lt 9, 3) := by decide +kernel
theorem dX12_isStart_18 : decode cX12_isStart 18 = .ok (.iload_n 0, 1) := by decide +kernel
theorem dX12_isStart_19 : decode cX12_isStart 19 = .ok (.bipush 90, 2) := by decide +kernel
theorem dX12_isStart_21 : decode cX12_isStart 21 = .ok (.if_icmp .le 9, 3) := by decide +kernel
theorem dX12_isStart_24 : decode cX12_isStart 24 = .ok (.iload_n 0, 1) := by decide +kernel
theorem dX12_isStart_25 : decode cX12_isStart 25 = .ok (.bipush 95, 2) := by decide +kernel
theorem dX12_isStart_27 : decode cX12_isStart 27 = .ok (.if_icmp .ne 7, 3) := by decide +kernel
theorem dX12_isStart_30 : decode cX12_isStart 30 = .ok (.iconst 1, 1) := by decide +kernel
theorem dX12_isStart_31 : decode cX12_isStart 31 = .ok (.goto 4, 3) := by decide +kernel
theorem dX12_isStart_34 : decode cX12_isStart 34 = .ok (.iconst 0, 1) := by decide +kernel
theorem dX12_isStart_35 : decode cX12_isStart 35 = .ok (.ireturn, 1) := by decide +kernel
theorem dX12_isFile_0 : decode cX12_isFile 0 = .ok (.iload_n 1, 1) := by decide +kernel
theorem dX12_isFile_1 : decode cX12_isFile 1 = .ok (.iconst 0, 1) := by decide +kernel
theorem dX12_isFile_2 : decode cX12_isFile 2 = .ok (.iconst 3, 1) := by decide +kernel
theorem dX12_isFile_3 : decode cX12_isFile 3 = .ok (.invokestatic 277, 3) := by decide +kernel
theorem dX12_isFile_6 : decode cX12_isFile 6 = .ok (.ifCond .eq 19, 3) := by decide +kernel
theorem dX12_isFile_9 : decode cX12_isFile 9 = .ok (.aload_n 0, 1) := by decide +kernel
theorem dX12_isFile_10 : decode cX12_isFile 10 = .ok (.getfield 17, 3) := by decide +kernel
theorem dX12_isFile_13 : decode cX12_isFile 13 = .ok (.iconst 0, 1) := by decide +kernel
theorem dX12_isFile_14 : decode cX12_isFile 14 = .ok (.iload_n 1, 1) := by decide +kernel
theorem dX12_isFile_15 : decode cX12_isFile 15 = .ok (.iadd, 1) := by decide +kernel
theorem dX12_isFile_16 : decode cX12_isFile 16 = .ok (.iaload, 1) := by decide +kernel
theorem dX12_isFile_17 : decode cX12_isFile 17 = .ok (.iconst 1, 1) := by decide +kernel
theorem dX12_isFile_18 : decode cX12_isFile 18 = .ok (.if_icmp .ne 7, 3) := by decide +kernel
theorem dX12_isFile_21 : decode cX12_isFile 21 = .ok (.iconst 1, 1) := by decide +kernel
theorem dX12_isFile_22 : decode cX12_isFile 22 = .ok (.goto 4, 3) := by decide +kernel
theorem dX12_isFile_25 : decode cX12_isFile 25 = .ok (.iconst 0, 1) := by decide +kernel
theorem dX12_isFile_26 : decode cX12_isFile 26 = .ok (.ireturn, 1) := by decide +kernel
theorem dX12_linesOf_0 : decode cX12_linesOf 0 = .ok (.aload_n 0, 1) := by decide +kernel
theorem dX12_linesOf_1 : decode cX12_linesOf 1 = .ok (.getfield 17, 3) := by decide +kernel
theorem dX12_linesOf_4 : decode cX12_linesOf 4 = .ok (.iconst 4, 1) := by decide +kernel
theorem dX12_linesOf_5 : decode cX12_linesOf 5 = .ok (.iload_n 1, 1) := by decide +kernel
theorem dX12_linesOf_6 : decode cX12_linesOf 6 = .ok (.iadd, 1) := by decide +kernel
theorem dX12_linesOf_7 : decode cX12_linesOf 7 = .ok (.iaload, 1) := by decide +kernel
theorem dX12_linesOf_8 : decode cX12_linesOf 8 = .ok (.ireturn, 1) := by decide +kernel
theorem dX12_isLine_0 : decode cX12_isLine 0 = .ok (.aload_n 0, 1) := by decide +kernel
theorem dX12_isLine_1 : decode cX12_isLine 1 = .ok (.iload_n 1, 1) := by decide +kernel
theorem dX12_isLine_2 : decode cX12_isLine 2 = .ok (.invokevirtual 281, 3) := by decide +kernel
theorem dX12_isLine_5 : decode cX12_isLine 5 = .ok (.ifCond .eq 22, 3) := by decide +kernel
theorem dX12_isLine_8 : decode cX12_isLine 8 = .ok (.iload_n 2, 1) := by decide +kernel
theorem dX12_isLine_9 : decode cX12_isLine 9 = .ok (.iconst 0, 1) := by decide +kernel
theorem dX12_isLine_10 : decode cX12_isLine 10 = .ok (.aload_n 0, 1) := by decide +kernel
theorem dX12_isLine_11 : decode cX12_isLine 11 = .ok (.iload_n 1, 1) := by decide +kernel
theorem dX12_isLine_12 : decode cX12_isLine 12 = .ok (.invokevirtual 285, 3) := by decide +kernel
theorem dX12_isLine_15 : decode cX12_isLine 15 = .ok (.iconst 1, 1) := by decide +kernel
theorem dX12_isLine_16 : decode cX12_isLine 16 = .ok (.isub, 1) := by decide +kernel
theorem dX12_isLine_17 : decode cX12_isLine 17 = .ok (.invokestatic 277, 3) := by decide +kernel
theorem dX12_isLine_20 : decode cX12_isLine 20 = .ok (.ifCond .eq 7, 3) := by decide +kernel
theorem dX12_isLine_23 : decode cX12_isLine 23 = .ok (.iconst 1, 1) := by decide +kernel
theorem dX12_isLine_24 : decode cX12_isLine 24 = .ok (.goto 4, 3) := by decide +kernel
theorem dX12_isLine_27 : decode cX12_isLine 27 = .ok (.iconst 0, 1) := by decide +kernel
theorem dX12_isLine_28 : decode cX12_isLine 28 = .ok (.ireturn, 1) := by decide +kernel
theorem dX12_lengthOf_0 : decode cX12_lengthOf 0 = .ok (.aload_n 0, 1) := by decide +kernel
theorem dX12_lengthOf_1 : decode cX12_lengthOf 1 = .ok (.getfield 17, 3) := by decide +kernel
theorem dX12_lengthOf_4 : decode cX12_lengthOf 4 = .ok (.bipush 8, 2) := by decide +kernel
theorem dX12_lengthOf_6 : decode cX12_lengthOf 6 = .ok (.bipush 40, 2) := by decide +kernel
theorem dX12_lengthOf_8 : decode cX12_lengthOf 8 = .ok (.iload_n 1, 1) := by decide +kernel
theorem dX12_lengthOf_9 : decode cX12_lengthOf 9 = .ok (.imul, 1) := by decide +kernel
theorem dX12_lengthOf_10 : decode cX12_lengthOf 10 = .ok (.iadd, 1) := by decide +kernel
theorem dX12_lengthOf_11 : decode cX12_lengthOf 11 = .ok (.iload_n 2, 1) := by decide +kernel
theorem dX12_lengthOf_12 : decode cX12_lengthOf 12 = .ok (.iadd, 1) := by decide +kernel
theorem dX12_lengthOf_13 : decode cX12_lengthOf 13 = .ok (.iaload, 1) := by decide +kernel
theorem dX12_lengthOf_14 : decode cX12_lengthOf 14 = .ok (.ireturn, 1) := by decide +kernel
theorem dX12_beginOf_0 : decode cX12_beginOf 0 = .ok (.sipush 400, 3) := by decide +kernel
theorem dX12_beginOf_3 : decode cX12_beginOf 3 = .ok (.iload_n 1, 1) := by decide +kernel
theorem dX12_beginOf_4 : decode cX12_beginOf 4 = .ok (.imul, 1) := by decide +kernel
theorem dX12_beginOf_5 : decode cX12_beginOf 5 = .ok (.istore_n 3, 1) := by decide +kernel
theorem dX12_beginOf_6 : decode cX12_beginOf 6 = .ok (.iconst 0, 1) := by decide +kernel
theorem dX12_beginOf_7 : decode cX12_beginOf 7 = .ok (.istore 4, 2) := by decide +kernel
theorem dX12_beginOf_9 : decode cX12_beginOf 9 = .ok (.iload 4, 2) := by decide +kernel
theorem dX12_beginOf_11 : decode cX12_beginOf 11 = .ok (.iload_n 2, 1) := by decide +kernel
theorem dX12_beginOf_12 : decode cX12_beginOf 12 = .ok (.if_icmp .ge 19, 3) := by decide +kernel
theorem dX12_beginOf_15 : decode cX12_beginOf 15 = .ok (.iload_n 3, 1) := by decide +kernel
theorem dX12_beginOf_16 : decode cX12_beginOf 16 = .ok (.aload_n 0, 1) := by decide +kernel
theorem dX12_beginOf_17 : decode cX12_beginOf 17 = .ok (.iload_n 1, 1) := by decide +kernel
theorem dX12_beginOf_18 : decode cX12_beginOf 18 = .ok (.iload 4, 2) := by decide +kernel
theorem dX12_beginOf_20 : decode cX12_beginOf 20 = .ok (.invokevirtual 289, 3) := by decide +kernel
theorem dX12_beginOf_23 : decode cX12_beginOf 23 = .ok (.iadd, 1) := by decide +kernel
theorem dX12_beginOf_24 : decode cX12_beginOf 24 = .ok (.istore_n 3, 1) := by decide +kernel
theorem dX12_beginOf_25 : decode cX12_beginOf 25 = .ok (.iinc 4 1, 3) := by decide +kernel
theorem dX12_beginOf_28 : decode cX12_beginOf 28 = .ok (.goto (-19), 3) := by decide +kernel
theorem dX12_beginOf_31 : decode cX12_beginOf 31 = .ok (.iload_n 3, 1) := by decide +kernel
theorem dX12_beginOf_32 : decode cX12_beginOf 32 = .ok (.ireturn, 1) := by decide +kernel
theorem dX12_badByte_0 : decode cX12_badByte 0 = .ok (.iconst 0, 1) := by decide +kernel
theorem dX12_badByte_1 : decode cX12_badByte 1 = .ok (.istore_n 2, 1) := by decide +kernel
theorem dX12_badByte_2 : decode cX12_badByte 2 = .ok (.iload_n 2, 1) := by decide +kernel
theorem dX12_badByte_3 : decode cX12_badByte 3 = .ok (.aload_n 0, 1) := by decide +kernel
theorem dX12_badByte_4 : decode cX12_badByte 4 = .ok (.getfield 274, 3) := by decide +kernel
theorem dX12_badByte_7 : decode cX12_badByte 7 = .ok (.if_icmp .ge 39, 3) := by decide +kernel
theorem dX12_badByte_10 : decode cX12_badByte 10 = .ok (.aload_n 0, 1) := by decide +kernel
theorem dX12_badByte_11 : decode cX12_badByte 11 = .ok (.getfield 13, 3) := by decide +kernel
theorem dX12_badByte_14 : decode cX12_badByte 14 = .ok (.iload_n 2, 1) := by decide +kernel
theorem dX12_badByte_15 : decode cX12_badByte 15 = .ok (.baload, 1) := by decide +kernel
theorem dX12_badByte_16 : decode cX12_badByte 16 = .ok (.istore_n 3, 1) := by decide +kernel
theorem dX12_badByte_17 : decode cX12_badByte 17 = .ok (.iload_n 3, 1) := by decide +kernel
theorem dX12_badByte_18 : decode cX12_badByte 18 = .ok (.bipush 32, 2) := by decide +kernel
theorem dX12_badByte_20 : decode cX12_badByte 20 = .ok (.bipush 126, 2) := by decide +kernel
theorem dX12_badByte_22 : decode cX12_badByte 22 = .ok (.invokestatic 277, 3) := by decide +kernel
theorem dX12_badByte_25 : decode cX12_badByte 25 = .ok (.ifCond .ne 15, 3) := by decide +kernel
theorem dX12_badByte_28 : decode cX12_badByte 28 = .ok (.iload_n 1, 1) := by decide +kernel
theorem dX12_badByte_29 : decode cX12_badByte 29 = .ok (.ifCond .eq 9, 3) := by decide +kernel
theorem dX12_badByte_32 : decode cX12_badByte 32 = .ok (.iload_n 3, 1) := by decide +kernel
theorem dX12_badByte_33 : decode cX12_badByte 33 = .ok (.bipush 10, 2) := by decide +kernel
theorem dX12_badByte_35 : decode cX12_badByte 35 = .ok (.if_icmp .eq 5, 3) := by decide +kernel
theorem dX12_badByte_38 : decode cX12_badByte 38 = .ok (.iload_n 2, 1) := by decide +kernel
theorem dX12_badByte_39 : decode cX12_badByte 39 = .ok (.ireturn, 1) := by decide +kernel
theorem dX12_badByte_40 : decode cX12_badByte 40 = .ok (.iinc 2 1, 3) := by decide +kernel
theorem dX12_badByte_43 : decode cX12_badByte 43 = .ok (.goto (-41), 3) := by decide +kernel
theorem dX12_badByte_46 : decode cX12_badByte 46 = .ok (.iconst (-1), 1) := by decide +kernel
theorem dX12_badByte_47 : decode cX12_badByte 47 = .ok (.ireturn, 1) := by decide +kernel
theorem dX12_file_0 : decode cX12_file 0 = .ok (.aload_n 0, 1) := by decide +kernel
theorem dX12_file_1 : decode cX12_file 1 = .ok (.invokevirtual 293, 3) := by decide +kernel
theorem dX12_file_4 : decode cX12_file 4 = .ok (.iload_n 1, 1) := by decide +kernel
theorem dX12_file_5 : decode cX12_file 5 = .ok (.iconst 0, 1) := by decide +kernel
theorem dX12_file_6 : decode cX12_file 6 = .ok (.iconst 3, 1) := by decide +kernel
theorem dX12_file_7 : decode cX12_file 7 = .ok (.invokestatic 277, 3) := by decide +kernel
theorem dX12_file_10 : decode cX12_file 10 = .ok (.ifCond .ne 6, 3) := by decide +kernel
theorem dX12_file_13 : decode cX12_file 13 = .ok (.bipush (-2), 2) := by decide +kernel
theorem dX12_file_15 : decode cX12_file 15 = .ok (.ireturn, 1) := by decide +kernel
theorem dX12_file_16 : decode cX12_file 16 = .ok (.aload_n 0, 1) := by decide +kernel
theorem dX12_file_17 : decode cX12_file 17 = .ok (.getfield 274, 3) := by decide +kernel
theorem dX12_file_20 : decode cX12_file 20 = .ok (.sipush 400, 3) := by decide +kernel
theorem dX12_file_23 : decode cX12_file 23 = .ok (.if_icmp .le 6, 3) := by decide +kernel
theorem dX12_file_26 : decode cX12_file 26 = .ok (.bipush (-3), 2) := by decide +kernel
theorem dX12_file_28 : decode cX12_file 28 = .ok (.ireturn, 1) := by decide +kernel
theorem dX12_file_29 : decode cX12_file 29 = .ok (.aload_n 0, 1) := by decide +kernel
theorem dX12_file_30 : decode cX12_file 30 = .ok (.iconst 1, 1) := by decide +kernel
theorem dX12_file_31 : decode cX12_file 31 = .ok (.invokevirtual 296, 3) := by decide +kernel
theorem dX12_file_34 : decode cX12_file 34 = .ok (.istore_n 2, 1) := by decide +kernel
theorem dX12_file_35 : decode cX12_file 35 = .ok (.iload_n 2, 1) := by decide +kernel
theorem dX12_file_36 : decode cX12_file 36 = .ok (.ifCond .lt 9, 3) := by decide +kernel
theorem dX12_file_39 : decode cX12_file 39 = .ok (.sipush (-1000), 3) := by decide +kernel
theorem dX12_file_42 : decode cX12_file 42 = .ok (.iload_n 2, 1) := by decide +kernel
theorem dX12_file_43 : decode cX12_file 43 = .ok (.isub, 1) := by decide +kernel
theorem dX12_file_44 : decode cX12_file 44 = .ok (.ireturn, 1) := by decide +kernel
theorem dX12_file_45 : decode cX12_file 45 = .ok (.iconst 0, 1) := by decide +kernel
theorem dX12_file_46 : decode cX12_file 46 = .ok (.istore_n 3, 1) := by decide +kernel
theorem dX12_file_47 : decode cX12_file 47 = .ok (.iconst 0, 1) := by decide +kernel
theorem dX12_file_48 : decode cX12_file 48 = .ok (.istore 4, 2) := by decide +kernel
theorem dX12_file_50 : decode cX12_file 50 = .ok (.iload 4, 2) := by decide +kernel
theorem dX12_file_52 : decode cX12_file 52 = .ok (.aload_n 0, 1) := by decide +kernel
theorem dX12_file_53 : decode cX12_file 53 = .ok (.getfield 274, 3) := by decide +kernel
theorem dX12_file_56 : decode cX12_file 56 = .ok (.if_icmp .ge 40, 3) := by decide +kernel
theorem dX12_file_59 : decode cX12_file 59 = .ok (.iload_n 3, 1) := by decide +kernel
theorem dX12_file_60 : decode cX12_file 60 = .ok (.aload_n 0, 1) := by decide +kernel
theorem dX12_file_61 : decode cX12_file 61 = .ok (.getfield 13, 3) := by decide +kernel
theorem dX12_file_64 : decode cX12_file 64 = .ok (.iload 4, 2) := by decide +kernel
theorem dX12_file_66 : decode cX12_file 66 = .ok (.baload, 1) := by decide +kernel
theorem dX12_file_67 : decode cX12_file 67 = .ok (.bipush 10, 2) := by decide +kernel
theorem dX12_file_69 : decode cX12_file 69 = .ok (.if_icmp .eq 14, 3) := by decide +kernel
theorem dX12_file_72 : decode cX12_file 72 = .ok (.iload 4, 2) := by decide +kernel
theorem dX12_file_74 : decode cX12_file 74 = .ok (.aload_n 0, 1) := by decide +kernel
theorem dX12_file_75 : decode cX12_file 75 = .ok (.getfield 274, 3) := by decide +kernel
theorem dX12_file_78 : decode cX12_file 78 = .ok (.iconst 1, 1) := by decide +kernel
theorem dX12_file_79 : decode cX12_file 79 = .ok (.isub, 1) := by decide +kernel
theorem dX12_file_80 : decode cX12_file 80 = .ok (.if_icmp .ne 7, 3) := by decide +kernel
theorem dX12_file_83 : decode cX12_file 83 = .ok (.iconst 1, 1) := by decide +kernel
theorem dX12_file_84 : decode cX12_file 84 = .ok (.goto 4, 3) := by decide +kernel
theorem dX12_file_87 : decode cX12_file 87 = .ok (.iconst 0, 1) := by decide +kernel
theorem dX12_file_88 : decode cX12_file 88 = .ok (.iadd, 1) := by decide +kernel
theorem dX12_file_89 : decode cX12_file 89 = .ok (.istore_n 3, 1) := by decide +kernel
theorem dX12_file_90 : decode cX12_file 90 = .ok (.iinc 4 1, 3) := by decide +kernel
theorem dX12_file_93 : decode cX12_file 93 = .ok (.goto (-43), 3) := by decide +kernel
theorem dX12_file_96 : decode cX12_file 96 = .ok (.iload_n 3, 1) := by decide +kernel
theorem dX12_file_97 : decode cX12_file 97 = .ok (.bipush 40, 2) := by decide +kernel
theorem dX12_file_99 : decode cX12_file 99 = .ok (.if_icmp .le 6, 3) := by decide +kernel
theorem dX12_file_102 : decode cX12_file 102 = .ok (.bipush (-3), 2) := by decide +kernel
theorem dX12_file_104 : decode cX12_file 104 = .ok (.ireturn, 1) := by decide +kernel
theorem dX12_file_105 : decode cX12_file 105 = .ok (.aload_n 0, 1) := by decide +kernel
theorem dX12_file_106 : decode cX12_file 106 = .ok (.iconst 0, 1) := by decide +kernel
theorem dX12_file_107 : decode cX12_file 107 = .ok (.putfield 300, 3) := by decide +kernel
theorem dX12_file_110 : decode cX12_file 110 = .ok (.aload_n 0, 1) := by decide +kernel
theorem dX12_file_111 : decode cX12_file 111 = .ok (.getfield 17, 3) := by decide +kernel
theorem dX12_file_114 : decode cX12_file 114 = .ok (.iconst 0, 1) := by decide +kernel
theorem dX12_file_115 : decode cX12_file 115 = .ok (.iload_n 1, 1) := by decide +kernel
theorem dX12_file_116 : decode cX12_file 116 = .ok (.iadd, 1) := by decide +kernel
theorem dX12_file_117 : decode cX12_file 117 = .ok (.iconst 1, 1) := by decide +kernel
theorem dX12_file_118 : decode cX12_file 118 = .ok (.iastore, 1) := by decide +kernel
theorem dX12_file_119 : decode cX12_file 119 = .ok (.aload_n 0, 1) := by decide +kernel
theorem dX12_file_120 : decode cX12_file 120 = .ok (.getfield 17, 3) := by decide +kernel
theorem dX12_file_123 : decode cX12_file 123 = .ok (.iconst 4, 1) := by decide +kernel
theorem dX12_file_124 : decode cX12_file 124 = .ok (.iload_n 1, 1) := by decide +kernel
theorem dX12_file_125 : decode cX12_file 125 = .ok (.iadd, 1) := by decide +kernel
theorem dX12_file_126 : decode cX12_file 126 = .ok (.iload_n 3, 1) := by decide +kernel
theorem dX12_file_127 : decode cX12_file 127 = .ok (.iastore, 1) := by decide +kernel
theorem dX12_file_128 : decode cX12_file 128 = .ok (.iconst 0, 1) := by decide +kernel
theorem dX12_file_129 : decode cX12_file 129 = .ok (.istore 4, 2) := by decide +kernel
theorem dX12_file_131 : decode cX12_file 131 = .ok (.iload 4, 2) := by decide +kernel
theorem dX12_file_133 : decode cX12_file 133 = .ok (.bipush 40, 2) := by decide +kernel
theorem dX12_file_135 : decode cX12_file 135 = .ok (.if_icmp .ge 25, 3) := by decide +kernel
theorem dX12_file_138 : decode cX12_file 138 = .ok (.aload_n 0, 1) := by decide +kernel
theorem dX12_file_139 : decode cX12_file 139 = .ok (.getfield 17, 3) := by decide +kernel
theorem dX12_file_142 : decode cX12_file 142 = .ok (.bipush 8, 2) := by decide +kernel
theorem dX12_file_144 : decode cX12_file 144 = .ok (.bipush 40, 2) := by decide +kernel
theorem dX12_file_146 : decode cX12_file 146 = .ok (.iload_n 1, 1) := by decide +kernel
theorem dX12_file_147 : decode cX12_file 147 = .ok (.imul, 1) := by decide +kernel
theorem dX12_file_148 : decode cX12_file 148 = .ok (.iadd, 1) := by decide +kernel
theorem dX12_file_149 : decode cX12_file 149 = .ok (.iload 4, 2) := by decide +kernel
theorem dX12_file_151 : decode cX12_file 151 = .ok (.iadd, 1) := by decide +kernel
theorem dX12_file_152 : decode cX12_file 152 = .ok (.iconst 0, 1) := by decide +kernel
theorem dX12_file_153 : decode cX12_file 153 = .ok (.iastore, 1) := by decide +kernel
theorem dX12_file_154 : decode cX12_file 154 = .ok (.iinc 4 1, 3) := by decide +kernel
theorem dX12_file_157 : decode cX12_file 157 = .ok (.goto (-26), 3) := by decide +kernel
theorem dX12_file_160 : decode cX12_file 160 = .ok (.sipush 400, 3) := by decide +kernel
theorem dX12_file_163 : decode cX12_file 163 = .ok (.iload_n 1, 1) := by decide +kernel
theorem dX12_file_164 : decode cX12_file 164 = .ok (.imul, 1) := by decide +kernel
theorem dX12_file_165 : decode cX12_file 165 = .ok (.istore 4, 2) := by decide +kernel
theorem dX12_file_167 : decode cX12_file 167 = .ok (.iconst 0, 1) := by decide +kernel
theorem dX12_file_168 : decode cX12_file 168 = .ok (.istore 5, 2) := by decide +kernel
theorem dX12_file_170 : decode cX12_file 170 = .ok (.iconst 0, 1) := by decide +kernel
theorem dX12_file_171 : decode cX12_file 171 = .ok (.istore 6, 2) := by decide +kernel
theorem dX12_file_173 : decode cX12_file 173 = .ok (.iload 6, 2) := by decide +kernel
theorem dX12_file_175 : decode cX12_file 175 = .ok (.aload_n 0, 1) := by decide +kernel
theorem dX12_file_176 : decode cX12_file 176 = .ok (.getfield 274, 3) := by decide +kernel
theorem dX12_file_179 : decode cX12_file 179 = .ok (.if_icmp .ge 63, 3) := by decide +kernel
theorem dX12_file_182 : decode cX12_file 182 = .ok (.aload_n 0, 1) := by decide +kernel
theorem dX12_file_183 : decode cX12_file 183 = .ok (.getfield 13, 3) := by decide +kernel
theorem dX12_file_186 : decode cX12_file 186 = .ok (.iload 6, 2) := by decide +kernel
theorem dX12_file_188 : decode cX12_file 188 = .ok (.baload, 1) := by decide +kernel
theorem dX12_file_189 : decode cX12_file 189 = .ok (.bipush 10, 2) := by decide +kernel
theorem dX12_file_191 : decode cX12_file 191 = .ok (.if_icmp .ne 9, 3) := by decide +kernel
theorem dX12_file_194 : decode cX12_file 194 = .ok (.iinc 5 1, 3) := by decide +kernel
theorem dX12_file_197 : decode cX12_file 197 = .ok (.goto 39, 3) := by decide +kernel
theorem dX12_file_200 : decode cX12_file 200 = .ok (.aload_n 0, 1) := by decide +kernel
theorem dX12_file_201 : decode cX12_file 201 = .ok (.getfield 24, 3) := by decide +kernel
theorem dX12_file_204 : decode cX12_file 204 = .ok (.iload 4, 2) := by decide +kernel
theorem dX12_file_206 : decode cX12_file 206 = .ok (.aload_n 0, 1) := by decide +kernel
theorem dX12_file_207 : decode cX12_file 207 = .ok (.getfield 13, 3) := by decide +kernel
theorem dX12_file_210 : decode cX12_file 210 = .ok (.iload 6, 2) := by decide +kernel
theorem dX12_file_212 : decode cX12_file 212 = .ok (.baload, 1) := by decide +kernel
theorem dX12_file_213 : decode cX12_file 213 = .ok (.bastore, 1) := by decide +kernel
theorem dX12_file_214 : decode cX12_file 214 = .ok (.iinc 4 1, 3) := by decide +kernel
theorem dX12_file_217 : decode cX12_file 217 = .ok (.aload_n 0, 1) := by decide +kernel
theorem dX12_file_218 : decode cX12_file 218 = .ok (.getfield 17, 3) := by decide +kernel
theorem dX12_file_221 : decode cX12_file 221 = .ok (.bipush 8, 2) := by decide +kernel
theorem dX12_file_223 : decode cX12_file 223 = .ok (.bipush 40, 2) := by decide +kernel
theorem dX12_file_225 : decode cX12_file 225 = .ok (.iload_n 1, 1) := by decide +kernel
theorem dX12_file_226 : decode cX12_file 226 = .ok (.imul, 1) := by decide +kernel
theorem dX12_file_227 : decode cX12_file 227 = .ok (.iadd, 1) := by decide +kernel
theorem dX12_file_228 : decode cX12_file 228 = .ok (.iload 5, 2) := by decide +kernel
theorem dX12_file_230 : decode cX12_file 230 = .ok (.iadd, 1) := by decide +kernel
theorem dX12_file_231 : decode cX12_file 231 = .ok (.dup2, 1) := by decide +kernel
theorem dX12_file_232 : decode cX12_file 232 = .ok (.iaload, 1) := by decide +kernel
theorem dX12_file_233 : decode cX12_file 233 = .ok (.iconst 1, 1) := by decide +kernel
theorem dX12_file_234 : decode cX12_file 234 = .ok (.iadd, 1) := by decide +kernel
theorem dX12_file_235 : decode cX12_file 235 = .ok (.iastore, 1) := by decide +kernel
theorem dX12_file_236 : decode cX12_file 236 = .ok (.iinc 6 1, 3) := by decide +kernel
theorem dX12_file_239 : decode cX12_file 239 = .ok (.goto (-66), 3) := by decide +kernel
theorem dX12_file_242 : decode cX12_file 242 = .ok (.iload_n 3, 1) := by decide +kernel
theorem dX12_file_243 : decode cX12_file 243 = .ok (.ireturn, 1) := by decide +kernel
theorem dX12_switches_0 : decode cX12_switches 0 = .ok (.aload_n 0, 1) := by decide +kernel
theorem dX12_switches_1 : decode cX12_switches 1 = .ok (.invokevirtual 293, 3) := by decide +kernel
theorem dX12_switches_4 : decode cX12_switches 4 = .ok (.iconst 0, 1) := by decide +kernel
theorem dX12_switches_5 : decode cX12_switches 5 = .ok (.istore_n 1, 1) := by decide +kernel
theorem dX12_switches_6 : decode cX12_switches 6 = .ok (.iconst 0, 1) := by decide +kernel
theorem dX12_switches_7 : decode cX12_switches 7 = .ok (.istore_n 2, 1) := by decide +kernel
theorem dX12_switches_8 : decode cX12_switches 8 = .ok (.aload_n 0, 1) := by decide +kernel
theorem dX12_switches_9 : decode cX12_switches 9 = .ok (.getfield 34, 3) := by decide +kernel
theorem dX12_switches_12 : decode cX12_switches 12 = .ok (.astore_n 3, 1) := by decide +kernel
theorem dX12_switches_13 : decode cX12_switches 13 = .ok (.iload_n 2, 1) := by decide +kernel
theorem dX12_switches_14 : decode cX12_switches 14 = .ok (.aload_n 0, 1) := by decide +kernel
theorem dX12_switches_15 : decode cX12_switches 15 = .ok (.getfield 274, 3) := by decide +kernel
theorem dX12_switches_18 : decode cX12_switches 18 = .ok (.if_icmp .ge 187, 3) := by decide +kernel
theorem dX12_switches_21 : decode cX12_switches 21 = .ok (.aload_n 0, 1) := by decide +kernel
theorem dX12_switches_22 : decode cX12_switches 22 = .ok (.getfield 13, 3) := by decide +kernel
theorem dX12_switches_25 : decode cX12_switches 25 = .ok (.iload_n 2, 1) := by decide +kernel
theorem dX12_switches_26 : decode cX12_switches 26 = .ok (.baload, 1) := by decide +kernel
theorem dX12_switches_27 : decode cX12_switches 27 = .ok (.bipush 32, 2) := by decide +kernel
theorem dX12_switches_29 : decode cX12_switches 29 = .ok (.if_icmp .ne 9, 3) := by decide +kernel
theorem dX12_switches_32 : decode cX12_switches 32 = .ok (.iinc 2 1, 3) := by decide +kernel
theorem dX12_switches_35 : decode cX12_switches 35 = .ok (.goto (-22), 3) := by decide +kernel
theorem dX12_switches_38 : decode cX12_switches 38 = .ok (.iload_n 1, 1) := by decide +kernel
theorem dX12_switches_39 : decode cX12_switches 39 = .ok (.iconst 3, 1) := by decide +kernel
theorem dX12_switches_40 : decode cX12_switches 40 = .ok (.if_icmp .eq 15, 3) := by decide +kernel
theorem dX12_switches_43 : decode cX12_switches 43 = .ok (.aload_n 0, 1) := by decide +kernel
theorem dX12_switches_44 : decode cX12_switches 44 = .ok (.getfield 13, 3) := by decide +kernel
theorem dX12_switches_47 : decode cX12_switches 47 = .ok (.iload_n 2, 1) := by decide +kernel
theorem dX12_switches_48 : decode cX12_switches 48 = .ok (.baload, 1) := by decide +kernel
theorem dX12_switches_49 : decode cX12_switches 49 = .ok (.invokestatic 304, 3) := by decide +kernel
theorem dX12_switches_52 : decode cX12_switches 52 = .ok (.ifCond .ne 5, 3) := by decide +kernel
theorem dX12_switches_55 : decode cX12_switches 55 = .ok (.iconst (-1), 1) := by decide +kernel
theorem dX12_switches_56 : decode cX12_switches 56 = .ok (.ireturn, 1) := by decide +kernel
theorem dX12_switches_57 : decode cX12_switches 57 = .ok (.aload_n 3, 1) := by decide +kernel
theorem dX12_switches_58 : decode cX12_switches 58 = .ok (.iload_n 1, 1) := by decide +kernel
theorem dX12_switches_59 : decode cX12_switches 59 = .ok (.iload_n 2, 1) := by decide +kernel
theorem dX12_switches_60 : decode cX12_switches 60 = .ok (.iastore, 1) := by decide +kernel
theorem dX12_switches_61 : decode cX12_switches 61 = .ok (.iload_n 2, 1) := by decide +kernel
theorem dX12_switches_62 : decode cX12_switches 62 = .ok (.aload_n 0, 1) := by decide +kernel
theorem dX12_switches_63 : decode cX12_switches 63 = .ok (.getfield 274, 3) := by decide +kernel
theorem dX12_switches_66 : decode cX12_switches 66 = .ok (.if_icmp .ge 33, 3) := by decide +kernel
theorem dX12_switches_69 : decode cX12_switches 69 = .ok (.aload_n 0, 1) := by decide +kernel
theorem dX12_switches_70 : decode cX12_switches 70 = .ok (.getfield 13, 3) := by decide +kernel
theorem dX12_switches_73 : decode cX12_switches 73 = .ok (.iload_n 2, 1) := by decide +kernel
theorem dX12_switches_74 : decode cX12_switches 74 = .ok (.baload, 1) := by decide +kernel
theorem dX12_switches_75 : decode cX12_switches 75 = .ok (.invokestatic 304, 3) := by decide +kernel
theorem dX12_switches_78 : decode cX12_switches 78 = .ok (.ifCond .ne 15, 3) := by decide +kernel
theorem dX12_switches_81 : decode cX12_switches 81 = .ok (.aload_n 0, 1) := by decide +kernel
theorem dX12_switches_82 : decode cX12_switches 82 = .ok (.getfield 13, 3) := by decide +kernel
theorem dX12_switches_85 : decode cX12_switches 85 = .ok (.iload_n 2, 1) := by decide +kernel
theorem dX12_switches_86 : decode cX12_switches 86 = .ok (.baload, 1) := by decide +kernel
theorem dX12_switches_87 : decode cX12_switches 87 = .ok (.invokestatic 307, 3) := by decide +kernel
theorem dX12_switches_90 : decode cX12_switches 90 = .ok (.ifCond .eq 9, 3) := by decide +kernel
theorem dX12_switches_93 : decode cX12_switches 93 = .ok (.iinc 2 1, 3) := by decide +kernel
theorem dX12_switches_96 : decode cX12_switches 96 = .ok (.goto (-35), 3) := by decide +kernel
theorem dX12_switches_99 : decode cX12_switches 99 = .ok (.aload_n 3, 1) := by decide +kernel
theorem dX12_switches_100 : decode cX12_switches 100 = .ok (.iconst 4, 1) := by decide +kernel
theorem dX12_switches_101 : decode cX12_switches 101 = .ok (.iload_n 1, 1) := by decide +kernel
theorem dX12_switches_102 : decode cX12_switches 102 = .ok (.iadd, 1) := by decide +kernel
theorem dX12_switches_103 : decode cX12_switches 103 = .ok (.iload_n 2, 1) := by decide +kernel
theorem dX12_switches_104 : decode cX12_switches 104 = .ok (.aload_n 3, 1) := by decide +kernel
theorem dX12_switches_105 : decode cX12_switches 105 = .ok (.iload_n 1, 1) := by decide +kernel
theorem dX12_switches_106 : decode cX12_switches 106 = .ok (.iaload, 1) := by decide +kernel
theorem dX12_switches_107 : decode cX12_switches 107 = .ok (.isub, 1) := by decide +kernel
theorem dX12_switches_108 : decode cX12_switches 108 = .ok (.iastore, 1) := by decide +kernel
theorem dX12_switches_109 : decode cX12_switches 109 = .ok (.aload_n 3, 1) := by decide +kernel
theorem dX12_switches_110 : decode cX12_switches 110 = .ok (.iconst 4, 1) := by decide +kernel
theorem dX12_switches_111 : decode cX12_switches 111 = .ok (.iload_n 1, 1) := by decide +kernel
theorem dX12_switches_112 : decode cX12_switches 112 = .ok (.iadd, 1) := by decide +kernel
theorem dX12_switches_113 : decode cX12_switches 113 = .ok (.iaload, 1) := by decide +kernel
theorem dX12_switches_114 : decode cX12_switches 114 = .ok (.bipush 30, 2) := by decide +kernel
theorem dX12_switches_116 : decode cX12_switches 116 = .ok (.if_icmp .gt 22, 3) := by decide +kernel
theorem dX12_switches_119 : decode cX12_switches 119 = .ok (.iload_n 2, 1) := by decide +kernel
theorem dX12_switches_120 : decode cX12_switches 120 = .ok (.aload_n 0, 1) := by decide +kernel
theorem dX12_switches_121 : decode cX12_switches 121 = .ok (.getfield 274, 3) := by decide +kernel
theorem dX12_switches_124 : decode cX12_switches 124 = .ok (.if_icmp .ge 16, 3) := by decide +kernel
theorem dX12_switches_127 : decode cX12_switches 127 = .ok (.aload_n 0, 1) := by decide +kernel
theorem dX12_switches_128 : decode cX12_switches 128 = .ok (.getfield 13, 3) := by decide +kernel
theorem dX12_switches_131 : decode cX12_switches 131 = .ok (.iload_n 2, 1) := by decide +kernel
theorem dX12_switches_132 : decode cX12_switches 132 = .ok (.baload, 1) := by decide +kernel
theorem dX12_switches_133 : decode cX12_switches 133 = .ok (.bipush 32, 2) := by decide +kernel
theorem dX12_switches_135 : decode cX12_switches 135 = .ok (.if_icmp .eq 5, 3) := by decide +kernel
theorem dX12_switches_138 : decode cX12_switches 138 = .ok (.iconst (-1), 1) := by decide +kernel
theorem dX12_switches_139 : decode cX12_switches 139 = .ok (.ireturn, 1) := by decide +kernel
theorem dX12_switches_140 : decode cX12_switches 140 = .ok (.iconst 0, 1) := by decide +kernel
theorem dX12_switches_141 : decode cX12_switches 141 = .ok (.istore 4, 2) := by decide +kernel
theorem dX12_switches_143 : decode cX12_switches 143 = .ok (.iload 4, 2) := by decide +kernel
theorem dX12_switches_145 : decode cX12_switches 145 = .ok (.iload_n 1, 1) := by decide +kernel
theorem dX12_switches_146 : decode cX12_switches 146 = .ok (.if_icmp .ge 36, 3) := by decide +kernel
theorem dX12_switches_149 : decode cX12_switches 149 = .ok (.aload_n 0, 1) := by decide +kernel
theorem dX12_switches_150 : decode cX12_switches 150 = .ok (.aload_n 3, 1) := by decide +kernel
theorem dX12_switches_151 : decode cX12_switches 151 = .ok (.iload 4, 2) := by decide +kernel
theorem dX12_switches_153 : decode cX12_switches 153 = .ok (.iaload, 1) := by decide +kernel
theorem dX12_switches_154 : decode cX12_switches 154 = .ok (.aload_n 3, 1) := by decide +kernel
theorem dX12_switches_155 : decode cX12_switches 155 = .ok (.iconst 4, 1) := by decide +kernel
theorem dX12_switches_156 : decode cX12_switches 156 = .ok (.iload 4, 2) := by decide +kernel
theorem dX12_switches_158 : decode cX12_switches 158 = .ok (.iadd, 1) := by decide +kernel
theorem dX12_switches_159 : decode cX12_switches 159 = .ok (.iaload, 1) := by decide +kernel
theorem dX12_switches_160 : decode cX12_switches 160 = .ok (.aload_n 3, 1) := by decide +kernel
theorem dX12_switches_161 : decode cX12_switches 161 = .ok (.iload_n 1, 1) := by decide +kernel
theorem dX12_switches_162 : decode cX12_switches 162 = .ok (.iaload, 1) := by decide +kernel
theorem dX12_switches_163 : decode cX12_switches 163 = .ok (.aload_n 3, 1) := by decide +kernel
theorem dX12_switches_164 : decode cX12_switches 164 = .ok (.iconst 4, 1) := by decide +kernel
theorem dX12_switches_165 : decode cX12_switches 165 = .ok (.iload_n 1, 1) := by decide +kernel
theorem dX12_switches_166 : decode cX12_switches 166 = .ok (.iadd, 1) := by decide +kernel
theorem dX12_switches_167 : decode cX12_switches 167 = .ok (.iaload, 1) := by decide +kernel
theorem dX12_switches_168 : decode cX12_switches 168 = .ok (.invokevirtual 310, 3) := by decide +kernel
theorem dX12_switches_171 : decode cX12_switches 171 = .ok (.ifCond .eq 5, 3) := by decide +kernel
theorem dX12_switches_174 : decode cX12_switches 174 = .ok (.iconst (-1), 1) := by decide +kernel
theorem dX12_switches_175 : decode cX12_switches 175 = .ok (.ireturn, 1) := by decide +kernel
theorem dX12_switches_176 : decode cX12_switches 176 = .ok (.iinc 4 1, 3) := by decide +kernel
theorem dX12_switches_179 : decode cX12_switches 179 = .ok (.goto (-36), 3) := by decide +kernel
theorem dX12_switches_182 : decode cX12_switches 182 = .ok (.aload_n 0, 1) := by decide +kernel
theorem dX12_switches_183 : decode cX12_switches 183 = .ok (.aload_n 3, 1) := by decide +kernel
theorem dX12_switches_184 : decode cX12_switches 184 = .ok (.iload_n 1, 1) := by decide +kernel
theorem dX12_switches_185 : decode cX12_switches 185 = .ok (.iaload, 1) := by decide +kernel
theorem dX12_switches_186 : decode cX12_switches 186 = .ok (.aload_n 3, 1) := by decide +kernel
theorem dX12_switches_187 : decode cX12_switches 187 = .ok (.iconst 4, 1) := by decide +kernel
theorem dX12_switches_188 : decode cX12_switches 188 = .ok (.iload_n 1, 1) := by decide +kernel
theorem dX12_switches_189 : decode cX12_switches 189 = .ok (.iadd, 1) := by decide +kernel
theorem dX12_switches_190 : decode cX12_switches 190 = .ok (.iaload, 1) := by decide +kernel
theorem dX12_switches_191 : decode cX12_switches 191 = .ok (.invokevirtual 314, 3) := by decide +kernel
theorem dX12_switches_194 : decode cX12_switches 194 = .ok (.ifCond .eq 5, 3) := by decide +kernel
theorem dX12_switches_197 : decode cX12_switches 197 = .ok (.iconst (-1), 1) := by decide +kernel
theorem dX12_switches_198 : decode cX12_switches 198 = .ok (.ireturn, 1) := by decide +kernel
theorem dX12_switches_199 : decode cX12_switches 199 = .ok (.iinc 1 1, 3) := by decide +kernel
theorem dX12_switches_202 : decode cX12_switches 202 = .ok (.goto (-189), 3) := by decide +kernel
theorem dX12_switches_205 : decode cX12_switches 205 = .ok (.aload_n 0, 1) := by decide +kernel
theorem dX12_switches_206 : decode cX12_switches 206 = .ok (.iconst 0, 1) := by decide +kernel
theorem dX12_switches_207 : decode cX12_switches 207 = .ok (.putfield 300, 3) := by decide +kernel
theorem dX12_switches_210 : decode cX12_switches 210 = .ok (.aload_n 0, 1) := by decide +kernel
theorem dX12_switches_211 : decode cX12_switches 211 = .ok (.getfield 17, 3) := by decide +kernel
theorem dX12_switches_214 : decode cX12_switches 214 = .ok (.sipush 168, 3) := by decide +kernel
theorem dX12_switches_217 : decode cX12_switches 217 = .ok (.iload_n 1, 1) := by decide +kernel
theorem dX12_switches_218 : decode cX12_switches 218 = .ok (.iastore, 1) := by decide +kernel
theorem dX12_switches_219 : decode cX12_switches 219 = .ok (.aload_n 0, 1) := by decide +kernel
theorem dX12_switches_220 : decode cX12_switches 220 = .ok (.getfield 17, 3) := by decide +kernel
theorem dX12_switches_223 : decode cX12_switches 223 = .ok (.sipush 172, 3) := by decide +kernel
theorem dX12_switches_226 : decode cX12_switches 226 = .ok (.iconst 0, 1) := by decide +kernel
theorem dX12_switches_227 : decode cX12_switches 227 = .ok (.iastore, 1) := by decide +kernel
theorem dX12_switches_228 : decode cX12_switches 228 = .ok (.iconst 0, 1) := by decide +kernel
theorem dX12_switches_229 : decode cX12_switches 229 = .ok (.istore 4, 2) := by decide +kernel
theorem dX12_switches_231 : decode cX12_switches 231 = .ok (.iload 4, 2) := by decide +kernel
theorem dX12_switches_233 : decode cX12_switches 233 = .ok (.iload_n 1, 1) := by decide +kernel
theorem dX12_switches_234 : decode cX12_switches 234 = .ok (.if_icmp .ge 75, 3) := by decide +kernel
theorem dX12_switches_237 : decode cX12_switches 237 = .ok (.aload_n 0, 1) := by decide +kernel
theorem dX12_switches_238 : decode cX12_switches 238 = .ok (.getfield 17, 3) := by decide +kernel
theorem dX12_switches_241 : decode cX12_switches 241 = .ok (.sipush 169, 3) := by decide +kernel
theorem dX12_switches_244 : decode cX12_switches 244 = .ok (.iload 4, 2) := by decide +kernel
theorem dX12_switches_246 : decode cX12_switches 246 = .ok (.iadd, 1) := by decide +kernel
theorem dX12_switches_247 : decode cX12_switches 247 = .ok (.aload_n 3, 1) := by decide +kernel
theorem dX12_switches_248 : decode cX12_switches 248 = .ok (.iconst 4, 1) := by decide +kernel
theorem dX12_switches_249 : decode cX12_switches 249 = .ok (.iload 4, 2) := by decide +kernel
theorem dX12_switches_251 : decode cX12_switches 251 = .ok (.iadd, 1) := by decide +kernel
theorem dX12_switches_252 : decode cX12_switches 252 = .ok (.iaload, 1) := by decide +kernel
theorem dX12_switches_253 : decode cX12_switches 253 = .ok (.iastore, 1) := by decide +kernel
theorem dX12_switches_254 : decode cX12_switches 254 = .ok (.iconst 0, 1) := by decide +kernel
theorem dX12_switches_255 : decode cX12_switches 255 = .ok (.istore 5, 2) := by decide +kernel
theorem dX12_switches_257 : decode cX12_switches 257 = .ok (.iload 5, 2) := by decide +kernel
theorem dX12_switches_259 : decode cX12_switches 259 = .ok (.aload_n 3, 1) := by decide +kernel
theorem dX12_switches_260 : decode cX12_switches 260 = .ok (.iconst 4, 1) := by decide +kernel
theorem dX12_switches_261 : decode cX12_switches 261 = .ok (.iload 4, 2) := by decide +kernel
theorem dX12_switches_263 : decode cX12_switches 263 = .ok (.iadd, 1) := by decide +kernel
theorem dX12_switches_264 : decode cX12_switches 264 = .ok (.iaload, 1) := by decide +kernel
theorem dX12_switches_265 : decode cX12_switches 265 = .ok (.if_icmp .ge 38, 3) := by decide +kernel
theorem dX12_switches_268 : decode cX12_switches 268 = .ok (.aload_n 0, 1) := by decide +kernel
theorem dX12_switches_269 : decode cX12_switches 269 = .ok (.getfield 24, 3) := by decide +kernel
theorem dX12_switches_272 : decode cX12_switches 272 = .ok (.sipush 1600, 3) := by decide +kernel
theorem dX12_switches_275 : decode cX12_switches 275 = .ok (.bipush 30, 2) := by decide +kernel
theorem dX12_switches_277 : decode cX12_switches 277 = .ok (.iload 4, 2) := by decide +kernel
theorem dX12_switches_279 : decode cX12_switches 279 = .ok (.imul, 1) := by decide +kernel
theorem dX12_switches_280 : decode cX12_switches 280 = .ok (.iadd, 1) := by decide +kernel
theorem dX12_switches_281 : decode cX12_switches 281 = .ok (.iload 5, 2) := by decide +kernel
theorem dX12_switches_283 : decode cX12_switches 283 = .ok (.iadd, 1) := by decide +kernel
theorem dX12_switches_284 : decode cX12_switches 284 = .ok (.aload_n 0, 1) := by decide +kernel
theorem dX12_switches_285 : decode cX12_switches 285 = .ok (.getfield 13, 3) := by decide +kernel
theorem dX12_switches_288 : decode cX12_switches 288 = .ok (.aload_n 3, 1) := by decide +kernel
theorem dX12_switches_289 : decode cX12_switches 289 = .ok (.iload 4, 2) := by decide +kernel
theorem dX12_switches_291 : decode cX12_switches 291 = .ok (.iaload, 1) := by decide +kernel
theorem dX12_switches_292 : decode cX12_switches 292 = .ok (.iload 5, 2) := by decide +kernel
theorem dX12_switches_294 : decode cX12_switches 294 = .ok (.iadd, 1) := by decide +kernel
theorem dX12_switches_295 : decode cX12_switches 295 = .ok (.baload, 1) := by decide +kernel
theorem dX12_switches_296 : decode cX12_switches 296 = .ok (.bastore, 1) := by decide +kernel
theorem dX12_switches_297 : decode cX12_switches 297 = .ok (.iinc 5 1, 3) := by decide +kernel
theorem dX12_switches_300 : decode cX12_switches 300 = .ok (.goto (-43), 3) := by decide +kernel
theorem dX12_switches_303 : decode cX12_switches 303 = .ok (.iinc 4 1, 3) := by decide +kernel
theorem dX12_switches_306 : decode cX12_switches 306 = .ok (.goto (-75), 3) := by decide +kernel
theorem dX12_switches_309 : decode cX12_switches 309 = .ok (.iload_n 1, 1) := by decide +kernel
theorem dX12_switches_310 : decode cX12_switches 310 = .ok (.ireturn, 1) := by decide +kernel
theorem dX12_areTape_0 : decode cX12_areTape 0 = .ok (.iload_n 2, 1) := by decide +kernel
theorem dX12_areTape_1 : decode cX12_areTape 1 = .ok (.iload 4, 2) := by decide +kernel
theorem dX12_areTape_3 : decode cX12_areTape 3 = .ok (.if_icmp .ne 7, 3) := by decide +kernel
theorem dX12_areTape_6 : decode cX12_areTape 6 = .ok (.iconst 1, 1) := by decide +kernel
theorem dX12_areTape_7 : decode cX12_areTape 7 = .ok (.goto 4, 3) := by decide +kernel
theorem dX12_areTape_10 : decode cX12_areTape 10 = .ok (.iconst 0, 1) := by decide +kernel
theorem dX12_areTape_11 : decode cX12_areTape 11 = .ok (.istore 5, 2) := by decide +kernel
theorem dX12_areTape_13 : decode cX12_areTape 13 = .ok (.iconst 0, 1) := by decide +kernel
theorem dX12_areTape_14 : decode cX12_areTape 14 = .ok (.istore 6, 2) := by decide +kernel
theorem dX12_areTape_16 : decode cX12_areTape 16 = .ok (.iload 6, 2) := by decide +kernel
theorem dX12_areTape_18 : decode cX12_areTape 18 = .ok (.iload_n 2, 1) := by decide +kernel
theorem dX12_areTape_19 : decode cX12_areTape 19 = .ok (.if_icmp .ge 42, 3) := by decide +kernel
theorem dX12_areTape_22 : decode cX12_areTape 22 = .ok (.iload 5, 2) := by decide +kernel
theorem dX12_areTape_24 : decode cX12_areTape 24 = .ok (.ifCond .eq 37, 3) := by decide +kernel
theorem dX12_areTape_27 : decode cX12_areTape 27 = .ok (.aload_n 0, 1) := by decide +kernel
theorem dX12_areTape_28 : decode cX12_areTape 28 = .ok (.getfield 13, 3) := by decide +kernel
theorem dX12_areTape_31 : decode cX12_areTape 31 = .ok (.iload_n 1, 1) := by decide +kernel
theorem dX12_areTape_32 : decode cX12_areTape 32 = .ok (.iload 6, 2) := by decide +kernel
theorem dX12_areTape_34 : decode cX12_areTape 34 = .ok (.iadd, 1) := by decide +kernel
theorem dX12_areTape_35 : decode cX12_areTape 35 = .ok (.baload, 1) := by decide +kernel
theorem dX12_areTape_36 : decode cX12_areTape 36 = .ok (.aload_n 0, 1) := by decide +kernel
theorem dX12_areTape_37 : decode cX12_areTape 37 = .ok (.getfield 13, 3) := by decide +kernel
theorem dX12_areTape_40 : decode cX12_areTape 40 = .ok (.iload_n 3, 1) := by decide +kernel
theorem dX12_areTape_41 : decode cX12_areTape 41 = .ok (.iload 6, 2) := by decide +kernel
theorem dX12_areTape_43 : decode cX12_areTape 43 = .ok (.iadd, 1) := by decide +kernel
theorem dX12_areTape_44 : decode cX12_areTape 44 = .ok (.baload, 1) := by decide +kernel
theorem dX12_areTape_45 : decode cX12_areTape 45 = .ok (.if_icmp .ne 7, 3) := by decide +kernel
theorem dX12_areTape_48 : decode cX12_areTape 48 = .ok (.iconst 1, 1) := by decide +kernel
theorem dX12_areTape_49 : decode cX12_areTape 49 = .ok (.goto 4, 3) := by decide +kernel
theorem dX12_areTape_52 : decode cX12_areTape 52 = .ok (.iconst 0, 1) := by decide +kernel
theorem dX12_areTape_53 : decode cX12_areTape 53 = .ok (.istore 5, 2) := by decide +kernel
theorem dX12_areTape_55 : decode cX12_areTape 55 = .ok (.iinc 6 1, 3) := by decide +kernel
theorem dX12_areTape_58 : decode cX12_areTape 58 = .ok (.goto (-42), 3) := by decide +kernel
theorem dX12_areTape_61 : decode cX12_areTape 61 = .ok (.iload 5, 2) := by decide +kernel
theorem dX12_areTape_63 : decode cX12_areTape 63 = .ok (.ireturn, 1) := by decide +kernel
theorem dX12_isTapeDefined_0 : decode cX12_isTapeDefined 0 = .ok (.iload_n 2, 1) := by decide +kernel
theorem dX12_isTapeDefined_1 : decode cX12_isTapeDefined 1 = .ok (.bipush 7, 2) := by decide +kernel
theorem dX12_isTapeDefined_3 : decode cX12_isTapeDefined 3 = .ok (.if_icmp .ne 7, 3) := by decide +kernel
theorem dX12_isTapeDefined_6 : decode cX12_isTapeDefined 6 = .ok (.iconst 1, 1) := by decide +kernel
theorem dX12_isTapeDefined_7 : decode cX12_isTapeDefined 7 = .ok (.goto 4, 3) := by decide +kernel
theorem dX12_isTapeDefined_10 : decode cX12_isTapeDefined 10 = .ok (.iconst 0, 1) := by decide +kernel
theorem dX12_isTapeDefined_11 : decode cX12_isTapeDefined 11 = .ok (.istore_n 3, 1) := by decide +kernel
theorem dX12_isTapeDefined_12 : decode cX12_isTapeDefined 12 = .ok (.iconst 0, 1) := by decide +kernel
theorem dX12_isTapeDefined_13 : decode cX12_isTapeDefined 13 = .ok (.istore 4, 2) := by decide +kernel
theorem dX12_isTapeDefined_15 : decode cX12_isTapeDefined 15 = .ok (.iload 4, 2) := by decide +kernel
theorem dX12_isTapeDefined_17 : decode cX12_isTapeDefined 17 = .ok (.bipush 7, 2) := by decide +kernel
theorem dX12_isTapeDefined_19 : decode cX12_isTapeDefined 19 = .ok (.if_icmp .ge 37, 3) := by decide +kernel
theorem dX12_isTapeDefined_22 : decode cX12_isTapeDefined 22 = .ok (.iload_n 3, 1) := by decide +kernel
theorem dX12_isTapeDefined_23 : decode cX12_isTapeDefined 23 = .ok (.ifCond .eq 33, 3) := by decide +kernel
theorem dX12_isTapeDefined_26 : decode cX12_isTapeDefined 26 = .ok (.aload_n 0, 1) := by decide +kernel
theorem dX12_isTapeDefined_27 : decode cX12_isTapeDefined 27 = .ok (.getfield 13, 3) := by decide +kernel
theorem dX12_isTapeDefined_30 : decode cX12_isTapeDefined 30 = .ok (.iload_n 1, 1) := by decide +kernel
theorem dX12_isTapeDefined_31 : decode cX12_isTapeDefined 31 = .ok (.iload 4, 2) := by decide +kernel
theorem dX12_isTapeDefined_33 : decode cX12_isTapeDefined 33 = .ok (.iadd, 1) := by decide +kernel
theorem dX12_isTapeDefined_34 : decode cX12_isTapeDefined 34 = .ok (.baload, 1) := by decide +kernel
theorem dX12_isTapeDefined_35 : decode cX12_isTapeDefined 35 = .ok (.getstatic 318, 3) := by decide +kernel
theorem dX12_isTapeDefined_38 : decode cX12_isTapeDefined 38 = .ok (.iload 4, 2) := by decide +kernel
theorem dX12_isTapeDefined_40 : decode cX12_isTapeDefined 40 = .ok (.baload, 1) := by decide +kernel
theorem dX12_isTapeDefined_41 : decode cX12_isTapeDefined 41 = .ok (.if_icmp .ne 7, 3) := by decide +kernel
theorem dX12_isTapeDefined_44 : decode cX12_isTapeDefined 44 = .ok (.iconst 1, 1) := by decide +kernel
theorem dX12_isTapeDefined_45 : decode cX12_isTapeDefined 45 = .ok (.goto 4, 3) := by decide +kernel
theorem dX12_isTapeDefined_48 : decode cX12_isTapeDefined 48 = .ok (.iconst 0, 1) := by decide +kernel
theorem dX12_isTapeDefined_49 : decode cX12_isTapeDefined 49 = .ok (.istore_n 3, 1) := by decide +kernel
theorem dX12_isTapeDefined_50 : decode cX12_isTapeDefined 50 = .ok (.iinc 4 1, 3) := by decide +kernel
theorem dX12_isTapeDefined_53 : decode cX12_isTapeDefined 53 = .ok (.goto (-38), 3) := by decide +kernel
theorem dX12_isTapeDefined_56 : decode cX12_isTapeDefined 56 = .ok (.iload_n 3, 1) := by decide +kernel
theorem dX12_isTapeDefined_57 : decode cX12_isTapeDefined 57 = .ok (.ireturn, 1) := by decide +kernel
theorem dX12_set_0 : decode cX12_set 0 = .ok (.aload_n 0, 1) := by decide +kernel
theorem dX12_set_1 : decode cX12_set 1 = .ok (.iconst 0, 1) := by decide +kernel
theorem dX12_set_2 : decode cX12_set 2 = .ok (.putfield 1, 3) := by decide +kernel
theorem dX12_set_5 : decode cX12_set 5 = .ok (.iload_n 1, 1) := by decide +kernel
theorem dX12_set_6 : decode cX12_set 6 = .ok (.ifCond .lt 17, 3) := by decide +kernel
theorem dX12_set_9 : decode cX12_set 9 = .ok (.iload_n 1, 1) := by decide +kernel
theorem dX12_set_10 : decode cX12_set 10 = .ok (.iconst 1, 1) := by decide +kernel
theorem dX12_set_11 : decode cX12_set 11 = .ok (.aload_n 0, 1) := by decide +kernel
theorem dX12_set_12 : decode cX12_set 12 = .ok (.getfield 17, 3) := by decide +kernel
theorem dX12_set_15 : decode cX12_set 15 = .ok (.sipush 168, 3) := by decide +kernel
theorem dX12_set_18 : decode cX12_set 18 = .ok (.iaload, 1) := by decide +kernel
theorem dX12_set_19 : decode cX12_set 19 = .ok (.ishl, 1) := by decide +kernel
theorem dX12_set_20 : decode cX12_set 20 = .ok (.if_icmp .lt 5, 3) := by decide +kernel
theorem dX12_set_23 : decode cX12_set 23 = .ok (.iconst (-1), 1) := by decide +kernel
theorem dX12_set_24 : decode cX12_set 24 = .ok (.ireturn, 1) := by decide +kernel
theorem dX12_set_25 : decode cX12_set 25 = .ok (.aload_n 0, 1) := by decide +kernel
theorem dX12_set_26 : decode cX12_set 26 = .ok (.getfield 17, 3) := by decide +kernel
theorem dX12_set_29 : decode cX12_set 29 = .ok (.sipush 172, 3) := by decide +kernel
theorem dX12_set_32 : decode cX12_set 32 = .ok (.iload_n 1, 1) := by decide +kernel
theorem dX12_set_33 : decode cX12_set 33 = .ok (.iastore, 1) := by decide +kernel
theorem dX12_set_34 : decode cX12_set 34 = .ok (.iconst 0, 1) := by decide +kernel
theorem dX12_set_35 : decode cX12_set 35 = .ok (.ireturn, 1) := by decide +kernel
theorem dX12_edit_0 : decode cX12_edit 0 = .ok (.aload_n 0, 1) := by decide +kernel
theorem dX12_edit_1 : decode cX12_edit 1 = .ok (.invokevirtual 293, 3) := by decide +kernel
theorem dX12_edit_4 : decode cX12_edit 4 = .ok (.aload_n 0, 1) := by decide +kernel
theorem dX12_edit_5 : decode cX12_edit 5 = .ok (.iload_n 1, 1) := by decide +kernel
theorem dX12_edit_6 : decode cX12_edit 6 = .ok (.invokevirtual 281, 3) := by decide +kernel
theorem dX12_edit_9 : decode cX12_edit 9 = .ok (.ifCond .eq 16, 3) := by decide +kernel
theorem dX12_edit_12 : decode cX12_edit 12 = .ok (.iload_n 2, 1) := by decide +kernel
theorem dX12_edit_13 : decode cX12_edit 13 = .ok (.iconst 0, 1) := by decide +kernel
theorem dX12_edit_14 : decode cX12_edit 14 = .ok (.aload_n 0, 1) := by decide +kernel
theorem dX12_edit_15 : decode cX12_edit 15 = .ok (.iload_n 1, 1) := by decide +kernel
theorem dX12_edit_16 : decode cX12_edit 16 = .ok (.invokevirtual 285, 3) := by decide +kernel
theorem dX12_edit_19 : decode cX12_edit 19 = .ok (.invokestatic 277, 3) := by decide +kernel
theorem dX12_edit_22 : decode cX12_edit 22 = .ok (.ifCond .ne 6, 3) := by decide +kernel
theorem dX12_edit_25 : decode cX12_edit 25 = .ok (.bipush (-2), 2) := by decide +kernel
theorem dX12_edit_27 : decode cX12_edit 27 = .ok (.ireturn, 1) := by decide +kernel
theorem dX12_edit_28 : decode cX12_edit 28 = .ok (.aload_n 0, 1) := by decide +kernel
theorem dX12_edit_29 : decode cX12_edit 29 = .ok (.iconst 0, 1) := by decide +kernel
theorem dX12_edit_30 : decode cX12_edit 30 = .ok (.invokevirtual 296, 3) := by decide +kernel
theorem dX12_edit_33 : decode cX12_edit 33 = .ok (.istore_n 3, 1) := by decide +kernel
theorem dX12_edit_34 : decode cX12_edit 34 = .ok (.iload_n 3, 1) := by decide +kernel
theorem dX12_edit_35 : decode cX12_edit 35 = .ok (.ifCond .lt 9, 3) := by decide +kernel
theorem dX12_edit_38 : decode cX12_edit 38 = .ok (.sipush (-1000), 3) := by decide +kernel
theorem dX12_edit_41 : decode cX12_edit 41 = .ok (.iload_n 3, 1) := by decide +kernel
theorem dX12_edit_42 : decode cX12_edit 42 = .ok (.isub, 1) := by decide +kernel
theorem dX12_edit_43 : decode cX12_edit 43 = .ok (.ireturn, 1) := by decide +kernel
theorem dX12_edit_44 : decode cX12_edit 44 = .ok (.aload_n 0, 1) := by decide +kernel
theorem dX12_edit_45 : decode cX12_edit 45 = .ok (.iload_n 1, 1) := by decide +kernel
theorem dX12_edit_46 : decode cX12_edit 46 = .ok (.invokevirtual 285, 3) := by decide +kernel
theorem dX12_edit_49 : decode cX12_edit 49 = .ok (.istore 4, 2) := by decide +kernel
theorem dX12_edit_51 : decode cX12_edit 51 = .ok (.iload_n 2, 1) := by decide +kernel
theorem dX12_edit_52 : decode cX12_edit 52 = .ok (.iload 4, 2) := by decide +kernel
theorem dX12_edit_54 : decode cX12_edit 54 = .ok (.if_icmp .ne 10, 3) := by decide +kernel
theorem dX12_edit_57 : decode cX12_edit 57 = .ok (.iload 4, 2) := by decide +kernel
theorem dX12_edit_59 : decode cX12_edit 59 = .ok (.iconst 1, 1) := by decide +kernel
theorem dX12_edit_60 : decode cX12_edit 60 = .ok (.iadd, 1) := by decide +kernel
theorem dX12_edit_61 : decode cX12_edit 61 = .ok (.goto 5, 3) := by decide +kernel
theorem dX12_edit_64 : decode cX12_edit 64 = .ok (.iload 4, 2) := by decide +kernel
theorem dX12_edit_66 : decode cX12_edit 66 = .ok (.istore 5, 2) := by decide +kernel
theorem dX12_edit_68 : decode cX12_edit 68 = .ok (.aload_n 0, 1) := by decide +kernel
theorem dX12_edit_69 : decode cX12_edit 69 = .ok (.getfield 274, 3) := by decide +kernel
theorem dX12_edit_72 : decode cX12_edit 72 = .ok (.iconst 1, 1) := by decide +kernel
theorem dX12_edit_73 : decode cX12_edit 73 = .ok (.iadd, 1) := by decide +kernel
theorem dX12_edit_74 : decode cX12_edit 74 = .ok (.istore 6, 2) := by decide +kernel
theorem dX12_edit_76 : decode cX12_edit 76 = .ok (.iconst 0, 1) := by decide +kernel
theorem dX12_edit_77 : decode cX12_edit 77 = .ok (.istore 7, 2) := by decide +kernel
theorem dX12_edit_79 : decode cX12_edit 79 = .ok (.iload 7, 2) := by decide +kernel
theorem dX12_edit_81 : decode cX12_edit 81 = .ok (.iload 4, 2) := by decide +kernel
theorem dX12_edit_83 : decode cX12_edit 83 = .ok (.if_icmp .ge 29, 3) := by decide +kernel
theorem dX12_edit_86 : decode cX12_edit 86 = .ok (.iload 7, 2) := by decide +kernel
theorem dX12_edit_88 : decode cX12_edit 88 = .ok (.iload_n 2, 1) := by decide +kernel
theorem dX12_edit_89 : decode cX12_edit 89 = .ok (.if_icmp .eq 17, 3) := by decide +kernel
theorem dX12_edit_92 : decode cX12_edit 92 = .ok (.iload 6, 2) := by decide +kernel
theorem dX12_edit_94 : decode cX12_edit 94 = .ok (.aload_n 0, 1) := by decide +kernel
theorem dX12_edit_95 : decode cX12_edit 95 = .ok (.iload_n 1, 1) := by decide +kernel
theorem dX12_edit_96 : decode cX12_edit 96 = .ok (.iload 7, 2) := by decide +kernel
theorem dX12_edit_98 : decode cX12_edit 98 = .ok (.invokevirtual 289, 3) := by decide +kernel
theorem dX12_edit_101 : decode cX12_edit 101 = .ok (.iconst 1, 1) := by decide +kernel
theorem dX12_edit_102 : decode cX12_edit 102 = .ok (.iadd, 1) := by decide +kernel
theorem dX12_edit_103 : decode cX12_edit 103 = .ok (.iadd, 1) := by decide +kernel
theorem dX12_edit_104 : decode cX12_edit 104 = .ok (.istore 6, 2) := by decide +kernel
theorem dX12_edit_106 : decode cX12_edit 106 = .ok (.iinc 7 1, 3) := by decide +kernel
theorem dX12_edit_109 : decode cX12_edit 109 = .ok (.goto (-30), 3) := by decide +kernel
theorem dX12_edit_112 : decode cX12_edit 112 = .ok (.iload 6, 2) := by decide +kernel
theorem dX12_edit_114 : decode cX12_edit 114 = .ok (.sipush 400, 3) := by decide +kernel
theorem dX12_edit_117 : decode cX12_edit 117 = .ok (.if_icmp .gt 10, 3) := by decide +kernel
theorem dX12_edit_120 : decode cX12_edit 120 = .ok (.iload 5, 2) := by decide +kernel
theorem dX12_edit_122 : decode cX12_edit 122 = .ok (.bipush 40, 2) := by decide +kernel
theorem dX12_edit_124 : decode cX12_edit 124 = .ok (.if_icmp .le 6, 3) := by decide +kernel
theorem dX12_edit_127 : decode cX12_edit 127 = .ok (.bipush (-3), 2) := by decide +kernel
theorem dX12_edit_129 : decode cX12_edit 129 = .ok (.ireturn, 1) := by decide +kernel
theorem dX12_edit_130 : decode cX12_edit 130 = .ok (.aload_n 0, 1) := by decide +kernel
theorem dX12_edit_131 : decode cX12_edit 131 = .ok (.iload_n 1, 1) := by decide +kernel
theorem dX12_edit_132 : decode cX12_edit 132 = .ok (.iload_n 2, 1) := by decide +kernel
theorem dX12_edit_133 : decode cX12_edit 133 = .ok (.invokevirtual 321, 3) := by decide +kernel
theorem dX12_edit_136 : decode cX12_edit 136 = .ok (.istore 7, 2) := by decide +kernel
theorem dX12_edit_138 : decode cX12_edit 138 = .ok (.aload_n 0, 1) := by decide +kernel
theorem dX12_edit_139 : decode cX12_edit 139 = .ok (.iload_n 1, 1) := by decide +kernel
theorem dX12_edit_140 : decode cX12_edit 140 = .ok (.iload 4, 2) := by decide +kernel
theorem dX12_edit_142 : decode cX12_edit 142 = .ok (.invokevirtual 321, 3) := by decide +kernel
theorem dX12_edit_145 : decode cX12_edit 145 = .ok (.istore 8, 2) := by decide +kernel
theorem dX12_edit_147 : decode cX12_edit 147 = .ok (.iload_n 2, 1) := by decide +kernel
theorem dX12_edit_148 : decode cX12_edit 148 = .ok (.iload 4, 2) := by decide +kernel
theorem dX12_edit_150 : decode cX12_edit 150 = .ok (.if_icmp .ge 12, 3) := by decide +kernel
theorem dX12_edit_153 : decode cX12_edit 153 = .ok (.aload_n 0, 1) := by decide +kernel
theorem dX12_edit_154 : decode cX12_edit 154 = .ok (.iload_n 1, 1) := by decide +kernel
theorem dX12_edit_155 : decode cX12_edit 155 = .ok (.iload_n 2, 1) := by decide +kernel
theorem dX12_edit_156 : decode cX12_edit 156 = .ok (.invokevirtual 289, 3) := by decide +kernel
theorem dX12_edit_159 : decode cX12_edit 159 = .ok (.goto 4, 3) := by decide +kernel
theorem dX12_edit_162 : decode cX12_edit 162 = .ok (.iconst 0, 1) := by decide +kernel
theorem dX12_edit_163 : decode cX12_edit 163 = .ok (.istore 9, 2) := by decide +kernel
theorem dX12_edit_165 : decode cX12_edit 165 = .ok (.aload_n 0, 1) := by decide +kernel
theorem dX12_edit_166 : decode cX12_edit 166 = .ok (.getfield 274, 3) := by decide +kernel
theorem dX12_edit_169 : decode cX12_edit 169 = .ok (.iload 9, 2) := by decide +kernel
theorem dX12_edit_171 : decode cX12_edit 171 = .ok (.isub, 1) := by decide +kernel
theorem dX12_edit_172 : decode cX12_edit 172 = .ok (.istore 10, 2) := by decide +kernel
theorem dX12_edit_174 : decode cX12_edit 174 = .ok (.iload 10, 2) := by decide +kernel
theorem dX12_edit_176 : decode cX12_edit 176 = .ok (.ifCond .le 45, 3) := by decide +kernel
theorem dX12_edit_179 : decode cX12_edit 179 = .ok (.iload 8, 2) := by decide +kernel
theorem dX12_edit_181 : decode cX12_edit 181 = .ok (.iconst 1, 1) := by decide +kernel
theorem dX12_edit_182 : decode cX12_edit 182 = .ok (.isub, 1) := by decide +kernel
theorem dX12_edit_183 : decode cX12_edit 183 = .ok (.istore 11, 2) := by decide +kernel
theorem dX12_edit_185 : decode cX12_edit 185 = .ok (.iload 11, 2) := by decide +kernel
theorem dX12_edit_187 : decode cX12_edit 187 = .ok (.iload 7, 2) := by decide +kernel
theorem dX12_edit_189 : decode cX12_edit 189 = .ok (.iload 9, 2) := by decide +kernel
theorem dX12_edit_191 : decode cX12_edit 191 = .ok (.iadd, 1) := by decide +kernel
theorem dX12_edit_192 : decode cX12_edit 192 = .ok (.if_icmp .lt 26, 3) := by decide +kernel
theorem dX12_edit_195 : decode cX12_edit 195 = .ok (.aload_n 0, 1) := by decide +kernel
theorem dX12_edit_196 : decode cX12_edit 196 = .ok (.getfield 24, 3) := by decide +kernel
theorem dX12_edit_199 : decode cX12_edit 199 = .ok (.iload 11, 2) := by decide +kernel
theorem dX12_edit_201 : decode cX12_edit 201 = .ok (.iload 10, 2) := by decide +kernel
theorem dX12_edit_203 : decode cX12_edit 203 = .ok (.iadd, 1) := by decide +kernel
theorem dX12_edit_204 : decode cX12_edit 204 = .ok (.aload_n 0, 1) := by decide +kernel
theorem dX12_edit_205 : decode cX12_edit 205 = .ok (.getfield 24, 3) := by decide +kernel
theorem dX12_edit_208 : decode cX12_edit 208 = .ok (.iload 11, 2) := by decide +kernel
theorem dX12_edit_210 : decode cX12_edit 210 = .ok (.baload, 1) := by decide +kernel
theorem dX12_edit_211 : decode cX12_edit 211 = .ok (.bastore, 1) := by decide +kernel
theorem dX12_edit_212 : decode cX12_edit 212 = .ok (.iinc 11 (-1), 3) := by decide +kernel
theorem dX12_edit_215 : decode cX12_edit 215 = .ok (.goto (-30), 3) := by decide +kernel
theorem dX12_edit_218 : decode cX12_edit 218 = .ok (.goto 40, 3) := by decide +kernel
theorem dX12_edit_221 : decode cX12_edit 221 = .ok (.iload 7, 2) := by decide +kernel
theorem dX12_edit_223 : decode cX12_edit 223 = .ok (.iload 9, 2) := by decide +kernel
theorem dX12_edit_225 : decode cX12_edit 225 = .ok (.iadd, 1) := by decide +kernel
theorem dX12_edit_226 : decode cX12_edit 226 = .ok (.istore 11, 2) := by decide +kernel
theorem dX12_edit_228 : decode cX12_edit 228 = .ok (.iload 11, 2) := by decide +kernel
theorem dX12_edit_230 : decode cX12_edit 230 = .ok (.iload 8, 2) := by decide +kernel
theorem dX12_edit_232 : decode cX12_edit 232 = .ok (.if_icmp .ge 26, 3) := by decide +kernel
theorem dX12_edit_235 : decode cX12_edit 235 = .ok (.aload_n 0, 1) := by decide +kernel
theorem dX12_edit_236 : decode cX12_edit 236 = .ok (.getfield 24, 3) := by decide +kernel
theorem dX12_edit_239 : decode cX12_edit 239 = .ok (.iload 11, 2) := by decide +kernel
theorem dX12_edit_241 : decode cX12_edit 241 = .ok (.iload 10, 2) := by decide +kernel
theorem dX12_edit_243 : decode cX12_edit 243 = .ok (.iadd, 1) := by decide +kernel
theorem dX12_edit_244 : decode cX12_edit 244 = .ok (.aload_n 0, 1) := by decide +kernel
theorem dX12_edit_245 : decode cX12_edit 245 = .ok (.getfield 24, 3) := by decide +kernel
theorem dX12_edit_248 : decode cX12_edit 248 = .ok (.iload 11, 2) := by decide +kernel
theorem dX12_edit_250 : decode cX12_edit 250 = .ok (.baload, 1) := by decide +kernel
theorem dX12_edit_251 : decode cX12_edit 251 = .ok (.bastore, 1) := by decide +kernel
theorem dX12_edit_252 : decode cX12_edit 252 = .ok (.iinc 11 1, 3) := by decide +kernel
theorem dX12_edit_255 : decode cX12_edit 255 = .ok (.goto (-27), 3) := by decide +kernel
theorem dX12_edit_258 : decode cX12_edit 258 = .ok (.iconst 0, 1) := by decide +kernel
theorem dX12_edit_259 : decode cX12_edit 259 = .ok (.istore 11, 2) := by decide +kernel
theorem dX12_edit_261 : decode cX12_edit 261 = .ok (.iload 11, 2) := by decide +kernel
theorem dX12_edit_263 : decode cX12_edit 263 = .ok (.aload_n 0, 1) := by decide +kernel
theorem dX12_edit_264 : decode cX12_edit 264 = .ok (.getfield 274, 3) := by decide +kernel
theorem dX12_edit_267 : decode cX12_edit 267 = .ok (.if_icmp .ge 26, 3) := by decide +kernel
theorem dX12_edit_270 : decode cX12_edit 270 = .ok (.aload_n 0, 1) := by decide +kernel
theorem dX12_edit_271 : decode cX12_edit 271 = .ok (.getfield 24, 3) := by decide +kernel
theorem dX12_edit_274 : decode cX12_edit 274 = .ok (.iload 7, 2) := by decide +kernel
theorem dX12_edit_276 : decode cX12_edit 276 = .ok (.iload 11, 2) := by decide +kernel
theorem dX12_edit_278 : decode cX12_edit 278 = .ok (.iadd, 1) := by decide +kernel
theorem dX12_edit_279 : decode cX12_edit 279 = .ok (.aload_n 0, 1) := by decide +kernel
theorem dX12_edit_280 : decode cX12_edit 280 = .ok (.getfield 13, 3) := by decide +kernel
theorem dX12_edit_283 : decode cX12_edit 283 = .ok (.iload 11, 2) := by decide +kernel
theorem dX12_edit_285 : decode cX12_edit 285 = .ok (.baload, 1) := by decide +kernel
theorem dX12_edit_286 : decode cX12_edit 286 = .ok (.bastore, 1) := by decide +kernel
theorem dX12_edit_287 : decode cX12_edit 287 = .ok (.iinc 11 1, 3) := by decide +kernel
theorem dX12_edit_290 : decode cX12_edit 290 = .ok (.goto (-29), 3) := by decide +kernel
theorem dX12_edit_293 : decode cX12_edit 293 = .ok (.aload_n 0, 1) := by decide +kernel
theorem dX12_edit_294 : decode cX12_edit 294 = .ok (.getfield 17, 3) := by decide +kernel
theorem dX12_edit_297 : decode cX12_edit 297 = .ok (.bipush 8, 2) := by decide +kernel
theorem dX12_edit_299 : decode cX12_edit 299 = .ok (.bipush 40, 2) := by decide +kernel
theorem dX12_edit_301 : decode cX12_edit 301 = .ok (.iload_n 1, 1) := by decide +kernel
theorem dX12_edit_302 : decode cX12_edit 302 = .ok (.imul, 1) := by decide +kernel
theorem dX12_edit_303 : decode cX12_edit 303 = .ok (.iadd, 1) := by decide +kernel
theorem dX12_edit_304 : decode cX12_edit 304 = .ok (.iload_n 2, 1) := by decide +kernel
theorem dX12_edit_305 : decode cX12_edit 305 = .ok (.iadd, 1) := by decide +kernel
theorem dX12_edit_306 : decode cX12_edit 306 = .ok (.aload_n 0, 1) := by decide +kernel
theorem dX12_edit_307 : decode cX12_edit 307 = .ok (.getfield 274, 3) := by decide +kernel
theorem dX12_edit_310 : decode cX12_edit 310 = .ok (.iastore, 1) := by decide +kernel
theorem dX12_edit_311 : decode cX12_edit 311 = .ok (.aload_n 0, 1) := by decide +kernel
theorem dX12_edit_312 : decode cX12_edit 312 = .ok (.getfield 17, 3) := by decide +kernel
theorem dX12_edit_315 : decode cX12_edit 315 = .ok (.iconst 4, 1) := by decide +kernel
theorem dX12_edit_316 : decode cX12_edit 316 = .ok (.iload_n 1, 1) := by decide +kernel
theorem dX12_edit_317 : decode cX12_edit 317 = .ok (.iadd, 1) := by decide +kernel
theorem dX12_edit_318 : decode cX12_edit 318 = .ok (.iload 5, 2) := by decide +kernel
theorem dX12_edit_320 : decode cX12_edit 320 = .ok (.iastore, 1) := by decide +kernel
theorem dX12_edit_321 : decode cX12_edit 321 = .ok (.aload_n 0, 1) := by decide +kernel
theorem dX12_edit_322 : decode cX12_edit 322 = .ok (.iconst 0, 1) := by decide +kernel
theorem dX12_edit_323 : decode cX12_edit 323 = .ok (.putfield 300, 3) := by decide +kernel
theorem dX12_edit_326 : decode cX12_edit 326 = .ok (.iload 5, 2) := by decide +kernel
theorem dX12_edit_328 : decode cX12_edit 328 = .ok (.ireturn, 1) := by decide +kernel
theorem dX12_drop_0 : decode cX12_drop 0 = .ok (.aload_n 0, 1) := by decide +kernel
theorem dX12_drop_1 : decode cX12_drop 1 = .ok (.iconst 0, 1) := by decide +kernel
theorem dX12_drop_2 : decode cX12_drop 2 = .ok (.putfield 1, 3) := by decide +kernel
theorem dX12_drop_5 : decode cX12_drop 5 = .ok (.aload_n 0, 1) := by decide +kernel
theorem dX12_drop_6 : decode cX12_drop 6 = .ok (.iload_n 1, 1) := by decide +kernel
theorem dX12_drop_7 : decode cX12_drop 7 = .ok (.iload_n 2, 1) := by decide +kernel
theorem dX12_drop_8 : decode cX12_drop 8 = .ok (.invokevirtual 324, 3) := by decide +kernel
theorem dX12_drop_11 : decode cX12_drop 11 = .ok (.ifCond .ne 5, 3) := by decide +kernel
theorem dX12_drop_14 : decode cX12_drop 14 = .ok (.iconst (-1), 1) := by decide +kernel
theorem dX12_drop_15 : decode cX12_drop 15 = .ok (.ireturn, 1) := by decide +kernel
theorem dX12_drop_16 : decode cX12_drop 16 = .ok (.aload_n 0, 1) := by decide +kernel
theorem dX12_drop_17 : decode cX12_drop 17 = .ok (.iload_n 1, 1) := by decide +kernel
theorem dX12_drop_18 : decode cX12_drop 18 = .ok (.iload_n 2, 1) := by decide +kernel
theorem dX12_drop_19 : decode cX12_drop 19 = .ok (.invokevirtual 321, 3) := by decide +kernel
theorem dX12_drop_22 : decode cX12_drop 22 = .ok (.istore_n 3, 1) := by decide +kernel
theorem dX12_drop_23 : decode cX12_drop 23 = .ok (.aload_n 0, 1) := by decide +kernel
theorem dX12_drop_24 : decode cX12_drop 24 = .ok (.iload_n 1, 1) := by decide +kernel
theorem dX12_drop_25 : decode cX12_drop 25 = .ok (.iload_n 2, 1) := by decide +kernel
theorem dX12_drop_26 : decode cX12_drop 26 = .ok (.invokevirtual 289, 3) := by decide +kernel
theorem dX12_drop_29 : decode cX12_drop 29 = .ok (.istore 4, 2) := by decide +kernel
theorem dX12_drop_31 : decode cX12_drop 31 = .ok (.aload_n 0, 1) := by decide +kernel
theorem dX12_drop_32 : decode cX12_drop 32 = .ok (.iload_n 1, 1) := by decide +kernel
theorem dX12_drop_33 : decode cX12_drop 33 = .ok (.aload_n 0, 1) := by decide +kernel
theorem dX12_drop_34 : decode cX12_drop 34 = .ok (.iload_n 1, 1) := by decide +kernel
theorem dX12_drop_35 : decode cX12_drop 35 = .ok (.invokevirtual 285, 3) := by decide +kernel
theorem dX12_drop_38 : decode cX12_drop 38 = .ok (.invokevirtual 321, 3) := by decide +kernel
theorem dX12_drop_41 : decode cX12_drop 41 = .ok (.istore 5, 2) := by decide +kernel
theorem dX12_drop_43 : decode cX12_drop 43 = .ok (.iload_n 3, 1) := by decide +kernel
theorem dX12_drop_44 : decode cX12_drop 44 = .ok (.iload 4, 2) := by decide +kernel
theorem dX12_drop_46 : decode cX12_drop 46 = .ok (.iadd, 1) := by decide +kernel
theorem dX12_drop_47 : decode cX12_drop 47 = .ok (.istore 6, 2) := by decide +kernel
theorem dX12_drop_49 : decode cX12_drop 49 = .ok (.iload 6, 2) := by decide +kernel
theorem dX12_drop_51 : decode cX12_drop 51 = .ok (.iload 5, 2) := by decide +kernel
theorem dX12_drop_53 : decode cX12_drop 53 = .ok (.if_icmp .ge 26, 3) := by decide +kernel
theorem dX12_drop_56 : decode cX12_drop 56 = .ok (.aload_n 0, 1) := by decide +kernel
theorem dX12_drop_57 : decode cX12_drop 57 = .ok (.getfield 24, 3) := by decide +kernel
theorem dX12_drop_60 : decode cX12_drop 60 = .ok (.iload 6, 2) := by decide +kernel
theorem dX12_drop_62 : decode cX12_drop 62 = .ok (.iload 4, 2) := by decide +kernel
theorem dX12_drop_64 : decode cX12_drop 64 = .ok (.isub, 1) := by decide +kernel
theorem dX12_drop_65 : decode cX12_drop 65 = .ok (.aload_n 0, 1) := by decide +kernel
theorem dX12_drop_66 : decode cX12_drop 66 = .ok (.getfield 24, 3) := by decide +kernel
theorem dX12_drop_69 : decode cX12_drop 69 = .ok (.iload 6, 2) := by decide +kernel
theorem dX12_drop_71 : decode cX12_drop 71 = .ok (.baload, 1) := by decide +kernel
theorem dX12_drop_72 : decode cX12_drop 72 = .ok (.bastore, 1) := by decide +kernel
theorem dX12_drop_73 : decode cX12_drop 73 = .ok (.iinc 6 1, 3) := by decide +kernel
theorem dX12_drop_76 : decode cX12_drop 76 = .ok (.goto (-27), 3) := by decide +kernel
theorem dX12_drop_79 : decode cX12_drop 79 = .ok (.iload_n 2, 1) := by decide +kernel
theorem dX12_drop_80 : decode cX12_drop 80 = .ok (.istore 6, 2) := by decide +kernel
theorem dX12_drop_82 : decode cX12_drop 82 = .ok (.iload 6, 2) := by decide +kernel
theorem dX12_drop_84 : decode cX12_drop 84 = .ok (.aload_n 0, 1) := by decide +kernel
theorem dX12_drop_85 : decode cX12_drop 85 = .ok (.iload_n 1, 1) := by decide +kernel
theorem dX12_drop_86 : decode cX12_drop 86 = .ok (.invokevirtual 285, 3) := by decide +kernel
theorem dX12_drop_89 : decode cX12_drop 89 = .ok (.iconst 1, 1) := by decide +kernel
theorem dX12_drop_90 : decode cX12_drop 90 = .ok (.isub, 1) := by decide +kernel
theorem dX12_drop_91 : decode cX12_drop 91 = .ok (.if_icmp .ge 41, 3) := by decide +kernel
theorem dX12_drop_94 : decode cX12_drop 94 = .ok (.aload_n 0, 1) := by decide +kernel
theorem dX12_drop_95 : decode cX12_drop 95 = .ok (.getfield 17, 3) := by decide +kernel
theorem dX12_drop_98 : decode cX12_drop 98 = .ok (.bipush 8, 2) := by decide +kernel
theorem dX12_drop_100 : decode cX12_drop 100 = .ok (.bipush 40, 2) := by decide +kernel
theorem dX12_drop_102 : decode cX12_drop 102 = .ok (.iload_n 1, 1) := by decide +kernel
theorem dX12_drop_103 : decode cX12_drop 103 = .ok (.imul, 1) := by decide +kernel
theorem dX12_drop_104 : decode cX12_drop 104 = .ok (.iadd, 1) := by decide +kernel
theorem dX12_drop_105 : decode cX12_drop 105 = .ok (.iload 6, 2) := by decide +kernel
theorem dX12_drop_107 : decode cX12_drop 107 = .ok (.iadd, 1) := by decide +kernel
theorem dX12_drop_108 : decode cX12_drop 108 = .ok (.aload_n 0, 1) := by decide +kernel
theorem dX12_drop_109 : decode cX12_drop 109 = .ok (.getfield 17, 3) := by decide +kernel
theorem dX12_drop_112 : decode cX12_drop 112 = .ok (.bipush 8, 2) := by decide +kernel
theorem dX12_drop_114 : decode cX12_drop 114 = .ok (.bipush 40, 2) := by decide +kernel
theorem dX12_drop_116 : decode cX12_drop 116 = .ok (.iload_n 1, 1) := by decide +kernel
theorem dX12_drop_117 : decode cX12_drop 117 = .ok (.imul, 1) := by decide +kernel
theorem dX12_drop_118 : decode cX12_drop 118 = .ok (.iadd, 1) := by decide +kernel
theorem dX12_drop_119 : decode cX12_drop 119 = .ok (.iload 6, 2) := by decide +kernel
theorem dX12_drop_121 : decode cX12_drop 121 = .ok (.iadd, 1) := by decide +kernel
theorem dX12_drop_122 : decode cX12_drop 122 = .ok (.iconst 1, 1) := by decide +kernel
theorem dX12_drop_123 : decode cX12_drop 123 = .ok (.iadd, 1) := by decide +kernel
theorem dX12_drop_124 : decode cX12_drop 124 = .ok (.iaload, 1) := by decide +kernel
theorem dX12_drop_125 : decode cX12_drop 125 = .ok (.iastore, 1) := by decide +kernel
theorem dX12_drop_126 : decode cX12_drop 126 = .ok (.iinc 6 1, 3) := by decide +kernel
theorem dX12_drop_129 : decode cX12_drop 129 = .ok (.goto (-47), 3) := by decide +kernel
theorem dX12_drop_132 : decode cX12_drop 132 = .ok (.aload_n 0, 1) := by decide +kernel
theorem dX12_drop_133 : decode cX12_drop 133 = .ok (.getfield 17, 3) := by decide +kernel
theorem dX12_drop_136 : decode cX12_drop 136 = .ok (.iconst 4, 1) := by decide +kernel
theorem dX12_drop_137 : decode cX12_drop 137 = .ok (.iload_n 1, 1) := by decide +kernel
theorem dX12_drop_138 : decode cX12_drop 138 = .ok (.iadd, 1) := by decide +kernel
theorem dX12_drop_139 : decode cX12_drop 139 = .ok (.dup2, 1) := by decide +kernel
theorem dX12_drop_140 : decode cX12_drop 140 = .ok (.iaload, 1) := by decide +kernel
theorem dX12_drop_141 : decode cX12_drop 141 = .ok (.iconst 1, 1) := by decide +kernel
theorem dX12_drop_142 : decode cX12_drop 142 = .ok (.isub, 1) := by decide +kernel
theorem dX12_drop_143 : decode cX12_drop 143 = .ok (.iastore, 1) := by decide +kernel
theorem dX12_drop_144 : decode cX12_drop 144 = .ok (.aload_n 0, 1) := by decide +kernel
theorem dX12_drop_145 : decode cX12_drop 145 = .ok (.iconst 0, 1) := by decide +kernel
theorem dX12_drop_146 : decode cX12_drop 146 = .ok (.putfield 300, 3) := by decide +kernel
theorem dX12_drop_149 : decode cX12_drop 149 = .ok (.aload_n 0, 1) := by decide +kernel
theorem dX12_drop_150 : decode cX12_drop 150 = .ok (.iload_n 1, 1) := by decide +kernel
theorem dX12_drop_151 : decode cX12_drop 151 = .ok (.invokevirtual 285, 3) := by decide +kernel
theorem dX12_drop_154 : decode cX12_drop 154 = .ok (.ireturn, 1) := by decide +kernel
theorem dX12_image_0 : decode cX12_image 0 = .ok (.aload_n 0, 1) := by decide +kernel
theorem dX12_image_1 : decode cX12_image 1 = .ok (.iconst 0, 1) := by decide +kernel
theorem dX12_image_2 : decode cX12_image 2 = .ok (.putfield 1, 3) := by decide +kernel
theorem dX12_image_5 : decode cX12_image 5 = .ok (.iload_n 1, 1) := by decide +kernel
theorem dX12_image_6 : decode cX12_image 6 = .ok (.iconst 0, 1) := by decide +kernel
theorem dX12_image_7 : decode cX12_image 7 = .ok (.iconst 1, 1) := by decide +kernel
theorem dX12_image_8 : decode cX12_image 8 = .ok (.invokestatic 277, 3) := by decide +kernel
theorem dX12_image_11 : decode cX12_image 11 = .ok (.ifCond .ne 5, 3) := by decide +kernel
theorem dX12_image_14 : decode cX12_image 14 = .ok (.iconst 0, 1) := by decide +kernel
theorem dX12_image_15 : decode cX12_image 15 = .ok (.ireturn, 1) := by decide +kernel
theorem dX12_image_16 : decode cX12_image 16 = .ok (.iconst 0, 1) := by decide +kernel
theorem dX12_image_17 : decode cX12_image 17 = .ok (.istore_n 2, 1) := by decide +kernel
theorem dX12_image_18 : decode cX12_image 18 = .ok (.iload_n 2, 1) := by decide +kernel
theorem dX12_image_19 : decode cX12_image 19 = .ok (.sipush 173, 3) := by decide +kernel
theorem dX12_image_22 : decode cX12_image 22 = .ok (.if_icmp .ge 27, 3) := by decide +kernel
theorem dX12_image_25 : decode cX12_image 25 = .ok (.aload_n 0, 1) := by decide +kernel
theorem dX12_image_26 : decode cX12_image 26 = .ok (.getfield 21, 3) := by decide +kernel
theorem dX12_image_29 : decode cX12_image 29 = .ok (.sipush 173, 3) := by decide +kernel
theorem dX12_image_32 : decode cX12_image 32 = .ok (.iload_n 1, 1) := by decide +kernel
theorem dX12_image_33 : decode cX12_image 33 = .ok (.imul, 1) := by decide +kernel
theorem dX12_image_34 : decode cX12_image 34 = .ok (.iload_n 2, 1) := by decide +kernel
theorem dX12_image_35 : decode cX12_image 35 = .ok (.iadd, 1) := by decide +kernel
theorem dX12_image_36 : decode cX12_image 36 = .ok (.aload_n 0, 1) := by decide +kernel
theorem dX12_image_37 : decode cX12_image 37 = .ok (.getfield 17, 3) := by decide +kernel
theorem dX12_image_40 : decode cX12_image 40 = .ok (.iload_n 2, 1) := by decide +kernel
theorem dX12_image_41 : decode cX12_image 41 = .ok (.iaload, 1) := by decide +kernel
theorem dX12_image_42 : decode cX12_image 42 = .ok (.iastore, 1) := by decide +kernel
theorem dX12_image_43 : decode cX12_image 43 = .ok (.iinc 2 1, 3) := by decide +kernel
theorem dX12_image_46 : decode cX12_image 46 = .ok (.goto (-28), 3) := by decide +kernel
theorem dX12_image_49 : decode cX12_image 49 = .ok (.iconst 0, 1) := by decide +kernel
theorem dX12_image_50 : decode cX12_image 50 = .ok (.istore_n 2, 1) := by decide +kernel
theorem dX12_image_51 : decode cX12_image 51 = .ok (.iload_n 2, 1) := by decide +kernel
theorem dX12_image_52 : decode cX12_image 52 = .ok (.sipush 1690, 3) := by decide +kernel
theorem dX12_image_55 : decode cX12_image 55 = .ok (.if_icmp .ge 27, 3) := by decide +kernel
theorem dX12_image_58 : decode cX12_image 58 = .ok (.aload_n 0, 1) := by decide +kernel
theorem dX12_image_59 : decode cX12_image 59 = .ok (.getfield 27, 3) := by decide +kernel
theorem dX12_image_62 : decode cX12_image 62 = .ok (.sipush 1690, 3) := by decide +kernel
theorem dX12_image_65 : decode cX12_image 65 = .ok (.iload_n 1, 1) := by decide +kernel
theorem dX12_image_66 : decode cX12_image 66 = .ok (.imul, 1) := by decide +kernel
theorem dX12_image_67 : decode cX12_image 67 = .ok (.iload_n 2, 1) := by decide +kernel
theorem dX12_image_68 : decode cX12_image 68 = .ok (.iadd, 1) := by decide +kernel
theorem dX12_image_69 : decode cX12_image 69 = .ok (.aload_n 0, 1) := by decide +kernel
theorem dX12_image_70 : decode cX12_image 70 = .ok (.getfield 24, 3) := by decide +kernel
theorem dX12_image_73 : decode cX12_image 73 = .ok (.iload_n 2, 1) := by decide +kernel
theorem dX12_image_74 : decode cX12_image 74 = .ok (.baload, 1) := by decide +kernel
theorem dX12_image_75 : decode cX12_image 75 = .ok (.bastore, 1) := by decide +kernel
theorem dX12_image_76 : decode cX12_image 76 = .ok (.iinc 2 1, 3) := by decide +kernel
theorem dX12_image_79 : decode cX12_image 79 = .ok (.goto (-28), 3) := by decide +kernel
theorem dX12_image_82 : decode cX12_image 82 = .ok (.aload_n 0, 1) := by decide +kernel
theorem dX12_image_83 : decode cX12_image 83 = .ok (.getfield 30, 3) := by decide +kernel
theorem dX12_image_86 : decode cX12_image 86 = .ok (.iload_n 1, 1) := by decide +kernel
theorem dX12_image_87 : decode cX12_image 87 = .ok (.iconst 1, 1) := by decide +kernel
theorem dX12_image_88 : decode cX12_image 88 = .ok (.bastore, 1) := by decide +kernel
theorem dX12_image_89 : decode cX12_image 89 = .ok (.iconst 1, 1) := by decide +kernel
theorem dX12_image_90 : decode cX12_image 90 = .ok (.ireturn, 1) := by decide +kernel
theorem dX12_restore_0 : decode cX12_restore 0 = .ok (.aload_n 0, 1) := by decide +kernel
theorem dX12_restore_1 : decode cX12_restore 1 = .ok (.iconst 0, 1) := by decide +kernel
theorem dX12_restore_2 : decode cX12_restore 2 = .ok (.putfield 1, 3) := by decide +kernel
theorem dX12_restore_5 : decode cX12_restore 5 = .ok (.iload_n 1, 1) := by decide +kernel
theorem dX12_restore_6 : decode cX12_restore 6 = .ok (.iconst 0, 1) := by decide +kernel
theorem dX12_restore_7 : decode cX12_restore 7 = .ok (.iconst 1, 1) := by decide +kernel
theorem dX12_restore_8 : decode cX12_restore 8 = .ok (.invokestatic 277, 3) := by decide +kernel
theorem dX12_restore_11 : decode cX12_restore 11 = .ok (.ifCond .eq 12, 3) := by decide +kernel
theorem dX12_restore_14 : decode cX12_restore 14 = .ok (.aload_n 0, 1) := by decide +kernel
theorem dX12_restore_15 : decode cX12_restore 15 = .ok (.getfield 30, 3) := by decide +kernel
theorem dX12_restore_18 : decode cX12_restore 18 = .ok (.iload_n 1, 1) := by decide +kernel
theorem dX12_restore_19 : decode cX12_restore 19 = .ok (.baload, 1) := by decide +kernel
theorem dX12_restore_20 : decode cX12_restore 20 = .ok (.ifCond .ne 5, 3) := by decide +kernel
theorem dX12_restore_23 : decode cX12_restore 23 = .ok (.iconst 0, 1) := by decide +kernel
theorem dX12_restore_24 : decode cX12_restore 24 = .ok (.ireturn, 1) := by decide +kernel
theorem dX12_restore_25 : decode cX12_restore 25 = .ok (.iconst 0, 1) := by decide +kernel
theorem dX12_restore_26 : decode cX12_restore 26 = .ok (.istore_n 2, 1) := by decide +kernel
theorem dX12_restore_27 : decode cX12_restore 27 = .ok (.iload_n 2, 1) := by decide +kernel
theorem dX12_restore_28 : decode cX12_restore 28 = .ok (.sipush 173, 3) := by decide +kernel
theorem dX12_restore_31 : decode cX12_restore 31 = .ok (.if_icmp .ge 27, 3) := by decide +kernel
theorem dX12_restore_34 : decode cX12_restore 34 = .ok (.aload_n 0, 1) := by decide +kernel
theorem dX12_restore_35 : decode cX12_restore 35 = .ok (.getfield 17, 3) := by decide +kernel
theorem dX12_restore_38 : decode cX12_restore 38 = .ok (.iload_n 2, 1) := by decide +kernel
theorem dX12_restore_39 : decode cX12_restore 39 = .ok (.aload_n 0, 1) := by decide +kernel
theorem dX12_restore_40 : decode cX12_restore 40 = .ok (.getfield 21, 3) := by decide +kernel
theorem dX12_restore_43 : decode cX12_restore 43 = .ok (.sipush 173, 3) := by decide +kernel
theorem dX12_restore_46 : decode cX12_restore 46 = .ok (.iload_n 1, 1) := by decide +kernel
theorem dX12_restore_47 : decode cX12_restore 47 = .ok (.imul, 1) := by decide +kernel
theorem dX12_restore_48 : decode cX12_restore 48 = .ok (.iload_n 2, 1) := by decide +kernel
theorem dX12_restore_49 : decode cX12_restore 49 = .ok (.iadd, 1) := by decide +kernel
theorem dX12_restore_50 : decode cX12_restore 50 = .ok (.iaload, 1) := by decide +kernel
theorem dX12_restore_51 : decode cX12_restore 51 = .ok (.iastore, 1) := by decide +kernel
theorem dX12_restore_52 : decode cX12_restore 52 = .ok (.iinc 2 1, 3) := by decide +kernel
theorem dX12_restore_55 : decode cX12_restore 55 = .ok (.goto (-28), 3) := by decide +kernel
theorem dX12_restore_58 : decode cX12_restore 58 = .ok (.iconst 0, 1) := by decide +kernel
theorem dX12_restore_59 : decode cX12_restore 59 = .ok (.istore_n 2, 1) := by decide +kernel
theorem dX12_restore_60 : decode cX12_restore 60 = .ok (.iload_n 2, 1) := by decide +kernel
theorem dX12_restore_61 : decode cX12_restore 61 = .ok (.sipush 1690, 3) := by decide +kernel
theorem dX12_restore_64 : decode cX12_restore 64 = .ok (.if_icmp .ge 27, 3) := by decide +kernel
theorem dX12_restore_67 : decode cX12_restore 67 = .ok (.aload_n 0, 1) := by decide +kernel
theorem dX12_restore_68 : decode cX12_restore 68 = .ok (.getfield 24, 3) := by decide +kernel
theorem dX12_restore_71 : decode cX12_restore 71 = .ok (.iload_n 2, 1) := by decide +kernel
theorem dX12_restore_72 : decode cX12_restore 72 = .ok (.aload_n 0, 1) := by decide +kernel
theorem dX12_restore_73 : decode cX12_restore 73 = .ok (.getfield 27, 3) := by decide +kernel
theorem dX12_restore_76 : decode cX12_restore 76 = .ok (.sipush 1690, 3) := by decide +kernel
theorem dX12_restore_79 : decode cX12_restore 79 = .ok (.iload_n 1, 1) := by decide +kernel
theorem dX12_restore_80 : decode cX12_restore 80 = .ok (.imul, 1) := by decide +kernel
theorem dX12_restore_81 : decode cX12_restore 81 = .ok (.iload_n 2, 1) := by decide +kernel
theorem dX12_restore_82 : decode cX12_restore 82 = .ok (.iadd, 1) := by decide +kernel
theorem dX12_restore_83 : decode cX12_restore 83 = .ok (.baload, 1) := by decide +kernel
theorem dX12_restore_84 : decode cX12_restore 84 = .ok (.bastore, 1) := by decide +kernel
theorem dX12_restore_85 : decode cX12_restore 85 = .ok (.iinc 2 1, 3) := by decide +kernel
theorem dX12_restore_88 : decode cX12_restore 88 = .ok (.goto (-28), 3) := by decide +kernel
theorem dX12_restore_91 : decode cX12_restore 91 = .ok (.aload_n 0, 1) := by decide +kernel
theorem dX12_restore_92 : decode cX12_restore 92 = .ok (.iconst 0, 1) := by decide +kernel
theorem dX12_restore_93 : decode cX12_restore 93 = .ok (.putfield 300, 3) := by decide +kernel
theorem dX12_restore_96 : decode cX12_restore 96 = .ok (.iconst 1, 1) := by decide +kernel
theorem dX12_restore_97 : decode cX12_restore 97 = .ok (.ireturn, 1) := by decide +kernel
theorem dX12_count_0 : decode cX12_count 0 = .ok (.aload_n 0, 1) := by decide +kernel
theorem dX12_count_1 : decode cX12_count 1 = .ok (.iconst 0, 1) := by decide +kernel
theorem dX12_count_2 : decode cX12_count 2 = .ok (.putfield 1, 3) := by decide +kernel
theorem dX12_count_5 : decode cX12_count 5 = .ok (.iload_n 1, 1) := by decide +kernel
theorem dX12_count_6 : decode cX12_count 6 = .ok (.tableswitch 81 0 3 #[30, 58, 67, 76], 30) := by decide +kernel
theorem dX12_count_36 : decode cX12_count 36 = .ok (.aload_n 0, 1) := by decide +kernel
theorem dX12_count_37 : decode cX12_count 37 = .ok (.getfield 17, 3) := by decide +kernel
theorem dX12_count_40 : decode cX12_count 40 = .ok (.iconst 0, 1) := by decide +kernel
theorem dX12_count_41 : decode cX12_count 41 = .ok (.iaload, 1) := by decide +kernel
theorem dX12_count_42 : decode cX12_count 42 = .ok (.aload_n 0, 1) := by decide +kernel
theorem dX12_count_43 : decode cX12_count 43 = .ok (.getfield 17, 3) := by decide +kernel
theorem dX12_count_46 : decode cX12_count 46 = .ok (.iconst 1, 1) := by decide +kernel
theorem dX12_count_47 : decode cX12_count 47 = .ok (.iaload, 1) := by decide +kernel
theorem dX12_count_48 : decode cX12_count 48 = .ok (.iadd, 1) := by decide +kernel
theorem dX12_count_49 : decode cX12_count 49 = .ok (.aload_n 0, 1) := by decide +kernel
theorem dX12_count_50 : decode cX12_count 50 = .ok (.getfield 17, 3) := by decide +kernel
theorem dX12_count_53 : decode cX12_count 53 = .ok (.iconst 2, 1) := by decide +kernel
theorem dX12_count_54 : decode cX12_count 54 = .ok (.iaload, 1) := by decide +kernel
theorem dX12_count_55 : decode cX12_count 55 = .ok (.iadd, 1) := by decide +kernel
theorem dX12_count_56 : decode cX12_count 56 = .ok (.aload_n 0, 1) := by decide +kernel
theorem dX12_count_57 : decode cX12_count 57 = .ok (.getfield 17, 3) := by decide +kernel
theorem dX12_count_60 : decode cX12_count 60 = .ok (.iconst 3, 1) := by decide +kernel
theorem dX12_count_61 : decode cX12_count 61 = .ok (.iaload, 1) := by decide +kernel
theorem dX12_count_62 : decode cX12_count 62 = .ok (.iadd, 1) := by decide +kernel
theorem dX12_count_63 : decode cX12_count 63 = .ok (.ireturn, 1) := by decide +kernel
theorem dX12_count_64 : decode cX12_count 64 = .ok (.aload_n 0, 1) := by decide +kernel
theorem dX12_count_65 : decode cX12_count 65 = .ok (.getfield 17, 3) := by decide +kernel
theorem dX12_count_68 : decode cX12_count 68 = .ok (.sipush 168, 3) := by decide +kernel
theorem dX12_count_71 : decode cX12_count 71 = .ok (.iaload, 1) := by decide +kernel
theorem dX12_count_72 : decode cX12_count 72 = .ok (.ireturn, 1) := by decide +kernel
theorem dX12_count_73 : decode cX12_count 73 = .ok (.aload_n 0, 1) := by decide +kernel
theorem dX12_count_74 : decode cX12_count 74 = .ok (.getfield 17, 3) := by decide +kernel
theorem dX12_count_77 : decode cX12_count 77 = .ok (.sipush 172, 3) := by decide +kernel
theorem dX12_count_80 : decode cX12_count 80 = .ok (.iaload, 1) := by decide +kernel
theorem dX12_count_81 : decode cX12_count 81 = .ok (.ireturn, 1) := by decide +kernel
theorem dX12_count_82 : decode cX12_count 82 = .ok (.aload_n 0, 1) := by decide +kernel
theorem dX12_count_83 : decode cX12_count 83 = .ok (.getfield 267, 3) := by decide +kernel
theorem dX12_count_86 : decode cX12_count 86 = .ok (.ireturn, 1) := by decide +kernel
theorem dX12_count_87 : decode cX12_count 87 = .ok (.iconst (-1), 1) := by decide +kernel
theorem dX12_count_88 : decode cX12_count 88 = .ok (.ireturn, 1) := by decide +kernel
theorem dX12_lines_0 : decode cX12_lines 0 = .ok (.aload_n 0, 1) := by decide +kernel
theorem dX12_lines_1 : decode cX12_lines 1 = .ok (.iconst 0, 1) := by decide +kernel
theorem dX12_lines_2 : decode cX12_lines 2 = .ok (.putfield 1, 3) := by decide +kernel
theorem dX12_lines_5 : decode cX12_lines 5 = .ok (.aload_n 0, 1) := by decide +kernel
theorem dX12_lines_6 : decode cX12_lines 6 = .ok (.iload_n 1, 1) := by decide +kernel
theorem dX12_lines_7 : decode cX12_lines 7 = .ok (.invokevirtual 281, 3) := by decide +kernel
theorem dX12_lines_10 : decode cX12_lines 10 = .ok (.ifCond .eq 11, 3) := by decide +kernel
theorem dX12_lines_13 : decode cX12_lines 13 = .ok (.aload_n 0, 1) := by decide +kernel
theorem dX12_lines_14 : decode cX12_lines 14 = .ok (.iload_n 1, 1) := by decide +kernel
theorem dX12_lines_15 : decode cX12_lines 15 = .ok (.invokevirtual 285, 3) := by decide +kernel
theorem dX12_lines_18 : decode cX12_lines 18 = .ok (.goto 4, 3) := by decide +kernel
theorem dX12_lines_21 : decode cX12_lines 21 = .ok (.iconst (-1), 1) := by decide +kernel
theorem dX12_lines_22 : decode cX12_lines 22 = .ok (.ireturn, 1) := by decide +kernel
theorem dX12_wordIn_0 : decode cX12_wordIn 0 = .ok (.iconst 0, 1) := by decide +kernel
theorem dX12_wordIn_1 : decode cX12_wordIn 1 = .ok (.istore 4, 2) := by decide +kernel
theorem dX12_wordIn_3 : decode cX12_wordIn 3 = .ok (.iconst 0, 1) := by decide +kernel
theorem dX12_wordIn_4 : decode cX12_wordIn 4 = .ok (.istore 5, 2) := by decide +kernel
theorem dX12_wordIn_6 : decode cX12_wordIn 6 = .ok (.iconst 1, 1) := by decide +kernel
theorem dX12_wordIn_7 : decode cX12_wordIn 7 = .ok (.istore 6, 2) := by decide +kernel
theorem dX12_wordIn_9 : decode cX12_wordIn 9 = .ok (.iconst 0, 1) := by decide +kernel
theorem dX12_wordIn_10 : decode cX12_wordIn 10 = .ok (.istore 7, 2) := by decide +kernel
theorem dX12_wordIn_12 : decode cX12_wordIn 12 = .ok (.iload 7, 2) := by decide +kernel
theorem dX12_wordIn_14 : decode cX12_wordIn 14 = .ok (.getstatic 327, 3) := by decide +kernel
theorem dX12_wordIn_17 : decode cX12_wordIn 17 = .ok (.arraylength, 1) := by decide +kernel
theorem dX12_wordIn_18 : decode cX12_wordIn 18 = .ok (.if_icmp .ge 82, 3) := by decide +kernel
theorem dX12_wordIn_21 : decode cX12_wordIn 21 = .ok (.getstatic 327, 3) := by decide +kernel
theorem dX12_wordIn_24 : decode cX12_wordIn 24 = .ok (.iload 7, 2) := by decide +kernel
theorem dX12_wordIn_26 : decode cX12_wordIn 26 = .ok (.baload, 1) := by decide +kernel
theorem dX12_wordIn_27 : decode cX12_wordIn 27 = .ok (.bipush 32, 2) := by decide +kernel
theorem dX12_wordIn_29 : decode cX12_wordIn 29 = .ok (.if_icmp .ne 29, 3) := by decide +kernel
theorem dX12_wordIn_32 : decode cX12_wordIn 32 = .ok (.iload 6, 2) := by decide +kernel
theorem dX12_wordIn_34 : decode cX12_wordIn 34 = .ok (.ifCond .eq 12, 3) := by decide +kernel
theorem dX12_wordIn_37 : decode cX12_wordIn 37 = .ok (.iload 5, 2) := by decide +kernel
theorem dX12_wordIn_39 : decode cX12_wordIn 39 = .ok (.iload_n 3, 1) := by decide +kernel
theorem dX12_wordIn_40 : decode cX12_wordIn 40 = .ok (.if_icmp .ne 6, 3) := by decide +kernel
theorem dX12_wordIn_43 : decode cX12_wordIn 43 = .ok (.iload 4, 2) := by decide +kernel
theorem dX12_wordIn_45 : decode cX12_wordIn 45 = .ok (.ireturn, 1) := by decide +kernel
theorem dX12_wordIn_46 : decode cX12_wordIn 46 = .ok (.iinc 4 1, 3) := by decide +kernel
theorem dX12_wordIn_49 : decode cX12_wordIn 49 = .ok (.iconst 0, 1) := by decide +kernel
theorem dX12_wordIn_50 : decode cX12_wordIn 50 = .ok (.istore 5, 2) := by decide +kernel
theorem dX12_wordIn_52 : decode cX12_wordIn 52 = .ok (.iconst 1, 1) := by decide +kernel
theorem dX12_wordIn_53 : decode cX12_wordIn 53 = .ok (.istore 6, 2) := by decide +kernel
theorem dX12_wordIn_55 : decode cX12_wordIn 55 = .ok (.goto 39, 3) := by decide +kernel
theorem dX12_wordIn_58 : decode cX12_wordIn 58 = .ok (.iload 6, 2) := by decide +kernel
theorem dX12_wordIn_60 : decode cX12_wordIn 60 = .ok (.ifCond .eq 28, 3) := by decide +kernel
theorem dX12_wordIn_63 : decode cX12_wordIn 63 = .ok (.iload 5, 2) := by decide +kernel
theorem dX12_wordIn_65 : decode cX12_wordIn 65 = .ok (.iload_n 3, 1) := by decide +kernel
theorem dX12_wordIn_66 : decode cX12_wordIn 66 = .ok (.if_icmp .ge 22, 3) := by decide +kernel
theorem dX12_wordIn_69 : decode cX12_wordIn 69 = .ok (.aload_n 1, 1) := by decide +kernel
theorem dX12_wordIn_70 : decode cX12_wordIn 70 = .ok (.iload_n 2, 1) := by decide +kernel
theorem dX12_wordIn_71 : decode cX12_wordIn 71 = .ok (.iload 5, 2) := by decide +kernel
theorem dX12_wordIn_73 : decode cX12_wordIn 73 = .ok (.iadd, 1) := by decide +kernel
theorem dX12_wordIn_74 : decode cX12_wordIn 74 = .ok (.baload, 1) := by decide +kernel
theorem dX12_wordIn_75 : decode cX12_wordIn 75 = .ok (.getstatic 327, 3) := by decide +kernel
theorem dX12_wordIn_78 : decode cX12_wordIn 78 = .ok (.iload 7, 2) := by decide +kernel
theorem dX12_wordIn_80 : decode cX12_wordIn 80 = .ok (.baload, 1) := by decide +kernel
theorem dX12_wordIn_81 : decode cX12_wordIn 81 = .ok (.if_icmp .ne 7, 3) := by decide +kernel
theorem dX12_wordIn_84 : decode cX12_wordIn 84 = .ok (.iconst 1, 1) := by decide +kernel
theorem dX12_wordIn_85 : decode cX12_wordIn 85 = .ok (.goto 4, 3) := by decide +kernel
theorem dX12_wordIn_88 : decode cX12_wordIn 88 = .ok (.iconst 0, 1) := by decide +kernel
theorem dX12_wordIn_89 : decode cX12_wordIn 89 = .ok (.istore 6, 2) := by decide +kernel
theorem dX12_wordIn_91 : decode cX12_wordIn 91 = .ok (.iinc 5 1, 3) := by decide +kernel
theorem dX12_wordIn_94 : decode cX12_wordIn 94 = .ok (.iinc 7 1, 3) := by decide +kernel
theorem dX12_wordIn_97 : decode cX12_wordIn 97 = .ok (.goto (-85), 3) := by decide +kernel
theorem dX12_wordIn_100 : decode cX12_wordIn 100 = .ok (.iconst (-1), 1) := by decide +kernel
theorem dX12_wordIn_101 : decode cX12_wordIn 101 = .ok (.ireturn, 1) := by decide +kernel
theorem dX12_hashOf_0 : decode cX12_hashOf 0 = .ok (.aload_n 0, 1) := by decide +kernel
theorem dX12_hashOf_1 : decode cX12_hashOf 1 = .ok (.iload_n 1, 1) := by decide +kernel
theorem dX12_hashOf_2 : decode cX12_hashOf 2 = .ok (.iload_n 2, 1) := by decide +kernel
theorem dX12_hashOf_3 : decode cX12_hashOf 3 = .ok (.invokevirtual 321, 3) := by decide +kernel
theorem dX12_hashOf_6 : decode cX12_hashOf 6 = .ok (.istore_n 3, 1) := by decide +kernel
theorem dX12_hashOf_7 : decode cX12_hashOf 7 = .ok (.aload_n 0, 1) := by decide +kernel
theorem dX12_hashOf_8 : decode cX12_hashOf 8 = .ok (.iload_n 1, 1) := by decide +kernel
theorem dX12_hashOf_9 : decode cX12_hashOf 9 = .ok (.iload_n 2, 1) := by decide +kernel
theorem dX12_hashOf_10 : decode cX12_hashOf 10 = .ok (.invokevirtual 289, 3) := by decide +kernel
theorem dX12_hashOf_13 : decode cX12_hashOf 13 = .ok (.istore 4, 2) := by decide +kernel
theorem dX12_hashOf_15 : decode cX12_hashOf 15 = .ok (.iconst 0, 1) := by decide +kernel
theorem dX12_hashOf_16 : decode cX12_hashOf 16 = .ok (.istore 5, 2) := by decide +kernel
theorem dX12_hashOf_18 : decode cX12_hashOf 18 = .ok (.iload 5, 2) := by decide +kernel
theorem dX12_hashOf_20 : decode cX12_hashOf 20 = .ok (.iload 4, 2) := by decide +kernel
theorem dX12_hashOf_22 : decode cX12_hashOf 22 = .ok (.if_icmp .ge 23, 3) := by decide +kernel
theorem dX12_hashOf_25 : decode cX12_hashOf 25 = .ok (.aload_n 0, 1) := by decide +kernel
theorem dX12_hashOf_26 : decode cX12_hashOf 26 = .ok (.getfield 24, 3) := by decide +kernel
theorem dX12_hashOf_29 : decode cX12_hashOf 29 = .ok (.iload_n 3, 1) := by decide +kernel
theorem dX12_hashOf_30 : decode cX12_hashOf 30 = .ok (.iload 5, 2) := by decide +kernel
theorem dX12_hashOf_32 : decode cX12_hashOf 32 = .ok (.iadd, 1) := by decide +kernel
theorem dX12_hashOf_33 : decode cX12_hashOf 33 = .ok (.baload, 1) := by decide +kernel
theorem dX12_hashOf_34 : decode cX12_hashOf 34 = .ok (.bipush 32, 2) := by decide +kernel
theorem dX12_hashOf_36 : decode cX12_hashOf 36 = .ok (.if_icmp .ne 9, 3) := by decide +kernel
theorem dX12_hashOf_39 : decode cX12_hashOf 39 = .ok (.iinc 5 1, 3) := by decide +kernel
theorem dX12_hashOf_42 : decode cX12_hashOf 42 = .ok (.goto (-24), 3) := by decide +kernel
theorem dX12_hashOf_45 : decode cX12_hashOf 45 = .ok (.iload 5, 2) := by decide +kernel
theorem dX12_hashOf_47 : decode cX12_hashOf 47 = .ok (.iload 4, 2) := by decide +kernel
theorem dX12_hashOf_49 : decode cX12_hashOf 49 = .ok (.if_icmp .ge 47, 3) := by decide +kernel
theorem dX12_hashOf_52 : decode cX12_hashOf 52 = .ok (.aload_n 0, 1) := by decide +kernel
theorem dX12_hashOf_53 : decode cX12_hashOf 53 = .ok (.getfield 24, 3) := by decide +kernel
theorem dX12_hashOf_56 : decode cX12_hashOf 56 = .ok (.iload_n 3, 1) := by decide +kernel
theorem dX12_hashOf_57 : decode cX12_hashOf 57 = .ok (.iload 5, 2) := by decide +kernel
theorem dX12_hashOf_59 : decode cX12_hashOf 59 = .ok (.iadd, 1) := by decide +kernel
theorem dX12_hashOf_60 : decode cX12_hashOf 60 = .ok (.baload, 1) := by decide +kernel
theorem dX12_hashOf_61 : decode cX12_hashOf 61 = .ok (.bipush 35, 2) := by decide +kernel
theorem dX12_hashOf_63 : decode cX12_hashOf 63 = .ok (.if_icmp .ne 33, 3) := by decide +kernel
theorem dX12_hashOf_66 : decode cX12_hashOf 66 = .ok (.iload 5, 2) := by decide +kernel
theorem dX12_hashOf_68 : decode cX12_hashOf 68 = .ok (.iconst 1, 1) := by decide +kernel
theorem dX12_hashOf_69 : decode cX12_hashOf 69 = .ok (.iadd, 1) := by decide +kernel
theorem dX12_hashOf_70 : decode cX12_hashOf 70 = .ok (.iload 4, 2) := by decide +kernel
theorem dX12_hashOf_72 : decode cX12_hashOf 72 = .ok (.if_icmp .eq 19, 3) := by decide +kernel
theorem dX12_hashOf_75 : decode cX12_hashOf 75 = .ok (.aload_n 0, 1) := by decide +kernel
theorem dX12_hashOf_76 : decode cX12_hashOf 76 = .ok (.getfield 24, 3) := by decide +kernel
theorem dX12_hashOf_79 : decode cX12_hashOf 79 = .ok (.iload_n 3, 1) := by decide +kernel
theorem dX12_hashOf_80 : decode cX12_hashOf 80 = .ok (.iload 5, 2) := by decide +kernel
theorem dX12_hashOf_82 : decode cX12_hashOf 82 = .ok (.iadd, 1) := by decide +kernel
theorem dX12_hashOf_83 : decode cX12_hashOf 83 = .ok (.iconst 1, 1) := by decide +kernel
theorem dX12_hashOf_84 : decode cX12_hashOf 84 = .ok (.iadd, 1) := by decide +kernel
theorem dX12_hashOf_85 : decode cX12_hashOf 85 = .ok (.baload, 1) := by decide +kernel
theorem dX12_hashOf_86 : decode cX12_hashOf 86 = .ok (.bipush 35, 2) := by decide +kernel
theorem dX12_hashOf_88 : decode cX12_hashOf 88 = .ok (.if_icmp .eq 8, 3) := by decide +kernel
theorem dX12_hashOf_91 : decode cX12_hashOf 91 = .ok (.iload 5, 2) := by decide +kernel
theorem dX12_hashOf_93 : decode cX12_hashOf 93 = .ok (.goto 4, 3) := by decide +kernel
theorem dX12_hashOf_96 : decode cX12_hashOf 96 = .ok (.iconst (-1), 1) := by decide +kernel
theorem dX12_hashOf_97 : decode cX12_hashOf 97 = .ok (.ireturn, 1) := by decide +kernel
theorem dX12_roleOf_0 : decode cX12_roleOf 0 = .ok (.aload_n 0, 1) := by decide +kernel
theorem dX12_roleOf_1 : decode cX12_roleOf 1 = .ok (.iload_n 1, 1) := by decide +kernel
theorem dX12_roleOf_2 : decode cX12_roleOf 2 = .ok (.iload_n 2, 1) := by decide +kernel
theorem dX12_roleOf_3 : decode cX12_roleOf 3 = .ok (.invokevirtual 330, 3) := by decide +kernel
theorem dX12_roleOf_6 : decode cX12_roleOf 6 = .ok (.istore_n 3, 1) := by decide +kernel
theorem dX12_roleOf_7 : decode cX12_roleOf 7 = .ok (.iload_n 3, 1) := by decide +kernel
theorem dX12_roleOf_8 : decode cX12_roleOf 8 = .ok (.ifCond .ge 5, 3) := by decide +kernel
theorem dX12_roleOf_11 : decode cX12_roleOf 11 = .ok (.iconst 0, 1) := by decide +kernel
theorem dX12_roleOf_12 : decode cX12_roleOf 12 = .ok (.ireturn, 1) := by decide +kernel
theorem dX12_roleOf_13 : decode cX12_roleOf 13 = .ok (.aload_n 0, 1) := by decide +kernel
theorem dX12_roleOf_14 : decode cX12_roleOf 14 = .ok (.iload_n 1, 1) := by decide +kernel
theorem dX12_roleOf_15 : decode cX12_roleOf 15 = .ok (.iload_n 2, 1) := by decide +kernel
theorem dX12_roleOf_16 : decode cX12_roleOf 16 = .ok (.invokevirtual 321, 3) := by decide +kernel
theorem dX12_roleOf_19 : decode cX12_roleOf 19 = .ok (.istore 4, 2) := by decide +kernel
theorem dX12_roleOf_21 : decode cX12_roleOf 21 = .ok (.aload_n 0, 1) := by decide +kernel
theorem dX12_roleOf_22 : decode cX12_roleOf 22 = .ok (.iload_n 1, 1) := by decide +kernel
theorem dX12_roleOf_23 : decode cX12_roleOf 23 = .ok (.iload_n 2, 1) := by decide +kernel
theorem dX12_roleOf_24 : decode cX12_roleOf 24 = .ok (.invokevirtual 289, 3) := by decide +kernel
theorem dX12_roleOf_27 : decode cX12_roleOf 27 = .ok (.istore 5, 2) := by decide +kernel
theorem dX12_roleOf_29 : decode cX12_roleOf 29 = .ok (.iload_n 3, 1) := by decide +kernel
theorem dX12_roleOf_30 : decode cX12_roleOf 30 = .ok (.iconst 1, 1) := by decide +kernel
theorem dX12_roleOf_31 : decode cX12_roleOf 31 = .ok (.iadd, 1) := by decide +kernel
theorem dX12_roleOf_32 : decode cX12_roleOf 32 = .ok (.istore 6, 2) := by decide +kernel
theorem dX12_roleOf_34 : decode cX12_roleOf 34 = .ok (.iload 6, 2) := by decide +kernel
theorem dX12_roleOf_36 : decode cX12_roleOf 36 = .ok (.iload 5, 2) := by decide +kernel
theorem dX12_roleOf_38 : decode cX12_roleOf 38 = .ok (.if_icmp .ge 24, 3) := by decide +kernel
theorem dX12_roleOf_41 : decode cX12_roleOf 41 = .ok (.aload_n 0, 1) := by decide +kernel
theorem dX12_roleOf_42 : decode cX12_roleOf 42 = .ok (.getfield 24, 3) := by decide +kernel
theorem dX12_roleOf_45 : decode cX12_roleOf 45 = .ok (.iload 4, 2) := by decide +kernel
theorem dX12_roleOf_47 : decode cX12_roleOf 47 = .ok (.iload 6, 2) := by decide +kernel
theorem dX12_roleOf_49 : decode cX12_roleOf 49 = .ok (.iadd, 1) := by decide +kernel
theorem dX12_roleOf_50 : decode cX12_roleOf 50 = .ok (.baload, 1) := by decide +kernel
theorem dX12_roleOf_51 : decode cX12_roleOf 51 = .ok (.bipush 32, 2) := by decide +kernel
theorem dX12_roleOf_53 : decode cX12_roleOf 53 = .ok (.if_icmp .ne 9, 3) := by decide +kernel
theorem dX12_roleOf_56 : decode cX12_roleOf 56 = .ok (.iinc 6 1, 3) := by decide +kernel
theorem dX12_roleOf_59 : decode cX12_roleOf 59 = .ok (.goto (-25), 3) := by decide +kernel
theorem dX12_roleOf_62 : decode cX12_roleOf 62 = .ok (.iload 6, 2) := by decide +kernel
theorem dX12_roleOf_64 : decode cX12_roleOf 64 = .ok (.istore 7, 2) := by decide +kernel
theorem dX12_roleOf_66 : decode cX12_roleOf 66 = .ok (.iload 7, 2) := by decide +kernel
theorem dX12_roleOf_68 : decode cX12_roleOf 68 = .ok (.iload 5, 2) := by decide +kernel
theorem dX12_roleOf_70 : decode cX12_roleOf 70 = .ok (.if_icmp .ge 41, 3) := by decide +kernel
theorem dX12_roleOf_73 : decode cX12_roleOf 73 = .ok (.aload_n 0, 1) := by decide +kernel
theorem dX12_roleOf_74 : decode cX12_roleOf 74 = .ok (.getfield 24, 3) := by decide +kernel
theorem dX12_roleOf_77 : decode cX12_roleOf 77 = .ok (.iload 4, 2) := by decide +kernel
theorem dX12_roleOf_79 : decode cX12_roleOf 79 = .ok (.iload 7, 2) := by decide +kernel
theorem dX12_roleOf_81 : decode cX12_roleOf 81 = .ok (.iadd, 1) := by decide +kernel
theorem dX12_roleOf_82 : decode cX12_roleOf 82 = .ok (.baload, 1) := by decide +kernel
theorem dX12_roleOf_83 : decode cX12_roleOf 83 = .ok (.invokestatic 304, 3) := by decide +kernel
theorem dX12_roleOf_86 : decode cX12_roleOf 86 = .ok (.ifCond .ne 19, 3) := by decide +kernel
theorem dX12_roleOf_89 : decode cX12_roleOf 89 = .ok (.aload_n 0, 1) := by decide +kernel
theorem dX12_roleOf_90 : decode cX12_roleOf 90 = .ok (.getfield 24, 3) := by decide +kernel
theorem dX12_roleOf_93 : decode cX12_roleOf 93 = .ok (.iload 4, 2) := by decide +kernel
theorem dX12_roleOf_95 : decode cX12_roleOf 95 = .ok (.iload 7, 2) := by decide +kernel
theorem dX12_roleOf_97 : decode cX12_roleOf 97 = .ok (.iadd, 1) := by decide +kernel
theorem dX12_roleOf_98 : decode cX12_roleOf 98 = .ok (.baload, 1) := by decide +kernel
theorem dX12_roleOf_99 : decode cX12_roleOf 99 = .ok (.invokestatic 307, 3) := by decide +kernel
theorem dX12_roleOf_102 : decode cX12_roleOf 102 = .ok (.ifCond .eq 9, 3) := by decide +kernel
theorem dX12_roleOf_105 : decode cX12_roleOf 105 = .ok (.iinc 7 1, 3) := by decide +kernel
theorem dX12_roleOf_108 : decode cX12_roleOf 108 = .ok (.goto (-42), 3) := by decide +kernel
theorem dX12_roleOf_111 : decode cX12_roleOf 111 = .ok (.aload_n 0, 1) := by decide +kernel
theorem dX12_roleOf_112 : decode cX12_roleOf 112 = .ok (.aload_n 0, 1) := by decide +kernel
theorem dX12_roleOf_113 : decode cX12_roleOf 113 = .ok (.getfield 24, 3) := by decide +kernel
theorem dX12_roleOf_116 : decode cX12_roleOf 116 = .ok (.iload 4, 2) := by decide +kernel
theorem dX12_roleOf_118 : decode cX12_roleOf 118 = .ok (.iload 6, 2) := by decide +kernel
theorem dX12_roleOf_120 : decode cX12_roleOf 120 = .ok (.iadd, 1) := by decide +kernel
theorem dX12_roleOf_121 : decode cX12_roleOf 121 = .ok (.iload 7, 2) := by decide +kernel
theorem dX12_roleOf_123 : decode cX12_roleOf 123 = .ok (.iload 6, 2) := by decide +kernel
theorem dX12_roleOf_125 : decode cX12_roleOf 125 = .ok (.isub, 1) := by decide +kernel
theorem dX12_roleOf_126 : decode cX12_roleOf 126 = .ok (.invokevirtual 333, 3) := by decide +kernel
theorem dX12_roleOf_129 : decode cX12_roleOf 129 = .ok (.istore 8, 2) := by decide +kernel
theorem dX12_roleOf_131 : decode cX12_roleOf 131 = .ok (.iload 8, 2) := by decide +kernel
theorem dX12_roleOf_133 : decode cX12_roleOf 133 = .ok (.iconst 3, 1) := by decide +kernel
theorem dX12_roleOf_134 : decode cX12_roleOf 134 = .ok (.if_icmp .eq 15, 3) := by decide +kernel
theorem dX12_roleOf_137 : decode cX12_roleOf 137 = .ok (.iload 8, 2) := by decide +kernel
theorem dX12_roleOf_139 : decode cX12_roleOf 139 = .ok (.iconst 4, 1) := by decide +kernel
theorem dX12_roleOf_140 : decode cX12_roleOf 140 = .ok (.if_icmp .eq 9, 3) := by decide +kernel
theorem dX12_roleOf_143 : decode cX12_roleOf 143 = .ok (.iload 8, 2) := by decide +kernel
theorem dX12_roleOf_145 : decode cX12_roleOf 145 = .ok (.iconst 5, 1) := by decide +kernel
theorem dX12_roleOf_146 : decode cX12_roleOf 146 = .ok (.if_icmp .ne 7, 3) := by decide +kernel
theorem dX12_roleOf_149 : decode cX12_roleOf 149 = .ok (.iconst 1, 1) := by decide +kernel
theorem dX12_roleOf_150 : decode cX12_roleOf 150 = .ok (.goto 37, 3) := by decide +kernel
theorem dX12_roleOf_153 : decode cX12_roleOf 153 = .ok (.iload 8, 2) := by decide +kernel
theorem dX12_roleOf_155 : decode cX12_roleOf 155 = .ok (.bipush 6, 2) := by decide +kernel
theorem dX12_roleOf_157 : decode cX12_roleOf 157 = .ok (.if_icmp .ne 7, 3) := by decide +kernel
theorem dX12_roleOf_160 : decode cX12_roleOf 160 = .ok (.iconst 2, 1) := by decide +kernel
theorem dX12_roleOf_161 : decode cX12_roleOf 161 = .ok (.goto 26, 3) := by decide +kernel
theorem dX12_roleOf_164 : decode cX12_roleOf 164 = .ok (.iload 8, 2) := by decide +kernel
theorem dX12_roleOf_166 : decode cX12_roleOf 166 = .ok (.bipush 7, 2) := by decide +kernel
theorem dX12_roleOf_168 : decode cX12_roleOf 168 = .ok (.if_icmp .ne 7, 3) := by decide +kernel
theorem dX12_roleOf_171 : decode cX12_roleOf 171 = .ok (.iconst 3, 1) := by decide +kernel
theorem dX12_roleOf_172 : decode cX12_roleOf 172 = .ok (.goto 15, 3) := by decide +kernel
theorem dX12_roleOf_175 : decode cX12_roleOf 175 = .ok (.iload 8, 2) := by decide +kernel
theorem dX12_roleOf_177 : decode cX12_roleOf 177 = .ok (.bipush 8, 2) := by decide +kernel
theorem dX12_roleOf_179 : decode cX12_roleOf 179 = .ok (.if_icmp .ne 7, 3) := by decide +kernel
theorem dX12_roleOf_182 : decode cX12_roleOf 182 = .ok (.iconst 4, 1) := by decide +kernel
theorem dX12_roleOf_183 : decode cX12_roleOf 183 = .ok (.goto 4, 3) := by decide +kernel
theorem dX12_roleOf_186 : decode cX12_roleOf 186 = .ok (.iconst 0, 1) := by decide +kernel
theorem dX12_roleOf_187 : decode cX12_roleOf 187 = .ok (.ireturn, 1) := by decide +kernel
theorem dX12_behindOf_0 : decode cX12_behindOf 0 = .ok (.aload_n 0, 1) := by decide +kernel
theorem dX12_behindOf_1 : decode cX12_behindOf 1 = .ok (.iload_n 1, 1) := by decide +kernel
theorem dX12_behindOf_2 : decode cX12_behindOf 2 = .ok (.iload_n 2, 1) := by decide +kernel
theorem dX12_behindOf_3 : decode cX12_behindOf 3 = .ok (.invokevirtual 337, 3) := by decide +kernel
theorem dX12_behindOf_6 : decode cX12_behindOf 6 = .ok (.iconst 4, 1) := by decide +kernel
theorem dX12_behindOf_7 : decode cX12_behindOf 7 = .ok (.if_icmp .ne 5, 3) := by decide +kernel
theorem dX12_behindOf_10 : decode cX12_behindOf 10 = .ok (.iconst (-1), 1) := by decide +kernel
theorem dX12_behindOf_11 : decode cX12_behindOf 11 = .ok (.ireturn, 1) := by decide +kernel
theorem dX12_behindOf_12 : decode cX12_behindOf 12 = .ok (.iconst 0, 1) := by decide +kernel
theorem dX12_behindOf_13 : decode cX12_behindOf 13 = .ok (.istore_n 3, 1) := by decide +kernel
theorem dX12_behindOf_14 : decode cX12_behindOf 14 = .ok (.iload_n 2, 1) := by decide +kernel
theorem dX12_behindOf_15 : decode cX12_behindOf 15 = .ok (.iconst 1, 1) := by decide +kernel
theorem dX12_behindOf_16 : decode cX12_behindOf 16 = .ok (.iadd, 1) := by decide +kernel
theorem dX12_behindOf_17 : decode cX12_behindOf 17 = .ok (.istore 4, 2) := by decide +kernel
theorem dX12_behindOf_19 : decode cX12_behindOf 19 = .ok (.iload 4, 2) := by decide +kernel
theorem dX12_behindOf_21 : decode cX12_behindOf 21 = .ok (.aload_n 0, 1) := by decide +kernel
theorem dX12_behindOf_22 : decode cX12_behindOf 22 = .ok (.iload_n 1, 1) := by decide +kernel
theorem dX12_behindOf_23 : decode cX12_behindOf 23 = .ok (.invokevirtual 285, 3) := by decide +kernel
theorem dX12_behindOf_26 : decode cX12_behindOf 26 = .ok (.if_icmp .ge 55, 3) := by decide +kernel
theorem dX12_behindOf_29 : decode cX12_behindOf 29 = .ok (.aload_n 0, 1) := by decide +kernel
theorem dX12_behindOf_30 : decode cX12_behindOf 30 = .ok (.iload_n 1, 1) := by decide +kernel
theorem dX12_behindOf_31 : decode cX12_behindOf 31 = .ok (.iload 4, 2) := by decide +kernel
theorem dX12_behindOf_33 : decode cX12_behindOf 33 = .ok (.invokevirtual 337, 3) := by decide +kernel
theorem dX12_behindOf_36 : decode cX12_behindOf 36 = .ok (.istore 5, 2) := by decide +kernel
theorem dX12_behindOf_38 : decode cX12_behindOf 38 = .ok (.iload_n 3, 1) := by decide +kernel
theorem dX12_behindOf_39 : decode cX12_behindOf 39 = .ok (.ifCond .ne 12, 3) := by decide +kernel
theorem dX12_behindOf_42 : decode cX12_behindOf 42 = .ok (.iload 5, 2) := by decide +kernel
theorem dX12_behindOf_44 : decode cX12_behindOf 44 = .ok (.iconst 1, 1) := by decide +kernel
theorem dX12_behindOf_45 : decode cX12_behindOf 45 = .ok (.if_icmp .le 6, 3) := by decide +kernel
theorem dX12_behindOf_48 : decode cX12_behindOf 48 = .ok (.iload 4, 2) := by decide +kernel
theorem dX12_behindOf_50 : decode cX12_behindOf 50 = .ok (.ireturn, 1) := by decide +kernel
theorem dX12_behindOf_51 : decode cX12_behindOf 51 = .ok (.iload_n 3, 1) := by decide +kernel
theorem dX12_behindOf_52 : decode cX12_behindOf 52 = .ok (.iload 5, 2) := by decide +kernel
theorem dX12_behindOf_54 : decode cX12_behindOf 54 = .ok (.iconst 1, 1) := by decide +kernel
theorem dX12_behindOf_55 : decode cX12_behindOf 55 = .ok (.if_icmp .ne 7, 3) := by decide +kernel
theorem dX12_behindOf_58 : decode cX12_behindOf 58 = .ok (.iconst 1, 1) := by decide +kernel
theorem dX12_behindOf_59 : decode cX12_behindOf 59 = .ok (.goto 14, 3) := by decide +kernel
theorem dX12_behindOf_62 : decode cX12_behindOf 62 = .ok (.iload 5, 2) := by decide +kernel
theorem dX12_behindOf_64 : decode cX12_behindOf 64 = .ok (.iconst 4, 1) := by decide +kernel
theorem dX12_behindOf_65 : decode cX12_behindOf 65 = .ok (.if_icmp .ne 7, 3) := by decide +kernel
theorem dX12_behindOf_68 : decode cX12_behindOf 68 = .ok (.iconst (-1), 1) := by decide +kernel
theorem dX12_behindOf_69 : decode cX12_behindOf 69 = .ok (.goto 4, 3) := by decide +kernel
theorem dX12_behindOf_72 : decode cX12_behindOf 72 = .ok (.iconst 0, 1) := by decide +kernel
theorem dX12_behindOf_73 : decode cX12_behindOf 73 = .ok (.iadd, 1) := by decide +kernel
theorem dX12_behindOf_74 : decode cX12_behindOf 74 = .ok (.istore_n 3, 1) := by decide +kernel
theorem dX12_behindOf_75 : decode cX12_behindOf 75 = .ok (.iinc 4 1, 3) := by decide +kernel
theorem dX12_behindOf_78 : decode cX12_behindOf 78 = .ok (.goto (-59), 3) := by decide +kernel
theorem dX12_behindOf_81 : decode cX12_behindOf 81 = .ok (.iconst (-1), 1) := by decide +kernel
theorem dX12_behindOf_82 : decode cX12_behindOf 82 = .ok (.ireturn, 1) := by decide +kernel
theorem dX12_openAt_0 : decode cX12_openAt 0 = .ok (.iconst 0, 1) := by decide +kernel
theorem dX12_openAt_1 : decode cX12_openAt 1 = .ok (.istore_n 3, 1) := by decide +kernel
theorem dX12_openAt_2 : decode cX12_openAt 2 = .ok (.iconst 0, 1) := by decide +kernel
theorem dX12_openAt_3 : decode cX12_openAt 3 = .ok (.istore 4, 2) := by decide +kernel
theorem dX12_openAt_5 : decode cX12_openAt 5 = .ok (.iload 4, 2) := by decide +kernel
theorem dX12_openAt_7 : decode cX12_openAt 7 = .ok (.iload_n 2, 1) := by decide +kernel
theorem dX12_openAt_8 : decode cX12_openAt 8 = .ok (.if_icmp .ge 46, 3) := by decide +kernel
theorem dX12_openAt_11 : decode cX12_openAt 11 = .ok (.aload_n 0, 1) := by decide +kernel
theorem dX12_openAt_12 : decode cX12_openAt 12 = .ok (.iload_n 1, 1) := by decide +kernel
theorem dX12_openAt_13 : decode cX12_openAt 13 = .ok (.iload 4, 2) := by decide +kernel
theorem dX12_openAt_15 : decode cX12_openAt 15 = .ok (.invokevirtual 337, 3) := by decide +kernel
theorem dX12_openAt_18 : decode cX12_openAt 18 = .ok (.istore 5, 2) := by decide +kernel
theorem dX12_openAt_20 : decode cX12_openAt 20 = .ok (.iload_n 3, 1) := by decide +kernel
theorem dX12_openAt_21 : decode cX12_openAt 21 = .ok (.iload 5, 2) := by decide +kernel
theorem dX12_openAt_23 : decode cX12_openAt 23 = .ok (.iconst 1, 1) := by decide +kernel
theorem dX12_openAt_24 : decode cX12_openAt 24 = .ok (.if_icmp .ne 7, 3) := by decide +kernel
theorem dX12_openAt_27 : decode cX12_openAt 27 = .ok (.iconst 1, 1) := by decide +kernel
theorem dX12_openAt_28 : decode cX12_openAt 28 = .ok (.goto 18, 3) := by decide +kernel
theorem dX12_openAt_31 : decode cX12_openAt 31 = .ok (.iload 5, 2) := by decide +kernel
theorem dX12_openAt_33 : decode cX12_openAt 33 = .ok (.iconst 4, 1) := by decide +kernel
theorem dX12_openAt_34 : decode cX12_openAt 34 = .ok (.if_icmp .ne 11, 3) := by decide +kernel
theorem dX12_openAt_37 : decode cX12_openAt 37 = .ok (.iload_n 3, 1) := by decide +kernel
theorem dX12_openAt_38 : decode cX12_openAt 38 = .ok (.ifCond .le 7, 3) := by decide +kernel
theorem dX12_openAt_41 : decode cX12_openAt 41 = .ok (.iconst (-1), 1) := by decide +kernel
theorem dX12_openAt_42 : decode cX12_openAt 42 = .ok (.goto 4, 3) := by decide +kernel
theorem dX12_openAt_45 : decode cX12_openAt 45 = .ok (.iconst 0, 1) := by decide +kernel
theorem dX12_openAt_46 : decode cX12_openAt 46 = .ok (.iadd, 1) := by decide +kernel
theorem dX12_openAt_47 : decode cX12_openAt 47 = .ok (.istore_n 3, 1) := by decide +kernel
theorem dX12_openAt_48 : decode cX12_openAt 48 = .ok (.iinc 4 1, 3) := by decide +kernel
theorem dX12_openAt_51 : decode cX12_openAt 51 = .ok (.goto (-46), 3) := by decide +kernel
theorem dX12_openAt_54 : decode cX12_openAt 54 = .ok (.iload_n 3, 1) := by decide +kernel
theorem dX12_openAt_55 : decode cX12_openAt 55 = .ok (.ireturn, 1) := by decide +kernel
theorem dX12_nextOf_0 : decode cX12_nextOf 0 = .ok (.aload_n 0, 1) := by decide +kernel
theorem dX12_nextOf_1 : decode cX12_nextOf 1 = .ok (.iconst 0, 1) := by decide +kernel
theorem dX12_nextOf_2 : decode cX12_nextOf 2 = .ok (.putfield 1, 3) := by decide +kernel
theorem dX12_nextOf_5 : decode cX12_nextOf 5 = .ok (.aload_n 0, 1) := by decide +kernel
theorem dX12_nextOf_6 : decode cX12_nextOf 6 = .ok (.iload_n 1, 1) := by decide +kernel
theorem dX12_nextOf_7 : decode cX12_nextOf 7 = .ok (.iload_n 2, 1) := by decide +kernel
theorem dX12_nextOf_8 : decode cX12_nextOf 8 = .ok (.invokevirtual 324, 3) := by decide +kernel
theorem dX12_nextOf_11 : decode cX12_nextOf 11 = .ok (.ifCond .ne 5, 3) := by decide +kernel
theorem dX12_nextOf_14 : decode cX12_nextOf 14 = .ok (.iconst (-1), 1) := by decide +kernel
theorem dX12_nextOf_15 : decode cX12_nextOf 15 = .ok (.ireturn, 1) := by decide +kernel
theorem dX12_nextOf_16 : decode cX12_nextOf 16 = .ok (.aload_n 0, 1) := by decide +kernel
theorem dX12_nextOf_17 : decode cX12_nextOf 17 = .ok (.iload_n 1, 1) := by decide +kernel
theorem dX12_nextOf_18 : decode cX12_nextOf 18 = .ok (.iload_n 2, 1) := by decide +kernel
theorem dX12_nextOf_19 : decode cX12_nextOf 19 = .ok (.invokevirtual 337, 3) := by decide +kernel
theorem dX12_nextOf_22 : decode cX12_nextOf 22 = .ok (.istore_n 3, 1) := by decide +kernel
theorem dX12_nextOf_23 : decode cX12_nextOf 23 = .ok (.iload_n 3, 1) := by decide +kernel
theorem dX12_nextOf_24 : decode cX12_nextOf 24 = .ok (.ifCond .eq 17, 3) := by decide +kernel
theorem dX12_nextOf_27 : decode cX12_nextOf 27 = .ok (.iload_n 3, 1) := by decide +kernel
theorem dX12_nextOf_28 : decode cX12_nextOf 28 = .ok (.iconst 1, 1) := by decide +kernel
theorem dX12_nextOf_29 : decode cX12_nextOf 29 = .ok (.if_icmp .le 14, 3) := by decide +kernel
theorem dX12_nextOf_32 : decode cX12_nextOf 32 = .ok (.aload_n 0, 1) := by decide +kernel
theorem dX12_nextOf_33 : decode cX12_nextOf 33 = .ok (.iload_n 1, 1) := by decide +kernel
theorem dX12_nextOf_34 : decode cX12_nextOf 34 = .ok (.iload_n 2, 1) := by decide +kernel
theorem dX12_nextOf_35 : decode cX12_nextOf 35 = .ok (.invokevirtual 340, 3) := by decide +kernel
theorem dX12_nextOf_38 : decode cX12_nextOf 38 = .ok (.ifCond .ne 5, 3) := by decide +kernel
theorem dX12_nextOf_41 : decode cX12_nextOf 41 = .ok (.iconst (-1), 1) := by decide +kernel
theorem dX12_nextOf_42 : decode cX12_nextOf 42 = .ok (.ireturn, 1) := by decide +kernel
theorem dX12_nextOf_43 : decode cX12_nextOf 43 = .ok (.aload_n 0, 1) := by decide +kernel
theorem dX12_nextOf_44 : decode cX12_nextOf 44 = .ok (.iload_n 1, 1) := by decide +kernel
theorem dX12_nextOf_45 : decode cX12_nextOf 45 = .ok (.iload_n 2, 1) := by decide +kernel
theorem dX12_nextOf_46 : decode cX12_nextOf 46 = .ok (.invokevirtual 343, 3) := by decide +kernel
theorem dX12_nextOf_49 : decode cX12_nextOf 49 = .ok (.ireturn, 1) := by decide +kernel
theorem dX12_isBlankLine_0 : decode cX12_isBlankLine 0 = .ok (.aload_n 0, 1) := by decide +kernel
theorem dX12_isBlankLine_1 : decode cX12_isBlankLine 1 = .ok (.iload_n 1, 1) := by decide +kernel
theorem dX12_isBlankLine_2 : decode cX12_isBlankLine 2 = .ok (.iload_n 2, 1) := by decide +kernel
theorem dX12_isBlankLine_3 : decode cX12_isBlankLine 3 = .ok (.invokevirtual 321, 3) := by decide +kernel
theorem dX12_isBlankLine_6 : decode cX12_isBlankLine 6 = .ok (.istore_n 3, 1) := by decide +kernel
theorem dX12_isBlankLine_7 : decode cX12_isBlankLine 7 = .ok (.iconst 0, 1) := by decide +kernel
theorem dX12_isBlankLine_8 : decode cX12_isBlankLine 8 = .ok (.istore 4, 2) := by decide +kernel
theorem dX12_isBlankLine_10 : decode cX12_isBlankLine 10 = .ok (.iload 4, 2) := by decide +kernel
theorem dX12_isBlankLine_12 : decode cX12_isBlankLine 12 = .ok (.aload_n 0, 1) := by decide +kernel
theorem dX12_isBlankLine_13 : decode cX12_isBlankLine 13 = .ok (.iload_n 1, 1) := by decide +kernel
theorem dX12_isBlankLine_14 : decode cX12_isBlankLine 14 = .ok (.iload_n 2, 1) := by decide +kernel
theorem dX12_isBlankLine_15 : decode cX12_isBlankLine 15 = .ok (.invokevirtual 289, 3) := by decide +kernel
theorem dX12_isBlankLine_18 : decode cX12_isBlankLine 18 = .ok (.if_icmp .ge 25, 3) := by decide +kernel
theorem dX12_isBlankLine_21 : decode cX12_isBlankLine 21 = .ok (.aload_n 0, 1) := by decide +kernel
theorem dX12_isBlankLine_22 : decode cX12_isBlankLine 22 = .ok (.getfield 24, 3) := by decide +kernel
theorem dX12_isBlankLine_25 : decode cX12_isBlankLine 25 = .ok (.iload_n 3, 1) := by decide +kernel
theorem dX12_isBlankLine_26 : decode cX12_isBlankLine 26 = .ok (.iload 4, 2) := by decide +kernel
theorem dX12_isBlankLine_28 : decode cX12_isBlankLine 28 = .ok (.iadd, 1) := by decide +kernel
theorem dX12_isBlankLine_29 : decode cX12_isBlankLine 29 = .ok (.baload, 1) := by decide +kernel
theorem dX12_isBlankLine_30 : decode cX12_isBlankLine 30 = .ok (.bipush 32, 2) := by decide +kernel
theorem dX12_isBlankLine_32 : decode cX12_isBlankLine 32 = .ok (.if_icmp .eq 5, 3) := by decide +kernel
theorem dX12_isBlankLine_35 : decode cX12_isBlankLine 35 = .ok (.iconst 0, 1) := by decide +kernel
theorem dX12_isBlankLine_36 : decode cX12_isBlankLine 36 = .ok (.ireturn, 1) := by decide +kernel
theorem dX12_isBlankLine_37 : decode cX12_isBlankLine 37 = .ok (.iinc 4 1, 3) := by decide +kernel
theorem dX12_isBlankLine_40 : decode cX12_isBlankLine 40 = .ok (.goto (-30), 3) := by decide +kernel
theorem dX12_isBlankLine_43 : decode cX12_isBlankLine 43 = .ok (.iconst 1, 1) := by decide +kernel
theorem dX12_isBlankLine_44 : decode cX12_isBlankLine 44 = .ok (.ireturn, 1) := by decide +kernel
theorem dX12_guardOf_0 : decode cX12_guardOf 0 = .ok (.iconst 0, 1) := by decide +kernel
theorem dX12_guardOf_1 : decode cX12_guardOf 1 = .ok (.istore_n 2, 1) := by decide +kernel
theorem dX12_guardOf_2 : decode cX12_guardOf 2 = .ok (.iload_n 2, 1) := by decide +kernel
theorem dX12_guardOf_3 : decode cX12_guardOf 3 = .ok (.aload_n 0, 1) := by decide +kernel
theorem dX12_guardOf_4 : decode cX12_guardOf 4 = .ok (.iload_n 1, 1) := by decide +kernel
theorem dX12_guardOf_5 : decode cX12_guardOf 5 = .ok (.invokevirtual 285, 3) := by decide +kernel
theorem dX12_guardOf_8 : decode cX12_guardOf 8 = .ok (.if_icmp .ge 18, 3) := by decide +kernel
theorem dX12_guardOf_11 : decode cX12_guardOf 11 = .ok (.aload_n 0, 1) := by decide +kernel
theorem dX12_guardOf_12 : decode cX12_guardOf 12 = .ok (.iload_n 1, 1) := by decide +kernel
theorem dX12_guardOf_13 : decode cX12_guardOf 13 = .ok (.iload_n 2, 1) := by decide +kernel
theorem dX12_guardOf_14 : decode cX12_guardOf 14 = .ok (.invokevirtual 346, 3) := by decide +kernel
theorem dX12_guardOf_17 : decode cX12_guardOf 17 = .ok (.ifCond .eq 9, 3) := by decide +kernel
theorem dX12_guardOf_20 : decode cX12_guardOf 20 = .ok (.iinc 2 1, 3) := by decide +kernel
theorem dX12_guardOf_23 : decode cX12_guardOf 23 = .ok (.goto (-21), 3) := by decide +kernel
theorem dX12_guardOf_26 : decode cX12_guardOf 26 = .ok (.aload_n 0, 1) := by decide +kernel
theorem dX12_guardOf_27 : decode cX12_guardOf 27 = .ok (.iload_n 1, 1) := by decide +kernel
theorem dX12_guardOf_28 : decode cX12_guardOf 28 = .ok (.invokevirtual 285, 3) := by decide +kernel
theorem dX12_guardOf_31 : decode cX12_guardOf 31 = .ok (.iconst 1, 1) := by decide +kernel
theorem dX12_guardOf_32 : decode cX12_guardOf 32 = .ok (.isub, 1) := by decide +kernel
theorem dX12_guardOf_33 : decode cX12_guardOf 33 = .ok (.istore_n 3, 1) := by decide +kernel
theorem dX12_guardOf_34 : decode cX12_guardOf 34 = .ok (.iload_n 3, 1) := by decide +kernel
theorem dX12_guardOf_35 : decode cX12_guardOf 35 = .ok (.iload_n 2, 1) := by decide +kernel
theorem dX12_guardOf_36 : decode cX12_guardOf 36 = .ok (.if_icmp .le 18, 3) := by decide +kernel
theorem dX12_guardOf_39 : decode cX12_guardOf 39 = .ok (.aload_n 0, 1) := by decide +kernel
theorem dX12_guardOf_40 : decode cX12_guardOf 40 = .ok (.iload_n 1, 1) := by decide +kernel
theorem dX12_guardOf_41 : decode cX12_guardOf 41 = .ok (.iload_n 3, 1) := by decide +kernel
theorem dX12_guardOf_42 : decode cX12_guardOf 42 = .ok (.invokevirtual 346, 3) := by decide +kernel
theorem dX12_guardOf_45 : decode cX12_guardOf 45 = .ok (.ifCond .eq 9, 3) := by decide +kernel
theorem dX12_guardOf_48 : decode cX12_guardOf 48 = .ok (.iinc 3 (-1), 3) := by decide +kernel
theorem dX12_guardOf_51 : decode cX12_guardOf 51 = .ok (.goto (-17), 3) := by decide +kernel
theorem dX12_guardOf_54 : decode cX12_guardOf 54 = .ok (.iload_n 2, 1) := by decide +kernel
theorem dX12_guardOf_55 : decode cX12_guardOf 55 = .ok (.iload_n 3, 1) := by decide +kernel
theorem dX12_guardOf_56 : decode cX12_guardOf 56 = .ok (.if_icmp .ge 13, 3) := by decide +kernel
theorem dX12_guardOf_59 : decode cX12_guardOf 59 = .ok (.aload_n 0, 1) := by decide +kernel
theorem dX12_guardOf_60 : decode cX12_guardOf 60 = .ok (.iload_n 1, 1) := by decide +kernel
theorem dX12_guardOf_61 : decode cX12_guardOf 61 = .ok (.iload_n 3, 1) := by decide +kernel
theorem dX12_guardOf_62 : decode cX12_guardOf 62 = .ok (.invokevirtual 337, 3) := by decide +kernel
theorem dX12_guardOf_65 : decode cX12_guardOf 65 = .ok (.iconst 4, 1) := by decide +kernel
theorem dX12_guardOf_66 : decode cX12_guardOf 66 = .ok (.if_icmp .eq 5, 3) := by decide +kernel
theorem dX12_guardOf_69 : decode cX12_guardOf 69 = .ok (.iconst 0, 1) := by decide +kernel
theorem dX12_guardOf_70 : decode cX12_guardOf 70 = .ok (.ireturn, 1) := by decide +kernel
theorem dX12_guardOf_71 : decode cX12_guardOf 71 = .ok (.aload_n 0, 1) := by decide +kernel
theorem dX12_guardOf_72 : decode cX12_guardOf 72 = .ok (.iload_n 2, 1) := by decide +kernel
theorem dX12_guardOf_73 : decode cX12_guardOf 73 = .ok (.putfield 349, 3) := by decide +kernel
theorem dX12_guardOf_76 : decode cX12_guardOf 76 = .ok (.aload_n 0, 1) := by decide +kernel
theorem dX12_guardOf_77 : decode cX12_guardOf 77 = .ok (.iload_n 1, 1) := by decide +kernel
theorem dX12_guardOf_78 : decode cX12_guardOf 78 = .ok (.iload_n 2, 1) := by decide +kernel
theorem dX12_guardOf_79 : decode cX12_guardOf 79 = .ok (.invokevirtual 352, 3) := by decide +kernel
theorem dX12_guardOf_82 : decode cX12_guardOf 82 = .ok (.ifCond .eq 56, 3) := by decide +kernel
theorem dX12_guardOf_85 : decode cX12_guardOf 85 = .ok (.aload_n 0, 1) := by decide +kernel
theorem dX12_guardOf_86 : decode cX12_guardOf 86 = .ok (.getfield 355, 3) := by decide +kernel
theorem dX12_guardOf_89 : decode cX12_guardOf 89 = .ok (.iconst 3, 1) := by decide +kernel
theorem dX12_guardOf_90 : decode cX12_guardOf 90 = .ok (.if_icmp .ne 48, 3) := by decide +kernel
theorem dX12_guardOf_93 : decode cX12_guardOf 93 = .ok (.aload_n 0, 1) := by decide +kernel
theorem dX12_guardOf_94 : decode cX12_guardOf 94 = .ok (.iconst 0, 1) := by decide +kernel
theorem dX12_guardOf_95 : decode cX12_guardOf 95 = .ok (.invokevirtual 358, 3) := by decide +kernel
theorem dX12_guardOf_98 : decode cX12_guardOf 98 = .ok (.ifCond .eq 40, 3) := by decide +kernel
theorem dX12_guardOf_101 : decode cX12_guardOf 101 = .ok (.aload_n 0, 1) := by decide +kernel
theorem dX12_guardOf_102 : decode cX12_guardOf 102 = .ok (.iconst 1, 1) := by decide +kernel
theorem dX12_guardOf_103 : decode cX12_guardOf 103 = .ok (.invokevirtual 361, 3) := by decide +kernel
theorem dX12_guardOf_106 : decode cX12_guardOf 106 = .ok (.iconst 5, 1) := by decide +kernel
theorem dX12_guardOf_107 : decode cX12_guardOf 107 = .ok (.if_icmp .ne 31, 3) := by decide +kernel
theorem dX12_guardOf_110 : decode cX12_guardOf 110 = .ok (.aload_n 0, 1) := by decide +kernel
theorem dX12_guardOf_111 : decode cX12_guardOf 111 = .ok (.getfield 40, 3) := by decide +kernel
theorem dX12_guardOf_114 : decode cX12_guardOf 114 = .ok (.iconst 2, 1) := by decide +kernel
theorem dX12_guardOf_115 : decode cX12_guardOf 115 = .ok (.iaload, 1) := by decide +kernel
theorem dX12_guardOf_116 : decode cX12_guardOf 116 = .ok (.ifCond .ne 22, 3) := by decide +kernel
theorem dX12_guardOf_119 : decode cX12_guardOf 119 = .ok (.aload_n 0, 1) := by decide +kernel
theorem dX12_guardOf_120 : decode cX12_guardOf 120 = .ok (.iload_n 1, 1) := by decide +kernel
theorem dX12_guardOf_121 : decode cX12_guardOf 121 = .ok (.iload_n 2, 1) := by decide +kernel
theorem dX12_guardOf_122 : decode cX12_guardOf 122 = .ok (.invokevirtual 343, 3) := by decide +kernel
theorem dX12_guardOf_125 : decode cX12_guardOf 125 = .ok (.iload_n 3, 1) := by decide +kernel
theorem dX12_guardOf_126 : decode cX12_guardOf 126 = .ok (.if_icmp .ne 12, 3) := by decide +kernel
theorem dX12_guardOf_129 : decode cX12_guardOf 129 = .ok (.aload_n 0, 1) := by decide +kernel
theorem dX12_guardOf_130 : decode cX12_guardOf 130 = .ok (.getfield 46, 3) := by decide +kernel
theorem dX12_guardOf_133 : decode cX12_guardOf 133 = .ok (.iconst 2, 1) := by decide +kernel
theorem dX12_guardOf_134 : decode cX12_guardOf 134 = .ok (.iaload, 1) := by decide +kernel
theorem dX12_guardOf_135 : decode cX12_guardOf 135 = .ok (.goto 4, 3) := by decide +kernel
theorem dX12_guardOf_138 : decode cX12_guardOf 138 = .ok (.iconst 0, 1) := by decide +kernel
theorem dX12_guardOf_139 : decode cX12_guardOf 139 = .ok (.ireturn, 1) := by decide +kernel
theorem dX12_guard_0 : decode cX12_guard 0 = .ok (.aload_n 0, 1) := by decide +kernel
theorem dX12_guard_1 : decode cX12_guard 1 = .ok (.iconst 0, 1) := by decide +kernel
theorem dX12_guard_2 : decode cX12_guard 2 = .ok (.putfield 1, 3) := by decide +kernel
theorem dX12_guard_5 : decode cX12_guard 5 = .ok (.aload_n 0, 1) := by decide +kernel
theorem dX12_guard_6 : decode cX12_guard 6 = .ok (.iload_n 1, 1) := by decide +kernel
theorem dX12_guard_7 : decode cX12_guard 7 = .ok (.invokevirtual 281, 3) := by decide +kernel
theorem dX12_guard_10 : decode cX12_guard 10 = .ok (.ifCond .ne 5, 3) := by decide +kernel
theorem dX12_guard_13 : decode cX12_guard 13 = .ok (.iconst (-1), 1) := by decide +kernel
theorem dX12_guard_14 : decode cX12_guard 14 = .ok (.ireturn, 1) := by decide +kernel
theorem dX12_guard_15 : decode cX12_guard 15 = .ok (.aload_n 0, 1) := by decide +kernel
theorem dX12_guard_16 : decode cX12_guard 16 = .ok (.iload_n 1, 1) := by decide +kernel
theorem dX12_guard_17 : decode cX12_guard 17 = .ok (.invokevirtual 364, 3) := by decide +kernel
theorem dX12_guard_20 : decode cX12_guard 20 = .ok (.istore_n 2, 1) := by decide +kernel
theorem dX12_guard_21 : decode cX12_guard 21 = .ok (.iload_n 2, 1) := by decide +kernel
theorem dX12_guard_22 : decode cX12_guard 22 = .ok (.ifCond .ne 5, 3) := by decide +kernel
theorem dX12_guard_25 : decode cX12_guard 25 = .ok (.iconst 0, 1) := by decide +kernel
theorem dX12_guard_26 : decode cX12_guard 26 = .ok (.ireturn, 1) := by decide +kernel
theorem dX12_guard_27 : decode cX12_guard 27 = .ok (.aload_n 0, 1) := by decide +kernel
theorem dX12_guard_28 : decode cX12_guard 28 = .ok (.iload_n 2, 1) := by decide +kernel
theorem dX12_guard_29 : decode cX12_guard 29 = .ok (.putfield 367, 3) := by decide +kernel
theorem dX12_guard_32 : decode cX12_guard 32 = .ok (.iconst 0, 1) := by decide +kernel
theorem dX12_guard_33 : decode cX12_guard 33 = .ok (.istore_n 3, 1) := by decide +kernel
theorem dX12_guard_34 : decode cX12_guard 34 = .ok (.iload_n 3, 1) := by decide +kernel
theorem dX12_guard_35 : decode cX12_guard 35 = .ok (.iload_n 2, 1) := by decide +kernel
theorem dX12_guard_36 : decode cX12_guard 36 = .ok (.if_icmp .ge 22, 3) := by decide +kernel
theorem dX12_guard_39 : decode cX12_guard 39 = .ok (.aload_n 0, 1) := by decide +kernel
theorem dX12_guard_40 : decode cX12_guard 40 = .ok (.getfield 37, 3) := by decide +kernel
theorem dX12_guard_43 : decode cX12_guard 43 = .ok (.iload_n 3, 1) := by decide +kernel
theorem dX12_guard_44 : decode cX12_guard 44 = .ok (.aload_n 0, 1) := by decide +kernel
theorem dX12_guard_45 : decode cX12_guard 45 = .ok (.iconst 2, 1) := by decide +kernel
theorem dX12_guard_46 : decode cX12_guard 46 = .ok (.iload_n 3, 1) := by decide +kernel
theorem dX12_guard_47 : decode cX12_guard 47 = .ok (.invokevirtual 370, 3) := by decide +kernel
theorem dX12_guard_50 : decode cX12_guard 50 = .ok (.i2b, 1) := by decide +kernel
theorem dX12_guard_51 : decode cX12_guard 51 = .ok (.bastore, 1) := by decide +kernel
theorem dX12_guard_52 : decode cX12_guard 52 = .ok (.iinc 3 1, 3) := by decide +kernel
theorem dX12_guard_55 : decode cX12_guard 55 = .ok (.goto (-21), 3) := by decide +kernel
theorem dX12_guard_58 : decode cX12_guard 58 = .ok (.iload_n 2, 1) := by decide +kernel
theorem dX12_guard_59 : decode cX12_guard 59 = .ok (.ireturn, 1) := by decide +kernel
theorem dX12_guardAt_0 : decode cX12_guardAt 0 = .ok (.aload_n 0, 1) := by decide +kernel
theorem dX12_guardAt_1 : decode cX12_guardAt 1 = .ok (.iconst 0, 1) := by decide +kernel
theorem dX12_guardAt_2 : decode cX12_guardAt 2 = .ok (.putfield 1, 3) := by decide +kernel
theorem dX12_guardAt_5 : decode cX12_guardAt 5 = .ok (.iload_n 1, 1) := by decide +kernel
theorem dX12_guardAt_6 : decode cX12_guardAt 6 = .ok (.iconst 0, 1) := by decide +kernel
theorem dX12_guardAt_7 : decode cX12_guardAt 7 = .ok (.aload_n 0, 1) := by decide +kernel
theorem dX12_guardAt_8 : decode cX12_guardAt 8 = .ok (.getfield 367, 3) := by decide +kernel
theorem dX12_guardAt_11 : decode cX12_guardAt 11 = .ok (.iconst 1, 1) := by decide +kernel
theorem dX12_guardAt_12 : decode cX12_guardAt 12 = .ok (.isub, 1) := by decide +kernel
theorem dX12_guardAt_13 : decode cX12_guardAt 13 = .ok (.invokestatic 277, 3) := by decide +kernel
theorem dX12_guardAt_16 : decode cX12_guardAt 16 = .ok (.ifCond .eq 12, 3) := by decide +kernel
theorem dX12_guardAt_19 : decode cX12_guardAt 19 = .ok (.aload_n 0, 1) := by decide +kernel
theorem dX12_guardAt_20 : decode cX12_guardAt 20 = .ok (.getfield 37, 3) := by decide +kernel
theorem dX12_guardAt_23 : decode cX12_guardAt 23 = .ok (.iload_n 1, 1) := by decide +kernel
theorem dX12_guardAt_24 : decode cX12_guardAt 24 = .ok (.baload, 1) := by decide +kernel
theorem dX12_guardAt_25 : decode cX12_guardAt 25 = .ok (.goto 4, 3) := by decide +kernel
theorem dX12_guardAt_28 : decode cX12_guardAt 28 = .ok (.iconst (-1), 1) := by decide +kernel
theorem dX12_guardAt_29 : decode cX12_guardAt 29 = .ok (.ireturn, 1) := by decide +kernel
theorem dX12_byteIn_0 : decode cX12_byteIn 0 = .ok (.aload_n 0, 1) := by decide +kernel
theorem dX12_byteIn_1 : decode cX12_byteIn 1 = .ok (.getfield 43, 3) := by decide +kernel
theorem dX12_byteIn_4 : decode cX12_byteIn 4 = .ok (.iload_n 1, 1) := by decide +kernel
theorem dX12_byteIn_5 : decode cX12_byteIn 5 = .ok (.iaload, 1) := by decide +kernel
theorem dX12_byteIn_6 : decode cX12_byteIn 6 = .ok (.ifCond .lt 19, 3) := by decide +kernel
theorem dX12_byteIn_9 : decode cX12_byteIn 9 = .ok (.aload_n 0, 1) := by decide +kernel
theorem dX12_byteIn_10 : decode cX12_byteIn 10 = .ok (.getfield 65, 3) := by decide +kernel
theorem dX12_byteIn_13 : decode cX12_byteIn 13 = .ok (.aload_n 0, 1) := by decide +kernel
theorem dX12_byteIn_14 : decode cX12_byteIn 14 = .ok (.getfield 43, 3) := by decide +kernel
theorem dX12_byteIn_17 : decode cX12_byteIn 17 = .ok (.iload_n 1, 1) := by decide +kernel
theorem dX12_byteIn_18 : decode cX12_byteIn 18 = .ok (.iaload, 1) := by decide +kernel
theorem dX12_byteIn_19 : decode cX12_byteIn 19 = .ok (.iload_n 2, 1) := by decide +kernel
theorem dX12_byteIn_20 : decode cX12_byteIn 20 = .ok (.iadd, 1) := by decide +kernel
theorem dX12_byteIn_21 : decode cX12_byteIn 21 = .ok (.baload, 1) := by decide +kernel
theorem dX12_byteIn_22 : decode cX12_byteIn 22 = .ok (.goto 18, 3) := by decide +kernel
theorem dX12_byteIn_25 : decode cX12_byteIn 25 = .ok (.aload_n 0, 1) := by decide +kernel
theorem dX12_byteIn_26 : decode cX12_byteIn 26 = .ok (.getfield 74, 3) := by decide +kernel
theorem dX12_byteIn_29 : decode cX12_byteIn 29 = .ok (.iconst (-1), 1) := by decide +kernel
theorem dX12_byteIn_30 : decode cX12_byteIn 30 = .ok (.aload_n 0, 1) := by decide +kernel
theorem dX12_byteIn_31 : decode cX12_byteIn 31 = .ok (.getfield 43, 3) := by decide +kernel
theorem dX12_byteIn_34 : decode cX12_byteIn 34 = .ok (.iload_n 1, 1) := by decide +kernel
theorem dX12_byteIn_35 : decode cX12_byteIn 35 = .ok (.iaload, 1) := by decide +kernel
theorem dX12_byteIn_36 : decode cX12_byteIn 36 = .ok (.isub, 1) := by decide +kernel
theorem dX12_byteIn_37 : decode cX12_byteIn 37 = .ok (.iload_n 2, 1) := by decide +kernel
theorem dX12_byteIn_38 : decode cX12_byteIn 38 = .ok (.iadd, 1) := by decide +kernel
theorem dX12_byteIn_39 : decode cX12_byteIn 39 = .ok (.baload, 1) := by decide +kernel
theorem dX12_byteIn_40 : decode cX12_byteIn 40 = .ok (.ireturn, 1) := by decide +kernel
theorem dX12_copies_0 : decode cX12_copies 0 = .ok (.aload_n 0, 1) := by decide +kernel
theorem dX12_copies_1 : decode cX12_copies 1 = .ok (.getfield 40, 3) := by decide +kernel
theorem dX12_copies_4 : decode cX12_copies 4 = .ok (.iload_n 2, 1) := by decide +kernel
theorem dX12_copies_5 : decode cX12_copies 5 = .ok (.aload_n 0, 1) := by decide +kernel
theorem dX12_copies_6 : decode cX12_copies 6 = .ok (.getfield 40, 3) := by decide +kernel
theorem dX12_copies_9 : decode cX12_copies 9 = .ok (.iload_n 1, 1) := by decide +kernel
theorem dX12_copies_10 : decode cX12_copies 10 = .ok (.iaload, 1) := by decide +kernel
theorem dX12_copies_11 : decode cX12_copies 11 = .ok (.iastore, 1) := by decide +kernel
theorem dX12_copies_12 : decode cX12_copies 12 = .ok (.aload_n 0, 1) := by decide +kernel
theorem dX12_copies_13 : decode cX12_copies 13 = .ok (.getfield 43, 3) := by decide +kernel
theorem dX12_copies_16 : decode cX12_copies 16 = .ok (.iload_n 2, 1) := by decide +kernel
theorem dX12_copies_17 : decode cX12_copies 17 = .ok (.aload_n 0, 1) := by decide +kernel
theorem dX12_copies_18 : decode cX12_copies 18 = .ok (.getfield 43, 3) := by decide +kernel
theorem dX12_copies_21 : decode cX12_copies 21 = .ok (.iload_n 1, 1) := by decide +kernel
theorem dX12_copies_22 : decode cX12_copies 22 = .ok (.iaload, 1) := by decide +kernel
theorem dX12_copies_23 : decode cX12_copies 23 = .ok (.iastore, 1) := by decide +kernel
theorem dX12_copies_24 : decode cX12_copies 24 = .ok (.aload_n 0, 1) := by decide +kernel
theorem dX12_copies_25 : decode cX12_copies 25 = .ok (.getfield 46, 3) := by decide +kernel
theorem dX12_copies_28 : decode cX12_copies 28 = .ok (.iload_n 2, 1) := by decide +kernel
theorem dX12_copies_29 : decode cX12_copies 29 = .ok (.aload_n 0, 1) := by decide +kernel
theorem dX12_copies_30 : decode cX12_copies 30 = .ok (.getfield 46, 3) := by decide +kernel
theorem dX12_copies_33 : decode cX12_copies 33 = .ok (.iload_n 1, 1) := by decide +kernel
theorem dX12_copies_34 : decode cX12_copies 34 = .ok (.iaload, 1) := by decide +kernel
theorem dX12_copies_35 : decode cX12_copies 35 = .ok (.iastore, 1) := by decide +kernel
theorem dX12_copies_36 : decode cX12_copies 36 = .ok (.aload_n 0, 1) := by decide +kernel
theorem dX12_copies_37 : decode cX12_copies 37 = .ok (.getfield 49, 3) := by decide +kernel
theorem dX12_copies_40 : decode cX12_copies 40 = .ok (.iload_n 2, 1) := by decide +kernel
theorem dX12_copies_41 : decode cX12_copies 41 = .ok (.aload_n 0, 1) := by decide +kernel
theorem dX12_copies_42 : decode cX12_copies 42 = .ok (.getfield 49, 3) := by decide +kernel
theorem dX12_copies_45 : decode cX12_copies 45 = .ok (.iload_n 1, 1) := by decide +kernel
theorem dX12_copies_46 : decode cX12_copies 46 = .ok (.iaload, 1) := by decide +kernel
theorem dX12_copies_47 : decode cX12_copies 47 = .ok (.iastore, 1) := by decide +kernel
theorem dX12_copies_48 : decode cX12_copies 48 = .ok (.aload_n 0, 1) := by decide +kernel
theorem dX12_copies_49 : decode cX12_copies 49 = .ok (.getfield 52, 3) := by decide +kernel
theorem dX12_copies_52 : decode cX12_copies 52 = .ok (.iload_n 2, 1) := by decide +kernel
theorem dX12_copies_53 : decode cX12_copies 53 = .ok (.aload_n 0, 1) := by decide +kernel
theorem dX12_copies_54 : decode cX12_copies 54 = .ok (.getfield 52, 3) := by decide +kernel
theorem dX12_copies_57 : decode cX12_copies 57 = .ok (.iload_n 1, 1) := by decide +kernel
theorem dX12_copies_58 : decode cX12_copies 58 = .ok (.iaload, 1) := by decide +kernel
theorem dX12_copies_59 : decode cX12_copies 59 = .ok (.iastore, 1) := by decide +kernel
theorem dX12_copies_60 : decode cX12_copies 60 = .ok (.aload_n 0, 1) := by decide +kernel
theorem dX12_copies_61 : decode cX12_copies 61 = .ok (.getfield 55, 3) := by decide +kernel
theorem dX12_copies_64 : decode cX12_copies 64 = .ok (.iload_n 2, 1) := by decide +kernel
theorem dX12_copies_65 : decode cX12_copies 65 = .ok (.aload_n 0, 1) := by decide +kernel
theorem dX12_copies_66 : decode cX12_copies 66 = .ok (.getfield 55, 3) := by decide +kernel
theorem dX12_copies_69 : decode cX12_copies 69 = .ok (.iload_n 1, 1) := by decide +kernel
theorem dX12_copies_70 : decode cX12_copies 70 = .ok (.iaload, 1) := by decide +kernel
theorem dX12_copies_71 : decode cX12_copies 71 = .ok (.iastore, 1) := by decide +kernel
theorem dX12_copies_72 : decode cX12_copies 72 = .ok (.aload_n 0, 1) := by decide +kernel
theorem dX12_copies_73 : decode cX12_copies 73 = .ok (.getfield 58, 3) := by decide +kernel
theorem dX12_copies_76 : decode cX12_copies 76 = .ok (.iload_n 2, 1) := by decide +kernel
theorem dX12_copies_77 : decode cX12_copies 77 = .ok (.aload_n 0, 1) := by decide +kernel
theorem dX12_copies_78 : decode cX12_copies 78 = .ok (.getfield 58, 3) := by decide +kernel
theorem dX12_copies_81 : decode cX12_copies 81 = .ok (.iload_n 1, 1) := by decide +kernel
theorem dX12_copies_82 : decode cX12_copies 82 = .ok (.iaload, 1) := by decide +kernel
theorem dX12_copies_83 : decode cX12_copies 83 = .ok (.iastore, 1) := by decide +kernel
theorem dX12_copies_84 : decode cX12_copies 84 = .ok (.aload_n 0, 1) := by decide +kernel
theorem dX12_copies_85 : decode cX12_copies 85 = .ok (.getfield 61, 3) := by decide +kernel
theorem dX12_copies_88 : decode cX12_copies 88 = .ok (.iload_n 2, 1) := by decide +kernel
theorem dX12_copies_89 : decode cX12_copies 89 = .ok (.aload_n 0, 1) := by decide +kernel
theorem dX12_copies_90 : decode cX12_copies 90 = .ok (.getfield 61, 3) := by decide +kernel
theorem dX12_copies_93 : decode cX12_copies 93 = .ok (.iload_n 1, 1) := by decide +kernel
theorem dX12_copies_94 : decode cX12_copies 94 = .ok (.iaload, 1) := by decide +kernel
theorem dX12_copies_95 : decode cX12_copies 95 = .ok (.iastore, 1) := by decide +kernel
theorem dX12_copies_96 : decode cX12_copies 96 = .ok (.return_, 1) := by decide +kernel
theorem dX12_asOf_0 : decode cX12_asOf 0 = .ok (.aload_n 0, 1) := by decide +kernel
theorem dX12_asOf_1 : decode cX12_asOf 1 = .ok (.getfield 49, 3) := by decide +kernel
theorem dX12_asOf_4 : decode cX12_asOf 4 = .ok (.iload_n 1, 1) := by decide +kernel
theorem dX12_asOf_5 : decode cX12_asOf 5 = .ok (.aload_n 0, 1) := by decide +kernel
theorem dX12_asOf_6 : decode cX12_asOf 6 = .ok (.getfield 49, 3) := by decide +kernel
theorem dX12_asOf_9 : decode cX12_asOf 9 = .ok (.iload_n 2, 1) := by decide +kernel
theorem dX12_asOf_10 : decode cX12_asOf 10 = .ok (.iaload, 1) := by decide +kernel
theorem dX12_asOf_11 : decode cX12_asOf 11 = .ok (.iastore, 1) := by decide +kernel
theorem dX12_asOf_12 : decode cX12_asOf 12 = .ok (.aload_n 0, 1) := by decide +kernel
theorem dX12_asOf_13 : decode cX12_asOf 13 = .ok (.getfield 52, 3) := by decide +kernel
theorem dX12_asOf_16 : decode cX12_asOf 16 = .ok (.iload_n 1, 1) := by decide +kernel
theorem dX12_asOf_17 : decode cX12_asOf 17 = .ok (.aload_n 0, 1) := by decide +kernel
theorem dX12_asOf_18 : decode cX12_asOf 18 = .ok (.getfield 52, 3) := by decide +kernel
theorem dX12_asOf_21 : decode cX12_asOf 21 = .ok (.iload_n 2, 1) := by decide +kernel
theorem dX12_asOf_22 : decode cX12_asOf 22 = .ok (.iaload, 1) := by decide +kernel
theorem dX12_asOf_23 : decode cX12_asOf 23 = .ok (.iastore, 1) := by decide +kernel
theorem dX12_asOf_24 : decode cX12_asOf 24 = .ok (.aload_n 0, 1) := by decide +kernel
theorem dX12_asOf_25 : decode cX12_asOf 25 = .ok (.getfield 55, 3) := by decide +kernel
theorem dX12_asOf_28 : decode cX12_asOf 28 = .ok (.iload_n 1, 1) := by decide +kernel
theorem dX12_asOf_29 : decode cX12_asOf 29 = .ok (.aload_n 0, 1) := by decide +kernel
theorem dX12_asOf_30 : decode cX12_asOf 30 = .ok (.getfield 55, 3) := by decide +kernel
theorem dX12_asOf_33 : decode cX12_asOf 33 = .ok (.iload_n 2, 1) := by decide +kernel
theorem dX12_asOf_34 : decode cX12_asOf 34 = .ok (.iaload, 1) := by decide +kernel
theorem dX12_asOf_35 : decode cX12_asOf 35 = .ok (.iastore, 1) := by decide +kernel
theorem dX12_asOf_36 : decode cX12_asOf 36 = .ok (.return_, 1) := by decide +kernel
theorem dX12_bad_0 : decode cX12_bad 0 = .ok (.aload_n 0, 1) := by decide +kernel
theorem dX12_bad_1 : decode cX12_bad 1 = .ok (.getfield 68, 3) := by decide +kernel
theorem dX12_bad_4 : decode cX12_bad 4 = .ok (.bipush 11, 2) := by decide +kernel
theorem dX12_bad_6 : decode cX12_bad 6 = .ok (.iload_n 1, 1) := by decide +kernel
theorem dX12_bad_7 : decode cX12_bad 7 = .ok (.iastore, 1) := by decide +kernel
theorem dX12_bad_8 : decode cX12_bad 8 = .ok (.aload_n 0, 1) := by decide +kernel
theorem dX12_bad_9 : decode cX12_bad 9 = .ok (.getfield 68, 3) := by decide +kernel
theorem dX12_bad_12 : decode cX12_bad 12 = .ok (.bipush 12, 2) := by decide +kernel
theorem dX12_bad_14 : decode cX12_bad 14 = .ok (.iload_n 2, 1) := by decide +kernel
theorem dX12_bad_15 : decode cX12_bad 15 = .ok (.iastore, 1) := by decide +kernel
theorem dX12_bad_16 : decode cX12_bad 16 = .ok (.aload_n 0, 1) := by decide +kernel
theorem dX12_bad_17 : decode cX12_bad 17 = .ok (.getfield 68, 3) := by decide +kernel
theorem dX12_bad_20 : decode cX12_bad 20 = .ok (.bipush 13, 2) := by decide +kernel
theorem dX12_bad_22 : decode cX12_bad 22 = .ok (.iload_n 3, 1) := by decide +kernel
theorem dX12_bad_23 : decode cX12_bad 23 = .ok (.iastore, 1) := by decide +kernel
theorem dX12_bad_24 : decode cX12_bad 24 = .ok (.aload_n 0, 1) := by decide +kernel
theorem dX12_bad_25 : decode cX12_bad 25 = .ok (.getfield 68, 3) := by decide +kernel
theorem dX12_bad_28 : decode cX12_bad 28 = .ok (.bipush 14, 2) := by decide +kernel
theorem dX12_bad_30 : decode cX12_bad 30 = .ok (.iload 4, 2) := by decide +kernel
theorem dX12_bad_32 : decode cX12_bad 32 = .ok (.iastore, 1) := by decide +kernel
theorem dX12_bad_33 : decode cX12_bad 33 = .ok (.iconst 0, 1) := by decide +kernel
theorem dX12_bad_34 : decode cX12_bad 34 = .ok (.ireturn, 1) := by decide +kernel
theorem dX12_badAt_0 : decode cX12_badAt 0 = .ok (.aload_n 0, 1) := by decide +kernel
theorem dX12_badAt_1 : decode cX12_badAt 1 = .ok (.iload_n 1, 1) := by decide +kernel
theorem dX12_badAt_2 : decode cX12_badAt 2 = .ok (.aload_n 0, 1) := by decide +kernel
theorem dX12_badAt_3 : decode cX12_badAt 3 = .ok (.getfield 49, 3) := by decide +kernel
theorem dX12_badAt_6 : decode cX12_badAt 6 = .ok (.iload_n 2, 1) := by decide +kernel
theorem dX12_badAt_7 : decode cX12_badAt 7 = .ok (.iaload, 1) := by decide +kernel
theorem dX12_badAt_8 : decode cX12_badAt 8 = .ok (.aload_n 0, 1) := by decide +kernel
theorem dX12_badAt_9 : decode cX12_badAt 9 = .ok (.getfield 52, 3) := by decide +kernel
theorem dX12_badAt_12 : decode cX12_badAt 12 = .ok (.iload_n 2, 1) := by decide +kernel
theorem dX12_badAt_13 : decode cX12_badAt 13 = .ok (.iaload, 1) := by decide +kernel
theorem dX12_badAt_14 : decode cX12_badAt 14 = .ok (.aload_n 0, 1) := by decide +kernel
theorem dX12_badAt_15 : decode cX12_badAt 15 = .ok (.getfield 55, 3) := by decide +kernel
theorem dX12_badAt_18 : decode cX12_badAt 18 = .ok (.iload_n 2, 1) := by decide +kernel
theorem dX12_badAt_19 : decode cX12_badAt 19 = .ok (.iaload, 1) := by decide +kernel
theorem dX12_badAt_20 : decode cX12_badAt 20 = .ok (.invokevirtual 373, 3) := by decide +kernel
theorem dX12_badAt_23 : decode cX12_badAt 23 = .ok (.ireturn, 1) := by decide +kernel
theorem dX12_badToken_0 : decode cX12_badToken 0 = .ok (.iload_n 2, 1) := by decide +kernel
theorem dX12_badToken_1 : decode cX12_badToken 1 = .ok (.aload_n 0, 1) := by decide +kernel
theorem dX12_badToken_2 : decode cX12_badToken 2 = .ok (.getfield 355, 3) := by decide +kernel
theorem dX12_badToken_5 : decode cX12_badToken 5 = .ok (.if_icmp .ge 12, 3) := by decide +kernel
theorem dX12_badToken_8 : decode cX12_badToken 8 = .ok (.aload_n 0, 1) := by decide +kernel
theorem dX12_badToken_9 : decode cX12_badToken 9 = .ok (.iload_n 1, 1) := by decide +kernel
theorem dX12_badToken_10 : decode cX12_badToken 10 = .ok (.iload_n 2, 1) := by decide +kernel
theorem dX12_badToken_11 : decode cX12_badToken 11 = .ok (.invokevirtual 376, 3) := by decide +kernel
theorem dX12_badToken_14 : decode cX12_badToken 14 = .ok (.goto 20, 3) := by decide +kernel
theorem dX12_badToken_17 : decode cX12_badToken 17 = .ok (.aload_n 0, 1) := by decide +kernel
theorem dX12_badToken_18 : decode cX12_badToken 18 = .ok (.iload_n 1, 1) := by decide +kernel
theorem dX12_badToken_19 : decode cX12_badToken 19 = .ok (.aload_n 0, 1) := by decide +kernel
theorem dX12_badToken_20 : decode cX12_badToken 20 = .ok (.getfield 379, 3) := by decide +kernel
theorem dX12_badToken_23 : decode cX12_badToken 23 = .ok (.aload_n 0, 1) := by decide +kernel
theorem dX12_badToken_24 : decode cX12_badToken 24 = .ok (.getfield 382, 3) := by decide +kernel
theorem dX12_badToken_27 : decode cX12_badToken 27 = .ok (.aload_n 0, 1) := by decide +kernel
theorem dX12_badToken_28 : decode cX12_badToken 28 = .ok (.getfield 385, 3) := by decide +kernel
theorem dX12_badToken_31 : decode cX12_badToken 31 = .ok (.invokevirtual 373, 3) := by decide +kernel
theorem dX12_badToken_34 : decode cX12_badToken 34 = .ok (.ireturn, 1) := by decide +kernel
theorem dX12_lexAt_0 : decode cX12_lexAt 0 = .ok (.aload_n 0, 1) := by decide +kernel
theorem dX12_lexAt_1 : decode cX12_lexAt 1 = .ok (.getfield 65, 3) := by decide +kernel
theorem dX12_lexAt_4 : decode cX12_lexAt 4 = .ok (.iload_n 1, 1) := by decide +kernel
theorem dX12_lexAt_5 : decode cX12_lexAt 5 = .ok (.baload, 1) := by decide +kernel
theorem dX12_lexAt_6 : decode cX12_lexAt 6 = .ok (.istore_n 3, 1) := by decide +kernel
theorem dX12_lexAt_7 : decode cX12_lexAt 7 = .ok (.iload_n 1, 1) := by decide +kernel
theorem dX12_lexAt_8 : decode cX12_lexAt 8 = .ok (.istore 4, 2) := by decide +kernel
theorem dX12_lexAt_10 : decode cX12_lexAt 10 = .ok (.iload_n 3, 1) := by decide +kernel
theorem dX12_lexAt_11 : decode cX12_lexAt 11 = .ok (.invokestatic 304, 3) := by decide +kernel
theorem dX12_lexAt_14 : decode cX12_lexAt 14 = .ok (.ifCond .ne 10, 3) := by decide +kernel
theorem dX12_lexAt_17 : decode cX12_lexAt 17 = .ok (.iload_n 3, 1) := by decide +kernel
theorem dX12_lexAt_18 : decode cX12_lexAt 18 = .ok (.invokestatic 307, 3) := by decide +kernel
theorem dX12_lexAt_21 : decode cX12_lexAt 21 = .ok (.ifCond .eq 62, 3) := by decide +kernel
theorem dX12_lexAt_24 : decode cX12_lexAt 24 = .ok (.aload_n 0, 1) := by decide +kernel
theorem dX12_lexAt_25 : decode cX12_lexAt 25 = .ok (.iload_n 3, 1) := by decide +kernel
theorem dX12_lexAt_26 : decode cX12_lexAt 26 = .ok (.invokestatic 307, 3) := by decide +kernel
theorem dX12_lexAt_29 : decode cX12_lexAt 29 = .ok (.ifCond .eq 7, 3) := by decide +kernel
theorem dX12_lexAt_32 : decode cX12_lexAt 32 = .ok (.iconst 1, 1) := by decide +kernel
theorem dX12_lexAt_33 : decode cX12_lexAt 33 = .ok (.goto 4, 3) := by decide +kernel
theorem dX12_lexAt_36 : decode cX12_lexAt 36 = .ok (.iconst 0, 1) := by decide +kernel
theorem dX12_lexAt_37 : decode cX12_lexAt 37 = .ok (.putfield 388, 3) := by decide +kernel
theorem dX12_lexAt_40 : decode cX12_lexAt 40 = .ok (.iload 4, 2) := by decide +kernel
theorem dX12_lexAt_42 : decode cX12_lexAt 42 = .ok (.iload_n 2, 1) := by decide +kernel
theorem dX12_lexAt_43 : decode cX12_lexAt 43 = .ok (.if_icmp .ge 35, 3) := by decide +kernel
theorem dX12_lexAt_46 : decode cX12_lexAt 46 = .ok (.aload_n 0, 1) := by decide +kernel
theorem dX12_lexAt_47 : decode cX12_lexAt 47 = .ok (.getfield 65, 3) := by decide +kernel
theorem dX12_lexAt_50 : decode cX12_lexAt 50 = .ok (.iload 4, 2) := by decide +kernel
theorem dX12_lexAt_52 : decode cX12_lexAt 52 = .ok (.baload, 1) := by decide +kernel
theorem dX12_lexAt_53 : decode cX12_lexAt 53 = .ok (.invokestatic 304, 3) := by decide +kernel
theorem dX12_lexAt_56 : decode cX12_lexAt 56 = .ok (.ifCond .ne 16, 3) := by decide +kernel
theorem dX12_lexAt_59 : decode cX12_lexAt 59 = .ok (.aload_n 0, 1) := by decide +kernel
theorem dX12_lexAt_60 : decode cX12_lexAt 60 = .ok (.getfield 65, 3) := by decide +kernel
theorem dX12_lexAt_63 : decode cX12_lexAt 63 = .ok (.iload 4, 2) := by decide +kernel
theorem dX12_lexAt_65 : decode cX12_lexAt 65 = .ok (.baload, 1) := by decide +kernel
theorem dX12_lexAt_66 : decode cX12_lexAt 66 = .ok (.invokestatic 307, 3) := by decide +kernel
theorem dX12_lexAt_69 : decode cX12_lexAt 69 = .ok (.ifCond .eq 9, 3) := by decide +kernel
theorem dX12_lexAt_72 : decode cX12_lexAt 72 = .ok (.iinc 4 1, 3) := by decide +kernel
theorem dX12_lexAt_75 : decode cX12_lexAt 75 = .ok (.goto (-35), 3) := by decide +kernel
theorem dX12_lexAt_78 : decode cX12_lexAt 78 = .ok (.iload 4, 2) := by decide +kernel
theorem dX12_lexAt_80 : decode cX12_lexAt 80 = .ok (.iload_n 1, 1) := by decide +kernel
theorem dX12_lexAt_81 : decode cX12_lexAt 81 = .ok (.isub, 1) := by decide +kernel
theorem dX12_lexAt_82 : decode cX12_lexAt 82 = .ok (.ireturn, 1) := by decide +kernel
theorem dX12_lexAt_83 : decode cX12_lexAt 83 = .ok (.iload_n 3, 1) := by decide +kernel
theorem dX12_lexAt_84 : decode cX12_lexAt 84 = .ok (.bipush 34, 2) := by decide +kernel
theorem dX12_lexAt_86 : decode cX12_lexAt 86 = .ok (.if_icmp .ne 52, 3) := by decide +kernel
theorem dX12_lexAt_89 : decode cX12_lexAt 89 = .ok (.aload_n 0, 1) := by decide +kernel
theorem dX12_lexAt_90 : decode cX12_lexAt 90 = .ok (.iconst 2, 1) := by decide +kernel
theorem dX12_lexAt_91 : decode cX12_lexAt 91 = .ok (.putfield 388, 3) := by decide +kernel
theorem dX12_lexAt_94 : decode cX12_lexAt 94 = .ok (.iinc 4 1, 3) := by decide +kernel
theorem dX12_lexAt_97 : decode cX12_lexAt 97 = .ok (.iload 4, 2) := by decide +kernel
theorem dX12_lexAt_99 : decode cX12_lexAt 99 = .ok (.iload_n 2, 1) := by decide +kernel
theorem dX12_lexAt_100 : decode cX12_lexAt 100 = .ok (.if_icmp .ge 21, 3) := by decide +kernel
theorem dX12_lexAt_103 : decode cX12_lexAt 103 = .ok (.aload_n 0, 1) := by decide +kernel
theorem dX12_lexAt_104 : decode cX12_lexAt 104 = .ok (.getfield 65, 3) := by decide +kernel
theorem dX12_lexAt_107 : decode cX12_lexAt 107 = .ok (.iload 4, 2) := by decide +kernel
theorem dX12_lexAt_109 : decode cX12_lexAt 109 = .ok (.baload, 1) := by decide +kernel
theorem dX12_lexAt_110 : decode cX12_lexAt 110 = .ok (.bipush 34, 2) := by decide +kernel
theorem dX12_lexAt_112 : decode cX12_lexAt 112 = .ok (.if_icmp .eq 9, 3) := by decide +kernel
theorem dX12_lexAt_115 : decode cX12_lexAt 115 = .ok (.iinc 4 1, 3) := by decide +kernel
theorem dX12_lexAt_118 : decode cX12_lexAt 118 = .ok (.goto (-21), 3) := by decide +kernel
theorem dX12_lexAt_121 : decode cX12_lexAt 121 = .ok (.iload 4, 2) := by decide +kernel
theorem dX12_lexAt_123 : decode cX12_lexAt 123 = .ok (.iload_n 2, 1) := by decide +kernel
theorem dX12_lexAt_124 : decode cX12_lexAt 124 = .ok (.if_icmp .ge 12, 3) := by decide +kernel
theorem dX12_lexAt_127 : decode cX12_lexAt 127 = .ok (.iload 4, 2) := by decide +kernel
theorem dX12_lexAt_129 : decode cX12_lexAt 129 = .ok (.iconst 1, 1) := by decide +kernel
theorem dX12_lexAt_130 : decode cX12_lexAt 130 = .ok (.iadd, 1) := by decide +kernel
theorem dX12_lexAt_131 : decode cX12_lexAt 131 = .ok (.iload_n 1, 1) := by decide +kernel
theorem dX12_lexAt_132 : decode cX12_lexAt 132 = .ok (.isub, 1) := by decide +kernel
theorem dX12_lexAt_133 : decode cX12_lexAt 133 = .ok (.goto 4, 3) := by decide +kernel
theorem dX12_lexAt_136 : decode cX12_lexAt 136 = .ok (.iconst 0, 1) := by decide +kernel
theorem dX12_lexAt_137 : decode cX12_lexAt 137 = .ok (.ireturn, 1) := by decide +kernel
theorem dX12_lexAt_138 : decode cX12_lexAt 138 = .ok (.aload_n 0, 1) := by decide +kernel
theorem dX12_lexAt_139 : decode cX12_lexAt 139 = .ok (.iconst 3, 1) := by decide +kernel
theorem dX12_lexAt_140 : decode cX12_lexAt 140 = .ok (.putfield 388, 3) := by decide +kernel
theorem dX12_lexAt_143 : decode cX12_lexAt 143 = .ok (.iload 4, 2) := by decide +kernel
theorem dX12_lexAt_145 : decode cX12_lexAt 145 = .ok (.iconst 1, 1) := by decide +kernel
theorem dX12_lexAt_146 : decode cX12_lexAt 146 = .ok (.iadd, 1) := by decide +kernel
theorem dX12_lexAt_147 : decode cX12_lexAt 147 = .ok (.iload_n 2, 1) := by decide +kernel
theorem dX12_lexAt_148 : decode cX12_lexAt 148 = .ok (.if_icmp .ge 15, 3) := by decide +kernel
theorem dX12_lexAt_151 : decode cX12_lexAt 151 = .ok (.aload_n 0, 1) := by decide +kernel
theorem dX12_lexAt_152 : decode cX12_lexAt 152 = .ok (.getfield 65, 3) := by decide +kernel
theorem dX12_lexAt_155 : decode cX12_lexAt 155 = .ok (.iload 4, 2) := by decide +kernel
theorem dX12_lexAt_157 : decode cX12_lexAt 157 = .ok (.iconst 1, 1) := by decide +kernel
theorem dX12_lexAt_158 : decode cX12_lexAt 158 = .ok (.iadd, 1) := by decide +kernel
theorem dX12_lexAt_159 : decode cX12_lexAt 159 = .ok (.baload, 1) := by decide +kernel
theorem dX12_lexAt_160 : decode cX12_lexAt 160 = .ok (.goto 4, 3) := by decide +kernel
theorem dX12_lexAt_163 : decode cX12_lexAt 163 = .ok (.iconst 0, 1) := by decide +kernel
theorem dX12_lexAt_164 : decode cX12_lexAt 164 = .ok (.istore 5, 2) := by decide +kernel
theorem dX12_lexAt_166 : decode cX12_lexAt 166 = .ok (.iload_n 3, 1) := by decide +kernel
theorem dX12_lexAt_167 : decode cX12_lexAt 167 = .ok (.bipush 35, 2) := by decide +kernel
theorem dX12_lexAt_169 : decode cX12_lexAt 169 = .ok (.if_icmp .ne 10, 3) := by decide +kernel
theorem dX12_lexAt_172 : decode cX12_lexAt 172 = .ok (.iload 5, 2) := by decide +kernel
theorem dX12_lexAt_174 : decode cX12_lexAt 174 = .ok (.bipush 35, 2) := by decide +kernel
theorem dX12_lexAt_176 : decode cX12_lexAt 176 = .ok (.if_icmp .eq 64, 3) := by decide +kernel
theorem dX12_lexAt_179 : decode cX12_lexAt 179 = .ok (.iload 5, 2) := by decide +kernel
theorem dX12_lexAt_181 : decode cX12_lexAt 181 = .ok (.bipush 61, 2) := by decide +kernel
theorem dX12_lexAt_183 : decode cX12_lexAt 183 = .ok (.if_icmp .ne 27, 3) := by decide +kernel
theorem dX12_lexAt_186 : decode cX12_lexAt 186 = .ok (.iload_n 3, 1) := by decide +kernel
theorem dX12_lexAt_187 : decode cX12_lexAt 187 = .ok (.bipush 61, 2) := by decide +kernel
theorem dX12_lexAt_189 : decode cX12_lexAt 189 = .ok (.if_icmp .eq 51, 3) := by decide +kernel
theorem dX12_lexAt_192 : decode cX12_lexAt 192 = .ok (.iload_n 3, 1) := by decide +kernel
theorem dX12_lexAt_193 : decode cX12_lexAt 193 = .ok (.bipush 33, 2) := by decide +kernel
theorem dX12_lexAt_195 : decode cX12_lexAt 195 = .ok (.if_icmp .eq 45, 3) := by decide +kernel
theorem dX12_lexAt_198 : decode cX12_lexAt 198 = .ok (.iload_n 3, 1) := by decide +kernel
theorem dX12_lexAt_199 : decode cX12_lexAt 199 = .ok (.bipush 60, 2) := by decide +kernel
theorem dX12_lexAt_201 : decode cX12_lexAt 201 = .ok (.if_icmp .eq 39, 3) := by decide +kernel
theorem dX12_lexAt_204 : decode cX12_lexAt 204 = .ok (.iload_n 3, 1) := by decide +kernel
theorem dX12_lexAt_205 : decode cX12_lexAt 205 = .ok (.bipush 62, 2) := by decide +kernel
theorem dX12_lexAt_207 : decode cX12_lexAt 207 = .ok (.if_icmp .eq 33, 3) := by decide +kernel
theorem dX12_lexAt_210 : decode cX12_lexAt 210 = .ok (.iload_n 3, 1) := by decide +kernel
theorem dX12_lexAt_211 : decode cX12_lexAt 211 = .ok (.iload 5, 2) := by decide +kernel
theorem dX12_lexAt_213 : decode cX12_lexAt 213 = .ok (.if_icmp .ne 31, 3) := by decide +kernel
theorem dX12_lexAt_216 : decode cX12_lexAt 216 = .ok (.iload_n 3, 1) := by decide +kernel
theorem dX12_lexAt_217 : decode cX12_lexAt 217 = .ok (.bipush 38, 2) := by decide +kernel
theorem dX12_lexAt_219 : decode cX12_lexAt 219 = .ok (.if_icmp .eq 21, 3) := by decide +kernel
theorem dX12_lexAt_222 : decode cX12_lexAt 222 = .ok (.iload_n 3, 1) := by decide +kernel
theorem dX12_lexAt_223 : decode cX12_lexAt 223 = .ok (.bipush 124, 2) := by decide +kernel
theorem dX12_lexAt_225 : decode cX12_lexAt 225 = .ok (.if_icmp .eq 15, 3) := by decide +kernel
