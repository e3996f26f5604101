set_option maxRecDepth 100000 in
theorem f_X12_110 : zFd RX12 110 12 119 46 2 := ⟨RX12, TX12, rfl, by decide, by decide, rfl, uvX12, tyX12_ok, nmX12, zt6 235 rfl rfl⟩
set_option maxRecDepth 100000 in
theorem f_X12_113 : zFd RX12 113 12 119 47 2 := ⟨RX12, TX12, rfl, by decide, by decide, rfl, uvX12, tyX12_ok, nmX12, zt6 236 rfl rfl⟩
set_option maxRecDepth 100000 in
theorem f_X12_116 : zFd RX12 116 12 119 48 2 := ⟨RX12, TX12, rfl, by decide, by decide, rfl, uvX12, tyX12_ok, nmX12, zt6 237 rfl rfl⟩
set_option maxRecDepth 100000 in
theorem f_X12_119 : zFd RX12 119 12 119 49 2 := ⟨RX12, TX12, rfl, by decide, by decide, rfl, uvX12, tyX12_ok, nmX12, zt6 238 rfl rfl⟩
set_option maxRecDepth 100000 in
theorem f_X12_122 : zFd RX12 122 12 119 50 2 := ⟨RX12, TX12, rfl, by decide, by decide, rfl, uvX12, tyX12_ok, nmX12, zt6 239 rfl rfl⟩
set_option maxRecDepth 100000 in
theorem f_X12_125 : zFd RX12 125 12 119 51 2 := ⟨RX12, TX12, rfl, by decide, by decide, rfl, uvX12, tyX12_ok, nmX12, zt7 0 rfl rfl⟩
set_option maxRecDepth 100000 in
theorem f_X12_128 : zFd RX12 128 12 119 52 2 := ⟨RX12, TX12, rfl, by decide, by decide, rfl, uvX12, tyX12_ok, nmX12, zt7 1 rfl rfl⟩
set_option maxRecDepth 100000 in
theorem f_X12_131 : zFd RX12 131 12 119 53 2 := ⟨RX12, TX12, rfl, by decide, by decide, rfl, uvX12, tyX12_ok, nmX12, zt7 2 rfl rfl⟩
set_option maxRecDepth 100000 in
theorem f_X12_135 : zFd RX12 135 12 119 54 2 := ⟨RX12, TX12, rfl, by decide, by decide, rfl, uvX12, tyX12_ok, nmX12, zt7 3 rfl rfl⟩
set_option maxRecDepth 100000 in
theorem f_X12_138 : zFd RX12 138 12 119 55 2 := ⟨RX12, TX12, rfl, by decide, by decide, rfl, uvX12, tyX12_ok, nmX12, zt7 4 rfl rfl⟩
set_option maxRecDepth 100000 in
theorem f_X12_141 : zFd RX12 141 12 119 56 2 := ⟨RX12, TX12, rfl, by decide, by decide, rfl, uvX12, tyX12_ok, nmX12, zt7 5 rfl rfl⟩
set_option maxRecDepth 100000 in
theorem f_X12_448 : zFd RX12 448 12 119 57 0 := ⟨RX12, TX12, rfl, by decide, by decide, rfl, uvX12, tyX12_ok, nmX12, zt7 6 rfl rfl⟩
set_option maxRecDepth 100000 in
theorem f_X12_445 : zFd RX12 445 12 119 58 0 := ⟨RX12, TX12, rfl, by decide, by decide, rfl, uvX12, tyX12_ok, nmX12, zt7 7 rfl rfl⟩
set_option maxRecDepth 100000 in
theorem f_X12_500 : zFd RX12 500 12 119 59 0 := ⟨RX12, TX12, rfl, by decide, by decide, rfl, uvX12, tyX12_ok, nmX12, zt7 8 rfl rfl⟩
set_option maxRecDepth 100000 in
theorem f_X12_458 : zFd RX12 458 12 119 60 0 := ⟨RX12, TX12, rfl, by decide, by decide, rfl, uvX12, tyX12_ok, nmX12, zt7 9 rfl rfl⟩
set_option maxRecDepth 100000 in
theorem f_X12_451 : zFd RX12 451 12 119 61 0 := ⟨RX12, TX12, rfl, by decide, by decide, rfl, uvX12, tyX12_ok, nmX12, zt7 10 rfl rfl⟩
set_option maxRecDepth 100000 in
theorem f_X12_509 : zFd RX12 509 12 119 62 0 := ⟨RX12, TX12, rfl, by decide, by decide, rfl, uvX12, tyX12_ok, nmX12, zt7 11 rfl rfl⟩
set_option maxRecDepth 100000 in
theorem f_X12_467 : zFd RX12 467 12 119 63 0 := ⟨RX12, TX12, rfl, by decide, by decide, rfl, uvX12, tyX12_ok, nmX12, zt7 12 rfl rfl⟩
set_option maxRecDepth 100000 in
theorem f_X12_470 : zFd RX12 470 12 119 64 0 := ⟨RX12, TX12, rfl, by decide, by decide, rfl, uvX12, tyX12_ok, nmX12, zt7 13 rfl rfl⟩
set_option maxRecDepth 100000 in
theorem f_X12_473 : zFd RX12 473 12 119 65 0 := ⟨RX12, TX12, rfl, by decide, by decide, rfl, uvX12, tyX12_ok, nmX12, zt7 14 rfl rfl⟩
set_option maxRecDepth 100000 in
theorem f_X12_144 : zFd RX12 144 12 119 66 2 := ⟨RX12, TX12, rfl, by decide, by decide, rfl, uvX12, tyX12_ok, nmX12, zt7 15 rfl rfl⟩
set_option maxRecDepth 100000 in
theorem f_X12_147 : zFd RX12 147 12 119 67 2 := ⟨RX12, TX12, rfl, by decide, by decide, rfl, uvX12, tyX12_ok, nmX12, zt7 16 rfl rfl⟩
set_option maxRecDepth 100000 in
theorem f_X12_150 : zFd RX12 150 12 119 68 2 := ⟨RX12, TX12, rfl, by decide, by decide, rfl, uvX12, tyX12_ok, nmX12, zt7 17 rfl rfl⟩
set_option maxRecDepth 100000 in
theorem f_X12_153 : zFd RX12 153 12 119 69 2 := ⟨RX12, TX12, rfl, by decide, by decide, rfl, uvX12, tyX12_ok, nmX12, zt7 18 rfl rfl⟩
set_option maxRecDepth 100000 in
theorem f_X12_156 : zFd RX12 156 12 119 70 2 := ⟨RX12, TX12, rfl, by decide, by decide, rfl, uvX12, tyX12_ok, nmX12, zt7 19 rfl rfl⟩
set_option maxRecDepth 100000 in
theorem f_X12_159 : zFd RX12 159 12 119 71 2 := ⟨RX12, TX12, rfl, by decide, by decide, rfl, uvX12, tyX12_ok, nmX12, zt7 20 rfl rfl⟩
set_option maxRecDepth 100000 in
theorem f_X12_162 : zFd RX12 162 12 119 72 2 := ⟨RX12, TX12, rfl, by decide, by decide, rfl, uvX12, tyX12_ok, nmX12, zt7 21 rfl rfl⟩
set_option maxRecDepth 100000 in
theorem f_X12_166 : zFd RX12 166 12 119 73 2 := ⟨RX12, TX12, rfl, by decide, by decide, rfl, uvX12, tyX12_ok, nmX12, zt7 22 rfl rfl⟩
set_option maxRecDepth 100000 in
theorem f_X12_556 : zFd RX12 556 12 119 74 0 := ⟨RX12, TX12, rfl, by decide, by decide, rfl, uvX12, tyX12_ok, nmX12, zt7 23 rfl rfl⟩
set_option maxRecDepth 100000 in
theorem f_X12_569 : zFd RX12 569 12 119 75 0 := ⟨RX12, TX12, rfl, by decide, by decide, rfl, uvX12, tyX12_ok, nmX12, zt7 24 rfl rfl⟩
set_option maxRecDepth 100000 in
theorem f_X12_575 : zFd RX12 575 12 119 76 0 := ⟨RX12, TX12, rfl, by decide, by decide, rfl, uvX12, tyX12_ok, nmX12, zt7 25 rfl rfl⟩
set_option maxRecDepth 100000 in
theorem f_X12_559 : zFd RX12 559 12 119 77 1 := ⟨RX12, TX12, rfl, by decide, by decide, rfl, uvX12, tyX12_ok, nmX12, zt7 26 rfl rfl⟩
set_option maxRecDepth 100000 in
theorem f_X12_597 : zFd RX12 597 12 119 78 0 := ⟨RX12, TX12, rfl, by decide, by decide, rfl, uvX12, tyX12_ok, nmX12, zt7 27 rfl rfl⟩
set_option maxRecDepth 100000 in
theorem f_X12_627 : zFd RX12 627 12 119 79 1 := ⟨RX12, TX12, rfl, by decide, by decide, rfl, uvX12, tyX12_ok, nmX12, zt7 28 rfl rfl⟩
set_option maxRecDepth 100000 in
theorem f_X12_169 : zFd RX12 169 12 119 80 2 := ⟨RX12, TX12, rfl, by decide, by decide, rfl, uvX12, tyX12_ok, nmX12, zt7 29 rfl rfl⟩
set_option maxRecDepth 100000 in
theorem f_X12_172 : zFd RX12 172 12 119 81 2 := ⟨RX12, TX12, rfl, by decide, by decide, rfl, uvX12, tyX12_ok, nmX12, zt7 30 rfl rfl⟩
set_option maxRecDepth 100000 in
theorem f_X12_175 : zFd RX12 175 12 119 82 2 := ⟨RX12, TX12, rfl, by decide, by decide, rfl, uvX12, tyX12_ok, nmX12, zt7 31 rfl rfl⟩
set_option maxRecDepth 100000 in
theorem f_X12_178 : zFd RX12 178 12 119 83 2 := ⟨RX12, TX12, rfl, by decide, by decide, rfl, uvX12, tyX12_ok, nmX12, zt7 32 rfl rfl⟩
set_option maxRecDepth 100000 in
theorem f_X12_181 : zFd RX12 181 12 119 84 2 := ⟨RX12, TX12, rfl, by decide, by decide, rfl, uvX12, tyX12_ok, nmX12, zt7 33 rfl rfl⟩
set_option maxRecDepth 100000 in
theorem f_X12_184 : zFd RX12 184 12 119 85 2 := ⟨RX12, TX12, rfl, by decide, by decide, rfl, uvX12, tyX12_ok, nmX12, zt7 34 rfl rfl⟩
set_option maxRecDepth 100000 in
theorem f_X12_187 : zFd RX12 187 12 119 86 2 := ⟨RX12, TX12, rfl, by decide, by decide, rfl, uvX12, tyX12_ok, nmX12, zt7 35 rfl rfl⟩
set_option maxRecDepth 100000 in
theorem f_X12_190 : zFd RX12 190 12 119 87 2 := ⟨RX12, TX12, rfl, by decide, by decide, rfl, uvX12, tyX12_ok, nmX12, zt7 36 rfl rfl⟩
set_option maxRecDepth 100000 in
theorem f_X12_645 : zFd RX12 645 12 119 88 0 := ⟨RX12, TX12, rfl, by decide, by decide, rfl, uvX12, tyX12_ok, nmX12, zt7 37 rfl rfl⟩
set_option maxRecDepth 100000 in
theorem f_X12_642 : zFd RX12 642 12 119 89 0 := ⟨RX12, TX12, rfl, by decide, by decide, rfl, uvX12, tyX12_ok, nmX12, zt7 38 rfl rfl⟩
set_option maxRecDepth 100000 in
theorem f_X12_193 : zFd RX12 193 12 119 90 2 := ⟨RX12, TX12, rfl, by decide, by decide, rfl, uvX12, tyX12_ok, nmX12, zt7 39 rfl rfl⟩
set_option maxRecDepth 100000 in
theorem f_X12_196 : zFd RX12 196 12 119 91 2 := ⟨RX12, TX12, rfl, by decide, by decide, rfl, uvX12, tyX12_ok, nmX12, zt7 40 rfl rfl⟩
set_option maxRecDepth 100000 in
theorem f_X12_199 : zFd RX12 199 12 119 92 2 := ⟨RX12, TX12, rfl, by decide, by decide, rfl, uvX12, tyX12_ok, nmX12, zt7 41 rfl rfl⟩
set_option maxRecDepth 100000 in
theorem f_X12_202 : zFd RX12 202 12 119 93 2 := ⟨RX12, TX12, rfl, by decide, by decide, rfl, uvX12, tyX12_ok, nmX12, zt7 42 rfl rfl⟩
set_option maxRecDepth 100000 in
theorem f_X12_205 : zFd RX12 205 12 119 94 2 := ⟨RX12, TX12, rfl, by decide, by decide, rfl, uvX12, tyX12_ok, nmX12, zt7 43 rfl rfl⟩
set_option maxRecDepth 100000 in
theorem f_X12_208 : zFd RX12 208 12 119 95 2 := ⟨RX12, TX12, rfl, by decide, by decide, rfl, uvX12, tyX12_ok, nmX12, zt7 44 rfl rfl⟩
set_option maxRecDepth 100000 in
theorem f_X12_211 : zFd RX12 211 12 119 96 2 := ⟨RX12, TX12, rfl, by decide, by decide, rfl, uvX12, tyX12_ok, nmX12, zt7 45 rfl rfl⟩
set_option maxRecDepth 100000 in
theorem f_X12_214 : zFd RX12 214 12 119 97 2 := ⟨RX12, TX12, rfl, by decide, by decide, rfl, uvX12, tyX12_ok, nmX12, zt7 46 rfl rfl⟩
set_option maxRecDepth 100000 in
theorem f_X12_218 : zFd RX12 218 12 119 98 2 := ⟨RX12, TX12, rfl, by decide, by decide, rfl, uvX12, tyX12_ok, nmX12, zt7 47 rfl rfl⟩
set_option maxRecDepth 100000 in
theorem f_X12_636 : zFd RX12 636 12 119 99 0 := ⟨RX12, TX12, rfl, by decide, by decide, rfl, uvX12, tyX12_ok, nmX12, zt7 48 rfl rfl⟩
set_option maxRecDepth 100000 in
theorem f_X12_639 : zFd RX12 639 12 119 100 0 := ⟨RX12, TX12, rfl, by decide, by decide, rfl, uvX12, tyX12_ok, nmX12, zt7 49 rfl rfl⟩
set_option maxRecDepth 100000 in
theorem f_X12_661 : zFd RX12 661 12 119 101 0 := ⟨RX12, TX12, rfl, by decide, by decide, rfl, uvX12, tyX12_ok, nmX12, zt7 50 rfl rfl⟩
set_option maxRecDepth 100000 in
theorem f_X12_221 : zFd RX12 221 12 119 102 2 := ⟨RX12, TX12, rfl, by decide, by decide, rfl, uvX12, tyX12_ok, nmX12, zt7 51 rfl rfl⟩
set_option maxRecDepth 100000 in
theorem f_X12_224 : zFd RX12 224 12 119 103 2 := ⟨RX12, TX12, rfl, by decide, by decide, rfl, uvX12, tyX12_ok, nmX12, zt7 52 rfl rfl⟩
set_option maxRecDepth 100000 in
theorem f_X12_227 : zFd RX12 227 12 119 104 2 := ⟨RX12, TX12, rfl, by decide, by decide, rfl, uvX12, tyX12_ok, nmX12, zt7 53 rfl rfl⟩
set_option maxRecDepth 100000 in
theorem f_X12_230 : zFd RX12 230 12 119 105 2 := ⟨RX12, TX12, rfl, by decide, by decide, rfl, uvX12, tyX12_ok, nmX12, zt7 54 rfl rfl⟩
set_option maxRecDepth 100000 in
theorem f_X12_233 : zFd RX12 233 12 119 106 2 := ⟨RX12, TX12, rfl, by decide, by decide, rfl, uvX12, tyX12_ok, nmX12, zt7 55 rfl rfl⟩
set_option maxRecDepth 100000 in
theorem f_X12_236 : zFd RX12 236 12 119 107 2 := ⟨RX12, TX12, rfl, by decide, by decide, rfl, uvX12, tyX12_ok, nmX12, zt7 56 rfl rfl⟩
set_option maxRecDepth 100000 in
theorem f_X12_239 : zFd RX12 239 12 119 108 2 := ⟨RX12, TX12, rfl, by decide, by decide, rfl, uvX12, tyX12_ok, nmX12, zt7 57 rfl rfl⟩
set_option maxRecDepth 100000 in
theorem f_X12_242 : zFd RX12 242 12 119 109 2 := ⟨RX12, TX12, rfl, by decide, by decide, rfl, uvX12, tyX12_ok, nmX12, zt7 58 rfl rfl⟩
set_option maxRecDepth 100000 in
theorem f_X12_245 : zFd RX12 245 12 119 110 2 := ⟨RX12, TX12, rfl, by decide, by decide, rfl, uvX12, tyX12_ok, nmX12, zt7 59 rfl rfl⟩
set_option maxRecDepth 100000 in
theorem f_X12_248 : zFd RX12 248 12 119 111 2 := ⟨RX12, TX12, rfl, by decide, by decide, rfl, uvX12, tyX12_ok, nmX12, zt7 60 rfl rfl⟩
set_option maxRecDepth 100000 in
theorem f_X12_700 : zFd RX12 700 12 119 112 0 := ⟨RX12, TX12, rfl, by decide, by decide, rfl, uvX12, tyX12_ok, nmX12, zt7 61 rfl rfl⟩
set_option maxRecDepth 100000 in
theorem f_X12_251 : zFd RX12 251 12 119 113 2 := ⟨RX12, TX12, rfl, by decide, by decide, rfl, uvX12, tyX12_ok, nmX12, zt7 62 rfl rfl⟩
set_option maxRecDepth 100000 in
theorem f_X12_254 : zFd RX12 254 12 119 114 2 := ⟨RX12, TX12, rfl, by decide, by decide, rfl, uvX12, tyX12_ok, nmX12, zt7 63 rfl rfl⟩
set_option maxRecDepth 100000 in
theorem f_X12_257 : zFd RX12 257 12 119 115 2 := ⟨RX12, TX12, rfl, by decide, by decide, rfl, uvX12, tyX12_ok, nmX12, zt7 64 rfl rfl⟩
set_option maxRecDepth 100000 in
theorem f_X12_260 : zFd RX12 260 12 119 116 2 := ⟨RX12, TX12, rfl, by decide, by decide, rfl, uvX12, tyX12_ok, nmX12, zt7 65 rfl rfl⟩
set_option maxRecDepth 100000 in
theorem f_X12_264 : zFd RX12 264 12 119 117 2 := ⟨RX12, TX12, rfl, by decide, by decide, rfl, uvX12, tyX12_ok, nmX12, zt7 66 rfl rfl⟩
set_option maxRecDepth 100000 in
theorem f_X12_722 : zFd RX12 722 12 119 118 0 := ⟨RX12, TX12, rfl, by decide, by decide, rfl, uvX12, tyX12_ok, nmX12, zt7 67 rfl rfl⟩
set_option maxRecDepth 100000 in
theorem m_L_30 : zCw "HideSetsLaw" 30 yX12_feed cX12_feed 6 (some .int) 5 := ⟨zt8 67 rfl rfl, zt8 70 rfl rfl, zt1 12 rfl rfl, ⟨by decide +kernel, by decide +kernel, by decide +kernel⟩, by decide⟩
set_option maxRecDepth 100000 in
theorem m_X12_270 : zCw RX12 270 yX12_four cX12_four 3 none 1 := ⟨zt8 71 rfl rfl, zt8 74 rfl rfl, zt1 12 rfl rfl, ⟨by decide +kernel, by decide +kernel, by decide +kernel⟩, by decide⟩
set_option maxRecDepth 100000 in
theorem m_L_35 : zCw "HideSetsLaw" 35 yX12_end cX12_end 2 (some .boolean) 1 := ⟨zt8 75 rfl rfl, zt8 78 rfl rfl, zt1 12 rfl rfl, ⟨by decide +kernel, by decide +kernel, by decide +kernel⟩, by decide⟩
set_option maxRecDepth 100000 in
theorem m_L_40 : zCw "HideSetsLaw" 40 yX12_file cX12_file 7 (some .int) 1 := ⟨zt8 79 rfl rfl, zt8 82 rfl rfl, zt1 12 rfl rfl, ⟨by decide +kernel, by decide +kernel, by decide +kernel⟩, by decide⟩
set_option maxRecDepth 100000 in
theorem m_X12_293 : zCw RX12 293 yX12_taken cX12_taken 1 none 0 := ⟨zt8 83 rfl rfl, zt8 86 rfl rfl, zt1 12 rfl rfl, ⟨by decide +kernel, by decide +kernel, by decide +kernel⟩, by decide⟩
set_option maxRecDepth 100000 in
theorem m_X12_277 : zCw RX12 277 yX12_isIn cX12_isIn 3 (some .boolean) 3 := ⟨zt8 87 rfl rfl, zt8 89 rfl rfl, zt1 12 rfl rfl, ⟨by decide +kernel, by decide +kernel, by decide +kernel⟩, by decide⟩
set_option maxRecDepth 100000 in
theorem m_X12_296 : zCw RX12 296 yX12_badByte cX12_badByte 4 (some .int) 1 := ⟨zt8 90 rfl rfl, zt8 93 rfl rfl, zt1 12 rfl rfl, ⟨by decide +kernel, by decide +kernel, by decide +kernel⟩, by decide⟩
set_option maxRecDepth 100000 in
theorem m_L_45 : zCw "HideSetsLaw" 45 yX12_switches cX12_switches 6 (some .int) 0 := ⟨zt8 94 rfl rfl, zt8 97 rfl rfl, zt1 12 rfl rfl, ⟨by decide +kernel, by decide +kernel, by decide +kernel⟩, by decide⟩
set_option maxRecDepth 100000 in
theorem m_X12_304 : zCw RX12 304 yX12_isStart cX12_isStart 1 (some .boolean) 1 := ⟨zt8 98 rfl rfl, zt8 100 rfl rfl, zt1 12 rfl rfl, ⟨by decide +kernel, by decide +kernel, by decide +kernel⟩, by decide⟩
set_option maxRecDepth 100000 in
theorem m_X12_307 : zCw RX12 307 yX12_isDigit cX12_isDigit 1 (some .boolean) 1 := ⟨zt8 101 rfl rfl, zt8 103 rfl rfl, zt1 12 rfl rfl, ⟨by decide +kernel, by decide +kernel, by decide +kernel⟩, by decide⟩
set_option maxRecDepth 100000 in
theorem m_X12_310 : zCw RX12 310 yX12_areTape cX12_areTape 7 (some .boolean) 4 := ⟨zt8 104 rfl rfl, zt8 107 rfl rfl, zt1 12 rfl rfl, ⟨by decide +kernel, by decide +kernel, by decide +kernel⟩, by decide⟩
set_option maxRecDepth 100000 in
theorem m_X12_314 : zCw RX12 314 yX12_isTapeDefined cX12_isTapeDefined 5 (some .boolean) 2 := ⟨zt8 108 rfl rfl, zt8 111 rfl rfl, zt1 12 rfl rfl, ⟨by decide +kernel, by decide +kernel, by decide +kernel⟩, by decide⟩
set_option maxRecDepth 100000 in
theorem m_L_49 : zCw "HideSetsLaw" 49 yX12_set cX12_set 2 (some .int) 1 := ⟨zt8 114 rfl rfl, zt8 117 rfl rfl, zt1 12 rfl rfl, ⟨by decide +kernel, by decide +kernel, by decide +kernel⟩, by decide⟩
set_option maxRecDepth 100000 in
theorem m_L_123 : zCw "HideSetsLaw" 123 yX12_edit cX12_edit 12 (some .int) 2 := ⟨zt8 118 rfl rfl, zt8 121 rfl rfl, zt1 12 rfl rfl, ⟨by decide +kernel, by decide +kernel, by decide +kernel⟩, by decide⟩
set_option maxRecDepth 100000 in
theorem m_X12_281 : zCw RX12 281 yX12_isFile cX12_isFile 2 (some .boolean) 1 := ⟨zt8 122 rfl rfl, zt8 125 rfl rfl, zt1 12 rfl rfl, ⟨by decide +kernel, by decide +kernel, by decide +kernel⟩, by decide⟩
set_option maxRecDepth 100000 in
theorem m_X12_285 : zCw RX12 285 yX12_linesOf cX12_linesOf 2 (some .int) 1 := ⟨zt8 126 rfl rfl, zt8 129 rfl rfl, zt1 12 rfl rfl, ⟨by decide +kernel, by decide +kernel, by decide +kernel⟩, by decide⟩
set_option maxRecDepth 100000 in
theorem m_X12_289 : zCw RX12 289 yX12_lengthOf cX12_lengthOf 3 (some .int) 2 := ⟨zt8 130 rfl rfl, zt8 133 rfl rfl, zt1 12 rfl rfl, ⟨by decide +kernel, by decide +kernel, by decide +kernel⟩, by decide⟩
set_option maxRecDepth 100000 in
theorem m_X12_321 : zCw RX12 321 yX12_beginOf cX12_beginOf 5 (some .int) 2 := ⟨zt8 134 rfl rfl, zt8 137 rfl rfl, zt1 12 rfl rfl, ⟨by decide +kernel, by decide +kernel, by decide +kernel⟩, by decide⟩
set_option maxRecDepth 100000 in
theorem m_L_127 : zCw "HideSetsLaw" 127 yX12_drop cX12_drop 7 (some .int) 2 := ⟨zt8 138 rfl rfl, zt8 141 rfl rfl, zt1 12 rfl rfl, ⟨by decide +kernel, by decide +kernel, by decide +kernel⟩, by decide⟩
set_option maxRecDepth 100000 in
theorem m_X12_324 : zCw RX12 324 yX12_isLine cX12_isLine 3 (some .boolean) 2 := ⟨zt8 142 rfl rfl, zt8 145 rfl rfl, zt1 12 rfl rfl, ⟨by decide +kernel, by decide +kernel, by decide +kernel⟩, by decide⟩
set_option maxRecDepth 100000 in
theorem m_L_131 : zCw "HideSetsLaw" 131 yX12_image cX12_image 3 (some .boolean) 1 := ⟨zt8 146 rfl rfl, zt8 149 rfl rfl, zt1 12 rfl rfl, ⟨by decide +kernel, by decide +kernel, by decide +kernel⟩, by decide⟩
set_option maxRecDepth 100000 in
theorem m_L_135 : zCw "HideSetsLaw" 135 yX12_restore cX12_restore 3 (some .boolean) 1 := ⟨zt8 150 rfl rfl, zt8 153 rfl rfl, zt1 12 rfl rfl, ⟨by decide +kernel, by decide +kernel, by decide +kernel⟩, by decide⟩
set_option maxRecDepth 100000 in
theorem m_L_139 : zCw "HideSetsLaw" 139 yX12_count cX12_count 2 (some .int) 1 := ⟨zt8 154 rfl rfl, zt8 157 rfl rfl, zt1 12 rfl rfl, ⟨by decide +kernel, by decide +kernel, by decide +kernel⟩, by decide⟩
set_option maxRecDepth 100000 in
theorem m_L_143 : zCw "HideSetsLaw" 143 yX12_lines cX12_lines 2 (some .int) 1 := ⟨zt8 158 rfl rfl, zt8 161 rfl rfl, zt1 12 rfl rfl, ⟨by decide +kernel, by decide +kernel, by decide +kernel⟩, by decide⟩
set_option maxRecDepth 100000 in
theorem m_L_119 : zCw "HideSetsLaw" 119 yX12_nextOf cX12_nextOf 4 (some .int) 2 := ⟨zt8 162 rfl rfl, zt8 165 rfl rfl, zt1 12 rfl rfl, ⟨by decide +kernel, by decide +kernel, by decide +kernel⟩, by decide⟩
set_option maxRecDepth 100000 in
theorem m_X12_337 : zCw RX12 337 yX12_roleOf cX12_roleOf 9 (some .int) 2 := ⟨zt8 166 rfl rfl, zt8 169 rfl rfl, zt1 12 rfl rfl, ⟨by decide +kernel, by decide +kernel, by decide +kernel⟩, by decide⟩
set_option maxRecDepth 100000 in
theorem m_X12_330 : zCw RX12 330 yX12_hashOf cX12_hashOf 6 (some .int) 2 := ⟨zt8 170 rfl rfl, zt8 173 rfl rfl, zt1 12 rfl rfl, ⟨by decide +kernel, by decide +kernel, by decide +kernel⟩, by decide⟩
set_option maxRecDepth 100000 in
theorem m_X12_333 : zCw RX12 333 yX12_wordIn cX12_wordIn 8 (some .int) 3 := ⟨zt8 174 rfl rfl, zt8 177 rfl rfl, zt1 12 rfl rfl, ⟨by decide +kernel, by decide +kernel, by decide +kernel⟩, by decide⟩
set_option maxRecDepth 100000 in
theorem m_X12_340 : zCw RX12 340 yX12_openAt cX12_openAt 6 (some .int) 2 := ⟨zt8 180 rfl rfl, zt8 183 rfl rfl, zt1 12 rfl rfl, ⟨by decide +kernel, by decide +kernel, by decide +kernel⟩, by decide⟩
set_option maxRecDepth 100000 in
theorem m_X12_343 : zCw RX12 343 yX12_behindOf cX12_behindOf 6 (some .int) 2 := ⟨zt8 184 rfl rfl, zt8 187 rfl rfl, zt1 12 rfl rfl, ⟨by decide +kernel, by decide +kernel, by decide +kernel⟩, by decide⟩
set_option maxRecDepth 100000 in
theorem m_L_111 : zCw "HideSetsLaw" 111 yX12_guard cX12_guard 4 (some .int) 1 := ⟨zt8 188 rfl rfl, zt8 191 rfl rfl, zt1 12 rfl rfl, ⟨by decide +kernel, by decide +kernel, by decide +kernel⟩, by decide⟩
set_option maxRecDepth 100000 in
theorem m_X12_364 : zCw RX12 364 yX12_guardOf cX12_guardOf 4 (some .int) 1 := ⟨zt8 192 rfl rfl, zt8 195 rfl rfl, zt1 12 rfl rfl, ⟨by decide +kernel, by decide +kernel, by decide +kernel⟩, by decide⟩
set_option maxRecDepth 100000 in
theorem m_X12_346 : zCw RX12 346 yX12_isBlankLine cX12_isBlankLine 5 (some .boolean) 2 := ⟨zt8 196 rfl rfl, zt8 199 rfl rfl, zt1 12 rfl rfl, ⟨by decide +kernel, by decide +kernel, by decide +kernel⟩, by decide⟩
set_option maxRecDepth 100000 in
theorem m_X12_352 : zCw RX12 352 yX12_lexes cX12_lexes 6 (some .boolean) 2 := ⟨zt8 200 rfl rfl, zt8 203 rfl rfl, zt1 12 rfl rfl, ⟨by decide +kernel, by decide +kernel, by decide +kernel⟩, by decide⟩
set_option maxRecDepth 100000 in
theorem m_X12_403 : zCw RX12 403 yX12_lexesPool cX12_lexesPool 7 (some .boolean) 3 := ⟨zt8 204 rfl rfl, zt8 207 rfl rfl, zt1 12 rfl rfl, ⟨by decide +kernel, by decide +kernel, by decide +kernel⟩, by decide⟩
set_option maxRecDepth 100000 in
theorem m_X12_400 : zCw RX12 400 yX12_lexAt cX12_lexAt 7 (some .int) 2 := ⟨zt8 208 rfl rfl, zt8 211 rfl rfl, zt1 12 rfl rfl, ⟨by decide +kernel, by decide +kernel, by decide +kernel⟩, by decide⟩
set_option maxRecDepth 100000 in
theorem m_X12_373 : zCw RX12 373 yX12_bad cX12_bad 5 (some .boolean) 4 := ⟨zt8 212 rfl rfl, zt8 215 rfl rfl, zt1 12 rfl rfl, ⟨by decide +kernel, by decide +kernel, by decide +kernel⟩, by decide⟩
set_option maxRecDepth 100000 in
theorem m_X12_358 : zCw RX12 358 yX12_isHash cX12_isHash 2 (some .boolean) 1 := ⟨zt8 216 rfl rfl, zt8 219 rfl rfl, zt1 12 rfl rfl, ⟨by decide +kernel, by decide +kernel, by decide +kernel⟩, by decide⟩
set_option maxRecDepth 100000 in
theorem m_X12_406 : zCw RX12 406 yX12_isSign cX12_isSign 3 (some .boolean) 2 := ⟨zt8 220 rfl rfl, zt8 223 rfl rfl, zt1 12 rfl rfl, ⟨by decide +kernel, by decide +kernel, by decide +kernel⟩, by decide⟩
set_option maxRecDepth 100000 in
theorem m_X12_370 : zCw RX12 370 yX12_byteIn cX12_byteIn 3 (some .int) 2 := ⟨zt8 224 rfl rfl, zt8 227 rfl rfl, zt1 12 rfl rfl, ⟨by decide +kernel, by decide +kernel, by decide +kernel⟩, by decide⟩
set_option maxRecDepth 100000 in
theorem m_X12_361 : zCw RX12 361 yX12_wordOf cX12_wordOf 3 (some .int) 1 := ⟨zt8 228 rfl rfl, zt8 231 rfl rfl, zt1 12 rfl rfl, ⟨by decide +kernel, by decide +kernel, by decide +kernel⟩, by decide⟩
set_option maxRecDepth 100000 in
theorem m_L_115 : zCw "HideSetsLaw" 115 yX12_guardAt cX12_guardAt 2 (some .int) 1 := ⟨zt8 232 rfl rfl, zt8 235 rfl rfl, zt1 12 rfl rfl, ⟨by decide +kernel, by decide +kernel, by decide +kernel⟩, by decide⟩
set_option maxRecDepth 100000 in
theorem m_L_53 : zCw "HideSetsLaw" 53 yX12_run cX12_run 4 (some .int) 1 := ⟨zt8 236 rfl rfl, zt8 239 rfl rfl, zt1 12 rfl rfl, ⟨by decide +kernel, by decide +kernel, by decide +kernel⟩, by decide⟩
set_option maxRecDepth 100000 in
theorem m_X12_703 : zCw RX12 703 yX12_runs cX12_runs 5 (some .boolean) 2 := ⟨zt9 0 rfl rfl, zt9 3 rfl rfl, zt1 12 rfl rfl, ⟨by decide +kernel, by decide +kernel, by decide +kernel⟩, by decide⟩
set_option maxRecDepth 100000 in
theorem m_X12_691 : zCw RX12 691 yX12_clears cX12_clears 2 none 0 := ⟨zt9 4 rfl rfl, zt9 7 rfl rfl, zt1 12 rfl rfl, ⟨by decide +kernel, by decide +kernel, by decide +kernel⟩, by decide⟩
set_option maxRecDepth 100000 in
theorem m_X12_694 : zCw RX12 694 yX12_laysSwitches cX12_laysSwitches 4 none 1 := ⟨zt9 8 rfl rfl, zt9 11 rfl rfl, zt1 12 rfl rfl, ⟨by decide +kernel, by decide +kernel, by decide +kernel⟩, by decide⟩
set_option maxRecDepth 100000 in
theorem m_X12_494 : zCw RX12 494 yX12_bitOf cX12_bitOf 2 (some .boolean) 2 := ⟨zt9 12 rfl rfl, zt9 14 rfl rfl, zt1 12 rfl rfl, ⟨by decide +kernel, by decide +kernel, by decide +kernel⟩, by decide⟩
set_option maxRecDepth 100000 in
theorem m_X12_412 : zCw RX12 412 yX12_bodyAt cX12_bodyAt 2 (some .int) 2 := ⟨zt9 15 rfl rfl, zt9 17 rfl rfl, zt1 12 rfl rfl, ⟨by decide +kernel, by decide +kernel, by decide +kernel⟩, by decide⟩
set_option maxRecDepth 100000 in
theorem m_X12_415 : zCw RX12 415 yX12_bodyByte cX12_bodyByte 2 (some .int) 2 := ⟨zt9 18 rfl rfl, zt9 20 rfl rfl, zt1 12 rfl rfl, ⟨by decide +kernel, by decide +kernel, by decide +kernel⟩, by decide⟩
set_option maxRecDepth 100000 in
theorem m_X12_697 : zCw RX12 697 yX12_doesLine cX12_doesLine 6 (some .boolean) 2 := ⟨zt9 21 rfl rfl, zt9 24 rfl rfl, zt1 12 rfl rfl, ⟨by decide +kernel, by decide +kernel, by decide +kernel⟩, by decide⟩
set_option maxRecDepth 100000 in
theorem m_X12_679 : zCw RX12 679 yX12_isInside cX12_isInside 1 (some .boolean) 0 := ⟨zt9 25 rfl rfl, zt9 28 rfl rfl, zt1 12 rfl rfl, ⟨by decide +kernel, by decide +kernel, by decide +kernel⟩, by decide⟩
set_option maxRecDepth 100000 in
theorem m_X12_657 : zCw RX12 657 yX12_group cX12_group 4 none 3 := ⟨zt9 29 rfl rfl, zt9 32 rfl rfl, zt1 12 rfl rfl, ⟨by decide +kernel, by decide +kernel, by decide +kernel⟩, by decide⟩
set_option maxRecDepth 100000 in
theorem m_X12_682 : zCw RX12 682 yX12_doesGroup cX12_doesGroup 5 (some .boolean) 3 := ⟨zt9 33 rfl rfl, zt9 36 rfl rfl, zt1 12 rfl rfl, ⟨by decide +kernel, by decide +kernel, by decide +kernel⟩, by decide⟩
set_option maxRecDepth 100000 in
theorem m_X12_648 : zCw RX12 648 yX12_counts cX12_counts 3 none 2 := ⟨zt9 37 rfl rfl, zt9 40 rfl rfl, zt1 12 rfl rfl, ⟨by decide +kernel, by decide +kernel, by decide +kernel⟩, by decide⟩
set_option maxRecDepth 100000 in
theorem m_X12_651 : zCw RX12 651 yX12_conditions cX12_conditions 5 (some .boolean) 1 := ⟨zt9 41 rfl rfl, zt9 44 rfl rfl, zt1 12 rfl rfl, ⟨by decide +kernel, by decide +kernel, by decide +kernel⟩, by decide⟩
set_option maxRecDepth 100000 in
theorem m_X12_433 : zCw RX12 433 yX12_isDefined cX12_isDefined 4 (some .boolean) 1 := ⟨zt9 45 rfl rfl, zt9 48 rfl rfl, zt1 12 rfl rfl, ⟨by decide +kernel, by decide +kernel, by decide +kernel⟩, by decide⟩
set_option maxRecDepth 100000 in
theorem m_X12_430 : zCw RX12 430 yX12_badToken cX12_badToken 3 (some .boolean) 2 := ⟨zt9 49 rfl rfl, zt9 52 rfl rfl, zt1 12 rfl rfl, ⟨by decide +kernel, by decide +kernel, by decide +kernel⟩, by decide⟩
set_option maxRecDepth 100000 in
theorem m_X12_376 : zCw RX12 376 yX12_badAt cX12_badAt 3 (some .boolean) 2 := ⟨zt9 53 rfl rfl, zt9 56 rfl rfl, zt1 12 rfl rfl, ⟨by decide +kernel, by decide +kernel, by decide +kernel⟩, by decide⟩
set_option maxRecDepth 100000 in
theorem m_X12_461 : zCw RX12 461 yX12_copies cX12_copies 3 none 2 := ⟨zt9 57 rfl rfl, zt9 60 rfl rfl, zt1 12 rfl rfl, ⟨by decide +kernel, by decide +kernel, by decide +kernel⟩, by decide⟩
set_option maxRecDepth 100000 in
theorem m_X12_436 : zCw RX12 436 yX12_macroOf cX12_macroOf 3 (some .int) 1 := ⟨zt9 61 rfl rfl, zt9 64 rfl rfl, zt1 12 rfl rfl, ⟨by decide +kernel, by decide +kernel, by decide +kernel⟩, by decide⟩
set_option maxRecDepth 100000 in
theorem m_X12_409 : zCw RX12 409 yX12_numberOf cX12_numberOf 5 (some .int) 1 := ⟨zt9 65 rfl rfl, zt9 68 rfl rfl, zt1 12 rfl rfl, ⟨by decide +kernel, by decide +kernel, by decide +kernel⟩, by decide⟩
set_option maxRecDepth 100000 in
theorem m_X12_550 : zCw RX12 550 yX12_opensLine cX12_opensLine 4 none 3 := ⟨zt9 69 rfl rfl, zt9 72 rfl rfl, zt1 12 rfl rfl, ⟨by decide +kernel, by decide +kernel, by decide +kernel⟩, by decide⟩
set_option maxRecDepth 100000 in
theorem m_X12_553 : zCw RX12 553 yX12_expands cX12_expands 4 (some .boolean) 0 := ⟨zt9 73 rfl rfl, zt9 76 rfl rfl, zt1 12 rfl rfl, ⟨by decide +kernel, by decide +kernel, by decide +kernel⟩, by decide⟩
set_option maxRecDepth 100000 in
theorem m_X12_464 : zCw RX12 464 yX12_opens cX12_opens 1 none 0 := ⟨zt9 77 rfl rfl, zt9 80 rfl rfl, zt1 12 rfl rfl, ⟨by decide +kernel, by decide +kernel, by decide +kernel⟩, by decide⟩
set_option maxRecDepth 100000 in
theorem m_X12_476 : zCw RX12 476 yX12_stretch cX12_stretch 4 none 3 := ⟨zt9 81 rfl rfl, zt9 84 rfl rfl, zt1 12 rfl rfl, ⟨by decide +kernel, by decide +kernel, by decide +kernel⟩, by decide⟩
set_option maxRecDepth 100000 in
theorem m_X12_480 : zCw RX12 480 yX12_replaces cX12_replaces 7 (some .boolean) 0 := ⟨zt9 85 rfl rfl, zt9 88 rfl rfl, zt1 12 rfl rfl, ⟨by decide +kernel, by decide +kernel, by decide +kernel⟩, by decide⟩
set_option maxRecDepth 100000 in
theorem m_X12_512 : zCw RX12 512 yX12_builds cX12_builds 8 (some .boolean) 0 := ⟨zt9 89 rfl rfl, zt9 92 rfl rfl, zt1 12 rfl rfl, ⟨by decide +kernel, by decide +kernel, by decide +kernel⟩, by decide⟩
set_option maxRecDepth 100000 in
theorem m_X12_547 : zCw RX12 547 yX12_pastes cX12_pastes 5 (some .boolean) 2 := ⟨zt9 93 rfl rfl, zt9 96 rfl rfl, zt1 12 rfl rfl, ⟨by decide +kernel, by decide +kernel, by decide +kernel⟩, by decide⟩
set_option maxRecDepth 100000 in
theorem m_X12_515 : zCw RX12 515 yX12_isPaste cX12_isPaste 3 (some .boolean) 2 := ⟨zt9 97 rfl rfl, zt9 100 rfl rfl, zt1 12 rfl rfl, ⟨by decide +kernel, by decide +kernel, by decide +kernel⟩, by decide⟩
set_option maxRecDepth 100000 in
theorem m_X12_418 : zCw RX12 418 yX12_isBodySign cX12_isBodySign 7 (some .boolean) 4 := ⟨zt9 101 rfl rfl, zt9 104 rfl rfl, zt1 12 rfl rfl, ⟨by decide +kernel, by decide +kernel, by decide +kernel⟩, by decide⟩
set_option maxRecDepth 100000 in
theorem m_X12_518 : zCw RX12 518 yX12_newPiece cX12_newPiece 2 none 1 := ⟨zt9 105 rfl rfl, zt9 108 rfl rfl, zt1 12 rfl rfl, ⟨by decide +kernel, by decide +kernel, by decide +kernel⟩, by decide⟩
set_option maxRecDepth 100000 in
theorem m_X12_522 : zCw RX12 522 yX12_isMaking cX12_isMaking 3 (some .boolean) 2 := ⟨zt9 109 rfl rfl, zt9 112 rfl rfl, zt1 12 rfl rfl, ⟨by decide +kernel, by decide +kernel, by decide +kernel⟩, by decide⟩
set_option maxRecDepth 100000 in
theorem m_X12_525 : zCw RX12 525 yX12_makes cX12_makes 8 (some .boolean) 2 := ⟨zt9 113 rfl rfl, zt9 116 rfl rfl, zt1 12 rfl rfl, ⟨by decide +kernel, by decide +kernel, by decide +kernel⟩, by decide⟩
set_option maxRecDepth 100000 in
theorem m_X12_531 : zCw RX12 531 yX12_argBegin cX12_argBegin 2 (some .int) 1 := ⟨zt9 117 rfl rfl, zt9 120 rfl rfl, zt1 12 rfl rfl, ⟨by decide +kernel, by decide +kernel, by decide +kernel⟩, by decide⟩
set_option maxRecDepth 100000 in
theorem m_X12_534 : zCw RX12 534 yX12_argEnd cX12_argEnd 2 (some .int) 1 := ⟨zt9 121 rfl rfl, zt9 124 rfl rfl, zt1 12 rfl rfl, ⟨by decide +kernel, by decide +kernel, by decide +kernel⟩, by decide⟩
set_option maxRecDepth 100000 in
theorem m_X12_543 : zCw RX12 543 yX12_laysToken cX12_laysToken 5 none 4 := ⟨zt9 125 rfl rfl, zt9 128 rfl rfl, zt1 12 rfl rfl, ⟨by decide +kernel, by decide +kernel, by decide +kernel⟩, by decide⟩
set_option maxRecDepth 100000 in
theorem m_X12_540 : zCw RX12 540 yX12_asOf cX12_asOf 3 none 2 := ⟨zt9 129 rfl rfl, zt9 132 rfl rfl, zt1 12 rfl rfl, ⟨by decide +kernel, by decide +kernel, by decide +kernel⟩, by decide⟩
set_option maxRecDepth 100000 in
theorem m_X12_528 : zCw RX12 528 yX12_laysBody cX12_laysBody 4 none 2 := ⟨zt9 133 rfl rfl, zt9 136 rfl rfl, zt1 12 rfl rfl, ⟨by decide +kernel, by decide +kernel, by decide +kernel⟩, by decide⟩
set_option maxRecDepth 100000 in
theorem m_X12_454 : zCw RX12 454 yX12_adds cX12_adds 4 none 2 := ⟨zt9 137 rfl rfl, zt9 140 rfl rfl, zt1 12 rfl rfl, ⟨by decide +kernel, by decide +kernel, by decide +kernel⟩, by decide⟩
set_option maxRecDepth 100000 in
theorem m_X12_537 : zCw RX12 537 yX12_blanks cX12_blanks 2 none 1 := ⟨zt9 141 rfl rfl, zt9 144 rfl rfl, zt1 12 rfl rfl, ⟨by decide +kernel, by decide +kernel, by decide +kernel⟩, by decide⟩
set_option maxRecDepth 100000 in
theorem m_X12_484 : zCw RX12 484 yX12_peek cX12_peek 2 (some .int) 0 := ⟨zt9 145 rfl rfl, zt9 148 rfl rfl, zt1 12 rfl rfl, ⟨by decide +kernel, by decide +kernel, by decide +kernel⟩, by decide⟩
set_option maxRecDepth 100000 in
theorem m_X12_488 : zCw RX12 488 yX12_endsArgument cX12_endsArgument 1 none 0 := ⟨zt9 149 rfl rfl, zt9 152 rfl rfl, zt1 12 rfl rfl, ⟨by decide +kernel, by decide +kernel, by decide +kernel⟩, by decide⟩
set_option maxRecDepth 100000 in
theorem m_X12_491 : zCw RX12 491 yX12_goes cX12_goes 1 none 0 := ⟨zt9 153 rfl rfl, zt9 156 rfl rfl, zt1 12 rfl rfl, ⟨by decide +kernel, by decide +kernel, by decide +kernel⟩, by decide⟩
set_option maxRecDepth 100000 in
theorem m_X12_497 : zCw RX12 497 yX12_passes cX12_passes 2 none 1 := ⟨zt9 157 rfl rfl, zt9 160 rfl rfl, zt1 12 rfl rfl, ⟨by decide +kernel, by decide +kernel, by decide +kernel⟩, by decide⟩
set_option maxRecDepth 100000 in
theorem m_X12_503 : zCw RX12 503 yX12_begins cX12_begins 4 (some .boolean) 3 := ⟨zt9 161 rfl rfl, zt9 164 rfl rfl, zt1 12 rfl rfl, ⟨by decide +kernel, by decide +kernel, by decide +kernel⟩, by decide⟩
set_option maxRecDepth 100000 in
theorem m_X12_506 : zCw RX12 506 yX12_calls cX12_calls 9 (some .boolean) 2 := ⟨zt9 165 rfl rfl, zt9 168 rfl rfl, zt1 12 rfl rfl, ⟨by decide +kernel, by decide +kernel, by decide +kernel⟩, by decide⟩
set_option maxRecDepth 100000 in
theorem m_X12_630 : zCw RX12 630 yX12_readsList cX12_readsList 3 (some .boolean) 0 := ⟨zt9 169 rfl rfl, zt9 172 rfl rfl, zt1 12 rfl rfl, ⟨by decide +kernel, by decide +kernel, by decide +kernel⟩, by decide⟩
set_option maxRecDepth 100000 in
theorem m_X12_609 : zCw RX12 609 yX12_behind cX12_behind 3 (some .boolean) 1 := ⟨zt9 173 rfl rfl, zt9 176 rfl rfl, zt1 12 rfl rfl, ⟨by decide +kernel, by decide +kernel, by decide +kernel⟩, by decide⟩
set_option maxRecDepth 100000 in
theorem m_X12_600 : zCw RX12 600 yX12_doesDown cX12_doesDown 1 none 0 := ⟨zt9 177 rfl rfl, zt9 180 rfl rfl, zt1 12 rfl rfl, ⟨by decide +kernel, by decide +kernel, by decide +kernel⟩, by decide⟩
set_option maxRecDepth 100000 in
theorem m_X12_585 : zCw RX12 585 yX12_does cX12_does 2 none 0 := ⟨zt9 181 rfl rfl, zt9 184 rfl rfl, zt1 12 rfl rfl, ⟨by decide +kernel, by decide +kernel, by decide +kernel⟩, by decide⟩
set_option maxRecDepth 100000 in
theorem m_X12_572 : zCw RX12 572 yX12_isAhead cX12_isAhead 1 (some .boolean) 1 := ⟨zt9 185 rfl rfl, zt9 187 rfl rfl, zt1 12 rfl rfl, ⟨by decide +kernel, by decide +kernel, by decide +kernel⟩, by decide⟩
set_option maxRecDepth 100000 in
theorem m_X12_578 : zCw RX12 578 yX12_code cX12_code 5 none 3 := ⟨zt9 188 rfl rfl, zt9 191 rfl rfl, zt1 12 rfl rfl, ⟨by decide +kernel, by decide +kernel, by decide +kernel⟩, by decide⟩
set_option maxRecDepth 100000 in
theorem m_X12_603 : zCw RX12 603 yX12_doesAbove cX12_doesAbove 2 none 1 := ⟨zt9 192 rfl rfl, zt9 195 rfl rfl, zt1 12 rfl rfl, ⟨by decide +kernel, by decide +kernel, by decide +kernel⟩, by decide⟩
set_option maxRecDepth 100000 in
theorem m_X12_582 : zCw RX12 582 yX12_strength cX12_strength 1 (some .int) 1 := ⟨zt9 196 rfl rfl, zt9 198 rfl rfl, zt1 12 rfl rfl, ⟨by decide +kernel, by decide +kernel, by decide +kernel⟩, by decide⟩
set_option maxRecDepth 100000 in
theorem m_X12_591 : zCw RX12 591 yX12_waitsFor cX12_waitsFor 4 none 3 := ⟨zt9 199 rfl rfl, zt9 202 rfl rfl, zt1 12 rfl rfl, ⟨by decide +kernel, by decide +kernel, by decide +kernel⟩, by decide⟩
set_option maxRecDepth 100000 in
theorem m_X12_606 : zCw RX12 606 yX12_operator cX12_operator 4 (some .int) 1 := ⟨zt9 203 rfl rfl, zt9 206 rfl rfl, zt1 12 rfl rfl, ⟨by decide +kernel, by decide +kernel, by decide +kernel⟩, by decide⟩
set_option maxRecDepth 100000 in
theorem m_X12_612 : zCw RX12 612 yX12_operand cX12_operand 4 (some .boolean) 1 := ⟨zt9 207 rfl rfl, zt9 210 rfl rfl, zt1 12 rfl rfl, ⟨by decide +kernel, by decide +kernel, by decide +kernel⟩, by decide⟩
set_option maxRecDepth 100000 in
theorem m_X12_588 : zCw RX12 588 yX12_aheadOf cX12_aheadOf 2 (some .int) 1 := ⟨zt9 211 rfl rfl, zt9 214 rfl rfl, zt1 12 rfl rfl, ⟨by decide +kernel, by decide +kernel, by decide +kernel⟩, by decide⟩
set_option maxRecDepth 100000 in
theorem m_X12_594 : zCw RX12 594 yX12_reads cX12_reads 6 (some .boolean) 1 := ⟨zt9 215 rfl rfl, zt9 218 rfl rfl, zt1 12 rfl rfl, ⟨by decide +kernel, by decide +kernel, by decide +kernel⟩, by decide⟩
set_option maxRecDepth 100000 in
theorem k_X12_563 : Cond.constantLong RX12 563 (922337203685477580) ∈ lw_g := zt9 219 rfl rfl
set_option maxRecDepth 100000 in
theorem k_X12_565 : Cond.constantLong RX12 565 (10) ∈ lw_g := zt9 220 rfl rfl
set_option maxRecDepth 100000 in
theorem k_X12_567 : Cond.constantLong RX12 567 (48) ∈ lw_g := zt9 221 rfl rfl
set_option maxRecDepth 100000 in
theorem m_X12_633 : zCw RX12 633 yX12_works cX12_works 7 (some .boolean) 0 := ⟨zt9 222 rfl rfl, zt9 225 rfl rfl, zt1 12 rfl rfl, ⟨by decide +kernel, by decide +kernel, by decide +kernel⟩, by decide⟩
set_option maxRecDepth 100000 in
theorem m_X12_615 : zCw RX12 615 yX12_truth cX12_truth 1 (some .long) 1 := ⟨zt9 226 rfl rfl, zt9 228 rfl rfl, zt1 12 rfl rfl, ⟨by decide +kernel, by decide +kernel, by decide +kernel⟩, by decide⟩
set_option maxRecDepth 100000 in
theorem k_X12_621 : Cond.constantLong RX12 621 (-1) ∈ lw_g := zt9 229 rfl rfl
set_option maxRecDepth 100000 in
theorem m_X12_623 : zCw RX12 623 yX12_two cX12_two 5 (some .long) 3 := ⟨zt9 230 rfl rfl, zt9 232 rfl rfl, zt1 12 rfl rfl, ⟨by decide +kernel, by decide +kernel, by decide +kernel⟩, by decide⟩
set_option maxRecDepth 100000 in
theorem k_X12_619 : Cond.constantLong RX12 619 (63) ∈ lw_g := zt9 233 rfl rfl
set_option maxRecDepth 100000 in
theorem m_X12_654 : zCw RX12 654 yX12_isNothing cX12_isNothing 2 (some .boolean) 1 := ⟨zt9 234 rfl rfl, zt9 237 rfl rfl, zt1 12 rfl rfl, ⟨by decide +kernel, by decide +kernel, by decide +kernel⟩, by decide⟩
set_option maxRecDepth 100000 in
theorem m_X12_685 : zCw RX12 685 yX12_doesDirective cX12_doesDirective 3 (some .boolean) 1 := ⟨zt9 238 rfl rfl, zt10 1 rfl rfl, zt1 12 rfl rfl, ⟨by decide +kernel, by decide +kernel, by decide +kernel⟩, by decide⟩
set_option maxRecDepth 100000 in
theorem m_X12_664 : zCw RX12 664 yX12_defines cX12_defines 8 (some .boolean) 0 := ⟨zt10 2 rfl rfl, zt10 5 rfl rfl, zt1 12 rfl rfl, ⟨by decide +kernel, by decide +kernel, by decide +kernel⟩, by decide⟩
set_option maxRecDepth 100000 in
theorem m_X12_439 : zCw RX12 439 yX12_readParameters cX12_readParameters 4 (some .int) 1 := ⟨zt10 6 rfl rfl, zt10 9 rfl rfl, zt1 12 rfl rfl, ⟨by decide +kernel, by decide +kernel, by decide +kernel⟩, by decide⟩
set_option maxRecDepth 100000 in
theorem m_X12_427 : zCw RX12 427 yX12_parameterOf cX12_parameterOf 3 (some .int) 1 := ⟨zt10 10 rfl rfl, zt10 13 rfl rfl, zt1 12 rfl rfl, ⟨by decide +kernel, by decide +kernel, by decide +kernel⟩, by decide⟩
set_option maxRecDepth 100000 in
theorem m_X12_424 : zCw RX12 424 yX12_isLike cX12_isLike 5 (some .boolean) 2 := ⟨zt10 14 rfl rfl, zt10 17 rfl rfl, zt1 12 rfl rfl, ⟨by decide +kernel, by decide +kernel, by decide +kernel⟩, by decide⟩
set_option maxRecDepth 100000 in
theorem m_X12_442 : zCw RX12 442 yX12_isTwo cX12_isTwo 4 (some .boolean) 3 := ⟨zt10 18 rfl rfl, zt10 21 rfl rfl, zt1 12 rfl rfl, ⟨by decide +kernel, by decide +kernel, by decide +kernel⟩, by decide⟩
set_option maxRecDepth 100000 in
theorem m_X12_667 : zCw RX12 667 yX12_includes cX12_includes 5 (some .boolean) 0 := ⟨zt10 22 rfl rfl, zt10 25 rfl rfl, zt1 12 rfl rfl, ⟨by decide +kernel, by decide +kernel, by decide +kernel⟩, by decide⟩
set_option maxRecDepth 100000 in
theorem m_X12_670 : zCw RX12 670 yX12_doesNamed cX12_doesNamed 4 (some .boolean) 2 := ⟨zt10 26 rfl rfl, zt10 29 rfl rfl, zt1 12 rfl rfl, ⟨by decide +kernel, by decide +kernel, by decide +kernel⟩, by decide⟩
set_option maxRecDepth 100000 in
theorem m_X12_688 : zCw RX12 688 yX12_doesText cX12_doesText 2 (some .boolean) 0 := ⟨zt10 30 rfl rfl, zt10 33 rfl rfl, zt1 12 rfl rfl, ⟨by decide +kernel, by decide +kernel, by decide +kernel⟩, by decide⟩
set_option maxRecDepth 100000 in
theorem m_X12_673 : zCw RX12 673 yX12_expandsLine cX12_expandsLine 1 (some .boolean) 0 := ⟨zt10 34 rfl rfl, zt10 37 rfl rfl, zt1 12 rfl rfl, ⟨by decide +kernel, by decide +kernel, by decide +kernel⟩, by decide⟩
set_option maxRecDepth 100000 in
theorem m_X12_676 : zCw RX12 676 yX12_comes cX12_comes 4 none 1 := ⟨zt10 38 rfl rfl, zt10 41 rfl rfl, zt1 12 rfl rfl, ⟨by decide +kernel, by decide +kernel, by decide +kernel⟩, by decide⟩
set_option maxRecDepth 100000 in
theorem m_X12_706 : zCw RX12 706 yX12_tellsFault cX12_tellsFault 2 none 0 := ⟨zt10 42 rfl rfl, zt10 45 rfl rfl, zt1 12 rfl rfl, ⟨by decide +kernel, by decide +kernel, by decide +kernel⟩, by decide⟩
set_option maxRecDepth 100000 in
theorem m_X12_709 : zCw RX12 709 yX12_tellsTokens cX12_tellsTokens 4 none 1 := ⟨zt10 46 rfl rfl, zt10 49 rfl rfl, zt1 12 rfl rfl, ⟨by decide +kernel, by decide +kernel, by decide +kernel⟩, by decide⟩
set_option maxRecDepth 100000 in
theorem m_L_57 : zCw "HideSetsLaw" 57 yX12_fault cX12_fault 2 (some .int) 1 := ⟨zt10 50 rfl rfl, zt10 53 rfl rfl, zt1 12 rfl rfl, ⟨by decide +kernel, by decide +kernel, by decide +kernel⟩, by decide⟩
set_option maxRecDepth 100000 in
theorem m_L_61 : zCw "HideSetsLaw" 61 yX12_expand cX12_expand 3 (some .int) 0 := ⟨zt10 54 rfl rfl, zt10 57 rfl rfl, zt1 12 rfl rfl, ⟨by decide +kernel, by decide +kernel, by decide +kernel⟩, by decide⟩
set_option maxRecDepth 100000 in
theorem m_X12_712 : zCw RX12 712 yX12_asTold cX12_asTold 2 none 0 := ⟨zt10 58 rfl rfl, zt10 61 rfl rfl, zt1 12 rfl rfl, ⟨by decide +kernel, by decide +kernel, by decide +kernel⟩, by decide⟩
set_option maxRecDepth 100000 in
theorem m_X12_715 : zCw RX12 715 yX12_lexesTape cX12_lexesTape 3 (some .boolean) 0 := ⟨zt10 62 rfl rfl, zt10 65 rfl rfl, zt1 12 rfl rfl, ⟨by decide +kernel, by decide +kernel, by decide +kernel⟩, by decide⟩
set_option maxRecDepth 100000 in
theorem m_L_67 : zCw "HideSetsLaw" 67 yX12_value cX12_value 2 (some .long) 0 := ⟨zt10 66 rfl rfl, zt10 69 rfl rfl, zt1 12 rfl rfl, ⟨by decide +kernel, by decide +kernel, by decide +kernel⟩, by decide⟩
set_option maxRecDepth 100000 in
theorem m_X12_718 : zCw RX12 718 yX12_throwsIf cX12_throwsIf 2 (some .boolean) 1 := ⟨zt10 70 rfl rfl, zt10 73 rfl rfl, zt1 12 rfl rfl, ⟨by decide +kernel, by decide +kernel, by decide +kernel⟩, by decide⟩
set_option maxRecDepth 100000 in
theorem m_L_71 : zCw "HideSetsLaw" 71 yX12_token cX12_token 3 (some .int) 2 := ⟨zt10 74 rfl rfl, zt10 77 rfl rfl, zt1 12 rfl rfl, ⟨by decide +kernel, by decide +kernel, by decide +kernel⟩, by decide⟩
set_option maxRecDepth 100000 in
theorem m_L_75 : zCw "HideSetsLaw" 75 yX12_tokenAt cX12_tokenAt 3 (some .int) 2 := ⟨zt10 78 rfl rfl, zt10 81 rfl rfl, zt1 12 rfl rfl, ⟨by decide +kernel, by decide +kernel, by decide +kernel⟩, by decide⟩
set_option maxRecDepth 100000 in
theorem m_L_78 : zCw "HideSetsLaw" 78 yX12_macro cX12_macro 3 (some .int) 2 := ⟨zt10 82 rfl rfl, zt10 85 rfl rfl, zt1 12 rfl rfl, ⟨by decide +kernel, by decide +kernel, by decide +kernel⟩, by decide⟩
set_option maxRecDepth 100000 in
theorem m_L_82 : zCw "HideSetsLaw" 82 yX12_macroAt cX12_macroAt 3 (some .int) 2 := ⟨zt10 86 rfl rfl, zt10 89 rfl rfl, zt1 12 rfl rfl, ⟨by decide +kernel, by decide +kernel, by decide +kernel⟩, by decide⟩
set_option maxRecDepth 100000 in
theorem m_L_86 : zCw "HideSetsLaw" 86 yX12_now cX12_now 2 (some .int) 1 := ⟨zt10 90 rfl rfl, zt10 93 rfl rfl, zt1 12 rfl rfl, ⟨by decide +kernel, by decide +kernel, by decide +kernel⟩, by decide⟩
set_option maxRecDepth 100000 in
theorem m_L_90 : zCw "HideSetsLaw" 90 yX12_passed cX12_passed 3 (some .int) 2 := ⟨zt10 94 rfl rfl, zt10 97 rfl rfl, zt1 12 rfl rfl, ⟨by decide +kernel, by decide +kernel, by decide +kernel⟩, by decide⟩
set_option maxRecDepth 100000 in
theorem m_L_95 : zCw "HideSetsLaw" 95 yX12_presence cX12_presence 4 (some .int) 3 := ⟨zt10 98 rfl rfl, zt10 101 rfl rfl, zt1 12 rfl rfl, ⟨by decide +kernel, by decide +kernel, by decide +kernel⟩, by decide⟩
set_option maxRecDepth 100000 in
theorem m_X12_728 : zCw RX12 728 yX12_studies cX12_studies 6 none 1 := ⟨zt10 102 rfl rfl, zt10 105 rfl rfl, zt1 12 rfl rfl, ⟨by decide +kernel, by decide +kernel, by decide +kernel⟩, by decide⟩
set_option maxRecDepth 100000 in
theorem m_L_99 : zCw "HideSetsLaw" 99 yX12_outcomes cX12_outcomes 4 (some .int) 1 := ⟨zt10 106 rfl rfl, zt10 109 rfl rfl, zt1 12 rfl rfl, ⟨by decide +kernel, by decide +kernel, by decide +kernel⟩, by decide⟩
set_option maxRecDepth 100000 in
theorem m_X12_731 : zCw RX12 731 yX12_leastLike cX12_leastLike 3 (some .int) 1 := ⟨zt10 110 rfl rfl, zt10 113 rfl rfl, zt1 12 rfl rfl, ⟨by decide +kernel, by decide +kernel, by decide +kernel⟩, by decide⟩
set_option maxRecDepth 100000 in
theorem m_X12_725 : zCw RX12 725 yX12_areAlike cX12_areAlike 5 (some .boolean) 2 := ⟨zt10 114 rfl rfl, zt10 117 rfl rfl, zt1 12 rfl rfl, ⟨by decide +kernel, by decide +kernel, by decide +kernel⟩, by decide⟩
set_option maxRecDepth 100000 in
theorem m_L_103 : zCw "HideSetsLaw" 103 yX12_like cX12_like 3 (some .int) 2 := ⟨zt10 118 rfl rfl, zt10 121 rfl rfl, zt1 12 rfl rfl, ⟨by decide +kernel, by decide +kernel, by decide +kernel⟩, by decide⟩
set_option maxRecDepth 100000 in
theorem m_L_107 : zCw "HideSetsLaw" 107 yX12_depends cX12_depends 5 (some .int) 1 := ⟨zt10 122 rfl rfl, zt10 125 rfl rfl, zt1 12 rfl rfl, ⟨by decide +kernel, by decide +kernel, by decide +kernel⟩, by decide⟩
set_option maxRecDepth 100000 in
theorem i_yX0_init : yX0_init.name = "<init>" ∧ (Cond.instanceMethod yX0_init) ∈ lw_g := ⟨rfl, zt2 45 rfl rfl⟩
set_option maxRecDepth 100000 in
theorem v_yX0_tallyInto : (Cond.instanceMethod yX0_tallyInto) ∈ lw_g ∧ (Cond.selects yX0_tallyInto.cls yX0_tallyInto yX0_tallyInto) ∈ lw_g := ⟨zt4 18 rfl rfl, zt4 19 rfl rfl⟩
set_option maxRecDepth 100000 in
theorem v_yX0_clear : (Cond.instanceMethod yX0_clear) ∈ lw_g ∧ (Cond.selects yX0_clear.cls yX0_clear yX0_clear) ∈ lw_g := ⟨zt4 120 rfl rfl, zt4 121 rfl rfl⟩
set_option maxRecDepth 100000 in
theorem v_yX0_load : (Cond.instanceMethod yX0_load) ∈ lw_g ∧ (Cond.selects yX0_load.cls yX0_load yX0_load) ∈ lw_g := ⟨zt4 124 rfl rfl, zt4 125 rfl rfl⟩
set_option maxRecDepth 100000 in
theorem v_yX0_go : (Cond.instanceMethod yX0_go) ∈ lw_g ∧ (Cond.selects yX0_go.cls yX0_go yX0_go) ∈ lw_g := ⟨zt5 12 rfl rfl, zt5 13 rfl rfl⟩
set_option maxRecDepth 100000 in
theorem v_yX0_isReplaced : (Cond.instanceMethod yX0_isReplaced) ∈ lw_g ∧ (Cond.selects yX0_isReplaced.cls yX0_isReplaced yX0_isReplaced) ∈ lw_g := ⟨zt5 64 rfl rfl, zmem_s 53 (by decide +kernel) rfl⟩
set_option maxRecDepth 100000 in
theorem v_yX0_replaces : (Cond.instanceMethod yX0_replaces) ∈ lw_g ∧ (Cond.selects yX0_replaces.cls yX0_replaces yX0_replaces) ∈ lw_g := ⟨zt5 70 rfl rfl, zmem_s 54 (by decide +kernel) rfl⟩
set_option maxRecDepth 100000 in
theorem v_yX0_findArguments : (Cond.instanceMethod yX0_findArguments) ∈ lw_g ∧ (Cond.selects yX0_findArguments.cls yX0_findArguments yX0_findArguments) ∈ lw_g := ⟨zt5 75 rfl rfl, zmem_s 55 (by decide +kernel) rfl⟩
set_option maxRecDepth 100000 in
theorem v_yX0_doItem : (Cond.instanceMethod yX0_doItem) ∈ lw_g ∧ (Cond.selects yX0_doItem.cls yX0_doItem yX0_doItem) ∈ lw_g := ⟨zt5 22 rfl rfl, zmem_s 48 (by decide +kernel) rfl⟩
set_option maxRecDepth 100000 in
theorem v_yX0_openArgument : (Cond.instanceMethod yX0_openArgument) ∈ lw_g ∧ (Cond.selects yX0_openArgument.cls yX0_openArgument yX0_openArgument) ∈ lw_g := ⟨zt5 36 rfl rfl, zmem_s 50 (by decide +kernel) rfl⟩
set_option maxRecDepth 100000 in
theorem v_yX0_paste : (Cond.instanceMethod yX0_paste) ∈ lw_g ∧ (Cond.selects yX0_paste.cls yX0_paste yX0_paste) ∈ lw_g := ⟨zt5 48 rfl rfl, zmem_s 52 (by decide +kernel) rfl⟩
set_option maxRecDepth 100000 in
theorem v_yX0_makeString : (Cond.instanceMethod yX0_makeString) ∈ lw_g ∧ (Cond.selects yX0_makeString.cls yX0_makeString yX0_makeString) ∈ lw_g := ⟨zt5 40 rfl rfl, zmem_s 51 (by decide +kernel) rfl⟩
set_option maxRecDepth 100000 in
theorem v_yX0_putInPlace : (Cond.instanceMethod yX0_putInPlace) ∈ lw_g ∧ (Cond.selects yX0_putInPlace.cls yX0_putInPlace yX0_putInPlace) ∈ lw_g := ⟨zt5 26 rfl rfl, zmem_s 49 (by decide +kernel) rfl⟩
set_option maxRecDepth 100000 in
theorem i_yX1_init : yX1_init.name = "<init>" ∧ (Cond.instanceMethod yX1_init) ∈ lw_g := ⟨rfl, zt1 125 rfl rfl⟩
set_option maxRecDepth 100000 in
theorem v_yX1_clear : (Cond.instanceMethod yX1_clear) ∈ lw_g ∧ (Cond.selects yX1_clear.cls yX1_clear yX1_clear) ∈ lw_g := ⟨zt3 235 rfl rfl, zt3 236 rfl rfl⟩
set_option maxRecDepth 100000 in
theorem v_yX1_meet : (Cond.instanceMethod yX1_meet) ∈ lw_g ∧ (Cond.selects yX1_meet.cls yX1_meet yX1_meet) ∈ lw_g := ⟨zt4 32 rfl rfl, zt4 33 rfl rfl⟩
set_option maxRecDepth 100000 in
theorem i_yX2_init : yX2_init.name = "<init>" ∧ (Cond.instanceMethod yX2_init) ∈ lw_g := ⟨rfl, zt2 54 rfl rfl⟩
set_option maxRecDepth 100000 in
theorem v_yX2_enterRow : (Cond.instanceMethod yX2_enterRow) ∈ lw_g ∧ (Cond.selects yX2_enterRow.cls yX2_enterRow yX2_enterRow) ∈ lw_g := ⟨zt5 16 rfl rfl, zt5 17 rfl rfl⟩
set_option maxRecDepth 100000 in
theorem v_yX2_beginReplacing : (Cond.instanceMethod yX2_beginReplacing) ∈ lw_g ∧ (Cond.selects yX2_beginReplacing.cls yX2_beginReplacing yX2_beginReplacing) ∈ lw_g := ⟨zt5 78 rfl rfl, zt5 79 rfl rfl⟩
set_option maxRecDepth 100000 in
theorem v_yX2_beginItem : (Cond.instanceMethod yX2_beginItem) ∈ lw_g ∧ (Cond.selects yX2_beginItem.cls yX2_beginItem yX2_beginItem) ∈ lw_g := ⟨zt5 31 rfl rfl, zt5 32 rfl rfl⟩
set_option maxRecDepth 100000 in
theorem v_yX2_put : (Cond.instanceMethod yX2_put) ∈ lw_g ∧ (Cond.selects yX2_put.cls yX2_put yX2_put) ∈ lw_g := ⟨zt5 54 rfl rfl, zt5 55 rfl rfl⟩
set_option maxRecDepth 100000 in
theorem i_yX3_init : yX3_init.name = "<init>" ∧ (Cond.instanceMethod yX3_init) ∈ lw_g := ⟨rfl, zt1 206 rfl rfl⟩
set_option maxRecDepth 100000 in
theorem v_yX3_numberOf : (Cond.instanceMethod yX3_numberOf) ∈ lw_g ∧ (Cond.selects yX3_numberOf.cls yX3_numberOf yX3_numberOf) ∈ lw_g := ⟨zt4 162 rfl rfl, zt4 163 rfl rfl⟩
set_option maxRecDepth 100000 in
theorem v_yX3_standing : (Cond.instanceMethod yX3_standing) ∈ lw_g ∧ (Cond.selects yX3_standing.cls yX3_standing yX3_standing) ∈ lw_g := ⟨zt4 206 rfl rfl, zt4 207 rfl rfl⟩
set_option maxRecDepth 100000 in
theorem v_yX3_addSwitch : (Cond.instanceMethod yX3_addSwitch) ∈ lw_g ∧ (Cond.selects yX3_addSwitch.cls yX3_addSwitch yX3_addSwitch) ∈ lw_g := ⟨zt4 3 rfl rfl, zt4 4 rfl rfl⟩
set_option maxRecDepth 100000 in
theorem v_yX3_enter : (Cond.instanceMethod yX3_enter) ∈ lw_g ∧ (Cond.selects yX3_enter.cls yX3_enter yX3_enter) ∈ lw_g := ⟨zt4 8 rfl rfl, zmem_s 15 (by decide +kernel) rfl⟩
set_option maxRecDepth 100000 in
theorem v_yX3_addItem : (Cond.instanceMethod yX3_addItem) ∈ lw_g ∧ (Cond.selects yX3_addItem.cls yX3_addItem yX3_addItem) ∈ lw_g := ⟨zt4 15 rfl rfl, zmem_s 16 (by decide +kernel) rfl⟩
set_option maxRecDepth 100000 in
theorem v_yX3_define : (Cond.instanceMethod yX3_define) ∈ lw_g ∧ (Cond.selects yX3_define.cls yX3_define yX3_define) ∈ lw_g := ⟨zt4 149 rfl rfl, zt4 150 rfl rfl⟩
set_option maxRecDepth 100000 in
theorem v_yX3_newNumber : (Cond.instanceMethod yX3_newNumber) ∈ lw_g ∧ (Cond.selects yX3_newNumber.cls yX3_newNumber yX3_newNumber) ∈ lw_g := ⟨zt4 154 rfl rfl, zmem_s 32 (by decide +kernel) rfl⟩
set_option maxRecDepth 100000 in
theorem v_yX3_isSign : (Cond.instanceMethod yX3_isSign) ∈ lw_g ∧ (Cond.selects yX3_isSign.cls yX3_isSign yX3_isSign) ∈ lw_g := ⟨zt4 168 rfl rfl, zmem_s 33 (by decide +kernel) rfl⟩
set_option maxRecDepth 100000 in
theorem v_yX3_tellParameters : (Cond.instanceMethod yX3_tellParameters) ∈ lw_g ∧ (Cond.selects yX3_tellParameters.cls yX3_tellParameters yX3_tellParameters) ∈ lw_g := ⟨zt4 176 rfl rfl, zmem_s 34 (by decide +kernel) rfl⟩
set_option maxRecDepth 100000 in
theorem v_yX3_parameterAt : (Cond.instanceMethod yX3_parameterAt) ∈ lw_g ∧ (Cond.selects yX3_parameterAt.cls yX3_parameterAt yX3_parameterAt) ∈ lw_g := ⟨zt4 180 rfl rfl, zmem_s 35 (by decide +kernel) rfl⟩
set_option maxRecDepth 100000 in
theorem v_yX3_isBody : (Cond.instanceMethod yX3_isBody) ∈ lw_g ∧ (Cond.selects yX3_isBody.cls yX3_isBody yX3_isBody) ∈ lw_g := ⟨zt4 184 rfl rfl, zmem_s 36 (by decide +kernel) rfl⟩
set_option maxRecDepth 100000 in
theorem v_yX3_makeItems : (Cond.instanceMethod yX3_makeItems) ∈ lw_g ∧ (Cond.selects yX3_makeItems.cls yX3_makeItems yX3_makeItems) ∈ lw_g := ⟨zt4 188 rfl rfl, zmem_s 37 (by decide +kernel) rfl⟩
set_option maxRecDepth 100000 in
theorem i_yX4_init : yX4_init.name = "<init>" ∧ (Cond.instanceMethod yX4_init) ∈ lw_g := ⟨rfl, zt1 45 rfl rfl⟩
set_option maxRecDepth 100000 in
theorem v_yX4_read : (Cond.instanceMethod yX4_read) ∈ lw_g ∧ (Cond.selects yX4_read.cls yX4_read yX4_read) ∈ lw_g := ⟨zt3 78 rfl rfl, zt3 79 rfl rfl⟩
set_option maxRecDepth 100000 in
theorem v_yX4_closeLine : (Cond.instanceMethod yX4_closeLine) ∈ lw_g ∧ (Cond.selects yX4_closeLine.cls yX4_closeLine yX4_closeLine) ∈ lw_g := ⟨zt3 83 rfl rfl, zmem_s 4 (by decide +kernel) rfl⟩
set_option maxRecDepth 100000 in
theorem v_yX4_change : (Cond.instanceMethod yX4_change) ∈ lw_g ∧ (Cond.selects yX4_change.cls yX4_change yX4_change) ∈ lw_g := ⟨zt6 50 rfl rfl, zt6 51 rfl rfl⟩
set_option maxRecDepth 100000 in
theorem v_yX4_takeOut : (Cond.instanceMethod yX4_takeOut) ∈ lw_g ∧ (Cond.selects yX4_takeOut.cls yX4_takeOut yX4_takeOut) ∈ lw_g := ⟨zt6 59 rfl rfl, zt6 60 rfl rfl⟩
set_option maxRecDepth 100000 in
theorem v_yX4_copy : (Cond.instanceMethod yX4_copy) ∈ lw_g ∧ (Cond.selects yX4_copy.cls yX4_copy yX4_copy) ∈ lw_g := ⟨zt6 71 rfl rfl, zt6 72 rfl rfl⟩
set_option maxRecDepth 100000 in
theorem v_yX4_firstOf : (Cond.instanceMethod yX4_firstOf) ∈ lw_g ∧ (Cond.selects yX4_firstOf.cls yX4_firstOf yX4_firstOf) ∈ lw_g := ⟨zt3 94 rfl rfl, zt3 95 rfl rfl⟩
set_option maxRecDepth 100000 in
theorem v_yX4_skipBlanks : (Cond.instanceMethod yX4_skipBlanks) ∈ lw_g ∧ (Cond.selects yX4_skipBlanks.cls yX4_skipBlanks yX4_skipBlanks) ∈ lw_g := ⟨zt3 99 rfl rfl, zmem_s 7 (by decide +kernel) rfl⟩
set_option maxRecDepth 100000 in
theorem v_yX4_skipWord : (Cond.instanceMethod yX4_skipWord) ∈ lw_g ∧ (Cond.selects yX4_skipWord.cls yX4_skipWord yX4_skipWord) ∈ lw_g := ⟨zt3 103 rfl rfl, zmem_s 8 (by decide +kernel) rfl⟩
set_option maxRecDepth 100000 in
theorem v_yX4_mark : (Cond.instanceMethod yX4_mark) ∈ lw_g ∧ (Cond.selects yX4_mark.cls yX4_mark yX4_mark) ∈ lw_g := ⟨zt3 87 rfl rfl, zmem_s 5 (by decide +kernel) rfl⟩
set_option maxRecDepth 100000 in
theorem v_yX4_wordOf : (Cond.instanceMethod yX4_wordOf) ∈ lw_g ∧ (Cond.selects yX4_wordOf.cls yX4_wordOf yX4_wordOf) ∈ lw_g := ⟨zt3 91 rfl rfl, zmem_s 6 (by decide +kernel) rfl⟩
set_option maxRecDepth 100000 in
theorem v_yX4_guardOf : (Cond.instanceMethod yX4_guardOf) ∈ lw_g ∧ (Cond.selects yX4_guardOf.cls yX4_guardOf yX4_guardOf) ∈ lw_g := ⟨zt3 167 rfl rfl, zmem_s 9 (by decide +kernel) rfl⟩
set_option maxRecDepth 100000 in
theorem v_yX4_guardedBy : (Cond.instanceMethod yX4_guardedBy) ∈ lw_g ∧ (Cond.selects yX4_guardedBy.cls yX4_guardedBy yX4_guardedBy) ∈ lw_g := ⟨zt3 179 rfl rfl, zmem_s 11 (by decide +kernel) rfl⟩
set_option maxRecDepth 100000 in
theorem v_yX4_follower : (Cond.instanceMethod yX4_follower) ∈ lw_g ∧ (Cond.selects yX4_follower.cls yX4_follower yX4_follower) ∈ lw_g := ⟨zt3 170 rfl rfl, zt3 171 rfl rfl⟩
set_option maxRecDepth 100000 in
theorem v_yX4_isWithin : (Cond.instanceMethod yX4_isWithin) ∈ lw_g ∧ (Cond.selects yX4_isWithin.cls yX4_isWithin yX4_isWithin) ∈ lw_g := ⟨zt3 175 rfl rfl, zmem_s 10 (by decide +kernel) rfl⟩
set_option maxRecDepth 100000 in
theorem i_yX5_init : yX5_init.name = "<init>" ∧ (Cond.instanceMethod yX5_init) ∈ lw_g := ⟨rfl, zt1 146 rfl rfl⟩
set_option maxRecDepth 100000 in
theorem v_yX5_add : (Cond.instanceMethod yX5_add) ∈ lw_g ∧ (Cond.selects yX5_add.cls yX5_add yX5_add) ∈ lw_g := ⟨zt4 101 rfl rfl, zt4 102 rfl rfl⟩
set_option maxRecDepth 100000 in
theorem s_yX5_lengthOf : (Cond.static yX5_lengthOf) ∈ lw_g := zt4 145 rfl rfl
set_option maxRecDepth 100000 in
theorem s_yX5_kindOf : (Cond.static yX5_kindOf) ∈ lw_g := zt4 142 rfl rfl
set_option maxRecDepth 100000 in
theorem s_yX5_blankOf : (Cond.static yX5_blankOf) ∈ lw_g := zt4 172 rfl rfl
set_option maxRecDepth 100000 in
theorem s_yX5_placeOf : (Cond.static yX5_placeOf) ∈ lw_g := zt5 153 rfl rfl
set_option maxRecDepth 100000 in
theorem s_yX5_fileOf : (Cond.static yX5_fileOf) ∈ lw_g := zt4 80 rfl rfl
set_option maxRecDepth 100000 in
theorem s_yX5_lineOf : (Cond.static yX5_lineOf) ∈ lw_g := zt4 83 rfl rfl
set_option maxRecDepth 100000 in
theorem s_yX5_origin : (Cond.static yX5_origin) ∈ lw_g := zt4 40 rfl rfl
set_option maxRecDepth 100000 in
theorem s_yX5_shape : (Cond.static yX5_shape) ∈ lw_g := zt4 11 rfl rfl
set_option maxRecDepth 100000 in
theorem s_yX5_from : (Cond.static yX5_from) ∈ lw_g := zt4 229 rfl rfl
set_option maxRecDepth 100000 in
theorem s_yX5_blankAs : (Cond.static yX5_blankAs) ∈ lw_g := zt4 226 rfl rfl
set_option maxRecDepth 100000 in
theorem i_yX6_init : yX6_init.name = "<init>" ∧ (Cond.instanceMethod yX6_init) ∈ lw_g := ⟨rfl, zt1 119 rfl rfl⟩
set_option maxRecDepth 100000 in
theorem v_yX6_start : (Cond.instanceMethod yX6_start) ∈ lw_g ∧ (Cond.selects yX6_start.cls yX6_start yX6_start) ∈ lw_g := ⟨zt3 231 rfl rfl, zt3 232 rfl rfl⟩
set_option maxRecDepth 100000 in
theorem v_yX6_doLine : (Cond.instanceMethod yX6_doLine) ∈ lw_g ∧ (Cond.selects yX6_doLine.cls yX6_doLine yX6_doLine) ∈ lw_g := ⟨zt4 24 rfl rfl, zt4 25 rfl rfl⟩
set_option maxRecDepth 100000 in
theorem v_yX6_hashLook : (Cond.instanceMethod yX6_hashLook) ∈ lw_g ∧ (Cond.selects yX6_hashLook.cls yX6_hashLook yX6_hashLook) ∈ lw_g := ⟨zt4 52 rfl rfl, zmem_s 21 (by decide +kernel) rfl⟩
set_option maxRecDepth 100000 in
theorem v_yX6_finishLine : (Cond.instanceMethod yX6_finishLine) ∈ lw_g ∧ (Cond.selects yX6_finishLine.cls yX6_finishLine yX6_finishLine) ∈ lw_g := ⟨zt4 37 rfl rfl, zmem_s 18 (by decide +kernel) rfl⟩
set_option maxRecDepth 100000 in
theorem v_yX6_leaveFile : (Cond.instanceMethod yX6_leaveFile) ∈ lw_g ∧ (Cond.selects yX6_leaveFile.cls yX6_leaveFile yX6_leaveFile) ∈ lw_g := ⟨zt4 29 rfl rfl, zmem_s 17 (by decide +kernel) rfl⟩
set_option maxRecDepth 100000 in
theorem v_yX6_topHas : (Cond.instanceMethod yX6_topHas) ∈ lw_g ∧ (Cond.selects yX6_topHas.cls yX6_topHas yX6_topHas) ∈ lw_g := ⟨zt4 48 rfl rfl, zmem_s 20 (by decide +kernel) rfl⟩
set_option maxRecDepth 100000 in
theorem v_yX6_isSkipping : (Cond.instanceMethod yX6_isSkipping) ∈ lw_g ∧ (Cond.selects yX6_isSkipping.cls yX6_isSkipping yX6_isSkipping) ∈ lw_g := ⟨zt4 57 rfl rfl, zmem_s 22 (by decide +kernel) rfl⟩
set_option maxRecDepth 100000 in
theorem v_yX6_isAstray : (Cond.instanceMethod yX6_isAstray) ∈ lw_g ∧ (Cond.selects yX6_isAstray.cls yX6_isAstray yX6_isAstray) ∈ lw_g := ⟨zt4 44 rfl rfl, zmem_s 19 (by decide +kernel) rfl⟩
set_option maxRecDepth 100000 in
theorem v_yX6_openGroup : (Cond.instanceMethod yX6_openGroup) ∈ lw_g ∧ (Cond.selects yX6_openGroup.cls yX6_openGroup yX6_openGroup) ∈ lw_g := ⟨zt4 65 rfl rfl, zmem_s 24 (by decide +kernel) rfl⟩
set_option maxRecDepth 100000 in
theorem v_yX6_skipLine : (Cond.instanceMethod yX6_skipLine) ∈ lw_g ∧ (Cond.selects yX6_skipLine.cls yX6_skipLine yX6_skipLine) ∈ lw_g := ⟨zt4 61 rfl rfl, zmem_s 23 (by decide +kernel) rfl⟩
set_option maxRecDepth 100000 in
theorem v_yX6_prepare : (Cond.instanceMethod yX6_prepare) ∈ lw_g ∧ (Cond.selects yX6_prepare.cls yX6_prepare yX6_prepare) ∈ lw_g := ⟨zt4 69 rfl rfl, zmem_s 25 (by decide +kernel) rfl⟩
set_option maxRecDepth 100000 in
theorem v_yX6_cutLine : (Cond.instanceMethod yX6_cutLine) ∈ lw_g ∧ (Cond.selects yX6_cutLine.cls yX6_cutLine yX6_cutLine) ∈ lw_g := ⟨zt4 73 rfl rfl, zmem_s 26 (by decide +kernel) rfl⟩
set_option maxRecDepth 100000 in
theorem v_yX6_isSign : (Cond.instanceMethod yX6_isSign) ∈ lw_g ∧ (Cond.selects yX6_isSign.cls yX6_isSign yX6_isSign) ∈ lw_g := ⟨zt4 109 rfl rfl, zmem_s 27 (by decide +kernel) rfl⟩
set_option maxRecDepth 100000 in
theorem v_yX6_isName : (Cond.instanceMethod yX6_isName) ∈ lw_g ∧ (Cond.selects yX6_isName.cls yX6_isName yX6_isName) ∈ lw_g := ⟨zt4 139 rfl rfl, zmem_s 31 (by decide +kernel) rfl⟩
set_option maxRecDepth 100000 in
theorem v_yX6_says : (Cond.instanceMethod yX6_says) ∈ lw_g ∧ (Cond.selects yX6_says.cls yX6_says yX6_says) ∈ lw_g := ⟨zt4 135 rfl rfl, zmem_s 30 (by decide +kernel) rfl⟩
set_option maxRecDepth 100000 in
theorem v_yX6_loadFrom : (Cond.instanceMethod yX6_loadFrom) ∈ lw_g ∧ (Cond.selects yX6_loadFrom.cls yX6_loadFrom yX6_loadFrom) ∈ lw_g := ⟨zt4 117 rfl rfl, zmem_s 28 (by decide +kernel) rfl⟩
set_option maxRecDepth 100000 in
theorem v_yX6_refuse : (Cond.instanceMethod yX6_refuse) ∈ lw_g ∧ (Cond.selects yX6_refuse.cls yX6_refuse yX6_refuse) ∈ lw_g := ⟨zt4 203 rfl rfl, zmem_s 40 (by decide +kernel) rfl⟩
set_option maxRecDepth 100000 in
theorem v_yX6_direct : (Cond.instanceMethod yX6_direct) ∈ lw_g ∧ (Cond.selects yX6_direct.cls yX6_direct yX6_direct) ∈ lw_g := ⟨zt4 130 rfl rfl, zmem_s 29 (by decide +kernel) rfl⟩
set_option maxRecDepth 100000 in
theorem v_yX6_isNameAlone : (Cond.instanceMethod yX6_isNameAlone) ∈ lw_g ∧ (Cond.selects yX6_isNameAlone.cls yX6_isNameAlone yX6_isNameAlone) ∈ lw_g := ⟨zt4 199 rfl rfl, zmem_s 39 (by decide +kernel) rfl⟩
set_option maxRecDepth 100000 in
theorem v_yX6_undefine : (Cond.instanceMethod yX6_undefine) ∈ lw_g ∧ (Cond.selects yX6_undefine.cls yX6_undefine yX6_undefine) ∈ lw_g := ⟨zt4 195 rfl rfl, zmem_s 38 (by decide +kernel) rfl⟩
set_option maxRecDepth 100000 in
theorem v_yX6_openByName : (Cond.instanceMethod yX6_openByName) ∈ lw_g ∧ (Cond.selects yX6_openByName.cls yX6_openByName yX6_openByName) ∈ lw_g := ⟨zt4 234 rfl rfl, zmem_s 44 (by decide +kernel) rfl⟩
set_option maxRecDepth 100000 in
theorem v_yX6_decide : (Cond.instanceMethod yX6_decide) ∈ lw_g ∧ (Cond.selects yX6_decide.cls yX6_decide yX6_decide) ∈ lw_g := ⟨zt4 238 rfl rfl, zmem_s 45 (by decide +kernel) rfl⟩
set_option maxRecDepth 100000 in
theorem v_yX6_turn : (Cond.instanceMethod yX6_turn) ∈ lw_g ∧ (Cond.selects yX6_turn.cls yX6_turn yX6_turn) ∈ lw_g := ⟨zt5 4 rfl rfl, zmem_s 46 (by decide +kernel) rfl⟩
set_option maxRecDepth 100000 in
theorem v_yX6_close : (Cond.instanceMethod yX6_close) ∈ lw_g ∧ (Cond.selects yX6_close.cls yX6_close yX6_close) ∈ lw_g := ⟨zt5 9 rfl rfl, zmem_s 47 (by decide +kernel) rfl⟩
set_option maxRecDepth 100000 in
theorem v_yX6_include : (Cond.instanceMethod yX6_include) ∈ lw_g ∧ (Cond.selects yX6_include.cls yX6_include yX6_include) ∈ lw_g := ⟨zt4 212 rfl rfl, zmem_s 41 (by decide +kernel) rfl⟩
set_option maxRecDepth 100000 in
theorem v_yX6_enterFile : (Cond.instanceMethod yX6_enterFile) ∈ lw_g ∧ (Cond.selects yX6_enterFile.cls yX6_enterFile yX6_enterFile) ∈ lw_g := ⟨zt4 216 rfl rfl, zmem_s 42 (by decide +kernel) rfl⟩
set_option maxRecDepth 100000 in
theorem v_yX6_loadSum : (Cond.instanceMethod yX6_loadSum) ∈ lw_g ∧ (Cond.selects yX6_loadSum.cls yX6_loadSum yX6_loadSum) ∈ lw_g := ⟨zt4 222 rfl rfl, zmem_s 43 (by decide +kernel) rfl⟩
set_option maxRecDepth 100000 in
theorem v_yX6_handOut : (Cond.instanceMethod yX6_handOut) ∈ lw_g ∧ (Cond.selects yX6_handOut.cls yX6_handOut yX6_handOut) ∈ lw_g := ⟨zt5 83 rfl rfl, zmem_s 56 (by decide +kernel) rfl⟩
set_option maxRecDepth 100000 in
theorem v_yX6_readTape : (Cond.instanceMethod yX6_readTape) ∈ lw_g ∧ (Cond.selects yX6_readTape.cls yX6_readTape yX6_readTape) ∈ lw_g := ⟨zt5 165 rfl rfl, zmem_s 66 (by decide +kernel) rfl⟩
set_option maxRecDepth 100000 in
theorem v_yX6_spread : (Cond.instanceMethod yX6_spread) ∈ lw_g ∧ (Cond.selects yX6_spread.cls yX6_spread yX6_spread) ∈ lw_g := ⟨zt5 160 rfl rfl, zt5 161 rfl rfl⟩
set_option maxRecDepth 100000 in
theorem v_yX6_worth : (Cond.instanceMethod yX6_worth) ∈ lw_g ∧ (Cond.selects yX6_worth.cls yX6_worth yX6_worth) ∈ lw_g := ⟨zt6 99 rfl rfl, zt6 100 rfl rfl⟩
set_option maxRecDepth 100000 in
theorem i_yX7_init : yX7_init.name = "<init>" ∧ (Cond.instanceMethod yX7_init) ∈ lw_g := ⟨rfl, zt1 36 rfl rfl⟩
set_option maxRecDepth 100000 in
theorem v_yX7_hasFile : (Cond.instanceMethod yX7_hasFile) ∈ lw_g ∧ (Cond.selects yX7_hasFile.cls yX7_hasFile yX7_hasFile) ∈ lw_g := ⟨zt3 227 rfl rfl, zt3 228 rfl rfl⟩
set_option maxRecDepth 100000 in
theorem v_yX7_hasLine : (Cond.instanceMethod yX7_hasLine) ∈ lw_g ∧ (Cond.selects yX7_hasLine.cls yX7_hasLine yX7_hasLine) ∈ lw_g := ⟨zt5 186 rfl rfl, zt5 187 rfl rfl⟩
set_option maxRecDepth 100000 in
theorem v_yX7_hasSetting : (Cond.instanceMethod yX7_hasSetting) ∈ lw_g ∧ (Cond.selects yX7_hasSetting.cls yX7_hasSetting yX7_hasSetting) ∈ lw_g := ⟨zt3 219 rfl rfl, zt3 220 rfl rfl⟩
set_option maxRecDepth 100000 in
theorem v_yX7_filesTold : (Cond.instanceMethod yX7_filesTold) ∈ lw_g ∧ (Cond.selects yX7_filesTold.cls yX7_filesTold yX7_filesTold) ∈ lw_g := ⟨zt6 83 rfl rfl, zt6 84 rfl rfl⟩
set_option maxRecDepth 100000 in
theorem v_yX7_readSwitches : (Cond.instanceMethod yX7_readSwitches) ∈ lw_g ∧ (Cond.selects yX7_readSwitches.cls yX7_readSwitches yX7_readSwitches) ∈ lw_g := ⟨zt3 193 rfl rfl, zt3 194 rfl rfl⟩
set_option maxRecDepth 100000 in
theorem v_yX7_findNames : (Cond.instanceMethod yX7_findNames) ∈ lw_g ∧ (Cond.selects yX7_findNames.cls yX7_findNames yX7_findNames) ∈ lw_g := ⟨zt3 198 rfl rfl, zmem_s 13 (by decide +kernel) rfl⟩
set_option maxRecDepth 100000 in
theorem v_yX7_isNewName : (Cond.instanceMethod yX7_isNewName) ∈ lw_g ∧ (Cond.selects yX7_isNewName.cls yX7_isNewName yX7_isNewName) ∈ lw_g := ⟨zt3 203 rfl rfl, zmem_s 14 (by decide +kernel) rfl⟩
set_option maxRecDepth 100000 in
theorem v_yX7_copy : (Cond.instanceMethod yX7_copy) ∈ lw_g ∧ (Cond.selects yX7_copy.cls yX7_copy yX7_copy) ∈ lw_g := ⟨zt6 67 rfl rfl, zt6 68 rfl rfl⟩
set_option maxRecDepth 100000 in
theorem i_yX8_init : yX8_init.name = "<init>" ∧ (Cond.instanceMethod yX8_init) ∈ lw_g := ⟨rfl, zt5 201 rfl rfl⟩
set_option maxRecDepth 100000 in
theorem v_yX8_look : (Cond.instanceMethod yX8_look) ∈ lw_g ∧ (Cond.selects yX8_look.cls yX8_look yX8_look) ∈ lw_g := ⟨zt5 230 rfl rfl, zt5 231 rfl rfl⟩
set_option maxRecDepth 100000 in
theorem v_yX8_keep : (Cond.instanceMethod yX8_keep) ∈ lw_g ∧ (Cond.selects yX8_keep.cls yX8_keep yX8_keep) ∈ lw_g := ⟨zt5 239 rfl rfl, zmem_s 68 (by decide +kernel) rfl⟩
set_option maxRecDepth 100000 in
theorem v_yX8_leastLike : (Cond.instanceMethod yX8_leastLike) ∈ lw_g ∧ (Cond.selects yX8_leastLike.cls yX8_leastLike yX8_leastLike) ∈ lw_g := ⟨zt6 8 rfl rfl, zmem_s 69 (by decide +kernel) rfl⟩
set_option maxRecDepth 100000 in
theorem v_yX8_unlike : (Cond.instanceMethod yX8_unlike) ∈ lw_g ∧ (Cond.selects yX8_unlike.cls yX8_unlike yX8_unlike) ∈ lw_g := ⟨zt6 16 rfl rfl, zt6 17 rfl rfl⟩
set_option maxRecDepth 100000 in
theorem v_yX8_changing : (Cond.instanceMethod yX8_changing) ∈ lw_g ∧ (Cond.selects yX8_changing.cls yX8_changing yX8_changing) ∈ lw_g := ⟨zt6 28 rfl rfl, zt6 29 rfl rfl⟩
set_option maxRecDepth 100000 in
theorem i_yX9_init : yX9_init.name = "<init>" ∧ (Cond.instanceMethod yX9_init) ∈ lw_g := ⟨rfl, zt2 161 rfl rfl⟩
set_option maxRecDepth 100000 in
theorem v_yX9_whole : (Cond.instanceMethod yX9_whole) ∈ lw_g ∧ (Cond.selects yX9_whole.cls yX9_whole yX9_whole) ∈ lw_g := ⟨zt5 86 rfl rfl, zt5 87 rfl rfl⟩
set_option maxRecDepth 100000 in
theorem v_yX9_readToken : (Cond.instanceMethod yX9_readToken) ∈ lw_g ∧ (Cond.selects yX9_readToken.cls yX9_readToken yX9_readToken) ∈ lw_g := ⟨zt5 91 rfl rfl, zmem_s 57 (by decide +kernel) rfl⟩
set_option maxRecDepth 100000 in
theorem v_yX9_readHex : (Cond.instanceMethod yX9_readHex) ∈ lw_g ∧ (Cond.selects yX9_readHex.cls yX9_readHex yX9_readHex) ∈ lw_g := ⟨zt5 99 rfl rfl, zmem_s 58 (by decide +kernel) rfl⟩
set_option maxRecDepth 100000 in
theorem v_yX9_readDecimal : (Cond.instanceMethod yX9_readDecimal) ∈ lw_g ∧ (Cond.selects yX9_readDecimal.cls yX9_readDecimal yX9_readDecimal) ∈ lw_g := ⟨zt5 103 rfl rfl, zmem_s 59 (by decide +kernel) rfl⟩
set_option maxRecDepth 100000 in
theorem v_yX9_refuse : (Cond.instanceMethod yX9_refuse) ∈ lw_g ∧ (Cond.selects yX9_refuse.cls yX9_refuse yX9_refuse) ∈ lw_g := ⟨zt5 125 rfl rfl, zmem_s 64 (by decide +kernel) rfl⟩
set_option maxRecDepth 100000 in
theorem v_yX9_sign : (Cond.instanceMethod yX9_sign) ∈ lw_g ∧ (Cond.selects yX9_sign.cls yX9_sign yX9_sign) ∈ lw_g := ⟨zt5 121 rfl rfl, zmem_s 63 (by decide +kernel) rfl⟩
set_option maxRecDepth 100000 in
theorem v_yX9_choice : (Cond.instanceMethod yX9_choice) ∈ lw_g ∧ (Cond.selects yX9_choice.cls yX9_choice yX9_choice) ∈ lw_g := ⟨zt5 109 rfl rfl, zmem_s 60 (by decide +kernel) rfl⟩
set_option maxRecDepth 100000 in
theorem v_yX9_part : (Cond.instanceMethod yX9_part) ∈ lw_g ∧ (Cond.selects yX9_part.cls yX9_part yX9_part) ∈ lw_g := ⟨zt5 143 rfl rfl, zmem_s 65 (by decide +kernel) rfl⟩
set_option maxRecDepth 100000 in
theorem v_yX9_binary : (Cond.instanceMethod yX9_binary) ∈ lw_g ∧ (Cond.selects yX9_binary.cls yX9_binary yX9_binary) ∈ lw_g := ⟨zt5 113 rfl rfl, zmem_s 61 (by decide +kernel) rfl⟩
set_option maxRecDepth 100000 in
theorem s_yX9_strengthOf : (Cond.static yX9_strengthOf) ∈ lw_g := zt5 129 rfl rfl
set_option maxRecDepth 100000 in
theorem s_yX9_ofBits : (Cond.static yX9_ofBits) ∈ lw_g := zt5 132 rfl rfl
set_option maxRecDepth 100000 in
theorem s_yX9_compared : (Cond.static yX9_compared) ∈ lw_g := zt5 135 rfl rfl
set_option maxRecDepth 100000 in
theorem s_yX9_counted : (Cond.static yX9_counted) ∈ lw_g := zt5 138 rfl rfl
set_option maxRecDepth 100000 in
theorem v_yX9_single : (Cond.instanceMethod yX9_single) ∈ lw_g ∧ (Cond.selects yX9_single.cls yX9_single yX9_single) ∈ lw_g := ⟨zt5 117 rfl rfl, zmem_s 62 (by decide +kernel) rfl⟩
set_option maxRecDepth 100000 in
theorem i_yX10_init : yX10_init.name = "<init>" ∧ (Cond.instanceMethod yX10_init) ∈ lw_g := ⟨rfl, zt1 187 rfl rfl⟩
set_option maxRecDepth 100000 in
theorem v_yX10_byteAt : (Cond.instanceMethod yX10_byteAt) ∈ lw_g ∧ (Cond.selects yX10_byteAt.cls yX10_byteAt yX10_byteAt) ∈ lw_g := ⟨zt4 76 rfl rfl, zt4 77 rfl rfl⟩
set_option maxRecDepth 100000 in
theorem s_yX10_isDigit : (Cond.static yX10_isDigit) ∈ lw_g := zt3 182 rfl rfl
set_option maxRecDepth 100000 in
theorem s_yX10_isWord : (Cond.static yX10_isWord) ∈ lw_g := zt3 106 rfl rfl
set_option maxRecDepth 100000 in
theorem s_yX10_says : (Cond.static yX10_says) ∈ lw_g := zt3 110 rfl rfl
set_option maxRecDepth 100000 in
theorem s_yX10_isAlike : (Cond.static yX10_isAlike) ∈ lw_g := zt3 209 rfl rfl
set_option maxRecDepth 100000 in
theorem v_yX10_endOf : (Cond.instanceMethod yX10_endOf) ∈ lw_g ∧ (Cond.selects yX10_endOf.cls yX10_endOf yX10_endOf) ∈ lw_g := ⟨zt4 86 rfl rfl, zt4 87 rfl rfl⟩
set_option maxRecDepth 100000 in
theorem s_yX10_isPair : (Cond.static yX10_isPair) ∈ lw_g := zt4 91 rfl rfl
set_option maxRecDepth 100000 in
theorem v_yX10_kindAt : (Cond.instanceMethod yX10_kindAt) ∈ lw_g ∧ (Cond.selects yX10_kindAt.cls yX10_kindAt yX10_kindAt) ∈ lw_g := ⟨zt4 94 rfl rfl, zt4 95 rfl rfl⟩
set_option maxRecDepth 100000 in
theorem v_yX10_signOf : (Cond.instanceMethod yX10_signOf) ∈ lw_g ∧ (Cond.selects yX10_signOf.cls yX10_signOf yX10_signOf) ∈ lw_g := ⟨zt4 112 rfl rfl, zt4 113 rfl rfl⟩
set_option maxRecDepth 100000 in
theorem i_yX11_init : yX11_init.name = "<init>" ∧ (Cond.instanceMethod yX11_init) ∈ lw_g := ⟨rfl, zt1 28 rfl rfl⟩
set_option maxRecDepth 100000 in
theorem v_yX11_feed : (Cond.instanceMethod yX11_feed) ∈ lw_g ∧ (Cond.selects yX11_feed.cls yX11_feed yX11_feed) ∈ lw_g := ⟨zt3 50 rfl rfl, zt3 51 rfl rfl⟩
set_option maxRecDepth 100000 in
theorem v_yX11_putNumber : (Cond.instanceMethod yX11_putNumber) ∈ lw_g ∧ (Cond.selects yX11_putNumber.cls yX11_putNumber yX11_putNumber) ∈ lw_g := ⟨zt3 55 rfl rfl, zmem_s 0 (by decide +kernel) rfl⟩
set_option maxRecDepth 100000 in
theorem v_yX11_end : (Cond.instanceMethod yX11_end) ∈ lw_g ∧ (Cond.selects yX11_end.cls yX11_end yX11_end) ∈ lw_g := ⟨zt3 58 rfl rfl, zt3 59 rfl rfl⟩
set_option maxRecDepth 100000 in
theorem v_yX11_file : (Cond.instanceMethod yX11_file) ∈ lw_g ∧ (Cond.selects yX11_file.cls yX11_file yX11_file) ∈ lw_g := ⟨zt3 62 rfl rfl, zt3 63 rfl rfl⟩
set_option maxRecDepth 100000 in
theorem v_yX11_takeTape : (Cond.instanceMethod yX11_takeTape) ∈ lw_g ∧ (Cond.selects yX11_takeTape.cls yX11_takeTape yX11_takeTape) ∈ lw_g := ⟨zt3 67 rfl rfl, zmem_s 1 (by decide +kernel) rfl⟩
set_option maxRecDepth 100000 in
theorem v_yX11_forgetStudy : (Cond.instanceMethod yX11_forgetStudy) ∈ lw_g ∧ (Cond.selects yX11_forgetStudy.cls yX11_forgetStudy yX11_forgetStudy) ∈ lw_g := ⟨zt3 186 rfl rfl, zmem_s 12 (by decide +kernel) rfl⟩
set_option maxRecDepth 100000 in
theorem v_yX11_theStudy : (Cond.instanceMethod yX11_theStudy) ∈ lw_g ∧ (Cond.selects yX11_theStudy.cls yX11_theStudy yX11_theStudy) ∈ lw_g := ⟨zt5 196 rfl rfl, zmem_s 67 (by decide +kernel) rfl⟩
set_option maxRecDepth 100000 in
theorem v_yX11_wrongByte : (Cond.instanceMethod yX11_wrongByte) ∈ lw_g ∧ (Cond.selects yX11_wrongByte.cls yX11_wrongByte yX11_wrongByte) ∈ lw_g := ⟨zt3 71 rfl rfl, zmem_s 2 (by decide +kernel) rfl⟩
set_option maxRecDepth 100000 in
theorem v_yX11_linesOnTape : (Cond.instanceMethod yX11_linesOnTape) ∈ lw_g ∧ (Cond.selects yX11_linesOnTape.cls yX11_linesOnTape yX11_linesOnTape) ∈ lw_g := ⟨zt3 75 rfl rfl, zmem_s 3 (by decide +kernel) rfl⟩
set_option maxRecDepth 100000 in
theorem v_yX11_switches : (Cond.instanceMethod yX11_switches) ∈ lw_g ∧ (Cond.selects yX11_switches.cls yX11_switches yX11_switches) ∈ lw_g := ⟨zt3 189 rfl rfl, zt3 190 rfl rfl⟩
set_option maxRecDepth 100000 in
theorem v_yX11_set : (Cond.instanceMethod yX11_set) ∈ lw_g ∧ (Cond.selects yX11_set.cls yX11_set yX11_set) ∈ lw_g := ⟨zt3 215 rfl rfl, zt3 216 rfl rfl⟩
set_option maxRecDepth 100000 in
theorem v_yX11_run : (Cond.instanceMethod yX11_run) ∈ lw_g ∧ (Cond.selects yX11_run.cls yX11_run yX11_run) ∈ lw_g := ⟨zt3 223 rfl rfl, zt3 224 rfl rfl⟩
set_option maxRecDepth 100000 in
theorem v_yX11_fault : (Cond.instanceMethod yX11_fault) ∈ lw_g ∧ (Cond.selects yX11_fault.cls yX11_fault yX11_fault) ∈ lw_g := ⟨zt5 147 rfl rfl, zt5 148 rfl rfl⟩
set_option maxRecDepth 100000 in
theorem v_yX11_expand : (Cond.instanceMethod yX11_expand) ∈ lw_g ∧ (Cond.selects yX11_expand.cls yX11_expand yX11_expand) ∈ lw_g := ⟨zt5 156 rfl rfl, zt5 157 rfl rfl⟩
set_option maxRecDepth 100000 in
theorem v_yX11_value : (Cond.instanceMethod yX11_value) ∈ lw_g ∧ (Cond.selects yX11_value.cls yX11_value yX11_value) ∈ lw_g := ⟨zt6 95 rfl rfl, zt6 96 rfl rfl⟩
set_option maxRecDepth 100000 in
theorem v_yX11_token : (Cond.instanceMethod yX11_token) ∈ lw_g ∧ (Cond.selects yX11_token.cls yX11_token yX11_token) ∈ lw_g := ⟨zt6 167 rfl rfl, zt6 168 rfl rfl⟩
set_option maxRecDepth 100000 in
theorem v_yX11_tokenAt : (Cond.instanceMethod yX11_tokenAt) ∈ lw_g ∧ (Cond.selects yX11_tokenAt.cls yX11_tokenAt yX11_tokenAt) ∈ lw_g := ⟨zt5 168 rfl rfl, zt5 169 rfl rfl⟩
set_option maxRecDepth 100000 in
theorem v_yX11_macro : (Cond.instanceMethod yX11_macro) ∈ lw_g ∧ (Cond.selects yX11_macro.cls yX11_macro yX11_macro) ∈ lw_g := ⟨zt6 176 rfl rfl, zt6 177 rfl rfl⟩
set_option maxRecDepth 100000 in
theorem v_yX11_macroAt : (Cond.instanceMethod yX11_macroAt) ∈ lw_g ∧ (Cond.selects yX11_macroAt.cls yX11_macroAt yX11_macroAt) ∈ lw_g := ⟨zt5 174 rfl rfl, zt5 175 rfl rfl⟩
set_option maxRecDepth 100000 in
theorem v_yX11_now : (Cond.instanceMethod yX11_now) ∈ lw_g ∧ (Cond.selects yX11_now.cls yX11_now yX11_now) ∈ lw_g := ⟨zt5 178 rfl rfl, zt5 179 rfl rfl⟩
set_option maxRecDepth 100000 in
theorem v_yX11_passed : (Cond.instanceMethod yX11_passed) ∈ lw_g ∧ (Cond.selects yX11_passed.cls yX11_passed yX11_passed) ∈ lw_g := ⟨zt5 182 rfl rfl, zt5 183 rfl rfl⟩
set_option maxRecDepth 100000 in
theorem v_yX11_presence : (Cond.instanceMethod yX11_presence) ∈ lw_g ∧ (Cond.selects yX11_presence.cls yX11_presence yX11_presence) ∈ lw_g := ⟨zt5 191 rfl rfl, zt5 192 rfl rfl⟩
set_option maxRecDepth 100000 in
theorem v_yX11_outcomes : (Cond.instanceMethod yX11_outcomes) ∈ lw_g ∧ (Cond.selects yX11_outcomes.cls yX11_outcomes yX11_outcomes) ∈ lw_g := ⟨zt6 12 rfl rfl, zt6 13 rfl rfl⟩
set_option maxRecDepth 100000 in
theorem v_yX11_like : (Cond.instanceMethod yX11_like) ∈ lw_g ∧ (Cond.selects yX11_like.cls yX11_like yX11_like) ∈ lw_g := ⟨zt6 20 rfl rfl, zt6 21 rfl rfl⟩
set_option maxRecDepth 100000 in
theorem v_yX11_depends : (Cond.instanceMethod yX11_depends) ∈ lw_g ∧ (Cond.selects yX11_depends.cls yX11_depends yX11_depends) ∈ lw_g := ⟨zt6 24 rfl rfl, zt6 25 rfl rfl⟩
set_option maxRecDepth 100000 in
theorem v_yX11_guard : (Cond.instanceMethod yX11_guard) ∈ lw_g ∧ (Cond.selects yX11_guard.cls yX11_guard yX11_guard) ∈ lw_g := ⟨zt6 32 rfl rfl, zt6 33 rfl rfl⟩
set_option maxRecDepth 100000 in
theorem v_yX11_guardAt : (Cond.instanceMethod yX11_guardAt) ∈ lw_g ∧ (Cond.selects yX11_guardAt.cls yX11_guardAt yX11_guardAt) ∈ lw_g := ⟨zt6 37 rfl rfl, zt6 38 rfl rfl⟩
set_option maxRecDepth 100000 in
theorem v_yX11_nextOf : (Cond.instanceMethod yX11_nextOf) ∈ lw_g ∧ (Cond.selects yX11_nextOf.cls yX11_nextOf yX11_nextOf) ∈ lw_g := ⟨zt6 41 rfl rfl, zt6 42 rfl rfl⟩
set_option maxRecDepth 100000 in
theorem v_yX11_edit : (Cond.instanceMethod yX11_edit) ∈ lw_g ∧ (Cond.selects yX11_edit.cls yX11_edit yX11_edit) ∈ lw_g := ⟨zt6 46 rfl rfl, zt6 47 rfl rfl⟩
set_option maxRecDepth 100000 in
theorem v_yX11_drop : (Cond.instanceMethod yX11_drop) ∈ lw_g ∧ (Cond.selects yX11_drop.cls yX11_drop yX11_drop) ∈ lw_g := ⟨zt6 55 rfl rfl, zt6 56 rfl rfl⟩
set_option maxRecDepth 100000 in
theorem v_yX11_image : (Cond.instanceMethod yX11_image) ∈ lw_g ∧ (Cond.selects yX11_image.cls yX11_image yX11_image) ∈ lw_g := ⟨zt6 63 rfl rfl, zt6 64 rfl rfl⟩
set_option maxRecDepth 100000 in
theorem v_yX11_restore : (Cond.instanceMethod yX11_restore) ∈ lw_g ∧ (Cond.selects yX11_restore.cls yX11_restore yX11_restore) ∈ lw_g := ⟨zt6 75 rfl rfl, zt6 76 rfl rfl⟩
set_option maxRecDepth 100000 in
theorem v_yX11_count : (Cond.instanceMethod yX11_count) ∈ lw_g ∧ (Cond.selects yX11_count.cls yX11_count yX11_count) ∈ lw_g := ⟨zt6 79 rfl rfl, zt6 80 rfl rfl⟩
set_option maxRecDepth 100000 in
theorem v_yX11_lines : (Cond.instanceMethod yX11_lines) ∈ lw_g ∧ (Cond.selects yX11_lines.cls yX11_lines yX11_lines) ∈ lw_g := ⟨zt6 87 rfl rfl, zt6 88 rfl rfl⟩
set_option maxRecDepth 100000 in
theorem v_yX12_throwsIf : (Cond.instanceMethod yX12_throwsIf) ∈ lw_g ∧ (Cond.selects yX12_throwsIf.cls yX12_throwsIf yX12_throwsIf) ∈ lw_g := ⟨zt10 72 rfl rfl, zmem_s 164 (by decide +kernel) rfl⟩
set_option maxRecDepth 100000 in
theorem i_yX12_init : yX12_init.name = "<init>" ∧ (Cond.instanceMethod yX12_init) ∈ lw_g := ⟨rfl, zt6 182 rfl rfl⟩
set_option maxRecDepth 100000 in
theorem v_yX12_feed : (Cond.instanceMethod yX12_feed) ∈ lw_g ∧ (Cond.selects yX12_feed.cls yX12_feed yX12_feed) ∈ lw_g := ⟨zt8 68 rfl rfl, zt8 69 rfl rfl⟩
set_option maxRecDepth 100000 in
theorem v_yX12_four : (Cond.instanceMethod yX12_four) ∈ lw_g ∧ (Cond.selects yX12_four.cls yX12_four yX12_four) ∈ lw_g := ⟨zt8 73 rfl rfl, zmem_s 71 (by decide +kernel) rfl⟩
set_option maxRecDepth 100000 in
theorem v_yX12_end : (Cond.instanceMethod yX12_end) ∈ lw_g ∧ (Cond.selects yX12_end.cls yX12_end yX12_end) ∈ lw_g := ⟨zt8 76 rfl rfl, zt8 77 rfl rfl⟩
set_option maxRecDepth 100000 in
theorem v_yX12_taken : (Cond.instanceMethod yX12_taken) ∈ lw_g ∧ (Cond.selects yX12_taken.cls yX12_taken yX12_taken) ∈ lw_g := ⟨zt8 85 rfl rfl, zmem_s 72 (by decide +kernel) rfl⟩
set_option maxRecDepth 100000 in
theorem s_yX12_isIn : (Cond.static yX12_isIn) ∈ lw_g := zt8 88 rfl rfl
set_option maxRecDepth 100000 in
theorem s_yX12_bitOf : (Cond.static yX12_bitOf) ∈ lw_g := zt9 13 rfl rfl
set_option maxRecDepth 100000 in
theorem s_yX12_isDigit : (Cond.static yX12_isDigit) ∈ lw_g := zt8 102 rfl rfl
set_option maxRecDepth 100000 in
theorem s_yX12_isStart : (Cond.static yX12_isStart) ∈ lw_g := zt8 99 rfl rfl
set_option maxRecDepth 100000 in
theorem v_yX12_isFile : (Cond.instanceMethod yX12_isFile) ∈ lw_g ∧ (Cond.selects yX12_isFile.cls yX12_isFile yX12_isFile) ∈ lw_g := ⟨zt8 124 rfl rfl, zmem_s 76 (by decide +kernel) rfl⟩
set_option maxRecDepth 100000 in
theorem v_yX12_linesOf : (Cond.instanceMethod yX12_linesOf) ∈ lw_g ∧ (Cond.selects yX12_linesOf.cls yX12_linesOf yX12_linesOf) ∈ lw_g := ⟨zt8 128 rfl rfl, zmem_s 77 (by decide +kernel) rfl⟩
set_option maxRecDepth 100000 in
theorem v_yX12_isLine : (Cond.instanceMethod yX12_isLine) ∈ lw_g ∧ (Cond.selects yX12_isLine.cls yX12_isLine yX12_isLine) ∈ lw_g := ⟨zt8 144 rfl rfl, zmem_s 80 (by decide +kernel) rfl⟩
set_option maxRecDepth 100000 in
theorem v_yX12_lengthOf : (Cond.instanceMethod yX12_lengthOf) ∈ lw_g ∧ (Cond.selects yX12_lengthOf.cls yX12_lengthOf yX12_lengthOf) ∈ lw_g := ⟨zt8 132 rfl rfl, zmem_s 78 (by decide +kernel) rfl⟩
set_option maxRecDepth 100000 in
theorem v_yX12_beginOf : (Cond.instanceMethod yX12_beginOf) ∈ lw_g ∧ (Cond.selects yX12_beginOf.cls yX12_beginOf yX12_beginOf) ∈ lw_g := ⟨zt8 136 rfl rfl, zmem_s 79 (by decide +kernel) rfl⟩
set_option maxRecDepth 100000 in
theorem v_yX12_badByte : (Cond.instanceMethod yX12_badByte) ∈ lw_g ∧ (Cond.selects yX12_badByte.cls yX12_badByte yX12_badByte) ∈ lw_g := ⟨zt8 92 rfl rfl, zmem_s 73 (by decide +kernel) rfl⟩
set_option maxRecDepth 100000 in
theorem v_yX12_file : (Cond.instanceMethod yX12_file) ∈ lw_g ∧ (Cond.selects yX12_file.cls yX12_file yX12_file) ∈ lw_g := ⟨zt8 80 rfl rfl, zt8 81 rfl rfl⟩
set_option maxRecDepth 100000 in
theorem v_yX12_switches : (Cond.instanceMethod yX12_switches) ∈ lw_g ∧ (Cond.selects yX12_switches.cls yX12_switches yX12_switches) ∈ lw_g := ⟨zt8 95 rfl rfl, zt8 96 rfl rfl⟩
set_option maxRecDepth 100000 in
theorem v_yX12_areTape : (Cond.instanceMethod yX12_areTape) ∈ lw_g ∧ (Cond.selects yX12_areTape.cls yX12_areTape yX12_areTape) ∈ lw_g := ⟨zt8 106 rfl rfl, zmem_s 74 (by decide +kernel) rfl⟩
set_option maxRecDepth 100000 in
theorem v_yX12_isTapeDefined : (Cond.instanceMethod yX12_isTapeDefined) ∈ lw_g ∧ (Cond.selects yX12_isTapeDefined.cls yX12_isTapeDefined yX12_isTapeDefined) ∈ lw_g := ⟨zt8 110 rfl rfl, zmem_s 75 (by decide +kernel) rfl⟩
set_option maxRecDepth 100000 in
theorem v_yX12_set : (Cond.instanceMethod yX12_set) ∈ lw_g ∧ (Cond.selects yX12_set.cls yX12_set yX12_set) ∈ lw_g := ⟨zt8 115 rfl rfl, zt8 116 rfl rfl⟩
set_option maxRecDepth 100000 in
theorem v_yX12_edit : (Cond.instanceMethod yX12_edit) ∈ lw_g ∧ (Cond.selects yX12_edit.cls yX12_edit yX12_edit) ∈ lw_g := ⟨zt8 119 rfl rfl, zt8 120 rfl rfl⟩
set_option maxRecDepth 100000 in
theorem v_yX12_drop : (Cond.instanceMethod yX12_drop) ∈ lw_g ∧ (Cond.selects yX12_drop.cls yX12_drop yX12_drop) ∈ lw_g := ⟨zt8 139 rfl rfl, zt8 140 rfl rfl⟩
set_option maxRecDepth 100000 in
theorem v_yX12_image : (Cond.instanceMethod yX12_image) ∈ lw_g ∧ (Cond.selects yX12_image.cls yX12_image yX12_image) ∈ lw_g := ⟨zt8 147 rfl rfl, zt8 148 rfl rfl⟩
set_option maxRecDepth 100000 in
theorem v_yX12_restore : (Cond.instanceMethod yX12_restore) ∈ lw_g ∧ (Cond.selects yX12_restore.cls yX12_restore yX12_restore) ∈ lw_g := ⟨zt8 151 rfl rfl, zt8 152 rfl rfl⟩
set_option maxRecDepth 100000 in
theorem v_yX12_count : (Cond.instanceMethod yX12_count) ∈ lw_g ∧ (Cond.selects yX12_count.cls yX12_count yX12_count) ∈ lw_g := ⟨zt8 155 rfl rfl, zt8 156 rfl rfl⟩
set_option maxRecDepth 100000 in
theorem v_yX12_lines : (Cond.instanceMethod yX12_lines) ∈ lw_g ∧ (Cond.selects yX12_lines.cls yX12_lines yX12_lines) ∈ lw_g := ⟨zt8 159 rfl rfl, zt8 160 rfl rfl⟩
set_option maxRecDepth 100000 in
theorem v_yX12_wordIn : (Cond.instanceMethod yX12_wordIn) ∈ lw_g ∧ (Cond.selects yX12_wordIn.cls yX12_wordIn yX12_wordIn) ∈ lw_g := ⟨zt8 176 rfl rfl, zmem_s 83 (by decide +kernel) rfl⟩
set_option maxRecDepth 100000 in
theorem v_yX12_hashOf : (Cond.instanceMethod yX12_hashOf) ∈ lw_g ∧ (Cond.selects yX12_hashOf.cls yX12_hashOf yX12_hashOf) ∈ lw_g := ⟨zt8 172 rfl rfl, zmem_s 82 (by decide +kernel) rfl⟩
set_option maxRecDepth 100000 in
theorem v_yX12_roleOf : (Cond.instanceMethod yX12_roleOf) ∈ lw_g ∧ (Cond.selects yX12_roleOf.cls yX12_roleOf yX12_roleOf) ∈ lw_g := ⟨zt8 168 rfl rfl, zmem_s 81 (by decide +kernel) rfl⟩
set_option maxRecDepth 100000 in
theorem v_yX12_behindOf : (Cond.instanceMethod yX12_behindOf) ∈ lw_g ∧ (Cond.selects yX12_behindOf.cls yX12_behindOf yX12_behindOf) ∈ lw_g := ⟨zt8 186 rfl rfl, zmem_s 85 (by decide +kernel) rfl⟩
set_option maxRecDepth 100000 in
theorem v_yX12_openAt : (Cond.instanceMethod yX12_openAt) ∈ lw_g ∧ (Cond.selects yX12_openAt.cls yX12_openAt yX12_openAt) ∈ lw_g := ⟨zt8 182 rfl rfl, zmem_s 84 (by decide +kernel) rfl⟩
set_option maxRecDepth 100000 in
theorem v_yX12_nextOf : (Cond.instanceMethod yX12_nextOf) ∈ lw_g ∧ (Cond.selects yX12_nextOf.cls yX12_nextOf yX12_nextOf) ∈ lw_g := ⟨zt8 163 rfl rfl, zt8 164 rfl rfl⟩
set_option maxRecDepth 100000 in
theorem v_yX12_isBlankLine : (Cond.instanceMethod yX12_isBlankLine) ∈ lw_g ∧ (Cond.selects yX12_isBlankLine.cls yX12_isBlankLine yX12_isBlankLine) ∈ lw_g := ⟨zt8 198 rfl rfl, zmem_s 87 (by decide +kernel) rfl⟩
set_option maxRecDepth 100000 in
theorem v_yX12_guardOf : (Cond.instanceMethod yX12_guardOf) ∈ lw_g ∧ (Cond.selects yX12_guardOf.cls yX12_guardOf yX12_guardOf) ∈ lw_g := ⟨zt8 194 rfl rfl, zmem_s 86 (by decide +kernel) rfl⟩
set_option maxRecDepth 100000 in
theorem v_yX12_guard : (Cond.instanceMethod yX12_guard) ∈ lw_g ∧ (Cond.selects yX12_guard.cls yX12_guard yX12_guard) ∈ lw_g := ⟨zt8 189 rfl rfl, zt8 190 rfl rfl⟩
set_option maxRecDepth 100000 in
theorem v_yX12_guardAt : (Cond.instanceMethod yX12_guardAt) ∈ lw_g ∧ (Cond.selects yX12_guardAt.cls yX12_guardAt yX12_guardAt) ∈ lw_g := ⟨zt8 233 rfl rfl, zt8 234 rfl rfl⟩
set_option maxRecDepth 100000 in
theorem v_yX12_byteIn : (Cond.instanceMethod yX12_byteIn) ∈ lw_g ∧ (Cond.selects yX12_byteIn.cls yX12_byteIn yX12_byteIn) ∈ lw_g := ⟨zt8 226 rfl rfl, zmem_s 94 (by decide +kernel) rfl⟩
set_option maxRecDepth 100000 in
theorem v_yX12_copies : (Cond.instanceMethod yX12_copies) ∈ lw_g ∧ (Cond.selects yX12_copies.cls yX12_copies yX12_copies) ∈ lw_g := ⟨zt9 59 rfl rfl, zmem_s 108 (by decide +kernel) rfl⟩
set_option maxRecDepth 100000 in
theorem v_yX12_asOf : (Cond.instanceMethod yX12_asOf) ∈ lw_g ∧ (Cond.selects yX12_asOf.cls yX12_asOf yX12_asOf) ∈ lw_g := ⟨zt9 131 rfl rfl, zmem_s 126 (by decide +kernel) rfl⟩
set_option maxRecDepth 100000 in
theorem v_yX12_bad : (Cond.instanceMethod yX12_bad) ∈ lw_g ∧ (Cond.selects yX12_bad.cls yX12_bad yX12_bad) ∈ lw_g := ⟨zt8 214 rfl rfl, zmem_s 91 (by decide +kernel) rfl⟩
set_option maxRecDepth 100000 in
theorem v_yX12_badAt : (Cond.instanceMethod yX12_badAt) ∈ lw_g ∧ (Cond.selects yX12_badAt.cls yX12_badAt yX12_badAt) ∈ lw_g := ⟨zt9 55 rfl rfl, zmem_s 107 (by decide +kernel) rfl⟩
set_option maxRecDepth 100000 in
theorem v_yX12_badToken : (Cond.instanceMethod yX12_badToken) ∈ lw_g ∧ (Cond.selects yX12_badToken.cls yX12_badToken yX12_badToken) ∈ lw_g := ⟨zt9 51 rfl rfl, zmem_s 106 (by decide +kernel) rfl⟩
set_option maxRecDepth 100000 in
theorem v_yX12_lexAt : (Cond.instanceMethod yX12_lexAt) ∈ lw_g ∧ (Cond.selects yX12_lexAt.cls yX12_lexAt yX12_lexAt) ∈ lw_g := ⟨zt8 210 rfl rfl, zmem_s 90 (by decide +kernel) rfl⟩
set_option maxRecDepth 100000 in
theorem v_yX12_lexesPool : (Cond.instanceMethod yX12_lexesPool) ∈ lw_g ∧ (Cond.selects yX12_lexesPool.cls yX12_lexesPool yX12_lexesPool) ∈ lw_g := ⟨zt8 206 rfl rfl, zmem_s 89 (by decide +kernel) rfl⟩
set_option maxRecDepth 100000 in
theorem v_yX12_lexes : (Cond.instanceMethod yX12_lexes) ∈ lw_g ∧ (Cond.selects yX12_lexes.cls yX12_lexes yX12_lexes) ∈ lw_g := ⟨zt8 202 rfl rfl, zmem_s 88 (by decide +kernel) rfl⟩
set_option maxRecDepth 100000 in
theorem v_yX12_lexesTape : (Cond.instanceMethod yX12_lexesTape) ∈ lw_g ∧ (Cond.selects yX12_lexesTape.cls yX12_lexesTape yX12_lexesTape) ∈ lw_g := ⟨zt10 64 rfl rfl, zmem_s 163 (by decide +kernel) rfl⟩
set_option maxRecDepth 100000 in
theorem v_yX12_isSign : (Cond.instanceMethod yX12_isSign) ∈ lw_g ∧ (Cond.selects yX12_isSign.cls yX12_isSign yX12_isSign) ∈ lw_g := ⟨zt8 222 rfl rfl, zmem_s 93 (by decide +kernel) rfl⟩
set_option maxRecDepth 100000 in
theorem v_yX12_isTwo : (Cond.instanceMethod yX12_isTwo) ∈ lw_g ∧ (Cond.selects yX12_isTwo.cls yX12_isTwo yX12_isTwo) ∈ lw_g := ⟨zt10 20 rfl rfl, zmem_s 154 (by decide +kernel) rfl⟩
set_option maxRecDepth 100000 in
theorem v_yX12_isHash : (Cond.instanceMethod yX12_isHash) ∈ lw_g ∧ (Cond.selects yX12_isHash.cls yX12_isHash yX12_isHash) ∈ lw_g := ⟨zt8 218 rfl rfl, zmem_s 92 (by decide +kernel) rfl⟩
set_option maxRecDepth 100000 in
theorem v_yX12_isLike : (Cond.instanceMethod yX12_isLike) ∈ lw_g ∧ (Cond.selects yX12_isLike.cls yX12_isLike yX12_isLike) ∈ lw_g := ⟨zt10 16 rfl rfl, zmem_s 153 (by decide +kernel) rfl⟩
set_option maxRecDepth 100000 in
theorem v_yX12_isDefined : (Cond.instanceMethod yX12_isDefined) ∈ lw_g ∧ (Cond.selects yX12_isDefined.cls yX12_isDefined yX12_isDefined) ∈ lw_g := ⟨zt9 47 rfl rfl, zmem_s 105 (by decide +kernel) rfl⟩
set_option maxRecDepth 100000 in
theorem v_yX12_wordOf : (Cond.instanceMethod yX12_wordOf) ∈ lw_g ∧ (Cond.selects yX12_wordOf.cls yX12_wordOf yX12_wordOf) ∈ lw_g := ⟨zt8 230 rfl rfl, zmem_s 95 (by decide +kernel) rfl⟩
set_option maxRecDepth 100000 in
theorem v_yX12_numberOf : (Cond.instanceMethod yX12_numberOf) ∈ lw_g ∧ (Cond.selects yX12_numberOf.cls yX12_numberOf yX12_numberOf) ∈ lw_g := ⟨zt9 67 rfl rfl, zmem_s 110 (by decide +kernel) rfl⟩
set_option maxRecDepth 100000 in
theorem v_yX12_macroOf : (Cond.instanceMethod yX12_macroOf) ∈ lw_g ∧ (Cond.selects yX12_macroOf.cls yX12_macroOf yX12_macroOf) ∈ lw_g := ⟨zt9 63 rfl rfl, zmem_s 109 (by decide +kernel) rfl⟩
set_option maxRecDepth 100000 in
theorem s_yX12_bodyAt : (Cond.static yX12_bodyAt) ∈ lw_g := zt9 16 rfl rfl
set_option maxRecDepth 100000 in
theorem s_yX12_bodyByte : (Cond.static yX12_bodyByte) ∈ lw_g := zt9 19 rfl rfl
set_option maxRecDepth 100000 in
theorem v_yX12_isBodySign : (Cond.instanceMethod yX12_isBodySign) ∈ lw_g ∧ (Cond.selects yX12_isBodySign.cls yX12_isBodySign yX12_isBodySign) ∈ lw_g := ⟨zt9 103 rfl rfl, zmem_s 119 (by decide +kernel) rfl⟩
set_option maxRecDepth 100000 in
theorem v_yX12_isPaste : (Cond.instanceMethod yX12_isPaste) ∈ lw_g ∧ (Cond.selects yX12_isPaste.cls yX12_isPaste yX12_isPaste) ∈ lw_g := ⟨zt9 99 rfl rfl, zmem_s 118 (by decide +kernel) rfl⟩
set_option maxRecDepth 100000 in
theorem v_yX12_isMaking : (Cond.instanceMethod yX12_isMaking) ∈ lw_g ∧ (Cond.selects yX12_isMaking.cls yX12_isMaking yX12_isMaking) ∈ lw_g := ⟨zt9 111 rfl rfl, zmem_s 121 (by decide +kernel) rfl⟩
set_option maxRecDepth 100000 in
theorem v_yX12_parameterOf : (Cond.instanceMethod yX12_parameterOf) ∈ lw_g ∧ (Cond.selects yX12_parameterOf.cls yX12_parameterOf yX12_parameterOf) ∈ lw_g := ⟨zt10 12 rfl rfl, zmem_s 152 (by decide +kernel) rfl⟩
set_option maxRecDepth 100000 in
theorem v_yX12_readParameters : (Cond.instanceMethod yX12_readParameters) ∈ lw_g ∧ (Cond.selects yX12_readParameters.cls yX12_readParameters yX12_readParameters) ∈ lw_g := ⟨zt10 8 rfl rfl, zmem_s 151 (by decide +kernel) rfl⟩
set_option maxRecDepth 100000 in
theorem v_yX12_defines : (Cond.instanceMethod yX12_defines) ∈ lw_g ∧ (Cond.selects yX12_defines.cls yX12_defines yX12_defines) ∈ lw_g := ⟨zt10 4 rfl rfl, zmem_s 150 (by decide +kernel) rfl⟩
set_option maxRecDepth 100000 in
theorem v_yX12_stretch : (Cond.instanceMethod yX12_stretch) ∈ lw_g ∧ (Cond.selects yX12_stretch.cls yX12_stretch yX12_stretch) ∈ lw_g := ⟨zt9 83 rfl rfl, zmem_s 114 (by decide +kernel) rfl⟩
set_option maxRecDepth 100000 in
theorem v_yX12_peek : (Cond.instanceMethod yX12_peek) ∈ lw_g ∧ (Cond.selects yX12_peek.cls yX12_peek yX12_peek) ∈ lw_g := ⟨zt9 147 rfl rfl, zmem_s 130 (by decide +kernel) rfl⟩
set_option maxRecDepth 100000 in
theorem v_yX12_goes : (Cond.instanceMethod yX12_goes) ∈ lw_g ∧ (Cond.selects yX12_goes.cls yX12_goes yX12_goes) ∈ lw_g := ⟨zt9 155 rfl rfl, zmem_s 132 (by decide +kernel) rfl⟩
set_option maxRecDepth 100000 in
theorem v_yX12_opens : (Cond.instanceMethod yX12_opens) ∈ lw_g ∧ (Cond.selects yX12_opens.cls yX12_opens yX12_opens) ∈ lw_g := ⟨zt9 79 rfl rfl, zmem_s 113 (by decide +kernel) rfl⟩
set_option maxRecDepth 100000 in
theorem v_yX12_passes : (Cond.instanceMethod yX12_passes) ∈ lw_g ∧ (Cond.selects yX12_passes.cls yX12_passes yX12_passes) ∈ lw_g := ⟨zt9 159 rfl rfl, zmem_s 133 (by decide +kernel) rfl⟩
set_option maxRecDepth 100000 in
theorem v_yX12_adds : (Cond.instanceMethod yX12_adds) ∈ lw_g ∧ (Cond.selects yX12_adds.cls yX12_adds yX12_adds) ∈ lw_g := ⟨zt9 139 rfl rfl, zmem_s 128 (by decide +kernel) rfl⟩
set_option maxRecDepth 100000 in
theorem v_yX12_newPiece : (Cond.instanceMethod yX12_newPiece) ∈ lw_g ∧ (Cond.selects yX12_newPiece.cls yX12_newPiece yX12_newPiece) ∈ lw_g := ⟨zt9 107 rfl rfl, zmem_s 120 (by decide +kernel) rfl⟩
set_option maxRecDepth 100000 in
theorem v_yX12_blanks : (Cond.instanceMethod yX12_blanks) ∈ lw_g ∧ (Cond.selects yX12_blanks.cls yX12_blanks yX12_blanks) ∈ lw_g := ⟨zt9 143 rfl rfl, zmem_s 129 (by decide +kernel) rfl⟩
set_option maxRecDepth 100000 in
theorem v_yX12_expands : (Cond.instanceMethod yX12_expands) ∈ lw_g ∧ (Cond.selects yX12_expands.cls yX12_expands yX12_expands) ∈ lw_g := ⟨zt9 75 rfl rfl, zmem_s 112 (by decide +kernel) rfl⟩
set_option maxRecDepth 100000 in
theorem v_yX12_begins : (Cond.instanceMethod yX12_begins) ∈ lw_g ∧ (Cond.selects yX12_begins.cls yX12_begins yX12_begins) ∈ lw_g := ⟨zt9 163 rfl rfl, zmem_s 134 (by decide +kernel) rfl⟩
set_option maxRecDepth 100000 in
theorem v_yX12_calls : (Cond.instanceMethod yX12_calls) ∈ lw_g ∧ (Cond.selects yX12_calls.cls yX12_calls yX12_calls) ∈ lw_g := ⟨zt9 167 rfl rfl, zmem_s 135 (by decide +kernel) rfl⟩
set_option maxRecDepth 100000 in
theorem v_yX12_argBegin : (Cond.instanceMethod yX12_argBegin) ∈ lw_g ∧ (Cond.selects yX12_argBegin.cls yX12_argBegin yX12_argBegin) ∈ lw_g := ⟨zt9 119 rfl rfl, zmem_s 123 (by decide +kernel) rfl⟩
set_option maxRecDepth 100000 in
theorem v_yX12_argEnd : (Cond.instanceMethod yX12_argEnd) ∈ lw_g ∧ (Cond.selects yX12_argEnd.cls yX12_argEnd yX12_argEnd) ∈ lw_g := ⟨zt9 123 rfl rfl, zmem_s 124 (by decide +kernel) rfl⟩
set_option maxRecDepth 100000 in
theorem v_yX12_replaces : (Cond.instanceMethod yX12_replaces) ∈ lw_g ∧ (Cond.selects yX12_replaces.cls yX12_replaces yX12_replaces) ∈ lw_g := ⟨zt9 87 rfl rfl, zmem_s 115 (by decide +kernel) rfl⟩
set_option maxRecDepth 100000 in
theorem v_yX12_endsArgument : (Cond.instanceMethod yX12_endsArgument) ∈ lw_g ∧ (Cond.selects yX12_endsArgument.cls yX12_endsArgument yX12_endsArgument) ∈ lw_g := ⟨zt9 151 rfl rfl, zmem_s 131 (by decide +kernel) rfl⟩
set_option maxRecDepth 100000 in
theorem v_yX12_laysToken : (Cond.instanceMethod yX12_laysToken) ∈ lw_g ∧ (Cond.selects yX12_laysToken.cls yX12_laysToken yX12_laysToken) ∈ lw_g := ⟨zt9 127 rfl rfl, zmem_s 125 (by decide +kernel) rfl⟩
set_option maxRecDepth 100000 in
theorem v_yX12_laysBody : (Cond.instanceMethod yX12_laysBody) ∈ lw_g ∧ (Cond.selects yX12_laysBody.cls yX12_laysBody yX12_laysBody) ∈ lw_g := ⟨zt9 135 rfl rfl, zmem_s 127 (by decide +kernel) rfl⟩
set_option maxRecDepth 100000 in
theorem v_yX12_makes : (Cond.instanceMethod yX12_makes) ∈ lw_g ∧ (Cond.selects yX12_makes.cls yX12_makes yX12_makes) ∈ lw_g := ⟨zt9 115 rfl rfl, zmem_s 122 (by decide +kernel) rfl⟩
set_option maxRecDepth 100000 in
theorem v_yX12_pastes : (Cond.instanceMethod yX12_pastes) ∈ lw_g ∧ (Cond.selects yX12_pastes.cls yX12_pastes yX12_pastes) ∈ lw_g := ⟨zt9 95 rfl rfl, zmem_s 117 (by decide +kernel) rfl⟩
set_option maxRecDepth 100000 in
theorem v_yX12_builds : (Cond.instanceMethod yX12_builds) ∈ lw_g ∧ (Cond.selects yX12_builds.cls yX12_builds yX12_builds) ∈ lw_g := ⟨zt9 91 rfl rfl, zmem_s 116 (by decide +kernel) rfl⟩
set_option maxRecDepth 100000 in
theorem v_yX12_expandsLine : (Cond.instanceMethod yX12_expandsLine) ∈ lw_g ∧ (Cond.selects yX12_expandsLine.cls yX12_expandsLine yX12_expandsLine) ∈ lw_g := ⟨zt10 36 rfl rfl, zmem_s 158 (by decide +kernel) rfl⟩
set_option maxRecDepth 100000 in
theorem v_yX12_opensLine : (Cond.instanceMethod yX12_opensLine) ∈ lw_g ∧ (Cond.selects yX12_opensLine.cls yX12_opensLine yX12_opensLine) ∈ lw_g := ⟨zt9 71 rfl rfl, zmem_s 111 (by decide +kernel) rfl⟩
set_option maxRecDepth 100000 in
theorem v_yX12_code : (Cond.instanceMethod yX12_code) ∈ lw_g ∧ (Cond.selects yX12_code.cls yX12_code yX12_code) ∈ lw_g := ⟨zt9 190 rfl rfl, zmem_s 140 (by decide +kernel) rfl⟩
set_option maxRecDepth 100000 in
theorem v_yX12_reads : (Cond.instanceMethod yX12_reads) ∈ lw_g ∧ (Cond.selects yX12_reads.cls yX12_reads yX12_reads) ∈ lw_g := ⟨zt9 217 rfl rfl, zmem_s 146 (by decide +kernel) rfl⟩
set_option maxRecDepth 100000 in
theorem v_yX12_operator : (Cond.instanceMethod yX12_operator) ∈ lw_g ∧ (Cond.selects yX12_operator.cls yX12_operator yX12_operator) ∈ lw_g := ⟨zt9 205 rfl rfl, zmem_s 143 (by decide +kernel) rfl⟩
set_option maxRecDepth 100000 in
theorem s_yX12_strength : (Cond.static yX12_strength) ∈ lw_g := zt9 197 rfl rfl
set_option maxRecDepth 100000 in
theorem s_yX12_isAhead : (Cond.static yX12_isAhead) ∈ lw_g := zt9 186 rfl rfl
set_option maxRecDepth 100000 in
theorem v_yX12_waitsFor : (Cond.instanceMethod yX12_waitsFor) ∈ lw_g ∧ (Cond.selects yX12_waitsFor.cls yX12_waitsFor yX12_waitsFor) ∈ lw_g := ⟨zt9 201 rfl rfl, zmem_s 142 (by decide +kernel) rfl⟩
set_option maxRecDepth 100000 in
theorem v_yX12_does : (Cond.instanceMethod yX12_does) ∈ lw_g ∧ (Cond.selects yX12_does.cls yX12_does yX12_does) ∈ lw_g := ⟨zt9 183 rfl rfl, zmem_s 139 (by decide +kernel) rfl⟩
set_option maxRecDepth 100000 in
theorem v_yX12_doesAbove : (Cond.instanceMethod yX12_doesAbove) ∈ lw_g ∧ (Cond.selects yX12_doesAbove.cls yX12_doesAbove yX12_doesAbove) ∈ lw_g := ⟨zt9 194 rfl rfl, zmem_s 141 (by decide +kernel) rfl⟩
set_option maxRecDepth 100000 in
theorem v_yX12_doesDown : (Cond.instanceMethod yX12_doesDown) ∈ lw_g ∧ (Cond.selects yX12_doesDown.cls yX12_doesDown yX12_doesDown) ∈ lw_g := ⟨zt9 179 rfl rfl, zmem_s 138 (by decide +kernel) rfl⟩
set_option maxRecDepth 100000 in
theorem v_yX12_aheadOf : (Cond.instanceMethod yX12_aheadOf) ∈ lw_g ∧ (Cond.selects yX12_aheadOf.cls yX12_aheadOf yX12_aheadOf) ∈ lw_g := ⟨zt9 213 rfl rfl, zmem_s 145 (by decide +kernel) rfl⟩
set_option maxRecDepth 100000 in
theorem v_yX12_operand : (Cond.instanceMethod yX12_operand) ∈ lw_g ∧ (Cond.selects yX12_operand.cls yX12_operand yX12_operand) ∈ lw_g := ⟨zt9 209 rfl rfl, zmem_s 144 (by decide +kernel) rfl⟩
set_option maxRecDepth 100000 in
theorem v_yX12_behind : (Cond.instanceMethod yX12_behind) ∈ lw_g ∧ (Cond.selects yX12_behind.cls yX12_behind yX12_behind) ∈ lw_g := ⟨zt9 175 rfl rfl, zmem_s 137 (by decide +kernel) rfl⟩
set_option maxRecDepth 100000 in
theorem v_yX12_readsList : (Cond.instanceMethod yX12_readsList) ∈ lw_g ∧ (Cond.selects yX12_readsList.cls yX12_readsList yX12_readsList) ∈ lw_g := ⟨zt9 171 rfl rfl, zmem_s 136 (by decide +kernel) rfl⟩
set_option maxRecDepth 100000 in
theorem s_yX12_truth : (Cond.static yX12_truth) ∈ lw_g := zt9 227 rfl rfl
set_option maxRecDepth 100000 in
theorem s_yX12_two : (Cond.static yX12_two) ∈ lw_g := zt9 231 rfl rfl
set_option maxRecDepth 100000 in
theorem v_yX12_works : (Cond.instanceMethod yX12_works) ∈ lw_g ∧ (Cond.selects yX12_works.cls yX12_works yX12_works) ∈ lw_g := ⟨zt9 224 rfl rfl, zmem_s 147 (by decide +kernel) rfl⟩
set_option maxRecDepth 100000 in
theorem v_yX12_conditions : (Cond.instanceMethod yX12_conditions) ∈ lw_g ∧ (Cond.selects yX12_conditions.cls yX12_conditions yX12_conditions) ∈ lw_g := ⟨zt9 43 rfl rfl, zmem_s 104 (by decide +kernel) rfl⟩
set_option maxRecDepth 100000 in
theorem v_yX12_clears : (Cond.instanceMethod yX12_clears) ∈ lw_g ∧ (Cond.selects yX12_clears.cls yX12_clears yX12_clears) ∈ lw_g := ⟨zt9 6 rfl rfl, zmem_s 97 (by decide +kernel) rfl⟩
set_option maxRecDepth 100000 in
theorem v_yX12_laysSwitches : (Cond.instanceMethod yX12_laysSwitches) ∈ lw_g ∧ (Cond.selects yX12_laysSwitches.cls yX12_laysSwitches yX12_laysSwitches) ∈ lw_g := ⟨zt9 10 rfl rfl, zmem_s 98 (by decide +kernel) rfl⟩
set_option maxRecDepth 100000 in
theorem v_yX12_comes : (Cond.instanceMethod yX12_comes) ∈ lw_g ∧ (Cond.selects yX12_comes.cls yX12_comes yX12_comes) ∈ lw_g := ⟨zt10 40 rfl rfl, zmem_s 159 (by decide +kernel) rfl⟩
set_option maxRecDepth 100000 in
theorem v_yX12_counts : (Cond.instanceMethod yX12_counts) ∈ lw_g ∧ (Cond.selects yX12_counts.cls yX12_counts yX12_counts) ∈ lw_g := ⟨zt9 39 rfl rfl, zmem_s 103 (by decide +kernel) rfl⟩
set_option maxRecDepth 100000 in
theorem v_yX12_group : (Cond.instanceMethod yX12_group) ∈ lw_g ∧ (Cond.selects yX12_group.cls yX12_group yX12_group) ∈ lw_g := ⟨zt9 31 rfl rfl, zmem_s 101 (by decide +kernel) rfl⟩
set_option maxRecDepth 100000 in
theorem v_yX12_isInside : (Cond.instanceMethod yX12_isInside) ∈ lw_g ∧ (Cond.selects yX12_isInside.cls yX12_isInside yX12_isInside) ∈ lw_g := ⟨zt9 27 rfl rfl, zmem_s 100 (by decide +kernel) rfl⟩
set_option maxRecDepth 100000 in
theorem v_yX12_isNothing : (Cond.instanceMethod yX12_isNothing) ∈ lw_g ∧ (Cond.selects yX12_isNothing.cls yX12_isNothing yX12_isNothing) ∈ lw_g := ⟨zt9 236 rfl rfl, zmem_s 148 (by decide +kernel) rfl⟩
set_option maxRecDepth 100000 in
theorem v_yX12_doesGroup : (Cond.instanceMethod yX12_doesGroup) ∈ lw_g ∧ (Cond.selects yX12_doesGroup.cls yX12_doesGroup yX12_doesGroup) ∈ lw_g := ⟨zt9 35 rfl rfl, zmem_s 102 (by decide +kernel) rfl⟩
set_option maxRecDepth 100000 in
theorem v_yX12_doesNamed : (Cond.instanceMethod yX12_doesNamed) ∈ lw_g ∧ (Cond.selects yX12_doesNamed.cls yX12_doesNamed yX12_doesNamed) ∈ lw_g := ⟨zt10 28 rfl rfl, zmem_s 156 (by decide +kernel) rfl⟩
set_option maxRecDepth 100000 in
theorem v_yX12_includes : (Cond.instanceMethod yX12_includes) ∈ lw_g ∧ (Cond.selects yX12_includes.cls yX12_includes yX12_includes) ∈ lw_g := ⟨zt10 24 rfl rfl, zmem_s 155 (by decide +kernel) rfl⟩
set_option maxRecDepth 100000 in
theorem v_yX12_doesDirective : (Cond.instanceMethod yX12_doesDirective) ∈ lw_g ∧ (Cond.selects yX12_doesDirective.cls yX12_doesDirective yX12_doesDirective) ∈ lw_g := ⟨zt10 0 rfl rfl, zmem_s 149 (by decide +kernel) rfl⟩
set_option maxRecDepth 100000 in
theorem v_yX12_doesText : (Cond.instanceMethod yX12_doesText) ∈ lw_g ∧ (Cond.selects yX12_doesText.cls yX12_doesText yX12_doesText) ∈ lw_g := ⟨zt10 32 rfl rfl, zmem_s 157 (by decide +kernel) rfl⟩
set_option maxRecDepth 100000 in
theorem v_yX12_doesLine : (Cond.instanceMethod yX12_doesLine) ∈ lw_g ∧ (Cond.selects yX12_doesLine.cls yX12_doesLine yX12_doesLine) ∈ lw_g := ⟨zt9 23 rfl rfl, zmem_s 99 (by decide +kernel) rfl⟩
set_option maxRecDepth 100000 in
theorem v_yX12_runs : (Cond.instanceMethod yX12_runs) ∈ lw_g ∧ (Cond.selects yX12_runs.cls yX12_runs yX12_runs) ∈ lw_g := ⟨zt9 2 rfl rfl, zmem_s 96 (by decide +kernel) rfl⟩
set_option maxRecDepth 100000 in
theorem v_yX12_tellsFault : (Cond.instanceMethod yX12_tellsFault) ∈ lw_g ∧ (Cond.selects yX12_tellsFault.cls yX12_tellsFault yX12_tellsFault) ∈ lw_g := ⟨zt10 44 rfl rfl, zmem_s 160 (by decide +kernel) rfl⟩
set_option maxRecDepth 100000 in
theorem v_yX12_tellsTokens : (Cond.instanceMethod yX12_tellsTokens) ∈ lw_g ∧ (Cond.selects yX12_tellsTokens.cls yX12_tellsTokens yX12_tellsTokens) ∈ lw_g := ⟨zt10 48 rfl rfl, zmem_s 161 (by decide +kernel) rfl⟩
set_option maxRecDepth 100000 in
theorem v_yX12_run : (Cond.instanceMethod yX12_run) ∈ lw_g ∧ (Cond.selects yX12_run.cls yX12_run yX12_run) ∈ lw_g := ⟨zt8 237 rfl rfl, zt8 238 rfl rfl⟩
set_option maxRecDepth 100000 in
theorem v_yX12_fault : (Cond.instanceMethod yX12_fault) ∈ lw_g ∧ (Cond.selects yX12_fault.cls yX12_fault yX12_fault) ∈ lw_g := ⟨zt10 51 rfl rfl, zt10 52 rfl rfl⟩
set_option maxRecDepth 100000 in
theorem v_yX12_asTold : (Cond.instanceMethod yX12_asTold) ∈ lw_g ∧ (Cond.selects yX12_asTold.cls yX12_asTold yX12_asTold) ∈ lw_g := ⟨zt10 60 rfl rfl, zmem_s 162 (by decide +kernel) rfl⟩
set_option maxRecDepth 100000 in
theorem v_yX12_expand : (Cond.instanceMethod yX12_expand) ∈ lw_g ∧ (Cond.selects yX12_expand.cls yX12_expand yX12_expand) ∈ lw_g := ⟨zt10 55 rfl rfl, zt10 56 rfl rfl⟩
set_option maxRecDepth 100000 in
theorem v_yX12_value : (Cond.instanceMethod yX12_value) ∈ lw_g ∧ (Cond.selects yX12_value.cls yX12_value yX12_value) ∈ lw_g := ⟨zt10 67 rfl rfl, zt10 68 rfl rfl⟩
set_option maxRecDepth 100000 in
theorem v_yX12_token : (Cond.instanceMethod yX12_token) ∈ lw_g ∧ (Cond.selects yX12_token.cls yX12_token yX12_token) ∈ lw_g := ⟨zt10 75 rfl rfl, zt10 76 rfl rfl⟩
set_option maxRecDepth 100000 in
theorem v_yX12_tokenAt : (Cond.instanceMethod yX12_tokenAt) ∈ lw_g ∧ (Cond.selects yX12_tokenAt.cls yX12_tokenAt yX12_tokenAt) ∈ lw_g := ⟨zt10 79 rfl rfl, zt10 80 rfl rfl⟩
set_option maxRecDepth 100000 in
theorem v_yX12_macro : (Cond.instanceMethod yX12_macro) ∈ lw_g ∧ (Cond.selects yX12_macro.cls yX12_macro yX12_macro) ∈ lw_g := ⟨zt10 83 rfl rfl, zt10 84 rfl rfl⟩
set_option maxRecDepth 100000 in
theorem v_yX12_macroAt : (Cond.instanceMethod yX12_macroAt) ∈ lw_g ∧ (Cond.selects yX12_macroAt.cls yX12_macroAt yX12_macroAt) ∈ lw_g := ⟨zt10 87 rfl rfl, zt10 88 rfl rfl⟩
set_option maxRecDepth 100000 in
theorem v_yX12_now : (Cond.instanceMethod yX12_now) ∈ lw_g ∧ (Cond.selects yX12_now.cls yX12_now yX12_now) ∈ lw_g := ⟨zt10 91 rfl rfl, zt10 92 rfl rfl⟩
set_option maxRecDepth 100000 in
theorem v_yX12_passed : (Cond.instanceMethod yX12_passed) ∈ lw_g ∧ (Cond.selects yX12_passed.cls yX12_passed yX12_passed) ∈ lw_g := ⟨zt10 95 rfl rfl, zt10 96 rfl rfl⟩
set_option maxRecDepth 100000 in
theorem v_yX12_studies : (Cond.instanceMethod yX12_studies) ∈ lw_g ∧ (Cond.selects yX12_studies.cls yX12_studies yX12_studies) ∈ lw_g := ⟨zt10 104 rfl rfl, zmem_s 165 (by decide +kernel) rfl⟩
set_option maxRecDepth 100000 in
theorem v_yX12_areAlike : (Cond.instanceMethod yX12_areAlike) ∈ lw_g ∧ (Cond.selects yX12_areAlike.cls yX12_areAlike yX12_areAlike) ∈ lw_g := ⟨zt10 116 rfl rfl, zmem_s 167 (by decide +kernel) rfl⟩
set_option maxRecDepth 100000 in
theorem v_yX12_leastLike : (Cond.instanceMethod yX12_leastLike) ∈ lw_g ∧ (Cond.selects yX12_leastLike.cls yX12_leastLike yX12_leastLike) ∈ lw_g := ⟨zt10 112 rfl rfl, zmem_s 166 (by decide +kernel) rfl⟩
set_option maxRecDepth 100000 in
theorem v_yX12_presence : (Cond.instanceMethod yX12_presence) ∈ lw_g ∧ (Cond.selects yX12_presence.cls yX12_presence yX12_presence) ∈ lw_g := ⟨zt10 99 rfl rfl, zt10 100 rfl rfl⟩
set_option maxRecDepth 100000 in
theorem v_yX12_outcomes : (Cond.instanceMethod yX12_outcomes) ∈ lw_g ∧ (Cond.selects yX12_outcomes.cls yX12_outcomes yX12_outcomes) ∈ lw_g := ⟨zt10 107 rfl rfl, zt10 108 rfl rfl⟩
set_option maxRecDepth 100000 in
theorem v_yX12_like : (Cond.instanceMethod yX12_like) ∈ lw_g ∧ (Cond.selects yX12_like.cls yX12_like yX12_like) ∈ lw_g := ⟨zt10 119 rfl rfl, zt10 120 rfl rfl⟩
set_option maxRecDepth 100000 in
theorem v_yX12_depends : (Cond.instanceMethod yX12_depends) ∈ lw_g ∧ (Cond.selects yX12_depends.cls yX12_depends yX12_depends) ∈ lw_g := ⟨zt10 123 rfl rfl, zt10 124 rfl rfl⟩
