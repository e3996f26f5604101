theorem dX12_lexAt_228 : decode cX12_lexAt 228 = .ok (.iload_n 3, 1) := by decide +kernel
theorem dX12_lexAt_229 : decode cX12_lexAt 229 = .ok (.bipush 60, 2) := by decide +kernel
theorem dX12_lexAt_231 : decode cX12_lexAt 231 = .ok (.if_icmp .eq 9, 3) := by decide +kernel
theorem dX12_lexAt_234 : decode cX12_lexAt 234 = .ok (.iload_n 3, 1) := by decide +kernel
theorem dX12_lexAt_235 : decode cX12_lexAt 235 = .ok (.bipush 62, 2) := by decide +kernel
theorem dX12_lexAt_237 : decode cX12_lexAt 237 = .ok (.if_icmp .ne 7, 3) := by decide +kernel
theorem dX12_lexAt_240 : decode cX12_lexAt 240 = .ok (.iconst 1, 1) := by decide +kernel
theorem dX12_lexAt_241 : decode cX12_lexAt 241 = .ok (.goto 4, 3) := by decide +kernel
theorem dX12_lexAt_244 : decode cX12_lexAt 244 = .ok (.iconst 0, 1) := by decide +kernel
theorem dX12_lexAt_245 : decode cX12_lexAt 245 = .ok (.istore 6, 2) := by decide +kernel
theorem dX12_lexAt_247 : decode cX12_lexAt 247 = .ok (.iload 6, 2) := by decide +kernel
theorem dX12_lexAt_249 : decode cX12_lexAt 249 = .ok (.ifCond .eq 7, 3) := by decide +kernel
theorem dX12_lexAt_252 : decode cX12_lexAt 252 = .ok (.iconst 2, 1) := by decide +kernel
theorem dX12_lexAt_253 : decode cX12_lexAt 253 = .ok (.goto 4, 3) := by decide +kernel
theorem dX12_lexAt_256 : decode cX12_lexAt 256 = .ok (.iconst 1, 1) := by decide +kernel
theorem dX12_lexAt_257 : decode cX12_lexAt 257 = .ok (.ireturn, 1) := by decide +kernel
theorem dX12_lexesPool_0 : decode cX12_lexesPool 0 = .ok (.aload_n 0, 1) := by decide +kernel
theorem dX12_lexesPool_1 : decode cX12_lexesPool 1 = .ok (.iconst 0, 1) := by decide +kernel
theorem dX12_lexesPool_2 : decode cX12_lexesPool 2 = .ok (.putfield 355, 3) := by decide +kernel
theorem dX12_lexesPool_5 : decode cX12_lexesPool 5 = .ok (.aload_n 0, 1) := by decide +kernel
theorem dX12_lexesPool_6 : decode cX12_lexesPool 6 = .ok (.iload_n 1, 1) := by decide +kernel
theorem dX12_lexesPool_7 : decode cX12_lexesPool 7 = .ok (.putfield 391, 3) := by decide +kernel
theorem dX12_lexesPool_10 : decode cX12_lexesPool 10 = .ok (.aload_n 0, 1) := by decide +kernel
theorem dX12_lexesPool_11 : decode cX12_lexesPool 11 = .ok (.sipush 440, 3) := by decide +kernel
theorem dX12_lexesPool_14 : decode cX12_lexesPool 14 = .ok (.putfield 394, 3) := by decide +kernel
theorem dX12_lexesPool_17 : decode cX12_lexesPool 17 = .ok (.aload_n 0, 1) := by decide +kernel
theorem dX12_lexesPool_18 : decode cX12_lexesPool 18 = .ok (.sipush 3500, 3) := by decide +kernel
theorem dX12_lexesPool_21 : decode cX12_lexesPool 21 = .ok (.putfield 397, 3) := by decide +kernel
theorem dX12_lexesPool_24 : decode cX12_lexesPool 24 = .ok (.aload_n 0, 1) := by decide +kernel
theorem dX12_lexesPool_25 : decode cX12_lexesPool 25 = .ok (.iload_n 1, 1) := by decide +kernel
theorem dX12_lexesPool_26 : decode cX12_lexesPool 26 = .ok (.putfield 385, 3) := by decide +kernel
theorem dX12_lexesPool_29 : decode cX12_lexesPool 29 = .ok (.aload_n 0, 1) := by decide +kernel
theorem dX12_lexesPool_30 : decode cX12_lexesPool 30 = .ok (.iload_n 2, 1) := by decide +kernel
theorem dX12_lexesPool_31 : decode cX12_lexesPool 31 = .ok (.putfield 379, 3) := by decide +kernel
theorem dX12_lexesPool_34 : decode cX12_lexesPool 34 = .ok (.aload_n 0, 1) := by decide +kernel
theorem dX12_lexesPool_35 : decode cX12_lexesPool 35 = .ok (.iload_n 3, 1) := by decide +kernel
theorem dX12_lexesPool_36 : decode cX12_lexesPool 36 = .ok (.putfield 382, 3) := by decide +kernel
theorem dX12_lexesPool_39 : decode cX12_lexesPool 39 = .ok (.iconst 0, 1) := by decide +kernel
theorem dX12_lexesPool_40 : decode cX12_lexesPool 40 = .ok (.istore 4, 2) := by decide +kernel
theorem dX12_lexesPool_42 : decode cX12_lexesPool 42 = .ok (.iload 4, 2) := by decide +kernel
theorem dX12_lexesPool_44 : decode cX12_lexesPool 44 = .ok (.iload_n 1, 1) := by decide +kernel
theorem dX12_lexesPool_45 : decode cX12_lexesPool 45 = .ok (.if_icmp .ge 171, 3) := by decide +kernel
theorem dX12_lexesPool_48 : decode cX12_lexesPool 48 = .ok (.aload_n 0, 1) := by decide +kernel
theorem dX12_lexesPool_49 : decode cX12_lexesPool 49 = .ok (.getfield 65, 3) := by decide +kernel
theorem dX12_lexesPool_52 : decode cX12_lexesPool 52 = .ok (.iload 4, 2) := by decide +kernel
theorem dX12_lexesPool_54 : decode cX12_lexesPool 54 = .ok (.baload, 1) := by decide +kernel
theorem dX12_lexesPool_55 : decode cX12_lexesPool 55 = .ok (.bipush 32, 2) := by decide +kernel
theorem dX12_lexesPool_57 : decode cX12_lexesPool 57 = .ok (.if_icmp .ne 9, 3) := by decide +kernel
theorem dX12_lexesPool_60 : decode cX12_lexesPool 60 = .ok (.iinc 4 1, 3) := by decide +kernel
theorem dX12_lexesPool_63 : decode cX12_lexesPool 63 = .ok (.goto (-21), 3) := by decide +kernel
theorem dX12_lexesPool_66 : decode cX12_lexesPool 66 = .ok (.aload_n 0, 1) := by decide +kernel
theorem dX12_lexesPool_67 : decode cX12_lexesPool 67 = .ok (.iload 4, 2) := by decide +kernel
theorem dX12_lexesPool_69 : decode cX12_lexesPool 69 = .ok (.iload_n 1, 1) := by decide +kernel
theorem dX12_lexesPool_70 : decode cX12_lexesPool 70 = .ok (.invokevirtual 400, 3) := by decide +kernel
theorem dX12_lexesPool_73 : decode cX12_lexesPool 73 = .ok (.istore 5, 2) := by decide +kernel
theorem dX12_lexesPool_75 : decode cX12_lexesPool 75 = .ok (.iload 5, 2) := by decide +kernel
theorem dX12_lexesPool_77 : decode cX12_lexesPool 77 = .ok (.ifCond .eq 10, 3) := by decide +kernel
theorem dX12_lexesPool_80 : decode cX12_lexesPool 80 = .ok (.iload 5, 2) := by decide +kernel
theorem dX12_lexesPool_82 : decode cX12_lexesPool 82 = .ok (.bipush 30, 2) := by decide +kernel
theorem dX12_lexesPool_84 : decode cX12_lexesPool 84 = .ok (.if_icmp .le 13, 3) := by decide +kernel
theorem dX12_lexesPool_87 : decode cX12_lexesPool 87 = .ok (.aload_n 0, 1) := by decide +kernel
theorem dX12_lexesPool_88 : decode cX12_lexesPool 88 = .ok (.iconst 1, 1) := by decide +kernel
theorem dX12_lexesPool_89 : decode cX12_lexesPool 89 = .ok (.iload_n 2, 1) := by decide +kernel
theorem dX12_lexesPool_90 : decode cX12_lexesPool 90 = .ok (.iload_n 3, 1) := by decide +kernel
theorem dX12_lexesPool_91 : decode cX12_lexesPool 91 = .ok (.iload 4, 2) := by decide +kernel
theorem dX12_lexesPool_93 : decode cX12_lexesPool 93 = .ok (.invokevirtual 373, 3) := by decide +kernel
theorem dX12_lexesPool_96 : decode cX12_lexesPool 96 = .ok (.ireturn, 1) := by decide +kernel
theorem dX12_lexesPool_97 : decode cX12_lexesPool 97 = .ok (.aload_n 0, 1) := by decide +kernel
theorem dX12_lexesPool_98 : decode cX12_lexesPool 98 = .ok (.getfield 355, 3) := by decide +kernel
theorem dX12_lexesPool_101 : decode cX12_lexesPool 101 = .ok (.istore 6, 2) := by decide +kernel
theorem dX12_lexesPool_103 : decode cX12_lexesPool 103 = .ok (.aload_n 0, 1) := by decide +kernel
theorem dX12_lexesPool_104 : decode cX12_lexesPool 104 = .ok (.getfield 40, 3) := by decide +kernel
theorem dX12_lexesPool_107 : decode cX12_lexesPool 107 = .ok (.iload 6, 2) := by decide +kernel
theorem dX12_lexesPool_109 : decode cX12_lexesPool 109 = .ok (.aload_n 0, 1) := by decide +kernel
theorem dX12_lexesPool_110 : decode cX12_lexesPool 110 = .ok (.getfield 388, 3) := by decide +kernel
theorem dX12_lexesPool_113 : decode cX12_lexesPool 113 = .ok (.iastore, 1) := by decide +kernel
theorem dX12_lexesPool_114 : decode cX12_lexesPool 114 = .ok (.aload_n 0, 1) := by decide +kernel
theorem dX12_lexesPool_115 : decode cX12_lexesPool 115 = .ok (.getfield 43, 3) := by decide +kernel
theorem dX12_lexesPool_118 : decode cX12_lexesPool 118 = .ok (.iload 6, 2) := by decide +kernel
theorem dX12_lexesPool_120 : decode cX12_lexesPool 120 = .ok (.iload 4, 2) := by decide +kernel
theorem dX12_lexesPool_122 : decode cX12_lexesPool 122 = .ok (.iastore, 1) := by decide +kernel
theorem dX12_lexesPool_123 : decode cX12_lexesPool 123 = .ok (.aload_n 0, 1) := by decide +kernel
theorem dX12_lexesPool_124 : decode cX12_lexesPool 124 = .ok (.getfield 46, 3) := by decide +kernel
theorem dX12_lexesPool_127 : decode cX12_lexesPool 127 = .ok (.iload 6, 2) := by decide +kernel
theorem dX12_lexesPool_129 : decode cX12_lexesPool 129 = .ok (.iload 5, 2) := by decide +kernel
theorem dX12_lexesPool_131 : decode cX12_lexesPool 131 = .ok (.iastore, 1) := by decide +kernel
theorem dX12_lexesPool_132 : decode cX12_lexesPool 132 = .ok (.aload_n 0, 1) := by decide +kernel
theorem dX12_lexesPool_133 : decode cX12_lexesPool 133 = .ok (.getfield 49, 3) := by decide +kernel
theorem dX12_lexesPool_136 : decode cX12_lexesPool 136 = .ok (.iload 6, 2) := by decide +kernel
theorem dX12_lexesPool_138 : decode cX12_lexesPool 138 = .ok (.iload_n 2, 1) := by decide +kernel
theorem dX12_lexesPool_139 : decode cX12_lexesPool 139 = .ok (.iastore, 1) := by decide +kernel
theorem dX12_lexesPool_140 : decode cX12_lexesPool 140 = .ok (.aload_n 0, 1) := by decide +kernel
theorem dX12_lexesPool_141 : decode cX12_lexesPool 141 = .ok (.getfield 52, 3) := by decide +kernel
theorem dX12_lexesPool_144 : decode cX12_lexesPool 144 = .ok (.iload 6, 2) := by decide +kernel
theorem dX12_lexesPool_146 : decode cX12_lexesPool 146 = .ok (.iload_n 3, 1) := by decide +kernel
theorem dX12_lexesPool_147 : decode cX12_lexesPool 147 = .ok (.iastore, 1) := by decide +kernel
theorem dX12_lexesPool_148 : decode cX12_lexesPool 148 = .ok (.aload_n 0, 1) := by decide +kernel
theorem dX12_lexesPool_149 : decode cX12_lexesPool 149 = .ok (.getfield 55, 3) := by decide +kernel
theorem dX12_lexesPool_152 : decode cX12_lexesPool 152 = .ok (.iload 6, 2) := by decide +kernel
theorem dX12_lexesPool_154 : decode cX12_lexesPool 154 = .ok (.iload 4, 2) := by decide +kernel
theorem dX12_lexesPool_156 : decode cX12_lexesPool 156 = .ok (.iastore, 1) := by decide +kernel
theorem dX12_lexesPool_157 : decode cX12_lexesPool 157 = .ok (.aload_n 0, 1) := by decide +kernel
theorem dX12_lexesPool_158 : decode cX12_lexesPool 158 = .ok (.getfield 58, 3) := by decide +kernel
theorem dX12_lexesPool_161 : decode cX12_lexesPool 161 = .ok (.iload 6, 2) := by decide +kernel
theorem dX12_lexesPool_163 : decode cX12_lexesPool 163 = .ok (.iconst 0, 1) := by decide +kernel
theorem dX12_lexesPool_164 : decode cX12_lexesPool 164 = .ok (.iastore, 1) := by decide +kernel
theorem dX12_lexesPool_165 : decode cX12_lexesPool 165 = .ok (.aload_n 0, 1) := by decide +kernel
theorem dX12_lexesPool_166 : decode cX12_lexesPool 166 = .ok (.getfield 61, 3) := by decide +kernel
theorem dX12_lexesPool_169 : decode cX12_lexesPool 169 = .ok (.iload 6, 2) := by decide +kernel
theorem dX12_lexesPool_171 : decode cX12_lexesPool 171 = .ok (.iload 4, 2) := by decide +kernel
theorem dX12_lexesPool_173 : decode cX12_lexesPool 173 = .ok (.ifCond .le 21, 3) := by decide +kernel
theorem dX12_lexesPool_176 : decode cX12_lexesPool 176 = .ok (.aload_n 0, 1) := by decide +kernel
theorem dX12_lexesPool_177 : decode cX12_lexesPool 177 = .ok (.getfield 65, 3) := by decide +kernel
theorem dX12_lexesPool_180 : decode cX12_lexesPool 180 = .ok (.iload 4, 2) := by decide +kernel
theorem dX12_lexesPool_182 : decode cX12_lexesPool 182 = .ok (.iconst 1, 1) := by decide +kernel
theorem dX12_lexesPool_183 : decode cX12_lexesPool 183 = .ok (.isub, 1) := by decide +kernel
theorem dX12_lexesPool_184 : decode cX12_lexesPool 184 = .ok (.baload, 1) := by decide +kernel
theorem dX12_lexesPool_185 : decode cX12_lexesPool 185 = .ok (.bipush 32, 2) := by decide +kernel
theorem dX12_lexesPool_187 : decode cX12_lexesPool 187 = .ok (.if_icmp .ne 7, 3) := by decide +kernel
theorem dX12_lexesPool_190 : decode cX12_lexesPool 190 = .ok (.iconst 1, 1) := by decide +kernel
theorem dX12_lexesPool_191 : decode cX12_lexesPool 191 = .ok (.goto 4, 3) := by decide +kernel
theorem dX12_lexesPool_194 : decode cX12_lexesPool 194 = .ok (.iconst 0, 1) := by decide +kernel
theorem dX12_lexesPool_195 : decode cX12_lexesPool 195 = .ok (.iastore, 1) := by decide +kernel
theorem dX12_lexesPool_196 : decode cX12_lexesPool 196 = .ok (.aload_n 0, 1) := by decide +kernel
theorem dX12_lexesPool_197 : decode cX12_lexesPool 197 = .ok (.dup, 1) := by decide +kernel
theorem dX12_lexesPool_198 : decode cX12_lexesPool 198 = .ok (.getfield 355, 3) := by decide +kernel
theorem dX12_lexesPool_201 : decode cX12_lexesPool 201 = .ok (.iconst 1, 1) := by decide +kernel
theorem dX12_lexesPool_202 : decode cX12_lexesPool 202 = .ok (.iadd, 1) := by decide +kernel
theorem dX12_lexesPool_203 : decode cX12_lexesPool 203 = .ok (.putfield 355, 3) := by decide +kernel
theorem dX12_lexesPool_206 : decode cX12_lexesPool 206 = .ok (.iload 4, 2) := by decide +kernel
theorem dX12_lexesPool_208 : decode cX12_lexesPool 208 = .ok (.iload 5, 2) := by decide +kernel
theorem dX12_lexesPool_210 : decode cX12_lexesPool 210 = .ok (.iadd, 1) := by decide +kernel
theorem dX12_lexesPool_211 : decode cX12_lexesPool 211 = .ok (.istore 4, 2) := by decide +kernel
theorem dX12_lexesPool_213 : decode cX12_lexesPool 213 = .ok (.goto (-171), 3) := by decide +kernel
theorem dX12_lexesPool_216 : decode cX12_lexesPool 216 = .ok (.iconst 1, 1) := by decide +kernel
theorem dX12_lexesPool_217 : decode cX12_lexesPool 217 = .ok (.ireturn, 1) := by decide +kernel
theorem dX12_lexes_0 : decode cX12_lexes 0 = .ok (.aload_n 0, 1) := by decide +kernel
theorem dX12_lexes_1 : decode cX12_lexes 1 = .ok (.iload_n 1, 1) := by decide +kernel
theorem dX12_lexes_2 : decode cX12_lexes 2 = .ok (.iload_n 2, 1) := by decide +kernel
theorem dX12_lexes_3 : decode cX12_lexes 3 = .ok (.invokevirtual 321, 3) := by decide +kernel
theorem dX12_lexes_6 : decode cX12_lexes 6 = .ok (.istore_n 3, 1) := by decide +kernel
theorem dX12_lexes_7 : decode cX12_lexes 7 = .ok (.aload_n 0, 1) := by decide +kernel
theorem dX12_lexes_8 : decode cX12_lexes 8 = .ok (.iload_n 1, 1) := by decide +kernel
theorem dX12_lexes_9 : decode cX12_lexes 9 = .ok (.iload_n 2, 1) := by decide +kernel
theorem dX12_lexes_10 : decode cX12_lexes 10 = .ok (.invokevirtual 289, 3) := by decide +kernel
theorem dX12_lexes_13 : decode cX12_lexes 13 = .ok (.istore 4, 2) := by decide +kernel
theorem dX12_lexes_15 : decode cX12_lexes 15 = .ok (.iconst 0, 1) := by decide +kernel
theorem dX12_lexes_16 : decode cX12_lexes 16 = .ok (.istore 5, 2) := by decide +kernel
theorem dX12_lexes_18 : decode cX12_lexes 18 = .ok (.iload 5, 2) := by decide +kernel
theorem dX12_lexes_20 : decode cX12_lexes 20 = .ok (.iload 4, 2) := by decide +kernel
theorem dX12_lexes_22 : decode cX12_lexes 22 = .ok (.if_icmp .ge 25, 3) := by decide +kernel
theorem dX12_lexes_25 : decode cX12_lexes 25 = .ok (.aload_n 0, 1) := by decide +kernel
theorem dX12_lexes_26 : decode cX12_lexes 26 = .ok (.getfield 65, 3) := by decide +kernel
theorem dX12_lexes_29 : decode cX12_lexes 29 = .ok (.iload 5, 2) := by decide +kernel
theorem dX12_lexes_31 : decode cX12_lexes 31 = .ok (.aload_n 0, 1) := by decide +kernel
theorem dX12_lexes_32 : decode cX12_lexes 32 = .ok (.getfield 24, 3) := by decide +kernel
theorem dX12_lexes_35 : decode cX12_lexes 35 = .ok (.iload_n 3, 1) := by decide +kernel
theorem dX12_lexes_36 : decode cX12_lexes 36 = .ok (.iload 5, 2) := by decide +kernel
theorem dX12_lexes_38 : decode cX12_lexes 38 = .ok (.iadd, 1) := by decide +kernel
theorem dX12_lexes_39 : decode cX12_lexes 39 = .ok (.baload, 1) := by decide +kernel
theorem dX12_lexes_40 : decode cX12_lexes 40 = .ok (.bastore, 1) := by decide +kernel
theorem dX12_lexes_41 : decode cX12_lexes 41 = .ok (.iinc 5 1, 3) := by decide +kernel
theorem dX12_lexes_44 : decode cX12_lexes 44 = .ok (.goto (-26), 3) := by decide +kernel
theorem dX12_lexes_47 : decode cX12_lexes 47 = .ok (.aload_n 0, 1) := by decide +kernel
theorem dX12_lexes_48 : decode cX12_lexes 48 = .ok (.iload 4, 2) := by decide +kernel
theorem dX12_lexes_50 : decode cX12_lexes 50 = .ok (.iload_n 1, 1) := by decide +kernel
theorem dX12_lexes_51 : decode cX12_lexes 51 = .ok (.iload_n 2, 1) := by decide +kernel
theorem dX12_lexes_52 : decode cX12_lexes 52 = .ok (.invokevirtual 403, 3) := by decide +kernel
theorem dX12_lexes_55 : decode cX12_lexes 55 = .ok (.ireturn, 1) := by decide +kernel
theorem dX12_lexesTape_0 : decode cX12_lexesTape 0 = .ok (.aload_n 0, 1) := by decide +kernel
theorem dX12_lexesTape_1 : decode cX12_lexesTape 1 = .ok (.iconst 0, 1) := by decide +kernel
theorem dX12_lexesTape_2 : decode cX12_lexesTape 2 = .ok (.invokevirtual 296, 3) := by decide +kernel
theorem dX12_lexesTape_5 : decode cX12_lexesTape 5 = .ok (.istore_n 1, 1) := by decide +kernel
theorem dX12_lexesTape_6 : decode cX12_lexesTape 6 = .ok (.iload_n 1, 1) := by decide +kernel
theorem dX12_lexesTape_7 : decode cX12_lexesTape 7 = .ok (.ifCond .lt 12, 3) := by decide +kernel
theorem dX12_lexesTape_10 : decode cX12_lexesTape 10 = .ok (.aload_n 0, 1) := by decide +kernel
theorem dX12_lexesTape_11 : decode cX12_lexesTape 11 = .ok (.iconst 1, 1) := by decide +kernel
theorem dX12_lexesTape_12 : decode cX12_lexesTape 12 = .ok (.iconst (-1), 1) := by decide +kernel
theorem dX12_lexesTape_13 : decode cX12_lexesTape 13 = .ok (.iconst (-1), 1) := by decide +kernel
theorem dX12_lexesTape_14 : decode cX12_lexesTape 14 = .ok (.iload_n 1, 1) := by decide +kernel
theorem dX12_lexesTape_15 : decode cX12_lexesTape 15 = .ok (.invokevirtual 373, 3) := by decide +kernel
theorem dX12_lexesTape_18 : decode cX12_lexesTape 18 = .ok (.ireturn, 1) := by decide +kernel
theorem dX12_lexesTape_19 : decode cX12_lexesTape 19 = .ok (.iconst 0, 1) := by decide +kernel
theorem dX12_lexesTape_20 : decode cX12_lexesTape 20 = .ok (.istore_n 2, 1) := by decide +kernel
theorem dX12_lexesTape_21 : decode cX12_lexesTape 21 = .ok (.iload_n 2, 1) := by decide +kernel
theorem dX12_lexesTape_22 : decode cX12_lexesTape 22 = .ok (.aload_n 0, 1) := by decide +kernel
theorem dX12_lexesTape_23 : decode cX12_lexesTape 23 = .ok (.getfield 274, 3) := by decide +kernel
theorem dX12_lexesTape_26 : decode cX12_lexesTape 26 = .ok (.if_icmp .ge 21, 3) := by decide +kernel
theorem dX12_lexesTape_29 : decode cX12_lexesTape 29 = .ok (.aload_n 0, 1) := by decide +kernel
theorem dX12_lexesTape_30 : decode cX12_lexesTape 30 = .ok (.getfield 65, 3) := by decide +kernel
theorem dX12_lexesTape_33 : decode cX12_lexesTape 33 = .ok (.iload_n 2, 1) := by decide +kernel
theorem dX12_lexesTape_34 : decode cX12_lexesTape 34 = .ok (.aload_n 0, 1) := by decide +kernel
theorem dX12_lexesTape_35 : decode cX12_lexesTape 35 = .ok (.getfield 13, 3) := by decide +kernel
theorem dX12_lexesTape_38 : decode cX12_lexesTape 38 = .ok (.iload_n 2, 1) := by decide +kernel
theorem dX12_lexesTape_39 : decode cX12_lexesTape 39 = .ok (.baload, 1) := by decide +kernel
theorem dX12_lexesTape_40 : decode cX12_lexesTape 40 = .ok (.bastore, 1) := by decide +kernel
theorem dX12_lexesTape_41 : decode cX12_lexesTape 41 = .ok (.iinc 2 1, 3) := by decide +kernel
theorem dX12_lexesTape_44 : decode cX12_lexesTape 44 = .ok (.goto (-23), 3) := by decide +kernel
theorem dX12_lexesTape_47 : decode cX12_lexesTape 47 = .ok (.aload_n 0, 1) := by decide +kernel
theorem dX12_lexesTape_48 : decode cX12_lexesTape 48 = .ok (.aload_n 0, 1) := by decide +kernel
theorem dX12_lexesTape_49 : decode cX12_lexesTape 49 = .ok (.getfield 274, 3) := by decide +kernel
theorem dX12_lexesTape_52 : decode cX12_lexesTape 52 = .ok (.iconst (-1), 1) := by decide +kernel
theorem dX12_lexesTape_53 : decode cX12_lexesTape 53 = .ok (.iconst (-1), 1) := by decide +kernel
theorem dX12_lexesTape_54 : decode cX12_lexesTape 54 = .ok (.invokevirtual 403, 3) := by decide +kernel
theorem dX12_lexesTape_57 : decode cX12_lexesTape 57 = .ok (.ireturn, 1) := by decide +kernel
theorem dX12_isSign_0 : decode cX12_isSign 0 = .ok (.aload_n 0, 1) := by decide +kernel
theorem dX12_isSign_1 : decode cX12_isSign 1 = .ok (.getfield 40, 3) := by decide +kernel
theorem dX12_isSign_4 : decode cX12_isSign 4 = .ok (.iload_n 1, 1) := by decide +kernel
theorem dX12_isSign_5 : decode cX12_isSign 5 = .ok (.iaload, 1) := by decide +kernel
theorem dX12_isSign_6 : decode cX12_isSign 6 = .ok (.iconst 3, 1) := by decide +kernel
theorem dX12_isSign_7 : decode cX12_isSign 7 = .ok (.if_icmp .ne 27, 3) := by decide +kernel
theorem dX12_isSign_10 : decode cX12_isSign 10 = .ok (.aload_n 0, 1) := by decide +kernel
theorem dX12_isSign_11 : decode cX12_isSign 11 = .ok (.getfield 46, 3) := by decide +kernel
theorem dX12_isSign_14 : decode cX12_isSign 14 = .ok (.iload_n 1, 1) := by decide +kernel
theorem dX12_isSign_15 : decode cX12_isSign 15 = .ok (.iaload, 1) := by decide +kernel
theorem dX12_isSign_16 : decode cX12_isSign 16 = .ok (.iconst 1, 1) := by decide +kernel
theorem dX12_isSign_17 : decode cX12_isSign 17 = .ok (.if_icmp .ne 17, 3) := by decide +kernel
theorem dX12_isSign_20 : decode cX12_isSign 20 = .ok (.aload_n 0, 1) := by decide +kernel
theorem dX12_isSign_21 : decode cX12_isSign 21 = .ok (.iload_n 1, 1) := by decide +kernel
theorem dX12_isSign_22 : decode cX12_isSign 22 = .ok (.iconst 0, 1) := by decide +kernel
theorem dX12_isSign_23 : decode cX12_isSign 23 = .ok (.invokevirtual 370, 3) := by decide +kernel
theorem dX12_isSign_26 : decode cX12_isSign 26 = .ok (.iload_n 2, 1) := by decide +kernel
theorem dX12_isSign_27 : decode cX12_isSign 27 = .ok (.if_icmp .ne 7, 3) := by decide +kernel
theorem dX12_isSign_30 : decode cX12_isSign 30 = .ok (.iconst 1, 1) := by decide +kernel
theorem dX12_isSign_31 : decode cX12_isSign 31 = .ok (.goto 4, 3) := by decide +kernel
theorem dX12_isSign_34 : decode cX12_isSign 34 = .ok (.iconst 0, 1) := by decide +kernel
theorem dX12_isSign_35 : decode cX12_isSign 35 = .ok (.ireturn, 1) := by decide +kernel
theorem dX12_isTwo_0 : decode cX12_isTwo 0 = .ok (.aload_n 0, 1) := by decide +kernel
theorem dX12_isTwo_1 : decode cX12_isTwo 1 = .ok (.getfield 40, 3) := by decide +kernel
theorem dX12_isTwo_4 : decode cX12_isTwo 4 = .ok (.iload_n 1, 1) := by decide +kernel
theorem dX12_isTwo_5 : decode cX12_isTwo 5 = .ok (.iaload, 1) := by decide +kernel
theorem dX12_isTwo_6 : decode cX12_isTwo 6 = .ok (.iconst 3, 1) := by decide +kernel
theorem dX12_isTwo_7 : decode cX12_isTwo 7 = .ok (.if_icmp .ne 37, 3) := by decide +kernel
theorem dX12_isTwo_10 : decode cX12_isTwo 10 = .ok (.aload_n 0, 1) := by decide +kernel
theorem dX12_isTwo_11 : decode cX12_isTwo 11 = .ok (.getfield 46, 3) := by decide +kernel
theorem dX12_isTwo_14 : decode cX12_isTwo 14 = .ok (.iload_n 1, 1) := by decide +kernel
theorem dX12_isTwo_15 : decode cX12_isTwo 15 = .ok (.iaload, 1) := by decide +kernel
theorem dX12_isTwo_16 : decode cX12_isTwo 16 = .ok (.iconst 2, 1) := by decide +kernel
theorem dX12_isTwo_17 : decode cX12_isTwo 17 = .ok (.if_icmp .ne 27, 3) := by decide +kernel
theorem dX12_isTwo_20 : decode cX12_isTwo 20 = .ok (.aload_n 0, 1) := by decide +kernel
theorem dX12_isTwo_21 : decode cX12_isTwo 21 = .ok (.iload_n 1, 1) := by decide +kernel
theorem dX12_isTwo_22 : decode cX12_isTwo 22 = .ok (.iconst 0, 1) := by decide +kernel
theorem dX12_isTwo_23 : decode cX12_isTwo 23 = .ok (.invokevirtual 370, 3) := by decide +kernel
theorem dX12_isTwo_26 : decode cX12_isTwo 26 = .ok (.iload_n 2, 1) := by decide +kernel
theorem dX12_isTwo_27 : decode cX12_isTwo 27 = .ok (.if_icmp .ne 17, 3) := by decide +kernel
theorem dX12_isTwo_30 : decode cX12_isTwo 30 = .ok (.aload_n 0, 1) := by decide +kernel
theorem dX12_isTwo_31 : decode cX12_isTwo 31 = .ok (.iload_n 1, 1) := by decide +kernel
theorem dX12_isTwo_32 : decode cX12_isTwo 32 = .ok (.iconst 1, 1) := by decide +kernel
theorem dX12_isTwo_33 : decode cX12_isTwo 33 = .ok (.invokevirtual 370, 3) := by decide +kernel
theorem dX12_isTwo_36 : decode cX12_isTwo 36 = .ok (.iload_n 3, 1) := by decide +kernel
theorem dX12_isTwo_37 : decode cX12_isTwo 37 = .ok (.if_icmp .ne 7, 3) := by decide +kernel
theorem dX12_isTwo_40 : decode cX12_isTwo 40 = .ok (.iconst 1, 1) := by decide +kernel
theorem dX12_isTwo_41 : decode cX12_isTwo 41 = .ok (.goto 4, 3) := by decide +kernel
theorem dX12_isTwo_44 : decode cX12_isTwo 44 = .ok (.iconst 0, 1) := by decide +kernel
theorem dX12_isTwo_45 : decode cX12_isTwo 45 = .ok (.ireturn, 1) := by decide +kernel
theorem dX12_isHash_0 : decode cX12_isHash 0 = .ok (.aload_n 0, 1) := by decide +kernel
theorem dX12_isHash_1 : decode cX12_isHash 1 = .ok (.iload_n 1, 1) := by decide +kernel
theorem dX12_isHash_2 : decode cX12_isHash 2 = .ok (.bipush 35, 2) := by decide +kernel
theorem dX12_isHash_4 : decode cX12_isHash 4 = .ok (.invokevirtual 406, 3) := by decide +kernel
theorem dX12_isHash_7 : decode cX12_isHash 7 = .ok (.ireturn, 1) := by decide +kernel
theorem dX12_isLike_0 : decode cX12_isLike 0 = .ok (.aload_n 0, 1) := by decide +kernel
theorem dX12_isLike_1 : decode cX12_isLike 1 = .ok (.getfield 46, 3) := by decide +kernel
theorem dX12_isLike_4 : decode cX12_isLike 4 = .ok (.iload_n 1, 1) := by decide +kernel
theorem dX12_isLike_5 : decode cX12_isLike 5 = .ok (.iaload, 1) := by decide +kernel
theorem dX12_isLike_6 : decode cX12_isLike 6 = .ok (.aload_n 0, 1) := by decide +kernel
theorem dX12_isLike_7 : decode cX12_isLike 7 = .ok (.getfield 46, 3) := by decide +kernel
theorem dX12_isLike_10 : decode cX12_isLike 10 = .ok (.iload_n 2, 1) := by decide +kernel
theorem dX12_isLike_11 : decode cX12_isLike 11 = .ok (.iaload, 1) := by decide +kernel
theorem dX12_isLike_12 : decode cX12_isLike 12 = .ok (.if_icmp .ne 7, 3) := by decide +kernel
theorem dX12_isLike_15 : decode cX12_isLike 15 = .ok (.iconst 1, 1) := by decide +kernel
theorem dX12_isLike_16 : decode cX12_isLike 16 = .ok (.goto 4, 3) := by decide +kernel
theorem dX12_isLike_19 : decode cX12_isLike 19 = .ok (.iconst 0, 1) := by decide +kernel
theorem dX12_isLike_20 : decode cX12_isLike 20 = .ok (.istore_n 3, 1) := by decide +kernel
theorem dX12_isLike_21 : decode cX12_isLike 21 = .ok (.iconst 0, 1) := by decide +kernel
theorem dX12_isLike_22 : decode cX12_isLike 22 = .ok (.istore 4, 2) := by decide +kernel
theorem dX12_isLike_24 : decode cX12_isLike 24 = .ok (.iload 4, 2) := by decide +kernel
theorem dX12_isLike_26 : decode cX12_isLike 26 = .ok (.aload_n 0, 1) := by decide +kernel
theorem dX12_isLike_27 : decode cX12_isLike 27 = .ok (.getfield 46, 3) := by decide +kernel
theorem dX12_isLike_30 : decode cX12_isLike 30 = .ok (.iload_n 1, 1) := by decide +kernel
theorem dX12_isLike_31 : decode cX12_isLike 31 = .ok (.iaload, 1) := by decide +kernel
theorem dX12_isLike_32 : decode cX12_isLike 32 = .ok (.if_icmp .ge 36, 3) := by decide +kernel
theorem dX12_isLike_35 : decode cX12_isLike 35 = .ok (.iload_n 3, 1) := by decide +kernel
theorem dX12_isLike_36 : decode cX12_isLike 36 = .ok (.ifCond .eq 32, 3) := by decide +kernel
theorem dX12_isLike_39 : decode cX12_isLike 39 = .ok (.aload_n 0, 1) := by decide +kernel
theorem dX12_isLike_40 : decode cX12_isLike 40 = .ok (.iload_n 1, 1) := by decide +kernel
theorem dX12_isLike_41 : decode cX12_isLike 41 = .ok (.iload 4, 2) := by decide +kernel
theorem dX12_isLike_43 : decode cX12_isLike 43 = .ok (.invokevirtual 370, 3) := by decide +kernel
theorem dX12_isLike_46 : decode cX12_isLike 46 = .ok (.aload_n 0, 1) := by decide +kernel
theorem dX12_isLike_47 : decode cX12_isLike 47 = .ok (.iload_n 2, 1) := by decide +kernel
theorem dX12_isLike_48 : decode cX12_isLike 48 = .ok (.iload 4, 2) := by decide +kernel
theorem dX12_isLike_50 : decode cX12_isLike 50 = .ok (.invokevirtual 370, 3) := by decide +kernel
theorem dX12_isLike_53 : decode cX12_isLike 53 = .ok (.if_icmp .ne 7, 3) := by decide +kernel
theorem dX12_isLike_56 : decode cX12_isLike 56 = .ok (.iconst 1, 1) := by decide +kernel
theorem dX12_isLike_57 : decode cX12_isLike 57 = .ok (.goto 4, 3) := by decide +kernel
theorem dX12_isLike_60 : decode cX12_isLike 60 = .ok (.iconst 0, 1) := by decide +kernel
theorem dX12_isLike_61 : decode cX12_isLike 61 = .ok (.istore_n 3, 1) := by decide +kernel
theorem dX12_isLike_62 : decode cX12_isLike 62 = .ok (.iinc 4 1, 3) := by decide +kernel
theorem dX12_isLike_65 : decode cX12_isLike 65 = .ok (.goto (-41), 3) := by decide +kernel
theorem dX12_isLike_68 : decode cX12_isLike 68 = .ok (.iload_n 3, 1) := by decide +kernel
theorem dX12_isLike_69 : decode cX12_isLike 69 = .ok (.ireturn, 1) := by decide +kernel
theorem dX12_isDefined_0 : decode cX12_isDefined 0 = .ok (.aload_n 0, 1) := by decide +kernel
theorem dX12_isDefined_1 : decode cX12_isDefined 1 = .ok (.getfield 40, 3) := by decide +kernel
theorem dX12_isDefined_4 : decode cX12_isDefined 4 = .ok (.iload_n 1, 1) := by decide +kernel
theorem dX12_isDefined_5 : decode cX12_isDefined 5 = .ok (.iaload, 1) := by decide +kernel
theorem dX12_isDefined_6 : decode cX12_isDefined 6 = .ok (.ifCond .ne 18, 3) := by decide +kernel
theorem dX12_isDefined_9 : decode cX12_isDefined 9 = .ok (.aload_n 0, 1) := by decide +kernel
theorem dX12_isDefined_10 : decode cX12_isDefined 10 = .ok (.getfield 46, 3) := by decide +kernel
theorem dX12_isDefined_13 : decode cX12_isDefined 13 = .ok (.iload_n 1, 1) := by decide +kernel
theorem dX12_isDefined_14 : decode cX12_isDefined 14 = .ok (.iaload, 1) := by decide +kernel
theorem dX12_isDefined_15 : decode cX12_isDefined 15 = .ok (.bipush 7, 2) := by decide +kernel
theorem dX12_isDefined_17 : decode cX12_isDefined 17 = .ok (.if_icmp .ne 7, 3) := by decide +kernel
theorem dX12_isDefined_20 : decode cX12_isDefined 20 = .ok (.iconst 1, 1) := by decide +kernel
theorem dX12_isDefined_21 : decode cX12_isDefined 21 = .ok (.goto 4, 3) := by decide +kernel
theorem dX12_isDefined_24 : decode cX12_isDefined 24 = .ok (.iconst 0, 1) := by decide +kernel
theorem dX12_isDefined_25 : decode cX12_isDefined 25 = .ok (.istore_n 2, 1) := by decide +kernel
theorem dX12_isDefined_26 : decode cX12_isDefined 26 = .ok (.iconst 0, 1) := by decide +kernel
theorem dX12_isDefined_27 : decode cX12_isDefined 27 = .ok (.istore_n 3, 1) := by decide +kernel
theorem dX12_isDefined_28 : decode cX12_isDefined 28 = .ok (.iload_n 3, 1) := by decide +kernel
theorem dX12_isDefined_29 : decode cX12_isDefined 29 = .ok (.bipush 7, 2) := by decide +kernel
theorem dX12_isDefined_31 : decode cX12_isDefined 31 = .ok (.if_icmp .ge 33, 3) := by decide +kernel
theorem dX12_isDefined_34 : decode cX12_isDefined 34 = .ok (.iload_n 2, 1) := by decide +kernel
theorem dX12_isDefined_35 : decode cX12_isDefined 35 = .ok (.ifCond .eq 29, 3) := by decide +kernel
theorem dX12_isDefined_38 : decode cX12_isDefined 38 = .ok (.aload_n 0, 1) := by decide +kernel
theorem dX12_isDefined_39 : decode cX12_isDefined 39 = .ok (.iload_n 1, 1) := by decide +kernel
theorem dX12_isDefined_40 : decode cX12_isDefined 40 = .ok (.iload_n 3, 1) := by decide +kernel
theorem dX12_isDefined_41 : decode cX12_isDefined 41 = .ok (.invokevirtual 370, 3) := by decide +kernel
theorem dX12_isDefined_44 : decode cX12_isDefined 44 = .ok (.getstatic 318, 3) := by decide +kernel
theorem dX12_isDefined_47 : decode cX12_isDefined 47 = .ok (.iload_n 3, 1) := by decide +kernel
theorem dX12_isDefined_48 : decode cX12_isDefined 48 = .ok (.baload, 1) := by decide +kernel
theorem dX12_isDefined_49 : decode cX12_isDefined 49 = .ok (.if_icmp .ne 7, 3) := by decide +kernel
theorem dX12_isDefined_52 : decode cX12_isDefined 52 = .ok (.iconst 1, 1) := by decide +kernel
theorem dX12_isDefined_53 : decode cX12_isDefined 53 = .ok (.goto 4, 3) := by decide +kernel
theorem dX12_isDefined_56 : decode cX12_isDefined 56 = .ok (.iconst 0, 1) := by decide +kernel
theorem dX12_isDefined_57 : decode cX12_isDefined 57 = .ok (.istore_n 2, 1) := by decide +kernel
theorem dX12_isDefined_58 : decode cX12_isDefined 58 = .ok (.iinc 3 1, 3) := by decide +kernel
theorem dX12_isDefined_61 : decode cX12_isDefined 61 = .ok (.goto (-33), 3) := by decide +kernel
theorem dX12_isDefined_64 : decode cX12_isDefined 64 = .ok (.iload_n 2, 1) := by decide +kernel
theorem dX12_isDefined_65 : decode cX12_isDefined 65 = .ok (.ireturn, 1) := by decide +kernel
theorem dX12_wordOf_0 : decode cX12_wordOf 0 = .ok (.iload_n 1, 1) := by decide +kernel
theorem dX12_wordOf_1 : decode cX12_wordOf 1 = .ok (.aload_n 0, 1) := by decide +kernel
theorem dX12_wordOf_2 : decode cX12_wordOf 2 = .ok (.getfield 355, 3) := by decide +kernel
theorem dX12_wordOf_5 : decode cX12_wordOf 5 = .ok (.if_icmp .ge 12, 3) := by decide +kernel
theorem dX12_wordOf_8 : decode cX12_wordOf 8 = .ok (.aload_n 0, 1) := by decide +kernel
theorem dX12_wordOf_9 : decode cX12_wordOf 9 = .ok (.getfield 40, 3) := by decide +kernel
theorem dX12_wordOf_12 : decode cX12_wordOf 12 = .ok (.iload_n 1, 1) := by decide +kernel
theorem dX12_wordOf_13 : decode cX12_wordOf 13 = .ok (.iaload, 1) := by decide +kernel
theorem dX12_wordOf_14 : decode cX12_wordOf 14 = .ok (.ifCond .eq 5, 3) := by decide +kernel
theorem dX12_wordOf_17 : decode cX12_wordOf 17 = .ok (.iconst (-1), 1) := by decide +kernel
theorem dX12_wordOf_18 : decode cX12_wordOf 18 = .ok (.ireturn, 1) := by decide +kernel
theorem dX12_wordOf_19 : decode cX12_wordOf 19 = .ok (.iconst 0, 1) := by decide +kernel
theorem dX12_wordOf_20 : decode cX12_wordOf 20 = .ok (.istore_n 2, 1) := by decide +kernel
theorem dX12_wordOf_21 : decode cX12_wordOf 21 = .ok (.iload_n 2, 1) := by decide +kernel
theorem dX12_wordOf_22 : decode cX12_wordOf 22 = .ok (.aload_n 0, 1) := by decide +kernel
theorem dX12_wordOf_23 : decode cX12_wordOf 23 = .ok (.getfield 46, 3) := by decide +kernel
theorem dX12_wordOf_26 : decode cX12_wordOf 26 = .ok (.iload_n 1, 1) := by decide +kernel
theorem dX12_wordOf_27 : decode cX12_wordOf 27 = .ok (.iaload, 1) := by decide +kernel
theorem dX12_wordOf_28 : decode cX12_wordOf 28 = .ok (.if_icmp .ge 22, 3) := by decide +kernel
theorem dX12_wordOf_31 : decode cX12_wordOf 31 = .ok (.aload_n 0, 1) := by decide +kernel
theorem dX12_wordOf_32 : decode cX12_wordOf 32 = .ok (.getfield 80, 3) := by decide +kernel
theorem dX12_wordOf_35 : decode cX12_wordOf 35 = .ok (.iload_n 2, 1) := by decide +kernel
theorem dX12_wordOf_36 : decode cX12_wordOf 36 = .ok (.aload_n 0, 1) := by decide +kernel
theorem dX12_wordOf_37 : decode cX12_wordOf 37 = .ok (.iload_n 1, 1) := by decide +kernel
theorem dX12_wordOf_38 : decode cX12_wordOf 38 = .ok (.iload_n 2, 1) := by decide +kernel
theorem dX12_wordOf_39 : decode cX12_wordOf 39 = .ok (.invokevirtual 370, 3) := by decide +kernel
theorem dX12_wordOf_42 : decode cX12_wordOf 42 = .ok (.i2b, 1) := by decide +kernel
theorem dX12_wordOf_43 : decode cX12_wordOf 43 = .ok (.bastore, 1) := by decide +kernel
theorem dX12_wordOf_44 : decode cX12_wordOf 44 = .ok (.iinc 2 1, 3) := by decide +kernel
theorem dX12_wordOf_47 : decode cX12_wordOf 47 = .ok (.goto (-26), 3) := by decide +kernel
theorem dX12_wordOf_50 : decode cX12_wordOf 50 = .ok (.aload_n 0, 1) := by decide +kernel
theorem dX12_wordOf_51 : decode cX12_wordOf 51 = .ok (.aload_n 0, 1) := by decide +kernel
theorem dX12_wordOf_52 : decode cX12_wordOf 52 = .ok (.getfield 80, 3) := by decide +kernel
theorem dX12_wordOf_55 : decode cX12_wordOf 55 = .ok (.iconst 0, 1) := by decide +kernel
theorem dX12_wordOf_56 : decode cX12_wordOf 56 = .ok (.aload_n 0, 1) := by decide +kernel
theorem dX12_wordOf_57 : decode cX12_wordOf 57 = .ok (.getfield 46, 3) := by decide +kernel
theorem dX12_wordOf_60 : decode cX12_wordOf 60 = .ok (.iload_n 1, 1) := by decide +kernel
theorem dX12_wordOf_61 : decode cX12_wordOf 61 = .ok (.iaload, 1) := by decide +kernel
theorem dX12_wordOf_62 : decode cX12_wordOf 62 = .ok (.invokevirtual 333, 3) := by decide +kernel
theorem dX12_wordOf_65 : decode cX12_wordOf 65 = .ok (.ireturn, 1) := by decide +kernel
theorem dX12_numberOf_0 : decode cX12_numberOf 0 = .ok (.iconst 0, 1) := by decide +kernel
theorem dX12_numberOf_1 : decode cX12_numberOf 1 = .ok (.istore_n 2, 1) := by decide +kernel
theorem dX12_numberOf_2 : decode cX12_numberOf 2 = .ok (.iload_n 2, 1) := by decide +kernel
theorem dX12_numberOf_3 : decode cX12_numberOf 3 = .ok (.aload_n 0, 1) := by decide +kernel
theorem dX12_numberOf_4 : decode cX12_numberOf 4 = .ok (.getfield 68, 3) := by decide +kernel
theorem dX12_numberOf_7 : decode cX12_numberOf 7 = .ok (.iconst 0, 1) := by decide +kernel
theorem dX12_numberOf_8 : decode cX12_numberOf 8 = .ok (.iaload, 1) := by decide +kernel
theorem dX12_numberOf_9 : decode cX12_numberOf 9 = .ok (.if_icmp .ge 92, 3) := by decide +kernel
theorem dX12_numberOf_12 : decode cX12_numberOf 12 = .ok (.aload_n 0, 1) := by decide +kernel
theorem dX12_numberOf_13 : decode cX12_numberOf 13 = .ok (.getfield 68, 3) := by decide +kernel
theorem dX12_numberOf_16 : decode cX12_numberOf 16 = .ok (.sipush 175, 3) := by decide +kernel
theorem dX12_numberOf_19 : decode cX12_numberOf 19 = .ok (.iload_n 2, 1) := by decide +kernel
theorem dX12_numberOf_20 : decode cX12_numberOf 20 = .ok (.iadd, 1) := by decide +kernel
theorem dX12_numberOf_21 : decode cX12_numberOf 21 = .ok (.iaload, 1) := by decide +kernel
theorem dX12_numberOf_22 : decode cX12_numberOf 22 = .ok (.aload_n 0, 1) := by decide +kernel
theorem dX12_numberOf_23 : decode cX12_numberOf 23 = .ok (.getfield 46, 3) := by decide +kernel
theorem dX12_numberOf_26 : decode cX12_numberOf 26 = .ok (.iload_n 1, 1) := by decide +kernel
theorem dX12_numberOf_27 : decode cX12_numberOf 27 = .ok (.iaload, 1) := by decide +kernel
theorem dX12_numberOf_28 : decode cX12_numberOf 28 = .ok (.if_icmp .ne 7, 3) := by decide +kernel
theorem dX12_numberOf_31 : decode cX12_numberOf 31 = .ok (.iconst 1, 1) := by decide +kernel
theorem dX12_numberOf_32 : decode cX12_numberOf 32 = .ok (.goto 4, 3) := by decide +kernel
theorem dX12_numberOf_35 : decode cX12_numberOf 35 = .ok (.iconst 0, 1) := by decide +kernel
theorem dX12_numberOf_36 : decode cX12_numberOf 36 = .ok (.istore_n 3, 1) := by decide +kernel
theorem dX12_numberOf_37 : decode cX12_numberOf 37 = .ok (.iconst 0, 1) := by decide +kernel
theorem dX12_numberOf_38 : decode cX12_numberOf 38 = .ok (.istore 4, 2) := by decide +kernel
theorem dX12_numberOf_40 : decode cX12_numberOf 40 = .ok (.iload 4, 2) := by decide +kernel
theorem dX12_numberOf_42 : decode cX12_numberOf 42 = .ok (.aload_n 0, 1) := by decide +kernel
theorem dX12_numberOf_43 : decode cX12_numberOf 43 = .ok (.getfield 46, 3) := by decide +kernel
theorem dX12_numberOf_46 : decode cX12_numberOf 46 = .ok (.iload_n 1, 1) := by decide +kernel
theorem dX12_numberOf_47 : decode cX12_numberOf 47 = .ok (.iaload, 1) := by decide +kernel
theorem dX12_numberOf_48 : decode cX12_numberOf 48 = .ok (.if_icmp .ge 41, 3) := by decide +kernel
theorem dX12_numberOf_51 : decode cX12_numberOf 51 = .ok (.iload_n 3, 1) := by decide +kernel
theorem dX12_numberOf_52 : decode cX12_numberOf 52 = .ok (.ifCond .eq 37, 3) := by decide +kernel
theorem dX12_numberOf_55 : decode cX12_numberOf 55 = .ok (.aload_n 0, 1) := by decide +kernel
theorem dX12_numberOf_56 : decode cX12_numberOf 56 = .ok (.getfield 74, 3) := by decide +kernel
theorem dX12_numberOf_59 : decode cX12_numberOf 59 = .ok (.bipush 30, 2) := by decide +kernel
theorem dX12_numberOf_61 : decode cX12_numberOf 61 = .ok (.iload_n 2, 1) := by decide +kernel
theorem dX12_numberOf_62 : decode cX12_numberOf 62 = .ok (.imul, 1) := by decide +kernel
theorem dX12_numberOf_63 : decode cX12_numberOf 63 = .ok (.iload 4, 2) := by decide +kernel
theorem dX12_numberOf_65 : decode cX12_numberOf 65 = .ok (.iadd, 1) := by decide +kernel
theorem dX12_numberOf_66 : decode cX12_numberOf 66 = .ok (.baload, 1) := by decide +kernel
theorem dX12_numberOf_67 : decode cX12_numberOf 67 = .ok (.aload_n 0, 1) := by decide +kernel
theorem dX12_numberOf_68 : decode cX12_numberOf 68 = .ok (.iload_n 1, 1) := by decide +kernel
theorem dX12_numberOf_69 : decode cX12_numberOf 69 = .ok (.iload 4, 2) := by decide +kernel
theorem dX12_numberOf_71 : decode cX12_numberOf 71 = .ok (.invokevirtual 370, 3) := by decide +kernel
theorem dX12_numberOf_74 : decode cX12_numberOf 74 = .ok (.if_icmp .ne 7, 3) := by decide +kernel
theorem dX12_numberOf_77 : decode cX12_numberOf 77 = .ok (.iconst 1, 1) := by decide +kernel
theorem dX12_numberOf_78 : decode cX12_numberOf 78 = .ok (.goto 4, 3) := by decide +kernel
theorem dX12_numberOf_81 : decode cX12_numberOf 81 = .ok (.iconst 0, 1) := by decide +kernel
theorem dX12_numberOf_82 : decode cX12_numberOf 82 = .ok (.istore_n 3, 1) := by decide +kernel
theorem dX12_numberOf_83 : decode cX12_numberOf 83 = .ok (.iinc 4 1, 3) := by decide +kernel
theorem dX12_numberOf_86 : decode cX12_numberOf 86 = .ok (.goto (-46), 3) := by decide +kernel
theorem dX12_numberOf_89 : decode cX12_numberOf 89 = .ok (.iload_n 3, 1) := by decide +kernel
theorem dX12_numberOf_90 : decode cX12_numberOf 90 = .ok (.ifCond .eq 5, 3) := by decide +kernel
theorem dX12_numberOf_93 : decode cX12_numberOf 93 = .ok (.iload_n 2, 1) := by decide +kernel
theorem dX12_numberOf_94 : decode cX12_numberOf 94 = .ok (.ireturn, 1) := by decide +kernel
theorem dX12_numberOf_95 : decode cX12_numberOf 95 = .ok (.iinc 2 1, 3) := by decide +kernel
theorem dX12_numberOf_98 : decode cX12_numberOf 98 = .ok (.goto (-96), 3) := by decide +kernel
theorem dX12_numberOf_101 : decode cX12_numberOf 101 = .ok (.iconst (-1), 1) := by decide +kernel
theorem dX12_numberOf_102 : decode cX12_numberOf 102 = .ok (.ireturn, 1) := by decide +kernel
theorem dX12_macroOf_0 : decode cX12_macroOf 0 = .ok (.aload_n 0, 1) := by decide +kernel
theorem dX12_macroOf_1 : decode cX12_macroOf 1 = .ok (.getfield 40, 3) := by decide +kernel
theorem dX12_macroOf_4 : decode cX12_macroOf 4 = .ok (.iload_n 1, 1) := by decide +kernel
theorem dX12_macroOf_5 : decode cX12_macroOf 5 = .ok (.iaload, 1) := by decide +kernel
theorem dX12_macroOf_6 : decode cX12_macroOf 6 = .ok (.ifCond .ne 11, 3) := by decide +kernel
theorem dX12_macroOf_9 : decode cX12_macroOf 9 = .ok (.aload_n 0, 1) := by decide +kernel
theorem dX12_macroOf_10 : decode cX12_macroOf 10 = .ok (.iload_n 1, 1) := by decide +kernel
theorem dX12_macroOf_11 : decode cX12_macroOf 11 = .ok (.invokevirtual 409, 3) := by decide +kernel
theorem dX12_macroOf_14 : decode cX12_macroOf 14 = .ok (.goto 4, 3) := by decide +kernel
theorem dX12_macroOf_17 : decode cX12_macroOf 17 = .ok (.iconst (-1), 1) := by decide +kernel
theorem dX12_macroOf_18 : decode cX12_macroOf 18 = .ok (.istore_n 2, 1) := by decide +kernel
theorem dX12_macroOf_19 : decode cX12_macroOf 19 = .ok (.iload_n 2, 1) := by decide +kernel
theorem dX12_macroOf_20 : decode cX12_macroOf 20 = .ok (.ifCond .lt 21, 3) := by decide +kernel
theorem dX12_macroOf_23 : decode cX12_macroOf 23 = .ok (.aload_n 0, 1) := by decide +kernel
theorem dX12_macroOf_24 : decode cX12_macroOf 24 = .ok (.getfield 68, 3) := by decide +kernel
theorem dX12_macroOf_27 : decode cX12_macroOf 27 = .ok (.sipush 187, 3) := by decide +kernel
theorem dX12_macroOf_30 : decode cX12_macroOf 30 = .ok (.iload_n 2, 1) := by decide +kernel
theorem dX12_macroOf_31 : decode cX12_macroOf 31 = .ok (.iadd, 1) := by decide +kernel
theorem dX12_macroOf_32 : decode cX12_macroOf 32 = .ok (.iaload, 1) := by decide +kernel
theorem dX12_macroOf_33 : decode cX12_macroOf 33 = .ok (.iconst 1, 1) := by decide +kernel
theorem dX12_macroOf_34 : decode cX12_macroOf 34 = .ok (.if_icmp .ne 7, 3) := by decide +kernel
theorem dX12_macroOf_37 : decode cX12_macroOf 37 = .ok (.iload_n 2, 1) := by decide +kernel
theorem dX12_macroOf_38 : decode cX12_macroOf 38 = .ok (.goto 4, 3) := by decide +kernel
theorem dX12_macroOf_41 : decode cX12_macroOf 41 = .ok (.iconst (-1), 1) := by decide +kernel
theorem dX12_macroOf_42 : decode cX12_macroOf 42 = .ok (.ireturn, 1) := by decide +kernel
theorem dX12_bodyAt_0 : decode cX12_bodyAt 0 = .ok (.bipush 20, 2) := by decide +kernel
theorem dX12_bodyAt_2 : decode cX12_bodyAt 2 = .ok (.iload_n 0, 1) := by decide +kernel
theorem dX12_bodyAt_3 : decode cX12_bodyAt 3 = .ok (.imul, 1) := by decide +kernel
theorem dX12_bodyAt_4 : decode cX12_bodyAt 4 = .ok (.iload_n 1, 1) := by decide +kernel
theorem dX12_bodyAt_5 : decode cX12_bodyAt 5 = .ok (.iadd, 1) := by decide +kernel
theorem dX12_bodyAt_6 : decode cX12_bodyAt 6 = .ok (.ireturn, 1) := by decide +kernel
theorem dX12_bodyByte_0 : decode cX12_bodyByte 0 = .ok (.sipush 360, 3) := by decide +kernel
theorem dX12_bodyByte_3 : decode cX12_bodyByte 3 = .ok (.bipush 30, 2) := by decide +kernel
theorem dX12_bodyByte_5 : decode cX12_bodyByte 5 = .ok (.iload_n 0, 1) := by decide +kernel
theorem dX12_bodyByte_6 : decode cX12_bodyByte 6 = .ok (.iload_n 1, 1) := by decide +kernel
theorem dX12_bodyByte_7 : decode cX12_bodyByte 7 = .ok (.invokestatic 412, 3) := by decide +kernel
theorem dX12_bodyByte_10 : decode cX12_bodyByte 10 = .ok (.imul, 1) := by decide +kernel
theorem dX12_bodyByte_11 : decode cX12_bodyByte 11 = .ok (.iadd, 1) := by decide +kernel
theorem dX12_bodyByte_12 : decode cX12_bodyByte 12 = .ok (.ireturn, 1) := by decide +kernel
theorem dX12_isBodySign_0 : decode cX12_isBodySign 0 = .ok (.iload_n 2, 1) := by decide +kernel
theorem dX12_isBodySign_1 : decode cX12_isBodySign 1 = .ok (.ifCond .lt 58, 3) := by decide +kernel
theorem dX12_isBodySign_4 : decode cX12_isBodySign 4 = .ok (.iload_n 2, 1) := by decide +kernel
theorem dX12_isBodySign_5 : decode cX12_isBodySign 5 = .ok (.aload_n 0, 1) := by decide +kernel
theorem dX12_isBodySign_6 : decode cX12_isBodySign 6 = .ok (.getfield 68, 3) := by decide +kernel
theorem dX12_isBodySign_9 : decode cX12_isBodySign 9 = .ok (.sipush 211, 3) := by decide +kernel
theorem dX12_isBodySign_12 : decode cX12_isBodySign 12 = .ok (.iload_n 1, 1) := by decide +kernel
theorem dX12_isBodySign_13 : decode cX12_isBodySign 13 = .ok (.iadd, 1) := by decide +kernel
theorem dX12_isBodySign_14 : decode cX12_isBodySign 14 = .ok (.iaload, 1) := by decide +kernel
theorem dX12_isBodySign_15 : decode cX12_isBodySign 15 = .ok (.if_icmp .ge 44, 3) := by decide +kernel
theorem dX12_isBodySign_18 : decode cX12_isBodySign 18 = .ok (.aload_n 0, 1) := by decide +kernel
theorem dX12_isBodySign_19 : decode cX12_isBodySign 19 = .ok (.getfield 68, 3) := by decide +kernel
theorem dX12_isBodySign_22 : decode cX12_isBodySign 22 = .ok (.sipush 259, 3) := by decide +kernel
theorem dX12_isBodySign_25 : decode cX12_isBodySign 25 = .ok (.iload_n 1, 1) := by decide +kernel
theorem dX12_isBodySign_26 : decode cX12_isBodySign 26 = .ok (.iload_n 2, 1) := by decide +kernel
theorem dX12_isBodySign_27 : decode cX12_isBodySign 27 = .ok (.invokestatic 412, 3) := by decide +kernel
theorem dX12_isBodySign_30 : decode cX12_isBodySign 30 = .ok (.iadd, 1) := by decide +kernel
theorem dX12_isBodySign_31 : decode cX12_isBodySign 31 = .ok (.iaload, 1) := by decide +kernel
theorem dX12_isBodySign_32 : decode cX12_isBodySign 32 = .ok (.iconst 3, 1) := by decide +kernel
theorem dX12_isBodySign_33 : decode cX12_isBodySign 33 = .ok (.if_icmp .ne 26, 3) := by decide +kernel
theorem dX12_isBodySign_36 : decode cX12_isBodySign 36 = .ok (.aload_n 0, 1) := by decide +kernel
theorem dX12_isBodySign_37 : decode cX12_isBodySign 37 = .ok (.getfield 68, 3) := by decide +kernel
theorem dX12_isBodySign_40 : decode cX12_isBodySign 40 = .ok (.sipush 499, 3) := by decide +kernel
theorem dX12_isBodySign_43 : decode cX12_isBodySign 43 = .ok (.iload_n 1, 1) := by decide +kernel
theorem dX12_isBodySign_44 : decode cX12_isBodySign 44 = .ok (.iload_n 2, 1) := by decide +kernel
theorem dX12_isBodySign_45 : decode cX12_isBodySign 45 = .ok (.invokestatic 412, 3) := by decide +kernel
theorem dX12_isBodySign_48 : decode cX12_isBodySign 48 = .ok (.iadd, 1) := by decide +kernel
theorem dX12_isBodySign_49 : decode cX12_isBodySign 49 = .ok (.iaload, 1) := by decide +kernel
theorem dX12_isBodySign_50 : decode cX12_isBodySign 50 = .ok (.iload 4, 2) := by decide +kernel
theorem dX12_isBodySign_52 : decode cX12_isBodySign 52 = .ok (.if_icmp .ne 7, 3) := by decide +kernel
theorem dX12_isBodySign_55 : decode cX12_isBodySign 55 = .ok (.iconst 1, 1) := by decide +kernel
theorem dX12_isBodySign_56 : decode cX12_isBodySign 56 = .ok (.goto 4, 3) := by decide +kernel
theorem dX12_isBodySign_59 : decode cX12_isBodySign 59 = .ok (.iconst 0, 1) := by decide +kernel
theorem dX12_isBodySign_60 : decode cX12_isBodySign 60 = .ok (.istore 5, 2) := by decide +kernel
theorem dX12_isBodySign_62 : decode cX12_isBodySign 62 = .ok (.iconst 0, 1) := by decide +kernel
theorem dX12_isBodySign_63 : decode cX12_isBodySign 63 = .ok (.istore 6, 2) := by decide +kernel
theorem dX12_isBodySign_65 : decode cX12_isBodySign 65 = .ok (.iload 6, 2) := by decide +kernel
theorem dX12_isBodySign_67 : decode cX12_isBodySign 67 = .ok (.iload 4, 2) := by decide +kernel
theorem dX12_isBodySign_69 : decode cX12_isBodySign 69 = .ok (.if_icmp .ge 38, 3) := by decide +kernel
theorem dX12_isBodySign_72 : decode cX12_isBodySign 72 = .ok (.iload 5, 2) := by decide +kernel
theorem dX12_isBodySign_74 : decode cX12_isBodySign 74 = .ok (.ifCond .eq 33, 3) := by decide +kernel
theorem dX12_isBodySign_77 : decode cX12_isBodySign 77 = .ok (.aload_n 0, 1) := by decide +kernel
theorem dX12_isBodySign_78 : decode cX12_isBodySign 78 = .ok (.getfield 74, 3) := by decide +kernel
theorem dX12_isBodySign_81 : decode cX12_isBodySign 81 = .ok (.iload_n 1, 1) := by decide +kernel
theorem dX12_isBodySign_82 : decode cX12_isBodySign 82 = .ok (.iload_n 2, 1) := by decide +kernel
theorem dX12_isBodySign_83 : decode cX12_isBodySign 83 = .ok (.invokestatic 415, 3) := by decide +kernel
theorem dX12_isBodySign_86 : decode cX12_isBodySign 86 = .ok (.iload 6, 2) := by decide +kernel
theorem dX12_isBodySign_88 : decode cX12_isBodySign 88 = .ok (.iadd, 1) := by decide +kernel
theorem dX12_isBodySign_89 : decode cX12_isBodySign 89 = .ok (.baload, 1) := by decide +kernel
theorem dX12_isBodySign_90 : decode cX12_isBodySign 90 = .ok (.iload_n 3, 1) := by decide +kernel
theorem dX12_isBodySign_91 : decode cX12_isBodySign 91 = .ok (.if_icmp .ne 7, 3) := by decide +kernel
theorem dX12_isBodySign_94 : decode cX12_isBodySign 94 = .ok (.iconst 1, 1) := by decide +kernel
theorem dX12_isBodySign_95 : decode cX12_isBodySign 95 = .ok (.goto 4, 3) := by decide +kernel
theorem dX12_isBodySign_98 : decode cX12_isBodySign 98 = .ok (.iconst 0, 1) := by decide +kernel
theorem dX12_isBodySign_99 : decode cX12_isBodySign 99 = .ok (.istore 5, 2) := by decide +kernel
theorem dX12_isBodySign_101 : decode cX12_isBodySign 101 = .ok (.iinc 6 1, 3) := by decide +kernel
theorem dX12_isBodySign_104 : decode cX12_isBodySign 104 = .ok (.goto (-39), 3) := by decide +kernel
theorem dX12_isBodySign_107 : decode cX12_isBodySign 107 = .ok (.iload 5, 2) := by decide +kernel
theorem dX12_isBodySign_109 : decode cX12_isBodySign 109 = .ok (.ireturn, 1) := by decide +kernel
theorem dX12_isPaste_0 : decode cX12_isPaste 0 = .ok (.aload_n 0, 1) := by decide +kernel
theorem dX12_isPaste_1 : decode cX12_isPaste 1 = .ok (.iload_n 1, 1) := by decide +kernel
theorem dX12_isPaste_2 : decode cX12_isPaste 2 = .ok (.iload_n 2, 1) := by decide +kernel
theorem dX12_isPaste_3 : decode cX12_isPaste 3 = .ok (.bipush 35, 2) := by decide +kernel
theorem dX12_isPaste_5 : decode cX12_isPaste 5 = .ok (.iconst 2, 1) := by decide +kernel
theorem dX12_isPaste_6 : decode cX12_isPaste 6 = .ok (.invokevirtual 418, 3) := by decide +kernel
theorem dX12_isPaste_9 : decode cX12_isPaste 9 = .ok (.ireturn, 1) := by decide +kernel
theorem dX12_isMaking_0 : decode cX12_isMaking 0 = .ok (.aload_n 0, 1) := by decide +kernel
theorem dX12_isMaking_1 : decode cX12_isMaking 1 = .ok (.getfield 68, 3) := by decide +kernel
theorem dX12_isMaking_4 : decode cX12_isMaking 4 = .ok (.sipush 199, 3) := by decide +kernel
theorem dX12_isMaking_7 : decode cX12_isMaking 7 = .ok (.iload_n 1, 1) := by decide +kernel
theorem dX12_isMaking_8 : decode cX12_isMaking 8 = .ok (.iadd, 1) := by decide +kernel
theorem dX12_isMaking_9 : decode cX12_isMaking 9 = .ok (.iaload, 1) := by decide +kernel
theorem dX12_isMaking_10 : decode cX12_isMaking 10 = .ok (.ifCond .lt 19, 3) := by decide +kernel
theorem dX12_isMaking_13 : decode cX12_isMaking 13 = .ok (.aload_n 0, 1) := by decide +kernel
theorem dX12_isMaking_14 : decode cX12_isMaking 14 = .ok (.iload_n 1, 1) := by decide +kernel
theorem dX12_isMaking_15 : decode cX12_isMaking 15 = .ok (.iload_n 2, 1) := by decide +kernel
theorem dX12_isMaking_16 : decode cX12_isMaking 16 = .ok (.bipush 35, 2) := by decide +kernel
theorem dX12_isMaking_18 : decode cX12_isMaking 18 = .ok (.iconst 1, 1) := by decide +kernel
theorem dX12_isMaking_19 : decode cX12_isMaking 19 = .ok (.invokevirtual 418, 3) := by decide +kernel
theorem dX12_isMaking_22 : decode cX12_isMaking 22 = .ok (.ifCond .eq 7, 3) := by decide +kernel
theorem dX12_isMaking_25 : decode cX12_isMaking 25 = .ok (.iconst 1, 1) := by decide +kernel
theorem dX12_isMaking_26 : decode cX12_isMaking 26 = .ok (.goto 4, 3) := by decide +kernel
theorem dX12_isMaking_29 : decode cX12_isMaking 29 = .ok (.iconst 0, 1) := by decide +kernel
theorem dX12_isMaking_30 : decode cX12_isMaking 30 = .ok (.ireturn, 1) := by decide +kernel
theorem dX12_parameterOf_0 : decode cX12_parameterOf 0 = .ok (.iload_n 1, 1) := by decide +kernel
theorem dX12_parameterOf_1 : decode cX12_parameterOf 1 = .ok (.aload_n 0, 1) := by decide +kernel
theorem dX12_parameterOf_2 : decode cX12_parameterOf 2 = .ok (.getfield 355, 3) := by decide +kernel
theorem dX12_parameterOf_5 : decode cX12_parameterOf 5 = .ok (.if_icmp .ge 12, 3) := by decide +kernel
theorem dX12_parameterOf_8 : decode cX12_parameterOf 8 = .ok (.aload_n 0, 1) := by decide +kernel
theorem dX12_parameterOf_9 : decode cX12_parameterOf 9 = .ok (.getfield 40, 3) := by decide +kernel
theorem dX12_parameterOf_12 : decode cX12_parameterOf 12 = .ok (.iload_n 1, 1) := by decide +kernel
theorem dX12_parameterOf_13 : decode cX12_parameterOf 13 = .ok (.iaload, 1) := by decide +kernel
theorem dX12_parameterOf_14 : decode cX12_parameterOf 14 = .ok (.ifCond .eq 5, 3) := by decide +kernel
theorem dX12_parameterOf_17 : decode cX12_parameterOf 17 = .ok (.iconst (-1), 1) := by decide +kernel
theorem dX12_parameterOf_18 : decode cX12_parameterOf 18 = .ok (.ireturn, 1) := by decide +kernel
theorem dX12_parameterOf_19 : decode cX12_parameterOf 19 = .ok (.iconst 0, 1) := by decide +kernel
theorem dX12_parameterOf_20 : decode cX12_parameterOf 20 = .ok (.istore_n 2, 1) := by decide +kernel
theorem dX12_parameterOf_21 : decode cX12_parameterOf 21 = .ok (.iload_n 2, 1) := by decide +kernel
theorem dX12_parameterOf_22 : decode cX12_parameterOf 22 = .ok (.aload_n 0, 1) := by decide +kernel
theorem dX12_parameterOf_23 : decode cX12_parameterOf 23 = .ok (.getfield 421, 3) := by decide +kernel
theorem dX12_parameterOf_26 : decode cX12_parameterOf 26 = .ok (.if_icmp .ge 25, 3) := by decide +kernel
theorem dX12_parameterOf_29 : decode cX12_parameterOf 29 = .ok (.aload_n 0, 1) := by decide +kernel
theorem dX12_parameterOf_30 : decode cX12_parameterOf 30 = .ok (.aload_n 0, 1) := by decide +kernel
theorem dX12_parameterOf_31 : decode cX12_parameterOf 31 = .ok (.getfield 83, 3) := by decide +kernel
theorem dX12_parameterOf_34 : decode cX12_parameterOf 34 = .ok (.iload_n 2, 1) := by decide +kernel
theorem dX12_parameterOf_35 : decode cX12_parameterOf 35 = .ok (.iaload, 1) := by decide +kernel
theorem dX12_parameterOf_36 : decode cX12_parameterOf 36 = .ok (.iload_n 1, 1) := by decide +kernel
theorem dX12_parameterOf_37 : decode cX12_parameterOf 37 = .ok (.invokevirtual 424, 3) := by decide +kernel
theorem dX12_parameterOf_40 : decode cX12_parameterOf 40 = .ok (.ifCond .eq 5, 3) := by decide +kernel
theorem dX12_parameterOf_43 : decode cX12_parameterOf 43 = .ok (.iload_n 2, 1) := by decide +kernel
theorem dX12_parameterOf_44 : decode cX12_parameterOf 44 = .ok (.ireturn, 1) := by decide +kernel
theorem dX12_parameterOf_45 : decode cX12_parameterOf 45 = .ok (.iinc 2 1, 3) := by decide +kernel
theorem dX12_parameterOf_48 : decode cX12_parameterOf 48 = .ok (.goto (-27), 3) := by decide +kernel
theorem dX12_parameterOf_51 : decode cX12_parameterOf 51 = .ok (.iconst (-1), 1) := by decide +kernel
theorem dX12_parameterOf_52 : decode cX12_parameterOf 52 = .ok (.ireturn, 1) := by decide +kernel
theorem dX12_readParameters_0 : decode cX12_readParameters 0 = .ok (.iload_n 1, 1) := by decide +kernel
theorem dX12_readParameters_1 : decode cX12_readParameters 1 = .ok (.istore_n 2, 1) := by decide +kernel
theorem dX12_readParameters_2 : decode cX12_readParameters 2 = .ok (.iload_n 2, 1) := by decide +kernel
theorem dX12_readParameters_3 : decode cX12_readParameters 3 = .ok (.aload_n 0, 1) := by decide +kernel
theorem dX12_readParameters_4 : decode cX12_readParameters 4 = .ok (.getfield 355, 3) := by decide +kernel
theorem dX12_readParameters_7 : decode cX12_readParameters 7 = .ok (.if_icmp .ge 17, 3) := by decide +kernel
theorem dX12_readParameters_10 : decode cX12_readParameters 10 = .ok (.aload_n 0, 1) := by decide +kernel
theorem dX12_readParameters_11 : decode cX12_readParameters 11 = .ok (.iload_n 2, 1) := by decide +kernel
theorem dX12_readParameters_12 : decode cX12_readParameters 12 = .ok (.bipush 41, 2) := by decide +kernel
theorem dX12_readParameters_14 : decode cX12_readParameters 14 = .ok (.invokevirtual 406, 3) := by decide +kernel
theorem dX12_readParameters_17 : decode cX12_readParameters 17 = .ok (.ifCond .eq 7, 3) := by decide +kernel
theorem dX12_readParameters_20 : decode cX12_readParameters 20 = .ok (.iload_n 2, 1) := by decide +kernel
theorem dX12_readParameters_21 : decode cX12_readParameters 21 = .ok (.iconst 1, 1) := by decide +kernel
theorem dX12_readParameters_22 : decode cX12_readParameters 22 = .ok (.iadd, 1) := by decide +kernel
theorem dX12_readParameters_23 : decode cX12_readParameters 23 = .ok (.ireturn, 1) := by decide +kernel
theorem dX12_readParameters_24 : decode cX12_readParameters 24 = .ok (.iconst 1, 1) := by decide +kernel
theorem dX12_readParameters_25 : decode cX12_readParameters 25 = .ok (.istore_n 3, 1) := by decide +kernel
theorem dX12_readParameters_26 : decode cX12_readParameters 26 = .ok (.iload_n 3, 1) := by decide +kernel
theorem dX12_readParameters_27 : decode cX12_readParameters 27 = .ok (.ifCond .eq 139, 3) := by decide +kernel
theorem dX12_readParameters_30 : decode cX12_readParameters 30 = .ok (.iload_n 2, 1) := by decide +kernel
theorem dX12_readParameters_31 : decode cX12_readParameters 31 = .ok (.aload_n 0, 1) := by decide +kernel
theorem dX12_readParameters_32 : decode cX12_readParameters 32 = .ok (.getfield 355, 3) := by decide +kernel
theorem dX12_readParameters_35 : decode cX12_readParameters 35 = .ok (.if_icmp .ge 20, 3) := by decide +kernel
theorem dX12_readParameters_38 : decode cX12_readParameters 38 = .ok (.aload_n 0, 1) := by decide +kernel
theorem dX12_readParameters_39 : decode cX12_readParameters 39 = .ok (.getfield 40, 3) := by decide +kernel
theorem dX12_readParameters_42 : decode cX12_readParameters 42 = .ok (.iload_n 2, 1) := by decide +kernel
theorem dX12_readParameters_43 : decode cX12_readParameters 43 = .ok (.iaload, 1) := by decide +kernel
theorem dX12_readParameters_44 : decode cX12_readParameters 44 = .ok (.ifCond .ne 11, 3) := by decide +kernel
theorem dX12_readParameters_47 : decode cX12_readParameters 47 = .ok (.aload_n 0, 1) := by decide +kernel
theorem dX12_readParameters_48 : decode cX12_readParameters 48 = .ok (.iload_n 2, 1) := by decide +kernel
theorem dX12_readParameters_49 : decode cX12_readParameters 49 = .ok (.invokevirtual 427, 3) := by decide +kernel
theorem dX12_readParameters_52 : decode cX12_readParameters 52 = .ok (.ifCond .lt 12, 3) := by decide +kernel
theorem dX12_readParameters_55 : decode cX12_readParameters 55 = .ok (.aload_n 0, 1) := by decide +kernel
theorem dX12_readParameters_56 : decode cX12_readParameters 56 = .ok (.iconst 2, 1) := by decide +kernel
theorem dX12_readParameters_57 : decode cX12_readParameters 57 = .ok (.iload_n 2, 1) := by decide +kernel
theorem dX12_readParameters_58 : decode cX12_readParameters 58 = .ok (.invokevirtual 430, 3) := by decide +kernel
theorem dX12_readParameters_61 : decode cX12_readParameters 61 = .ok (.pop, 1) := by decide +kernel
theorem dX12_readParameters_62 : decode cX12_readParameters 62 = .ok (.iconst (-1), 1) := by decide +kernel
theorem dX12_readParameters_63 : decode cX12_readParameters 63 = .ok (.ireturn, 1) := by decide +kernel
theorem dX12_readParameters_64 : decode cX12_readParameters 64 = .ok (.aload_n 0, 1) := by decide +kernel
theorem dX12_readParameters_65 : decode cX12_readParameters 65 = .ok (.getfield 421, 3) := by decide +kernel
theorem dX12_readParameters_68 : decode cX12_readParameters 68 = .ok (.iconst 4, 1) := by decide +kernel
theorem dX12_readParameters_69 : decode cX12_readParameters 69 = .ok (.if_icmp .ne 13, 3) := by decide +kernel
theorem dX12_readParameters_72 : decode cX12_readParameters 72 = .ok (.aload_n 0, 1) := by decide +kernel
theorem dX12_readParameters_73 : decode cX12_readParameters 73 = .ok (.bipush 7, 2) := by decide +kernel
theorem dX12_readParameters_75 : decode cX12_readParameters 75 = .ok (.iload_n 2, 1) := by decide +kernel
theorem dX12_readParameters_76 : decode cX12_readParameters 76 = .ok (.invokevirtual 430, 3) := by decide +kernel
theorem dX12_readParameters_79 : decode cX12_readParameters 79 = .ok (.pop, 1) := by decide +kernel
theorem dX12_readParameters_80 : decode cX12_readParameters 80 = .ok (.iconst (-1), 1) := by decide +kernel
theorem dX12_readParameters_81 : decode cX12_readParameters 81 = .ok (.ireturn, 1) := by decide +kernel
theorem dX12_readParameters_82 : decode cX12_readParameters 82 = .ok (.aload_n 0, 1) := by decide +kernel
theorem dX12_readParameters_83 : decode cX12_readParameters 83 = .ok (.getfield 83, 3) := by decide +kernel
theorem dX12_readParameters_86 : decode cX12_readParameters 86 = .ok (.aload_n 0, 1) := by decide +kernel
theorem dX12_readParameters_87 : decode cX12_readParameters 87 = .ok (.getfield 421, 3) := by decide +kernel
theorem dX12_readParameters_90 : decode cX12_readParameters 90 = .ok (.iload_n 2, 1) := by decide +kernel
theorem dX12_readParameters_91 : decode cX12_readParameters 91 = .ok (.iastore, 1) := by decide +kernel
theorem dX12_readParameters_92 : decode cX12_readParameters 92 = .ok (.aload_n 0, 1) := by decide +kernel
theorem dX12_readParameters_93 : decode cX12_readParameters 93 = .ok (.dup, 1) := by decide +kernel
theorem dX12_readParameters_94 : decode cX12_readParameters 94 = .ok (.getfield 421, 3) := by decide +kernel
theorem dX12_readParameters_97 : decode cX12_readParameters 97 = .ok (.iconst 1, 1) := by decide +kernel
theorem dX12_readParameters_98 : decode cX12_readParameters 98 = .ok (.iadd, 1) := by decide +kernel
theorem dX12_readParameters_99 : decode cX12_readParameters 99 = .ok (.putfield 421, 3) := by decide +kernel
theorem dX12_readParameters_102 : decode cX12_readParameters 102 = .ok (.iinc 2 1, 3) := by decide +kernel
theorem dX12_readParameters_105 : decode cX12_readParameters 105 = .ok (.iload_n 2, 1) := by decide +kernel
theorem dX12_readParameters_106 : decode cX12_readParameters 106 = .ok (.aload_n 0, 1) := by decide +kernel
theorem dX12_readParameters_107 : decode cX12_readParameters 107 = .ok (.getfield 355, 3) := by decide +kernel
theorem dX12_readParameters_110 : decode cX12_readParameters 110 = .ok (.if_icmp .ge 17, 3) := by decide +kernel
theorem dX12_readParameters_113 : decode cX12_readParameters 113 = .ok (.aload_n 0, 1) := by decide +kernel
theorem dX12_readParameters_114 : decode cX12_readParameters 114 = .ok (.iload_n 2, 1) := by decide +kernel
theorem dX12_readParameters_115 : decode cX12_readParameters 115 = .ok (.bipush 44, 2) := by decide +kernel
theorem dX12_readParameters_117 : decode cX12_readParameters 117 = .ok (.invokevirtual 406, 3) := by decide +kernel
theorem dX12_readParameters_120 : decode cX12_readParameters 120 = .ok (.ifCond .eq 7, 3) := by decide +kernel
theorem dX12_readParameters_123 : decode cX12_readParameters 123 = .ok (.iconst 1, 1) := by decide +kernel
theorem dX12_readParameters_124 : decode cX12_readParameters 124 = .ok (.goto 4, 3) := by decide +kernel
theorem dX12_readParameters_127 : decode cX12_readParameters 127 = .ok (.iconst 0, 1) := by decide +kernel
theorem dX12_readParameters_128 : decode cX12_readParameters 128 = .ok (.istore_n 3, 1) := by decide +kernel
theorem dX12_readParameters_129 : decode cX12_readParameters 129 = .ok (.iload_n 3, 1) := by decide +kernel
theorem dX12_readParameters_130 : decode cX12_readParameters 130 = .ok (.ifCond .ne 30, 3) := by decide +kernel
theorem dX12_readParameters_133 : decode cX12_readParameters 133 = .ok (.iload_n 2, 1) := by decide +kernel
theorem dX12_readParameters_134 : decode cX12_readParameters 134 = .ok (.aload_n 0, 1) := by decide +kernel
theorem dX12_readParameters_135 : decode cX12_readParameters 135 = .ok (.getfield 355, 3) := by decide +kernel
theorem dX12_readParameters_138 : decode cX12_readParameters 138 = .ok (.if_icmp .ge 13, 3) := by decide +kernel
theorem dX12_readParameters_141 : decode cX12_readParameters 141 = .ok (.aload_n 0, 1) := by decide +kernel
theorem dX12_readParameters_142 : decode cX12_readParameters 142 = .ok (.iload_n 2, 1) := by decide +kernel
theorem dX12_readParameters_143 : decode cX12_readParameters 143 = .ok (.bipush 41, 2) := by decide +kernel
theorem dX12_readParameters_145 : decode cX12_readParameters 145 = .ok (.invokevirtual 406, 3) := by decide +kernel
theorem dX12_readParameters_148 : decode cX12_readParameters 148 = .ok (.ifCond .ne 12, 3) := by decide +kernel
theorem dX12_readParameters_151 : decode cX12_readParameters 151 = .ok (.aload_n 0, 1) := by decide +kernel
theorem dX12_readParameters_152 : decode cX12_readParameters 152 = .ok (.iconst 2, 1) := by decide +kernel
theorem dX12_readParameters_153 : decode cX12_readParameters 153 = .ok (.iload_n 2, 1) := by decide +kernel
theorem dX12_readParameters_154 : decode cX12_readParameters 154 = .ok (.invokevirtual 430, 3) := by decide +kernel
theorem dX12_readParameters_157 : decode cX12_readParameters 157 = .ok (.pop, 1) := by decide +kernel
theorem dX12_readParameters_158 : decode cX12_readParameters 158 = .ok (.iconst (-1), 1) := by decide +kernel
theorem dX12_readParameters_159 : decode cX12_readParameters 159 = .ok (.ireturn, 1) := by decide +kernel
theorem dX12_readParameters_160 : decode cX12_readParameters 160 = .ok (.iinc 2 1, 3) := by decide +kernel
theorem dX12_readParameters_163 : decode cX12_readParameters 163 = .ok (.goto (-137), 3) := by decide +kernel
theorem dX12_readParameters_166 : decode cX12_readParameters 166 = .ok (.iload_n 2, 1) := by decide +kernel
theorem dX12_readParameters_167 : decode cX12_readParameters 167 = .ok (.ireturn, 1) := by decide +kernel
theorem dX12_defines_0 : decode cX12_defines 0 = .ok (.aload_n 0, 1) := by decide +kernel
theorem dX12_defines_1 : decode cX12_defines 1 = .ok (.getfield 355, 3) := by decide +kernel
theorem dX12_defines_4 : decode cX12_defines 4 = .ok (.iconst 2, 1) := by decide +kernel
theorem dX12_defines_5 : decode cX12_defines 5 = .ok (.if_icmp .eq 20, 3) := by decide +kernel
theorem dX12_defines_8 : decode cX12_defines 8 = .ok (.aload_n 0, 1) := by decide +kernel
theorem dX12_defines_9 : decode cX12_defines 9 = .ok (.getfield 40, 3) := by decide +kernel
theorem dX12_defines_12 : decode cX12_defines 12 = .ok (.iconst 2, 1) := by decide +kernel
theorem dX12_defines_13 : decode cX12_defines 13 = .ok (.iaload, 1) := by decide +kernel
theorem dX12_defines_14 : decode cX12_defines 14 = .ok (.ifCond .ne 11, 3) := by decide +kernel
theorem dX12_defines_17 : decode cX12_defines 17 = .ok (.aload_n 0, 1) := by decide +kernel
theorem dX12_defines_18 : decode cX12_defines 18 = .ok (.iconst 2, 1) := by decide +kernel
theorem dX12_defines_19 : decode cX12_defines 19 = .ok (.invokevirtual 433, 3) := by decide +kernel
theorem dX12_defines_22 : decode cX12_defines 22 = .ok (.ifCond .eq 10, 3) := by decide +kernel
theorem dX12_defines_25 : decode cX12_defines 25 = .ok (.aload_n 0, 1) := by decide +kernel
theorem dX12_defines_26 : decode cX12_defines 26 = .ok (.iconst 2, 1) := by decide +kernel
theorem dX12_defines_27 : decode cX12_defines 27 = .ok (.iconst 2, 1) := by decide +kernel
theorem dX12_defines_28 : decode cX12_defines 28 = .ok (.invokevirtual 430, 3) := by decide +kernel
theorem dX12_defines_31 : decode cX12_defines 31 = .ok (.ireturn, 1) := by decide +kernel
theorem dX12_defines_32 : decode cX12_defines 32 = .ok (.aload_n 0, 1) := by decide +kernel
theorem dX12_defines_33 : decode cX12_defines 33 = .ok (.iconst 2, 1) := by decide +kernel
theorem dX12_defines_34 : decode cX12_defines 34 = .ok (.invokevirtual 436, 3) := by decide +kernel
theorem dX12_defines_37 : decode cX12_defines 37 = .ok (.ifCond .lt 10, 3) := by decide +kernel
theorem dX12_defines_40 : decode cX12_defines 40 = .ok (.aload_n 0, 1) := by decide +kernel
theorem dX12_defines_41 : decode cX12_defines 41 = .ok (.iconst 5, 1) := by decide +kernel
theorem dX12_defines_42 : decode cX12_defines 42 = .ok (.iconst 2, 1) := by decide +kernel
theorem dX12_defines_43 : decode cX12_defines 43 = .ok (.invokevirtual 430, 3) := by decide +kernel
theorem dX12_defines_46 : decode cX12_defines 46 = .ok (.ireturn, 1) := by decide +kernel
theorem dX12_defines_47 : decode cX12_defines 47 = .ok (.aload_n 0, 1) := by decide +kernel
theorem dX12_defines_48 : decode cX12_defines 48 = .ok (.iconst 2, 1) := by decide +kernel
theorem dX12_defines_49 : decode cX12_defines 49 = .ok (.invokevirtual 409, 3) := by decide +kernel
theorem dX12_defines_52 : decode cX12_defines 52 = .ok (.istore_n 1, 1) := by decide +kernel
theorem dX12_defines_53 : decode cX12_defines 53 = .ok (.iload_n 1, 1) := by decide +kernel
theorem dX12_defines_54 : decode cX12_defines 54 = .ok (.ifCond .ge 22, 3) := by decide +kernel
theorem dX12_defines_57 : decode cX12_defines 57 = .ok (.aload_n 0, 1) := by decide +kernel
theorem dX12_defines_58 : decode cX12_defines 58 = .ok (.getfield 68, 3) := by decide +kernel
theorem dX12_defines_61 : decode cX12_defines 61 = .ok (.iconst 0, 1) := by decide +kernel
theorem dX12_defines_62 : decode cX12_defines 62 = .ok (.iaload, 1) := by decide +kernel
theorem dX12_defines_63 : decode cX12_defines 63 = .ok (.bipush 12, 2) := by decide +kernel
theorem dX12_defines_65 : decode cX12_defines 65 = .ok (.if_icmp .ne 11, 3) := by decide +kernel
theorem dX12_defines_68 : decode cX12_defines 68 = .ok (.aload_n 0, 1) := by decide +kernel
theorem dX12_defines_69 : decode cX12_defines 69 = .ok (.bipush 7, 2) := by decide +kernel
theorem dX12_defines_71 : decode cX12_defines 71 = .ok (.iconst 2, 1) := by decide +kernel
theorem dX12_defines_72 : decode cX12_defines 72 = .ok (.invokevirtual 430, 3) := by decide +kernel
theorem dX12_defines_75 : decode cX12_defines 75 = .ok (.ireturn, 1) := by decide +kernel
theorem dX12_defines_76 : decode cX12_defines 76 = .ok (.aload_n 0, 1) := by decide +kernel
theorem dX12_defines_77 : decode cX12_defines 77 = .ok (.iconst 0, 1) := by decide +kernel
theorem dX12_defines_78 : decode cX12_defines 78 = .ok (.putfield 421, 3) := by decide +kernel
theorem dX12_defines_81 : decode cX12_defines 81 = .ok (.aload_n 0, 1) := by decide +kernel
theorem dX12_defines_82 : decode cX12_defines 82 = .ok (.getfield 355, 3) := by decide +kernel
theorem dX12_defines_85 : decode cX12_defines 85 = .ok (.iconst 3, 1) := by decide +kernel
theorem dX12_defines_86 : decode cX12_defines 86 = .ok (.if_icmp .le 26, 3) := by decide +kernel
theorem dX12_defines_89 : decode cX12_defines 89 = .ok (.aload_n 0, 1) := by decide +kernel
theorem dX12_defines_90 : decode cX12_defines 90 = .ok (.iconst 3, 1) := by decide +kernel
theorem dX12_defines_91 : decode cX12_defines 91 = .ok (.bipush 40, 2) := by decide +kernel
theorem dX12_defines_93 : decode cX12_defines 93 = .ok (.invokevirtual 406, 3) := by decide +kernel
theorem dX12_defines_96 : decode cX12_defines 96 = .ok (.ifCond .eq 16, 3) := by decide +kernel
theorem dX12_defines_99 : decode cX12_defines 99 = .ok (.aload_n 0, 1) := by decide +kernel
theorem dX12_defines_100 : decode cX12_defines 100 = .ok (.getfield 61, 3) := by decide +kernel
theorem dX12_defines_103 : decode cX12_defines 103 = .ok (.iconst 3, 1) := by decide +kernel
theorem dX12_defines_104 : decode cX12_defines 104 = .ok (.iaload, 1) := by decide +kernel
theorem dX12_defines_105 : decode cX12_defines 105 = .ok (.ifCond .ne 7, 3) := by decide +kernel
theorem dX12_defines_108 : decode cX12_defines 108 = .ok (.iconst 1, 1) := by decide +kernel
theorem dX12_defines_109 : decode cX12_defines 109 = .ok (.goto 4, 3) := by decide +kernel
theorem dX12_defines_112 : decode cX12_defines 112 = .ok (.iconst 0, 1) := by decide +kernel
theorem dX12_defines_113 : decode cX12_defines 113 = .ok (.istore_n 2, 1) := by decide +kernel
theorem dX12_defines_114 : decode cX12_defines 114 = .ok (.iload_n 2, 1) := by decide +kernel
theorem dX12_defines_115 : decode cX12_defines 115 = .ok (.ifCond .eq 11, 3) := by decide +kernel
theorem dX12_defines_118 : decode cX12_defines 118 = .ok (.aload_n 0, 1) := by decide +kernel
theorem dX12_defines_119 : decode cX12_defines 119 = .ok (.iconst 4, 1) := by decide +kernel
theorem dX12_defines_120 : decode cX12_defines 120 = .ok (.invokevirtual 439, 3) := by decide +kernel
theorem dX12_defines_123 : decode cX12_defines 123 = .ok (.goto 4, 3) := by decide +kernel
theorem dX12_defines_126 : decode cX12_defines 126 = .ok (.iconst 3, 1) := by decide +kernel
theorem dX12_defines_127 : decode cX12_defines 127 = .ok (.istore_n 3, 1) := by decide +kernel
theorem dX12_defines_128 : decode cX12_defines 128 = .ok (.iload_n 3, 1) := by decide +kernel
theorem dX12_defines_129 : decode cX12_defines 129 = .ok (.ifCond .ge 5, 3) := by decide +kernel
theorem dX12_defines_132 : decode cX12_defines 132 = .ok (.iconst 0, 1) := by decide +kernel
theorem dX12_defines_133 : decode cX12_defines 133 = .ok (.ireturn, 1) := by decide +kernel
theorem dX12_defines_134 : decode cX12_defines 134 = .ok (.iload_n 3, 1) := by decide +kernel
theorem dX12_defines_135 : decode cX12_defines 135 = .ok (.istore 4, 2) := by decide +kernel
theorem dX12_defines_137 : decode cX12_defines 137 = .ok (.iload 4, 2) := by decide +kernel
theorem dX12_defines_139 : decode cX12_defines 139 = .ok (.aload_n 0, 1) := by decide +kernel
theorem dX12_defines_140 : decode cX12_defines 140 = .ok (.getfield 355, 3) := by decide +kernel
theorem dX12_defines_143 : decode cX12_defines 143 = .ok (.if_icmp .ge 116, 3) := by decide +kernel
theorem dX12_defines_146 : decode cX12_defines 146 = .ok (.aload_n 0, 1) := by decide +kernel
theorem dX12_defines_147 : decode cX12_defines 147 = .ok (.iload 4, 2) := by decide +kernel
theorem dX12_defines_149 : decode cX12_defines 149 = .ok (.bipush 35, 2) := by decide +kernel
theorem dX12_defines_151 : decode cX12_defines 151 = .ok (.bipush 35, 2) := by decide +kernel
theorem dX12_defines_153 : decode cX12_defines 153 = .ok (.invokevirtual 442, 3) := by decide +kernel
theorem dX12_defines_156 : decode cX12_defines 156 = .ok (.istore 5, 2) := by decide +kernel
theorem dX12_defines_158 : decode cX12_defines 158 = .ok (.iload 5, 2) := by decide +kernel
theorem dX12_defines_160 : decode cX12_defines 160 = .ok (.ifCond .eq 43, 3) := by decide +kernel
theorem dX12_defines_163 : decode cX12_defines 163 = .ok (.iload 4, 2) := by decide +kernel
theorem dX12_defines_165 : decode cX12_defines 165 = .ok (.iload_n 3, 1) := by decide +kernel
theorem dX12_defines_166 : decode cX12_defines 166 = .ok (.if_icmp .eq 29, 3) := by decide +kernel
theorem dX12_defines_169 : decode cX12_defines 169 = .ok (.iload 4, 2) := by decide +kernel
theorem dX12_defines_171 : decode cX12_defines 171 = .ok (.aload_n 0, 1) := by decide +kernel
theorem dX12_defines_172 : decode cX12_defines 172 = .ok (.getfield 355, 3) := by decide +kernel
theorem dX12_defines_175 : decode cX12_defines 175 = .ok (.iconst 1, 1) := by decide +kernel
theorem dX12_defines_176 : decode cX12_defines 176 = .ok (.isub, 1) := by decide +kernel
theorem dX12_defines_177 : decode cX12_defines 177 = .ok (.if_icmp .eq 18, 3) := by decide +kernel
theorem dX12_defines_180 : decode cX12_defines 180 = .ok (.aload_n 0, 1) := by decide +kernel
theorem dX12_defines_181 : decode cX12_defines 181 = .ok (.iload 4, 2) := by decide +kernel
theorem dX12_defines_183 : decode cX12_defines 183 = .ok (.iconst 1, 1) := by decide +kernel
theorem dX12_defines_184 : decode cX12_defines 184 = .ok (.isub, 1) := by decide +kernel
theorem dX12_defines_185 : decode cX12_defines 185 = .ok (.bipush 35, 2) := by decide +kernel
theorem dX12_defines_187 : decode cX12_defines 187 = .ok (.bipush 35, 2) := by decide +kernel
theorem dX12_defines_189 : decode cX12_defines 189 = .ok (.invokevirtual 442, 3) := by decide +kernel
theorem dX12_defines_192 : decode cX12_defines 192 = .ok (.ifCond .eq 11, 3) := by decide +kernel
theorem dX12_defines_195 : decode cX12_defines 195 = .ok (.aload_n 0, 1) := by decide +kernel
theorem dX12_defines_196 : decode cX12_defines 196 = .ok (.iconst 2, 1) := by decide +kernel
theorem dX12_defines_197 : decode cX12_defines 197 = .ok (.iload 4, 2) := by decide +kernel
theorem dX12_defines_199 : decode cX12_defines 199 = .ok (.invokevirtual 430, 3) := by decide +kernel
theorem dX12_defines_202 : decode cX12_defines 202 = .ok (.ireturn, 1) := by decide +kernel
theorem dX12_defines_203 : decode cX12_defines 203 = .ok (.iload_n 2, 1) := by decide +kernel
theorem dX12_defines_204 : decode cX12_defines 204 = .ok (.ifCond .eq 31, 3) := by decide +kernel
theorem dX12_defines_207 : decode cX12_defines 207 = .ok (.aload_n 0, 1) := by decide +kernel
theorem dX12_defines_208 : decode cX12_defines 208 = .ok (.iload 4, 2) := by decide +kernel
theorem dX12_defines_210 : decode cX12_defines 210 = .ok (.invokevirtual 358, 3) := by decide +kernel
theorem dX12_defines_213 : decode cX12_defines 213 = .ok (.ifCond .eq 22, 3) := by decide +kernel
theorem dX12_defines_216 : decode cX12_defines 216 = .ok (.aload_n 0, 1) := by decide +kernel
theorem dX12_defines_217 : decode cX12_defines 217 = .ok (.iload 4, 2) := by decide +kernel
theorem dX12_defines_219 : decode cX12_defines 219 = .ok (.iconst 1, 1) := by decide +kernel
theorem dX12_defines_220 : decode cX12_defines 220 = .ok (.iadd, 1) := by decide +kernel
theorem dX12_defines_221 : decode cX12_defines 221 = .ok (.invokevirtual 427, 3) := by decide +kernel
theorem dX12_defines_224 : decode cX12_defines 224 = .ok (.ifCond .ge 11, 3) := by decide +kernel
theorem dX12_defines_227 : decode cX12_defines 227 = .ok (.aload_n 0, 1) := by decide +kernel
theorem dX12_defines_228 : decode cX12_defines 228 = .ok (.iconst 2, 1) := by decide +kernel
theorem dX12_defines_229 : decode cX12_defines 229 = .ok (.iload 4, 2) := by decide +kernel
theorem dX12_defines_231 : decode cX12_defines 231 = .ok (.invokevirtual 430, 3) := by decide +kernel
theorem dX12_defines_234 : decode cX12_defines 234 = .ok (.ireturn, 1) := by decide +kernel
theorem dX12_defines_235 : decode cX12_defines 235 = .ok (.iload 4, 2) := by decide +kernel
theorem dX12_defines_237 : decode cX12_defines 237 = .ok (.iload_n 3, 1) := by decide +kernel
theorem dX12_defines_238 : decode cX12_defines 238 = .ok (.isub, 1) := by decide +kernel
theorem dX12_defines_239 : decode cX12_defines 239 = .ok (.bipush 20, 2) := by decide +kernel
theorem dX12_defines_241 : decode cX12_defines 241 = .ok (.if_icmp .ne 12, 3) := by decide +kernel
theorem dX12_defines_244 : decode cX12_defines 244 = .ok (.aload_n 0, 1) := by decide +kernel
theorem dX12_defines_245 : decode cX12_defines 245 = .ok (.bipush 7, 2) := by decide +kernel
theorem dX12_defines_247 : decode cX12_defines 247 = .ok (.iload 4, 2) := by decide +kernel
theorem dX12_defines_249 : decode cX12_defines 249 = .ok (.invokevirtual 430, 3) := by decide +kernel
theorem dX12_defines_252 : decode cX12_defines 252 = .ok (.ireturn, 1) := by decide +kernel
theorem dX12_defines_253 : decode cX12_defines 253 = .ok (.iinc 4 1, 3) := by decide +kernel
theorem dX12_defines_256 : decode cX12_defines 256 = .ok (.goto (-119), 3) := by decide +kernel
theorem dX12_defines_259 : decode cX12_defines 259 = .ok (.iload_n 1, 1) := by decide +kernel
theorem dX12_defines_260 : decode cX12_defines 260 = .ok (.istore 4, 2) := by decide +kernel
theorem dX12_defines_262 : decode cX12_defines 262 = .ok (.iload 4, 2) := by decide +kernel
theorem dX12_defines_264 : decode cX12_defines 264 = .ok (.ifCond .ge 79, 3) := by decide +kernel
theorem dX12_defines_267 : decode cX12_defines 267 = .ok (.aload_n 0, 1) := by decide +kernel
theorem dX12_defines_268 : decode cX12_defines 268 = .ok (.getfield 68, 3) := by decide +kernel
theorem dX12_defines_271 : decode cX12_defines 271 = .ok (.iconst 0, 1) := by decide +kernel
theorem dX12_defines_272 : decode cX12_defines 272 = .ok (.iaload, 1) := by decide +kernel
theorem dX12_defines_273 : decode cX12_defines 273 = .ok (.istore 4, 2) := by decide +kernel
theorem dX12_defines_275 : decode cX12_defines 275 = .ok (.aload_n 0, 1) := by decide +kernel
theorem dX12_defines_276 : decode cX12_defines 276 = .ok (.getfield 68, 3) := by decide +kernel
theorem dX12_defines_279 : decode cX12_defines 279 = .ok (.iconst 0, 1) := by decide +kernel
theorem dX12_defines_280 : decode cX12_defines 280 = .ok (.dup2, 1) := by decide +kernel
theorem dX12_defines_281 : decode cX12_defines 281 = .ok (.iaload, 1) := by decide +kernel
theorem dX12_defines_282 : decode cX12_defines 282 = .ok (.iconst 1, 1) := by decide +kernel
theorem dX12_defines_283 : decode cX12_defines 283 = .ok (.iadd, 1) := by decide +kernel
theorem dX12_defines_284 : decode cX12_defines 284 = .ok (.iastore, 1) := by decide +kernel
theorem dX12_defines_285 : decode cX12_defines 285 = .ok (.aload_n 0, 1) := by decide +kernel
theorem dX12_defines_286 : decode cX12_defines 286 = .ok (.getfield 68, 3) := by decide +kernel
theorem dX12_defines_289 : decode cX12_defines 289 = .ok (.sipush 175, 3) := by decide +kernel
theorem dX12_defines_292 : decode cX12_defines 292 = .ok (.iload 4, 2) := by decide +kernel
theorem dX12_defines_294 : decode cX12_defines 294 = .ok (.iadd, 1) := by decide +kernel
theorem dX12_defines_295 : decode cX12_defines 295 = .ok (.aload_n 0, 1) := by decide +kernel
theorem dX12_defines_296 : decode cX12_defines 296 = .ok (.getfield 46, 3) := by decide +kernel
theorem dX12_defines_299 : decode cX12_defines 299 = .ok (.iconst 2, 1) := by decide +kernel
theorem dX12_defines_300 : decode cX12_defines 300 = .ok (.iaload, 1) := by decide +kernel
theorem dX12_defines_301 : decode cX12_defines 301 = .ok (.iastore, 1) := by decide +kernel
theorem dX12_defines_302 : decode cX12_defines 302 = .ok (.iconst 0, 1) := by decide +kernel
theorem dX12_defines_303 : decode cX12_defines 303 = .ok (.istore 5, 2) := by decide +kernel
theorem dX12_defines_305 : decode cX12_defines 305 = .ok (.iload 5, 2) := by decide +kernel
theorem dX12_defines_307 : decode cX12_defines 307 = .ok (.aload_n 0, 1) := by decide +kernel
theorem dX12_defines_308 : decode cX12_defines 308 = .ok (.getfield 46, 3) := by decide +kernel
theorem dX12_defines_311 : decode cX12_defines 311 = .ok (.iconst 2, 1) := by decide +kernel
theorem dX12_defines_312 : decode cX12_defines 312 = .ok (.iaload, 1) := by decide +kernel
theorem dX12_defines_313 : decode cX12_defines 313 = .ok (.if_icmp .ge 30, 3) := by decide +kernel
theorem dX12_defines_316 : decode cX12_defines 316 = .ok (.aload_n 0, 1) := by decide +kernel
theorem dX12_defines_317 : decode cX12_defines 317 = .ok (.getfield 74, 3) := by decide +kernel
theorem dX12_defines_320 : decode cX12_defines 320 = .ok (.bipush 30, 2) := by decide +kernel
theorem dX12_defines_322 : decode cX12_defines 322 = .ok (.iload 4, 2) := by decide +kernel
theorem dX12_defines_324 : decode cX12_defines 324 = .ok (.imul, 1) := by decide +kernel
theorem dX12_defines_325 : decode cX12_defines 325 = .ok (.iload 5, 2) := by decide +kernel
theorem dX12_defines_327 : decode cX12_defines 327 = .ok (.iadd, 1) := by decide +kernel
theorem dX12_defines_328 : decode cX12_defines 328 = .ok (.aload_n 0, 1) := by decide +kernel
theorem dX12_defines_329 : decode cX12_defines 329 = .ok (.iconst 2, 1) := by decide +kernel
theorem dX12_defines_330 : decode cX12_defines 330 = .ok (.iload 5, 2) := by decide +kernel
theorem dX12_defines_332 : decode cX12_defines 332 = .ok (.invokevirtual 370, 3) := by decide +kernel
theorem dX12_defines_335 : decode cX12_defines 335 = .ok (.i2b, 1) := by decide +kernel
theorem dX12_defines_336 : decode cX12_defines 336 = .ok (.bastore, 1) := by decide +kernel
theorem dX12_defines_337 : decode cX12_defines 337 = .ok (.iinc 5 1, 3) := by decide +kernel
theorem dX12_defines_340 : decode cX12_defines 340 = .ok (.goto (-35), 3) := by decide +kernel
theorem dX12_defines_343 : decode cX12_defines 343 = .ok (.aload_n 0, 1) := by decide +kernel
theorem dX12_defines_344 : decode cX12_defines 344 = .ok (.getfield 68, 3) := by decide +kernel
theorem dX12_defines_347 : decode cX12_defines 347 = .ok (.sipush 187, 3) := by decide +kernel
theorem dX12_defines_350 : decode cX12_defines 350 = .ok (.iload 4, 2) := by decide +kernel
theorem dX12_defines_352 : decode cX12_defines 352 = .ok (.iadd, 1) := by decide +kernel
theorem dX12_defines_353 : decode cX12_defines 353 = .ok (.iconst 1, 1) := by decide +kernel
theorem dX12_defines_354 : decode cX12_defines 354 = .ok (.iastore, 1) := by decide +kernel
theorem dX12_defines_355 : decode cX12_defines 355 = .ok (.aload_n 0, 1) := by decide +kernel
theorem dX12_defines_356 : decode cX12_defines 356 = .ok (.getfield 68, 3) := by decide +kernel
theorem dX12_defines_359 : decode cX12_defines 359 = .ok (.sipush 199, 3) := by decide +kernel
theorem dX12_defines_362 : decode cX12_defines 362 = .ok (.iload 4, 2) := by decide +kernel
theorem dX12_defines_364 : decode cX12_defines 364 = .ok (.iadd, 1) := by decide +kernel
theorem dX12_defines_365 : decode cX12_defines 365 = .ok (.iload_n 2, 1) := by decide +kernel
theorem dX12_defines_366 : decode cX12_defines 366 = .ok (.ifCond .eq 10, 3) := by decide +kernel
theorem dX12_defines_369 : decode cX12_defines 369 = .ok (.aload_n 0, 1) := by decide +kernel
theorem dX12_defines_370 : decode cX12_defines 370 = .ok (.getfield 421, 3) := by decide +kernel
theorem dX12_defines_373 : decode cX12_defines 373 = .ok (.goto 4, 3) := by decide +kernel
theorem dX12_defines_376 : decode cX12_defines 376 = .ok (.iconst (-1), 1) := by decide +kernel
theorem dX12_defines_377 : decode cX12_defines 377 = .ok (.iastore, 1) := by decide +kernel
theorem dX12_defines_378 : decode cX12_defines 378 = .ok (.aload_n 0, 1) := by decide +kernel
theorem dX12_defines_379 : decode cX12_defines 379 = .ok (.getfield 68, 3) := by decide +kernel
theorem dX12_defines_382 : decode cX12_defines 382 = .ok (.sipush 211, 3) := by decide +kernel
theorem dX12_defines_385 : decode cX12_defines 385 = .ok (.iload 4, 2) := by decide +kernel
theorem dX12_defines_387 : decode cX12_defines 387 = .ok (.iadd, 1) := by decide +kernel
theorem dX12_defines_388 : decode cX12_defines 388 = .ok (.aload_n 0, 1) := by decide +kernel
theorem dX12_defines_389 : decode cX12_defines 389 = .ok (.getfield 355, 3) := by decide +kernel
theorem dX12_defines_392 : decode cX12_defines 392 = .ok (.iload_n 3, 1) := by decide +kernel
theorem dX12_defines_393 : decode cX12_defines 393 = .ok (.isub, 1) := by decide +kernel
theorem dX12_defines_394 : decode cX12_defines 394 = .ok (.iastore, 1) := by decide +kernel
theorem dX12_defines_395 : decode cX12_defines 395 = .ok (.aload_n 0, 1) := by decide +kernel
theorem dX12_defines_396 : decode cX12_defines 396 = .ok (.getfield 68, 3) := by decide +kernel
theorem dX12_defines_399 : decode cX12_defines 399 = .ok (.sipush 223, 3) := by decide +kernel
theorem dX12_defines_402 : decode cX12_defines 402 = .ok (.iload 4, 2) := by decide +kernel
theorem dX12_defines_404 : decode cX12_defines 404 = .ok (.iadd, 1) := by decide +kernel
theorem dX12_defines_405 : decode cX12_defines 405 = .ok (.aload_n 0, 1) := by decide +kernel
theorem dX12_defines_406 : decode cX12_defines 406 = .ok (.getfield 379, 3) := by decide +kernel
theorem dX12_defines_409 : decode cX12_defines 409 = .ok (.iastore, 1) := by decide +kernel
theorem dX12_defines_410 : decode cX12_defines 410 = .ok (.aload_n 0, 1) := by decide +kernel
theorem dX12_defines_411 : decode cX12_defines 411 = .ok (.getfield 68, 3) := by decide +kernel
theorem dX12_defines_414 : decode cX12_defines 414 = .ok (.sipush 235, 3) := by decide +kernel
theorem dX12_defines_417 : decode cX12_defines 417 = .ok (.iload 4, 2) := by decide +kernel
theorem dX12_defines_419 : decode cX12_defines 419 = .ok (.iadd, 1) := by decide +kernel
theorem dX12_defines_420 : decode cX12_defines 420 = .ok (.aload_n 0, 1) := by decide +kernel
theorem dX12_defines_421 : decode cX12_defines 421 = .ok (.getfield 382, 3) := by decide +kernel
theorem dX12_defines_424 : decode cX12_defines 424 = .ok (.iastore, 1) := by decide +kernel
theorem dX12_defines_425 : decode cX12_defines 425 = .ok (.iload_n 3, 1) := by decide +kernel
theorem dX12_defines_426 : decode cX12_defines 426 = .ok (.istore 5, 2) := by decide +kernel
theorem dX12_defines_428 : decode cX12_defines 428 = .ok (.iload 5, 2) := by decide +kernel
theorem dX12_defines_430 : decode cX12_defines 430 = .ok (.aload_n 0, 1) := by decide +kernel
theorem dX12_defines_431 : decode cX12_defines 431 = .ok (.getfield 355, 3) := by decide +kernel
theorem dX12_defines_434 : decode cX12_defines 434 = .ok (.if_icmp .ge 146, 3) := by decide +kernel
theorem dX12_defines_437 : decode cX12_defines 437 = .ok (.iload 4, 2) := by decide +kernel
theorem dX12_defines_439 : decode cX12_defines 439 = .ok (.iload 5, 2) := by decide +kernel
theorem dX12_defines_441 : decode cX12_defines 441 = .ok (.iload_n 3, 1) := by decide +kernel
theorem dX12_defines_442 : decode cX12_defines 442 = .ok (.isub, 1) := by decide +kernel
theorem dX12_defines_443 : decode cX12_defines 443 = .ok (.invokestatic 412, 3) := by decide +kernel
theorem dX12_defines_446 : decode cX12_defines 446 = .ok (.istore 6, 2) := by decide +kernel
theorem dX12_defines_448 : decode cX12_defines 448 = .ok (.aload_n 0, 1) := by decide +kernel
theorem dX12_defines_449 : decode cX12_defines 449 = .ok (.getfield 68, 3) := by decide +kernel
theorem dX12_defines_452 : decode cX12_defines 452 = .ok (.sipush 259, 3) := by decide +kernel
theorem dX12_defines_455 : decode cX12_defines 455 = .ok (.iload 6, 2) := by decide +kernel
theorem dX12_defines_457 : decode cX12_defines 457 = .ok (.iadd, 1) := by decide +kernel
theorem dX12_defines_458 : decode cX12_defines 458 = .ok (.aload_n 0, 1) := by decide +kernel
theorem dX12_defines_459 : decode cX12_defines 459 = .ok (.getfield 40, 3) := by decide +kernel
theorem dX12_defines_462 : decode cX12_defines 462 = .ok (.iload 5, 2) := by decide +kernel
theorem dX12_defines_464 : decode cX12_defines 464 = .ok (.iaload, 1) := by decide +kernel
theorem dX12_defines_465 : decode cX12_defines 465 = .ok (.iastore, 1) := by decide +kernel
theorem dX12_defines_466 : decode cX12_defines 466 = .ok (.aload_n 0, 1) := by decide +kernel
theorem dX12_defines_467 : decode cX12_defines 467 = .ok (.getfield 68, 3) := by decide +kernel
theorem dX12_defines_470 : decode cX12_defines 470 = .ok (.sipush 499, 3) := by decide +kernel
theorem dX12_defines_473 : decode cX12_defines 473 = .ok (.iload 6, 2) := by decide +kernel
theorem dX12_defines_475 : decode cX12_defines 475 = .ok (.iadd, 1) := by decide +kernel
theorem dX12_defines_476 : decode cX12_defines 476 = .ok (.aload_n 0, 1) := by decide +kernel
theorem dX12_defines_477 : decode cX12_defines 477 = .ok (.getfield 46, 3) := by decide +kernel
theorem dX12_defines_480 : decode cX12_defines 480 = .ok (.iload 5, 2) := by decide +kernel
theorem dX12_defines_482 : decode cX12_defines 482 = .ok (.iaload, 1) := by decide +kernel
theorem dX12_defines_483 : decode cX12_defines 483 = .ok (.iastore, 1) := by decide +kernel
theorem dX12_defines_484 : decode cX12_defines 484 = .ok (.aload_n 0, 1) := by decide +kernel
theorem dX12_defines_485 : decode cX12_defines 485 = .ok (.getfield 68, 3) := by decide +kernel
theorem dX12_defines_488 : decode cX12_defines 488 = .ok (.sipush 739, 3) := by decide +kernel
theorem dX12_defines_491 : decode cX12_defines 491 = .ok (.iload 6, 2) := by decide +kernel
theorem dX12_defines_493 : decode cX12_defines 493 = .ok (.iadd, 1) := by decide +kernel
theorem dX12_defines_494 : decode cX12_defines 494 = .ok (.aload_n 0, 1) := by decide +kernel
theorem dX12_defines_495 : decode cX12_defines 495 = .ok (.getfield 61, 3) := by decide +kernel
theorem dX12_defines_498 : decode cX12_defines 498 = .ok (.iload 5, 2) := by decide +kernel
theorem dX12_defines_500 : decode cX12_defines 500 = .ok (.iaload, 1) := by decide +kernel
theorem dX12_defines_501 : decode cX12_defines 501 = .ok (.iastore, 1) := by decide +kernel
theorem dX12_defines_502 : decode cX12_defines 502 = .ok (.aload_n 0, 1) := by decide +kernel
theorem dX12_defines_503 : decode cX12_defines 503 = .ok (.getfield 68, 3) := by decide +kernel
theorem dX12_defines_506 : decode cX12_defines 506 = .ok (.sipush 979, 3) := by decide +kernel
theorem dX12_defines_509 : decode cX12_defines 509 = .ok (.iload 6, 2) := by decide +kernel
theorem dX12_defines_511 : decode cX12_defines 511 = .ok (.iadd, 1) := by decide +kernel
theorem dX12_defines_512 : decode cX12_defines 512 = .ok (.iload_n 2, 1) := by decide +kernel
theorem dX12_defines_513 : decode cX12_defines 513 = .ok (.ifCond .eq 12, 3) := by decide +kernel
theorem dX12_defines_516 : decode cX12_defines 516 = .ok (.aload_n 0, 1) := by decide +kernel
theorem dX12_defines_517 : decode cX12_defines 517 = .ok (.iload 5, 2) := by decide +kernel
theorem dX12_defines_519 : decode cX12_defines 519 = .ok (.invokevirtual 427, 3) := by decide +kernel
theorem dX12_defines_522 : decode cX12_defines 522 = .ok (.goto 4, 3) := by decide +kernel
theorem dX12_defines_525 : decode cX12_defines 525 = .ok (.iconst (-1), 1) := by decide +kernel
theorem dX12_defines_526 : decode cX12_defines 526 = .ok (.iastore, 1) := by decide +kernel
theorem dX12_defines_527 : decode cX12_defines 527 = .ok (.iconst 0, 1) := by decide +kernel
theorem dX12_defines_528 : decode cX12_defines 528 = .ok (.istore 7, 2) := by decide +kernel
theorem dX12_defines_530 : decode cX12_defines 530 = .ok (.iload 7, 2) := by decide +kernel
theorem dX12_defines_532 : decode cX12_defines 532 = .ok (.aload_n 0, 1) := by decide +kernel
theorem dX12_defines_533 : decode cX12_defines 533 = .ok (.getfield 46, 3) := by decide +kernel
theorem dX12_defines_536 : decode cX12_defines 536 = .ok (.iload 5, 2) := by decide +kernel
theorem dX12_defines_538 : decode cX12_defines 538 = .ok (.iaload, 1) := by decide +kernel
theorem dX12_defines_539 : decode cX12_defines 539 = .ok (.if_icmp .ge 35, 3) := by decide +kernel
theorem dX12_defines_542 : decode cX12_defines 542 = .ok (.aload_n 0, 1) := by decide +kernel
theorem dX12_defines_543 : decode cX12_defines 543 = .ok (.getfield 74, 3) := by decide +kernel
theorem dX12_defines_546 : decode cX12_defines 546 = .ok (.iload 4, 2) := by decide +kernel
theorem dX12_defines_548 : decode cX12_defines 548 = .ok (.iload 5, 2) := by decide +kernel
theorem dX12_defines_550 : decode cX12_defines 550 = .ok (.iload_n 3, 1) := by decide +kernel
theorem dX12_defines_551 : decode cX12_defines 551 = .ok (.isub, 1) := by decide +kernel
theorem dX12_defines_552 : decode cX12_defines 552 = .ok (.invokestatic 415, 3) := by decide +kernel
theorem dX12_defines_555 : decode cX12_defines 555 = .ok (.iload 7, 2) := by decide +kernel
theorem dX12_defines_557 : decode cX12_defines 557 = .ok (.iadd, 1) := by decide +kernel
theorem dX12_defines_558 : decode cX12_defines 558 = .ok (.aload_n 0, 1) := by decide +kernel
theorem dX12_defines_559 : decode cX12_defines 559 = .ok (.iload 5, 2) := by decide +kernel
theorem dX12_defines_561 : decode cX12_defines 561 = .ok (.iload 7, 2) := by decide +kernel
theorem dX12_defines_563 : decode cX12_defines 563 = .ok (.invokevirtual 370, 3) := by decide +kernel
theorem dX12_defines_566 : decode cX12_defines 566 = .ok (.i2b, 1) := by decide +kernel
theorem dX12_defines_567 : decode cX12_defines 567 = .ok (.bastore, 1) := by decide +kernel
theorem dX12_defines_568 : decode cX12_defines 568 = .ok (.iinc 7 1, 3) := by decide +kernel
theorem dX12_defines_571 : decode cX12_defines 571 = .ok (.goto (-41), 3) := by decide +kernel
theorem dX12_defines_574 : decode cX12_defines 574 = .ok (.iinc 5 1, 3) := by decide +kernel
theorem dX12_defines_577 : decode cX12_defines 577 = .ok (.goto (-149), 3) := by decide +kernel
theorem dX12_defines_580 : decode cX12_defines 580 = .ok (.iconst 1, 1) := by decide +kernel
theorem dX12_defines_581 : decode cX12_defines 581 = .ok (.ireturn, 1) := by decide +kernel
theorem dX12_stretch_0 : decode cX12_stretch 0 = .ok (.aload_n 0, 1) := by decide +kernel
theorem dX12_stretch_1 : decode cX12_stretch 1 = .ok (.getfield 86, 3) := by decide +kernel
theorem dX12_stretch_4 : decode cX12_stretch 4 = .ok (.aload_n 0, 1) := by decide +kernel
theorem dX12_stretch_5 : decode cX12_stretch 5 = .ok (.getfield 445, 3) := by decide +kernel
theorem dX12_stretch_8 : decode cX12_stretch 8 = .ok (.iload_n 1, 1) := by decide +kernel
theorem dX12_stretch_9 : decode cX12_stretch 9 = .ok (.iastore, 1) := by decide +kernel
theorem dX12_stretch_10 : decode cX12_stretch 10 = .ok (.aload_n 0, 1) := by decide +kernel
theorem dX12_stretch_11 : decode cX12_stretch 11 = .ok (.getfield 89, 3) := by decide +kernel
theorem dX12_stretch_14 : decode cX12_stretch 14 = .ok (.aload_n 0, 1) := by decide +kernel
theorem dX12_stretch_15 : decode cX12_stretch 15 = .ok (.getfield 445, 3) := by decide +kernel
theorem dX12_stretch_18 : decode cX12_stretch 18 = .ok (.iload_n 2, 1) := by decide +kernel
theorem dX12_stretch_19 : decode cX12_stretch 19 = .ok (.iastore, 1) := by decide +kernel
theorem dX12_stretch_20 : decode cX12_stretch 20 = .ok (.aload_n 0, 1) := by decide +kernel
theorem dX12_stretch_21 : decode cX12_stretch 21 = .ok (.getfield 92, 3) := by decide +kernel
theorem dX12_stretch_24 : decode cX12_stretch 24 = .ok (.aload_n 0, 1) := by decide +kernel
theorem dX12_stretch_25 : decode cX12_stretch 25 = .ok (.getfield 445, 3) := by decide +kernel
theorem dX12_stretch_28 : decode cX12_stretch 28 = .ok (.iload_n 3, 1) := by decide +kernel
theorem dX12_stretch_29 : decode cX12_stretch 29 = .ok (.iastore, 1) := by decide +kernel
theorem dX12_stretch_30 : decode cX12_stretch 30 = .ok (.aload_n 0, 1) := by decide +kernel
theorem dX12_stretch_31 : decode cX12_stretch 31 = .ok (.dup, 1) := by decide +kernel
theorem dX12_stretch_32 : decode cX12_stretch 32 = .ok (.getfield 445, 3) := by decide +kernel
theorem dX12_stretch_35 : decode cX12_stretch 35 = .ok (.iconst 1, 1) := by decide +kernel
theorem dX12_stretch_36 : decode cX12_stretch 36 = .ok (.iadd, 1) := by decide +kernel
theorem dX12_stretch_37 : decode cX12_stretch 37 = .ok (.putfield 445, 3) := by decide +kernel
theorem dX12_stretch_40 : decode cX12_stretch 40 = .ok (.return_, 1) := by decide +kernel
theorem dX12_peek_0 : decode cX12_peek 0 = .ok (.aload_n 0, 1) := by decide +kernel
theorem dX12_peek_1 : decode cX12_peek 1 = .ok (.getfield 445, 3) := by decide +kernel
theorem dX12_peek_4 : decode cX12_peek 4 = .ok (.aload_n 0, 1) := by decide +kernel
theorem dX12_peek_5 : decode cX12_peek 5 = .ok (.getfield 95, 3) := by decide +kernel
theorem dX12_peek_8 : decode cX12_peek 8 = .ok (.aload_n 0, 1) := by decide +kernel
theorem dX12_peek_9 : decode cX12_peek 9 = .ok (.getfield 448, 3) := by decide +kernel
theorem dX12_peek_12 : decode cX12_peek 12 = .ok (.iaload, 1) := by decide +kernel
theorem dX12_peek_13 : decode cX12_peek 13 = .ok (.if_icmp .le 41, 3) := by decide +kernel
theorem dX12_peek_16 : decode cX12_peek 16 = .ok (.aload_n 0, 1) := by decide +kernel
theorem dX12_peek_17 : decode cX12_peek 17 = .ok (.getfield 86, 3) := by decide +kernel
theorem dX12_peek_20 : decode cX12_peek 20 = .ok (.aload_n 0, 1) := by decide +kernel
theorem dX12_peek_21 : decode cX12_peek 21 = .ok (.getfield 445, 3) := by decide +kernel
theorem dX12_peek_24 : decode cX12_peek 24 = .ok (.iconst 1, 1) := by decide +kernel
theorem dX12_peek_25 : decode cX12_peek 25 = .ok (.isub, 1) := by decide +kernel
theorem dX12_peek_26 : decode cX12_peek 26 = .ok (.iaload, 1) := by decide +kernel
theorem dX12_peek_27 : decode cX12_peek 27 = .ok (.aload_n 0, 1) := by decide +kernel
theorem dX12_peek_28 : decode cX12_peek 28 = .ok (.getfield 89, 3) := by decide +kernel
theorem dX12_peek_31 : decode cX12_peek 31 = .ok (.aload_n 0, 1) := by decide +kernel
theorem dX12_peek_32 : decode cX12_peek 32 = .ok (.getfield 445, 3) := by decide +kernel
theorem dX12_peek_35 : decode cX12_peek 35 = .ok (.iconst 1, 1) := by decide +kernel
theorem dX12_peek_36 : decode cX12_peek 36 = .ok (.isub, 1) := by decide +kernel
theorem dX12_peek_37 : decode cX12_peek 37 = .ok (.iaload, 1) := by decide +kernel
theorem dX12_peek_38 : decode cX12_peek 38 = .ok (.if_icmp .ne 16, 3) := by decide +kernel
theorem dX12_peek_41 : decode cX12_peek 41 = .ok (.aload_n 0, 1) := by decide +kernel
theorem dX12_peek_42 : decode cX12_peek 42 = .ok (.dup, 1) := by decide +kernel
theorem dX12_peek_43 : decode cX12_peek 43 = .ok (.getfield 445, 3) := by decide +kernel
theorem dX12_peek_46 : decode cX12_peek 46 = .ok (.iconst 1, 1) := by decide +kernel
theorem dX12_peek_47 : decode cX12_peek 47 = .ok (.isub, 1) := by decide +kernel
theorem dX12_peek_48 : decode cX12_peek 48 = .ok (.putfield 445, 3) := by decide +kernel
theorem dX12_peek_51 : decode cX12_peek 51 = .ok (.goto (-51), 3) := by decide +kernel
theorem dX12_peek_54 : decode cX12_peek 54 = .ok (.aload_n 0, 1) := by decide +kernel
theorem dX12_peek_55 : decode cX12_peek 55 = .ok (.getfield 445, 3) := by decide +kernel
theorem dX12_peek_58 : decode cX12_peek 58 = .ok (.aload_n 0, 1) := by decide +kernel
theorem dX12_peek_59 : decode cX12_peek 59 = .ok (.getfield 95, 3) := by decide +kernel
theorem dX12_peek_62 : decode cX12_peek 62 = .ok (.aload_n 0, 1) := by decide +kernel
theorem dX12_peek_63 : decode cX12_peek 63 = .ok (.getfield 448, 3) := by decide +kernel
theorem dX12_peek_66 : decode cX12_peek 66 = .ok (.iaload, 1) := by decide +kernel
theorem dX12_peek_67 : decode cX12_peek 67 = .ok (.if_icmp .ne 5, 3) := by decide +kernel
theorem dX12_peek_70 : decode cX12_peek 70 = .ok (.iconst (-1), 1) := by decide +kernel
theorem dX12_peek_71 : decode cX12_peek 71 = .ok (.ireturn, 1) := by decide +kernel
theorem dX12_peek_72 : decode cX12_peek 72 = .ok (.aload_n 0, 1) := by decide +kernel
theorem dX12_peek_73 : decode cX12_peek 73 = .ok (.getfield 86, 3) := by decide +kernel
theorem dX12_peek_76 : decode cX12_peek 76 = .ok (.aload_n 0, 1) := by decide +kernel
theorem dX12_peek_77 : decode cX12_peek 77 = .ok (.getfield 445, 3) := by decide +kernel
theorem dX12_peek_80 : decode cX12_peek 80 = .ok (.iconst 1, 1) := by decide +kernel
theorem dX12_peek_81 : decode cX12_peek 81 = .ok (.isub, 1) := by decide +kernel
theorem dX12_peek_82 : decode cX12_peek 82 = .ok (.iaload, 1) := by decide +kernel
theorem dX12_peek_83 : decode cX12_peek 83 = .ok (.istore_n 1, 1) := by decide +kernel
theorem dX12_peek_84 : decode cX12_peek 84 = .ok (.aload_n 0, 1) := by decide +kernel
theorem dX12_peek_85 : decode cX12_peek 85 = .ok (.getfield 92, 3) := by decide +kernel
theorem dX12_peek_88 : decode cX12_peek 88 = .ok (.aload_n 0, 1) := by decide +kernel
theorem dX12_peek_89 : decode cX12_peek 89 = .ok (.getfield 445, 3) := by decide +kernel
theorem dX12_peek_92 : decode cX12_peek 92 = .ok (.iconst 1, 1) := by decide +kernel
theorem dX12_peek_93 : decode cX12_peek 93 = .ok (.isub, 1) := by decide +kernel
theorem dX12_peek_94 : decode cX12_peek 94 = .ok (.iaload, 1) := by decide +kernel
theorem dX12_peek_95 : decode cX12_peek 95 = .ok (.iconst 1, 1) := by decide +kernel
theorem dX12_peek_96 : decode cX12_peek 96 = .ok (.if_icmp .ne 12, 3) := by decide +kernel
theorem dX12_peek_99 : decode cX12_peek 99 = .ok (.aload_n 0, 1) := by decide +kernel
theorem dX12_peek_100 : decode cX12_peek 100 = .ok (.getfield 135, 3) := by decide +kernel
theorem dX12_peek_103 : decode cX12_peek 103 = .ok (.iload_n 1, 1) := by decide +kernel
theorem dX12_peek_104 : decode cX12_peek 104 = .ok (.iaload, 1) := by decide +kernel
theorem dX12_peek_105 : decode cX12_peek 105 = .ok (.goto 4, 3) := by decide +kernel
theorem dX12_peek_108 : decode cX12_peek 108 = .ok (.iload_n 1, 1) := by decide +kernel
theorem dX12_peek_109 : decode cX12_peek 109 = .ok (.ireturn, 1) := by decide +kernel
theorem dX12_goes_0 : decode cX12_goes 0 = .ok (.aload_n 0, 1) := by decide +kernel
theorem dX12_goes_1 : decode cX12_goes 1 = .ok (.getfield 86, 3) := by decide +kernel
theorem dX12_goes_4 : decode cX12_goes 4 = .ok (.aload_n 0, 1) := by decide +kernel
theorem dX12_goes_5 : decode cX12_goes 5 = .ok (.getfield 445, 3) := by decide +kernel
theorem dX12_goes_8 : decode cX12_goes 8 = .ok (.iconst 1, 1) := by decide +kernel
theorem dX12_goes_9 : decode cX12_goes 9 = .ok (.isub, 1) := by decide +kernel
theorem dX12_goes_10 : decode cX12_goes 10 = .ok (.dup2, 1) := by decide +kernel
theorem dX12_goes_11 : decode cX12_goes 11 = .ok (.iaload, 1) := by decide +kernel
theorem dX12_goes_12 : decode cX12_goes 12 = .ok (.iconst 1, 1) := by decide +kernel
theorem dX12_goes_13 : decode cX12_goes 13 = .ok (.iadd, 1) := by decide +kernel
theorem dX12_goes_14 : decode cX12_goes 14 = .ok (.iastore, 1) := by decide +kernel
theorem dX12_goes_15 : decode cX12_goes 15 = .ok (.return_, 1) := by decide +kernel
theorem dX12_opens_0 : decode cX12_opens 0 = .ok (.aload_n 0, 1) := by decide +kernel
theorem dX12_opens_1 : decode cX12_opens 1 = .ok (.getfield 95, 3) := by decide +kernel
theorem dX12_opens_4 : decode cX12_opens 4 = .ok (.aload_n 0, 1) := by decide +kernel
theorem dX12_opens_5 : decode cX12_opens 5 = .ok (.getfield 448, 3) := by decide +kernel
theorem dX12_opens_8 : decode cX12_opens 8 = .ok (.aload_n 0, 1) := by decide +kernel
theorem dX12_opens_9 : decode cX12_opens 9 = .ok (.getfield 445, 3) := by decide +kernel
theorem dX12_opens_12 : decode cX12_opens 12 = .ok (.iastore, 1) := by decide +kernel
theorem dX12_opens_13 : decode cX12_opens 13 = .ok (.aload_n 0, 1) := by decide +kernel
theorem dX12_opens_14 : decode cX12_opens 14 = .ok (.getfield 98, 3) := by decide +kernel
theorem dX12_opens_17 : decode cX12_opens 17 = .ok (.aload_n 0, 1) := by decide +kernel
theorem dX12_opens_18 : decode cX12_opens 18 = .ok (.getfield 448, 3) := by decide +kernel
theorem dX12_opens_21 : decode cX12_opens 21 = .ok (.iconst (-1), 1) := by decide +kernel
theorem dX12_opens_22 : decode cX12_opens 22 = .ok (.iastore, 1) := by decide +kernel
theorem dX12_opens_23 : decode cX12_opens 23 = .ok (.return_, 1) := by decide +kernel
theorem dX12_passes_0 : decode cX12_passes 0 = .ok (.aload_n 0, 1) := by decide +kernel
theorem dX12_passes_1 : decode cX12_passes 1 = .ok (.getfield 448, 3) := by decide +kernel
theorem dX12_passes_4 : decode cX12_passes 4 = .ok (.ifCond .ne 26, 3) := by decide +kernel
theorem dX12_passes_7 : decode cX12_passes 7 = .ok (.aload_n 0, 1) := by decide +kernel
theorem dX12_passes_8 : decode cX12_passes 8 = .ok (.getfield 138, 3) := by decide +kernel
theorem dX12_passes_11 : decode cX12_passes 11 = .ok (.aload_n 0, 1) := by decide +kernel
theorem dX12_passes_12 : decode cX12_passes 12 = .ok (.getfield 451, 3) := by decide +kernel
theorem dX12_passes_15 : decode cX12_passes 15 = .ok (.iload_n 1, 1) := by decide +kernel
theorem dX12_passes_16 : decode cX12_passes 16 = .ok (.iastore, 1) := by decide +kernel
theorem dX12_passes_17 : decode cX12_passes 17 = .ok (.aload_n 0, 1) := by decide +kernel
theorem dX12_passes_18 : decode cX12_passes 18 = .ok (.dup, 1) := by decide +kernel
theorem dX12_passes_19 : decode cX12_passes 19 = .ok (.getfield 451, 3) := by decide +kernel
theorem dX12_passes_22 : decode cX12_passes 22 = .ok (.iconst 1, 1) := by decide +kernel
theorem dX12_passes_23 : decode cX12_passes 23 = .ok (.iadd, 1) := by decide +kernel
theorem dX12_passes_24 : decode cX12_passes 24 = .ok (.putfield 451, 3) := by decide +kernel
theorem dX12_passes_27 : decode cX12_passes 27 = .ok (.goto 14, 3) := by decide +kernel
theorem dX12_passes_30 : decode cX12_passes 30 = .ok (.aload_n 0, 1) := by decide +kernel
theorem dX12_passes_31 : decode cX12_passes 31 = .ok (.aload_n 0, 1) := by decide +kernel
theorem dX12_passes_32 : decode cX12_passes 32 = .ok (.getfield 448, 3) := by decide +kernel
theorem dX12_passes_35 : decode cX12_passes 35 = .ok (.iconst 1, 1) := by decide +kernel
theorem dX12_passes_36 : decode cX12_passes 36 = .ok (.isub, 1) := by decide +kernel
theorem dX12_passes_37 : decode cX12_passes 37 = .ok (.iload_n 1, 1) := by decide +kernel
theorem dX12_passes_38 : decode cX12_passes 38 = .ok (.invokevirtual 454, 3) := by decide +kernel
theorem dX12_passes_41 : decode cX12_passes 41 = .ok (.return_, 1) := by decide +kernel
theorem dX12_adds_0 : decode cX12_adds 0 = .ok (.aload_n 0, 1) := by decide +kernel
theorem dX12_adds_1 : decode cX12_adds 1 = .ok (.getfield 458, 3) := by decide +kernel
theorem dX12_adds_4 : decode cX12_adds 4 = .ok (.iconst 1, 1) := by decide +kernel
theorem dX12_adds_5 : decode cX12_adds 5 = .ok (.isub, 1) := by decide +kernel
theorem dX12_adds_6 : decode cX12_adds 6 = .ok (.istore_n 3, 1) := by decide +kernel
theorem dX12_adds_7 : decode cX12_adds 7 = .ok (.aload_n 0, 1) := by decide +kernel
theorem dX12_adds_8 : decode cX12_adds 8 = .ok (.getfield 122, 3) := by decide +kernel
theorem dX12_adds_11 : decode cX12_adds 11 = .ok (.iload_n 1, 1) := by decide +kernel
theorem dX12_adds_12 : decode cX12_adds 12 = .ok (.dup2, 1) := by decide +kernel
theorem dX12_adds_13 : decode cX12_adds 13 = .ok (.iaload, 1) := by decide +kernel
theorem dX12_adds_14 : decode cX12_adds 14 = .ok (.iconst 1, 1) := by decide +kernel
theorem dX12_adds_15 : decode cX12_adds 15 = .ok (.iadd, 1) := by decide +kernel
theorem dX12_adds_16 : decode cX12_adds 16 = .ok (.iastore, 1) := by decide +kernel
theorem dX12_adds_17 : decode cX12_adds 17 = .ok (.aload_n 0, 1) := by decide +kernel
theorem dX12_adds_18 : decode cX12_adds 18 = .ok (.getfield 128, 3) := by decide +kernel
theorem dX12_adds_21 : decode cX12_adds 21 = .ok (.iload_n 3, 1) := by decide +kernel
theorem dX12_adds_22 : decode cX12_adds 22 = .ok (.iaload, 1) := by decide +kernel
theorem dX12_adds_23 : decode cX12_adds 23 = .ok (.iconst 2, 1) := by decide +kernel
theorem dX12_adds_24 : decode cX12_adds 24 = .ok (.if_icmp .lt 14, 3) := by decide +kernel
theorem dX12_adds_27 : decode cX12_adds 27 = .ok (.aload_n 0, 1) := by decide +kernel
theorem dX12_adds_28 : decode cX12_adds 28 = .ok (.getfield 122, 3) := by decide +kernel
theorem dX12_adds_31 : decode cX12_adds 31 = .ok (.iload_n 1, 1) := by decide +kernel
theorem dX12_adds_32 : decode cX12_adds 32 = .ok (.iaload, 1) := by decide +kernel
theorem dX12_adds_33 : decode cX12_adds 33 = .ok (.bipush 60, 2) := by decide +kernel
theorem dX12_adds_35 : decode cX12_adds 35 = .ok (.if_icmp .gt 35, 3) := by decide +kernel
theorem dX12_adds_38 : decode cX12_adds 38 = .ok (.aload_n 0, 1) := by decide +kernel
theorem dX12_adds_39 : decode cX12_adds 39 = .ok (.iload_n 2, 1) := by decide +kernel
theorem dX12_adds_40 : decode cX12_adds 40 = .ok (.aload_n 0, 1) := by decide +kernel
theorem dX12_adds_41 : decode cX12_adds 41 = .ok (.getfield 397, 3) := by decide +kernel
theorem dX12_adds_44 : decode cX12_adds 44 = .ok (.invokevirtual 461, 3) := by decide +kernel
theorem dX12_adds_47 : decode cX12_adds 47 = .ok (.aload_n 0, 1) := by decide +kernel
theorem dX12_adds_48 : decode cX12_adds 48 = .ok (.dup, 1) := by decide +kernel
theorem dX12_adds_49 : decode cX12_adds 49 = .ok (.getfield 397, 3) := by decide +kernel
theorem dX12_adds_52 : decode cX12_adds 52 = .ok (.iconst 1, 1) := by decide +kernel
theorem dX12_adds_53 : decode cX12_adds 53 = .ok (.iadd, 1) := by decide +kernel
theorem dX12_adds_54 : decode cX12_adds 54 = .ok (.putfield 397, 3) := by decide +kernel
theorem dX12_adds_57 : decode cX12_adds 57 = .ok (.aload_n 0, 1) := by decide +kernel
theorem dX12_adds_58 : decode cX12_adds 58 = .ok (.getfield 128, 3) := by decide +kernel
theorem dX12_adds_61 : decode cX12_adds 61 = .ok (.iload_n 3, 1) := by decide +kernel
theorem dX12_adds_62 : decode cX12_adds 62 = .ok (.dup2, 1) := by decide +kernel
theorem dX12_adds_63 : decode cX12_adds 63 = .ok (.iaload, 1) := by decide +kernel
theorem dX12_adds_64 : decode cX12_adds 64 = .ok (.iconst 1, 1) := by decide +kernel
theorem dX12_adds_65 : decode cX12_adds 65 = .ok (.iadd, 1) := by decide +kernel
theorem dX12_adds_66 : decode cX12_adds 66 = .ok (.iastore, 1) := by decide +kernel
theorem dX12_adds_67 : decode cX12_adds 67 = .ok (.goto 14, 3) := by decide +kernel
theorem dX12_adds_70 : decode cX12_adds 70 = .ok (.aload_n 0, 1) := by decide +kernel
theorem dX12_adds_71 : decode cX12_adds 71 = .ok (.iload_n 2, 1) := by decide +kernel
theorem dX12_adds_72 : decode cX12_adds 72 = .ok (.aload_n 0, 1) := by decide +kernel
theorem dX12_adds_73 : decode cX12_adds 73 = .ok (.getfield 397, 3) := by decide +kernel
theorem dX12_adds_76 : decode cX12_adds 76 = .ok (.iconst 1, 1) := by decide +kernel
theorem dX12_adds_77 : decode cX12_adds 77 = .ok (.isub, 1) := by decide +kernel
theorem dX12_adds_78 : decode cX12_adds 78 = .ok (.invokevirtual 461, 3) := by decide +kernel
theorem dX12_adds_81 : decode cX12_adds 81 = .ok (.return_, 1) := by decide +kernel
theorem dX12_newPiece_0 : decode cX12_newPiece 0 = .ok (.aload_n 0, 1) := by decide +kernel
theorem dX12_newPiece_1 : decode cX12_newPiece 1 = .ok (.getfield 125, 3) := by decide +kernel
theorem dX12_newPiece_4 : decode cX12_newPiece 4 = .ok (.aload_n 0, 1) := by decide +kernel
theorem dX12_newPiece_5 : decode cX12_newPiece 5 = .ok (.getfield 458, 3) := by decide +kernel
theorem dX12_newPiece_8 : decode cX12_newPiece 8 = .ok (.aload_n 0, 1) := by decide +kernel
theorem dX12_newPiece_9 : decode cX12_newPiece 9 = .ok (.getfield 397, 3) := by decide +kernel
theorem dX12_newPiece_12 : decode cX12_newPiece 12 = .ok (.iastore, 1) := by decide +kernel
theorem dX12_newPiece_13 : decode cX12_newPiece 13 = .ok (.aload_n 0, 1) := by decide +kernel
theorem dX12_newPiece_14 : decode cX12_newPiece 14 = .ok (.getfield 128, 3) := by decide +kernel
theorem dX12_newPiece_17 : decode cX12_newPiece 17 = .ok (.aload_n 0, 1) := by decide +kernel
theorem dX12_newPiece_18 : decode cX12_newPiece 18 = .ok (.getfield 458, 3) := by decide +kernel
theorem dX12_newPiece_21 : decode cX12_newPiece 21 = .ok (.iconst 0, 1) := by decide +kernel
theorem dX12_newPiece_22 : decode cX12_newPiece 22 = .ok (.iastore, 1) := by decide +kernel
theorem dX12_newPiece_23 : decode cX12_newPiece 23 = .ok (.aload_n 0, 1) := by decide +kernel
theorem dX12_newPiece_24 : decode cX12_newPiece 24 = .ok (.getfield 131, 3) := by decide +kernel
theorem dX12_newPiece_27 : decode cX12_newPiece 27 = .ok (.aload_n 0, 1) := by decide +kernel
theorem dX12_newPiece_28 : decode cX12_newPiece 28 = .ok (.getfield 458, 3) := by decide +kernel
theorem dX12_newPiece_31 : decode cX12_newPiece 31 = .ok (.iload_n 1, 1) := by decide +kernel
theorem dX12_newPiece_32 : decode cX12_newPiece 32 = .ok (.ifCond .eq 7, 3) := by decide +kernel
theorem dX12_newPiece_35 : decode cX12_newPiece 35 = .ok (.iconst 1, 1) := by decide +kernel
theorem dX12_newPiece_36 : decode cX12_newPiece 36 = .ok (.goto 4, 3) := by decide +kernel
theorem dX12_newPiece_39 : decode cX12_newPiece 39 = .ok (.iconst 0, 1) := by decide +kernel
theorem dX12_newPiece_40 : decode cX12_newPiece 40 = .ok (.iastore, 1) := by decide +kernel
theorem dX12_newPiece_41 : decode cX12_newPiece 41 = .ok (.aload_n 0, 1) := by decide +kernel
theorem dX12_newPiece_42 : decode cX12_newPiece 42 = .ok (.dup, 1) := by decide +kernel
theorem dX12_newPiece_43 : decode cX12_newPiece 43 = .ok (.getfield 458, 3) := by decide +kernel
theorem dX12_newPiece_46 : decode cX12_newPiece 46 = .ok (.iconst 1, 1) := by decide +kernel
theorem dX12_newPiece_47 : decode cX12_newPiece 47 = .ok (.iadd, 1) := by decide +kernel
theorem dX12_newPiece_48 : decode cX12_newPiece 48 = .ok (.putfield 458, 3) := by decide +kernel
theorem dX12_newPiece_51 : decode cX12_newPiece 51 = .ok (.return_, 1) := by decide +kernel
theorem dX12_blanks_0 : decode cX12_blanks 0 = .ok (.aload_n 0, 1) := by decide +kernel
theorem dX12_blanks_1 : decode cX12_blanks 1 = .ok (.getfield 128, 3) := by decide +kernel
theorem dX12_blanks_4 : decode cX12_blanks 4 = .ok (.aload_n 0, 1) := by decide +kernel
theorem dX12_blanks_5 : decode cX12_blanks 5 = .ok (.getfield 458, 3) := by decide +kernel
theorem dX12_blanks_8 : decode cX12_blanks 8 = .ok (.iconst 1, 1) := by decide +kernel
theorem dX12_blanks_9 : decode cX12_blanks 9 = .ok (.isub, 1) := by decide +kernel
theorem dX12_blanks_10 : decode cX12_blanks 10 = .ok (.iaload, 1) := by decide +kernel
theorem dX12_blanks_11 : decode cX12_blanks 11 = .ok (.ifCond .le 20, 3) := by decide +kernel
theorem dX12_blanks_14 : decode cX12_blanks 14 = .ok (.aload_n 0, 1) := by decide +kernel
theorem dX12_blanks_15 : decode cX12_blanks 15 = .ok (.getfield 61, 3) := by decide +kernel
theorem dX12_blanks_18 : decode cX12_blanks 18 = .ok (.aload_n 0, 1) := by decide +kernel
theorem dX12_blanks_19 : decode cX12_blanks 19 = .ok (.getfield 125, 3) := by decide +kernel
theorem dX12_blanks_22 : decode cX12_blanks 22 = .ok (.aload_n 0, 1) := by decide +kernel
theorem dX12_blanks_23 : decode cX12_blanks 23 = .ok (.getfield 458, 3) := by decide +kernel
theorem dX12_blanks_26 : decode cX12_blanks 26 = .ok (.iconst 1, 1) := by decide +kernel
theorem dX12_blanks_27 : decode cX12_blanks 27 = .ok (.isub, 1) := by decide +kernel
theorem dX12_blanks_28 : decode cX12_blanks 28 = .ok (.iaload, 1) := by decide +kernel
theorem dX12_blanks_29 : decode cX12_blanks 29 = .ok (.iload_n 1, 1) := by decide +kernel
theorem dX12_blanks_30 : decode cX12_blanks 30 = .ok (.iastore, 1) := by decide +kernel
theorem dX12_blanks_31 : decode cX12_blanks 31 = .ok (.return_, 1) := by decide +kernel
theorem dX12_expands_0 : decode cX12_expands 0 = .ok (.aload_n 0, 1) := by decide +kernel
theorem dX12_expands_1 : decode cX12_expands 1 = .ok (.iconst 0, 1) := by decide +kernel
theorem dX12_expands_2 : decode cX12_expands 2 = .ok (.putfield 451, 3) := by decide +kernel
theorem dX12_expands_5 : decode cX12_expands 5 = .ok (.aload_n 0, 1) := by decide +kernel
theorem dX12_expands_6 : decode cX12_expands 6 = .ok (.invokevirtual 464, 3) := by decide +kernel
theorem dX12_expands_9 : decode cX12_expands 9 = .ok (.aload_n 0, 1) := by decide +kernel
theorem dX12_expands_10 : decode cX12_expands 10 = .ok (.aload_n 0, 1) := by decide +kernel
theorem dX12_expands_11 : decode cX12_expands 11 = .ok (.getfield 467, 3) := by decide +kernel
theorem dX12_expands_14 : decode cX12_expands 14 = .ok (.aload_n 0, 1) := by decide +kernel
theorem dX12_expands_15 : decode cX12_expands 15 = .ok (.getfield 470, 3) := by decide +kernel
theorem dX12_expands_18 : decode cX12_expands 18 = .ok (.aload_n 0, 1) := by decide +kernel
theorem dX12_expands_19 : decode cX12_expands 19 = .ok (.getfield 473, 3) := by decide +kernel
theorem dX12_expands_22 : decode cX12_expands 22 = .ok (.invokevirtual 476, 3) := by decide +kernel
theorem dX12_expands_25 : decode cX12_expands 25 = .ok (.aload_n 0, 1) := by decide +kernel
theorem dX12_expands_26 : decode cX12_expands 26 = .ok (.getfield 448, 3) := by decide +kernel
theorem dX12_expands_29 : decode cX12_expands 29 = .ok (.ifCond .lt 176, 3) := by decide +kernel
theorem dX12_expands_32 : decode cX12_expands 32 = .ok (.aload_n 0, 1) := by decide +kernel
theorem dX12_expands_33 : decode cX12_expands 33 = .ok (.getfield 98, 3) := by decide +kernel
theorem dX12_expands_36 : decode cX12_expands 36 = .ok (.aload_n 0, 1) := by decide +kernel
theorem dX12_expands_37 : decode cX12_expands 37 = .ok (.getfield 448, 3) := by decide +kernel
theorem dX12_expands_40 : decode cX12_expands 40 = .ok (.iaload, 1) := by decide +kernel
theorem dX12_expands_41 : decode cX12_expands 41 = .ok (.ifCond .lt 12, 3) := by decide +kernel
theorem dX12_expands_44 : decode cX12_expands 44 = .ok (.aload_n 0, 1) := by decide +kernel
theorem dX12_expands_45 : decode cX12_expands 45 = .ok (.invokevirtual 480, 3) := by decide +kernel
theorem dX12_expands_48 : decode cX12_expands 48 = .ok (.ifCond .ne (-23), 3) := by decide +kernel
theorem dX12_expands_51 : decode cX12_expands 51 = .ok (.iconst 0, 1) := by decide +kernel
theorem dX12_expands_52 : decode cX12_expands 52 = .ok (.ireturn, 1) := by decide +kernel
theorem dX12_expands_53 : decode cX12_expands 53 = .ok (.aload_n 0, 1) := by decide +kernel
theorem dX12_expands_54 : decode cX12_expands 54 = .ok (.invokevirtual 484, 3) := by decide +kernel
theorem dX12_expands_57 : decode cX12_expands 57 = .ok (.istore_n 1, 1) := by decide +kernel
theorem dX12_expands_58 : decode cX12_expands 58 = .ok (.iload_n 1, 1) := by decide +kernel
theorem dX12_expands_59 : decode cX12_expands 59 = .ok (.ifCond .ge 27, 3) := by decide +kernel
theorem dX12_expands_62 : decode cX12_expands 62 = .ok (.aload_n 0, 1) := by decide +kernel
theorem dX12_expands_63 : decode cX12_expands 63 = .ok (.dup, 1) := by decide +kernel
theorem dX12_expands_64 : decode cX12_expands 64 = .ok (.getfield 448, 3) := by decide +kernel
theorem dX12_expands_67 : decode cX12_expands 67 = .ok (.iconst 1, 1) := by decide +kernel
theorem dX12_expands_68 : decode cX12_expands 68 = .ok (.isub, 1) := by decide +kernel
theorem dX12_expands_69 : decode cX12_expands 69 = .ok (.putfield 448, 3) := by decide +kernel
theorem dX12_expands_72 : decode cX12_expands 72 = .ok (.aload_n 0, 1) := by decide +kernel
theorem dX12_expands_73 : decode cX12_expands 73 = .ok (.getfield 448, 3) := by decide +kernel
theorem dX12_expands_76 : decode cX12_expands 76 = .ok (.ifCond .lt (-51), 3) := by decide +kernel
theorem dX12_expands_79 : decode cX12_expands 79 = .ok (.aload_n 0, 1) := by decide +kernel
theorem dX12_expands_80 : decode cX12_expands 80 = .ok (.invokevirtual 488, 3) := by decide +kernel
theorem dX12_expands_83 : decode cX12_expands 83 = .ok (.goto (-58), 3) := by decide +kernel
theorem dX12_expands_86 : decode cX12_expands 86 = .ok (.aload_n 0, 1) := by decide +kernel
theorem dX12_expands_87 : decode cX12_expands 87 = .ok (.invokevirtual 491, 3) := by decide +kernel
theorem dX12_expands_90 : decode cX12_expands 90 = .ok (.aload_n 0, 1) := by decide +kernel
theorem dX12_expands_91 : decode cX12_expands 91 = .ok (.iload_n 1, 1) := by decide +kernel
theorem dX12_expands_92 : decode cX12_expands 92 = .ok (.invokevirtual 436, 3) := by decide +kernel
theorem dX12_expands_95 : decode cX12_expands 95 = .ok (.istore_n 2, 1) := by decide +kernel
theorem dX12_expands_96 : decode cX12_expands 96 = .ok (.iload_n 2, 1) := by decide +kernel
theorem dX12_expands_97 : decode cX12_expands 97 = .ok (.ifCond .lt 16, 3) := by decide +kernel
theorem dX12_expands_100 : decode cX12_expands 100 = .ok (.aload_n 0, 1) := by decide +kernel
theorem dX12_expands_101 : decode cX12_expands 101 = .ok (.getfield 58, 3) := by decide +kernel
theorem dX12_expands_104 : decode cX12_expands 104 = .ok (.iload_n 1, 1) := by decide +kernel
theorem dX12_expands_105 : decode cX12_expands 105 = .ok (.iaload, 1) := by decide +kernel
theorem dX12_expands_106 : decode cX12_expands 106 = .ok (.iload_n 2, 1) := by decide +kernel
theorem dX12_expands_107 : decode cX12_expands 107 = .ok (.invokestatic 494, 3) := by decide +kernel
theorem dX12_expands_110 : decode cX12_expands 110 = .ok (.ifCond .eq 11, 3) := by decide +kernel
theorem dX12_expands_113 : decode cX12_expands 113 = .ok (.aload_n 0, 1) := by decide +kernel
theorem dX12_expands_114 : decode cX12_expands 114 = .ok (.iload_n 1, 1) := by decide +kernel
theorem dX12_expands_115 : decode cX12_expands 115 = .ok (.invokevirtual 497, 3) := by decide +kernel
theorem dX12_expands_118 : decode cX12_expands 118 = .ok (.goto 84, 3) := by decide +kernel
theorem dX12_expands_121 : decode cX12_expands 121 = .ok (.aload_n 0, 1) := by decide +kernel
theorem dX12_expands_122 : decode cX12_expands 122 = .ok (.getfield 68, 3) := by decide +kernel
theorem dX12_expands_125 : decode cX12_expands 125 = .ok (.sipush 199, 3) := by decide +kernel
theorem dX12_expands_128 : decode cX12_expands 128 = .ok (.iload_n 2, 1) := by decide +kernel
theorem dX12_expands_129 : decode cX12_expands 129 = .ok (.iadd, 1) := by decide +kernel
theorem dX12_expands_130 : decode cX12_expands 130 = .ok (.iaload, 1) := by decide +kernel
theorem dX12_expands_131 : decode cX12_expands 131 = .ok (.ifCond .ge 33, 3) := by decide +kernel
theorem dX12_expands_134 : decode cX12_expands 134 = .ok (.aload_n 0, 1) := by decide +kernel
theorem dX12_expands_135 : decode cX12_expands 135 = .ok (.getfield 110, 3) := by decide +kernel
theorem dX12_expands_138 : decode cX12_expands 138 = .ok (.aload_n 0, 1) := by decide +kernel
theorem dX12_expands_139 : decode cX12_expands 139 = .ok (.getfield 448, 3) := by decide +kernel
theorem dX12_expands_142 : decode cX12_expands 142 = .ok (.aload_n 0, 1) := by decide +kernel
theorem dX12_expands_143 : decode cX12_expands 143 = .ok (.getfield 500, 3) := by decide +kernel
theorem dX12_expands_146 : decode cX12_expands 146 = .ok (.iastore, 1) := by decide +kernel
theorem dX12_expands_147 : decode cX12_expands 147 = .ok (.aload_n 0, 1) := by decide +kernel
theorem dX12_expands_148 : decode cX12_expands 148 = .ok (.iload_n 1, 1) := by decide +kernel
theorem dX12_expands_149 : decode cX12_expands 149 = .ok (.iload_n 2, 1) := by decide +kernel
theorem dX12_expands_150 : decode cX12_expands 150 = .ok (.aload_n 0, 1) := by decide +kernel
theorem dX12_expands_151 : decode cX12_expands 151 = .ok (.getfield 58, 3) := by decide +kernel
theorem dX12_expands_154 : decode cX12_expands 154 = .ok (.iload_n 1, 1) := by decide +kernel
theorem dX12_expands_155 : decode cX12_expands 155 = .ok (.iaload, 1) := by decide +kernel
theorem dX12_expands_156 : decode cX12_expands 156 = .ok (.invokevirtual 503, 3) := by decide +kernel
theorem dX12_expands_159 : decode cX12_expands 159 = .ok (.ifCond .ne 43, 3) := by decide +kernel
theorem dX12_expands_162 : decode cX12_expands 162 = .ok (.iconst 0, 1) := by decide +kernel
theorem dX12_expands_163 : decode cX12_expands 163 = .ok (.ireturn, 1) := by decide +kernel
theorem dX12_expands_164 : decode cX12_expands 164 = .ok (.aload_n 0, 1) := by decide +kernel
theorem dX12_expands_165 : decode cX12_expands 165 = .ok (.invokevirtual 484, 3) := by decide +kernel
theorem dX12_expands_168 : decode cX12_expands 168 = .ok (.istore_n 3, 1) := by decide +kernel
theorem dX12_expands_169 : decode cX12_expands 169 = .ok (.iload_n 3, 1) := by decide +kernel
theorem dX12_expands_170 : decode cX12_expands 170 = .ok (.ifCond .lt 13, 3) := by decide +kernel
theorem dX12_expands_173 : decode cX12_expands 173 = .ok (.aload_n 0, 1) := by decide +kernel
theorem dX12_expands_174 : decode cX12_expands 174 = .ok (.iload_n 3, 1) := by decide +kernel
theorem dX12_expands_175 : decode cX12_expands 175 = .ok (.bipush 40, 2) := by decide +kernel
theorem dX12_expands_177 : decode cX12_expands 177 = .ok (.invokevirtual 406, 3) := by decide +kernel
theorem dX12_expands_180 : decode cX12_expands 180 = .ok (.ifCond .ne 11, 3) := by decide +kernel
theorem dX12_expands_183 : decode cX12_expands 183 = .ok (.aload_n 0, 1) := by decide +kernel
theorem dX12_expands_184 : decode cX12_expands 184 = .ok (.iload_n 1, 1) := by decide +kernel
theorem dX12_expands_185 : decode cX12_expands 185 = .ok (.invokevirtual 497, 3) := by decide +kernel
theorem dX12_expands_188 : decode cX12_expands 188 = .ok (.goto 14, 3) := by decide +kernel
theorem dX12_expands_191 : decode cX12_expands 191 = .ok (.aload_n 0, 1) := by decide +kernel
theorem dX12_expands_192 : decode cX12_expands 192 = .ok (.iload_n 1, 1) := by decide +kernel
theorem dX12_expands_193 : decode cX12_expands 193 = .ok (.iload_n 2, 1) := by decide +kernel
theorem dX12_expands_194 : decode cX12_expands 194 = .ok (.invokevirtual 506, 3) := by decide +kernel
theorem dX12_expands_197 : decode cX12_expands 197 = .ok (.ifCond .ne 5, 3) := by decide +kernel
theorem dX12_expands_200 : decode cX12_expands 200 = .ok (.iconst 0, 1) := by decide +kernel
theorem dX12_expands_201 : decode cX12_expands 201 = .ok (.ireturn, 1) := by decide +kernel
theorem dX12_expands_202 : decode cX12_expands 202 = .ok (.goto (-177), 3) := by decide +kernel
theorem dX12_expands_205 : decode cX12_expands 205 = .ok (.iconst 1, 1) := by decide +kernel
theorem dX12_expands_206 : decode cX12_expands 206 = .ok (.ireturn, 1) := by decide +kernel
theorem dX12_begins_0 : decode cX12_begins 0 = .ok (.aload_n 0, 1) := by decide +kernel
theorem dX12_begins_1 : decode cX12_begins 1 = .ok (.getfield 509, 3) := by decide +kernel
theorem dX12_begins_4 : decode cX12_begins 4 = .ok (.bipush 100, 2) := by decide +kernel
theorem dX12_begins_6 : decode cX12_begins 6 = .ok (.if_icmp .ne 11, 3) := by decide +kernel
theorem dX12_begins_9 : decode cX12_begins 9 = .ok (.aload_n 0, 1) := by decide +kernel
theorem dX12_begins_10 : decode cX12_begins 10 = .ok (.bipush 7, 2) := by decide +kernel
theorem dX12_begins_12 : decode cX12_begins 12 = .ok (.iload_n 1, 1) := by decide +kernel
theorem dX12_begins_13 : decode cX12_begins 13 = .ok (.invokevirtual 376, 3) := by decide +kernel
theorem dX12_begins_16 : decode cX12_begins 16 = .ok (.ireturn, 1) := by decide +kernel
theorem dX12_begins_17 : decode cX12_begins 17 = .ok (.aload_n 0, 1) := by decide +kernel
theorem dX12_begins_18 : decode cX12_begins 18 = .ok (.dup, 1) := by decide +kernel
theorem dX12_begins_19 : decode cX12_begins 19 = .ok (.getfield 509, 3) := by decide +kernel
theorem dX12_begins_22 : decode cX12_begins 22 = .ok (.iconst 1, 1) := by decide +kernel
theorem dX12_begins_23 : decode cX12_begins 23 = .ok (.iadd, 1) := by decide +kernel
theorem dX12_begins_24 : decode cX12_begins 24 = .ok (.putfield 509, 3) := by decide +kernel
theorem dX12_begins_27 : decode cX12_begins 27 = .ok (.aload_n 0, 1) := by decide +kernel
theorem dX12_begins_28 : decode cX12_begins 28 = .ok (.getfield 68, 3) := by decide +kernel
theorem dX12_begins_31 : decode cX12_begins 31 = .ok (.bipush 6, 2) := by decide +kernel
theorem dX12_begins_33 : decode cX12_begins 33 = .ok (.dup2, 1) := by decide +kernel
theorem dX12_begins_34 : decode cX12_begins 34 = .ok (.iaload, 1) := by decide +kernel
theorem dX12_begins_35 : decode cX12_begins 35 = .ok (.iconst 1, 1) := by decide +kernel
theorem dX12_begins_36 : decode cX12_begins 36 = .ok (.iadd, 1) := by decide +kernel
theorem dX12_begins_37 : decode cX12_begins 37 = .ok (.iastore, 1) := by decide +kernel
theorem dX12_begins_38 : decode cX12_begins 38 = .ok (.aload_n 0, 1) := by decide +kernel
theorem dX12_begins_39 : decode cX12_begins 39 = .ok (.getfield 68, 3) := by decide +kernel
theorem dX12_begins_42 : decode cX12_begins 42 = .ok (.sipush 247, 3) := by decide +kernel
theorem dX12_begins_45 : decode cX12_begins 45 = .ok (.iload_n 2, 1) := by decide +kernel
theorem dX12_begins_46 : decode cX12_begins 46 = .ok (.iadd, 1) := by decide +kernel
theorem dX12_begins_47 : decode cX12_begins 47 = .ok (.dup2, 1) := by decide +kernel
theorem dX12_begins_48 : decode cX12_begins 48 = .ok (.iaload, 1) := by decide +kernel
theorem dX12_begins_49 : decode cX12_begins 49 = .ok (.iconst 1, 1) := by decide +kernel
theorem dX12_begins_50 : decode cX12_begins 50 = .ok (.iadd, 1) := by decide +kernel
theorem dX12_begins_51 : decode cX12_begins 51 = .ok (.iastore, 1) := by decide +kernel
theorem dX12_begins_52 : decode cX12_begins 52 = .ok (.aload_n 0, 1) := by decide +kernel
theorem dX12_begins_53 : decode cX12_begins 53 = .ok (.getfield 98, 3) := by decide +kernel
theorem dX12_begins_56 : decode cX12_begins 56 = .ok (.aload_n 0, 1) := by decide +kernel
theorem dX12_begins_57 : decode cX12_begins 57 = .ok (.getfield 448, 3) := by decide +kernel
theorem dX12_begins_60 : decode cX12_begins 60 = .ok (.iload_n 2, 1) := by decide +kernel
theorem dX12_begins_61 : decode cX12_begins 61 = .ok (.iastore, 1) := by decide +kernel
theorem dX12_begins_62 : decode cX12_begins 62 = .ok (.aload_n 0, 1) := by decide +kernel
theorem dX12_begins_63 : decode cX12_begins 63 = .ok (.getfield 101, 3) := by decide +kernel
theorem dX12_begins_66 : decode cX12_begins 66 = .ok (.aload_n 0, 1) := by decide +kernel
theorem dX12_begins_67 : decode cX12_begins 67 = .ok (.getfield 448, 3) := by decide +kernel
theorem dX12_begins_70 : decode cX12_begins 70 = .ok (.iload_n 1, 1) := by decide +kernel
theorem dX12_begins_71 : decode cX12_begins 71 = .ok (.iastore, 1) := by decide +kernel
theorem dX12_begins_72 : decode cX12_begins 72 = .ok (.aload_n 0, 1) := by decide +kernel
theorem dX12_begins_73 : decode cX12_begins 73 = .ok (.getfield 104, 3) := by decide +kernel
theorem dX12_begins_76 : decode cX12_begins 76 = .ok (.aload_n 0, 1) := by decide +kernel
theorem dX12_begins_77 : decode cX12_begins 77 = .ok (.getfield 448, 3) := by decide +kernel
theorem dX12_begins_80 : decode cX12_begins 80 = .ok (.iload_n 3, 1) := by decide +kernel
theorem dX12_begins_81 : decode cX12_begins 81 = .ok (.iconst 1, 1) := by decide +kernel
theorem dX12_begins_82 : decode cX12_begins 82 = .ok (.iload_n 2, 1) := by decide +kernel
theorem dX12_begins_83 : decode cX12_begins 83 = .ok (.ishl, 1) := by decide +kernel
theorem dX12_begins_84 : decode cX12_begins 84 = .ok (.ior, 1) := by decide +kernel
theorem dX12_begins_85 : decode cX12_begins 85 = .ok (.iastore, 1) := by decide +kernel
theorem dX12_begins_86 : decode cX12_begins 86 = .ok (.aload_n 0, 1) := by decide +kernel
theorem dX12_begins_87 : decode cX12_begins 87 = .ok (.getfield 107, 3) := by decide +kernel
theorem dX12_begins_90 : decode cX12_begins 90 = .ok (.aload_n 0, 1) := by decide +kernel
theorem dX12_begins_91 : decode cX12_begins 91 = .ok (.getfield 448, 3) := by decide +kernel
theorem dX12_begins_94 : decode cX12_begins 94 = .ok (.iconst 0, 1) := by decide +kernel
theorem dX12_begins_95 : decode cX12_begins 95 = .ok (.iastore, 1) := by decide +kernel
theorem dX12_begins_96 : decode cX12_begins 96 = .ok (.aload_n 0, 1) := by decide +kernel
theorem dX12_begins_97 : decode cX12_begins 97 = .ok (.getfield 116, 3) := by decide +kernel
theorem dX12_begins_100 : decode cX12_begins 100 = .ok (.aload_n 0, 1) := by decide +kernel
theorem dX12_begins_101 : decode cX12_begins 101 = .ok (.getfield 448, 3) := by decide +kernel
theorem dX12_begins_104 : decode cX12_begins 104 = .ok (.aload_n 0, 1) := by decide +kernel
theorem dX12_begins_105 : decode cX12_begins 105 = .ok (.getfield 458, 3) := by decide +kernel
theorem dX12_begins_108 : decode cX12_begins 108 = .ok (.iastore, 1) := by decide +kernel
theorem dX12_begins_109 : decode cX12_begins 109 = .ok (.aload_n 0, 1) := by decide +kernel
theorem dX12_begins_110 : decode cX12_begins 110 = .ok (.getfield 119, 3) := by decide +kernel
theorem dX12_begins_113 : decode cX12_begins 113 = .ok (.aload_n 0, 1) := by decide +kernel
theorem dX12_begins_114 : decode cX12_begins 114 = .ok (.getfield 448, 3) := by decide +kernel
theorem dX12_begins_117 : decode cX12_begins 117 = .ok (.aload_n 0, 1) := by decide +kernel
theorem dX12_begins_118 : decode cX12_begins 118 = .ok (.getfield 397, 3) := by decide +kernel
theorem dX12_begins_121 : decode cX12_begins 121 = .ok (.iastore, 1) := by decide +kernel
theorem dX12_begins_122 : decode cX12_begins 122 = .ok (.aload_n 0, 1) := by decide +kernel
theorem dX12_begins_123 : decode cX12_begins 123 = .ok (.getfield 122, 3) := by decide +kernel
theorem dX12_begins_126 : decode cX12_begins 126 = .ok (.aload_n 0, 1) := by decide +kernel
theorem dX12_begins_127 : decode cX12_begins 127 = .ok (.getfield 448, 3) := by decide +kernel
theorem dX12_begins_130 : decode cX12_begins 130 = .ok (.iconst 0, 1) := by decide +kernel
theorem dX12_begins_131 : decode cX12_begins 131 = .ok (.iastore, 1) := by decide +kernel
theorem dX12_begins_132 : decode cX12_begins 132 = .ok (.iconst 1, 1) := by decide +kernel
theorem dX12_begins_133 : decode cX12_begins 133 = .ok (.ireturn, 1) := by decide +kernel
theorem dX12_calls_0 : decode cX12_calls 0 = .ok (.aload_n 0, 1) := by decide +kernel
theorem dX12_calls_1 : decode cX12_calls 1 = .ok (.invokevirtual 491, 3) := by decide +kernel
theorem dX12_calls_4 : decode cX12_calls 4 = .ok (.aload_n 0, 1) := by decide +kernel
theorem dX12_calls_5 : decode cX12_calls 5 = .ok (.getfield 110, 3) := by decide +kernel
theorem dX12_calls_8 : decode cX12_calls 8 = .ok (.aload_n 0, 1) := by decide +kernel
theorem dX12_calls_9 : decode cX12_calls 9 = .ok (.getfield 448, 3) := by decide +kernel
theorem dX12_calls_12 : decode cX12_calls 12 = .ok (.aload_n 0, 1) := by decide +kernel
theorem dX12_calls_13 : decode cX12_calls 13 = .ok (.getfield 500, 3) := by decide +kernel
theorem dX12_calls_16 : decode cX12_calls 16 = .ok (.iastore, 1) := by decide +kernel
theorem dX12_calls_17 : decode cX12_calls 17 = .ok (.iconst 0, 1) := by decide +kernel
theorem dX12_calls_18 : decode cX12_calls 18 = .ok (.istore_n 3, 1) := by decide +kernel
theorem dX12_calls_19 : decode cX12_calls 19 = .ok (.iconst 1, 1) := by decide +kernel
theorem dX12_calls_20 : decode cX12_calls 20 = .ok (.istore 4, 2) := by decide +kernel
theorem dX12_calls_22 : decode cX12_calls 22 = .ok (.aload_n 0, 1) := by decide +kernel
theorem dX12_calls_23 : decode cX12_calls 23 = .ok (.getfield 500, 3) := by decide +kernel
theorem dX12_calls_26 : decode cX12_calls 26 = .ok (.istore 5, 2) := by decide +kernel
theorem dX12_calls_28 : decode cX12_calls 28 = .ok (.aload_n 0, 1) := by decide +kernel
theorem dX12_calls_29 : decode cX12_calls 29 = .ok (.getfield 113, 3) := by decide +kernel
theorem dX12_calls_32 : decode cX12_calls 32 = .ok (.iconst 5, 1) := by decide +kernel
theorem dX12_calls_33 : decode cX12_calls 33 = .ok (.aload_n 0, 1) := by decide +kernel
theorem dX12_calls_34 : decode cX12_calls 34 = .ok (.getfield 448, 3) := by decide +kernel
theorem dX12_calls_37 : decode cX12_calls 37 = .ok (.imul, 1) := by decide +kernel
theorem dX12_calls_38 : decode cX12_calls 38 = .ok (.iload 5, 2) := by decide +kernel
theorem dX12_calls_40 : decode cX12_calls 40 = .ok (.iastore, 1) := by decide +kernel
theorem dX12_calls_41 : decode cX12_calls 41 = .ok (.iconst 0, 1) := by decide +kernel
theorem dX12_calls_42 : decode cX12_calls 42 = .ok (.istore 6, 2) := by decide +kernel
theorem dX12_calls_44 : decode cX12_calls 44 = .ok (.iload 4, 2) := by decide +kernel
theorem dX12_calls_46 : decode cX12_calls 46 = .ok (.ifCond .le 139, 3) := by decide +kernel
theorem dX12_calls_49 : decode cX12_calls 49 = .ok (.aload_n 0, 1) := by decide +kernel
theorem dX12_calls_50 : decode cX12_calls 50 = .ok (.invokevirtual 484, 3) := by decide +kernel
theorem dX12_calls_53 : decode cX12_calls 53 = .ok (.istore 7, 2) := by decide +kernel
theorem dX12_calls_55 : decode cX12_calls 55 = .ok (.iload 7, 2) := by decide +kernel
theorem dX12_calls_57 : decode cX12_calls 57 = .ok (.ifCond .ge 10, 3) := by decide +kernel
theorem dX12_calls_60 : decode cX12_calls 60 = .ok (.aload_n 0, 1) := by decide +kernel
theorem dX12_calls_61 : decode cX12_calls 61 = .ok (.iconst 3, 1) := by decide +kernel
theorem dX12_calls_62 : decode cX12_calls 62 = .ok (.iload_n 1, 1) := by decide +kernel
theorem dX12_calls_63 : decode cX12_calls 63 = .ok (.invokevirtual 376, 3) := by decide +kernel
theorem dX12_calls_66 : decode cX12_calls 66 = .ok (.ireturn, 1) := by decide +kernel
theorem dX12_calls_67 : decode cX12_calls 67 = .ok (.aload_n 0, 1) := by decide +kernel
theorem dX12_calls_68 : decode cX12_calls 68 = .ok (.invokevirtual 491, 3) := by decide +kernel
theorem dX12_calls_71 : decode cX12_calls 71 = .ok (.aload_n 0, 1) := by decide +kernel
theorem dX12_calls_72 : decode cX12_calls 72 = .ok (.iload 7, 2) := by decide +kernel
theorem dX12_calls_74 : decode cX12_calls 74 = .ok (.bipush 40, 2) := by decide +kernel
theorem dX12_calls_76 : decode cX12_calls 76 = .ok (.invokevirtual 406, 3) := by decide +kernel
theorem dX12_calls_79 : decode cX12_calls 79 = .ok (.ifCond .eq 6, 3) := by decide +kernel
theorem dX12_calls_82 : decode cX12_calls 82 = .ok (.iinc 4 1, 3) := by decide +kernel
theorem dX12_calls_85 : decode cX12_calls 85 = .ok (.aload_n 0, 1) := by decide +kernel
theorem dX12_calls_86 : decode cX12_calls 86 = .ok (.iload 7, 2) := by decide +kernel
theorem dX12_calls_88 : decode cX12_calls 88 = .ok (.bipush 41, 2) := by decide +kernel
theorem dX12_calls_90 : decode cX12_calls 90 = .ok (.invokevirtual 406, 3) := by decide +kernel
theorem dX12_calls_93 : decode cX12_calls 93 = .ok (.ifCond .eq 6, 3) := by decide +kernel
theorem dX12_calls_96 : decode cX12_calls 96 = .ok (.iinc 4 (-1), 3) := by decide +kernel
theorem dX12_calls_99 : decode cX12_calls 99 = .ok (.iload 4, 2) := by decide +kernel
theorem dX12_calls_101 : decode cX12_calls 101 = .ok (.ifCond .ne 15, 3) := by decide +kernel
theorem dX12_calls_104 : decode cX12_calls 104 = .ok (.aload_n 0, 1) := by decide +kernel
theorem dX12_calls_105 : decode cX12_calls 105 = .ok (.getfield 58, 3) := by decide +kernel
theorem dX12_calls_108 : decode cX12_calls 108 = .ok (.iload 7, 2) := by decide +kernel
theorem dX12_calls_110 : decode cX12_calls 110 = .ok (.iaload, 1) := by decide +kernel
theorem dX12_calls_111 : decode cX12_calls 111 = .ok (.istore 6, 2) := by decide +kernel
theorem dX12_calls_113 : decode cX12_calls 113 = .ok (.goto 69, 3) := by decide +kernel
theorem dX12_calls_116 : decode cX12_calls 116 = .ok (.iload 4, 2) := by decide +kernel
theorem dX12_calls_118 : decode cX12_calls 118 = .ok (.iconst 1, 1) := by decide +kernel
theorem dX12_calls_119 : decode cX12_calls 119 = .ok (.if_icmp .ne 42, 3) := by decide +kernel
theorem dX12_calls_122 : decode cX12_calls 122 = .ok (.aload_n 0, 1) := by decide +kernel
theorem dX12_calls_123 : decode cX12_calls 123 = .ok (.iload 7, 2) := by decide +kernel
theorem dX12_calls_125 : decode cX12_calls 125 = .ok (.bipush 44, 2) := by decide +kernel
theorem dX12_calls_127 : decode cX12_calls 127 = .ok (.invokevirtual 406, 3) := by decide +kernel
theorem dX12_calls_130 : decode cX12_calls 130 = .ok (.ifCond .eq 31, 3) := by decide +kernel
theorem dX12_calls_133 : decode cX12_calls 133 = .ok (.iinc 3 1, 3) := by decide +kernel
theorem dX12_calls_136 : decode cX12_calls 136 = .ok (.iload_n 3, 1) := by decide +kernel
theorem dX12_calls_137 : decode cX12_calls 137 = .ok (.iconst 5, 1) := by decide +kernel
theorem dX12_calls_138 : decode cX12_calls 138 = .ok (.if_icmp .ge 44, 3) := by decide +kernel
theorem dX12_calls_141 : decode cX12_calls 141 = .ok (.aload_n 0, 1) := by decide +kernel
theorem dX12_calls_142 : decode cX12_calls 142 = .ok (.getfield 113, 3) := by decide +kernel
theorem dX12_calls_145 : decode cX12_calls 145 = .ok (.iconst 5, 1) := by decide +kernel
theorem dX12_calls_146 : decode cX12_calls 146 = .ok (.aload_n 0, 1) := by decide +kernel
theorem dX12_calls_147 : decode cX12_calls 147 = .ok (.getfield 448, 3) := by decide +kernel
theorem dX12_calls_150 : decode cX12_calls 150 = .ok (.imul, 1) := by decide +kernel
theorem dX12_calls_151 : decode cX12_calls 151 = .ok (.iload_n 3, 1) := by decide +kernel
theorem dX12_calls_152 : decode cX12_calls 152 = .ok (.iadd, 1) := by decide +kernel
theorem dX12_calls_153 : decode cX12_calls 153 = .ok (.aload_n 0, 1) := by decide +kernel
theorem dX12_calls_154 : decode cX12_calls 154 = .ok (.getfield 500, 3) := by decide +kernel
theorem dX12_calls_157 : decode cX12_calls 157 = .ok (.iastore, 1) := by decide +kernel
theorem dX12_calls_158 : decode cX12_calls 158 = .ok (.goto 24, 3) := by decide +kernel
theorem dX12_calls_161 : decode cX12_calls 161 = .ok (.aload_n 0, 1) := by decide +kernel
theorem dX12_calls_162 : decode cX12_calls 162 = .ok (.getfield 135, 3) := by decide +kernel
theorem dX12_calls_165 : decode cX12_calls 165 = .ok (.aload_n 0, 1) := by decide +kernel
theorem dX12_calls_166 : decode cX12_calls 166 = .ok (.getfield 500, 3) := by decide +kernel
theorem dX12_calls_169 : decode cX12_calls 169 = .ok (.iload 7, 2) := by decide +kernel
theorem dX12_calls_171 : decode cX12_calls 171 = .ok (.iastore, 1) := by decide +kernel
theorem dX12_calls_172 : decode cX12_calls 172 = .ok (.aload_n 0, 1) := by decide +kernel
theorem dX12_calls_173 : decode cX12_calls 173 = .ok (.dup, 1) := by decide +kernel
theorem dX12_calls_174 : decode cX12_calls 174 = .ok (.getfield 500, 3) := by decide +kernel
theorem dX12_calls_177 : decode cX12_calls 177 = .ok (.iconst 1, 1) := by decide +kernel
theorem dX12_calls_178 : decode cX12_calls 178 = .ok (.iadd, 1) := by decide +kernel
theorem dX12_calls_179 : decode cX12_calls 179 = .ok (.putfield 500, 3) := by decide +kernel
theorem dX12_calls_182 : decode cX12_calls 182 = .ok (.goto (-138), 3) := by decide +kernel
theorem dX12_calls_185 : decode cX12_calls 185 = .ok (.aload_n 0, 1) := by decide +kernel
theorem dX12_calls_186 : decode cX12_calls 186 = .ok (.getfield 68, 3) := by decide +kernel
theorem dX12_calls_189 : decode cX12_calls 189 = .ok (.sipush 199, 3) := by decide +kernel
theorem dX12_calls_192 : decode cX12_calls 192 = .ok (.iload_n 2, 1) := by decide +kernel
theorem dX12_calls_193 : decode cX12_calls 193 = .ok (.iadd, 1) := by decide +kernel
theorem dX12_calls_194 : decode cX12_calls 194 = .ok (.iaload, 1) := by decide +kernel
theorem dX12_calls_195 : decode cX12_calls 195 = .ok (.istore 7, 2) := by decide +kernel
theorem dX12_calls_197 : decode cX12_calls 197 = .ok (.iload 7, 2) := by decide +kernel
theorem dX12_calls_199 : decode cX12_calls 199 = .ok (.ifCond .ne 24, 3) := by decide +kernel
theorem dX12_calls_202 : decode cX12_calls 202 = .ok (.iload_n 3, 1) := by decide +kernel
theorem dX12_calls_203 : decode cX12_calls 203 = .ok (.ifCond .ne 16, 3) := by decide +kernel
theorem dX12_calls_206 : decode cX12_calls 206 = .ok (.aload_n 0, 1) := by decide +kernel
theorem dX12_calls_207 : decode cX12_calls 207 = .ok (.getfield 500, 3) := by decide +kernel
theorem dX12_calls_210 : decode cX12_calls 210 = .ok (.iload 5, 2) := by decide +kernel
theorem dX12_calls_212 : decode cX12_calls 212 = .ok (.if_icmp .ne 7, 3) := by decide +kernel
theorem dX12_calls_215 : decode cX12_calls 215 = .ok (.iconst 1, 1) := by decide +kernel
theorem dX12_calls_216 : decode cX12_calls 216 = .ok (.goto 20, 3) := by decide +kernel
theorem dX12_calls_219 : decode cX12_calls 219 = .ok (.iconst 0, 1) := by decide +kernel
theorem dX12_calls_220 : decode cX12_calls 220 = .ok (.goto 16, 3) := by decide +kernel
theorem dX12_calls_223 : decode cX12_calls 223 = .ok (.iload_n 3, 1) := by decide +kernel
theorem dX12_calls_224 : decode cX12_calls 224 = .ok (.iconst 1, 1) := by decide +kernel
theorem dX12_calls_225 : decode cX12_calls 225 = .ok (.iadd, 1) := by decide +kernel
theorem dX12_calls_226 : decode cX12_calls 226 = .ok (.iload 7, 2) := by decide +kernel
theorem dX12_calls_228 : decode cX12_calls 228 = .ok (.if_icmp .ne 7, 3) := by decide +kernel
theorem dX12_calls_231 : decode cX12_calls 231 = .ok (.iconst 1, 1) := by decide +kernel
theorem dX12_calls_232 : decode cX12_calls 232 = .ok (.goto 4, 3) := by decide +kernel
theorem dX12_calls_235 : decode cX12_calls 235 = .ok (.iconst 0, 1) := by decide +kernel
theorem dX12_calls_236 : decode cX12_calls 236 = .ok (.istore 8, 2) := by decide +kernel
theorem dX12_calls_238 : decode cX12_calls 238 = .ok (.iload 8, 2) := by decide +kernel
theorem dX12_calls_240 : decode cX12_calls 240 = .ok (.ifCond .ne 10, 3) := by decide +kernel
theorem dX12_calls_243 : decode cX12_calls 243 = .ok (.aload_n 0, 1) := by decide +kernel
theorem dX12_calls_244 : decode cX12_calls 244 = .ok (.iconst 4, 1) := by decide +kernel
theorem dX12_calls_245 : decode cX12_calls 245 = .ok (.iload_n 1, 1) := by decide +kernel
theorem dX12_calls_246 : decode cX12_calls 246 = .ok (.invokevirtual 376, 3) := by decide +kernel
theorem dX12_calls_249 : decode cX12_calls 249 = .ok (.ireturn, 1) := by decide +kernel
theorem dX12_calls_250 : decode cX12_calls 250 = .ok (.iload_n 3, 1) := by decide +kernel
theorem dX12_calls_251 : decode cX12_calls 251 = .ok (.iconst 4, 1) := by decide +kernel
theorem dX12_calls_252 : decode cX12_calls 252 = .ok (.if_icmp .ge 22, 3) := by decide +kernel
theorem dX12_calls_255 : decode cX12_calls 255 = .ok (.aload_n 0, 1) := by decide +kernel
theorem dX12_calls_256 : decode cX12_calls 256 = .ok (.getfield 113, 3) := by decide +kernel
theorem dX12_calls_259 : decode cX12_calls 259 = .ok (.iconst 5, 1) := by decide +kernel
theorem dX12_calls_260 : decode cX12_calls 260 = .ok (.aload_n 0, 1) := by decide +kernel
theorem dX12_calls_261 : decode cX12_calls 261 = .ok (.getfield 448, 3) := by decide +kernel
theorem dX12_calls_264 : decode cX12_calls 264 = .ok (.imul, 1) := by decide +kernel
theorem dX12_calls_265 : decode cX12_calls 265 = .ok (.iload_n 3, 1) := by decide +kernel
theorem dX12_calls_266 : decode cX12_calls 266 = .ok (.iadd, 1) := by decide +kernel
theorem dX12_calls_267 : decode cX12_calls 267 = .ok (.iconst 1, 1) := by decide +kernel
theorem dX12_calls_268 : decode cX12_calls 268 = .ok (.iadd, 1) := by decide +kernel
theorem dX12_calls_269 : decode cX12_calls 269 = .ok (.aload_n 0, 1) := by decide +kernel
theorem dX12_calls_270 : decode cX12_calls 270 = .ok (.getfield 500, 3) := by decide +kernel
theorem dX12_calls_273 : decode cX12_calls 273 = .ok (.iastore, 1) := by decide +kernel
theorem dX12_calls_274 : decode cX12_calls 274 = .ok (.aload_n 0, 1) := by decide +kernel
theorem dX12_calls_275 : decode cX12_calls 275 = .ok (.iload_n 1, 1) := by decide +kernel
theorem dX12_calls_276 : decode cX12_calls 276 = .ok (.iload_n 2, 1) := by decide +kernel
theorem dX12_calls_277 : decode cX12_calls 277 = .ok (.aload_n 0, 1) := by decide +kernel
theorem dX12_calls_278 : decode cX12_calls 278 = .ok (.getfield 58, 3) := by decide +kernel
theorem dX12_calls_281 : decode cX12_calls 281 = .ok (.iload_n 1, 1) := by decide +kernel
theorem dX12_calls_282 : decode cX12_calls 282 = .ok (.iaload, 1) := by decide +kernel
theorem dX12_calls_283 : decode cX12_calls 283 = .ok (.iload 6, 2) := by decide +kernel
theorem dX12_calls_285 : decode cX12_calls 285 = .ok (.iand, 1) := by decide +kernel
theorem dX12_calls_286 : decode cX12_calls 286 = .ok (.invokevirtual 503, 3) := by decide +kernel
theorem dX12_calls_289 : decode cX12_calls 289 = .ok (.ireturn, 1) := by decide +kernel
theorem dX12_argBegin_0 : decode cX12_argBegin 0 = .ok (.aload_n 0, 1) := by decide +kernel
theorem dX12_argBegin_1 : decode cX12_argBegin 1 = .ok (.getfield 113, 3) := by decide +kernel
theorem dX12_argBegin_4 : decode cX12_argBegin 4 = .ok (.iconst 5, 1) := by decide +kernel
theorem dX12_argBegin_5 : decode cX12_argBegin 5 = .ok (.aload_n 0, 1) := by decide +kernel
theorem dX12_argBegin_6 : decode cX12_argBegin 6 = .ok (.getfield 448, 3) := by decide +kernel
theorem dX12_argBegin_9 : decode cX12_argBegin 9 = .ok (.imul, 1) := by decide +kernel
theorem dX12_argBegin_10 : decode cX12_argBegin 10 = .ok (.iload_n 1, 1) := by decide +kernel
theorem dX12_argBegin_11 : decode cX12_argBegin 11 = .ok (.iadd, 1) := by decide +kernel
theorem dX12_argBegin_12 : decode cX12_argBegin 12 = .ok (.iaload, 1) := by decide +kernel
theorem dX12_argBegin_13 : decode cX12_argBegin 13 = .ok (.ireturn, 1) := by decide +kernel
theorem dX12_argEnd_0 : decode cX12_argEnd 0 = .ok (.aload_n 0, 1) := by decide +kernel
theorem dX12_argEnd_1 : decode cX12_argEnd 1 = .ok (.getfield 113, 3) := by decide +kernel
theorem dX12_argEnd_4 : decode cX12_argEnd 4 = .ok (.iconst 5, 1) := by decide +kernel
theorem dX12_argEnd_5 : decode cX12_argEnd 5 = .ok (.aload_n 0, 1) := by decide +kernel
theorem dX12_argEnd_6 : decode cX12_argEnd 6 = .ok (.getfield 448, 3) := by decide +kernel
theorem dX12_argEnd_9 : decode cX12_argEnd 9 = .ok (.imul, 1) := by decide +kernel
theorem dX12_argEnd_10 : decode cX12_argEnd 10 = .ok (.iload_n 1, 1) := by decide +kernel
theorem dX12_argEnd_11 : decode cX12_argEnd 11 = .ok (.iadd, 1) := by decide +kernel
theorem dX12_argEnd_12 : decode cX12_argEnd 12 = .ok (.iconst 1, 1) := by decide +kernel
theorem dX12_argEnd_13 : decode cX12_argEnd 13 = .ok (.iadd, 1) := by decide +kernel
theorem dX12_argEnd_14 : decode cX12_argEnd 14 = .ok (.iaload, 1) := by decide +kernel
theorem dX12_argEnd_15 : decode cX12_argEnd 15 = .ok (.ireturn, 1) := by decide +kernel
theorem dX12_replaces_0 : decode cX12_replaces 0 = .ok (.aload_n 0, 1) := by decide +kernel
theorem dX12_replaces_1 : decode cX12_replaces 1 = .ok (.getfield 98, 3) := by decide +kernel
theorem dX12_replaces_4 : decode cX12_replaces 4 = .ok (.aload_n 0, 1) := by decide +kernel
theorem dX12_replaces_5 : decode cX12_replaces 5 = .ok (.getfield 448, 3) := by decide +kernel
theorem dX12_replaces_8 : decode cX12_replaces 8 = .ok (.iaload, 1) := by decide +kernel
theorem dX12_replaces_9 : decode cX12_replaces 9 = .ok (.istore_n 1, 1) := by decide +kernel
theorem dX12_replaces_10 : decode cX12_replaces 10 = .ok (.aload_n 0, 1) := by decide +kernel
theorem dX12_replaces_11 : decode cX12_replaces 11 = .ok (.getfield 107, 3) := by decide +kernel
theorem dX12_replaces_14 : decode cX12_replaces 14 = .ok (.aload_n 0, 1) := by decide +kernel
theorem dX12_replaces_15 : decode cX12_replaces 15 = .ok (.getfield 448, 3) := by decide +kernel
theorem dX12_replaces_18 : decode cX12_replaces 18 = .ok (.iaload, 1) := by decide +kernel
theorem dX12_replaces_19 : decode cX12_replaces 19 = .ok (.istore_n 2, 1) := by decide +kernel
theorem dX12_replaces_20 : decode cX12_replaces 20 = .ok (.iload_n 2, 1) := by decide +kernel
theorem dX12_replaces_21 : decode cX12_replaces 21 = .ok (.aload_n 0, 1) := by decide +kernel
theorem dX12_replaces_22 : decode cX12_replaces 22 = .ok (.getfield 68, 3) := by decide +kernel
theorem dX12_replaces_25 : decode cX12_replaces 25 = .ok (.sipush 211, 3) := by decide +kernel
theorem dX12_replaces_28 : decode cX12_replaces 28 = .ok (.iload_n 1, 1) := by decide +kernel
theorem dX12_replaces_29 : decode cX12_replaces 29 = .ok (.iadd, 1) := by decide +kernel
theorem dX12_replaces_30 : decode cX12_replaces 30 = .ok (.iaload, 1) := by decide +kernel
theorem dX12_replaces_31 : decode cX12_replaces 31 = .ok (.if_icmp .ne 8, 3) := by decide +kernel
theorem dX12_replaces_34 : decode cX12_replaces 34 = .ok (.aload_n 0, 1) := by decide +kernel
theorem dX12_replaces_35 : decode cX12_replaces 35 = .ok (.invokevirtual 512, 3) := by decide +kernel
theorem dX12_replaces_38 : decode cX12_replaces 38 = .ok (.ireturn, 1) := by decide +kernel
theorem dX12_replaces_39 : decode cX12_replaces 39 = .ok (.aload_n 0, 1) := by decide +kernel
theorem dX12_replaces_40 : decode cX12_replaces 40 = .ok (.getfield 107, 3) := by decide +kernel
theorem dX12_replaces_43 : decode cX12_replaces 43 = .ok (.aload_n 0, 1) := by decide +kernel
theorem dX12_replaces_44 : decode cX12_replaces 44 = .ok (.getfield 448, 3) := by decide +kernel
theorem dX12_replaces_47 : decode cX12_replaces 47 = .ok (.dup2, 1) := by decide +kernel
theorem dX12_replaces_48 : decode cX12_replaces 48 = .ok (.iaload, 1) := by decide +kernel
theorem dX12_replaces_49 : decode cX12_replaces 49 = .ok (.iconst 1, 1) := by decide +kernel
theorem dX12_replaces_50 : decode cX12_replaces 50 = .ok (.iadd, 1) := by decide +kernel
theorem dX12_replaces_51 : decode cX12_replaces 51 = .ok (.iastore, 1) := by decide +kernel
theorem dX12_replaces_52 : decode cX12_replaces 52 = .ok (.aload_n 0, 1) := by decide +kernel
theorem dX12_replaces_53 : decode cX12_replaces 53 = .ok (.iload_n 1, 1) := by decide +kernel
theorem dX12_replaces_54 : decode cX12_replaces 54 = .ok (.iload_n 2, 1) := by decide +kernel
theorem dX12_replaces_55 : decode cX12_replaces 55 = .ok (.invokevirtual 515, 3) := by decide +kernel
theorem dX12_replaces_58 : decode cX12_replaces 58 = .ok (.ifCond .eq 5, 3) := by decide +kernel
theorem dX12_replaces_61 : decode cX12_replaces 61 = .ok (.iconst 1, 1) := by decide +kernel
theorem dX12_replaces_62 : decode cX12_replaces 62 = .ok (.ireturn, 1) := by decide +kernel
theorem dX12_replaces_63 : decode cX12_replaces 63 = .ok (.aload_n 0, 1) := by decide +kernel
theorem dX12_replaces_64 : decode cX12_replaces 64 = .ok (.iload_n 1, 1) := by decide +kernel
theorem dX12_replaces_65 : decode cX12_replaces 65 = .ok (.iload_n 2, 1) := by decide +kernel
theorem dX12_replaces_66 : decode cX12_replaces 66 = .ok (.iconst 1, 1) := by decide +kernel
theorem dX12_replaces_67 : decode cX12_replaces 67 = .ok (.isub, 1) := by decide +kernel
theorem dX12_replaces_68 : decode cX12_replaces 68 = .ok (.invokevirtual 515, 3) := by decide +kernel
theorem dX12_replaces_71 : decode cX12_replaces 71 = .ok (.istore_n 3, 1) := by decide +kernel
theorem dX12_replaces_72 : decode cX12_replaces 72 = .ok (.aload_n 0, 1) := by decide +kernel
theorem dX12_replaces_73 : decode cX12_replaces 73 = .ok (.iload_n 3, 1) := by decide +kernel
theorem dX12_replaces_74 : decode cX12_replaces 74 = .ok (.invokevirtual 518, 3) := by decide +kernel
theorem dX12_replaces_77 : decode cX12_replaces 77 = .ok (.aload_n 0, 1) := by decide +kernel
theorem dX12_replaces_78 : decode cX12_replaces 78 = .ok (.iload_n 1, 1) := by decide +kernel
theorem dX12_replaces_79 : decode cX12_replaces 79 = .ok (.iload_n 2, 1) := by decide +kernel
theorem dX12_replaces_80 : decode cX12_replaces 80 = .ok (.invokevirtual 522, 3) := by decide +kernel
theorem dX12_replaces_83 : decode cX12_replaces 83 = .ok (.ifCond .eq 51, 3) := by decide +kernel
theorem dX12_replaces_86 : decode cX12_replaces 86 = .ok (.aload_n 0, 1) := by decide +kernel
theorem dX12_replaces_87 : decode cX12_replaces 87 = .ok (.getfield 107, 3) := by decide +kernel
theorem dX12_replaces_90 : decode cX12_replaces 90 = .ok (.aload_n 0, 1) := by decide +kernel
theorem dX12_replaces_91 : decode cX12_replaces 91 = .ok (.getfield 448, 3) := by decide +kernel
theorem dX12_replaces_94 : decode cX12_replaces 94 = .ok (.dup2, 1) := by decide +kernel
theorem dX12_replaces_95 : decode cX12_replaces 95 = .ok (.iaload, 1) := by decide +kernel
theorem dX12_replaces_96 : decode cX12_replaces 96 = .ok (.iconst 1, 1) := by decide +kernel
theorem dX12_replaces_97 : decode cX12_replaces 97 = .ok (.iadd, 1) := by decide +kernel
theorem dX12_replaces_98 : decode cX12_replaces 98 = .ok (.iastore, 1) := by decide +kernel
theorem dX12_replaces_99 : decode cX12_replaces 99 = .ok (.aload_n 0, 1) := by decide +kernel
theorem dX12_replaces_100 : decode cX12_replaces 100 = .ok (.aload_n 0, 1) := by decide +kernel
theorem dX12_replaces_101 : decode cX12_replaces 101 = .ok (.getfield 68, 3) := by decide +kernel
theorem dX12_replaces_104 : decode cX12_replaces 104 = .ok (.sipush 979, 3) := by decide +kernel
theorem dX12_replaces_107 : decode cX12_replaces 107 = .ok (.iload_n 1, 1) := by decide +kernel
theorem dX12_replaces_108 : decode cX12_replaces 108 = .ok (.iload_n 2, 1) := by decide +kernel
theorem dX12_replaces_109 : decode cX12_replaces 109 = .ok (.iconst 1, 1) := by decide +kernel
theorem dX12_replaces_110 : decode cX12_replaces 110 = .ok (.iadd, 1) := by decide +kernel
theorem dX12_replaces_111 : decode cX12_replaces 111 = .ok (.invokestatic 412, 3) := by decide +kernel
theorem dX12_replaces_114 : decode cX12_replaces 114 = .ok (.iadd, 1) := by decide +kernel
theorem dX12_replaces_115 : decode cX12_replaces 115 = .ok (.iaload, 1) := by decide +kernel
theorem dX12_replaces_116 : decode cX12_replaces 116 = .ok (.aload_n 0, 1) := by decide +kernel
theorem dX12_replaces_117 : decode cX12_replaces 117 = .ok (.getfield 68, 3) := by decide +kernel
theorem dX12_replaces_120 : decode cX12_replaces 120 = .ok (.sipush 739, 3) := by decide +kernel
theorem dX12_replaces_123 : decode cX12_replaces 123 = .ok (.iload_n 1, 1) := by decide +kernel
theorem dX12_replaces_124 : decode cX12_replaces 124 = .ok (.iload_n 2, 1) := by decide +kernel
theorem dX12_replaces_125 : decode cX12_replaces 125 = .ok (.invokestatic 412, 3) := by decide +kernel
theorem dX12_replaces_128 : decode cX12_replaces 128 = .ok (.iadd, 1) := by decide +kernel
theorem dX12_replaces_129 : decode cX12_replaces 129 = .ok (.iaload, 1) := by decide +kernel
theorem dX12_replaces_130 : decode cX12_replaces 130 = .ok (.invokevirtual 525, 3) := by decide +kernel
theorem dX12_replaces_133 : decode cX12_replaces 133 = .ok (.ireturn, 1) := by decide +kernel
theorem dX12_replaces_134 : decode cX12_replaces 134 = .ok (.aload_n 0, 1) := by decide +kernel
theorem dX12_replaces_135 : decode cX12_replaces 135 = .ok (.getfield 68, 3) := by decide +kernel
theorem dX12_replaces_138 : decode cX12_replaces 138 = .ok (.sipush 979, 3) := by decide +kernel
theorem dX12_replaces_141 : decode cX12_replaces 141 = .ok (.iload_n 1, 1) := by decide +kernel
theorem dX12_replaces_142 : decode cX12_replaces 142 = .ok (.iload_n 2, 1) := by decide +kernel
theorem dX12_replaces_143 : decode cX12_replaces 143 = .ok (.invokestatic 412, 3) := by decide +kernel
theorem dX12_replaces_146 : decode cX12_replaces 146 = .ok (.iadd, 1) := by decide +kernel
theorem dX12_replaces_147 : decode cX12_replaces 147 = .ok (.iaload, 1) := by decide +kernel
theorem dX12_replaces_148 : decode cX12_replaces 148 = .ok (.istore 4, 2) := by decide +kernel
theorem dX12_replaces_150 : decode cX12_replaces 150 = .ok (.iload 4, 2) := by decide +kernel
theorem dX12_replaces_152 : decode cX12_replaces 152 = .ok (.ifCond .ge 11, 3) := by decide +kernel
theorem dX12_replaces_155 : decode cX12_replaces 155 = .ok (.aload_n 0, 1) := by decide +kernel
theorem dX12_replaces_156 : decode cX12_replaces 156 = .ok (.iload_n 1, 1) := by decide +kernel
theorem dX12_replaces_157 : decode cX12_replaces 157 = .ok (.iload_n 2, 1) := by decide +kernel
theorem dX12_replaces_158 : decode cX12_replaces 158 = .ok (.invokevirtual 528, 3) := by decide +kernel
theorem dX12_replaces_161 : decode cX12_replaces 161 = .ok (.iconst 1, 1) := by decide +kernel
theorem dX12_replaces_162 : decode cX12_replaces 162 = .ok (.ireturn, 1) := by decide +kernel
theorem dX12_replaces_163 : decode cX12_replaces 163 = .ok (.iload_n 3, 1) := by decide +kernel
theorem dX12_replaces_164 : decode cX12_replaces 164 = .ok (.ifCond .ne 14, 3) := by decide +kernel
theorem dX12_replaces_167 : decode cX12_replaces 167 = .ok (.aload_n 0, 1) := by decide +kernel
theorem dX12_replaces_168 : decode cX12_replaces 168 = .ok (.iload_n 1, 1) := by decide +kernel
theorem dX12_replaces_169 : decode cX12_replaces 169 = .ok (.iload_n 2, 1) := by decide +kernel
theorem dX12_replaces_170 : decode cX12_replaces 170 = .ok (.iconst 1, 1) := by decide +kernel
theorem dX12_replaces_171 : decode cX12_replaces 171 = .ok (.iadd, 1) := by decide +kernel
theorem dX12_replaces_172 : decode cX12_replaces 172 = .ok (.invokevirtual 515, 3) := by decide +kernel
theorem dX12_replaces_175 : decode cX12_replaces 175 = .ok (.ifCond .eq 63, 3) := by decide +kernel
theorem dX12_replaces_178 : decode cX12_replaces 178 = .ok (.aload_n 0, 1) := by decide +kernel
theorem dX12_replaces_179 : decode cX12_replaces 179 = .ok (.iload 4, 2) := by decide +kernel
theorem dX12_replaces_181 : decode cX12_replaces 181 = .ok (.invokevirtual 531, 3) := by decide +kernel
theorem dX12_replaces_184 : decode cX12_replaces 184 = .ok (.istore 5, 2) := by decide +kernel
theorem dX12_replaces_186 : decode cX12_replaces 186 = .ok (.iload 5, 2) := by decide +kernel
theorem dX12_replaces_188 : decode cX12_replaces 188 = .ok (.aload_n 0, 1) := by decide +kernel
theorem dX12_replaces_189 : decode cX12_replaces 189 = .ok (.iload 4, 2) := by decide +kernel
theorem dX12_replaces_191 : decode cX12_replaces 191 = .ok (.invokevirtual 534, 3) := by decide +kernel
theorem dX12_replaces_194 : decode cX12_replaces 194 = .ok (.if_icmp .ge 24, 3) := by decide +kernel
theorem dX12_replaces_197 : decode cX12_replaces 197 = .ok (.aload_n 0, 1) := by decide +kernel
theorem dX12_replaces_198 : decode cX12_replaces 198 = .ok (.aload_n 0, 1) := by decide +kernel
theorem dX12_replaces_199 : decode cX12_replaces 199 = .ok (.getfield 448, 3) := by decide +kernel
theorem dX12_replaces_202 : decode cX12_replaces 202 = .ok (.aload_n 0, 1) := by decide +kernel
theorem dX12_replaces_203 : decode cX12_replaces 203 = .ok (.getfield 135, 3) := by decide +kernel
theorem dX12_replaces_206 : decode cX12_replaces 206 = .ok (.iload 5, 2) := by decide +kernel
theorem dX12_replaces_208 : decode cX12_replaces 208 = .ok (.iaload, 1) := by decide +kernel
theorem dX12_replaces_209 : decode cX12_replaces 209 = .ok (.invokevirtual 454, 3) := by decide +kernel
theorem dX12_replaces_212 : decode cX12_replaces 212 = .ok (.iinc 5 1, 3) := by decide +kernel
theorem dX12_replaces_215 : decode cX12_replaces 215 = .ok (.goto (-29), 3) := by decide +kernel
theorem dX12_replaces_218 : decode cX12_replaces 218 = .ok (.aload_n 0, 1) := by decide +kernel
theorem dX12_replaces_219 : decode cX12_replaces 219 = .ok (.aload_n 0, 1) := by decide +kernel
theorem dX12_replaces_220 : decode cX12_replaces 220 = .ok (.getfield 68, 3) := by decide +kernel
theorem dX12_replaces_223 : decode cX12_replaces 223 = .ok (.sipush 739, 3) := by decide +kernel
theorem dX12_replaces_226 : decode cX12_replaces 226 = .ok (.iload_n 1, 1) := by decide +kernel
theorem dX12_replaces_227 : decode cX12_replaces 227 = .ok (.iload_n 2, 1) := by decide +kernel
theorem dX12_replaces_228 : decode cX12_replaces 228 = .ok (.invokestatic 412, 3) := by decide +kernel
theorem dX12_replaces_231 : decode cX12_replaces 231 = .ok (.iadd, 1) := by decide +kernel
theorem dX12_replaces_232 : decode cX12_replaces 232 = .ok (.iaload, 1) := by decide +kernel
theorem dX12_replaces_233 : decode cX12_replaces 233 = .ok (.invokevirtual 537, 3) := by decide +kernel
theorem dX12_replaces_236 : decode cX12_replaces 236 = .ok (.iconst 1, 1) := by decide +kernel
theorem dX12_replaces_237 : decode cX12_replaces 237 = .ok (.ireturn, 1) := by decide +kernel
theorem dX12_replaces_238 : decode cX12_replaces 238 = .ok (.aload_n 0, 1) := by decide +kernel
theorem dX12_replaces_239 : decode cX12_replaces 239 = .ok (.iload 4, 2) := by decide +kernel
theorem dX12_replaces_241 : decode cX12_replaces 241 = .ok (.invokevirtual 531, 3) := by decide +kernel
theorem dX12_replaces_244 : decode cX12_replaces 244 = .ok (.istore 5, 2) := by decide +kernel
theorem dX12_replaces_246 : decode cX12_replaces 246 = .ok (.aload_n 0, 1) := by decide +kernel
theorem dX12_replaces_247 : decode cX12_replaces 247 = .ok (.iload 4, 2) := by decide +kernel
theorem dX12_replaces_249 : decode cX12_replaces 249 = .ok (.invokevirtual 534, 3) := by decide +kernel
theorem dX12_replaces_252 : decode cX12_replaces 252 = .ok (.istore 6, 2) := by decide +kernel
theorem dX12_replaces_254 : decode cX12_replaces 254 = .ok (.aload_n 0, 1) := by decide +kernel
theorem dX12_replaces_255 : decode cX12_replaces 255 = .ok (.dup, 1) := by decide +kernel
theorem dX12_replaces_256 : decode cX12_replaces 256 = .ok (.getfield 448, 3) := by decide +kernel
theorem dX12_replaces_259 : decode cX12_replaces 259 = .ok (.iconst 1, 1) := by decide +kernel
theorem dX12_replaces_260 : decode cX12_replaces 260 = .ok (.iadd, 1) := by decide +kernel
theorem dX12_replaces_261 : decode cX12_replaces 261 = .ok (.putfield 448, 3) := by decide +kernel
theorem dX12_replaces_264 : decode cX12_replaces 264 = .ok (.aload_n 0, 1) := by decide +kernel
theorem dX12_replaces_265 : decode cX12_replaces 265 = .ok (.invokevirtual 464, 3) := by decide +kernel
theorem dX12_replaces_268 : decode cX12_replaces 268 = .ok (.aload_n 0, 1) := by decide +kernel
theorem dX12_replaces_269 : decode cX12_replaces 269 = .ok (.iload 5, 2) := by decide +kernel
theorem dX12_replaces_271 : decode cX12_replaces 271 = .ok (.iload 6, 2) := by decide +kernel
theorem dX12_replaces_273 : decode cX12_replaces 273 = .ok (.iconst 1, 1) := by decide +kernel
theorem dX12_replaces_274 : decode cX12_replaces 274 = .ok (.invokevirtual 476, 3) := by decide +kernel
theorem dX12_replaces_277 : decode cX12_replaces 277 = .ok (.iconst 1, 1) := by decide +kernel
theorem dX12_replaces_278 : decode cX12_replaces 278 = .ok (.ireturn, 1) := by decide +kernel
theorem dX12_endsArgument_0 : decode cX12_endsArgument 0 = .ok (.aload_n 0, 1) := by decide +kernel
theorem dX12_endsArgument_1 : decode cX12_endsArgument 1 = .ok (.aload_n 0, 1) := by decide +kernel
theorem dX12_endsArgument_2 : decode cX12_endsArgument 2 = .ok (.getfield 68, 3) := by decide +kernel
theorem dX12_endsArgument_5 : decode cX12_endsArgument 5 = .ok (.sipush 739, 3) := by decide +kernel
theorem dX12_endsArgument_8 : decode cX12_endsArgument 8 = .ok (.aload_n 0, 1) := by decide +kernel
theorem dX12_endsArgument_9 : decode cX12_endsArgument 9 = .ok (.getfield 98, 3) := by decide +kernel
theorem dX12_endsArgument_12 : decode cX12_endsArgument 12 = .ok (.aload_n 0, 1) := by decide +kernel
theorem dX12_endsArgument_13 : decode cX12_endsArgument 13 = .ok (.getfield 448, 3) := by decide +kernel
theorem dX12_endsArgument_16 : decode cX12_endsArgument 16 = .ok (.iaload, 1) := by decide +kernel
theorem dX12_endsArgument_17 : decode cX12_endsArgument 17 = .ok (.aload_n 0, 1) := by decide +kernel
theorem dX12_endsArgument_18 : decode cX12_endsArgument 18 = .ok (.getfield 107, 3) := by decide +kernel
theorem dX12_endsArgument_21 : decode cX12_endsArgument 21 = .ok (.aload_n 0, 1) := by decide +kernel
theorem dX12_endsArgument_22 : decode cX12_endsArgument 22 = .ok (.getfield 448, 3) := by decide +kernel
theorem dX12_endsArgument_25 : decode cX12_endsArgument 25 = .ok (.iaload, 1) := by decide +kernel
theorem dX12_endsArgument_26 : decode cX12_endsArgument 26 = .ok (.iconst 1, 1) := by decide +kernel
theorem dX12_endsArgument_27 : decode cX12_endsArgument 27 = .ok (.isub, 1) := by decide +kernel
theorem dX12_endsArgument_28 : decode cX12_endsArgument 28 = .ok (.invokestatic 412, 3) := by decide +kernel
theorem dX12_endsArgument_31 : decode cX12_endsArgument 31 = .ok (.iadd, 1) := by decide +kernel
theorem dX12_endsArgument_32 : decode cX12_endsArgument 32 = .ok (.iaload, 1) := by decide +kernel
theorem dX12_endsArgument_33 : decode cX12_endsArgument 33 = .ok (.invokevirtual 537, 3) := by decide +kernel
theorem dX12_endsArgument_36 : decode cX12_endsArgument 36 = .ok (.return_, 1) := by decide +kernel
theorem dX12_laysToken_0 : decode cX12_laysToken 0 = .ok (.aload_n 0, 1) := by decide +kernel
theorem dX12_laysToken_1 : decode cX12_laysToken 1 = .ok (.getfield 40, 3) := by decide +kernel
theorem dX12_laysToken_4 : decode cX12_laysToken 4 = .ok (.aload_n 0, 1) := by decide +kernel
theorem dX12_laysToken_5 : decode cX12_laysToken 5 = .ok (.getfield 397, 3) := by decide +kernel
theorem dX12_laysToken_8 : decode cX12_laysToken 8 = .ok (.iload_n 1, 1) := by decide +kernel
theorem dX12_laysToken_9 : decode cX12_laysToken 9 = .ok (.iastore, 1) := by decide +kernel
theorem dX12_laysToken_10 : decode cX12_laysToken 10 = .ok (.aload_n 0, 1) := by decide +kernel
theorem dX12_laysToken_11 : decode cX12_laysToken 11 = .ok (.getfield 43, 3) := by decide +kernel
theorem dX12_laysToken_14 : decode cX12_laysToken 14 = .ok (.aload_n 0, 1) := by decide +kernel
theorem dX12_laysToken_15 : decode cX12_laysToken 15 = .ok (.getfield 397, 3) := by decide +kernel
theorem dX12_laysToken_18 : decode cX12_laysToken 18 = .ok (.iload_n 2, 1) := by decide +kernel
theorem dX12_laysToken_19 : decode cX12_laysToken 19 = .ok (.iastore, 1) := by decide +kernel
theorem dX12_laysToken_20 : decode cX12_laysToken 20 = .ok (.aload_n 0, 1) := by decide +kernel
theorem dX12_laysToken_21 : decode cX12_laysToken 21 = .ok (.getfield 46, 3) := by decide +kernel
theorem dX12_laysToken_24 : decode cX12_laysToken 24 = .ok (.aload_n 0, 1) := by decide +kernel
theorem dX12_laysToken_25 : decode cX12_laysToken 25 = .ok (.getfield 397, 3) := by decide +kernel
theorem dX12_laysToken_28 : decode cX12_laysToken 28 = .ok (.iload_n 3, 1) := by decide +kernel
theorem dX12_laysToken_29 : decode cX12_laysToken 29 = .ok (.iastore, 1) := by decide +kernel
theorem dX12_laysToken_30 : decode cX12_laysToken 30 = .ok (.aload_n 0, 1) := by decide +kernel
theorem dX12_laysToken_31 : decode cX12_laysToken 31 = .ok (.aload_n 0, 1) := by decide +kernel
theorem dX12_laysToken_32 : decode cX12_laysToken 32 = .ok (.getfield 397, 3) := by decide +kernel
theorem dX12_laysToken_35 : decode cX12_laysToken 35 = .ok (.aload_n 0, 1) := by decide +kernel
theorem dX12_laysToken_36 : decode cX12_laysToken 36 = .ok (.getfield 101, 3) := by decide +kernel
theorem dX12_laysToken_39 : decode cX12_laysToken 39 = .ok (.aload_n 0, 1) := by decide +kernel
theorem dX12_laysToken_40 : decode cX12_laysToken 40 = .ok (.getfield 448, 3) := by decide +kernel
theorem dX12_laysToken_43 : decode cX12_laysToken 43 = .ok (.iaload, 1) := by decide +kernel
theorem dX12_laysToken_44 : decode cX12_laysToken 44 = .ok (.invokevirtual 540, 3) := by decide +kernel
theorem dX12_laysToken_47 : decode cX12_laysToken 47 = .ok (.aload_n 0, 1) := by decide +kernel
theorem dX12_laysToken_48 : decode cX12_laysToken 48 = .ok (.getfield 58, 3) := by decide +kernel
theorem dX12_laysToken_51 : decode cX12_laysToken 51 = .ok (.aload_n 0, 1) := by decide +kernel
theorem dX12_laysToken_52 : decode cX12_laysToken 52 = .ok (.getfield 397, 3) := by decide +kernel
theorem dX12_laysToken_55 : decode cX12_laysToken 55 = .ok (.iconst 0, 1) := by decide +kernel
theorem dX12_laysToken_56 : decode cX12_laysToken 56 = .ok (.iastore, 1) := by decide +kernel
theorem dX12_laysToken_57 : decode cX12_laysToken 57 = .ok (.aload_n 0, 1) := by decide +kernel
theorem dX12_laysToken_58 : decode cX12_laysToken 58 = .ok (.getfield 61, 3) := by decide +kernel
theorem dX12_laysToken_61 : decode cX12_laysToken 61 = .ok (.aload_n 0, 1) := by decide +kernel
theorem dX12_laysToken_62 : decode cX12_laysToken 62 = .ok (.getfield 397, 3) := by decide +kernel
theorem dX12_laysToken_65 : decode cX12_laysToken 65 = .ok (.iload 4, 2) := by decide +kernel
theorem dX12_laysToken_67 : decode cX12_laysToken 67 = .ok (.iastore, 1) := by decide +kernel
theorem dX12_laysToken_68 : decode cX12_laysToken 68 = .ok (.aload_n 0, 1) := by decide +kernel
theorem dX12_laysToken_69 : decode cX12_laysToken 69 = .ok (.dup, 1) := by decide +kernel
theorem dX12_laysToken_70 : decode cX12_laysToken 70 = .ok (.getfield 397, 3) := by decide +kernel
theorem dX12_laysToken_73 : decode cX12_laysToken 73 = .ok (.iconst 1, 1) := by decide +kernel
theorem dX12_laysToken_74 : decode cX12_laysToken 74 = .ok (.iadd, 1) := by decide +kernel
theorem dX12_laysToken_75 : decode cX12_laysToken 75 = .ok (.putfield 397, 3) := by decide +kernel
theorem dX12_laysToken_78 : decode cX12_laysToken 78 = .ok (.aload_n 0, 1) := by decide +kernel
theorem dX12_laysToken_79 : decode cX12_laysToken 79 = .ok (.getfield 128, 3) := by decide +kernel
theorem dX12_laysToken_82 : decode cX12_laysToken 82 = .ok (.aload_n 0, 1) := by decide +kernel
theorem dX12_laysToken_83 : decode cX12_laysToken 83 = .ok (.getfield 458, 3) := by decide +kernel
theorem dX12_laysToken_86 : decode cX12_laysToken 86 = .ok (.iconst 1, 1) := by decide +kernel
theorem dX12_laysToken_87 : decode cX12_laysToken 87 = .ok (.isub, 1) := by decide +kernel
theorem dX12_laysToken_88 : decode cX12_laysToken 88 = .ok (.iconst 1, 1) := by decide +kernel
theorem dX12_laysToken_89 : decode cX12_laysToken 89 = .ok (.iastore, 1) := by decide +kernel
theorem dX12_laysToken_90 : decode cX12_laysToken 90 = .ok (.aload_n 0, 1) := by decide +kernel
theorem dX12_laysToken_91 : decode cX12_laysToken 91 = .ok (.getfield 122, 3) := by decide +kernel
theorem dX12_laysToken_94 : decode cX12_laysToken 94 = .ok (.aload_n 0, 1) := by decide +kernel
theorem dX12_laysToken_95 : decode cX12_laysToken 95 = .ok (.getfield 448, 3) := by decide +kernel
theorem dX12_laysToken_98 : decode cX12_laysToken 98 = .ok (.dup2, 1) := by decide +kernel
theorem dX12_laysToken_99 : decode cX12_laysToken 99 = .ok (.iaload, 1) := by decide +kernel
theorem dX12_laysToken_100 : decode cX12_laysToken 100 = .ok (.iconst 1, 1) := by decide +kernel
theorem dX12_laysToken_101 : decode cX12_laysToken 101 = .ok (.iadd, 1) := by decide +kernel
theorem dX12_laysToken_102 : decode cX12_laysToken 102 = .ok (.iastore, 1) := by decide +kernel
theorem dX12_laysToken_103 : decode cX12_laysToken 103 = .ok (.return_, 1) := by decide +kernel
theorem dX12_laysBody_0 : decode cX12_laysBody 0 = .ok (.iload_n 1, 1) := by decide +kernel
theorem dX12_laysBody_1 : decode cX12_laysBody 1 = .ok (.iload_n 2, 1) := by decide +kernel
theorem dX12_laysBody_2 : decode cX12_laysBody 2 = .ok (.invokestatic 412, 3) := by decide +kernel
theorem dX12_laysBody_5 : decode cX12_laysBody 5 = .ok (.istore_n 3, 1) := by decide +kernel
theorem dX12_laysBody_6 : decode cX12_laysBody 6 = .ok (.aload_n 0, 1) := by decide +kernel
theorem dX12_laysBody_7 : decode cX12_laysBody 7 = .ok (.aload_n 0, 1) := by decide +kernel
theorem dX12_laysBody_8 : decode cX12_laysBody 8 = .ok (.getfield 68, 3) := by decide +kernel
theorem dX12_laysBody_11 : decode cX12_laysBody 11 = .ok (.sipush 259, 3) := by decide +kernel
theorem dX12_laysBody_14 : decode cX12_laysBody 14 = .ok (.iload_n 3, 1) := by decide +kernel
theorem dX12_laysBody_15 : decode cX12_laysBody 15 = .ok (.iadd, 1) := by decide +kernel
theorem dX12_laysBody_16 : decode cX12_laysBody 16 = .ok (.iaload, 1) := by decide +kernel
theorem dX12_laysBody_17 : decode cX12_laysBody 17 = .ok (.iconst (-1), 1) := by decide +kernel
theorem dX12_laysBody_18 : decode cX12_laysBody 18 = .ok (.iload_n 1, 1) := by decide +kernel
theorem dX12_laysBody_19 : decode cX12_laysBody 19 = .ok (.iload_n 2, 1) := by decide +kernel
theorem dX12_laysBody_20 : decode cX12_laysBody 20 = .ok (.invokestatic 415, 3) := by decide +kernel
theorem dX12_laysBody_23 : decode cX12_laysBody 23 = .ok (.isub, 1) := by decide +kernel
theorem dX12_laysBody_24 : decode cX12_laysBody 24 = .ok (.aload_n 0, 1) := by decide +kernel
theorem dX12_laysBody_25 : decode cX12_laysBody 25 = .ok (.getfield 68, 3) := by decide +kernel
theorem dX12_laysBody_28 : decode cX12_laysBody 28 = .ok (.sipush 499, 3) := by decide +kernel
theorem dX12_laysBody_31 : decode cX12_laysBody 31 = .ok (.iload_n 3, 1) := by decide +kernel
theorem dX12_laysBody_32 : decode cX12_laysBody 32 = .ok (.iadd, 1) := by decide +kernel
theorem dX12_laysBody_33 : decode cX12_laysBody 33 = .ok (.iaload, 1) := by decide +kernel
theorem dX12_laysBody_34 : decode cX12_laysBody 34 = .ok (.aload_n 0, 1) := by decide +kernel
theorem dX12_laysBody_35 : decode cX12_laysBody 35 = .ok (.getfield 68, 3) := by decide +kernel
theorem dX12_laysBody_38 : decode cX12_laysBody 38 = .ok (.sipush 739, 3) := by decide +kernel
theorem dX12_laysBody_41 : decode cX12_laysBody 41 = .ok (.iload_n 3, 1) := by decide +kernel
theorem dX12_laysBody_42 : decode cX12_laysBody 42 = .ok (.iadd, 1) := by decide +kernel
theorem dX12_laysBody_43 : decode cX12_laysBody 43 = .ok (.iaload, 1) := by decide +kernel
theorem dX12_laysBody_44 : decode cX12_laysBody 44 = .ok (.invokevirtual 543, 3) := by decide +kernel
theorem dX12_laysBody_47 : decode cX12_laysBody 47 = .ok (.return_, 1) := by decide +kernel
theorem dX12_makes_0 : decode cX12_makes 0 = .ok (.iconst 1, 1) := by decide +kernel
theorem dX12_makes_1 : decode cX12_makes 1 = .ok (.istore_n 3, 1) := by decide +kernel
theorem dX12_makes_2 : decode cX12_makes 2 = .ok (.aload_n 0, 1) := by decide +kernel
theorem dX12_makes_3 : decode cX12_makes 3 = .ok (.getfield 65, 3) := by decide +kernel
theorem dX12_makes_6 : decode cX12_makes 6 = .ok (.aload_n 0, 1) := by decide +kernel
theorem dX12_makes_7 : decode cX12_makes 7 = .ok (.getfield 391, 3) := by decide +kernel
theorem dX12_makes_10 : decode cX12_makes 10 = .ok (.bipush 34, 2) := by decide +kernel
theorem dX12_makes_12 : decode cX12_makes 12 = .ok (.bastore, 1) := by decide +kernel
theorem dX12_makes_13 : decode cX12_makes 13 = .ok (.aload_n 0, 1) := by decide +kernel
theorem dX12_makes_14 : decode cX12_makes 14 = .ok (.iload_n 1, 1) := by decide +kernel
theorem dX12_makes_15 : decode cX12_makes 15 = .ok (.invokevirtual 531, 3) := by decide +kernel
theorem dX12_makes_18 : decode cX12_makes 18 = .ok (.istore 4, 2) := by decide +kernel
theorem dX12_makes_20 : decode cX12_makes 20 = .ok (.iload 4, 2) := by decide +kernel
theorem dX12_makes_22 : decode cX12_makes 22 = .ok (.aload_n 0, 1) := by decide +kernel
theorem dX12_makes_23 : decode cX12_makes 23 = .ok (.iload_n 1, 1) := by decide +kernel
theorem dX12_makes_24 : decode cX12_makes 24 = .ok (.invokevirtual 534, 3) := by decide +kernel
theorem dX12_makes_27 : decode cX12_makes 27 = .ok (.if_icmp .ge 127, 3) := by decide +kernel
theorem dX12_makes_30 : decode cX12_makes 30 = .ok (.aload_n 0, 1) := by decide +kernel
theorem dX12_makes_31 : decode cX12_makes 31 = .ok (.getfield 135, 3) := by decide +kernel
theorem dX12_makes_34 : decode cX12_makes 34 = .ok (.iload 4, 2) := by decide +kernel
theorem dX12_makes_36 : decode cX12_makes 36 = .ok (.iaload, 1) := by decide +kernel
theorem dX12_makes_37 : decode cX12_makes 37 = .ok (.istore 5, 2) := by decide +kernel
theorem dX12_makes_39 : decode cX12_makes 39 = .ok (.iload 4, 2) := by decide +kernel
theorem dX12_makes_41 : decode cX12_makes 41 = .ok (.aload_n 0, 1) := by decide +kernel
theorem dX12_makes_42 : decode cX12_makes 42 = .ok (.iload_n 1, 1) := by decide +kernel
theorem dX12_makes_43 : decode cX12_makes 43 = .ok (.invokevirtual 531, 3) := by decide +kernel
theorem dX12_makes_46 : decode cX12_makes 46 = .ok (.if_icmp .le 36, 3) := by decide +kernel
theorem dX12_makes_49 : decode cX12_makes 49 = .ok (.aload_n 0, 1) := by decide +kernel
theorem dX12_makes_50 : decode cX12_makes 50 = .ok (.getfield 61, 3) := by decide +kernel
theorem dX12_makes_53 : decode cX12_makes 53 = .ok (.iload 5, 2) := by decide +kernel
theorem dX12_makes_55 : decode cX12_makes 55 = .ok (.iaload, 1) := by decide +kernel
theorem dX12_makes_56 : decode cX12_makes 56 = .ok (.iconst 1, 1) := by decide +kernel
theorem dX12_makes_57 : decode cX12_makes 57 = .ok (.if_icmp .ne 25, 3) := by decide +kernel
theorem dX12_makes_60 : decode cX12_makes 60 = .ok (.iload_n 3, 1) := by decide +kernel
theorem dX12_makes_61 : decode cX12_makes 61 = .ok (.bipush 31, 2) := by decide +kernel
theorem dX12_makes_63 : decode cX12_makes 63 = .ok (.if_icmp .ge 16, 3) := by decide +kernel
theorem dX12_makes_66 : decode cX12_makes 66 = .ok (.aload_n 0, 1) := by decide +kernel
theorem dX12_makes_67 : decode cX12_makes 67 = .ok (.getfield 65, 3) := by decide +kernel
theorem dX12_makes_70 : decode cX12_makes 70 = .ok (.aload_n 0, 1) := by decide +kernel
theorem dX12_makes_71 : decode cX12_makes 71 = .ok (.getfield 391, 3) := by decide +kernel
theorem dX12_makes_74 : decode cX12_makes 74 = .ok (.iload_n 3, 1) := by decide +kernel
theorem dX12_makes_75 : decode cX12_makes 75 = .ok (.iadd, 1) := by decide +kernel
theorem dX12_makes_76 : decode cX12_makes 76 = .ok (.bipush 32, 2) := by decide +kernel
theorem dX12_makes_78 : decode cX12_makes 78 = .ok (.bastore, 1) := by decide +kernel
theorem dX12_makes_79 : decode cX12_makes 79 = .ok (.iinc 3 1, 3) := by decide +kernel
theorem dX12_makes_82 : decode cX12_makes 82 = .ok (.iconst 0, 1) := by decide +kernel
theorem dX12_makes_83 : decode cX12_makes 83 = .ok (.istore 6, 2) := by decide +kernel
theorem dX12_makes_85 : decode cX12_makes 85 = .ok (.iload 6, 2) := by decide +kernel
theorem dX12_makes_87 : decode cX12_makes 87 = .ok (.aload_n 0, 1) := by decide +kernel
theorem dX12_makes_88 : decode cX12_makes 88 = .ok (.getfield 46, 3) := by decide +kernel
theorem dX12_makes_91 : decode cX12_makes 91 = .ok (.iload 5, 2) := by decide +kernel
theorem dX12_makes_93 : decode cX12_makes 93 = .ok (.iaload, 1) := by decide +kernel
theorem dX12_makes_94 : decode cX12_makes 94 = .ok (.if_icmp .ge 54, 3) := by decide +kernel
theorem dX12_makes_97 : decode cX12_makes 97 = .ok (.aload_n 0, 1) := by decide +kernel
theorem dX12_makes_98 : decode cX12_makes 98 = .ok (.iload 5, 2) := by decide +kernel
theorem dX12_makes_100 : decode cX12_makes 100 = .ok (.iload 6, 2) := by decide +kernel
theorem dX12_makes_102 : decode cX12_makes 102 = .ok (.invokevirtual 370, 3) := by decide +kernel
theorem dX12_makes_105 : decode cX12_makes 105 = .ok (.istore 7, 2) := by decide +kernel
theorem dX12_makes_107 : decode cX12_makes 107 = .ok (.iload_n 3, 1) := by decide +kernel
theorem dX12_makes_108 : decode cX12_makes 108 = .ok (.bipush 31, 2) := by decide +kernel
theorem dX12_makes_110 : decode cX12_makes 110 = .ok (.if_icmp .ge 29, 3) := by decide +kernel
theorem dX12_makes_113 : decode cX12_makes 113 = .ok (.aload_n 0, 1) := by decide +kernel
theorem dX12_makes_114 : decode cX12_makes 114 = .ok (.getfield 65, 3) := by decide +kernel
theorem dX12_makes_117 : decode cX12_makes 117 = .ok (.aload_n 0, 1) := by decide +kernel
theorem dX12_makes_118 : decode cX12_makes 118 = .ok (.getfield 391, 3) := by decide +kernel
theorem dX12_makes_121 : decode cX12_makes 121 = .ok (.iload_n 3, 1) := by decide +kernel
theorem dX12_makes_122 : decode cX12_makes 122 = .ok (.iadd, 1) := by decide +kernel
theorem dX12_makes_123 : decode cX12_makes 123 = .ok (.iload 7, 2) := by decide +kernel
theorem dX12_makes_125 : decode cX12_makes 125 = .ok (.bipush 34, 2) := by decide +kernel
theorem dX12_makes_127 : decode cX12_makes 127 = .ok (.if_icmp .ne 8, 3) := by decide +kernel
theorem dX12_makes_130 : decode cX12_makes 130 = .ok (.bipush 39, 2) := by decide +kernel
theorem dX12_makes_132 : decode cX12_makes 132 = .ok (.goto 5, 3) := by decide +kernel
theorem dX12_makes_135 : decode cX12_makes 135 = .ok (.iload 7, 2) := by decide +kernel
theorem dX12_makes_137 : decode cX12_makes 137 = .ok (.i2b, 1) := by decide +kernel
theorem dX12_makes_138 : decode cX12_makes 138 = .ok (.bastore, 1) := by decide +kernel
theorem dX12_makes_139 : decode cX12_makes 139 = .ok (.iinc 3 1, 3) := by decide +kernel
theorem dX12_makes_142 : decode cX12_makes 142 = .ok (.iinc 6 1, 3) := by decide +kernel
theorem dX12_makes_145 : decode cX12_makes 145 = .ok (.goto (-60), 3) := by decide +kernel
theorem dX12_makes_148 : decode cX12_makes 148 = .ok (.iinc 4 1, 3) := by decide +kernel
theorem dX12_makes_151 : decode cX12_makes 151 = .ok (.goto (-131), 3) := by decide +kernel
theorem dX12_makes_154 : decode cX12_makes 154 = .ok (.iinc 3 1, 3) := by decide +kernel
theorem dX12_makes_157 : decode cX12_makes 157 = .ok (.iload_n 3, 1) := by decide +kernel
theorem dX12_makes_158 : decode cX12_makes 158 = .ok (.bipush 30, 2) := by decide +kernel
theorem dX12_makes_160 : decode cX12_makes 160 = .ok (.if_icmp .le 19, 3) := by decide +kernel
theorem dX12_makes_163 : decode cX12_makes 163 = .ok (.aload_n 0, 1) := by decide +kernel
theorem dX12_makes_164 : decode cX12_makes 164 = .ok (.bipush 6, 2) := by decide +kernel
theorem dX12_makes_166 : decode cX12_makes 166 = .ok (.aload_n 0, 1) := by decide +kernel
theorem dX12_makes_167 : decode cX12_makes 167 = .ok (.getfield 101, 3) := by decide +kernel
theorem dX12_makes_170 : decode cX12_makes 170 = .ok (.aload_n 0, 1) := by decide +kernel
theorem dX12_makes_171 : decode cX12_makes 171 = .ok (.getfield 448, 3) := by decide +kernel
theorem dX12_makes_174 : decode cX12_makes 174 = .ok (.iaload, 1) := by decide +kernel
theorem dX12_makes_175 : decode cX12_makes 175 = .ok (.invokevirtual 376, 3) := by decide +kernel
theorem dX12_makes_178 : decode cX12_makes 178 = .ok (.ireturn, 1) := by decide +kernel
theorem dX12_makes_179 : decode cX12_makes 179 = .ok (.aload_n 0, 1) := by decide +kernel
theorem dX12_makes_180 : decode cX12_makes 180 = .ok (.getfield 65, 3) := by decide +kernel
theorem dX12_makes_183 : decode cX12_makes 183 = .ok (.aload_n 0, 1) := by decide +kernel
theorem dX12_makes_184 : decode cX12_makes 184 = .ok (.getfield 391, 3) := by decide +kernel
theorem dX12_makes_187 : decode cX12_makes 187 = .ok (.iload_n 3, 1) := by decide +kernel
theorem dX12_makes_188 : decode cX12_makes 188 = .ok (.iadd, 1) := by decide +kernel
theorem dX12_makes_189 : decode cX12_makes 189 = .ok (.iconst 1, 1) := by decide +kernel
theorem dX12_makes_190 : decode cX12_makes 190 = .ok (.isub, 1) := by decide +kernel
theorem dX12_makes_191 : decode cX12_makes 191 = .ok (.bipush 34, 2) := by decide +kernel
theorem dX12_makes_193 : decode cX12_makes 193 = .ok (.bastore, 1) := by decide +kernel
theorem dX12_makes_194 : decode cX12_makes 194 = .ok (.aload_n 0, 1) := by decide +kernel
theorem dX12_makes_195 : decode cX12_makes 195 = .ok (.iconst 2, 1) := by decide +kernel
theorem dX12_makes_196 : decode cX12_makes 196 = .ok (.aload_n 0, 1) := by decide +kernel
theorem dX12_makes_197 : decode cX12_makes 197 = .ok (.getfield 391, 3) := by decide +kernel
theorem dX12_makes_200 : decode cX12_makes 200 = .ok (.iload_n 3, 1) := by decide +kernel
theorem dX12_makes_201 : decode cX12_makes 201 = .ok (.iload_n 2, 1) := by decide +kernel
theorem dX12_makes_202 : decode cX12_makes 202 = .ok (.invokevirtual 543, 3) := by decide +kernel
theorem dX12_makes_205 : decode cX12_makes 205 = .ok (.aload_n 0, 1) := by decide +kernel
theorem dX12_makes_206 : decode cX12_makes 206 = .ok (.dup, 1) := by decide +kernel
theorem dX12_makes_207 : decode cX12_makes 207 = .ok (.getfield 391, 3) := by decide +kernel
theorem dX12_makes_210 : decode cX12_makes 210 = .ok (.iload_n 3, 1) := by decide +kernel
theorem dX12_makes_211 : decode cX12_makes 211 = .ok (.iadd, 1) := by decide +kernel
theorem dX12_makes_212 : decode cX12_makes 212 = .ok (.putfield 391, 3) := by decide +kernel
theorem dX12_makes_215 : decode cX12_makes 215 = .ok (.aload_n 0, 1) := by decide +kernel
theorem dX12_makes_216 : decode cX12_makes 216 = .ok (.getfield 68, 3) := by decide +kernel
theorem dX12_makes_219 : decode cX12_makes 219 = .ok (.bipush 8, 2) := by decide +kernel
theorem dX12_makes_221 : decode cX12_makes 221 = .ok (.dup2, 1) := by decide +kernel
theorem dX12_makes_222 : decode cX12_makes 222 = .ok (.iaload, 1) := by decide +kernel
theorem dX12_makes_223 : decode cX12_makes 223 = .ok (.iconst 1, 1) := by decide +kernel
theorem dX12_makes_224 : decode cX12_makes 224 = .ok (.iadd, 1) := by decide +kernel
theorem dX12_makes_225 : decode cX12_makes 225 = .ok (.iastore, 1) := by decide +kernel
theorem dX12_makes_226 : decode cX12_makes 226 = .ok (.iconst 1, 1) := by decide +kernel
theorem dX12_makes_227 : decode cX12_makes 227 = .ok (.ireturn, 1) := by decide +kernel
theorem dX12_pastes_0 : decode cX12_pastes 0 = .ok (.iconst 0, 1) := by decide +kernel
theorem dX12_pastes_1 : decode cX12_pastes 1 = .ok (.istore_n 3, 1) := by decide +kernel
theorem dX12_pastes_2 : decode cX12_pastes 2 = .ok (.iconst 0, 1) := by decide +kernel
theorem dX12_pastes_3 : decode cX12_pastes 3 = .ok (.istore 4, 2) := by decide +kernel
theorem dX12_pastes_5 : decode cX12_pastes 5 = .ok (.iload 4, 2) := by decide +kernel
theorem dX12_pastes_7 : decode cX12_pastes 7 = .ok (.aload_n 0, 1) := by decide +kernel
theorem dX12_pastes_8 : decode cX12_pastes 8 = .ok (.getfield 46, 3) := by decide +kernel
theorem dX12_pastes_11 : decode cX12_pastes 11 = .ok (.iload_n 1, 1) := by decide +kernel
theorem dX12_pastes_12 : decode cX12_pastes 12 = .ok (.iaload, 1) := by decide +kernel
theorem dX12_pastes_13 : decode cX12_pastes 13 = .ok (.if_icmp .ge 31, 3) := by decide +kernel
theorem dX12_pastes_16 : decode cX12_pastes 16 = .ok (.aload_n 0, 1) := by decide +kernel
theorem dX12_pastes_17 : decode cX12_pastes 17 = .ok (.getfield 65, 3) := by decide +kernel
theorem dX12_pastes_20 : decode cX12_pastes 20 = .ok (.aload_n 0, 1) := by decide +kernel
theorem dX12_pastes_21 : decode cX12_pastes 21 = .ok (.getfield 391, 3) := by decide +kernel
theorem dX12_pastes_24 : decode cX12_pastes 24 = .ok (.iload_n 3, 1) := by decide +kernel
theorem dX12_pastes_25 : decode cX12_pastes 25 = .ok (.iadd, 1) := by decide +kernel
theorem dX12_pastes_26 : decode cX12_pastes 26 = .ok (.aload_n 0, 1) := by decide +kernel
theorem dX12_pastes_27 : decode cX12_pastes 27 = .ok (.iload_n 1, 1) := by decide +kernel
theorem dX12_pastes_28 : decode cX12_pastes 28 = .ok (.iload 4, 2) := by decide +kernel
theorem dX12_pastes_30 : decode cX12_pastes 30 = .ok (.invokevirtual 370, 3) := by decide +kernel
theorem dX12_pastes_33 : decode cX12_pastes 33 = .ok (.i2b, 1) := by decide +kernel
theorem dX12_pastes_34 : decode cX12_pastes 34 = .ok (.bastore, 1) := by decide +kernel
theorem dX12_pastes_35 : decode cX12_pastes 35 = .ok (.iinc 3 1, 3) := by decide +kernel
theorem dX12_pastes_38 : decode cX12_pastes 38 = .ok (.iinc 4 1, 3) := by decide +kernel
theorem dX12_pastes_41 : decode cX12_pastes 41 = .ok (.goto (-36), 3) := by decide +kernel
theorem dX12_pastes_44 : decode cX12_pastes 44 = .ok (.iconst 0, 1) := by decide +kernel
theorem dX12_pastes_45 : decode cX12_pastes 45 = .ok (.istore 4, 2) := by decide +kernel
theorem dX12_pastes_47 : decode cX12_pastes 47 = .ok (.iload 4, 2) := by decide +kernel
theorem dX12_pastes_49 : decode cX12_pastes 49 = .ok (.aload_n 0, 1) := by decide +kernel
theorem dX12_pastes_50 : decode cX12_pastes 50 = .ok (.getfield 46, 3) := by decide +kernel
theorem dX12_pastes_53 : decode cX12_pastes 53 = .ok (.iload_n 2, 1) := by decide +kernel
theorem dX12_pastes_54 : decode cX12_pastes 54 = .ok (.iaload, 1) := by decide +kernel
theorem dX12_pastes_55 : decode cX12_pastes 55 = .ok (.if_icmp .ge 31, 3) := by decide +kernel
theorem dX12_pastes_58 : decode cX12_pastes 58 = .ok (.aload_n 0, 1) := by decide +kernel
theorem dX12_pastes_59 : decode cX12_pastes 59 = .ok (.getfield 65, 3) := by decide +kernel
theorem dX12_pastes_62 : decode cX12_pastes 62 = .ok (.aload_n 0, 1) := by decide +kernel
theorem dX12_pastes_63 : decode cX12_pastes 63 = .ok (.getfield 391, 3) := by decide +kernel
theorem dX12_pastes_66 : decode cX12_pastes 66 = .ok (.iload_n 3, 1) := by decide +kernel
theorem dX12_pastes_67 : decode cX12_pastes 67 = .ok (.iadd, 1) := by decide +kernel
theorem dX12_pastes_68 : decode cX12_pastes 68 = .ok (.aload_n 0, 1) := by decide +kernel
theorem dX12_pastes_69 : decode cX12_pastes 69 = .ok (.iload_n 2, 1) := by decide +kernel
theorem dX12_pastes_70 : decode cX12_pastes 70 = .ok (.iload 4, 2) := by decide +kernel
theorem dX12_pastes_72 : decode cX12_pastes 72 = .ok (.invokevirtual 370, 3) := by decide +kernel
theorem dX12_pastes_75 : decode cX12_pastes 75 = .ok (.i2b, 1) := by decide +kernel
theorem dX12_pastes_76 : decode cX12_pastes 76 = .ok (.bastore, 1) := by decide +kernel
theorem dX12_pastes_77 : decode cX12_pastes 77 = .ok (.iinc 3 1, 3) := by decide +kernel
theorem dX12_pastes_80 : decode cX12_pastes 80 = .ok (.iinc 4 1, 3) := by decide +kernel
theorem dX12_pastes_83 : decode cX12_pastes 83 = .ok (.goto (-36), 3) := by decide +kernel
theorem dX12_pastes_86 : decode cX12_pastes 86 = .ok (.iload_n 3, 1) := by decide +kernel
theorem dX12_pastes_87 : decode cX12_pastes 87 = .ok (.bipush 30, 2) := by decide +kernel
theorem dX12_pastes_89 : decode cX12_pastes 89 = .ok (.if_icmp .gt 21, 3) := by decide +kernel
theorem dX12_pastes_92 : decode cX12_pastes 92 = .ok (.aload_n 0, 1) := by decide +kernel
theorem dX12_pastes_93 : decode cX12_pastes 93 = .ok (.aload_n 0, 1) := by decide +kernel
theorem dX12_pastes_94 : decode cX12_pastes 94 = .ok (.getfield 391, 3) := by decide +kernel
theorem dX12_pastes_97 : decode cX12_pastes 97 = .ok (.aload_n 0, 1) := by decide +kernel
theorem dX12_pastes_98 : decode cX12_pastes 98 = .ok (.getfield 391, 3) := by decide +kernel
theorem dX12_pastes_101 : decode cX12_pastes 101 = .ok (.iload_n 3, 1) := by decide +kernel
theorem dX12_pastes_102 : decode cX12_pastes 102 = .ok (.iadd, 1) := by decide +kernel
theorem dX12_pastes_103 : decode cX12_pastes 103 = .ok (.invokevirtual 400, 3) := by decide +kernel
theorem dX12_pastes_106 : decode cX12_pastes 106 = .ok (.iload_n 3, 1) := by decide +kernel
theorem dX12_pastes_107 : decode cX12_pastes 107 = .ok (.if_icmp .eq 19, 3) := by decide +kernel
theorem dX12_pastes_110 : decode cX12_pastes 110 = .ok (.aload_n 0, 1) := by decide +kernel
theorem dX12_pastes_111 : decode cX12_pastes 111 = .ok (.bipush 6, 2) := by decide +kernel
theorem dX12_pastes_113 : decode cX12_pastes 113 = .ok (.aload_n 0, 1) := by decide +kernel
theorem dX12_pastes_114 : decode cX12_pastes 114 = .ok (.getfield 101, 3) := by decide +kernel
theorem dX12_pastes_117 : decode cX12_pastes 117 = .ok (.aload_n 0, 1) := by decide +kernel
theorem dX12_pastes_118 : decode cX12_pastes 118 = .ok (.getfield 448, 3) := by decide +kernel
theorem dX12_pastes_121 : decode cX12_pastes 121 = .ok (.iaload, 1) := by decide +kernel
theorem dX12_pastes_122 : decode cX12_pastes 122 = .ok (.invokevirtual 376, 3) := by decide +kernel
theorem dX12_pastes_125 : decode cX12_pastes 125 = .ok (.ireturn, 1) := by decide +kernel
theorem dX12_pastes_126 : decode cX12_pastes 126 = .ok (.aload_n 0, 1) := by decide +kernel
theorem dX12_pastes_127 : decode cX12_pastes 127 = .ok (.iload_n 1, 1) := by decide +kernel
theorem dX12_pastes_128 : decode cX12_pastes 128 = .ok (.aload_n 0, 1) := by decide +kernel
theorem dX12_pastes_129 : decode cX12_pastes 129 = .ok (.getfield 397, 3) := by decide +kernel
theorem dX12_pastes_132 : decode cX12_pastes 132 = .ok (.invokevirtual 461, 3) := by decide +kernel
theorem dX12_pastes_135 : decode cX12_pastes 135 = .ok (.aload_n 0, 1) := by decide +kernel
theorem dX12_pastes_136 : decode cX12_pastes 136 = .ok (.getfield 40, 3) := by decide +kernel
theorem dX12_pastes_139 : decode cX12_pastes 139 = .ok (.aload_n 0, 1) := by decide +kernel
theorem dX12_pastes_140 : decode cX12_pastes 140 = .ok (.getfield 397, 3) := by decide +kernel
theorem dX12_pastes_143 : decode cX12_pastes 143 = .ok (.aload_n 0, 1) := by decide +kernel
theorem dX12_pastes_144 : decode cX12_pastes 144 = .ok (.getfield 388, 3) := by decide +kernel
theorem dX12_pastes_147 : decode cX12_pastes 147 = .ok (.iastore, 1) := by decide +kernel
theorem dX12_pastes_148 : decode cX12_pastes 148 = .ok (.aload_n 0, 1) := by decide +kernel
theorem dX12_pastes_149 : decode cX12_pastes 149 = .ok (.getfield 43, 3) := by decide +kernel
theorem dX12_pastes_152 : decode cX12_pastes 152 = .ok (.aload_n 0, 1) := by decide +kernel
theorem dX12_pastes_153 : decode cX12_pastes 153 = .ok (.getfield 397, 3) := by decide +kernel
theorem dX12_pastes_156 : decode cX12_pastes 156 = .ok (.aload_n 0, 1) := by decide +kernel
theorem dX12_pastes_157 : decode cX12_pastes 157 = .ok (.getfield 391, 3) := by decide +kernel
theorem dX12_pastes_160 : decode cX12_pastes 160 = .ok (.iastore, 1) := by decide +kernel
theorem dX12_pastes_161 : decode cX12_pastes 161 = .ok (.aload_n 0, 1) := by decide +kernel
theorem dX12_pastes_162 : decode cX12_pastes 162 = .ok (.getfield 46, 3) := by decide +kernel
theorem dX12_pastes_165 : decode cX12_pastes 165 = .ok (.aload_n 0, 1) := by decide +kernel
theorem dX12_pastes_166 : decode cX12_pastes 166 = .ok (.getfield 397, 3) := by decide +kernel
theorem dX12_pastes_169 : decode cX12_pastes 169 = .ok (.iload_n 3, 1) := by decide +kernel
theorem dX12_pastes_170 : decode cX12_pastes 170 = .ok (.iastore, 1) := by decide +kernel
theorem dX12_pastes_171 : decode cX12_pastes 171 = .ok (.aload_n 0, 1) := by decide +kernel
theorem dX12_pastes_172 : decode cX12_pastes 172 = .ok (.getfield 58, 3) := by decide +kernel
theorem dX12_pastes_175 : decode cX12_pastes 175 = .ok (.aload_n 0, 1) := by decide +kernel
theorem dX12_pastes_176 : decode cX12_pastes 176 = .ok (.getfield 397, 3) := by decide +kernel
theorem dX12_pastes_179 : decode cX12_pastes 179 = .ok (.aload_n 0, 1) := by decide +kernel
theorem dX12_pastes_180 : decode cX12_pastes 180 = .ok (.getfield 58, 3) := by decide +kernel
theorem dX12_pastes_183 : decode cX12_pastes 183 = .ok (.iload_n 1, 1) := by decide +kernel
theorem dX12_pastes_184 : decode cX12_pastes 184 = .ok (.iaload, 1) := by decide +kernel
theorem dX12_pastes_185 : decode cX12_pastes 185 = .ok (.aload_n 0, 1) := by decide +kernel
theorem dX12_pastes_186 : decode cX12_pastes 186 = .ok (.getfield 58, 3) := by decide +kernel
theorem dX12_pastes_189 : decode cX12_pastes 189 = .ok (.iload_n 2, 1) := by decide +kernel
theorem dX12_pastes_190 : decode cX12_pastes 190 = .ok (.iaload, 1) := by decide +kernel
theorem dX12_pastes_191 : decode cX12_pastes 191 = .ok (.iand, 1) := by decide +kernel
theorem dX12_pastes_192 : decode cX12_pastes 192 = .ok (.iastore, 1) := by decide +kernel
theorem dX12_pastes_193 : decode cX12_pastes 193 = .ok (.aload_n 0, 1) := by decide +kernel
theorem dX12_pastes_194 : decode cX12_pastes 194 = .ok (.dup, 1) := by decide +kernel
theorem dX12_pastes_195 : decode cX12_pastes 195 = .ok (.getfield 397, 3) := by decide +kernel
theorem dX12_pastes_198 : decode cX12_pastes 198 = .ok (.iconst 1, 1) := by decide +kernel
theorem dX12_pastes_199 : decode cX12_pastes 199 = .ok (.iadd, 1) := by decide +kernel
theorem dX12_pastes_200 : decode cX12_pastes 200 = .ok (.putfield 397, 3) := by decide +kernel
theorem dX12_pastes_203 : decode cX12_pastes 203 = .ok (.aload_n 0, 1) := by decide +kernel
theorem dX12_pastes_204 : decode cX12_pastes 204 = .ok (.dup, 1) := by decide +kernel
theorem dX12_pastes_205 : decode cX12_pastes 205 = .ok (.getfield 391, 3) := by decide +kernel
theorem dX12_pastes_208 : decode cX12_pastes 208 = .ok (.iload_n 3, 1) := by decide +kernel
theorem dX12_pastes_209 : decode cX12_pastes 209 = .ok (.iadd, 1) := by decide +kernel
theorem dX12_pastes_210 : decode cX12_pastes 210 = .ok (.putfield 391, 3) := by decide +kernel
theorem dX12_pastes_213 : decode cX12_pastes 213 = .ok (.aload_n 0, 1) := by decide +kernel
theorem dX12_pastes_214 : decode cX12_pastes 214 = .ok (.getfield 68, 3) := by decide +kernel
theorem dX12_pastes_217 : decode cX12_pastes 217 = .ok (.bipush 7, 2) := by decide +kernel
theorem dX12_pastes_219 : decode cX12_pastes 219 = .ok (.dup2, 1) := by decide +kernel
theorem dX12_pastes_220 : decode cX12_pastes 220 = .ok (.iaload, 1) := by decide +kernel
theorem dX12_pastes_221 : decode cX12_pastes 221 = .ok (.iconst 1, 1) := by decide +kernel
theorem dX12_pastes_222 : decode cX12_pastes 222 = .ok (.iadd, 1) := by decide +kernel
theorem dX12_pastes_223 : decode cX12_pastes 223 = .ok (.iastore, 1) := by decide +kernel
theorem dX12_pastes_224 : decode cX12_pastes 224 = .ok (.iconst 1, 1) := by decide +kernel
theorem dX12_pastes_225 : decode cX12_pastes 225 = .ok (.ireturn, 1) := by decide +kernel
theorem dX12_builds_0 : decode cX12_builds 0 = .ok (.iconst 0, 1) := by decide +kernel
theorem dX12_builds_1 : decode cX12_builds 1 = .ok (.istore_n 1, 1) := by decide +kernel
theorem dX12_builds_2 : decode cX12_builds 2 = .ok (.iconst 0, 1) := by decide +kernel
theorem dX12_builds_3 : decode cX12_builds 3 = .ok (.istore_n 2, 1) := by decide +kernel
theorem dX12_builds_4 : decode cX12_builds 4 = .ok (.aload_n 0, 1) := by decide +kernel
theorem dX12_builds_5 : decode cX12_builds 5 = .ok (.getfield 122, 3) := by decide +kernel
theorem dX12_builds_8 : decode cX12_builds 8 = .ok (.aload_n 0, 1) := by decide +kernel
theorem dX12_builds_9 : decode cX12_builds 9 = .ok (.getfield 448, 3) := by decide +kernel
theorem dX12_builds_12 : decode cX12_builds 12 = .ok (.iaload, 1) := by decide +kernel
theorem dX12_builds_13 : decode cX12_builds 13 = .ok (.istore_n 3, 1) := by decide +kernel
theorem dX12_builds_14 : decode cX12_builds 14 = .ok (.aload_n 0, 1) := by decide +kernel
theorem dX12_builds_15 : decode cX12_builds 15 = .ok (.getfield 116, 3) := by decide +kernel
theorem dX12_builds_18 : decode cX12_builds 18 = .ok (.aload_n 0, 1) := by decide +kernel
theorem dX12_builds_19 : decode cX12_builds 19 = .ok (.getfield 448, 3) := by decide +kernel
theorem dX12_builds_22 : decode cX12_builds 22 = .ok (.iaload, 1) := by decide +kernel
theorem dX12_builds_23 : decode cX12_builds 23 = .ok (.istore 4, 2) := by decide +kernel
theorem dX12_builds_25 : decode cX12_builds 25 = .ok (.iload 4, 2) := by decide +kernel
theorem dX12_builds_27 : decode cX12_builds 27 = .ok (.aload_n 0, 1) := by decide +kernel
theorem dX12_builds_28 : decode cX12_builds 28 = .ok (.getfield 458, 3) := by decide +kernel
theorem dX12_builds_31 : decode cX12_builds 31 = .ok (.if_icmp .ge 137, 3) := by decide +kernel
theorem dX12_builds_34 : decode cX12_builds 34 = .ok (.aload_n 0, 1) := by decide +kernel
theorem dX12_builds_35 : decode cX12_builds 35 = .ok (.getfield 125, 3) := by decide +kernel
theorem dX12_builds_38 : decode cX12_builds 38 = .ok (.iload 4, 2) := by decide +kernel
theorem dX12_builds_40 : decode cX12_builds 40 = .ok (.iaload, 1) := by decide +kernel
theorem dX12_builds_41 : decode cX12_builds 41 = .ok (.istore 5, 2) := by decide +kernel
theorem dX12_builds_43 : decode cX12_builds 43 = .ok (.aload_n 0, 1) := by decide +kernel
theorem dX12_builds_44 : decode cX12_builds 44 = .ok (.getfield 125, 3) := by decide +kernel
theorem dX12_builds_47 : decode cX12_builds 47 = .ok (.iload 4, 2) := by decide +kernel
theorem dX12_builds_49 : decode cX12_builds 49 = .ok (.iaload, 1) := by decide +kernel
theorem dX12_builds_50 : decode cX12_builds 50 = .ok (.aload_n 0, 1) := by decide +kernel
theorem dX12_builds_51 : decode cX12_builds 51 = .ok (.getfield 128, 3) := by decide +kernel
theorem dX12_builds_54 : decode cX12_builds 54 = .ok (.iload 4, 2) := by decide +kernel
theorem dX12_builds_56 : decode cX12_builds 56 = .ok (.iaload, 1) := by decide +kernel
theorem dX12_builds_57 : decode cX12_builds 57 = .ok (.iadd, 1) := by decide +kernel
theorem dX12_builds_58 : decode cX12_builds 58 = .ok (.istore 6, 2) := by decide +kernel
theorem dX12_builds_60 : decode cX12_builds 60 = .ok (.aload_n 0, 1) := by decide +kernel
