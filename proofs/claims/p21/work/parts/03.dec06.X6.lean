theorem dX6_init_0 : decode cX6_init 0 = .ok (.aload_n 0, 1) := by decide +kernel
theorem dX6_init_1 : decode cX6_init 1 = .ok (.invokespecial 3, 3) := by decide +kernel
theorem dX6_init_4 : decode cX6_init 4 = .ok (.aload_n 0, 1) := by decide +kernel
theorem dX6_init_5 : decode cX6_init 5 = .ok (.new 9, 3) := by decide +kernel
theorem dX6_init_8 : decode cX6_init 8 = .ok (.dup, 1) := by decide +kernel
theorem dX6_init_9 : decode cX6_init 9 = .ok (.invokespecial 11, 3) := by decide +kernel
theorem dX6_init_12 : decode cX6_init 12 = .ok (.putfield 12, 3) := by decide +kernel
theorem dX6_init_15 : decode cX6_init 15 = .ok (.aload_n 0, 1) := by decide +kernel
theorem dX6_init_16 : decode cX6_init 16 = .ok (.new 18, 3) := by decide +kernel
theorem dX6_init_19 : decode cX6_init 19 = .ok (.dup, 1) := by decide +kernel
theorem dX6_init_20 : decode cX6_init 20 = .ok (.sipush 3440, 3) := by decide +kernel
theorem dX6_init_23 : decode cX6_init 23 = .ok (.invokespecial 20, 3) := by decide +kernel
theorem dX6_init_26 : decode cX6_init 26 = .ok (.putfield 23, 3) := by decide +kernel
theorem dX6_init_29 : decode cX6_init 29 = .ok (.aload_n 0, 1) := by decide +kernel
theorem dX6_init_30 : decode cX6_init 30 = .ok (.bipush 10, 2) := by decide +kernel
theorem dX6_init_32 : decode cX6_init 32 = .ok (.newarray .int, 2) := by decide +kernel
theorem dX6_init_34 : decode cX6_init 34 = .ok (.putfield 27, 3) := by decide +kernel
theorem dX6_init_37 : decode cX6_init 37 = .ok (.aload_n 0, 1) := by decide +kernel
theorem dX6_init_38 : decode cX6_init 38 = .ok (.sipush 160, 3) := by decide +kernel
theorem dX6_init_41 : decode cX6_init 41 = .ok (.newarray .int, 2) := by decide +kernel
theorem dX6_init_43 : decode cX6_init 43 = .ok (.putfield 31, 3) := by decide +kernel
theorem dX6_init_46 : decode cX6_init 46 = .ok (.aload_n 0, 1) := by decide +kernel
theorem dX6_init_47 : decode cX6_init 47 = .ok (.bipush 10, 2) := by decide +kernel
theorem dX6_init_49 : decode cX6_init 49 = .ok (.newarray .int, 2) := by decide +kernel
theorem dX6_init_51 : decode cX6_init 51 = .ok (.putfield 34, 3) := by decide +kernel
theorem dX6_init_54 : decode cX6_init 54 = .ok (.aload_n 0, 1) := by decide +kernel
theorem dX6_init_55 : decode cX6_init 55 = .ok (.new 18, 3) := by decide +kernel
theorem dX6_init_58 : decode cX6_init 58 = .ok (.dup, 1) := by decide +kernel
theorem dX6_init_59 : decode cX6_init 59 = .ok (.sipush 440, 3) := by decide +kernel
theorem dX6_init_62 : decode cX6_init 62 = .ok (.invokespecial 20, 3) := by decide +kernel
theorem dX6_init_65 : decode cX6_init 65 = .ok (.putfield 37, 3) := by decide +kernel
theorem dX6_init_68 : decode cX6_init 68 = .ok (.aload_n 0, 1) := by decide +kernel
theorem dX6_init_69 : decode cX6_init 69 = .ok (.new 18, 3) := by decide +kernel
theorem dX6_init_72 : decode cX6_init 72 = .ok (.dup, 1) := by decide +kernel
theorem dX6_init_73 : decode cX6_init 73 = .ok (.sipush 3440, 3) := by decide +kernel
theorem dX6_init_76 : decode cX6_init 76 = .ok (.invokespecial 20, 3) := by decide +kernel
theorem dX6_init_79 : decode cX6_init 79 = .ok (.putfield 40, 3) := by decide +kernel
theorem dX6_init_82 : decode cX6_init 82 = .ok (.aload_n 0, 1) := by decide +kernel
theorem dX6_init_83 : decode cX6_init 83 = .ok (.bipush 7, 2) := by decide +kernel
theorem dX6_init_85 : decode cX6_init 85 = .ok (.newarray .int, 2) := by decide +kernel
theorem dX6_init_87 : decode cX6_init 87 = .ok (.putfield 43, 3) := by decide +kernel
theorem dX6_init_90 : decode cX6_init 90 = .ok (.aload_n 0, 1) := by decide +kernel
theorem dX6_init_91 : decode cX6_init 91 = .ok (.bipush 7, 2) := by decide +kernel
theorem dX6_init_93 : decode cX6_init 93 = .ok (.newarray .int, 2) := by decide +kernel
theorem dX6_init_95 : decode cX6_init 95 = .ok (.putfield 46, 3) := by decide +kernel
theorem dX6_init_98 : decode cX6_init 98 = .ok (.aload_n 0, 1) := by decide +kernel
theorem dX6_init_99 : decode cX6_init 99 = .ok (.bipush 7, 2) := by decide +kernel
theorem dX6_init_101 : decode cX6_init 101 = .ok (.newarray .int, 2) := by decide +kernel
theorem dX6_init_103 : decode cX6_init 103 = .ok (.putfield 49, 3) := by decide +kernel
theorem dX6_init_106 : decode cX6_init 106 = .ok (.aload_n 0, 1) := by decide +kernel
theorem dX6_init_107 : decode cX6_init 107 = .ok (.iconst (-1), 1) := by decide +kernel
theorem dX6_init_108 : decode cX6_init 108 = .ok (.putfield 52, 3) := by decide +kernel
theorem dX6_init_111 : decode cX6_init 111 = .ok (.aload_n 0, 1) := by decide +kernel
theorem dX6_init_112 : decode cX6_init 112 = .ok (.sipush 280, 3) := by decide +kernel
theorem dX6_init_115 : decode cX6_init 115 = .ok (.newarray .int, 2) := by decide +kernel
theorem dX6_init_117 : decode cX6_init 117 = .ok (.putfield 56, 3) := by decide +kernel
theorem dX6_init_120 : decode cX6_init 120 = .ok (.aload_n 0, 1) := by decide +kernel
theorem dX6_init_121 : decode cX6_init 121 = .ok (.sipush 280, 3) := by decide +kernel
theorem dX6_init_124 : decode cX6_init 124 = .ok (.newarray .int, 2) := by decide +kernel
theorem dX6_init_126 : decode cX6_init 126 = .ok (.putfield 59, 3) := by decide +kernel
theorem dX6_init_129 : decode cX6_init 129 = .ok (.aload_n 0, 1) := by decide +kernel
theorem dX6_init_130 : decode cX6_init 130 = .ok (.iconst 0, 1) := by decide +kernel
theorem dX6_init_131 : decode cX6_init 131 = .ok (.putfield 62, 3) := by decide +kernel
theorem dX6_init_134 : decode cX6_init 134 = .ok (.aload_n 0, 1) := by decide +kernel
theorem dX6_init_135 : decode cX6_init 135 = .ok (.iconst 0, 1) := by decide +kernel
theorem dX6_init_136 : decode cX6_init 136 = .ok (.putfield 65, 3) := by decide +kernel
theorem dX6_init_139 : decode cX6_init 139 = .ok (.aload_n 0, 1) := by decide +kernel
theorem dX6_init_140 : decode cX6_init 140 = .ok (.new 68, 3) := by decide +kernel
theorem dX6_init_143 : decode cX6_init 143 = .ok (.dup, 1) := by decide +kernel
theorem dX6_init_144 : decode cX6_init 144 = .ok (.iload_n 1, 1) := by decide +kernel
theorem dX6_init_145 : decode cX6_init 145 = .ok (.sipush 30000, 3) := by decide +kernel
theorem dX6_init_148 : decode cX6_init 148 = .ok (.imul, 1) := by decide +kernel
theorem dX6_init_149 : decode cX6_init 149 = .ok (.invokespecial 70, 3) := by decide +kernel
theorem dX6_init_152 : decode cX6_init 152 = .ok (.putfield 71, 3) := by decide +kernel
theorem dX6_init_155 : decode cX6_init 155 = .ok (.aload_n 0, 1) := by decide +kernel
theorem dX6_init_156 : decode cX6_init 156 = .ok (.new 75, 3) := by decide +kernel
theorem dX6_init_159 : decode cX6_init 159 = .ok (.dup, 1) := by decide +kernel
theorem dX6_init_160 : decode cX6_init 160 = .ok (.aload_n 0, 1) := by decide +kernel
theorem dX6_init_161 : decode cX6_init 161 = .ok (.getfield 71, 3) := by decide +kernel
theorem dX6_init_164 : decode cX6_init 164 = .ok (.aload_n 0, 1) := by decide +kernel
theorem dX6_init_165 : decode cX6_init 165 = .ok (.getfield 12, 3) := by decide +kernel
theorem dX6_init_168 : decode cX6_init 168 = .ok (.invokespecial 77, 3) := by decide +kernel
theorem dX6_init_171 : decode cX6_init 171 = .ok (.putfield 80, 3) := by decide +kernel
theorem dX6_init_174 : decode cX6_init 174 = .ok (.aload_n 0, 1) := by decide +kernel
theorem dX6_init_175 : decode cX6_init 175 = .ok (.new 84, 3) := by decide +kernel
theorem dX6_init_178 : decode cX6_init 178 = .ok (.dup, 1) := by decide +kernel
theorem dX6_init_179 : decode cX6_init 179 = .ok (.aload_n 0, 1) := by decide +kernel
theorem dX6_init_180 : decode cX6_init 180 = .ok (.getfield 71, 3) := by decide +kernel
theorem dX6_init_183 : decode cX6_init 183 = .ok (.aload_n 0, 1) := by decide +kernel
theorem dX6_init_184 : decode cX6_init 184 = .ok (.getfield 80, 3) := by decide +kernel
theorem dX6_init_187 : decode cX6_init 187 = .ok (.aload_n 0, 1) := by decide +kernel
theorem dX6_init_188 : decode cX6_init 188 = .ok (.getfield 12, 3) := by decide +kernel
theorem dX6_init_191 : decode cX6_init 191 = .ok (.aload_n 0, 1) := by decide +kernel
theorem dX6_init_192 : decode cX6_init 192 = .ok (.getfield 34, 3) := by decide +kernel
theorem dX6_init_195 : decode cX6_init 195 = .ok (.invokespecial 86, 3) := by decide +kernel
theorem dX6_init_198 : decode cX6_init 198 = .ok (.putfield 89, 3) := by decide +kernel
theorem dX6_init_201 : decode cX6_init 201 = .ok (.aload_n 0, 1) := by decide +kernel
theorem dX6_init_202 : decode cX6_init 202 = .ok (.new 93, 3) := by decide +kernel
theorem dX6_init_205 : decode cX6_init 205 = .ok (.dup, 1) := by decide +kernel
theorem dX6_init_206 : decode cX6_init 206 = .ok (.aload_n 0, 1) := by decide +kernel
theorem dX6_init_207 : decode cX6_init 207 = .ok (.getfield 71, 3) := by decide +kernel
theorem dX6_init_210 : decode cX6_init 210 = .ok (.aload_n 0, 1) := by decide +kernel
theorem dX6_init_211 : decode cX6_init 211 = .ok (.getfield 12, 3) := by decide +kernel
theorem dX6_init_214 : decode cX6_init 214 = .ok (.invokespecial 95, 3) := by decide +kernel
theorem dX6_init_217 : decode cX6_init 217 = .ok (.putfield 96, 3) := by decide +kernel
theorem dX6_init_220 : decode cX6_init 220 = .ok (.return_, 1) := by decide +kernel
theorem dX6_start_0 : decode cX6_start 0 = .ok (.aload_n 0, 1) := by decide +kernel
theorem dX6_start_1 : decode cX6_start 1 = .ok (.getfield 12, 3) := by decide +kernel
theorem dX6_start_4 : decode cX6_start 4 = .ok (.invokevirtual 100, 3) := by decide +kernel
theorem dX6_start_7 : decode cX6_start 7 = .ok (.aload_n 0, 1) := by decide +kernel
theorem dX6_start_8 : decode cX6_start 8 = .ok (.getfield 23, 3) := by decide +kernel
theorem dX6_start_11 : decode cX6_start 11 = .ok (.iconst 0, 1) := by decide +kernel
theorem dX6_start_12 : decode cX6_start 12 = .ok (.putfield 103, 3) := by decide +kernel
theorem dX6_start_15 : decode cX6_start 15 = .ok (.aload_n 0, 1) := by decide +kernel
theorem dX6_start_16 : decode cX6_start 16 = .ok (.getfield 71, 3) := by decide +kernel
theorem dX6_start_19 : decode cX6_start 19 = .ok (.sipush 2576, 3) := by decide +kernel
theorem dX6_start_22 : decode cX6_start 22 = .ok (.putfield 106, 3) := by decide +kernel
theorem dX6_start_25 : decode cX6_start 25 = .ok (.aload_n 0, 1) := by decide +kernel
theorem dX6_start_26 : decode cX6_start 26 = .ok (.getfield 27, 3) := by decide +kernel
theorem dX6_start_29 : decode cX6_start 29 = .ok (.iconst 0, 1) := by decide +kernel
theorem dX6_start_30 : decode cX6_start 30 = .ok (.invokestatic 109, 3) := by decide +kernel
theorem dX6_start_33 : decode cX6_start 33 = .ok (.aload_n 0, 1) := by decide +kernel
theorem dX6_start_34 : decode cX6_start 34 = .ok (.getfield 31, 3) := by decide +kernel
theorem dX6_start_37 : decode cX6_start 37 = .ok (.iconst 0, 1) := by decide +kernel
theorem dX6_start_38 : decode cX6_start 38 = .ok (.invokestatic 109, 3) := by decide +kernel
theorem dX6_start_41 : decode cX6_start 41 = .ok (.aload_n 0, 1) := by decide +kernel
theorem dX6_start_42 : decode cX6_start 42 = .ok (.aload_n 1, 1) := by decide +kernel
theorem dX6_start_43 : decode cX6_start 43 = .ok (.getfield 115, 3) := by decide +kernel
theorem dX6_start_46 : decode cX6_start 46 = .ok (.putfield 121, 3) := by decide +kernel
theorem dX6_start_49 : decode cX6_start 49 = .ok (.iconst 0, 1) := by decide +kernel
theorem dX6_start_50 : decode cX6_start 50 = .ok (.istore 4, 2) := by decide +kernel
theorem dX6_start_52 : decode cX6_start 52 = .ok (.iload 4, 2) := by decide +kernel
theorem dX6_start_54 : decode cX6_start 54 = .ok (.iconst 4, 1) := by decide +kernel
theorem dX6_start_55 : decode cX6_start 55 = .ok (.if_icmp .ge 39, 3) := by decide +kernel
theorem dX6_start_58 : decode cX6_start 58 = .ok (.aload_n 0, 1) := by decide +kernel
theorem dX6_start_59 : decode cX6_start 59 = .ok (.getfield 121, 3) := by decide +kernel
theorem dX6_start_62 : decode cX6_start 62 = .ok (.iload 4, 2) := by decide +kernel
theorem dX6_start_64 : decode cX6_start 64 = .ok (.aaload, 1) := by decide +kernel
theorem dX6_start_65 : decode cX6_start 65 = .ok (.getfield 122, 3) := by decide +kernel
theorem dX6_start_68 : decode cX6_start 68 = .ok (.iconst 0, 1) := by decide +kernel
theorem dX6_start_69 : decode cX6_start 69 = .ok (.aload_n 0, 1) := by decide +kernel
theorem dX6_start_70 : decode cX6_start 70 = .ok (.getfield 71, 3) := by decide +kernel
theorem dX6_start_73 : decode cX6_start 73 = .ok (.getfield 127, 3) := by decide +kernel
theorem dX6_start_76 : decode cX6_start 76 = .ok (.iload 4, 2) := by decide +kernel
theorem dX6_start_78 : decode cX6_start 78 = .ok (.sipush 401, 3) := by decide +kernel
theorem dX6_start_81 : decode cX6_start 81 = .ok (.imul, 1) := by decide +kernel
theorem dX6_start_82 : decode cX6_start 82 = .ok (.sipush 401, 3) := by decide +kernel
theorem dX6_start_85 : decode cX6_start 85 = .ok (.invokestatic 130, 3) := by decide +kernel
theorem dX6_start_88 : decode cX6_start 88 = .ok (.iinc 4 1, 3) := by decide +kernel
theorem dX6_start_91 : decode cX6_start 91 = .ok (.goto (-39), 3) := by decide +kernel
theorem dX6_start_94 : decode cX6_start 94 = .ok (.aload_n 0, 1) := by decide +kernel
theorem dX6_start_95 : decode cX6_start 95 = .ok (.getfield 80, 3) := by decide +kernel
theorem dX6_start_98 : decode cX6_start 98 = .ok (.iconst 0, 1) := by decide +kernel
theorem dX6_start_99 : decode cX6_start 99 = .ok (.putfield 136, 3) := by decide +kernel
theorem dX6_start_102 : decode cX6_start 102 = .ok (.iconst 0, 1) := by decide +kernel
theorem dX6_start_103 : decode cX6_start 103 = .ok (.istore 4, 2) := by decide +kernel
theorem dX6_start_105 : decode cX6_start 105 = .ok (.iload 4, 2) := by decide +kernel
theorem dX6_start_107 : decode cX6_start 107 = .ok (.aload_n 1, 1) := by decide +kernel
theorem dX6_start_108 : decode cX6_start 108 = .ok (.getfield 137, 3) := by decide +kernel
theorem dX6_start_111 : decode cX6_start 111 = .ok (.if_icmp .ge 78, 3) := by decide +kernel
theorem dX6_start_114 : decode cX6_start 114 = .ok (.iload 4, 2) := by decide +kernel
theorem dX6_start_116 : decode cX6_start 116 = .ok (.iconst 3, 1) := by decide +kernel
theorem dX6_start_117 : decode cX6_start 117 = .ok (.if_icmp .ge 72, 3) := by decide +kernel
theorem dX6_start_120 : decode cX6_start 120 = .ok (.sipush 1604, 3) := by decide +kernel
theorem dX6_start_123 : decode cX6_start 123 = .ok (.iload 4, 2) := by decide +kernel
theorem dX6_start_125 : decode cX6_start 125 = .ok (.bipush 30, 2) := by decide +kernel
theorem dX6_start_127 : decode cX6_start 127 = .ok (.imul, 1) := by decide +kernel
theorem dX6_start_128 : decode cX6_start 128 = .ok (.iadd, 1) := by decide +kernel
theorem dX6_start_129 : decode cX6_start 129 = .ok (.istore 5, 2) := by decide +kernel
theorem dX6_start_131 : decode cX6_start 131 = .ok (.aload_n 1, 1) := by decide +kernel
theorem dX6_start_132 : decode cX6_start 132 = .ok (.getfield 140, 3) := by decide +kernel
theorem dX6_start_135 : decode cX6_start 135 = .ok (.iload 4, 2) := by decide +kernel
theorem dX6_start_137 : decode cX6_start 137 = .ok (.aaload, 1) := by decide +kernel
theorem dX6_start_138 : decode cX6_start 138 = .ok (.iconst 0, 1) := by decide +kernel
theorem dX6_start_139 : decode cX6_start 139 = .ok (.aload_n 0, 1) := by decide +kernel
theorem dX6_start_140 : decode cX6_start 140 = .ok (.getfield 71, 3) := by decide +kernel
theorem dX6_start_143 : decode cX6_start 143 = .ok (.getfield 127, 3) := by decide +kernel
theorem dX6_start_146 : decode cX6_start 146 = .ok (.iload 5, 2) := by decide +kernel
theorem dX6_start_148 : decode cX6_start 148 = .ok (.bipush 30, 2) := by decide +kernel
theorem dX6_start_150 : decode cX6_start 150 = .ok (.invokestatic 130, 3) := by decide +kernel
theorem dX6_start_153 : decode cX6_start 153 = .ok (.aload_n 0, 1) := by decide +kernel
theorem dX6_start_154 : decode cX6_start 154 = .ok (.getfield 80, 3) := by decide +kernel
theorem dX6_start_157 : decode cX6_start 157 = .ok (.iload 5, 2) := by decide +kernel
theorem dX6_start_159 : decode cX6_start 159 = .ok (.aload_n 1, 1) := by decide +kernel
theorem dX6_start_160 : decode cX6_start 160 = .ok (.getfield 144, 3) := by decide +kernel
theorem dX6_start_163 : decode cX6_start 163 = .ok (.iload 4, 2) := by decide +kernel
theorem dX6_start_165 : decode cX6_start 165 = .ok (.iaload, 1) := by decide +kernel
theorem dX6_start_166 : decode cX6_start 166 = .ok (.iload_n 3, 1) := by decide +kernel
theorem dX6_start_167 : decode cX6_start 167 = .ok (.iload 4, 2) := by decide +kernel
theorem dX6_start_169 : decode cX6_start 169 = .ok (.ishr, 1) := by decide +kernel
theorem dX6_start_170 : decode cX6_start 170 = .ok (.iconst 1, 1) := by decide +kernel
theorem dX6_start_171 : decode cX6_start 171 = .ok (.iand, 1) := by decide +kernel
theorem dX6_start_172 : decode cX6_start 172 = .ok (.ifCond .eq 7, 3) := by decide +kernel
theorem dX6_start_175 : decode cX6_start 175 = .ok (.iconst 1, 1) := by decide +kernel
theorem dX6_start_176 : decode cX6_start 176 = .ok (.goto 4, 3) := by decide +kernel
theorem dX6_start_179 : decode cX6_start 179 = .ok (.iconst 0, 1) := by decide +kernel
theorem dX6_start_180 : decode cX6_start 180 = .ok (.invokevirtual 147, 3) := by decide +kernel
theorem dX6_start_183 : decode cX6_start 183 = .ok (.iinc 4 1, 3) := by decide +kernel
theorem dX6_start_186 : decode cX6_start 186 = .ok (.goto (-81), 3) := by decide +kernel
theorem dX6_start_189 : decode cX6_start 189 = .ok (.aload_n 0, 1) := by decide +kernel
theorem dX6_start_190 : decode cX6_start 190 = .ok (.getfield 89, 3) := by decide +kernel
theorem dX6_start_193 : decode cX6_start 193 = .ok (.aload_n 0, 1) := by decide +kernel
theorem dX6_start_194 : decode cX6_start 194 = .ok (.getfield 27, 3) := by decide +kernel
theorem dX6_start_197 : decode cX6_start 197 = .ok (.iconst 1, 1) := by decide +kernel
theorem dX6_start_198 : decode cX6_start 198 = .ok (.invokevirtual 151, 3) := by decide +kernel
theorem dX6_start_201 : decode cX6_start 201 = .ok (.aload_n 0, 1) := by decide +kernel
theorem dX6_start_202 : decode cX6_start 202 = .ok (.iconst 0, 1) := by decide +kernel
theorem dX6_start_203 : decode cX6_start 203 = .ok (.putfield 62, 3) := by decide +kernel
theorem dX6_start_206 : decode cX6_start 206 = .ok (.aload_n 0, 1) := by decide +kernel
theorem dX6_start_207 : decode cX6_start 207 = .ok (.iconst 0, 1) := by decide +kernel
theorem dX6_start_208 : decode cX6_start 208 = .ok (.putfield 52, 3) := by decide +kernel
theorem dX6_start_211 : decode cX6_start 211 = .ok (.aload_n 0, 1) := by decide +kernel
theorem dX6_start_212 : decode cX6_start 212 = .ok (.getfield 43, 3) := by decide +kernel
theorem dX6_start_215 : decode cX6_start 215 = .ok (.iconst 0, 1) := by decide +kernel
theorem dX6_start_216 : decode cX6_start 216 = .ok (.iload_n 2, 1) := by decide +kernel
theorem dX6_start_217 : decode cX6_start 217 = .ok (.iastore, 1) := by decide +kernel
theorem dX6_start_218 : decode cX6_start 218 = .ok (.aload_n 0, 1) := by decide +kernel
theorem dX6_start_219 : decode cX6_start 219 = .ok (.getfield 46, 3) := by decide +kernel
theorem dX6_start_222 : decode cX6_start 222 = .ok (.iconst 0, 1) := by decide +kernel
theorem dX6_start_223 : decode cX6_start 223 = .ok (.iconst 0, 1) := by decide +kernel
theorem dX6_start_224 : decode cX6_start 224 = .ok (.iastore, 1) := by decide +kernel
theorem dX6_start_225 : decode cX6_start 225 = .ok (.aload_n 0, 1) := by decide +kernel
theorem dX6_start_226 : decode cX6_start 226 = .ok (.getfield 49, 3) := by decide +kernel
theorem dX6_start_229 : decode cX6_start 229 = .ok (.iconst 0, 1) := by decide +kernel
theorem dX6_start_230 : decode cX6_start 230 = .ok (.iconst 0, 1) := by decide +kernel
theorem dX6_start_231 : decode cX6_start 231 = .ok (.iastore, 1) := by decide +kernel
theorem dX6_start_232 : decode cX6_start 232 = .ok (.return_, 1) := by decide +kernel
theorem dX6_doLine_0 : decode cX6_doLine 0 = .ok (.aload_n 0, 1) := by decide +kernel
theorem dX6_doLine_1 : decode cX6_doLine 1 = .ok (.getfield 121, 3) := by decide +kernel
theorem dX6_doLine_4 : decode cX6_doLine 4 = .ok (.ifnull 29, 3) := by decide +kernel
theorem dX6_doLine_7 : decode cX6_doLine 7 = .ok (.aload_n 0, 1) := by decide +kernel
theorem dX6_doLine_8 : decode cX6_doLine 8 = .ok (.getfield 52, 3) := by decide +kernel
theorem dX6_doLine_11 : decode cX6_doLine 11 = .ok (.ifCond .lt 22, 3) := by decide +kernel
theorem dX6_doLine_14 : decode cX6_doLine 14 = .ok (.aload_n 0, 1) := by decide +kernel
theorem dX6_doLine_15 : decode cX6_doLine 15 = .ok (.getfield 52, 3) := by decide +kernel
theorem dX6_doLine_18 : decode cX6_doLine 18 = .ok (.bipush 7, 2) := by decide +kernel
theorem dX6_doLine_20 : decode cX6_doLine 20 = .ok (.if_icmp .ge 13, 3) := by decide +kernel
theorem dX6_doLine_23 : decode cX6_doLine 23 = .ok (.aload_n 0, 1) := by decide +kernel
theorem dX6_doLine_24 : decode cX6_doLine 24 = .ok (.getfield 12, 3) := by decide +kernel
theorem dX6_doLine_27 : decode cX6_doLine 27 = .ok (.getfield 155, 3) := by decide +kernel
theorem dX6_doLine_30 : decode cX6_doLine 30 = .ok (.ifCond .eq 5, 3) := by decide +kernel
theorem dX6_doLine_33 : decode cX6_doLine 33 = .ok (.iconst 0, 1) := by decide +kernel
theorem dX6_doLine_34 : decode cX6_doLine 34 = .ok (.ireturn, 1) := by decide +kernel
theorem dX6_doLine_35 : decode cX6_doLine 35 = .ok (.aload_n 0, 1) := by decide +kernel
theorem dX6_doLine_36 : decode cX6_doLine 36 = .ok (.getfield 43, 3) := by decide +kernel
theorem dX6_doLine_39 : decode cX6_doLine 39 = .ok (.aload_n 0, 1) := by decide +kernel
theorem dX6_doLine_40 : decode cX6_doLine 40 = .ok (.getfield 52, 3) := by decide +kernel
theorem dX6_doLine_43 : decode cX6_doLine 43 = .ok (.iaload, 1) := by decide +kernel
theorem dX6_doLine_44 : decode cX6_doLine 44 = .ok (.istore_n 1, 1) := by decide +kernel
theorem dX6_doLine_45 : decode cX6_doLine 45 = .ok (.aload_n 0, 1) := by decide +kernel
theorem dX6_doLine_46 : decode cX6_doLine 46 = .ok (.getfield 46, 3) := by decide +kernel
theorem dX6_doLine_49 : decode cX6_doLine 49 = .ok (.aload_n 0, 1) := by decide +kernel
theorem dX6_doLine_50 : decode cX6_doLine 50 = .ok (.getfield 52, 3) := by decide +kernel
theorem dX6_doLine_53 : decode cX6_doLine 53 = .ok (.iaload, 1) := by decide +kernel
theorem dX6_doLine_54 : decode cX6_doLine 54 = .ok (.istore_n 2, 1) := by decide +kernel
theorem dX6_doLine_55 : decode cX6_doLine 55 = .ok (.iload_n 2, 1) := by decide +kernel
theorem dX6_doLine_56 : decode cX6_doLine 56 = .ok (.aload_n 0, 1) := by decide +kernel
theorem dX6_doLine_57 : decode cX6_doLine 57 = .ok (.getfield 121, 3) := by decide +kernel
theorem dX6_doLine_60 : decode cX6_doLine 60 = .ok (.iload_n 1, 1) := by decide +kernel
theorem dX6_doLine_61 : decode cX6_doLine 61 = .ok (.aaload, 1) := by decide +kernel
theorem dX6_doLine_62 : decode cX6_doLine 62 = .ok (.getfield 158, 3) := by decide +kernel
theorem dX6_doLine_65 : decode cX6_doLine 65 = .ok (.if_icmp .lt 30, 3) := by decide +kernel
theorem dX6_doLine_68 : decode cX6_doLine 68 = .ok (.aload_n 0, 1) := by decide +kernel
theorem dX6_doLine_69 : decode cX6_doLine 69 = .ok (.invokevirtual 159, 3) := by decide +kernel
theorem dX6_doLine_72 : decode cX6_doLine 72 = .ok (.aload_n 0, 1) := by decide +kernel
theorem dX6_doLine_73 : decode cX6_doLine 73 = .ok (.getfield 52, 3) := by decide +kernel
theorem dX6_doLine_76 : decode cX6_doLine 76 = .ok (.ifCond .lt 17, 3) := by decide +kernel
theorem dX6_doLine_79 : decode cX6_doLine 79 = .ok (.aload_n 0, 1) := by decide +kernel
theorem dX6_doLine_80 : decode cX6_doLine 80 = .ok (.getfield 12, 3) := by decide +kernel
theorem dX6_doLine_83 : decode cX6_doLine 83 = .ok (.getfield 155, 3) := by decide +kernel
theorem dX6_doLine_86 : decode cX6_doLine 86 = .ok (.ifCond .ne 7, 3) := by decide +kernel
theorem dX6_doLine_89 : decode cX6_doLine 89 = .ok (.iconst 1, 1) := by decide +kernel
theorem dX6_doLine_90 : decode cX6_doLine 90 = .ok (.goto 4, 3) := by decide +kernel
theorem dX6_doLine_93 : decode cX6_doLine 93 = .ok (.iconst 0, 1) := by decide +kernel
theorem dX6_doLine_94 : decode cX6_doLine 94 = .ok (.ireturn, 1) := by decide +kernel
theorem dX6_doLine_95 : decode cX6_doLine 95 = .ok (.aload_n 0, 1) := by decide +kernel
theorem dX6_doLine_96 : decode cX6_doLine 96 = .ok (.getfield 121, 3) := by decide +kernel
theorem dX6_doLine_99 : decode cX6_doLine 99 = .ok (.iload_n 1, 1) := by decide +kernel
theorem dX6_doLine_100 : decode cX6_doLine 100 = .ok (.aaload, 1) := by decide +kernel
theorem dX6_doLine_101 : decode cX6_doLine 101 = .ok (.getfield 162, 3) := by decide +kernel
theorem dX6_doLine_104 : decode cX6_doLine 104 = .ok (.iload_n 2, 1) := by decide +kernel
theorem dX6_doLine_105 : decode cX6_doLine 105 = .ok (.iconst 1, 1) := by decide +kernel
theorem dX6_doLine_106 : decode cX6_doLine 106 = .ok (.iadd, 1) := by decide +kernel
theorem dX6_doLine_107 : decode cX6_doLine 107 = .ok (.iaload, 1) := by decide +kernel
theorem dX6_doLine_108 : decode cX6_doLine 108 = .ok (.iconst 1, 1) := by decide +kernel
theorem dX6_doLine_109 : decode cX6_doLine 109 = .ok (.isub, 1) := by decide +kernel
theorem dX6_doLine_110 : decode cX6_doLine 110 = .ok (.aload_n 0, 1) := by decide +kernel
theorem dX6_doLine_111 : decode cX6_doLine 111 = .ok (.getfield 121, 3) := by decide +kernel
theorem dX6_doLine_114 : decode cX6_doLine 114 = .ok (.iload_n 1, 1) := by decide +kernel
theorem dX6_doLine_115 : decode cX6_doLine 115 = .ok (.aaload, 1) := by decide +kernel
theorem dX6_doLine_116 : decode cX6_doLine 116 = .ok (.getfield 162, 3) := by decide +kernel
theorem dX6_doLine_119 : decode cX6_doLine 119 = .ok (.iload_n 2, 1) := by decide +kernel
theorem dX6_doLine_120 : decode cX6_doLine 120 = .ok (.iaload, 1) := by decide +kernel
theorem dX6_doLine_121 : decode cX6_doLine 121 = .ok (.isub, 1) := by decide +kernel
theorem dX6_doLine_122 : decode cX6_doLine 122 = .ok (.istore_n 3, 1) := by decide +kernel
theorem dX6_doLine_123 : decode cX6_doLine 123 = .ok (.aload_n 0, 1) := by decide +kernel
theorem dX6_doLine_124 : decode cX6_doLine 124 = .ok (.iload_n 1, 1) := by decide +kernel
theorem dX6_doLine_125 : decode cX6_doLine 125 = .ok (.iload_n 2, 1) := by decide +kernel
theorem dX6_doLine_126 : decode cX6_doLine 126 = .ok (.iload_n 3, 1) := by decide +kernel
theorem dX6_doLine_127 : decode cX6_doLine 127 = .ok (.invokestatic 165, 3) := by decide +kernel
theorem dX6_doLine_130 : decode cX6_doLine 130 = .ok (.putfield 65, 3) := by decide +kernel
theorem dX6_doLine_133 : decode cX6_doLine 133 = .ok (.aload_n 0, 1) := by decide +kernel
theorem dX6_doLine_134 : decode cX6_doLine 134 = .ok (.getfield 121, 3) := by decide +kernel
theorem dX6_doLine_137 : decode cX6_doLine 137 = .ok (.iload_n 1, 1) := by decide +kernel
theorem dX6_doLine_138 : decode cX6_doLine 138 = .ok (.aaload, 1) := by decide +kernel
theorem dX6_doLine_139 : decode cX6_doLine 139 = .ok (.getfield 169, 3) := by decide +kernel
theorem dX6_doLine_142 : decode cX6_doLine 142 = .ok (.iload_n 2, 1) := by decide +kernel
theorem dX6_doLine_143 : decode cX6_doLine 143 = .ok (.iaload, 1) := by decide +kernel
theorem dX6_doLine_144 : decode cX6_doLine 144 = .ok (.istore 4, 2) := by decide +kernel
theorem dX6_doLine_146 : decode cX6_doLine 146 = .ok (.aload_n 0, 1) := by decide +kernel
theorem dX6_doLine_147 : decode cX6_doLine 147 = .ok (.iload 4, 2) := by decide +kernel
theorem dX6_doLine_149 : decode cX6_doLine 149 = .ok (.invokevirtual 172, 3) := by decide +kernel
theorem dX6_doLine_152 : decode cX6_doLine 152 = .ok (.ifCond .eq 20, 3) := by decide +kernel
theorem dX6_doLine_155 : decode cX6_doLine 155 = .ok (.aload_n 0, 1) := by decide +kernel
theorem dX6_doLine_156 : decode cX6_doLine 156 = .ok (.getfield 12, 3) := by decide +kernel
theorem dX6_doLine_159 : decode cX6_doLine 159 = .ok (.bipush 10, 2) := by decide +kernel
theorem dX6_doLine_161 : decode cX6_doLine 161 = .ok (.aload_n 0, 1) := by decide +kernel
theorem dX6_doLine_162 : decode cX6_doLine 162 = .ok (.iload_n 1, 1) := by decide +kernel
theorem dX6_doLine_163 : decode cX6_doLine 163 = .ok (.iload_n 2, 1) := by decide +kernel
theorem dX6_doLine_164 : decode cX6_doLine 164 = .ok (.invokevirtual 176, 3) := by decide +kernel
theorem dX6_doLine_167 : decode cX6_doLine 167 = .ok (.invokevirtual 180, 3) := by decide +kernel
theorem dX6_doLine_170 : decode cX6_doLine 170 = .ok (.iconst 0, 1) := by decide +kernel
theorem dX6_doLine_171 : decode cX6_doLine 171 = .ok (.ireturn, 1) := by decide +kernel
theorem dX6_doLine_172 : decode cX6_doLine 172 = .ok (.aload_n 0, 1) := by decide +kernel
theorem dX6_doLine_173 : decode cX6_doLine 173 = .ok (.invokevirtual 184, 3) := by decide +kernel
theorem dX6_doLine_176 : decode cX6_doLine 176 = .ok (.ifCond .eq 45, 3) := by decide +kernel
theorem dX6_doLine_179 : decode cX6_doLine 179 = .ok (.iload 4, 2) := by decide +kernel
theorem dX6_doLine_181 : decode cX6_doLine 181 = .ok (.iconst 2, 1) := by decide +kernel
theorem dX6_doLine_182 : decode cX6_doLine 182 = .ok (.if_icmp .lt 12, 3) := by decide +kernel
theorem dX6_doLine_185 : decode cX6_doLine 185 = .ok (.aload_n 0, 1) := by decide +kernel
theorem dX6_doLine_186 : decode cX6_doLine 186 = .ok (.bipush 8, 2) := by decide +kernel
theorem dX6_doLine_188 : decode cX6_doLine 188 = .ok (.invokevirtual 188, 3) := by decide +kernel
theorem dX6_doLine_191 : decode cX6_doLine 191 = .ok (.ifCond .ne 30, 3) := by decide +kernel
theorem dX6_doLine_194 : decode cX6_doLine 194 = .ok (.aload_n 0, 1) := by decide +kernel
theorem dX6_doLine_195 : decode cX6_doLine 195 = .ok (.iload 4, 2) := by decide +kernel
theorem dX6_doLine_197 : decode cX6_doLine 197 = .ok (.aload_n 0, 1) := by decide +kernel
theorem dX6_doLine_198 : decode cX6_doLine 198 = .ok (.iload_n 1, 1) := by decide +kernel
theorem dX6_doLine_199 : decode cX6_doLine 199 = .ok (.iload_n 2, 1) := by decide +kernel
theorem dX6_doLine_200 : decode cX6_doLine 200 = .ok (.invokevirtual 176, 3) := by decide +kernel
theorem dX6_doLine_203 : decode cX6_doLine 203 = .ok (.invokevirtual 191, 3) := by decide +kernel
theorem dX6_doLine_206 : decode cX6_doLine 206 = .ok (.aload_n 0, 1) := by decide +kernel
theorem dX6_doLine_207 : decode cX6_doLine 207 = .ok (.getfield 46, 3) := by decide +kernel
theorem dX6_doLine_210 : decode cX6_doLine 210 = .ok (.aload_n 0, 1) := by decide +kernel
theorem dX6_doLine_211 : decode cX6_doLine 211 = .ok (.getfield 52, 3) := by decide +kernel
theorem dX6_doLine_214 : decode cX6_doLine 214 = .ok (.dup2, 1) := by decide +kernel
theorem dX6_doLine_215 : decode cX6_doLine 215 = .ok (.iaload, 1) := by decide +kernel
theorem dX6_doLine_216 : decode cX6_doLine 216 = .ok (.iconst 1, 1) := by decide +kernel
theorem dX6_doLine_217 : decode cX6_doLine 217 = .ok (.iadd, 1) := by decide +kernel
theorem dX6_doLine_218 : decode cX6_doLine 218 = .ok (.iastore, 1) := by decide +kernel
theorem dX6_doLine_219 : decode cX6_doLine 219 = .ok (.iconst 1, 1) := by decide +kernel
theorem dX6_doLine_220 : decode cX6_doLine 220 = .ok (.ireturn, 1) := by decide +kernel
theorem dX6_doLine_221 : decode cX6_doLine 221 = .ok (.aload_n 0, 1) := by decide +kernel
theorem dX6_doLine_222 : decode cX6_doLine 222 = .ok (.iload 4, 2) := by decide +kernel
theorem dX6_doLine_224 : decode cX6_doLine 224 = .ok (.iload_n 1, 1) := by decide +kernel
theorem dX6_doLine_225 : decode cX6_doLine 225 = .ok (.sipush 401, 3) := by decide +kernel
theorem dX6_doLine_228 : decode cX6_doLine 228 = .ok (.imul, 1) := by decide +kernel
theorem dX6_doLine_229 : decode cX6_doLine 229 = .ok (.aload_n 0, 1) := by decide +kernel
theorem dX6_doLine_230 : decode cX6_doLine 230 = .ok (.getfield 121, 3) := by decide +kernel
theorem dX6_doLine_233 : decode cX6_doLine 233 = .ok (.iload_n 1, 1) := by decide +kernel
theorem dX6_doLine_234 : decode cX6_doLine 234 = .ok (.aaload, 1) := by decide +kernel
theorem dX6_doLine_235 : decode cX6_doLine 235 = .ok (.getfield 162, 3) := by decide +kernel
theorem dX6_doLine_238 : decode cX6_doLine 238 = .ok (.iload_n 2, 1) := by decide +kernel
theorem dX6_doLine_239 : decode cX6_doLine 239 = .ok (.iaload, 1) := by decide +kernel
theorem dX6_doLine_240 : decode cX6_doLine 240 = .ok (.iadd, 1) := by decide +kernel
theorem dX6_doLine_241 : decode cX6_doLine 241 = .ok (.iload_n 3, 1) := by decide +kernel
theorem dX6_doLine_242 : decode cX6_doLine 242 = .ok (.invokevirtual 194, 3) := by decide +kernel
theorem dX6_doLine_245 : decode cX6_doLine 245 = .ok (.istore 5, 2) := by decide +kernel
theorem dX6_doLine_247 : decode cX6_doLine 247 = .ok (.iload 5, 2) := by decide +kernel
theorem dX6_doLine_249 : decode cX6_doLine 249 = .ok (.iconst 3, 1) := by decide +kernel
theorem dX6_doLine_250 : decode cX6_doLine 250 = .ok (.if_icmp .ne 25, 3) := by decide +kernel
theorem dX6_doLine_253 : decode cX6_doLine 253 = .ok (.aload_n 0, 1) := by decide +kernel
theorem dX6_doLine_254 : decode cX6_doLine 254 = .ok (.getfield 12, 3) := by decide +kernel
theorem dX6_doLine_257 : decode cX6_doLine 257 = .ok (.getfield 155, 3) := by decide +kernel
theorem dX6_doLine_260 : decode cX6_doLine 260 = .ok (.ifCond .ne 15, 3) := by decide +kernel
theorem dX6_doLine_263 : decode cX6_doLine 263 = .ok (.aload_n 0, 1) := by decide +kernel
theorem dX6_doLine_264 : decode cX6_doLine 264 = .ok (.aload_n 0, 1) := by decide +kernel
theorem dX6_doLine_265 : decode cX6_doLine 265 = .ok (.iload_n 1, 1) := by decide +kernel
theorem dX6_doLine_266 : decode cX6_doLine 266 = .ok (.iload_n 2, 1) := by decide +kernel
theorem dX6_doLine_267 : decode cX6_doLine 267 = .ok (.invokevirtual 176, 3) := by decide +kernel
theorem dX6_doLine_270 : decode cX6_doLine 270 = .ok (.invokevirtual 197, 3) := by decide +kernel
theorem dX6_doLine_273 : decode cX6_doLine 273 = .ok (.istore 5, 2) := by decide +kernel
theorem dX6_doLine_275 : decode cX6_doLine 275 = .ok (.iload 5, 2) := by decide +kernel
theorem dX6_doLine_277 : decode cX6_doLine 277 = .ok (.iconst 1, 1) := by decide +kernel
theorem dX6_doLine_278 : decode cX6_doLine 278 = .ok (.if_icmp .eq 9, 3) := by decide +kernel
theorem dX6_doLine_281 : decode cX6_doLine 281 = .ok (.iload 5, 2) := by decide +kernel
theorem dX6_doLine_283 : decode cX6_doLine 283 = .ok (.iconst 2, 1) := by decide +kernel
theorem dX6_doLine_284 : decode cX6_doLine 284 = .ok (.if_icmp .ne 32, 3) := by decide +kernel
theorem dX6_doLine_287 : decode cX6_doLine 287 = .ok (.aload_n 0, 1) := by decide +kernel
theorem dX6_doLine_288 : decode cX6_doLine 288 = .ok (.getfield 12, 3) := by decide +kernel
theorem dX6_doLine_291 : decode cX6_doLine 291 = .ok (.getfield 155, 3) := by decide +kernel
theorem dX6_doLine_294 : decode cX6_doLine 294 = .ok (.ifCond .ne 22, 3) := by decide +kernel
theorem dX6_doLine_297 : decode cX6_doLine 297 = .ok (.aload_n 0, 1) := by decide +kernel
theorem dX6_doLine_298 : decode cX6_doLine 298 = .ok (.getfield 40, 3) := by decide +kernel
theorem dX6_doLine_301 : decode cX6_doLine 301 = .ok (.iconst 0, 1) := by decide +kernel
theorem dX6_doLine_302 : decode cX6_doLine 302 = .ok (.putfield 103, 3) := by decide +kernel
theorem dX6_doLine_305 : decode cX6_doLine 305 = .ok (.aload_n 0, 1) := by decide +kernel
theorem dX6_doLine_306 : decode cX6_doLine 306 = .ok (.getfield 89, 3) := by decide +kernel
theorem dX6_doLine_309 : decode cX6_doLine 309 = .ok (.aload_n 0, 1) := by decide +kernel
theorem dX6_doLine_310 : decode cX6_doLine 310 = .ok (.getfield 40, 3) := by decide +kernel
theorem dX6_doLine_313 : decode cX6_doLine 313 = .ok (.invokevirtual 201, 3) := by decide +kernel
theorem dX6_doLine_316 : decode cX6_doLine 316 = .ok (.iload 5, 2) := by decide +kernel
theorem dX6_doLine_318 : decode cX6_doLine 318 = .ok (.iconst 1, 1) := by decide +kernel
theorem dX6_doLine_319 : decode cX6_doLine 319 = .ok (.if_icmp .ne 17, 3) := by decide +kernel
theorem dX6_doLine_322 : decode cX6_doLine 322 = .ok (.aload_n 0, 1) := by decide +kernel
theorem dX6_doLine_323 : decode cX6_doLine 323 = .ok (.getfield 12, 3) := by decide +kernel
theorem dX6_doLine_326 : decode cX6_doLine 326 = .ok (.getfield 155, 3) := by decide +kernel
theorem dX6_doLine_329 : decode cX6_doLine 329 = .ok (.ifCond .ne 7, 3) := by decide +kernel
theorem dX6_doLine_332 : decode cX6_doLine 332 = .ok (.aload_n 0, 1) := by decide +kernel
theorem dX6_doLine_333 : decode cX6_doLine 333 = .ok (.invokevirtual 205, 3) := by decide +kernel
theorem dX6_doLine_336 : decode cX6_doLine 336 = .ok (.iload 5, 2) := by decide +kernel
theorem dX6_doLine_338 : decode cX6_doLine 338 = .ok (.iconst 2, 1) := by decide +kernel
theorem dX6_doLine_339 : decode cX6_doLine 339 = .ok (.if_icmp .ne 50, 3) := by decide +kernel
theorem dX6_doLine_342 : decode cX6_doLine 342 = .ok (.aload_n 0, 1) := by decide +kernel
theorem dX6_doLine_343 : decode cX6_doLine 343 = .ok (.getfield 12, 3) := by decide +kernel
theorem dX6_doLine_346 : decode cX6_doLine 346 = .ok (.getfield 155, 3) := by decide +kernel
theorem dX6_doLine_349 : decode cX6_doLine 349 = .ok (.ifCond .ne 40, 3) := by decide +kernel
theorem dX6_doLine_352 : decode cX6_doLine 352 = .ok (.aload_n 0, 1) := by decide +kernel
theorem dX6_doLine_353 : decode cX6_doLine 353 = .ok (.iload 4, 2) := by decide +kernel
theorem dX6_doLine_355 : decode cX6_doLine 355 = .ok (.aload_n 0, 1) := by decide +kernel
theorem dX6_doLine_356 : decode cX6_doLine 356 = .ok (.getfield 96, 3) := by decide +kernel
theorem dX6_doLine_359 : decode cX6_doLine 359 = .ok (.aload_n 0, 1) := by decide +kernel
theorem dX6_doLine_360 : decode cX6_doLine 360 = .ok (.getfield 40, 3) := by decide +kernel
theorem dX6_doLine_363 : decode cX6_doLine 363 = .ok (.aload_n 0, 1) := by decide +kernel
theorem dX6_doLine_364 : decode cX6_doLine 364 = .ok (.getfield 65, 3) := by decide +kernel
theorem dX6_doLine_367 : decode cX6_doLine 367 = .ok (.invokevirtual 208, 3) := by decide +kernel
theorem dX6_doLine_370 : decode cX6_doLine 370 = .ok (.lconst 0, 1) := by decide +kernel
theorem dX6_doLine_371 : decode cX6_doLine 371 = .ok (.lcmp, 1) := by decide +kernel
theorem dX6_doLine_372 : decode cX6_doLine 372 = .ok (.ifCond .eq 7, 3) := by decide +kernel
theorem dX6_doLine_375 : decode cX6_doLine 375 = .ok (.iconst 1, 1) := by decide +kernel
theorem dX6_doLine_376 : decode cX6_doLine 376 = .ok (.goto 4, 3) := by decide +kernel
theorem dX6_doLine_379 : decode cX6_doLine 379 = .ok (.iconst 0, 1) := by decide +kernel
theorem dX6_doLine_380 : decode cX6_doLine 380 = .ok (.aload_n 0, 1) := by decide +kernel
theorem dX6_doLine_381 : decode cX6_doLine 381 = .ok (.iload_n 1, 1) := by decide +kernel
theorem dX6_doLine_382 : decode cX6_doLine 382 = .ok (.iload_n 2, 1) := by decide +kernel
theorem dX6_doLine_383 : decode cX6_doLine 383 = .ok (.invokevirtual 176, 3) := by decide +kernel
theorem dX6_doLine_386 : decode cX6_doLine 386 = .ok (.invokevirtual 212, 3) := by decide +kernel
theorem dX6_doLine_389 : decode cX6_doLine 389 = .ok (.iload 5, 2) := by decide +kernel
theorem dX6_doLine_391 : decode cX6_doLine 391 = .ok (.iconst 4, 1) := by decide +kernel
theorem dX6_doLine_392 : decode cX6_doLine 392 = .ok (.if_icmp .eq 17, 3) := by decide +kernel
theorem dX6_doLine_395 : decode cX6_doLine 395 = .ok (.aload_n 0, 1) := by decide +kernel
theorem dX6_doLine_396 : decode cX6_doLine 396 = .ok (.getfield 12, 3) := by decide +kernel
theorem dX6_doLine_399 : decode cX6_doLine 399 = .ok (.getfield 155, 3) := by decide +kernel
theorem dX6_doLine_402 : decode cX6_doLine 402 = .ok (.ifCond .ne 7, 3) := by decide +kernel
theorem dX6_doLine_405 : decode cX6_doLine 405 = .ok (.aload_n 0, 1) := by decide +kernel
theorem dX6_doLine_406 : decode cX6_doLine 406 = .ok (.invokevirtual 216, 3) := by decide +kernel
theorem dX6_doLine_409 : decode cX6_doLine 409 = .ok (.aload_n 0, 1) := by decide +kernel
theorem dX6_doLine_410 : decode cX6_doLine 410 = .ok (.getfield 12, 3) := by decide +kernel
theorem dX6_doLine_413 : decode cX6_doLine 413 = .ok (.getfield 155, 3) := by decide +kernel
theorem dX6_doLine_416 : decode cX6_doLine 416 = .ok (.ifCond .ne 7, 3) := by decide +kernel
theorem dX6_doLine_419 : decode cX6_doLine 419 = .ok (.iconst 1, 1) := by decide +kernel
theorem dX6_doLine_420 : decode cX6_doLine 420 = .ok (.goto 4, 3) := by decide +kernel
theorem dX6_doLine_423 : decode cX6_doLine 423 = .ok (.iconst 0, 1) := by decide +kernel
theorem dX6_doLine_424 : decode cX6_doLine 424 = .ok (.ireturn, 1) := by decide +kernel
theorem dX6_hashLook_0 : decode cX6_hashLook 0 = .ok (.iload_n 1, 1) := by decide +kernel
theorem dX6_hashLook_1 : decode cX6_hashLook 1 = .ok (.iload_n 2, 1) := by decide +kernel
theorem dX6_hashLook_2 : decode cX6_hashLook 2 = .ok (.aload_n 0, 1) := by decide +kernel
theorem dX6_hashLook_3 : decode cX6_hashLook 3 = .ok (.getfield 121, 3) := by decide +kernel
theorem dX6_hashLook_6 : decode cX6_hashLook 6 = .ok (.iload_n 1, 1) := by decide +kernel
theorem dX6_hashLook_7 : decode cX6_hashLook 7 = .ok (.aaload, 1) := by decide +kernel
theorem dX6_hashLook_8 : decode cX6_hashLook 8 = .ok (.iload_n 2, 1) := by decide +kernel
theorem dX6_hashLook_9 : decode cX6_hashLook 9 = .ok (.invokevirtual 219, 3) := by decide +kernel
theorem dX6_hashLook_12 : decode cX6_hashLook 12 = .ok (.aload_n 0, 1) := by decide +kernel
theorem dX6_hashLook_13 : decode cX6_hashLook 13 = .ok (.getfield 121, 3) := by decide +kernel
theorem dX6_hashLook_16 : decode cX6_hashLook 16 = .ok (.iload_n 1, 1) := by decide +kernel
theorem dX6_hashLook_17 : decode cX6_hashLook 17 = .ok (.aaload, 1) := by decide +kernel
theorem dX6_hashLook_18 : decode cX6_hashLook 18 = .ok (.getfield 162, 3) := by decide +kernel
theorem dX6_hashLook_21 : decode cX6_hashLook 21 = .ok (.iload_n 2, 1) := by decide +kernel
theorem dX6_hashLook_22 : decode cX6_hashLook 22 = .ok (.iaload, 1) := by decide +kernel
theorem dX6_hashLook_23 : decode cX6_hashLook 23 = .ok (.isub, 1) := by decide +kernel
theorem dX6_hashLook_24 : decode cX6_hashLook 24 = .ok (.invokestatic 165, 3) := by decide +kernel
theorem dX6_hashLook_27 : decode cX6_hashLook 27 = .ok (.ireturn, 1) := by decide +kernel
theorem dX6_finishLine_0 : decode cX6_finishLine 0 = .ok (.aload_n 0, 1) := by decide +kernel
theorem dX6_finishLine_1 : decode cX6_finishLine 1 = .ok (.getfield 43, 3) := by decide +kernel
theorem dX6_finishLine_4 : decode cX6_finishLine 4 = .ok (.aload_n 0, 1) := by decide +kernel
theorem dX6_finishLine_5 : decode cX6_finishLine 5 = .ok (.getfield 52, 3) := by decide +kernel
theorem dX6_finishLine_8 : decode cX6_finishLine 8 = .ok (.iaload, 1) := by decide +kernel
theorem dX6_finishLine_9 : decode cX6_finishLine 9 = .ok (.bipush 40, 2) := by decide +kernel
theorem dX6_finishLine_11 : decode cX6_finishLine 11 = .ok (.imul, 1) := by decide +kernel
theorem dX6_finishLine_12 : decode cX6_finishLine 12 = .ok (.aload_n 0, 1) := by decide +kernel
theorem dX6_finishLine_13 : decode cX6_finishLine 13 = .ok (.getfield 46, 3) := by decide +kernel
theorem dX6_finishLine_16 : decode cX6_finishLine 16 = .ok (.aload_n 0, 1) := by decide +kernel
theorem dX6_finishLine_17 : decode cX6_finishLine 17 = .ok (.getfield 52, 3) := by decide +kernel
theorem dX6_finishLine_20 : decode cX6_finishLine 20 = .ok (.iaload, 1) := by decide +kernel
theorem dX6_finishLine_21 : decode cX6_finishLine 21 = .ok (.iadd, 1) := by decide +kernel
theorem dX6_finishLine_22 : decode cX6_finishLine 22 = .ok (.istore_n 1, 1) := by decide +kernel
theorem dX6_finishLine_23 : decode cX6_finishLine 23 = .ok (.iload_n 1, 1) := by decide +kernel
theorem dX6_finishLine_24 : decode cX6_finishLine 24 = .ok (.ifCond .lt 20, 3) := by decide +kernel
theorem dX6_finishLine_27 : decode cX6_finishLine 27 = .ok (.iload_n 1, 1) := by decide +kernel
theorem dX6_finishLine_28 : decode cX6_finishLine 28 = .ok (.sipush 160, 3) := by decide +kernel
theorem dX6_finishLine_31 : decode cX6_finishLine 31 = .ok (.if_icmp .ge 13, 3) := by decide +kernel
theorem dX6_finishLine_34 : decode cX6_finishLine 34 = .ok (.aload_n 0, 1) := by decide +kernel
theorem dX6_finishLine_35 : decode cX6_finishLine 35 = .ok (.getfield 31, 3) := by decide +kernel
theorem dX6_finishLine_38 : decode cX6_finishLine 38 = .ok (.iload_n 1, 1) := by decide +kernel
theorem dX6_finishLine_39 : decode cX6_finishLine 39 = .ok (.dup2, 1) := by decide +kernel
theorem dX6_finishLine_40 : decode cX6_finishLine 40 = .ok (.iaload, 1) := by decide +kernel
theorem dX6_finishLine_41 : decode cX6_finishLine 41 = .ok (.iconst 1, 1) := by decide +kernel
theorem dX6_finishLine_42 : decode cX6_finishLine 42 = .ok (.iadd, 1) := by decide +kernel
theorem dX6_finishLine_43 : decode cX6_finishLine 43 = .ok (.iastore, 1) := by decide +kernel
theorem dX6_finishLine_44 : decode cX6_finishLine 44 = .ok (.aload_n 0, 1) := by decide +kernel
theorem dX6_finishLine_45 : decode cX6_finishLine 45 = .ok (.getfield 46, 3) := by decide +kernel
theorem dX6_finishLine_48 : decode cX6_finishLine 48 = .ok (.aload_n 0, 1) := by decide +kernel
theorem dX6_finishLine_49 : decode cX6_finishLine 49 = .ok (.getfield 52, 3) := by decide +kernel
theorem dX6_finishLine_52 : decode cX6_finishLine 52 = .ok (.dup2, 1) := by decide +kernel
theorem dX6_finishLine_53 : decode cX6_finishLine 53 = .ok (.iaload, 1) := by decide +kernel
theorem dX6_finishLine_54 : decode cX6_finishLine 54 = .ok (.iconst 1, 1) := by decide +kernel
theorem dX6_finishLine_55 : decode cX6_finishLine 55 = .ok (.iadd, 1) := by decide +kernel
theorem dX6_finishLine_56 : decode cX6_finishLine 56 = .ok (.iastore, 1) := by decide +kernel
theorem dX6_finishLine_57 : decode cX6_finishLine 57 = .ok (.return_, 1) := by decide +kernel
theorem dX6_leaveFile_0 : decode cX6_leaveFile 0 = .ok (.aload_n 0, 1) := by decide +kernel
theorem dX6_leaveFile_1 : decode cX6_leaveFile 1 = .ok (.getfield 62, 3) := by decide +kernel
theorem dX6_leaveFile_4 : decode cX6_leaveFile 4 = .ok (.aload_n 0, 1) := by decide +kernel
theorem dX6_leaveFile_5 : decode cX6_leaveFile 5 = .ok (.getfield 49, 3) := by decide +kernel
theorem dX6_leaveFile_8 : decode cX6_leaveFile 8 = .ok (.aload_n 0, 1) := by decide +kernel
theorem dX6_leaveFile_9 : decode cX6_leaveFile 9 = .ok (.getfield 52, 3) := by decide +kernel
theorem dX6_leaveFile_12 : decode cX6_leaveFile 12 = .ok (.iaload, 1) := by decide +kernel
theorem dX6_leaveFile_13 : decode cX6_leaveFile 13 = .ok (.if_icmp .le 24, 3) := by decide +kernel
theorem dX6_leaveFile_16 : decode cX6_leaveFile 16 = .ok (.aload_n 0, 1) := by decide +kernel
theorem dX6_leaveFile_17 : decode cX6_leaveFile 17 = .ok (.getfield 12, 3) := by decide +kernel
theorem dX6_leaveFile_20 : decode cX6_leaveFile 20 = .ok (.bipush 10, 2) := by decide +kernel
theorem dX6_leaveFile_22 : decode cX6_leaveFile 22 = .ok (.aload_n 0, 1) := by decide +kernel
theorem dX6_leaveFile_23 : decode cX6_leaveFile 23 = .ok (.getfield 56, 3) := by decide +kernel
theorem dX6_leaveFile_26 : decode cX6_leaveFile 26 = .ok (.aload_n 0, 1) := by decide +kernel
theorem dX6_leaveFile_27 : decode cX6_leaveFile 27 = .ok (.getfield 62, 3) := by decide +kernel
theorem dX6_leaveFile_30 : decode cX6_leaveFile 30 = .ok (.iconst 1, 1) := by decide +kernel
theorem dX6_leaveFile_31 : decode cX6_leaveFile 31 = .ok (.isub, 1) := by decide +kernel
theorem dX6_leaveFile_32 : decode cX6_leaveFile 32 = .ok (.iaload, 1) := by decide +kernel
theorem dX6_leaveFile_33 : decode cX6_leaveFile 33 = .ok (.invokevirtual 180, 3) := by decide +kernel
theorem dX6_leaveFile_36 : decode cX6_leaveFile 36 = .ok (.return_, 1) := by decide +kernel
theorem dX6_leaveFile_37 : decode cX6_leaveFile 37 = .ok (.aload_n 0, 1) := by decide +kernel
theorem dX6_leaveFile_38 : decode cX6_leaveFile 38 = .ok (.dup, 1) := by decide +kernel
theorem dX6_leaveFile_39 : decode cX6_leaveFile 39 = .ok (.getfield 52, 3) := by decide +kernel
theorem dX6_leaveFile_42 : decode cX6_leaveFile 42 = .ok (.iconst 1, 1) := by decide +kernel
theorem dX6_leaveFile_43 : decode cX6_leaveFile 43 = .ok (.isub, 1) := by decide +kernel
theorem dX6_leaveFile_44 : decode cX6_leaveFile 44 = .ok (.putfield 52, 3) := by decide +kernel
theorem dX6_leaveFile_47 : decode cX6_leaveFile 47 = .ok (.aload_n 0, 1) := by decide +kernel
theorem dX6_leaveFile_48 : decode cX6_leaveFile 48 = .ok (.getfield 52, 3) := by decide +kernel
theorem dX6_leaveFile_51 : decode cX6_leaveFile 51 = .ok (.ifCond .lt 7, 3) := by decide +kernel
theorem dX6_leaveFile_54 : decode cX6_leaveFile 54 = .ok (.aload_n 0, 1) := by decide +kernel
theorem dX6_leaveFile_55 : decode cX6_leaveFile 55 = .ok (.invokevirtual 216, 3) := by decide +kernel
theorem dX6_leaveFile_58 : decode cX6_leaveFile 58 = .ok (.return_, 1) := by decide +kernel
theorem dX6_topHas_0 : decode cX6_topHas 0 = .ok (.aload_n 0, 1) := by decide +kernel
theorem dX6_topHas_1 : decode cX6_topHas 1 = .ok (.getfield 62, 3) := by decide +kernel
theorem dX6_topHas_4 : decode cX6_topHas 4 = .ok (.aload_n 0, 1) := by decide +kernel
theorem dX6_topHas_5 : decode cX6_topHas 5 = .ok (.getfield 49, 3) := by decide +kernel
theorem dX6_topHas_8 : decode cX6_topHas 8 = .ok (.aload_n 0, 1) := by decide +kernel
theorem dX6_topHas_9 : decode cX6_topHas 9 = .ok (.getfield 52, 3) := by decide +kernel
theorem dX6_topHas_12 : decode cX6_topHas 12 = .ok (.iaload, 1) := by decide +kernel
theorem dX6_topHas_13 : decode cX6_topHas 13 = .ok (.if_icmp .le 23, 3) := by decide +kernel
theorem dX6_topHas_16 : decode cX6_topHas 16 = .ok (.aload_n 0, 1) := by decide +kernel
theorem dX6_topHas_17 : decode cX6_topHas 17 = .ok (.getfield 59, 3) := by decide +kernel
theorem dX6_topHas_20 : decode cX6_topHas 20 = .ok (.aload_n 0, 1) := by decide +kernel
theorem dX6_topHas_21 : decode cX6_topHas 21 = .ok (.getfield 62, 3) := by decide +kernel
theorem dX6_topHas_24 : decode cX6_topHas 24 = .ok (.iconst 1, 1) := by decide +kernel
theorem dX6_topHas_25 : decode cX6_topHas 25 = .ok (.isub, 1) := by decide +kernel
theorem dX6_topHas_26 : decode cX6_topHas 26 = .ok (.iaload, 1) := by decide +kernel
theorem dX6_topHas_27 : decode cX6_topHas 27 = .ok (.iload_n 1, 1) := by decide +kernel
theorem dX6_topHas_28 : decode cX6_topHas 28 = .ok (.iand, 1) := by decide +kernel
theorem dX6_topHas_29 : decode cX6_topHas 29 = .ok (.ifCond .eq 7, 3) := by decide +kernel
theorem dX6_topHas_32 : decode cX6_topHas 32 = .ok (.iconst 1, 1) := by decide +kernel
theorem dX6_topHas_33 : decode cX6_topHas 33 = .ok (.goto 4, 3) := by decide +kernel
theorem dX6_topHas_36 : decode cX6_topHas 36 = .ok (.iconst 0, 1) := by decide +kernel
theorem dX6_topHas_37 : decode cX6_topHas 37 = .ok (.ireturn, 1) := by decide +kernel
theorem dX6_isSkipping_0 : decode cX6_isSkipping 0 = .ok (.aload_n 0, 1) := by decide +kernel
theorem dX6_isSkipping_1 : decode cX6_isSkipping 1 = .ok (.getfield 62, 3) := by decide +kernel
theorem dX6_isSkipping_4 : decode cX6_isSkipping 4 = .ok (.aload_n 0, 1) := by decide +kernel
theorem dX6_isSkipping_5 : decode cX6_isSkipping 5 = .ok (.getfield 49, 3) := by decide +kernel
theorem dX6_isSkipping_8 : decode cX6_isSkipping 8 = .ok (.aload_n 0, 1) := by decide +kernel
theorem dX6_isSkipping_9 : decode cX6_isSkipping 9 = .ok (.getfield 52, 3) := by decide +kernel
theorem dX6_isSkipping_12 : decode cX6_isSkipping 12 = .ok (.iaload, 1) := by decide +kernel
theorem dX6_isSkipping_13 : decode cX6_isSkipping 13 = .ok (.if_icmp .le 15, 3) := by decide +kernel
theorem dX6_isSkipping_16 : decode cX6_isSkipping 16 = .ok (.aload_n 0, 1) := by decide +kernel
theorem dX6_isSkipping_17 : decode cX6_isSkipping 17 = .ok (.iconst 1, 1) := by decide +kernel
theorem dX6_isSkipping_18 : decode cX6_isSkipping 18 = .ok (.invokevirtual 188, 3) := by decide +kernel
theorem dX6_isSkipping_21 : decode cX6_isSkipping 21 = .ok (.ifCond .ne 7, 3) := by decide +kernel
theorem dX6_isSkipping_24 : decode cX6_isSkipping 24 = .ok (.iconst 1, 1) := by decide +kernel
theorem dX6_isSkipping_25 : decode cX6_isSkipping 25 = .ok (.goto 4, 3) := by decide +kernel
theorem dX6_isSkipping_28 : decode cX6_isSkipping 28 = .ok (.iconst 0, 1) := by decide +kernel
theorem dX6_isSkipping_29 : decode cX6_isSkipping 29 = .ok (.ireturn, 1) := by decide +kernel
theorem dX6_isAstray_0 : decode cX6_isAstray 0 = .ok (.iload_n 1, 1) := by decide +kernel
theorem dX6_isAstray_1 : decode cX6_isAstray 1 = .ok (.iconst 2, 1) := by decide +kernel
theorem dX6_isAstray_2 : decode cX6_isAstray 2 = .ok (.if_icmp .ge 5, 3) := by decide +kernel
theorem dX6_isAstray_5 : decode cX6_isAstray 5 = .ok (.iconst 0, 1) := by decide +kernel
theorem dX6_isAstray_6 : decode cX6_isAstray 6 = .ok (.ireturn, 1) := by decide +kernel
theorem dX6_isAstray_7 : decode cX6_isAstray 7 = .ok (.aload_n 0, 1) := by decide +kernel
theorem dX6_isAstray_8 : decode cX6_isAstray 8 = .ok (.getfield 62, 3) := by decide +kernel
theorem dX6_isAstray_11 : decode cX6_isAstray 11 = .ok (.aload_n 0, 1) := by decide +kernel
theorem dX6_isAstray_12 : decode cX6_isAstray 12 = .ok (.getfield 49, 3) := by decide +kernel
theorem dX6_isAstray_15 : decode cX6_isAstray 15 = .ok (.aload_n 0, 1) := by decide +kernel
theorem dX6_isAstray_16 : decode cX6_isAstray 16 = .ok (.getfield 52, 3) := by decide +kernel
theorem dX6_isAstray_19 : decode cX6_isAstray 19 = .ok (.iaload, 1) := by decide +kernel
theorem dX6_isAstray_20 : decode cX6_isAstray 20 = .ok (.if_icmp .le 16, 3) := by decide +kernel
theorem dX6_isAstray_23 : decode cX6_isAstray 23 = .ok (.iload_n 1, 1) := by decide +kernel
theorem dX6_isAstray_24 : decode cX6_isAstray 24 = .ok (.iconst 4, 1) := by decide +kernel
theorem dX6_isAstray_25 : decode cX6_isAstray 25 = .ok (.if_icmp .eq 15, 3) := by decide +kernel
theorem dX6_isAstray_28 : decode cX6_isAstray 28 = .ok (.aload_n 0, 1) := by decide +kernel
theorem dX6_isAstray_29 : decode cX6_isAstray 29 = .ok (.iconst 4, 1) := by decide +kernel
theorem dX6_isAstray_30 : decode cX6_isAstray 30 = .ok (.invokevirtual 188, 3) := by decide +kernel
theorem dX6_isAstray_33 : decode cX6_isAstray 33 = .ok (.ifCond .eq 7, 3) := by decide +kernel
theorem dX6_isAstray_36 : decode cX6_isAstray 36 = .ok (.iconst 1, 1) := by decide +kernel
theorem dX6_isAstray_37 : decode cX6_isAstray 37 = .ok (.goto 4, 3) := by decide +kernel
theorem dX6_isAstray_40 : decode cX6_isAstray 40 = .ok (.iconst 0, 1) := by decide +kernel
theorem dX6_isAstray_41 : decode cX6_isAstray 41 = .ok (.ireturn, 1) := by decide +kernel
theorem dX6_openGroup_0 : decode cX6_openGroup 0 = .ok (.aload_n 0, 1) := by decide +kernel
theorem dX6_openGroup_1 : decode cX6_openGroup 1 = .ok (.getfield 62, 3) := by decide +kernel
theorem dX6_openGroup_4 : decode cX6_openGroup 4 = .ok (.aload_n 0, 1) := by decide +kernel
theorem dX6_openGroup_5 : decode cX6_openGroup 5 = .ok (.getfield 59, 3) := by decide +kernel
theorem dX6_openGroup_8 : decode cX6_openGroup 8 = .ok (.arraylength, 1) := by decide +kernel
theorem dX6_openGroup_9 : decode cX6_openGroup 9 = .ok (.if_icmp .ge 33, 3) := by decide +kernel
theorem dX6_openGroup_12 : decode cX6_openGroup 12 = .ok (.aload_n 0, 1) := by decide +kernel
theorem dX6_openGroup_13 : decode cX6_openGroup 13 = .ok (.getfield 59, 3) := by decide +kernel
theorem dX6_openGroup_16 : decode cX6_openGroup 16 = .ok (.aload_n 0, 1) := by decide +kernel
theorem dX6_openGroup_17 : decode cX6_openGroup 17 = .ok (.getfield 62, 3) := by decide +kernel
theorem dX6_openGroup_20 : decode cX6_openGroup 20 = .ok (.iload_n 1, 1) := by decide +kernel
theorem dX6_openGroup_21 : decode cX6_openGroup 21 = .ok (.iastore, 1) := by decide +kernel
theorem dX6_openGroup_22 : decode cX6_openGroup 22 = .ok (.aload_n 0, 1) := by decide +kernel
theorem dX6_openGroup_23 : decode cX6_openGroup 23 = .ok (.getfield 56, 3) := by decide +kernel
theorem dX6_openGroup_26 : decode cX6_openGroup 26 = .ok (.aload_n 0, 1) := by decide +kernel
theorem dX6_openGroup_27 : decode cX6_openGroup 27 = .ok (.getfield 62, 3) := by decide +kernel
theorem dX6_openGroup_30 : decode cX6_openGroup 30 = .ok (.iload_n 2, 1) := by decide +kernel
theorem dX6_openGroup_31 : decode cX6_openGroup 31 = .ok (.iastore, 1) := by decide +kernel
theorem dX6_openGroup_32 : decode cX6_openGroup 32 = .ok (.aload_n 0, 1) := by decide +kernel
theorem dX6_openGroup_33 : decode cX6_openGroup 33 = .ok (.dup, 1) := by decide +kernel
theorem dX6_openGroup_34 : decode cX6_openGroup 34 = .ok (.getfield 62, 3) := by decide +kernel
theorem dX6_openGroup_37 : decode cX6_openGroup 37 = .ok (.iconst 1, 1) := by decide +kernel
theorem dX6_openGroup_38 : decode cX6_openGroup 38 = .ok (.iadd, 1) := by decide +kernel
theorem dX6_openGroup_39 : decode cX6_openGroup 39 = .ok (.putfield 62, 3) := by decide +kernel
theorem dX6_openGroup_42 : decode cX6_openGroup 42 = .ok (.return_, 1) := by decide +kernel
theorem dX6_skipLine_0 : decode cX6_skipLine 0 = .ok (.aload_n 0, 1) := by decide +kernel
theorem dX6_skipLine_1 : decode cX6_skipLine 1 = .ok (.getfield 27, 3) := by decide +kernel
theorem dX6_skipLine_4 : decode cX6_skipLine 4 = .ok (.iconst 2, 1) := by decide +kernel
theorem dX6_skipLine_5 : decode cX6_skipLine 5 = .ok (.dup2, 1) := by decide +kernel
theorem dX6_skipLine_6 : decode cX6_skipLine 6 = .ok (.iaload, 1) := by decide +kernel
theorem dX6_skipLine_7 : decode cX6_skipLine 7 = .ok (.iconst 1, 1) := by decide +kernel
theorem dX6_skipLine_8 : decode cX6_skipLine 8 = .ok (.iadd, 1) := by decide +kernel
theorem dX6_skipLine_9 : decode cX6_skipLine 9 = .ok (.iastore, 1) := by decide +kernel
theorem dX6_skipLine_10 : decode cX6_skipLine 10 = .ok (.iload_n 1, 1) := by decide +kernel
theorem dX6_skipLine_11 : decode cX6_skipLine 11 = .ok (.iconst 1, 1) := by decide +kernel
theorem dX6_skipLine_12 : decode cX6_skipLine 12 = .ok (.if_icmp .ne 12, 3) := by decide +kernel
theorem dX6_skipLine_15 : decode cX6_skipLine 15 = .ok (.aload_n 0, 1) := by decide +kernel
theorem dX6_skipLine_16 : decode cX6_skipLine 16 = .ok (.iconst 0, 1) := by decide +kernel
theorem dX6_skipLine_17 : decode cX6_skipLine 17 = .ok (.iload_n 2, 1) := by decide +kernel
theorem dX6_skipLine_18 : decode cX6_skipLine 18 = .ok (.invokevirtual 222, 3) := by decide +kernel
theorem dX6_skipLine_21 : decode cX6_skipLine 21 = .ok (.goto 55, 3) := by decide +kernel
theorem dX6_skipLine_24 : decode cX6_skipLine 24 = .ok (.iload_n 1, 1) := by decide +kernel
theorem dX6_skipLine_25 : decode cX6_skipLine 25 = .ok (.iconst 3, 1) := by decide +kernel
theorem dX6_skipLine_26 : decode cX6_skipLine 26 = .ok (.if_icmp .ne 28, 3) := by decide +kernel
theorem dX6_skipLine_29 : decode cX6_skipLine 29 = .ok (.aload_n 0, 1) := by decide +kernel
theorem dX6_skipLine_30 : decode cX6_skipLine 30 = .ok (.getfield 62, 3) := by decide +kernel
theorem dX6_skipLine_33 : decode cX6_skipLine 33 = .ok (.ifCond .le 21, 3) := by decide +kernel
theorem dX6_skipLine_36 : decode cX6_skipLine 36 = .ok (.aload_n 0, 1) := by decide +kernel
theorem dX6_skipLine_37 : decode cX6_skipLine 37 = .ok (.getfield 59, 3) := by decide +kernel
theorem dX6_skipLine_40 : decode cX6_skipLine 40 = .ok (.aload_n 0, 1) := by decide +kernel
theorem dX6_skipLine_41 : decode cX6_skipLine 41 = .ok (.getfield 62, 3) := by decide +kernel
theorem dX6_skipLine_44 : decode cX6_skipLine 44 = .ok (.iconst 1, 1) := by decide +kernel
theorem dX6_skipLine_45 : decode cX6_skipLine 45 = .ok (.isub, 1) := by decide +kernel
theorem dX6_skipLine_46 : decode cX6_skipLine 46 = .ok (.dup2, 1) := by decide +kernel
theorem dX6_skipLine_47 : decode cX6_skipLine 47 = .ok (.iaload, 1) := by decide +kernel
theorem dX6_skipLine_48 : decode cX6_skipLine 48 = .ok (.iconst 4, 1) := by decide +kernel
theorem dX6_skipLine_49 : decode cX6_skipLine 49 = .ok (.ior, 1) := by decide +kernel
theorem dX6_skipLine_50 : decode cX6_skipLine 50 = .ok (.iastore, 1) := by decide +kernel
theorem dX6_skipLine_51 : decode cX6_skipLine 51 = .ok (.goto 25, 3) := by decide +kernel
theorem dX6_skipLine_54 : decode cX6_skipLine 54 = .ok (.iload_n 1, 1) := by decide +kernel
theorem dX6_skipLine_55 : decode cX6_skipLine 55 = .ok (.iconst 4, 1) := by decide +kernel
theorem dX6_skipLine_56 : decode cX6_skipLine 56 = .ok (.if_icmp .ne 20, 3) := by decide +kernel
theorem dX6_skipLine_59 : decode cX6_skipLine 59 = .ok (.aload_n 0, 1) := by decide +kernel
theorem dX6_skipLine_60 : decode cX6_skipLine 60 = .ok (.getfield 62, 3) := by decide +kernel
theorem dX6_skipLine_63 : decode cX6_skipLine 63 = .ok (.ifCond .le 13, 3) := by decide +kernel
theorem dX6_skipLine_66 : decode cX6_skipLine 66 = .ok (.aload_n 0, 1) := by decide +kernel
theorem dX6_skipLine_67 : decode cX6_skipLine 67 = .ok (.dup, 1) := by decide +kernel
theorem dX6_skipLine_68 : decode cX6_skipLine 68 = .ok (.getfield 62, 3) := by decide +kernel
theorem dX6_skipLine_71 : decode cX6_skipLine 71 = .ok (.iconst 1, 1) := by decide +kernel
theorem dX6_skipLine_72 : decode cX6_skipLine 72 = .ok (.isub, 1) := by decide +kernel
theorem dX6_skipLine_73 : decode cX6_skipLine 73 = .ok (.putfield 62, 3) := by decide +kernel
theorem dX6_skipLine_76 : decode cX6_skipLine 76 = .ok (.return_, 1) := by decide +kernel
theorem dX6_prepare_0 : decode cX6_prepare 0 = .ok (.iload_n 1, 1) := by decide +kernel
theorem dX6_prepare_1 : decode cX6_prepare 1 = .ok (.iconst 2, 1) := by decide +kernel
theorem dX6_prepare_2 : decode cX6_prepare 2 = .ok (.if_icmp .ne 29, 3) := by decide +kernel
theorem dX6_prepare_5 : decode cX6_prepare 5 = .ok (.aload_n 0, 1) := by decide +kernel
theorem dX6_prepare_6 : decode cX6_prepare 6 = .ok (.iconst 2, 1) := by decide +kernel
theorem dX6_prepare_7 : decode cX6_prepare 7 = .ok (.invokevirtual 188, 3) := by decide +kernel
theorem dX6_prepare_10 : decode cX6_prepare 10 = .ok (.ifCond .eq 21, 3) := by decide +kernel
theorem dX6_prepare_13 : decode cX6_prepare 13 = .ok (.aload_n 0, 1) := by decide +kernel
theorem dX6_prepare_14 : decode cX6_prepare 14 = .ok (.getfield 59, 3) := by decide +kernel
theorem dX6_prepare_17 : decode cX6_prepare 17 = .ok (.aload_n 0, 1) := by decide +kernel
theorem dX6_prepare_18 : decode cX6_prepare 18 = .ok (.getfield 62, 3) := by decide +kernel
theorem dX6_prepare_21 : decode cX6_prepare 21 = .ok (.iconst 1, 1) := by decide +kernel
theorem dX6_prepare_22 : decode cX6_prepare 22 = .ok (.isub, 1) := by decide +kernel
theorem dX6_prepare_23 : decode cX6_prepare 23 = .ok (.dup2, 1) := by decide +kernel
theorem dX6_prepare_24 : decode cX6_prepare 24 = .ok (.iaload, 1) := by decide +kernel
theorem dX6_prepare_25 : decode cX6_prepare 25 = .ok (.bipush (-2), 2) := by decide +kernel
theorem dX6_prepare_27 : decode cX6_prepare 27 = .ok (.iand, 1) := by decide +kernel
theorem dX6_prepare_28 : decode cX6_prepare 28 = .ok (.iastore, 1) := by decide +kernel
theorem dX6_prepare_29 : decode cX6_prepare 29 = .ok (.iconst 0, 1) := by decide +kernel
theorem dX6_prepare_30 : decode cX6_prepare 30 = .ok (.ireturn, 1) := by decide +kernel
theorem dX6_prepare_31 : decode cX6_prepare 31 = .ok (.aload_n 0, 1) := by decide +kernel
theorem dX6_prepare_32 : decode cX6_prepare 32 = .ok (.iload_n 2, 1) := by decide +kernel
theorem dX6_prepare_33 : decode cX6_prepare 33 = .ok (.iload_n 3, 1) := by decide +kernel
theorem dX6_prepare_34 : decode cX6_prepare 34 = .ok (.invokevirtual 225, 3) := by decide +kernel
theorem dX6_prepare_37 : decode cX6_prepare 37 = .ok (.ifCond .ne 5, 3) := by decide +kernel
theorem dX6_prepare_40 : decode cX6_prepare 40 = .ok (.iconst 0, 1) := by decide +kernel
theorem dX6_prepare_41 : decode cX6_prepare 41 = .ok (.ireturn, 1) := by decide +kernel
theorem dX6_prepare_42 : decode cX6_prepare 42 = .ok (.aload_n 0, 1) := by decide +kernel
theorem dX6_prepare_43 : decode cX6_prepare 43 = .ok (.getfield 37, 3) := by decide +kernel
theorem dX6_prepare_46 : decode cX6_prepare 46 = .ok (.getfield 103, 3) := by decide +kernel
theorem dX6_prepare_49 : decode cX6_prepare 49 = .ok (.ifCond .le 30, 3) := by decide +kernel
theorem dX6_prepare_52 : decode cX6_prepare 52 = .ok (.aload_n 0, 1) := by decide +kernel
theorem dX6_prepare_53 : decode cX6_prepare 53 = .ok (.iconst 0, 1) := by decide +kernel
theorem dX6_prepare_54 : decode cX6_prepare 54 = .ok (.bipush 35, 2) := by decide +kernel
theorem dX6_prepare_56 : decode cX6_prepare 56 = .ok (.invokevirtual 229, 3) := by decide +kernel
theorem dX6_prepare_59 : decode cX6_prepare 59 = .ok (.ifCond .eq 20, 3) := by decide +kernel
theorem dX6_prepare_62 : decode cX6_prepare 62 = .ok (.aload_n 0, 1) := by decide +kernel
theorem dX6_prepare_63 : decode cX6_prepare 63 = .ok (.getfield 37, 3) := by decide +kernel
theorem dX6_prepare_66 : decode cX6_prepare 66 = .ok (.getfield 103, 3) := by decide +kernel
theorem dX6_prepare_69 : decode cX6_prepare 69 = .ok (.iconst 1, 1) := by decide +kernel
theorem dX6_prepare_70 : decode cX6_prepare 70 = .ok (.if_icmp .ne 7, 3) := by decide +kernel
theorem dX6_prepare_73 : decode cX6_prepare 73 = .ok (.iconst 0, 1) := by decide +kernel
theorem dX6_prepare_74 : decode cX6_prepare 74 = .ok (.goto 4, 3) := by decide +kernel
theorem dX6_prepare_77 : decode cX6_prepare 77 = .ok (.iconst 3, 1) := by decide +kernel
theorem dX6_prepare_78 : decode cX6_prepare 78 = .ok (.ireturn, 1) := by decide +kernel
theorem dX6_prepare_79 : decode cX6_prepare 79 = .ok (.aload_n 0, 1) := by decide +kernel
theorem dX6_prepare_80 : decode cX6_prepare 80 = .ok (.iconst 0, 1) := by decide +kernel
theorem dX6_prepare_81 : decode cX6_prepare 81 = .ok (.invokevirtual 232, 3) := by decide +kernel
theorem dX6_prepare_84 : decode cX6_prepare 84 = .ok (.iconst 1, 1) := by decide +kernel
theorem dX6_prepare_85 : decode cX6_prepare 85 = .ok (.ireturn, 1) := by decide +kernel
theorem dX6_cutLine_0 : decode cX6_cutLine 0 = .ok (.aload_n 0, 1) := by decide +kernel
theorem dX6_cutLine_1 : decode cX6_cutLine 1 = .ok (.getfield 37, 3) := by decide +kernel
theorem dX6_cutLine_4 : decode cX6_cutLine 4 = .ok (.iconst 0, 1) := by decide +kernel
theorem dX6_cutLine_5 : decode cX6_cutLine 5 = .ok (.putfield 103, 3) := by decide +kernel
theorem dX6_cutLine_8 : decode cX6_cutLine 8 = .ok (.iconst 0, 1) := by decide +kernel
theorem dX6_cutLine_9 : decode cX6_cutLine 9 = .ok (.istore_n 3, 1) := by decide +kernel
theorem dX6_cutLine_10 : decode cX6_cutLine 10 = .ok (.iload_n 3, 1) := by decide +kernel
theorem dX6_cutLine_11 : decode cX6_cutLine 11 = .ok (.iload_n 2, 1) := by decide +kernel
theorem dX6_cutLine_12 : decode cX6_cutLine 12 = .ok (.if_icmp .ge 169, 3) := by decide +kernel
theorem dX6_cutLine_15 : decode cX6_cutLine 15 = .ok (.aload_n 0, 1) := by decide +kernel
theorem dX6_cutLine_16 : decode cX6_cutLine 16 = .ok (.getfield 71, 3) := by decide +kernel
theorem dX6_cutLine_19 : decode cX6_cutLine 19 = .ok (.iload_n 1, 1) := by decide +kernel
theorem dX6_cutLine_20 : decode cX6_cutLine 20 = .ok (.iload_n 3, 1) := by decide +kernel
theorem dX6_cutLine_21 : decode cX6_cutLine 21 = .ok (.iadd, 1) := by decide +kernel
theorem dX6_cutLine_22 : decode cX6_cutLine 22 = .ok (.invokevirtual 235, 3) := by decide +kernel
theorem dX6_cutLine_25 : decode cX6_cutLine 25 = .ok (.bipush 32, 2) := by decide +kernel
theorem dX6_cutLine_27 : decode cX6_cutLine 27 = .ok (.if_icmp .ne 6, 3) := by decide +kernel
theorem dX6_cutLine_30 : decode cX6_cutLine 30 = .ok (.goto 145, 3) := by decide +kernel
theorem dX6_cutLine_33 : decode cX6_cutLine 33 = .ok (.aload_n 0, 1) := by decide +kernel
theorem dX6_cutLine_34 : decode cX6_cutLine 34 = .ok (.getfield 65, 3) := by decide +kernel
theorem dX6_cutLine_37 : decode cX6_cutLine 37 = .ok (.invokestatic 238, 3) := by decide +kernel
theorem dX6_cutLine_40 : decode cX6_cutLine 40 = .ok (.aload_n 0, 1) := by decide +kernel
theorem dX6_cutLine_41 : decode cX6_cutLine 41 = .ok (.getfield 65, 3) := by decide +kernel
theorem dX6_cutLine_44 : decode cX6_cutLine 44 = .ok (.invokestatic 241, 3) := by decide +kernel
theorem dX6_cutLine_47 : decode cX6_cutLine 47 = .ok (.iload_n 3, 1) := by decide +kernel
theorem dX6_cutLine_48 : decode cX6_cutLine 48 = .ok (.invokestatic 165, 3) := by decide +kernel
theorem dX6_cutLine_51 : decode cX6_cutLine 51 = .ok (.istore 4, 2) := by decide +kernel
theorem dX6_cutLine_53 : decode cX6_cutLine 53 = .ok (.aload_n 0, 1) := by decide +kernel
theorem dX6_cutLine_54 : decode cX6_cutLine 54 = .ok (.getfield 71, 3) := by decide +kernel
theorem dX6_cutLine_57 : decode cX6_cutLine 57 = .ok (.iload_n 1, 1) := by decide +kernel
theorem dX6_cutLine_58 : decode cX6_cutLine 58 = .ok (.iload_n 3, 1) := by decide +kernel
theorem dX6_cutLine_59 : decode cX6_cutLine 59 = .ok (.iadd, 1) := by decide +kernel
theorem dX6_cutLine_60 : decode cX6_cutLine 60 = .ok (.iload_n 1, 1) := by decide +kernel
theorem dX6_cutLine_61 : decode cX6_cutLine 61 = .ok (.iload_n 2, 1) := by decide +kernel
theorem dX6_cutLine_62 : decode cX6_cutLine 62 = .ok (.iadd, 1) := by decide +kernel
theorem dX6_cutLine_63 : decode cX6_cutLine 63 = .ok (.invokevirtual 244, 3) := by decide +kernel
theorem dX6_cutLine_66 : decode cX6_cutLine 66 = .ok (.istore 5, 2) := by decide +kernel
theorem dX6_cutLine_68 : decode cX6_cutLine 68 = .ok (.iload 5, 2) := by decide +kernel
theorem dX6_cutLine_70 : decode cX6_cutLine 70 = .ok (.iload_n 1, 1) := by decide +kernel
theorem dX6_cutLine_71 : decode cX6_cutLine 71 = .ok (.isub, 1) := by decide +kernel
theorem dX6_cutLine_72 : decode cX6_cutLine 72 = .ok (.iload_n 3, 1) := by decide +kernel
theorem dX6_cutLine_73 : decode cX6_cutLine 73 = .ok (.isub, 1) := by decide +kernel
theorem dX6_cutLine_74 : decode cX6_cutLine 74 = .ok (.istore 6, 2) := by decide +kernel
theorem dX6_cutLine_76 : decode cX6_cutLine 76 = .ok (.iload 5, 2) := by decide +kernel
theorem dX6_cutLine_78 : decode cX6_cutLine 78 = .ok (.iconst (-1), 1) := by decide +kernel
theorem dX6_cutLine_79 : decode cX6_cutLine 79 = .ok (.if_icmp .eq 10, 3) := by decide +kernel
theorem dX6_cutLine_82 : decode cX6_cutLine 82 = .ok (.iload 6, 2) := by decide +kernel
theorem dX6_cutLine_84 : decode cX6_cutLine 84 = .ok (.bipush 30, 2) := by decide +kernel
theorem dX6_cutLine_86 : decode cX6_cutLine 86 = .ok (.if_icmp .le 15, 3) := by decide +kernel
theorem dX6_cutLine_89 : decode cX6_cutLine 89 = .ok (.aload_n 0, 1) := by decide +kernel
theorem dX6_cutLine_90 : decode cX6_cutLine 90 = .ok (.getfield 12, 3) := by decide +kernel
theorem dX6_cutLine_93 : decode cX6_cutLine 93 = .ok (.iconst 1, 1) := by decide +kernel
theorem dX6_cutLine_94 : decode cX6_cutLine 94 = .ok (.iload 4, 2) := by decide +kernel
theorem dX6_cutLine_96 : decode cX6_cutLine 96 = .ok (.invokevirtual 180, 3) := by decide +kernel
theorem dX6_cutLine_99 : decode cX6_cutLine 99 = .ok (.iconst 0, 1) := by decide +kernel
theorem dX6_cutLine_100 : decode cX6_cutLine 100 = .ok (.ireturn, 1) := by decide +kernel
theorem dX6_cutLine_101 : decode cX6_cutLine 101 = .ok (.iload 4, 2) := by decide +kernel
theorem dX6_cutLine_103 : decode cX6_cutLine 103 = .ok (.aload_n 0, 1) := by decide +kernel
theorem dX6_cutLine_104 : decode cX6_cutLine 104 = .ok (.getfield 71, 3) := by decide +kernel
theorem dX6_cutLine_107 : decode cX6_cutLine 107 = .ok (.iload_n 1, 1) := by decide +kernel
theorem dX6_cutLine_108 : decode cX6_cutLine 108 = .ok (.iload_n 3, 1) := by decide +kernel
theorem dX6_cutLine_109 : decode cX6_cutLine 109 = .ok (.iadd, 1) := by decide +kernel
theorem dX6_cutLine_110 : decode cX6_cutLine 110 = .ok (.invokevirtual 247, 3) := by decide +kernel
theorem dX6_cutLine_113 : decode cX6_cutLine 113 = .ok (.iload 6, 2) := by decide +kernel
theorem dX6_cutLine_115 : decode cX6_cutLine 115 = .ok (.invokestatic 250, 3) := by decide +kernel
theorem dX6_cutLine_118 : decode cX6_cutLine 118 = .ok (.ior, 1) := by decide +kernel
theorem dX6_cutLine_119 : decode cX6_cutLine 119 = .ok (.istore 4, 2) := by decide +kernel
theorem dX6_cutLine_121 : decode cX6_cutLine 121 = .ok (.iload_n 3, 1) := by decide +kernel
theorem dX6_cutLine_122 : decode cX6_cutLine 122 = .ok (.ifCond .le 28, 3) := by decide +kernel
theorem dX6_cutLine_125 : decode cX6_cutLine 125 = .ok (.aload_n 0, 1) := by decide +kernel
theorem dX6_cutLine_126 : decode cX6_cutLine 126 = .ok (.getfield 71, 3) := by decide +kernel
theorem dX6_cutLine_129 : decode cX6_cutLine 129 = .ok (.iload_n 1, 1) := by decide +kernel
theorem dX6_cutLine_130 : decode cX6_cutLine 130 = .ok (.iload_n 3, 1) := by decide +kernel
theorem dX6_cutLine_131 : decode cX6_cutLine 131 = .ok (.iadd, 1) := by decide +kernel
theorem dX6_cutLine_132 : decode cX6_cutLine 132 = .ok (.iconst 1, 1) := by decide +kernel
theorem dX6_cutLine_133 : decode cX6_cutLine 133 = .ok (.isub, 1) := by decide +kernel
theorem dX6_cutLine_134 : decode cX6_cutLine 134 = .ok (.invokevirtual 235, 3) := by decide +kernel
theorem dX6_cutLine_137 : decode cX6_cutLine 137 = .ok (.bipush 32, 2) := by decide +kernel
theorem dX6_cutLine_139 : decode cX6_cutLine 139 = .ok (.if_icmp .ne 11, 3) := by decide +kernel
theorem dX6_cutLine_142 : decode cX6_cutLine 142 = .ok (.iload 4, 2) := by decide +kernel
theorem dX6_cutLine_144 : decode cX6_cutLine 144 = .ok (.sipush 128, 3) := by decide +kernel
theorem dX6_cutLine_147 : decode cX6_cutLine 147 = .ok (.ior, 1) := by decide +kernel
theorem dX6_cutLine_148 : decode cX6_cutLine 148 = .ok (.istore 4, 2) := by decide +kernel
theorem dX6_cutLine_150 : decode cX6_cutLine 150 = .ok (.aload_n 0, 1) := by decide +kernel
theorem dX6_cutLine_151 : decode cX6_cutLine 151 = .ok (.getfield 37, 3) := by decide +kernel
theorem dX6_cutLine_154 : decode cX6_cutLine 154 = .ok (.iload_n 1, 1) := by decide +kernel
theorem dX6_cutLine_155 : decode cX6_cutLine 155 = .ok (.iload_n 3, 1) := by decide +kernel
theorem dX6_cutLine_156 : decode cX6_cutLine 156 = .ok (.iadd, 1) := by decide +kernel
theorem dX6_cutLine_157 : decode cX6_cutLine 157 = .ok (.iload 4, 2) := by decide +kernel
theorem dX6_cutLine_159 : decode cX6_cutLine 159 = .ok (.iconst 0, 1) := by decide +kernel
theorem dX6_cutLine_160 : decode cX6_cutLine 160 = .ok (.invokevirtual 253, 3) := by decide +kernel
theorem dX6_cutLine_163 : decode cX6_cutLine 163 = .ok (.pop, 1) := by decide +kernel
theorem dX6_cutLine_164 : decode cX6_cutLine 164 = .ok (.iload_n 3, 1) := by decide +kernel
theorem dX6_cutLine_165 : decode cX6_cutLine 165 = .ok (.iload 6, 2) := by decide +kernel
theorem dX6_cutLine_167 : decode cX6_cutLine 167 = .ok (.iconst 1, 1) := by decide +kernel
theorem dX6_cutLine_168 : decode cX6_cutLine 168 = .ok (.invokestatic 257, 3) := by decide +kernel
theorem dX6_cutLine_171 : decode cX6_cutLine 171 = .ok (.iconst 1, 1) := by decide +kernel
theorem dX6_cutLine_172 : decode cX6_cutLine 172 = .ok (.isub, 1) := by decide +kernel
theorem dX6_cutLine_173 : decode cX6_cutLine 173 = .ok (.iadd, 1) := by decide +kernel
theorem dX6_cutLine_174 : decode cX6_cutLine 174 = .ok (.istore_n 3, 1) := by decide +kernel
theorem dX6_cutLine_175 : decode cX6_cutLine 175 = .ok (.iinc 3 1, 3) := by decide +kernel
theorem dX6_cutLine_178 : decode cX6_cutLine 178 = .ok (.goto (-168), 3) := by decide +kernel
theorem dX6_cutLine_181 : decode cX6_cutLine 181 = .ok (.iconst 1, 1) := by decide +kernel
theorem dX6_cutLine_182 : decode cX6_cutLine 182 = .ok (.ireturn, 1) := by decide +kernel
theorem dX6_isSign_0 : decode cX6_isSign 0 = .ok (.iload_n 1, 1) := by decide +kernel
theorem dX6_isSign_1 : decode cX6_isSign 1 = .ok (.aload_n 0, 1) := by decide +kernel
theorem dX6_isSign_2 : decode cX6_isSign 2 = .ok (.getfield 37, 3) := by decide +kernel
theorem dX6_isSign_5 : decode cX6_isSign 5 = .ok (.getfield 103, 3) := by decide +kernel
theorem dX6_isSign_8 : decode cX6_isSign 8 = .ok (.if_icmp .ge 36, 3) := by decide +kernel
theorem dX6_isSign_11 : decode cX6_isSign 11 = .ok (.aload_n 0, 1) := by decide +kernel
theorem dX6_isSign_12 : decode cX6_isSign 12 = .ok (.getfield 71, 3) := by decide +kernel
theorem dX6_isSign_15 : decode cX6_isSign 15 = .ok (.aload_n 0, 1) := by decide +kernel
theorem dX6_isSign_16 : decode cX6_isSign 16 = .ok (.getfield 37, 3) := by decide +kernel
theorem dX6_isSign_19 : decode cX6_isSign 19 = .ok (.getfield 262, 3) := by decide +kernel
theorem dX6_isSign_22 : decode cX6_isSign 22 = .ok (.iload_n 1, 1) := by decide +kernel
theorem dX6_isSign_23 : decode cX6_isSign 23 = .ok (.iaload, 1) := by decide +kernel
theorem dX6_isSign_24 : decode cX6_isSign 24 = .ok (.aload_n 0, 1) := by decide +kernel
theorem dX6_isSign_25 : decode cX6_isSign 25 = .ok (.getfield 37, 3) := by decide +kernel
theorem dX6_isSign_28 : decode cX6_isSign 28 = .ok (.getfield 265, 3) := by decide +kernel
theorem dX6_isSign_31 : decode cX6_isSign 31 = .ok (.iload_n 1, 1) := by decide +kernel
theorem dX6_isSign_32 : decode cX6_isSign 32 = .ok (.iaload, 1) := by decide +kernel
theorem dX6_isSign_33 : decode cX6_isSign 33 = .ok (.invokevirtual 268, 3) := by decide +kernel
theorem dX6_isSign_36 : decode cX6_isSign 36 = .ok (.iload_n 2, 1) := by decide +kernel
theorem dX6_isSign_37 : decode cX6_isSign 37 = .ok (.if_icmp .ne 7, 3) := by decide +kernel
theorem dX6_isSign_40 : decode cX6_isSign 40 = .ok (.iconst 1, 1) := by decide +kernel
theorem dX6_isSign_41 : decode cX6_isSign 41 = .ok (.goto 4, 3) := by decide +kernel
theorem dX6_isSign_44 : decode cX6_isSign 44 = .ok (.iconst 0, 1) := by decide +kernel
theorem dX6_isSign_45 : decode cX6_isSign 45 = .ok (.ireturn, 1) := by decide +kernel
theorem dX6_isName_0 : decode cX6_isName 0 = .ok (.iload_n 1, 1) := by decide +kernel
theorem dX6_isName_1 : decode cX6_isName 1 = .ok (.aload_n 0, 1) := by decide +kernel
theorem dX6_isName_2 : decode cX6_isName 2 = .ok (.getfield 37, 3) := by decide +kernel
theorem dX6_isName_5 : decode cX6_isName 5 = .ok (.getfield 103, 3) := by decide +kernel
theorem dX6_isName_8 : decode cX6_isName 8 = .ok (.if_icmp .ge 22, 3) := by decide +kernel
theorem dX6_isName_11 : decode cX6_isName 11 = .ok (.aload_n 0, 1) := by decide +kernel
theorem dX6_isName_12 : decode cX6_isName 12 = .ok (.getfield 37, 3) := by decide +kernel
theorem dX6_isName_15 : decode cX6_isName 15 = .ok (.getfield 265, 3) := by decide +kernel
theorem dX6_isName_18 : decode cX6_isName 18 = .ok (.iload_n 1, 1) := by decide +kernel
theorem dX6_isName_19 : decode cX6_isName 19 = .ok (.iaload, 1) := by decide +kernel
theorem dX6_isName_20 : decode cX6_isName 20 = .ok (.invokestatic 271, 3) := by decide +kernel
theorem dX6_isName_23 : decode cX6_isName 23 = .ok (.ifCond .ne 7, 3) := by decide +kernel
theorem dX6_isName_26 : decode cX6_isName 26 = .ok (.iconst 1, 1) := by decide +kernel
theorem dX6_isName_27 : decode cX6_isName 27 = .ok (.goto 4, 3) := by decide +kernel
theorem dX6_isName_30 : decode cX6_isName 30 = .ok (.iconst 0, 1) := by decide +kernel
theorem dX6_isName_31 : decode cX6_isName 31 = .ok (.ireturn, 1) := by decide +kernel
theorem dX6_says_0 : decode cX6_says 0 = .ok (.aload_n 0, 1) := by decide +kernel
theorem dX6_says_1 : decode cX6_says 1 = .ok (.iload_n 1, 1) := by decide +kernel
theorem dX6_says_2 : decode cX6_says 2 = .ok (.invokevirtual 274, 3) := by decide +kernel
theorem dX6_says_5 : decode cX6_says 5 = .ok (.ifCond .ne 5, 3) := by decide +kernel
theorem dX6_says_8 : decode cX6_says 8 = .ok (.iconst 0, 1) := by decide +kernel
theorem dX6_says_9 : decode cX6_says 9 = .ok (.ireturn, 1) := by decide +kernel
theorem dX6_says_10 : decode cX6_says 10 = .ok (.aload_n 0, 1) := by decide +kernel
theorem dX6_says_11 : decode cX6_says 11 = .ok (.getfield 71, 3) := by decide +kernel
theorem dX6_says_14 : decode cX6_says 14 = .ok (.getfield 127, 3) := by decide +kernel
theorem dX6_says_17 : decode cX6_says 17 = .ok (.aload_n 0, 1) := by decide +kernel
theorem dX6_says_18 : decode cX6_says 18 = .ok (.getfield 37, 3) := by decide +kernel
theorem dX6_says_21 : decode cX6_says 21 = .ok (.getfield 262, 3) := by decide +kernel
theorem dX6_says_24 : decode cX6_says 24 = .ok (.iload_n 1, 1) := by decide +kernel
theorem dX6_says_25 : decode cX6_says 25 = .ok (.iaload, 1) := by decide +kernel
theorem dX6_says_26 : decode cX6_says 26 = .ok (.aload_n 0, 1) := by decide +kernel
theorem dX6_says_27 : decode cX6_says 27 = .ok (.getfield 37, 3) := by decide +kernel
theorem dX6_says_30 : decode cX6_says 30 = .ok (.getfield 262, 3) := by decide +kernel
theorem dX6_says_33 : decode cX6_says 33 = .ok (.iload_n 1, 1) := by decide +kernel
theorem dX6_says_34 : decode cX6_says 34 = .ok (.iaload, 1) := by decide +kernel
theorem dX6_says_35 : decode cX6_says 35 = .ok (.aload_n 0, 1) := by decide +kernel
theorem dX6_says_36 : decode cX6_says 36 = .ok (.getfield 37, 3) := by decide +kernel
theorem dX6_says_39 : decode cX6_says 39 = .ok (.getfield 265, 3) := by decide +kernel
theorem dX6_says_42 : decode cX6_says 42 = .ok (.iload_n 1, 1) := by decide +kernel
theorem dX6_says_43 : decode cX6_says 43 = .ok (.iaload, 1) := by decide +kernel
theorem dX6_says_44 : decode cX6_says 44 = .ok (.invokestatic 277, 3) := by decide +kernel
theorem dX6_says_47 : decode cX6_says 47 = .ok (.iadd, 1) := by decide +kernel
theorem dX6_says_48 : decode cX6_says 48 = .ok (.aload_n 2, 1) := by decide +kernel
theorem dX6_says_49 : decode cX6_says 49 = .ok (.invokestatic 280, 3) := by decide +kernel
theorem dX6_says_52 : decode cX6_says 52 = .ok (.ireturn, 1) := by decide +kernel
theorem dX6_loadFrom_0 : decode cX6_loadFrom 0 = .ok (.aload_n 0, 1) := by decide +kernel
theorem dX6_loadFrom_1 : decode cX6_loadFrom 1 = .ok (.getfield 89, 3) := by decide +kernel
theorem dX6_loadFrom_4 : decode cX6_loadFrom 4 = .ok (.invokevirtual 284, 3) := by decide +kernel
theorem dX6_loadFrom_7 : decode cX6_loadFrom 7 = .ok (.iload_n 1, 1) := by decide +kernel
theorem dX6_loadFrom_8 : decode cX6_loadFrom 8 = .ok (.istore_n 2, 1) := by decide +kernel
theorem dX6_loadFrom_9 : decode cX6_loadFrom 9 = .ok (.iload_n 2, 1) := by decide +kernel
theorem dX6_loadFrom_10 : decode cX6_loadFrom 10 = .ok (.aload_n 0, 1) := by decide +kernel
theorem dX6_loadFrom_11 : decode cX6_loadFrom 11 = .ok (.getfield 37, 3) := by decide +kernel
theorem dX6_loadFrom_14 : decode cX6_loadFrom 14 = .ok (.getfield 103, 3) := by decide +kernel
theorem dX6_loadFrom_17 : decode cX6_loadFrom 17 = .ok (.if_icmp .ge 34, 3) := by decide +kernel
theorem dX6_loadFrom_20 : decode cX6_loadFrom 20 = .ok (.aload_n 0, 1) := by decide +kernel
theorem dX6_loadFrom_21 : decode cX6_loadFrom 21 = .ok (.getfield 89, 3) := by decide +kernel
theorem dX6_loadFrom_24 : decode cX6_loadFrom 24 = .ok (.aload_n 0, 1) := by decide +kernel
theorem dX6_loadFrom_25 : decode cX6_loadFrom 25 = .ok (.getfield 37, 3) := by decide +kernel
theorem dX6_loadFrom_28 : decode cX6_loadFrom 28 = .ok (.getfield 262, 3) := by decide +kernel
theorem dX6_loadFrom_31 : decode cX6_loadFrom 31 = .ok (.iload_n 2, 1) := by decide +kernel
theorem dX6_loadFrom_32 : decode cX6_loadFrom 32 = .ok (.iaload, 1) := by decide +kernel
theorem dX6_loadFrom_33 : decode cX6_loadFrom 33 = .ok (.aload_n 0, 1) := by decide +kernel
theorem dX6_loadFrom_34 : decode cX6_loadFrom 34 = .ok (.getfield 37, 3) := by decide +kernel
theorem dX6_loadFrom_37 : decode cX6_loadFrom 37 = .ok (.getfield 265, 3) := by decide +kernel
theorem dX6_loadFrom_40 : decode cX6_loadFrom 40 = .ok (.iload_n 2, 1) := by decide +kernel
theorem dX6_loadFrom_41 : decode cX6_loadFrom 41 = .ok (.iaload, 1) := by decide +kernel
theorem dX6_loadFrom_42 : decode cX6_loadFrom 42 = .ok (.invokevirtual 285, 3) := by decide +kernel
theorem dX6_loadFrom_45 : decode cX6_loadFrom 45 = .ok (.iinc 2 1, 3) := by decide +kernel
theorem dX6_loadFrom_48 : decode cX6_loadFrom 48 = .ok (.goto (-39), 3) := by decide +kernel
theorem dX6_loadFrom_51 : decode cX6_loadFrom 51 = .ok (.return_, 1) := by decide +kernel
theorem dX6_refuse_0 : decode cX6_refuse 0 = .ok (.aload_n 0, 1) := by decide +kernel
theorem dX6_refuse_1 : decode cX6_refuse 1 = .ok (.getfield 12, 3) := by decide +kernel
theorem dX6_refuse_4 : decode cX6_refuse 4 = .ok (.iload_n 1, 1) := by decide +kernel
theorem dX6_refuse_5 : decode cX6_refuse 5 = .ok (.iload_n 2, 1) := by decide +kernel
theorem dX6_refuse_6 : decode cX6_refuse 6 = .ok (.aload_n 0, 1) := by decide +kernel
theorem dX6_refuse_7 : decode cX6_refuse 7 = .ok (.getfield 37, 3) := by decide +kernel
theorem dX6_refuse_10 : decode cX6_refuse 10 = .ok (.getfield 103, 3) := by decide +kernel
theorem dX6_refuse_13 : decode cX6_refuse 13 = .ok (.if_icmp .ge 15, 3) := by decide +kernel
theorem dX6_refuse_16 : decode cX6_refuse 16 = .ok (.aload_n 0, 1) := by decide +kernel
theorem dX6_refuse_17 : decode cX6_refuse 17 = .ok (.getfield 37, 3) := by decide +kernel
theorem dX6_refuse_20 : decode cX6_refuse 20 = .ok (.getfield 265, 3) := by decide +kernel
theorem dX6_refuse_23 : decode cX6_refuse 23 = .ok (.iload_n 2, 1) := by decide +kernel
theorem dX6_refuse_24 : decode cX6_refuse 24 = .ok (.iaload, 1) := by decide +kernel
theorem dX6_refuse_25 : decode cX6_refuse 25 = .ok (.goto 7, 3) := by decide +kernel
theorem dX6_refuse_28 : decode cX6_refuse 28 = .ok (.aload_n 0, 1) := by decide +kernel
theorem dX6_refuse_29 : decode cX6_refuse 29 = .ok (.getfield 65, 3) := by decide +kernel
theorem dX6_refuse_32 : decode cX6_refuse 32 = .ok (.invokevirtual 180, 3) := by decide +kernel
theorem dX6_refuse_35 : decode cX6_refuse 35 = .ok (.return_, 1) := by decide +kernel
theorem dX6_direct_0 : decode cX6_direct 0 = .ok (.aload_n 0, 1) := by decide +kernel
theorem dX6_direct_1 : decode cX6_direct 1 = .ok (.iconst 1, 1) := by decide +kernel
theorem dX6_direct_2 : decode cX6_direct 2 = .ok (.ldc_w 288, 3) := by decide +kernel
theorem dX6_direct_5 : decode cX6_direct 5 = .ok (.invokevirtual 290, 3) := by decide +kernel
theorem dX6_direct_8 : decode cX6_direct 8 = .ok (.ifCond .eq 21, 3) := by decide +kernel
theorem dX6_direct_11 : decode cX6_direct 11 = .ok (.aload_n 0, 1) := by decide +kernel
theorem dX6_direct_12 : decode cX6_direct 12 = .ok (.getfield 80, 3) := by decide +kernel
theorem dX6_direct_15 : decode cX6_direct 15 = .ok (.aload_n 0, 1) := by decide +kernel
theorem dX6_direct_16 : decode cX6_direct 16 = .ok (.getfield 37, 3) := by decide +kernel
theorem dX6_direct_19 : decode cX6_direct 19 = .ok (.aload_n 0, 1) := by decide +kernel
theorem dX6_direct_20 : decode cX6_direct 20 = .ok (.getfield 65, 3) := by decide +kernel
theorem dX6_direct_23 : decode cX6_direct 23 = .ok (.invokevirtual 293, 3) := by decide +kernel
theorem dX6_direct_26 : decode cX6_direct 26 = .ok (.goto 148, 3) := by decide +kernel
theorem dX6_direct_29 : decode cX6_direct 29 = .ok (.aload_n 0, 1) := by decide +kernel
theorem dX6_direct_30 : decode cX6_direct 30 = .ok (.iconst 1, 1) := by decide +kernel
theorem dX6_direct_31 : decode cX6_direct 31 = .ok (.ldc_w 296, 3) := by decide +kernel
theorem dX6_direct_34 : decode cX6_direct 34 = .ok (.invokevirtual 290, 3) := by decide +kernel
theorem dX6_direct_37 : decode cX6_direct 37 = .ok (.ifCond .eq 10, 3) := by decide +kernel
theorem dX6_direct_40 : decode cX6_direct 40 = .ok (.aload_n 0, 1) := by decide +kernel
theorem dX6_direct_41 : decode cX6_direct 41 = .ok (.invokevirtual 298, 3) := by decide +kernel
theorem dX6_direct_44 : decode cX6_direct 44 = .ok (.goto 130, 3) := by decide +kernel
theorem dX6_direct_47 : decode cX6_direct 47 = .ok (.aload_n 0, 1) := by decide +kernel
theorem dX6_direct_48 : decode cX6_direct 48 = .ok (.iconst 1, 1) := by decide +kernel
theorem dX6_direct_49 : decode cX6_direct 49 = .ok (.ldc_w 301, 3) := by decide +kernel
theorem dX6_direct_52 : decode cX6_direct 52 = .ok (.invokevirtual 290, 3) := by decide +kernel
theorem dX6_direct_55 : decode cX6_direct 55 = .ok (.ifCond .eq 8, 3) := by decide +kernel
theorem dX6_direct_58 : decode cX6_direct 58 = .ok (.aload_n 0, 1) := by decide +kernel
theorem dX6_direct_59 : decode cX6_direct 59 = .ok (.invokevirtual 303, 3) := by decide +kernel
theorem dX6_direct_62 : decode cX6_direct 62 = .ok (.ireturn, 1) := by decide +kernel
theorem dX6_direct_63 : decode cX6_direct 63 = .ok (.aload_n 0, 1) := by decide +kernel
theorem dX6_direct_64 : decode cX6_direct 64 = .ok (.iconst 1, 1) := by decide +kernel
theorem dX6_direct_65 : decode cX6_direct 65 = .ok (.ldc_w 306, 3) := by decide +kernel
theorem dX6_direct_68 : decode cX6_direct 68 = .ok (.invokevirtual 290, 3) := by decide +kernel
theorem dX6_direct_71 : decode cX6_direct 71 = .ok (.ifCond .ne 14, 3) := by decide +kernel
theorem dX6_direct_74 : decode cX6_direct 74 = .ok (.aload_n 0, 1) := by decide +kernel
theorem dX6_direct_75 : decode cX6_direct 75 = .ok (.iconst 1, 1) := by decide +kernel
theorem dX6_direct_76 : decode cX6_direct 76 = .ok (.ldc_w 308, 3) := by decide +kernel
theorem dX6_direct_79 : decode cX6_direct 79 = .ok (.invokevirtual 290, 3) := by decide +kernel
theorem dX6_direct_82 : decode cX6_direct 82 = .ok (.ifCond .eq 10, 3) := by decide +kernel
theorem dX6_direct_85 : decode cX6_direct 85 = .ok (.aload_n 0, 1) := by decide +kernel
theorem dX6_direct_86 : decode cX6_direct 86 = .ok (.iconst 2, 1) := by decide +kernel
theorem dX6_direct_87 : decode cX6_direct 87 = .ok (.invokevirtual 310, 3) := by decide +kernel
theorem dX6_direct_90 : decode cX6_direct 90 = .ok (.iconst 2, 1) := by decide +kernel
theorem dX6_direct_91 : decode cX6_direct 91 = .ok (.ireturn, 1) := by decide +kernel
theorem dX6_direct_92 : decode cX6_direct 92 = .ok (.aload_n 0, 1) := by decide +kernel
theorem dX6_direct_93 : decode cX6_direct 93 = .ok (.iconst 1, 1) := by decide +kernel
theorem dX6_direct_94 : decode cX6_direct 94 = .ok (.ldc_w 313, 3) := by decide +kernel
theorem dX6_direct_97 : decode cX6_direct 97 = .ok (.invokevirtual 290, 3) := by decide +kernel
theorem dX6_direct_100 : decode cX6_direct 100 = .ok (.ifCond .eq 12, 3) := by decide +kernel
theorem dX6_direct_103 : decode cX6_direct 103 = .ok (.aload_n 0, 1) := by decide +kernel
theorem dX6_direct_104 : decode cX6_direct 104 = .ok (.iconst 1, 1) := by decide +kernel
theorem dX6_direct_105 : decode cX6_direct 105 = .ok (.iload_n 1, 1) := by decide +kernel
theorem dX6_direct_106 : decode cX6_direct 106 = .ok (.invokevirtual 315, 3) := by decide +kernel
theorem dX6_direct_109 : decode cX6_direct 109 = .ok (.goto 65, 3) := by decide +kernel
theorem dX6_direct_112 : decode cX6_direct 112 = .ok (.aload_n 0, 1) := by decide +kernel
theorem dX6_direct_113 : decode cX6_direct 113 = .ok (.iconst 1, 1) := by decide +kernel
theorem dX6_direct_114 : decode cX6_direct 114 = .ok (.ldc_w 319, 3) := by decide +kernel
theorem dX6_direct_117 : decode cX6_direct 117 = .ok (.invokevirtual 290, 3) := by decide +kernel
theorem dX6_direct_120 : decode cX6_direct 120 = .ok (.ifCond .eq 12, 3) := by decide +kernel
theorem dX6_direct_123 : decode cX6_direct 123 = .ok (.aload_n 0, 1) := by decide +kernel
theorem dX6_direct_124 : decode cX6_direct 124 = .ok (.iconst 0, 1) := by decide +kernel
theorem dX6_direct_125 : decode cX6_direct 125 = .ok (.iload_n 1, 1) := by decide +kernel
theorem dX6_direct_126 : decode cX6_direct 126 = .ok (.invokevirtual 315, 3) := by decide +kernel
theorem dX6_direct_129 : decode cX6_direct 129 = .ok (.goto 45, 3) := by decide +kernel
theorem dX6_direct_132 : decode cX6_direct 132 = .ok (.aload_n 0, 1) := by decide +kernel
theorem dX6_direct_133 : decode cX6_direct 133 = .ok (.iconst 1, 1) := by decide +kernel
theorem dX6_direct_134 : decode cX6_direct 134 = .ok (.ldc_w 321, 3) := by decide +kernel
theorem dX6_direct_137 : decode cX6_direct 137 = .ok (.invokevirtual 290, 3) := by decide +kernel
theorem dX6_direct_140 : decode cX6_direct 140 = .ok (.ifCond .eq 10, 3) := by decide +kernel
theorem dX6_direct_143 : decode cX6_direct 143 = .ok (.aload_n 0, 1) := by decide +kernel
theorem dX6_direct_144 : decode cX6_direct 144 = .ok (.invokevirtual 323, 3) := by decide +kernel
theorem dX6_direct_147 : decode cX6_direct 147 = .ok (.goto 27, 3) := by decide +kernel
theorem dX6_direct_150 : decode cX6_direct 150 = .ok (.aload_n 0, 1) := by decide +kernel
theorem dX6_direct_151 : decode cX6_direct 151 = .ok (.iconst 1, 1) := by decide +kernel
theorem dX6_direct_152 : decode cX6_direct 152 = .ok (.ldc_w 326, 3) := by decide +kernel
theorem dX6_direct_155 : decode cX6_direct 155 = .ok (.invokevirtual 290, 3) := by decide +kernel
theorem dX6_direct_158 : decode cX6_direct 158 = .ok (.ifCond .eq 10, 3) := by decide +kernel
theorem dX6_direct_161 : decode cX6_direct 161 = .ok (.aload_n 0, 1) := by decide +kernel
theorem dX6_direct_162 : decode cX6_direct 162 = .ok (.invokevirtual 328, 3) := by decide +kernel
theorem dX6_direct_165 : decode cX6_direct 165 = .ok (.goto 9, 3) := by decide +kernel
theorem dX6_direct_168 : decode cX6_direct 168 = .ok (.aload_n 0, 1) := by decide +kernel
theorem dX6_direct_169 : decode cX6_direct 169 = .ok (.iconst 2, 1) := by decide +kernel
theorem dX6_direct_170 : decode cX6_direct 170 = .ok (.iconst 1, 1) := by decide +kernel
theorem dX6_direct_171 : decode cX6_direct 171 = .ok (.invokevirtual 331, 3) := by decide +kernel
theorem dX6_direct_174 : decode cX6_direct 174 = .ok (.iconst 0, 1) := by decide +kernel
theorem dX6_direct_175 : decode cX6_direct 175 = .ok (.ireturn, 1) := by decide +kernel
theorem dX6_isNameAlone_0 : decode cX6_isNameAlone 0 = .ok (.aload_n 0, 1) := by decide +kernel
theorem dX6_isNameAlone_1 : decode cX6_isNameAlone 1 = .ok (.iconst 2, 1) := by decide +kernel
theorem dX6_isNameAlone_2 : decode cX6_isNameAlone 2 = .ok (.invokevirtual 274, 3) := by decide +kernel
theorem dX6_isNameAlone_5 : decode cX6_isNameAlone 5 = .ok (.ifCond .ne 12, 3) := by decide +kernel
theorem dX6_isNameAlone_8 : decode cX6_isNameAlone 8 = .ok (.aload_n 0, 1) := by decide +kernel
theorem dX6_isNameAlone_9 : decode cX6_isNameAlone 9 = .ok (.iconst 2, 1) := by decide +kernel
theorem dX6_isNameAlone_10 : decode cX6_isNameAlone 10 = .ok (.iconst 2, 1) := by decide +kernel
theorem dX6_isNameAlone_11 : decode cX6_isNameAlone 11 = .ok (.invokevirtual 331, 3) := by decide +kernel
theorem dX6_isNameAlone_14 : decode cX6_isNameAlone 14 = .ok (.goto 20, 3) := by decide +kernel
theorem dX6_isNameAlone_17 : decode cX6_isNameAlone 17 = .ok (.aload_n 0, 1) := by decide +kernel
theorem dX6_isNameAlone_18 : decode cX6_isNameAlone 18 = .ok (.getfield 37, 3) := by decide +kernel
theorem dX6_isNameAlone_21 : decode cX6_isNameAlone 21 = .ok (.getfield 103, 3) := by decide +kernel
theorem dX6_isNameAlone_24 : decode cX6_isNameAlone 24 = .ok (.iconst 3, 1) := by decide +kernel
theorem dX6_isNameAlone_25 : decode cX6_isNameAlone 25 = .ok (.if_icmp .le 9, 3) := by decide +kernel
theorem dX6_isNameAlone_28 : decode cX6_isNameAlone 28 = .ok (.aload_n 0, 1) := by decide +kernel
theorem dX6_isNameAlone_29 : decode cX6_isNameAlone 29 = .ok (.iconst 2, 1) := by decide +kernel
theorem dX6_isNameAlone_30 : decode cX6_isNameAlone 30 = .ok (.iconst 3, 1) := by decide +kernel
theorem dX6_isNameAlone_31 : decode cX6_isNameAlone 31 = .ok (.invokevirtual 331, 3) := by decide +kernel
theorem dX6_isNameAlone_34 : decode cX6_isNameAlone 34 = .ok (.aload_n 0, 1) := by decide +kernel
theorem dX6_isNameAlone_35 : decode cX6_isNameAlone 35 = .ok (.getfield 12, 3) := by decide +kernel
theorem dX6_isNameAlone_38 : decode cX6_isNameAlone 38 = .ok (.getfield 155, 3) := by decide +kernel
theorem dX6_isNameAlone_41 : decode cX6_isNameAlone 41 = .ok (.ifCond .ne 7, 3) := by decide +kernel
theorem dX6_isNameAlone_44 : decode cX6_isNameAlone 44 = .ok (.iconst 1, 1) := by decide +kernel
theorem dX6_isNameAlone_45 : decode cX6_isNameAlone 45 = .ok (.goto 4, 3) := by decide +kernel
theorem dX6_isNameAlone_48 : decode cX6_isNameAlone 48 = .ok (.iconst 0, 1) := by decide +kernel
theorem dX6_isNameAlone_49 : decode cX6_isNameAlone 49 = .ok (.ireturn, 1) := by decide +kernel
theorem dX6_undefine_0 : decode cX6_undefine 0 = .ok (.aload_n 0, 1) := by decide +kernel
theorem dX6_undefine_1 : decode cX6_undefine 1 = .ok (.invokevirtual 334, 3) := by decide +kernel
theorem dX6_undefine_4 : decode cX6_undefine 4 = .ok (.ifCond .eq 47, 3) := by decide +kernel
theorem dX6_undefine_7 : decode cX6_undefine 7 = .ok (.aload_n 0, 1) := by decide +kernel
theorem dX6_undefine_8 : decode cX6_undefine 8 = .ok (.getfield 80, 3) := by decide +kernel
theorem dX6_undefine_11 : decode cX6_undefine 11 = .ok (.aload_n 0, 1) := by decide +kernel
theorem dX6_undefine_12 : decode cX6_undefine 12 = .ok (.getfield 37, 3) := by decide +kernel
theorem dX6_undefine_15 : decode cX6_undefine 15 = .ok (.getfield 262, 3) := by decide +kernel
theorem dX6_undefine_18 : decode cX6_undefine 18 = .ok (.iconst 2, 1) := by decide +kernel
theorem dX6_undefine_19 : decode cX6_undefine 19 = .ok (.iaload, 1) := by decide +kernel
theorem dX6_undefine_20 : decode cX6_undefine 20 = .ok (.aload_n 0, 1) := by decide +kernel
theorem dX6_undefine_21 : decode cX6_undefine 21 = .ok (.getfield 37, 3) := by decide +kernel
theorem dX6_undefine_24 : decode cX6_undefine 24 = .ok (.getfield 265, 3) := by decide +kernel
theorem dX6_undefine_27 : decode cX6_undefine 27 = .ok (.iconst 2, 1) := by decide +kernel
theorem dX6_undefine_28 : decode cX6_undefine 28 = .ok (.iaload, 1) := by decide +kernel
theorem dX6_undefine_29 : decode cX6_undefine 29 = .ok (.invokestatic 277, 3) := by decide +kernel
theorem dX6_undefine_32 : decode cX6_undefine 32 = .ok (.invokevirtual 337, 3) := by decide +kernel
theorem dX6_undefine_35 : decode cX6_undefine 35 = .ok (.istore_n 1, 1) := by decide +kernel
theorem dX6_undefine_36 : decode cX6_undefine 36 = .ok (.iload_n 1, 1) := by decide +kernel
theorem dX6_undefine_37 : decode cX6_undefine 37 = .ok (.iconst (-1), 1) := by decide +kernel
theorem dX6_undefine_38 : decode cX6_undefine 38 = .ok (.if_icmp .eq 13, 3) := by decide +kernel
theorem dX6_undefine_41 : decode cX6_undefine 41 = .ok (.aload_n 0, 1) := by decide +kernel
theorem dX6_undefine_42 : decode cX6_undefine 42 = .ok (.getfield 80, 3) := by decide +kernel
theorem dX6_undefine_45 : decode cX6_undefine 45 = .ok (.getfield 340, 3) := by decide +kernel
theorem dX6_undefine_48 : decode cX6_undefine 48 = .ok (.iload_n 1, 1) := by decide +kernel
theorem dX6_undefine_49 : decode cX6_undefine 49 = .ok (.iconst 0, 1) := by decide +kernel
theorem dX6_undefine_50 : decode cX6_undefine 50 = .ok (.bastore, 1) := by decide +kernel
theorem dX6_undefine_51 : decode cX6_undefine 51 = .ok (.return_, 1) := by decide +kernel
theorem dX6_openByName_0 : decode cX6_openByName 0 = .ok (.aload_n 0, 1) := by decide +kernel
theorem dX6_openByName_1 : decode cX6_openByName 1 = .ok (.invokevirtual 334, 3) := by decide +kernel
theorem dX6_openByName_4 : decode cX6_openByName 4 = .ok (.ifCond .eq 57, 3) := by decide +kernel
theorem dX6_openByName_7 : decode cX6_openByName 7 = .ok (.aload_n 0, 1) := by decide +kernel
theorem dX6_openByName_8 : decode cX6_openByName 8 = .ok (.getfield 80, 3) := by decide +kernel
theorem dX6_openByName_11 : decode cX6_openByName 11 = .ok (.aload_n 0, 1) := by decide +kernel
theorem dX6_openByName_12 : decode cX6_openByName 12 = .ok (.getfield 37, 3) := by decide +kernel
theorem dX6_openByName_15 : decode cX6_openByName 15 = .ok (.getfield 262, 3) := by decide +kernel
theorem dX6_openByName_18 : decode cX6_openByName 18 = .ok (.iconst 2, 1) := by decide +kernel
theorem dX6_openByName_19 : decode cX6_openByName 19 = .ok (.iaload, 1) := by decide +kernel
theorem dX6_openByName_20 : decode cX6_openByName 20 = .ok (.aload_n 0, 1) := by decide +kernel
theorem dX6_openByName_21 : decode cX6_openByName 21 = .ok (.getfield 37, 3) := by decide +kernel
theorem dX6_openByName_24 : decode cX6_openByName 24 = .ok (.getfield 265, 3) := by decide +kernel
theorem dX6_openByName_27 : decode cX6_openByName 27 = .ok (.iconst 2, 1) := by decide +kernel
theorem dX6_openByName_28 : decode cX6_openByName 28 = .ok (.iaload, 1) := by decide +kernel
theorem dX6_openByName_29 : decode cX6_openByName 29 = .ok (.invokestatic 277, 3) := by decide +kernel
theorem dX6_openByName_32 : decode cX6_openByName 32 = .ok (.invokevirtual 337, 3) := by decide +kernel
theorem dX6_openByName_35 : decode cX6_openByName 35 = .ok (.iconst (-1), 1) := by decide +kernel
theorem dX6_openByName_36 : decode cX6_openByName 36 = .ok (.if_icmp .eq 7, 3) := by decide +kernel
theorem dX6_openByName_39 : decode cX6_openByName 39 = .ok (.iconst 1, 1) := by decide +kernel
theorem dX6_openByName_40 : decode cX6_openByName 40 = .ok (.goto 4, 3) := by decide +kernel
theorem dX6_openByName_43 : decode cX6_openByName 43 = .ok (.iconst 0, 1) := by decide +kernel
theorem dX6_openByName_44 : decode cX6_openByName 44 = .ok (.istore_n 3, 1) := by decide +kernel
theorem dX6_openByName_45 : decode cX6_openByName 45 = .ok (.aload_n 0, 1) := by decide +kernel
theorem dX6_openByName_46 : decode cX6_openByName 46 = .ok (.iconst 1, 1) := by decide +kernel
theorem dX6_openByName_47 : decode cX6_openByName 47 = .ok (.iload_n 3, 1) := by decide +kernel
theorem dX6_openByName_48 : decode cX6_openByName 48 = .ok (.iload_n 1, 1) := by decide +kernel
theorem dX6_openByName_49 : decode cX6_openByName 49 = .ok (.if_icmp .ne 7, 3) := by decide +kernel
theorem dX6_openByName_52 : decode cX6_openByName 52 = .ok (.iconst 1, 1) := by decide +kernel
theorem dX6_openByName_53 : decode cX6_openByName 53 = .ok (.goto 4, 3) := by decide +kernel
theorem dX6_openByName_56 : decode cX6_openByName 56 = .ok (.iconst 0, 1) := by decide +kernel
theorem dX6_openByName_57 : decode cX6_openByName 57 = .ok (.iload_n 2, 1) := by decide +kernel
theorem dX6_openByName_58 : decode cX6_openByName 58 = .ok (.invokevirtual 212, 3) := by decide +kernel
theorem dX6_openByName_61 : decode cX6_openByName 61 = .ok (.return_, 1) := by decide +kernel
theorem dX6_decide_0 : decode cX6_decide 0 = .ok (.aload_n 0, 1) := by decide +kernel
theorem dX6_decide_1 : decode cX6_decide 1 = .ok (.getfield 12, 3) := by decide +kernel
theorem dX6_decide_4 : decode cX6_decide 4 = .ok (.getfield 155, 3) := by decide +kernel
theorem dX6_decide_7 : decode cX6_decide 7 = .ok (.ifCond .eq 4, 3) := by decide +kernel
theorem dX6_decide_10 : decode cX6_decide 10 = .ok (.return_, 1) := by decide +kernel
theorem dX6_decide_11 : decode cX6_decide 11 = .ok (.aload_n 0, 1) := by decide +kernel
theorem dX6_decide_12 : decode cX6_decide 12 = .ok (.getfield 27, 3) := by decide +kernel
theorem dX6_decide_15 : decode cX6_decide 15 = .ok (.bipush 9, 2) := by decide +kernel
theorem dX6_decide_17 : decode cX6_decide 17 = .ok (.dup2, 1) := by decide +kernel
theorem dX6_decide_18 : decode cX6_decide 18 = .ok (.iaload, 1) := by decide +kernel
theorem dX6_decide_19 : decode cX6_decide 19 = .ok (.iconst 1, 1) := by decide +kernel
theorem dX6_decide_20 : decode cX6_decide 20 = .ok (.iadd, 1) := by decide +kernel
theorem dX6_decide_21 : decode cX6_decide 21 = .ok (.iastore, 1) := by decide +kernel
theorem dX6_decide_22 : decode cX6_decide 22 = .ok (.bipush 8, 2) := by decide +kernel
theorem dX6_decide_24 : decode cX6_decide 24 = .ok (.iload_n 2, 1) := by decide +kernel
theorem dX6_decide_25 : decode cX6_decide 25 = .ok (.ifCond .eq 7, 3) := by decide +kernel
theorem dX6_decide_28 : decode cX6_decide 28 = .ok (.iconst 3, 1) := by decide +kernel
theorem dX6_decide_29 : decode cX6_decide 29 = .ok (.goto 4, 3) := by decide +kernel
theorem dX6_decide_32 : decode cX6_decide 32 = .ok (.iconst 0, 1) := by decide +kernel
theorem dX6_decide_33 : decode cX6_decide 33 = .ok (.ior, 1) := by decide +kernel
theorem dX6_decide_34 : decode cX6_decide 34 = .ok (.istore 4, 2) := by decide +kernel
theorem dX6_decide_36 : decode cX6_decide 36 = .ok (.iload_n 1, 1) := by decide +kernel
theorem dX6_decide_37 : decode cX6_decide 37 = .ok (.iconst 1, 1) := by decide +kernel
theorem dX6_decide_38 : decode cX6_decide 38 = .ok (.if_icmp .ne 13, 3) := by decide +kernel
theorem dX6_decide_41 : decode cX6_decide 41 = .ok (.aload_n 0, 1) := by decide +kernel
theorem dX6_decide_42 : decode cX6_decide 42 = .ok (.iload 4, 2) := by decide +kernel
theorem dX6_decide_44 : decode cX6_decide 44 = .ok (.iload_n 3, 1) := by decide +kernel
theorem dX6_decide_45 : decode cX6_decide 45 = .ok (.invokevirtual 222, 3) := by decide +kernel
theorem dX6_decide_48 : decode cX6_decide 48 = .ok (.goto 23, 3) := by decide +kernel
theorem dX6_decide_51 : decode cX6_decide 51 = .ok (.aload_n 0, 1) := by decide +kernel
theorem dX6_decide_52 : decode cX6_decide 52 = .ok (.getfield 62, 3) := by decide +kernel
theorem dX6_decide_55 : decode cX6_decide 55 = .ok (.ifCond .le 16, 3) := by decide +kernel
theorem dX6_decide_58 : decode cX6_decide 58 = .ok (.aload_n 0, 1) := by decide +kernel
theorem dX6_decide_59 : decode cX6_decide 59 = .ok (.getfield 59, 3) := by decide +kernel
theorem dX6_decide_62 : decode cX6_decide 62 = .ok (.aload_n 0, 1) := by decide +kernel
theorem dX6_decide_63 : decode cX6_decide 63 = .ok (.getfield 62, 3) := by decide +kernel
theorem dX6_decide_66 : decode cX6_decide 66 = .ok (.iconst 1, 1) := by decide +kernel
theorem dX6_decide_67 : decode cX6_decide 67 = .ok (.isub, 1) := by decide +kernel
theorem dX6_decide_68 : decode cX6_decide 68 = .ok (.iload 4, 2) := by decide +kernel
theorem dX6_decide_70 : decode cX6_decide 70 = .ok (.iastore, 1) := by decide +kernel
theorem dX6_decide_71 : decode cX6_decide 71 = .ok (.return_, 1) := by decide +kernel
theorem dX6_turn_0 : decode cX6_turn 0 = .ok (.aload_n 0, 1) := by decide +kernel
theorem dX6_turn_1 : decode cX6_turn 1 = .ok (.getfield 37, 3) := by decide +kernel
theorem dX6_turn_4 : decode cX6_turn 4 = .ok (.getfield 103, 3) := by decide +kernel
theorem dX6_turn_7 : decode cX6_turn 7 = .ok (.iconst 2, 1) := by decide +kernel
theorem dX6_turn_8 : decode cX6_turn 8 = .ok (.if_icmp .le 12, 3) := by decide +kernel
theorem dX6_turn_11 : decode cX6_turn 11 = .ok (.aload_n 0, 1) := by decide +kernel
theorem dX6_turn_12 : decode cX6_turn 12 = .ok (.iconst 2, 1) := by decide +kernel
theorem dX6_turn_13 : decode cX6_turn 13 = .ok (.iconst 2, 1) := by decide +kernel
theorem dX6_turn_14 : decode cX6_turn 14 = .ok (.invokevirtual 331, 3) := by decide +kernel
theorem dX6_turn_17 : decode cX6_turn 17 = .ok (.goto 37, 3) := by decide +kernel
theorem dX6_turn_20 : decode cX6_turn 20 = .ok (.aload_n 0, 1) := by decide +kernel
theorem dX6_turn_21 : decode cX6_turn 21 = .ok (.getfield 62, 3) := by decide +kernel
theorem dX6_turn_24 : decode cX6_turn 24 = .ok (.ifCond .le 30, 3) := by decide +kernel
theorem dX6_turn_27 : decode cX6_turn 27 = .ok (.aload_n 0, 1) := by decide +kernel
theorem dX6_turn_28 : decode cX6_turn 28 = .ok (.getfield 59, 3) := by decide +kernel
theorem dX6_turn_31 : decode cX6_turn 31 = .ok (.aload_n 0, 1) := by decide +kernel
theorem dX6_turn_32 : decode cX6_turn 32 = .ok (.getfield 62, 3) := by decide +kernel
theorem dX6_turn_35 : decode cX6_turn 35 = .ok (.iconst 1, 1) := by decide +kernel
theorem dX6_turn_36 : decode cX6_turn 36 = .ok (.isub, 1) := by decide +kernel
theorem dX6_turn_37 : decode cX6_turn 37 = .ok (.bipush 14, 2) := by decide +kernel
theorem dX6_turn_39 : decode cX6_turn 39 = .ok (.aload_n 0, 1) := by decide +kernel
theorem dX6_turn_40 : decode cX6_turn 40 = .ok (.iconst 2, 1) := by decide +kernel
theorem dX6_turn_41 : decode cX6_turn 41 = .ok (.invokevirtual 188, 3) := by decide +kernel
theorem dX6_turn_44 : decode cX6_turn 44 = .ok (.ifCond .eq 7, 3) := by decide +kernel
theorem dX6_turn_47 : decode cX6_turn 47 = .ok (.iconst 0, 1) := by decide +kernel
theorem dX6_turn_48 : decode cX6_turn 48 = .ok (.goto 4, 3) := by decide +kernel
theorem dX6_turn_51 : decode cX6_turn 51 = .ok (.iconst 1, 1) := by decide +kernel
theorem dX6_turn_52 : decode cX6_turn 52 = .ok (.ior, 1) := by decide +kernel
theorem dX6_turn_53 : decode cX6_turn 53 = .ok (.iastore, 1) := by decide +kernel
theorem dX6_turn_54 : decode cX6_turn 54 = .ok (.return_, 1) := by decide +kernel
theorem dX6_close_0 : decode cX6_close 0 = .ok (.aload_n 0, 1) := by decide +kernel
theorem dX6_close_1 : decode cX6_close 1 = .ok (.getfield 37, 3) := by decide +kernel
theorem dX6_close_4 : decode cX6_close 4 = .ok (.getfield 103, 3) := by decide +kernel
theorem dX6_close_7 : decode cX6_close 7 = .ok (.iconst 2, 1) := by decide +kernel
theorem dX6_close_8 : decode cX6_close 8 = .ok (.if_icmp .le 12, 3) := by decide +kernel
theorem dX6_close_11 : decode cX6_close 11 = .ok (.aload_n 0, 1) := by decide +kernel
theorem dX6_close_12 : decode cX6_close 12 = .ok (.iconst 2, 1) := by decide +kernel
theorem dX6_close_13 : decode cX6_close 13 = .ok (.iconst 2, 1) := by decide +kernel
theorem dX6_close_14 : decode cX6_close 14 = .ok (.invokevirtual 331, 3) := by decide +kernel
theorem dX6_close_17 : decode cX6_close 17 = .ok (.goto 20, 3) := by decide +kernel
theorem dX6_close_20 : decode cX6_close 20 = .ok (.aload_n 0, 1) := by decide +kernel
theorem dX6_close_21 : decode cX6_close 21 = .ok (.getfield 62, 3) := by decide +kernel
theorem dX6_close_24 : decode cX6_close 24 = .ok (.ifCond .le 13, 3) := by decide +kernel
theorem dX6_close_27 : decode cX6_close 27 = .ok (.aload_n 0, 1) := by decide +kernel
theorem dX6_close_28 : decode cX6_close 28 = .ok (.dup, 1) := by decide +kernel
theorem dX6_close_29 : decode cX6_close 29 = .ok (.getfield 62, 3) := by decide +kernel
theorem dX6_close_32 : decode cX6_close 32 = .ok (.iconst 1, 1) := by decide +kernel
theorem dX6_close_33 : decode cX6_close 33 = .ok (.isub, 1) := by decide +kernel
theorem dX6_close_34 : decode cX6_close 34 = .ok (.putfield 62, 3) := by decide +kernel
theorem dX6_close_37 : decode cX6_close 37 = .ok (.return_, 1) := by decide +kernel
theorem dX6_include_0 : decode cX6_include 0 = .ok (.aload_n 0, 1) := by decide +kernel
theorem dX6_include_1 : decode cX6_include 1 = .ok (.getfield 37, 3) := by decide +kernel
theorem dX6_include_4 : decode cX6_include 4 = .ok (.getfield 103, 3) := by decide +kernel
theorem dX6_include_7 : decode cX6_include 7 = .ok (.iconst 3, 1) := by decide +kernel
theorem dX6_include_8 : decode cX6_include 8 = .ok (.if_icmp .lt 20, 3) := by decide +kernel
theorem dX6_include_11 : decode cX6_include 11 = .ok (.aload_n 0, 1) := by decide +kernel
theorem dX6_include_12 : decode cX6_include 12 = .ok (.getfield 37, 3) := by decide +kernel
theorem dX6_include_15 : decode cX6_include 15 = .ok (.getfield 265, 3) := by decide +kernel
theorem dX6_include_18 : decode cX6_include 18 = .ok (.iconst 2, 1) := by decide +kernel
theorem dX6_include_19 : decode cX6_include 19 = .ok (.iaload, 1) := by decide +kernel
theorem dX6_include_20 : decode cX6_include 20 = .ok (.bipush 127, 2) := by decide +kernel
theorem dX6_include_22 : decode cX6_include 22 = .ok (.iand, 1) := by decide +kernel
theorem dX6_include_23 : decode cX6_include 23 = .ok (.bipush 33, 2) := by decide +kernel
theorem dX6_include_25 : decode cX6_include 25 = .ok (.if_icmp .eq 11, 3) := by decide +kernel
theorem dX6_include_28 : decode cX6_include 28 = .ok (.aload_n 0, 1) := by decide +kernel
theorem dX6_include_29 : decode cX6_include 29 = .ok (.iconst 2, 1) := by decide +kernel
theorem dX6_include_30 : decode cX6_include 30 = .ok (.iconst 2, 1) := by decide +kernel
theorem dX6_include_31 : decode cX6_include 31 = .ok (.invokevirtual 331, 3) := by decide +kernel
theorem dX6_include_34 : decode cX6_include 34 = .ok (.iconst 0, 1) := by decide +kernel
theorem dX6_include_35 : decode cX6_include 35 = .ok (.ireturn, 1) := by decide +kernel
theorem dX6_include_36 : decode cX6_include 36 = .ok (.aload_n 0, 1) := by decide +kernel
theorem dX6_include_37 : decode cX6_include 37 = .ok (.getfield 71, 3) := by decide +kernel
theorem dX6_include_40 : decode cX6_include 40 = .ok (.aload_n 0, 1) := by decide +kernel
theorem dX6_include_41 : decode cX6_include 41 = .ok (.getfield 37, 3) := by decide +kernel
theorem dX6_include_44 : decode cX6_include 44 = .ok (.getfield 262, 3) := by decide +kernel
theorem dX6_include_47 : decode cX6_include 47 = .ok (.iconst 2, 1) := by decide +kernel
theorem dX6_include_48 : decode cX6_include 48 = .ok (.iaload, 1) := by decide +kernel
theorem dX6_include_49 : decode cX6_include 49 = .ok (.invokevirtual 235, 3) := by decide +kernel
theorem dX6_include_52 : decode cX6_include 52 = .ok (.bipush 48, 2) := by decide +kernel
theorem dX6_include_54 : decode cX6_include 54 = .ok (.isub, 1) := by decide +kernel
theorem dX6_include_55 : decode cX6_include 55 = .ok (.istore_n 1, 1) := by decide +kernel
theorem dX6_include_56 : decode cX6_include 56 = .ok (.iload_n 1, 1) := by decide +kernel
theorem dX6_include_57 : decode cX6_include 57 = .ok (.ifCond .lt 24, 3) := by decide +kernel
theorem dX6_include_60 : decode cX6_include 60 = .ok (.iload_n 1, 1) := by decide +kernel
theorem dX6_include_61 : decode cX6_include 61 = .ok (.iconst 4, 1) := by decide +kernel
theorem dX6_include_62 : decode cX6_include 62 = .ok (.if_icmp .ge 19, 3) := by decide +kernel
theorem dX6_include_65 : decode cX6_include 65 = .ok (.aload_n 0, 1) := by decide +kernel
theorem dX6_include_66 : decode cX6_include 66 = .ok (.getfield 121, 3) := by decide +kernel
theorem dX6_include_69 : decode cX6_include 69 = .ok (.iload_n 1, 1) := by decide +kernel
theorem dX6_include_70 : decode cX6_include 70 = .ok (.aaload, 1) := by decide +kernel
theorem dX6_include_71 : decode cX6_include 71 = .ok (.getfield 344, 3) := by decide +kernel
theorem dX6_include_74 : decode cX6_include 74 = .ok (.ifCond .eq 7, 3) := by decide +kernel
theorem dX6_include_77 : decode cX6_include 77 = .ok (.iconst 1, 1) := by decide +kernel
theorem dX6_include_78 : decode cX6_include 78 = .ok (.goto 4, 3) := by decide +kernel
theorem dX6_include_81 : decode cX6_include 81 = .ok (.iconst 0, 1) := by decide +kernel
theorem dX6_include_82 : decode cX6_include 82 = .ok (.istore_n 2, 1) := by decide +kernel
theorem dX6_include_83 : decode cX6_include 83 = .ok (.iload_n 2, 1) := by decide +kernel
theorem dX6_include_84 : decode cX6_include 84 = .ok (.ifCond .eq 54, 3) := by decide +kernel
theorem dX6_include_87 : decode cX6_include 87 = .ok (.aload_n 0, 1) := by decide +kernel
theorem dX6_include_88 : decode cX6_include 88 = .ok (.getfield 121, 3) := by decide +kernel
theorem dX6_include_91 : decode cX6_include 91 = .ok (.iload_n 1, 1) := by decide +kernel
theorem dX6_include_92 : decode cX6_include 92 = .ok (.aaload, 1) := by decide +kernel
theorem dX6_include_93 : decode cX6_include 93 = .ok (.getfield 348, 3) := by decide +kernel
theorem dX6_include_96 : decode cX6_include 96 = .ok (.ifCond .le 42, 3) := by decide +kernel
theorem dX6_include_99 : decode cX6_include 99 = .ok (.aload_n 0, 1) := by decide +kernel
theorem dX6_include_100 : decode cX6_include 100 = .ok (.getfield 80, 3) := by decide +kernel
theorem dX6_include_103 : decode cX6_include 103 = .ok (.iload_n 1, 1) := by decide +kernel
theorem dX6_include_104 : decode cX6_include 104 = .ok (.sipush 401, 3) := by decide +kernel
theorem dX6_include_107 : decode cX6_include 107 = .ok (.imul, 1) := by decide +kernel
theorem dX6_include_108 : decode cX6_include 108 = .ok (.aload_n 0, 1) := by decide +kernel
theorem dX6_include_109 : decode cX6_include 109 = .ok (.getfield 121, 3) := by decide +kernel
theorem dX6_include_112 : decode cX6_include 112 = .ok (.iload_n 1, 1) := by decide +kernel
theorem dX6_include_113 : decode cX6_include 113 = .ok (.aaload, 1) := by decide +kernel
theorem dX6_include_114 : decode cX6_include 114 = .ok (.getfield 351, 3) := by decide +kernel
theorem dX6_include_117 : decode cX6_include 117 = .ok (.iadd, 1) := by decide +kernel
theorem dX6_include_118 : decode cX6_include 118 = .ok (.aload_n 0, 1) := by decide +kernel
theorem dX6_include_119 : decode cX6_include 119 = .ok (.getfield 121, 3) := by decide +kernel
theorem dX6_include_122 : decode cX6_include 122 = .ok (.iload_n 1, 1) := by decide +kernel
theorem dX6_include_123 : decode cX6_include 123 = .ok (.aaload, 1) := by decide +kernel
theorem dX6_include_124 : decode cX6_include 124 = .ok (.getfield 348, 3) := by decide +kernel
theorem dX6_include_127 : decode cX6_include 127 = .ok (.invokevirtual 337, 3) := by decide +kernel
theorem dX6_include_130 : decode cX6_include 130 = .ok (.iconst (-1), 1) := by decide +kernel
theorem dX6_include_131 : decode cX6_include 131 = .ok (.if_icmp .eq 7, 3) := by decide +kernel
theorem dX6_include_134 : decode cX6_include 134 = .ok (.iconst 1, 1) := by decide +kernel
theorem dX6_include_135 : decode cX6_include 135 = .ok (.goto 4, 3) := by decide +kernel
theorem dX6_include_138 : decode cX6_include 138 = .ok (.iconst 0, 1) := by decide +kernel
theorem dX6_include_139 : decode cX6_include 139 = .ok (.istore_n 3, 1) := by decide +kernel
theorem dX6_include_140 : decode cX6_include 140 = .ok (.iload_n 2, 1) := by decide +kernel
theorem dX6_include_141 : decode cX6_include 141 = .ok (.ifCond .eq 27, 3) := by decide +kernel
theorem dX6_include_144 : decode cX6_include 144 = .ok (.iload_n 3, 1) := by decide +kernel
theorem dX6_include_145 : decode cX6_include 145 = .ok (.ifCond .ne 33, 3) := by decide +kernel
theorem dX6_include_148 : decode cX6_include 148 = .ok (.aload_n 0, 1) := by decide +kernel
theorem dX6_include_149 : decode cX6_include 149 = .ok (.getfield 52, 3) := by decide +kernel
theorem dX6_include_152 : decode cX6_include 152 = .ok (.bipush 6, 2) := by decide +kernel
theorem dX6_include_154 : decode cX6_include 154 = .ok (.if_icmp .ge 14, 3) := by decide +kernel
theorem dX6_include_157 : decode cX6_include 157 = .ok (.aload_n 0, 1) := by decide +kernel
theorem dX6_include_158 : decode cX6_include 158 = .ok (.getfield 27, 3) := by decide +kernel
theorem dX6_include_161 : decode cX6_include 161 = .ok (.iconst 3, 1) := by decide +kernel
theorem dX6_include_162 : decode cX6_include 162 = .ok (.iaload, 1) := by decide +kernel
theorem dX6_include_163 : decode cX6_include 163 = .ok (.bipush 12, 2) := by decide +kernel
theorem dX6_include_165 : decode cX6_include 165 = .ok (.if_icmp .lt 13, 3) := by decide +kernel
theorem dX6_include_168 : decode cX6_include 168 = .ok (.aload_n 0, 1) := by decide +kernel
theorem dX6_include_169 : decode cX6_include 169 = .ok (.bipush 11, 2) := by decide +kernel
theorem dX6_include_171 : decode cX6_include 171 = .ok (.iconst 2, 1) := by decide +kernel
theorem dX6_include_172 : decode cX6_include 172 = .ok (.invokevirtual 331, 3) := by decide +kernel
theorem dX6_include_175 : decode cX6_include 175 = .ok (.goto 47, 3) := by decide +kernel
theorem dX6_include_178 : decode cX6_include 178 = .ok (.aload_n 0, 1) := by decide +kernel
theorem dX6_include_179 : decode cX6_include 179 = .ok (.getfield 37, 3) := by decide +kernel
theorem dX6_include_182 : decode cX6_include 182 = .ok (.getfield 103, 3) := by decide +kernel
theorem dX6_include_185 : decode cX6_include 185 = .ok (.iconst 3, 1) := by decide +kernel
theorem dX6_include_186 : decode cX6_include 186 = .ok (.if_icmp .le 12, 3) := by decide +kernel
theorem dX6_include_189 : decode cX6_include 189 = .ok (.aload_n 0, 1) := by decide +kernel
theorem dX6_include_190 : decode cX6_include 190 = .ok (.iconst 2, 1) := by decide +kernel
theorem dX6_include_191 : decode cX6_include 191 = .ok (.iconst 3, 1) := by decide +kernel
theorem dX6_include_192 : decode cX6_include 192 = .ok (.invokevirtual 331, 3) := by decide +kernel
theorem dX6_include_195 : decode cX6_include 195 = .ok (.goto 27, 3) := by decide +kernel
theorem dX6_include_198 : decode cX6_include 198 = .ok (.iload_n 3, 1) := by decide +kernel
theorem dX6_include_199 : decode cX6_include 199 = .ok (.ifCond .eq 16, 3) := by decide +kernel
theorem dX6_include_202 : decode cX6_include 202 = .ok (.aload_n 0, 1) := by decide +kernel
theorem dX6_include_203 : decode cX6_include 203 = .ok (.getfield 27, 3) := by decide +kernel
theorem dX6_include_206 : decode cX6_include 206 = .ok (.iconst 4, 1) := by decide +kernel
theorem dX6_include_207 : decode cX6_include 207 = .ok (.dup2, 1) := by decide +kernel
theorem dX6_include_208 : decode cX6_include 208 = .ok (.iaload, 1) := by decide +kernel
theorem dX6_include_209 : decode cX6_include 209 = .ok (.iconst 1, 1) := by decide +kernel
theorem dX6_include_210 : decode cX6_include 210 = .ok (.iadd, 1) := by decide +kernel
theorem dX6_include_211 : decode cX6_include 211 = .ok (.iastore, 1) := by decide +kernel
theorem dX6_include_212 : decode cX6_include 212 = .ok (.goto 10, 3) := by decide +kernel
theorem dX6_include_215 : decode cX6_include 215 = .ok (.aload_n 0, 1) := by decide +kernel
theorem dX6_include_216 : decode cX6_include 216 = .ok (.iload_n 1, 1) := by decide +kernel
theorem dX6_include_217 : decode cX6_include 217 = .ok (.invokevirtual 354, 3) := by decide +kernel
theorem dX6_include_220 : decode cX6_include 220 = .ok (.iconst 4, 1) := by decide +kernel
theorem dX6_include_221 : decode cX6_include 221 = .ok (.ireturn, 1) := by decide +kernel
theorem dX6_include_222 : decode cX6_include 222 = .ok (.iconst 0, 1) := by decide +kernel
theorem dX6_include_223 : decode cX6_include 223 = .ok (.ireturn, 1) := by decide +kernel
theorem dX6_enterFile_0 : decode cX6_enterFile 0 = .ok (.aload_n 0, 1) := by decide +kernel
theorem dX6_enterFile_1 : decode cX6_enterFile 1 = .ok (.getfield 52, 3) := by decide +kernel
theorem dX6_enterFile_4 : decode cX6_enterFile 4 = .ok (.iconst 1, 1) := by decide +kernel
theorem dX6_enterFile_5 : decode cX6_enterFile 5 = .ok (.iadd, 1) := by decide +kernel
theorem dX6_enterFile_6 : decode cX6_enterFile 6 = .ok (.bipush 7, 2) := by decide +kernel
theorem dX6_enterFile_8 : decode cX6_enterFile 8 = .ok (.if_icmp .lt 4, 3) := by decide +kernel
theorem dX6_enterFile_11 : decode cX6_enterFile 11 = .ok (.return_, 1) := by decide +kernel
theorem dX6_enterFile_12 : decode cX6_enterFile 12 = .ok (.aload_n 0, 1) := by decide +kernel
theorem dX6_enterFile_13 : decode cX6_enterFile 13 = .ok (.dup, 1) := by decide +kernel
theorem dX6_enterFile_14 : decode cX6_enterFile 14 = .ok (.getfield 52, 3) := by decide +kernel
theorem dX6_enterFile_17 : decode cX6_enterFile 17 = .ok (.iconst 1, 1) := by decide +kernel
theorem dX6_enterFile_18 : decode cX6_enterFile 18 = .ok (.iadd, 1) := by decide +kernel
theorem dX6_enterFile_19 : decode cX6_enterFile 19 = .ok (.putfield 52, 3) := by decide +kernel
theorem dX6_enterFile_22 : decode cX6_enterFile 22 = .ok (.aload_n 0, 1) := by decide +kernel
theorem dX6_enterFile_23 : decode cX6_enterFile 23 = .ok (.getfield 43, 3) := by decide +kernel
theorem dX6_enterFile_26 : decode cX6_enterFile 26 = .ok (.aload_n 0, 1) := by decide +kernel
theorem dX6_enterFile_27 : decode cX6_enterFile 27 = .ok (.getfield 52, 3) := by decide +kernel
theorem dX6_enterFile_30 : decode cX6_enterFile 30 = .ok (.iload_n 1, 1) := by decide +kernel
theorem dX6_enterFile_31 : decode cX6_enterFile 31 = .ok (.iastore, 1) := by decide +kernel
theorem dX6_enterFile_32 : decode cX6_enterFile 32 = .ok (.aload_n 0, 1) := by decide +kernel
theorem dX6_enterFile_33 : decode cX6_enterFile 33 = .ok (.getfield 46, 3) := by decide +kernel
theorem dX6_enterFile_36 : decode cX6_enterFile 36 = .ok (.aload_n 0, 1) := by decide +kernel
theorem dX6_enterFile_37 : decode cX6_enterFile 37 = .ok (.getfield 52, 3) := by decide +kernel
theorem dX6_enterFile_40 : decode cX6_enterFile 40 = .ok (.iconst 0, 1) := by decide +kernel
theorem dX6_enterFile_41 : decode cX6_enterFile 41 = .ok (.iastore, 1) := by decide +kernel
theorem dX6_enterFile_42 : decode cX6_enterFile 42 = .ok (.aload_n 0, 1) := by decide +kernel
theorem dX6_enterFile_43 : decode cX6_enterFile 43 = .ok (.getfield 49, 3) := by decide +kernel
theorem dX6_enterFile_46 : decode cX6_enterFile 46 = .ok (.aload_n 0, 1) := by decide +kernel
theorem dX6_enterFile_47 : decode cX6_enterFile 47 = .ok (.getfield 52, 3) := by decide +kernel
theorem dX6_enterFile_50 : decode cX6_enterFile 50 = .ok (.aload_n 0, 1) := by decide +kernel
theorem dX6_enterFile_51 : decode cX6_enterFile 51 = .ok (.getfield 62, 3) := by decide +kernel
theorem dX6_enterFile_54 : decode cX6_enterFile 54 = .ok (.iastore, 1) := by decide +kernel
theorem dX6_enterFile_55 : decode cX6_enterFile 55 = .ok (.aload_n 0, 1) := by decide +kernel
theorem dX6_enterFile_56 : decode cX6_enterFile 56 = .ok (.getfield 27, 3) := by decide +kernel
theorem dX6_enterFile_59 : decode cX6_enterFile 59 = .ok (.iconst 3, 1) := by decide +kernel
theorem dX6_enterFile_60 : decode cX6_enterFile 60 = .ok (.dup2, 1) := by decide +kernel
theorem dX6_enterFile_61 : decode cX6_enterFile 61 = .ok (.iaload, 1) := by decide +kernel
theorem dX6_enterFile_62 : decode cX6_enterFile 62 = .ok (.iconst 1, 1) := by decide +kernel
theorem dX6_enterFile_63 : decode cX6_enterFile 63 = .ok (.iadd, 1) := by decide +kernel
theorem dX6_enterFile_64 : decode cX6_enterFile 64 = .ok (.iastore, 1) := by decide +kernel
theorem dX6_enterFile_65 : decode cX6_enterFile 65 = .ok (.aload_n 0, 1) := by decide +kernel
theorem dX6_enterFile_66 : decode cX6_enterFile 66 = .ok (.getfield 27, 3) := by decide +kernel
theorem dX6_enterFile_69 : decode cX6_enterFile 69 = .ok (.iconst 5, 1) := by decide +kernel
theorem dX6_enterFile_70 : decode cX6_enterFile 70 = .ok (.aload_n 0, 1) := by decide +kernel
theorem dX6_enterFile_71 : decode cX6_enterFile 71 = .ok (.getfield 27, 3) := by decide +kernel
theorem dX6_enterFile_74 : decode cX6_enterFile 74 = .ok (.iconst 5, 1) := by decide +kernel
theorem dX6_enterFile_75 : decode cX6_enterFile 75 = .ok (.iaload, 1) := by decide +kernel
theorem dX6_enterFile_76 : decode cX6_enterFile 76 = .ok (.aload_n 0, 1) := by decide +kernel
theorem dX6_enterFile_77 : decode cX6_enterFile 77 = .ok (.getfield 52, 3) := by decide +kernel
theorem dX6_enterFile_80 : decode cX6_enterFile 80 = .ok (.invokestatic 257, 3) := by decide +kernel
theorem dX6_enterFile_83 : decode cX6_enterFile 83 = .ok (.iastore, 1) := by decide +kernel
theorem dX6_enterFile_84 : decode cX6_enterFile 84 = .ok (.return_, 1) := by decide +kernel
theorem dX6_loadSum_0 : decode cX6_loadSum 0 = .ok (.aload_n 0, 1) := by decide +kernel
theorem dX6_loadSum_1 : decode cX6_loadSum 1 = .ok (.getfield 89, 3) := by decide +kernel
theorem dX6_loadSum_4 : decode cX6_loadSum 4 = .ok (.invokevirtual 284, 3) := by decide +kernel
theorem dX6_loadSum_7 : decode cX6_loadSum 7 = .ok (.iload_n 1, 1) := by decide +kernel
theorem dX6_loadSum_8 : decode cX6_loadSum 8 = .ok (.istore_n 2, 1) := by decide +kernel
theorem dX6_loadSum_9 : decode cX6_loadSum 9 = .ok (.iload_n 2, 1) := by decide +kernel
theorem dX6_loadSum_10 : decode cX6_loadSum 10 = .ok (.aload_n 0, 1) := by decide +kernel
theorem dX6_loadSum_11 : decode cX6_loadSum 11 = .ok (.getfield 37, 3) := by decide +kernel
theorem dX6_loadSum_14 : decode cX6_loadSum 14 = .ok (.getfield 103, 3) := by decide +kernel
theorem dX6_loadSum_17 : decode cX6_loadSum 17 = .ok (.if_icmp .ge 234, 3) := by decide +kernel
theorem dX6_loadSum_20 : decode cX6_loadSum 20 = .ok (.aload_n 0, 1) := by decide +kernel
theorem dX6_loadSum_21 : decode cX6_loadSum 21 = .ok (.getfield 12, 3) := by decide +kernel
theorem dX6_loadSum_24 : decode cX6_loadSum 24 = .ok (.getfield 155, 3) := by decide +kernel
theorem dX6_loadSum_27 : decode cX6_loadSum 27 = .ok (.ifCond .ne 224, 3) := by decide +kernel
theorem dX6_loadSum_30 : decode cX6_loadSum 30 = .ok (.aload_n 0, 1) := by decide +kernel
theorem dX6_loadSum_31 : decode cX6_loadSum 31 = .ok (.iload_n 2, 1) := by decide +kernel
theorem dX6_loadSum_32 : decode cX6_loadSum 32 = .ok (.ldc_w 357, 3) := by decide +kernel
theorem dX6_loadSum_35 : decode cX6_loadSum 35 = .ok (.invokevirtual 290, 3) := by decide +kernel
theorem dX6_loadSum_38 : decode cX6_loadSum 38 = .ok (.ifCond .ne 31, 3) := by decide +kernel
theorem dX6_loadSum_41 : decode cX6_loadSum 41 = .ok (.aload_n 0, 1) := by decide +kernel
theorem dX6_loadSum_42 : decode cX6_loadSum 42 = .ok (.getfield 89, 3) := by decide +kernel
theorem dX6_loadSum_45 : decode cX6_loadSum 45 = .ok (.aload_n 0, 1) := by decide +kernel
theorem dX6_loadSum_46 : decode cX6_loadSum 46 = .ok (.getfield 37, 3) := by decide +kernel
theorem dX6_loadSum_49 : decode cX6_loadSum 49 = .ok (.getfield 262, 3) := by decide +kernel
theorem dX6_loadSum_52 : decode cX6_loadSum 52 = .ok (.iload_n 2, 1) := by decide +kernel
theorem dX6_loadSum_53 : decode cX6_loadSum 53 = .ok (.iaload, 1) := by decide +kernel
theorem dX6_loadSum_54 : decode cX6_loadSum 54 = .ok (.aload_n 0, 1) := by decide +kernel
theorem dX6_loadSum_55 : decode cX6_loadSum 55 = .ok (.getfield 37, 3) := by decide +kernel
theorem dX6_loadSum_58 : decode cX6_loadSum 58 = .ok (.getfield 265, 3) := by decide +kernel
theorem dX6_loadSum_61 : decode cX6_loadSum 61 = .ok (.iload_n 2, 1) := by decide +kernel
theorem dX6_loadSum_62 : decode cX6_loadSum 62 = .ok (.iaload, 1) := by decide +kernel
theorem dX6_loadSum_63 : decode cX6_loadSum 63 = .ok (.invokevirtual 285, 3) := by decide +kernel
theorem dX6_loadSum_66 : decode cX6_loadSum 66 = .ok (.goto 179, 3) := by decide +kernel
theorem dX6_loadSum_69 : decode cX6_loadSum 69 = .ok (.aload_n 0, 1) := by decide +kernel
theorem dX6_loadSum_70 : decode cX6_loadSum 70 = .ok (.iload_n 2, 1) := by decide +kernel
theorem dX6_loadSum_71 : decode cX6_loadSum 71 = .ok (.iconst 1, 1) := by decide +kernel
theorem dX6_loadSum_72 : decode cX6_loadSum 72 = .ok (.iadd, 1) := by decide +kernel
theorem dX6_loadSum_73 : decode cX6_loadSum 73 = .ok (.bipush 40, 2) := by decide +kernel
theorem dX6_loadSum_75 : decode cX6_loadSum 75 = .ok (.invokevirtual 229, 3) := by decide +kernel
theorem dX6_loadSum_78 : decode cX6_loadSum 78 = .ok (.istore_n 3, 1) := by decide +kernel
theorem dX6_loadSum_79 : decode cX6_loadSum 79 = .ok (.iload_n 3, 1) := by decide +kernel
theorem dX6_loadSum_80 : decode cX6_loadSum 80 = .ok (.ifCond .eq 9, 3) := by decide +kernel
theorem dX6_loadSum_83 : decode cX6_loadSum 83 = .ok (.iload_n 2, 1) := by decide +kernel
theorem dX6_loadSum_84 : decode cX6_loadSum 84 = .ok (.iconst 2, 1) := by decide +kernel
theorem dX6_loadSum_85 : decode cX6_loadSum 85 = .ok (.iadd, 1) := by decide +kernel
theorem dX6_loadSum_86 : decode cX6_loadSum 86 = .ok (.goto 6, 3) := by decide +kernel
theorem dX6_loadSum_89 : decode cX6_loadSum 89 = .ok (.iload_n 2, 1) := by decide +kernel
theorem dX6_loadSum_90 : decode cX6_loadSum 90 = .ok (.iconst 1, 1) := by decide +kernel
theorem dX6_loadSum_91 : decode cX6_loadSum 91 = .ok (.iadd, 1) := by decide +kernel
theorem dX6_loadSum_92 : decode cX6_loadSum 92 = .ok (.istore 4, 2) := by decide +kernel
theorem dX6_loadSum_94 : decode cX6_loadSum 94 = .ok (.aload_n 0, 1) := by decide +kernel
theorem dX6_loadSum_95 : decode cX6_loadSum 95 = .ok (.iload 4, 2) := by decide +kernel
theorem dX6_loadSum_97 : decode cX6_loadSum 97 = .ok (.invokevirtual 274, 3) := by decide +kernel
theorem dX6_loadSum_100 : decode cX6_loadSum 100 = .ok (.ifCond .ne 14, 3) := by decide +kernel
theorem dX6_loadSum_103 : decode cX6_loadSum 103 = .ok (.aload_n 0, 1) := by decide +kernel
theorem dX6_loadSum_104 : decode cX6_loadSum 104 = .ok (.bipush 8, 2) := by decide +kernel
theorem dX6_loadSum_106 : decode cX6_loadSum 106 = .ok (.iload 4, 2) := by decide +kernel
theorem dX6_loadSum_108 : decode cX6_loadSum 108 = .ok (.invokevirtual 331, 3) := by decide +kernel
theorem dX6_loadSum_111 : decode cX6_loadSum 111 = .ok (.goto 134, 3) := by decide +kernel
theorem dX6_loadSum_114 : decode cX6_loadSum 114 = .ok (.iload_n 3, 1) := by decide +kernel
theorem dX6_loadSum_115 : decode cX6_loadSum 115 = .ok (.ifCond .eq 29, 3) := by decide +kernel
theorem dX6_loadSum_118 : decode cX6_loadSum 118 = .ok (.aload_n 0, 1) := by decide +kernel
theorem dX6_loadSum_119 : decode cX6_loadSum 119 = .ok (.iload 4, 2) := by decide +kernel
theorem dX6_loadSum_121 : decode cX6_loadSum 121 = .ok (.iconst 1, 1) := by decide +kernel
theorem dX6_loadSum_122 : decode cX6_loadSum 122 = .ok (.iadd, 1) := by decide +kernel
theorem dX6_loadSum_123 : decode cX6_loadSum 123 = .ok (.bipush 41, 2) := by decide +kernel
theorem dX6_loadSum_125 : decode cX6_loadSum 125 = .ok (.invokevirtual 229, 3) := by decide +kernel
theorem dX6_loadSum_128 : decode cX6_loadSum 128 = .ok (.ifCond .ne 16, 3) := by decide +kernel
theorem dX6_loadSum_131 : decode cX6_loadSum 131 = .ok (.aload_n 0, 1) := by decide +kernel
theorem dX6_loadSum_132 : decode cX6_loadSum 132 = .ok (.bipush 8, 2) := by decide +kernel
theorem dX6_loadSum_134 : decode cX6_loadSum 134 = .ok (.iload 4, 2) := by decide +kernel
theorem dX6_loadSum_136 : decode cX6_loadSum 136 = .ok (.iconst 1, 1) := by decide +kernel
theorem dX6_loadSum_137 : decode cX6_loadSum 137 = .ok (.iadd, 1) := by decide +kernel
theorem dX6_loadSum_138 : decode cX6_loadSum 138 = .ok (.invokevirtual 331, 3) := by decide +kernel
theorem dX6_loadSum_141 : decode cX6_loadSum 141 = .ok (.goto 104, 3) := by decide +kernel
theorem dX6_loadSum_144 : decode cX6_loadSum 144 = .ok (.aload_n 0, 1) := by decide +kernel
theorem dX6_loadSum_145 : decode cX6_loadSum 145 = .ok (.getfield 80, 3) := by decide +kernel
theorem dX6_loadSum_148 : decode cX6_loadSum 148 = .ok (.aload_n 0, 1) := by decide +kernel
theorem dX6_loadSum_149 : decode cX6_loadSum 149 = .ok (.getfield 37, 3) := by decide +kernel
theorem dX6_loadSum_152 : decode cX6_loadSum 152 = .ok (.getfield 262, 3) := by decide +kernel
theorem dX6_loadSum_155 : decode cX6_loadSum 155 = .ok (.iload 4, 2) := by decide +kernel
theorem dX6_loadSum_157 : decode cX6_loadSum 157 = .ok (.iaload, 1) := by decide +kernel
theorem dX6_loadSum_158 : decode cX6_loadSum 158 = .ok (.aload_n 0, 1) := by decide +kernel
theorem dX6_loadSum_159 : decode cX6_loadSum 159 = .ok (.getfield 37, 3) := by decide +kernel
theorem dX6_loadSum_162 : decode cX6_loadSum 162 = .ok (.getfield 265, 3) := by decide +kernel
theorem dX6_loadSum_165 : decode cX6_loadSum 165 = .ok (.iload 4, 2) := by decide +kernel
theorem dX6_loadSum_167 : decode cX6_loadSum 167 = .ok (.iaload, 1) := by decide +kernel
theorem dX6_loadSum_168 : decode cX6_loadSum 168 = .ok (.invokestatic 277, 3) := by decide +kernel
theorem dX6_loadSum_171 : decode cX6_loadSum 171 = .ok (.invokevirtual 337, 3) := by decide +kernel
theorem dX6_loadSum_174 : decode cX6_loadSum 174 = .ok (.iconst (-1), 1) := by decide +kernel
theorem dX6_loadSum_175 : decode cX6_loadSum 175 = .ok (.if_icmp .eq 7, 3) := by decide +kernel
theorem dX6_loadSum_178 : decode cX6_loadSum 178 = .ok (.iconst 1, 1) := by decide +kernel
theorem dX6_loadSum_179 : decode cX6_loadSum 179 = .ok (.goto 4, 3) := by decide +kernel
theorem dX6_loadSum_182 : decode cX6_loadSum 182 = .ok (.iconst 0, 1) := by decide +kernel
theorem dX6_loadSum_183 : decode cX6_loadSum 183 = .ok (.istore 5, 2) := by decide +kernel
theorem dX6_loadSum_185 : decode cX6_loadSum 185 = .ok (.iconst 1, 1) := by decide +kernel
theorem dX6_loadSum_186 : decode cX6_loadSum 186 = .ok (.iconst 1, 1) := by decide +kernel
theorem dX6_loadSum_187 : decode cX6_loadSum 187 = .ok (.invokestatic 250, 3) := by decide +kernel
theorem dX6_loadSum_190 : decode cX6_loadSum 190 = .ok (.aload_n 0, 1) := by decide +kernel
theorem dX6_loadSum_191 : decode cX6_loadSum 191 = .ok (.getfield 37, 3) := by decide +kernel
theorem dX6_loadSum_194 : decode cX6_loadSum 194 = .ok (.getfield 265, 3) := by decide +kernel
theorem dX6_loadSum_197 : decode cX6_loadSum 197 = .ok (.iload_n 2, 1) := by decide +kernel
theorem dX6_loadSum_198 : decode cX6_loadSum 198 = .ok (.iaload, 1) := by decide +kernel
theorem dX6_loadSum_199 : decode cX6_loadSum 199 = .ok (.invokestatic 359, 3) := by decide +kernel
theorem dX6_loadSum_202 : decode cX6_loadSum 202 = .ok (.istore 6, 2) := by decide +kernel
theorem dX6_loadSum_204 : decode cX6_loadSum 204 = .ok (.aload_n 0, 1) := by decide +kernel
theorem dX6_loadSum_205 : decode cX6_loadSum 205 = .ok (.getfield 89, 3) := by decide +kernel
theorem dX6_loadSum_208 : decode cX6_loadSum 208 = .ok (.sipush 1694, 3) := by decide +kernel
theorem dX6_loadSum_211 : decode cX6_loadSum 211 = .ok (.iload 5, 2) := by decide +kernel
theorem dX6_loadSum_213 : decode cX6_loadSum 213 = .ok (.iadd, 1) := by decide +kernel
theorem dX6_loadSum_214 : decode cX6_loadSum 214 = .ok (.iload 6, 2) := by decide +kernel
theorem dX6_loadSum_216 : decode cX6_loadSum 216 = .ok (.aload_n 0, 1) := by decide +kernel
theorem dX6_loadSum_217 : decode cX6_loadSum 217 = .ok (.getfield 37, 3) := by decide +kernel
theorem dX6_loadSum_220 : decode cX6_loadSum 220 = .ok (.getfield 265, 3) := by decide +kernel
theorem dX6_loadSum_223 : decode cX6_loadSum 223 = .ok (.iload_n 2, 1) := by decide +kernel
theorem dX6_loadSum_224 : decode cX6_loadSum 224 = .ok (.iaload, 1) := by decide +kernel
theorem dX6_loadSum_225 : decode cX6_loadSum 225 = .ok (.invokestatic 362, 3) := by decide +kernel
theorem dX6_loadSum_228 : decode cX6_loadSum 228 = .ok (.invokevirtual 285, 3) := by decide +kernel
theorem dX6_loadSum_231 : decode cX6_loadSum 231 = .ok (.iload_n 3, 1) := by decide +kernel
theorem dX6_loadSum_232 : decode cX6_loadSum 232 = .ok (.ifCond .eq 10, 3) := by decide +kernel
theorem dX6_loadSum_235 : decode cX6_loadSum 235 = .ok (.iload 4, 2) := by decide +kernel
theorem dX6_loadSum_237 : decode cX6_loadSum 237 = .ok (.iconst 1, 1) := by decide +kernel
theorem dX6_loadSum_238 : decode cX6_loadSum 238 = .ok (.iadd, 1) := by decide +kernel
theorem dX6_loadSum_239 : decode cX6_loadSum 239 = .ok (.goto 5, 3) := by decide +kernel
theorem dX6_loadSum_242 : decode cX6_loadSum 242 = .ok (.iload 4, 2) := by decide +kernel
theorem dX6_loadSum_244 : decode cX6_loadSum 244 = .ok (.istore_n 2, 1) := by decide +kernel
theorem dX6_loadSum_245 : decode cX6_loadSum 245 = .ok (.iinc 2 1, 3) := by decide +kernel
theorem dX6_loadSum_248 : decode cX6_loadSum 248 = .ok (.goto (-239), 3) := by decide +kernel
theorem dX6_loadSum_251 : decode cX6_loadSum 251 = .ok (.return_, 1) := by decide +kernel
theorem dX6_handOut_0 : decode cX6_handOut 0 = .ok (.iconst 0, 1) := by decide +kernel
theorem dX6_handOut_1 : decode cX6_handOut 1 = .ok (.istore_n 1, 1) := by decide +kernel
theorem dX6_handOut_2 : decode cX6_handOut 2 = .ok (.iload_n 1, 1) := by decide +kernel
theorem dX6_handOut_3 : decode cX6_handOut 3 = .ok (.aload_n 0, 1) := by decide +kernel
theorem dX6_handOut_4 : decode cX6_handOut 4 = .ok (.getfield 40, 3) := by decide +kernel
theorem dX6_handOut_7 : decode cX6_handOut 7 = .ok (.getfield 103, 3) := by decide +kernel
theorem dX6_handOut_10 : decode cX6_handOut 10 = .ok (.if_icmp .ge 76, 3) := by decide +kernel
theorem dX6_handOut_13 : decode cX6_handOut 13 = .ok (.aload_n 0, 1) := by decide +kernel
theorem dX6_handOut_14 : decode cX6_handOut 14 = .ok (.getfield 23, 3) := by decide +kernel
theorem dX6_handOut_17 : decode cX6_handOut 17 = .ok (.getfield 103, 3) := by decide +kernel
theorem dX6_handOut_20 : decode cX6_handOut 20 = .ok (.sipush 300, 3) := by decide +kernel
theorem dX6_handOut_23 : decode cX6_handOut 23 = .ok (.if_icmp .lt 22, 3) := by decide +kernel
theorem dX6_handOut_26 : decode cX6_handOut 26 = .ok (.aload_n 0, 1) := by decide +kernel
theorem dX6_handOut_27 : decode cX6_handOut 27 = .ok (.getfield 12, 3) := by decide +kernel
theorem dX6_handOut_30 : decode cX6_handOut 30 = .ok (.bipush 7, 2) := by decide +kernel
theorem dX6_handOut_32 : decode cX6_handOut 32 = .ok (.aload_n 0, 1) := by decide +kernel
theorem dX6_handOut_33 : decode cX6_handOut 33 = .ok (.getfield 40, 3) := by decide +kernel
theorem dX6_handOut_36 : decode cX6_handOut 36 = .ok (.getfield 265, 3) := by decide +kernel
theorem dX6_handOut_39 : decode cX6_handOut 39 = .ok (.iload_n 1, 1) := by decide +kernel
theorem dX6_handOut_40 : decode cX6_handOut 40 = .ok (.iaload, 1) := by decide +kernel
theorem dX6_handOut_41 : decode cX6_handOut 41 = .ok (.invokevirtual 180, 3) := by decide +kernel
theorem dX6_handOut_44 : decode cX6_handOut 44 = .ok (.return_, 1) := by decide +kernel
theorem dX6_handOut_45 : decode cX6_handOut 45 = .ok (.aload_n 0, 1) := by decide +kernel
theorem dX6_handOut_46 : decode cX6_handOut 46 = .ok (.getfield 23, 3) := by decide +kernel
theorem dX6_handOut_49 : decode cX6_handOut 49 = .ok (.aload_n 0, 1) := by decide +kernel
theorem dX6_handOut_50 : decode cX6_handOut 50 = .ok (.getfield 40, 3) := by decide +kernel
theorem dX6_handOut_53 : decode cX6_handOut 53 = .ok (.getfield 262, 3) := by decide +kernel
theorem dX6_handOut_56 : decode cX6_handOut 56 = .ok (.iload_n 1, 1) := by decide +kernel
theorem dX6_handOut_57 : decode cX6_handOut 57 = .ok (.iaload, 1) := by decide +kernel
theorem dX6_handOut_58 : decode cX6_handOut 58 = .ok (.aload_n 0, 1) := by decide +kernel
theorem dX6_handOut_59 : decode cX6_handOut 59 = .ok (.getfield 40, 3) := by decide +kernel
theorem dX6_handOut_62 : decode cX6_handOut 62 = .ok (.getfield 265, 3) := by decide +kernel
theorem dX6_handOut_65 : decode cX6_handOut 65 = .ok (.iload_n 1, 1) := by decide +kernel
theorem dX6_handOut_66 : decode cX6_handOut 66 = .ok (.iaload, 1) := by decide +kernel
theorem dX6_handOut_67 : decode cX6_handOut 67 = .ok (.aload_n 0, 1) := by decide +kernel
theorem dX6_handOut_68 : decode cX6_handOut 68 = .ok (.getfield 40, 3) := by decide +kernel
theorem dX6_handOut_71 : decode cX6_handOut 71 = .ok (.getfield 365, 3) := by decide +kernel
theorem dX6_handOut_74 : decode cX6_handOut 74 = .ok (.iload_n 1, 1) := by decide +kernel
theorem dX6_handOut_75 : decode cX6_handOut 75 = .ok (.iaload, 1) := by decide +kernel
theorem dX6_handOut_76 : decode cX6_handOut 76 = .ok (.invokevirtual 253, 3) := by decide +kernel
theorem dX6_handOut_79 : decode cX6_handOut 79 = .ok (.pop, 1) := by decide +kernel
theorem dX6_handOut_80 : decode cX6_handOut 80 = .ok (.iinc 1 1, 3) := by decide +kernel
theorem dX6_handOut_83 : decode cX6_handOut 83 = .ok (.goto (-81), 3) := by decide +kernel
theorem dX6_handOut_86 : decode cX6_handOut 86 = .ok (.aload_n 0, 1) := by decide +kernel
theorem dX6_handOut_87 : decode cX6_handOut 87 = .ok (.getfield 27, 3) := by decide +kernel
theorem dX6_handOut_90 : decode cX6_handOut 90 = .ok (.iconst 1, 1) := by decide +kernel
theorem dX6_handOut_91 : decode cX6_handOut 91 = .ok (.dup2, 1) := by decide +kernel
theorem dX6_handOut_92 : decode cX6_handOut 92 = .ok (.iaload, 1) := by decide +kernel
theorem dX6_handOut_93 : decode cX6_handOut 93 = .ok (.iconst 1, 1) := by decide +kernel
theorem dX6_handOut_94 : decode cX6_handOut 94 = .ok (.iadd, 1) := by decide +kernel
theorem dX6_handOut_95 : decode cX6_handOut 95 = .ok (.iastore, 1) := by decide +kernel
theorem dX6_handOut_96 : decode cX6_handOut 96 = .ok (.return_, 1) := by decide +kernel
theorem dX6_readTape_0 : decode cX6_readTape 0 = .ok (.aload_n 0, 1) := by decide +kernel
theorem dX6_readTape_1 : decode cX6_readTape 1 = .ok (.getfield 12, 3) := by decide +kernel
theorem dX6_readTape_4 : decode cX6_readTape 4 = .ok (.invokevirtual 100, 3) := by decide +kernel
theorem dX6_readTape_7 : decode cX6_readTape 7 = .ok (.aload_n 0, 1) := by decide +kernel
theorem dX6_readTape_8 : decode cX6_readTape 8 = .ok (.iconst (-1), 1) := by decide +kernel
theorem dX6_readTape_9 : decode cX6_readTape 9 = .ok (.iconst (-1), 1) := by decide +kernel
theorem dX6_readTape_10 : decode cX6_readTape 10 = .ok (.iload_n 2, 1) := by decide +kernel
theorem dX6_readTape_11 : decode cX6_readTape 11 = .ok (.invokestatic 165, 3) := by decide +kernel
theorem dX6_readTape_14 : decode cX6_readTape 14 = .ok (.putfield 65, 3) := by decide +kernel
theorem dX6_readTape_17 : decode cX6_readTape 17 = .ok (.iconst 0, 1) := by decide +kernel
theorem dX6_readTape_18 : decode cX6_readTape 18 = .ok (.istore 4, 2) := by decide +kernel
theorem dX6_readTape_20 : decode cX6_readTape 20 = .ok (.iload 4, 2) := by decide +kernel
theorem dX6_readTape_22 : decode cX6_readTape 22 = .ok (.iload_n 2, 1) := by decide +kernel
theorem dX6_readTape_23 : decode cX6_readTape 23 = .ok (.if_icmp .ge 60, 3) := by decide +kernel
theorem dX6_readTape_26 : decode cX6_readTape 26 = .ok (.aload_n 1, 1) := by decide +kernel
theorem dX6_readTape_27 : decode cX6_readTape 27 = .ok (.iload 4, 2) := by decide +kernel
theorem dX6_readTape_29 : decode cX6_readTape 29 = .ok (.baload, 1) := by decide +kernel
theorem dX6_readTape_30 : decode cX6_readTape 30 = .ok (.bipush 32, 2) := by decide +kernel
theorem dX6_readTape_32 : decode cX6_readTape 32 = .ok (.if_icmp .lt 12, 3) := by decide +kernel
theorem dX6_readTape_35 : decode cX6_readTape 35 = .ok (.aload_n 1, 1) := by decide +kernel
theorem dX6_readTape_36 : decode cX6_readTape 36 = .ok (.iload 4, 2) := by decide +kernel
theorem dX6_readTape_38 : decode cX6_readTape 38 = .ok (.baload, 1) := by decide +kernel
theorem dX6_readTape_39 : decode cX6_readTape 39 = .ok (.bipush 126, 2) := by decide +kernel
theorem dX6_readTape_41 : decode cX6_readTape 41 = .ok (.if_icmp .le 20, 3) := by decide +kernel
theorem dX6_readTape_44 : decode cX6_readTape 44 = .ok (.aload_n 0, 1) := by decide +kernel
theorem dX6_readTape_45 : decode cX6_readTape 45 = .ok (.getfield 12, 3) := by decide +kernel
theorem dX6_readTape_48 : decode cX6_readTape 48 = .ok (.iconst 1, 1) := by decide +kernel
theorem dX6_readTape_49 : decode cX6_readTape 49 = .ok (.iconst (-1), 1) := by decide +kernel
theorem dX6_readTape_50 : decode cX6_readTape 50 = .ok (.iconst (-1), 1) := by decide +kernel
theorem dX6_readTape_51 : decode cX6_readTape 51 = .ok (.iload 4, 2) := by decide +kernel
theorem dX6_readTape_53 : decode cX6_readTape 53 = .ok (.invokestatic 165, 3) := by decide +kernel
theorem dX6_readTape_56 : decode cX6_readTape 56 = .ok (.invokevirtual 180, 3) := by decide +kernel
theorem dX6_readTape_59 : decode cX6_readTape 59 = .ok (.iconst 0, 1) := by decide +kernel
theorem dX6_readTape_60 : decode cX6_readTape 60 = .ok (.ireturn, 1) := by decide +kernel
theorem dX6_readTape_61 : decode cX6_readTape 61 = .ok (.aload_n 0, 1) := by decide +kernel
theorem dX6_readTape_62 : decode cX6_readTape 62 = .ok (.getfield 71, 3) := by decide +kernel
theorem dX6_readTape_65 : decode cX6_readTape 65 = .ok (.getfield 127, 3) := by decide +kernel
theorem dX6_readTape_68 : decode cX6_readTape 68 = .ok (.iload_n 3, 1) := by decide +kernel
theorem dX6_readTape_69 : decode cX6_readTape 69 = .ok (.iload 4, 2) := by decide +kernel
theorem dX6_readTape_71 : decode cX6_readTape 71 = .ok (.iadd, 1) := by decide +kernel
theorem dX6_readTape_72 : decode cX6_readTape 72 = .ok (.aload_n 1, 1) := by decide +kernel
theorem dX6_readTape_73 : decode cX6_readTape 73 = .ok (.iload 4, 2) := by decide +kernel
theorem dX6_readTape_75 : decode cX6_readTape 75 = .ok (.baload, 1) := by decide +kernel
theorem dX6_readTape_76 : decode cX6_readTape 76 = .ok (.bastore, 1) := by decide +kernel
theorem dX6_readTape_77 : decode cX6_readTape 77 = .ok (.iinc 4 1, 3) := by decide +kernel
theorem dX6_readTape_80 : decode cX6_readTape 80 = .ok (.goto (-60), 3) := by decide +kernel
theorem dX6_readTape_83 : decode cX6_readTape 83 = .ok (.aload_n 0, 1) := by decide +kernel
theorem dX6_readTape_84 : decode cX6_readTape 84 = .ok (.getfield 89, 3) := by decide +kernel
theorem dX6_readTape_87 : decode cX6_readTape 87 = .ok (.aload_n 0, 1) := by decide +kernel
theorem dX6_readTape_88 : decode cX6_readTape 88 = .ok (.getfield 34, 3) := by decide +kernel
theorem dX6_readTape_91 : decode cX6_readTape 91 = .ok (.iconst 0, 1) := by decide +kernel
theorem dX6_readTape_92 : decode cX6_readTape 92 = .ok (.invokevirtual 151, 3) := by decide +kernel
theorem dX6_readTape_95 : decode cX6_readTape 95 = .ok (.aload_n 0, 1) := by decide +kernel
theorem dX6_readTape_96 : decode cX6_readTape 96 = .ok (.iload_n 3, 1) := by decide +kernel
theorem dX6_readTape_97 : decode cX6_readTape 97 = .ok (.iload_n 2, 1) := by decide +kernel
theorem dX6_readTape_98 : decode cX6_readTape 98 = .ok (.invokevirtual 225, 3) := by decide +kernel
theorem dX6_readTape_101 : decode cX6_readTape 101 = .ok (.ireturn, 1) := by decide +kernel
theorem dX6_spread_0 : decode cX6_spread 0 = .ok (.aload_n 0, 1) := by decide +kernel
theorem dX6_spread_1 : decode cX6_spread 1 = .ok (.getfield 23, 3) := by decide +kernel
theorem dX6_spread_4 : decode cX6_spread 4 = .ok (.iconst 0, 1) := by decide +kernel
theorem dX6_spread_5 : decode cX6_spread 5 = .ok (.putfield 103, 3) := by decide +kernel
theorem dX6_spread_8 : decode cX6_spread 8 = .ok (.aload_n 0, 1) := by decide +kernel
theorem dX6_spread_9 : decode cX6_spread 9 = .ok (.getfield 71, 3) := by decide +kernel
theorem dX6_spread_12 : decode cX6_spread 12 = .ok (.sipush 2576, 3) := by decide +kernel
theorem dX6_spread_15 : decode cX6_spread 15 = .ok (.putfield 106, 3) := by decide +kernel
theorem dX6_spread_18 : decode cX6_spread 18 = .ok (.aload_n 0, 1) := by decide +kernel
theorem dX6_spread_19 : decode cX6_spread 19 = .ok (.aload_n 1, 1) := by decide +kernel
theorem dX6_spread_20 : decode cX6_spread 20 = .ok (.iload_n 2, 1) := by decide +kernel
theorem dX6_spread_21 : decode cX6_spread 21 = .ok (.sipush 1696, 3) := by decide +kernel
theorem dX6_spread_24 : decode cX6_spread 24 = .ok (.invokevirtual 368, 3) := by decide +kernel
theorem dX6_spread_27 : decode cX6_spread 27 = .ok (.ifCond .eq 19, 3) := by decide +kernel
theorem dX6_spread_30 : decode cX6_spread 30 = .ok (.aload_n 0, 1) := by decide +kernel
theorem dX6_spread_31 : decode cX6_spread 31 = .ok (.iconst 0, 1) := by decide +kernel
theorem dX6_spread_32 : decode cX6_spread 32 = .ok (.invokevirtual 232, 3) := by decide +kernel
theorem dX6_spread_35 : decode cX6_spread 35 = .ok (.aload_n 0, 1) := by decide +kernel
theorem dX6_spread_36 : decode cX6_spread 36 = .ok (.getfield 89, 3) := by decide +kernel
theorem dX6_spread_39 : decode cX6_spread 39 = .ok (.aload_n 0, 1) := by decide +kernel
theorem dX6_spread_40 : decode cX6_spread 40 = .ok (.getfield 23, 3) := by decide +kernel
theorem dX6_spread_43 : decode cX6_spread 43 = .ok (.invokevirtual 201, 3) := by decide +kernel
theorem dX6_spread_46 : decode cX6_spread 46 = .ok (.aload_n 0, 1) := by decide +kernel
theorem dX6_spread_47 : decode cX6_spread 47 = .ok (.getfield 12, 3) := by decide +kernel
theorem dX6_spread_50 : decode cX6_spread 50 = .ok (.getfield 155, 3) := by decide +kernel
theorem dX6_spread_53 : decode cX6_spread 53 = .ok (.ifCond .eq 11, 3) := by decide +kernel
theorem dX6_spread_56 : decode cX6_spread 56 = .ok (.aload_n 0, 1) := by decide +kernel
theorem dX6_spread_57 : decode cX6_spread 57 = .ok (.getfield 23, 3) := by decide +kernel
theorem dX6_spread_60 : decode cX6_spread 60 = .ok (.iconst 0, 1) := by decide +kernel
theorem dX6_spread_61 : decode cX6_spread 61 = .ok (.putfield 103, 3) := by decide +kernel
theorem dX6_spread_64 : decode cX6_spread 64 = .ok (.aload_n 0, 1) := by decide +kernel
theorem dX6_spread_65 : decode cX6_spread 65 = .ok (.getfield 12, 3) := by decide +kernel
theorem dX6_spread_68 : decode cX6_spread 68 = .ok (.getfield 155, 3) := by decide +kernel
theorem dX6_spread_71 : decode cX6_spread 71 = .ok (.ifCond .ne 7, 3) := by decide +kernel
theorem dX6_spread_74 : decode cX6_spread 74 = .ok (.iconst 1, 1) := by decide +kernel
theorem dX6_spread_75 : decode cX6_spread 75 = .ok (.goto 4, 3) := by decide +kernel
theorem dX6_spread_78 : decode cX6_spread 78 = .ok (.iconst 0, 1) := by decide +kernel
theorem dX6_spread_79 : decode cX6_spread 79 = .ok (.ireturn, 1) := by decide +kernel
theorem dX6_worth_0 : decode cX6_worth 0 = .ok (.aload_n 0, 1) := by decide +kernel
theorem dX6_worth_1 : decode cX6_worth 1 = .ok (.getfield 71, 3) := by decide +kernel
theorem dX6_worth_4 : decode cX6_worth 4 = .ok (.getfield 106, 3) := by decide +kernel
theorem dX6_worth_7 : decode cX6_worth 7 = .ok (.istore_n 3, 1) := by decide +kernel
theorem dX6_worth_8 : decode cX6_worth 8 = .ok (.lconst 0, 1) := by decide +kernel
theorem dX6_worth_9 : decode cX6_worth 9 = .ok (.lstore 4, 2) := by decide +kernel
theorem dX6_worth_11 : decode cX6_worth 11 = .ok (.aload_n 0, 1) := by decide +kernel
theorem dX6_worth_12 : decode cX6_worth 12 = .ok (.aload_n 1, 1) := by decide +kernel
theorem dX6_worth_13 : decode cX6_worth 13 = .ok (.iload_n 2, 1) := by decide +kernel
theorem dX6_worth_14 : decode cX6_worth 14 = .ok (.sipush 2136, 3) := by decide +kernel
theorem dX6_worth_17 : decode cX6_worth 17 = .ok (.invokevirtual 368, 3) := by decide +kernel
theorem dX6_worth_20 : decode cX6_worth 20 = .ok (.ifCond .eq 27, 3) := by decide +kernel
theorem dX6_worth_23 : decode cX6_worth 23 = .ok (.aload_n 0, 1) := by decide +kernel
theorem dX6_worth_24 : decode cX6_worth 24 = .ok (.iconst 0, 1) := by decide +kernel
theorem dX6_worth_25 : decode cX6_worth 25 = .ok (.invokevirtual 310, 3) := by decide +kernel
theorem dX6_worth_28 : decode cX6_worth 28 = .ok (.aload_n 0, 1) := by decide +kernel
theorem dX6_worth_29 : decode cX6_worth 29 = .ok (.getfield 40, 3) := by decide +kernel
theorem dX6_worth_32 : decode cX6_worth 32 = .ok (.iconst 0, 1) := by decide +kernel
theorem dX6_worth_33 : decode cX6_worth 33 = .ok (.putfield 103, 3) := by decide +kernel
theorem dX6_worth_36 : decode cX6_worth 36 = .ok (.aload_n 0, 1) := by decide +kernel
theorem dX6_worth_37 : decode cX6_worth 37 = .ok (.getfield 89, 3) := by decide +kernel
theorem dX6_worth_40 : decode cX6_worth 40 = .ok (.aload_n 0, 1) := by decide +kernel
theorem dX6_worth_41 : decode cX6_worth 41 = .ok (.getfield 40, 3) := by decide +kernel
theorem dX6_worth_44 : decode cX6_worth 44 = .ok (.invokevirtual 201, 3) := by decide +kernel
theorem dX6_worth_47 : decode cX6_worth 47 = .ok (.aload_n 0, 1) := by decide +kernel
theorem dX6_worth_48 : decode cX6_worth 48 = .ok (.getfield 12, 3) := by decide +kernel
theorem dX6_worth_51 : decode cX6_worth 51 = .ok (.getfield 155, 3) := by decide +kernel
theorem dX6_worth_54 : decode cX6_worth 54 = .ok (.ifCond .ne 20, 3) := by decide +kernel
theorem dX6_worth_57 : decode cX6_worth 57 = .ok (.aload_n 0, 1) := by decide +kernel
theorem dX6_worth_58 : decode cX6_worth 58 = .ok (.getfield 96, 3) := by decide +kernel
theorem dX6_worth_61 : decode cX6_worth 61 = .ok (.aload_n 0, 1) := by decide +kernel
theorem dX6_worth_62 : decode cX6_worth 62 = .ok (.getfield 40, 3) := by decide +kernel
theorem dX6_worth_65 : decode cX6_worth 65 = .ok (.aload_n 0, 1) := by decide +kernel
theorem dX6_worth_66 : decode cX6_worth 66 = .ok (.getfield 65, 3) := by decide +kernel
theorem dX6_worth_69 : decode cX6_worth 69 = .ok (.invokevirtual 208, 3) := by decide +kernel
theorem dX6_worth_72 : decode cX6_worth 72 = .ok (.lstore 4, 2) := by decide +kernel
theorem dX6_worth_74 : decode cX6_worth 74 = .ok (.aload_n 0, 1) := by decide +kernel
theorem dX6_worth_75 : decode cX6_worth 75 = .ok (.getfield 71, 3) := by decide +kernel
theorem dX6_worth_78 : decode cX6_worth 78 = .ok (.iload_n 3, 1) := by decide +kernel
theorem dX6_worth_79 : decode cX6_worth 79 = .ok (.putfield 106, 3) := by decide +kernel
theorem dX6_worth_82 : decode cX6_worth 82 = .ok (.lload 4, 2) := by decide +kernel
theorem dX6_worth_84 : decode cX6_worth 84 = .ok (.lreturn, 1) := by decide +kernel
