theorem dX0_init_0 : decode cX0_init 0 = .ok (.aload_n 0, 1) := by decide +kernel
theorem dX0_init_1 : decode cX0_init 1 = .ok (.invokespecial 3, 3) := by decide +kernel
theorem dX0_init_4 : decode cX0_init 4 = .ok (.aload_n 0, 1) := by decide +kernel
theorem dX0_init_5 : decode cX0_init 5 = .ok (.new 9, 3) := by decide +kernel
theorem dX0_init_8 : decode cX0_init 8 = .ok (.dup, 1) := by decide +kernel
theorem dX0_init_9 : decode cX0_init 9 = .ok (.sipush 3440, 3) := by decide +kernel
theorem dX0_init_12 : decode cX0_init 12 = .ok (.invokespecial 11, 3) := by decide +kernel
theorem dX0_init_15 : decode cX0_init 15 = .ok (.putfield 14, 3) := by decide +kernel
theorem dX0_init_18 : decode cX0_init 18 = .ok (.aload_n 0, 1) := by decide +kernel
theorem dX0_init_19 : decode cX0_init 19 = .ok (.sipush 3440, 3) := by decide +kernel
theorem dX0_init_22 : decode cX0_init 22 = .ok (.newarray .int, 2) := by decide +kernel
theorem dX0_init_24 : decode cX0_init 24 = .ok (.putfield 20, 3) := by decide +kernel
theorem dX0_init_27 : decode cX0_init 27 = .ok (.aload_n 0, 1) := by decide +kernel
theorem dX0_init_28 : decode cX0_init 28 = .ok (.bipush 101, 2) := by decide +kernel
theorem dX0_init_30 : decode cX0_init 30 = .ok (.anewarray 24, 3) := by decide +kernel
theorem dX0_init_33 : decode cX0_init 33 = .ok (.putfield 26, 3) := by decide +kernel
theorem dX0_init_36 : decode cX0_init 36 = .ok (.aload_n 0, 1) := by decide +kernel
theorem dX0_init_37 : decode cX0_init 37 = .ok (.iconst 0, 1) := by decide +kernel
theorem dX0_init_38 : decode cX0_init 38 = .ok (.putfield 30, 3) := by decide +kernel
theorem dX0_init_41 : decode cX0_init 41 = .ok (.aload_n 0, 1) := by decide +kernel
theorem dX0_init_42 : decode cX0_init 42 = .ok (.iconst 0, 1) := by decide +kernel
theorem dX0_init_43 : decode cX0_init 43 = .ok (.putfield 34, 3) := by decide +kernel
theorem dX0_init_46 : decode cX0_init 46 = .ok (.aload_n 0, 1) := by decide +kernel
theorem dX0_init_47 : decode cX0_init 47 = .ok (.aload_n 1, 1) := by decide +kernel
theorem dX0_init_48 : decode cX0_init 48 = .ok (.putfield 38, 3) := by decide +kernel
theorem dX0_init_51 : decode cX0_init 51 = .ok (.aload_n 0, 1) := by decide +kernel
theorem dX0_init_52 : decode cX0_init 52 = .ok (.aload_n 2, 1) := by decide +kernel
theorem dX0_init_53 : decode cX0_init 53 = .ok (.putfield 42, 3) := by decide +kernel
theorem dX0_init_56 : decode cX0_init 56 = .ok (.aload_n 0, 1) := by decide +kernel
theorem dX0_init_57 : decode cX0_init 57 = .ok (.aload_n 3, 1) := by decide +kernel
theorem dX0_init_58 : decode cX0_init 58 = .ok (.putfield 46, 3) := by decide +kernel
theorem dX0_init_61 : decode cX0_init 61 = .ok (.aload_n 0, 1) := by decide +kernel
theorem dX0_init_62 : decode cX0_init 62 = .ok (.aload 4, 2) := by decide +kernel
theorem dX0_init_64 : decode cX0_init 64 = .ok (.putfield 50, 3) := by decide +kernel
theorem dX0_init_67 : decode cX0_init 67 = .ok (.iconst 0, 1) := by decide +kernel
theorem dX0_init_68 : decode cX0_init 68 = .ok (.istore 5, 2) := by decide +kernel
theorem dX0_init_70 : decode cX0_init 70 = .ok (.iload 5, 2) := by decide +kernel
theorem dX0_init_72 : decode cX0_init 72 = .ok (.aload_n 0, 1) := by decide +kernel
theorem dX0_init_73 : decode cX0_init 73 = .ok (.getfield 26, 3) := by decide +kernel
theorem dX0_init_76 : decode cX0_init 76 = .ok (.arraylength, 1) := by decide +kernel
theorem dX0_init_77 : decode cX0_init 77 = .ok (.if_icmp .ge 23, 3) := by decide +kernel
theorem dX0_init_80 : decode cX0_init 80 = .ok (.aload_n 0, 1) := by decide +kernel
theorem dX0_init_81 : decode cX0_init 81 = .ok (.getfield 26, 3) := by decide +kernel
theorem dX0_init_84 : decode cX0_init 84 = .ok (.iload 5, 2) := by decide +kernel
theorem dX0_init_86 : decode cX0_init 86 = .ok (.new 24, 3) := by decide +kernel
theorem dX0_init_89 : decode cX0_init 89 = .ok (.dup, 1) := by decide +kernel
theorem dX0_init_90 : decode cX0_init 90 = .ok (.invokespecial 53, 3) := by decide +kernel
theorem dX0_init_93 : decode cX0_init 93 = .ok (.aastore, 1) := by decide +kernel
theorem dX0_init_94 : decode cX0_init 94 = .ok (.iinc 5 1, 3) := by decide +kernel
theorem dX0_init_97 : decode cX0_init 97 = .ok (.goto (-27), 3) := by decide +kernel
theorem dX0_init_100 : decode cX0_init 100 = .ok (.return_, 1) := by decide +kernel
theorem dX0_tallyInto_0 : decode cX0_tallyInto 0 = .ok (.aload_n 0, 1) := by decide +kernel
theorem dX0_tallyInto_1 : decode cX0_tallyInto 1 = .ok (.aload_n 1, 1) := by decide +kernel
theorem dX0_tallyInto_2 : decode cX0_tallyInto 2 = .ok (.putfield 50, 3) := by decide +kernel
theorem dX0_tallyInto_5 : decode cX0_tallyInto 5 = .ok (.aload_n 0, 1) := by decide +kernel
theorem dX0_tallyInto_6 : decode cX0_tallyInto 6 = .ok (.iload_n 2, 1) := by decide +kernel
theorem dX0_tallyInto_7 : decode cX0_tallyInto 7 = .ok (.putfield 34, 3) := by decide +kernel
theorem dX0_tallyInto_10 : decode cX0_tallyInto 10 = .ok (.iload_n 2, 1) := by decide +kernel
theorem dX0_tallyInto_11 : decode cX0_tallyInto 11 = .ok (.ifCond .ne 8, 3) := by decide +kernel
theorem dX0_tallyInto_14 : decode cX0_tallyInto 14 = .ok (.aload_n 1, 1) := by decide +kernel
theorem dX0_tallyInto_15 : decode cX0_tallyInto 15 = .ok (.iconst 0, 1) := by decide +kernel
theorem dX0_tallyInto_16 : decode cX0_tallyInto 16 = .ok (.invokestatic 54, 3) := by decide +kernel
theorem dX0_tallyInto_19 : decode cX0_tallyInto 19 = .ok (.return_, 1) := by decide +kernel
theorem dX0_clear_0 : decode cX0_clear 0 = .ok (.aload_n 0, 1) := by decide +kernel
theorem dX0_clear_1 : decode cX0_clear 1 = .ok (.getfield 14, 3) := by decide +kernel
theorem dX0_clear_4 : decode cX0_clear 4 = .ok (.iconst 0, 1) := by decide +kernel
theorem dX0_clear_5 : decode cX0_clear 5 = .ok (.putfield 60, 3) := by decide +kernel
theorem dX0_clear_8 : decode cX0_clear 8 = .ok (.return_, 1) := by decide +kernel
theorem dX0_load_0 : decode cX0_load 0 = .ok (.aload_n 0, 1) := by decide +kernel
theorem dX0_load_1 : decode cX0_load 1 = .ok (.getfield 14, 3) := by decide +kernel
theorem dX0_load_4 : decode cX0_load 4 = .ok (.getfield 60, 3) := by decide +kernel
theorem dX0_load_7 : decode cX0_load 7 = .ok (.istore_n 3, 1) := by decide +kernel
theorem dX0_load_8 : decode cX0_load 8 = .ok (.aload_n 0, 1) := by decide +kernel
theorem dX0_load_9 : decode cX0_load 9 = .ok (.getfield 14, 3) := by decide +kernel
theorem dX0_load_12 : decode cX0_load 12 = .ok (.iload_n 1, 1) := by decide +kernel
theorem dX0_load_13 : decode cX0_load 13 = .ok (.iload_n 2, 1) := by decide +kernel
theorem dX0_load_14 : decode cX0_load 14 = .ok (.iconst 0, 1) := by decide +kernel
theorem dX0_load_15 : decode cX0_load 15 = .ok (.invokevirtual 63, 3) := by decide +kernel
theorem dX0_load_18 : decode cX0_load 18 = .ok (.ifCond .eq 23, 3) := by decide +kernel
theorem dX0_load_21 : decode cX0_load 21 = .ok (.aload_n 0, 1) := by decide +kernel
theorem dX0_load_22 : decode cX0_load 22 = .ok (.getfield 20, 3) := by decide +kernel
theorem dX0_load_25 : decode cX0_load 25 = .ok (.iload_n 3, 1) := by decide +kernel
theorem dX0_load_26 : decode cX0_load 26 = .ok (.iconst (-1), 1) := by decide +kernel
theorem dX0_load_27 : decode cX0_load 27 = .ok (.iastore, 1) := by decide +kernel
theorem dX0_load_28 : decode cX0_load 28 = .ok (.iload_n 3, 1) := by decide +kernel
theorem dX0_load_29 : decode cX0_load 29 = .ok (.ifCond .le 12, 3) := by decide +kernel
theorem dX0_load_32 : decode cX0_load 32 = .ok (.aload_n 0, 1) := by decide +kernel
theorem dX0_load_33 : decode cX0_load 33 = .ok (.getfield 20, 3) := by decide +kernel
theorem dX0_load_36 : decode cX0_load 36 = .ok (.iload_n 3, 1) := by decide +kernel
theorem dX0_load_37 : decode cX0_load 37 = .ok (.iconst 1, 1) := by decide +kernel
theorem dX0_load_38 : decode cX0_load 38 = .ok (.isub, 1) := by decide +kernel
theorem dX0_load_39 : decode cX0_load 39 = .ok (.iload_n 3, 1) := by decide +kernel
theorem dX0_load_40 : decode cX0_load 40 = .ok (.iastore, 1) := by decide +kernel
theorem dX0_load_41 : decode cX0_load 41 = .ok (.return_, 1) := by decide +kernel
theorem dX0_go_0 : decode cX0_go 0 = .ok (.aload_n 0, 1) := by decide +kernel
theorem dX0_go_1 : decode cX0_go 1 = .ok (.iconst 0, 1) := by decide +kernel
theorem dX0_go_2 : decode cX0_go 2 = .ok (.putfield 30, 3) := by decide +kernel
theorem dX0_go_5 : decode cX0_go 5 = .ok (.aload_n 0, 1) := by decide +kernel
theorem dX0_go_6 : decode cX0_go 6 = .ok (.getfield 26, 3) := by decide +kernel
theorem dX0_go_9 : decode cX0_go 9 = .ok (.iconst 0, 1) := by decide +kernel
theorem dX0_go_10 : decode cX0_go 10 = .ok (.aaload, 1) := by decide +kernel
theorem dX0_go_11 : decode cX0_go 11 = .ok (.aload_n 0, 1) := by decide +kernel
theorem dX0_go_12 : decode cX0_go 12 = .ok (.getfield 14, 3) := by decide +kernel
theorem dX0_go_15 : decode cX0_go 15 = .ok (.getfield 60, 3) := by decide +kernel
theorem dX0_go_18 : decode cX0_go 18 = .ok (.ifCond .le 7, 3) := by decide +kernel
theorem dX0_go_21 : decode cX0_go 21 = .ok (.iconst 0, 1) := by decide +kernel
theorem dX0_go_22 : decode cX0_go 22 = .ok (.goto 4, 3) := by decide +kernel
theorem dX0_go_25 : decode cX0_go 25 = .ok (.iconst (-1), 1) := by decide +kernel
theorem dX0_go_26 : decode cX0_go 26 = .ok (.iconst (-1), 1) := by decide +kernel
theorem dX0_go_27 : decode cX0_go 27 = .ok (.invokevirtual 67, 3) := by decide +kernel
theorem dX0_go_30 : decode cX0_go 30 = .ok (.iconst 0, 1) := by decide +kernel
theorem dX0_go_31 : decode cX0_go 31 = .ok (.istore_n 2, 1) := by decide +kernel
theorem dX0_go_32 : decode cX0_go 32 = .ok (.iload_n 2, 1) := by decide +kernel
theorem dX0_go_33 : decode cX0_go 33 = .ok (.ldc 71, 2) := by decide +kernel
theorem dX0_go_35 : decode cX0_go 35 = .ok (.if_icmp .ge 279, 3) := by decide +kernel
theorem dX0_go_38 : decode cX0_go 38 = .ok (.aload_n 0, 1) := by decide +kernel
theorem dX0_go_39 : decode cX0_go 39 = .ok (.getfield 30, 3) := by decide +kernel
theorem dX0_go_42 : decode cX0_go 42 = .ok (.ifCond .lt 272, 3) := by decide +kernel
theorem dX0_go_45 : decode cX0_go 45 = .ok (.aload_n 0, 1) := by decide +kernel
theorem dX0_go_46 : decode cX0_go 46 = .ok (.getfield 46, 3) := by decide +kernel
theorem dX0_go_49 : decode cX0_go 49 = .ok (.getfield 72, 3) := by decide +kernel
theorem dX0_go_52 : decode cX0_go 52 = .ok (.ifCond .ne 262, 3) := by decide +kernel
theorem dX0_go_55 : decode cX0_go 55 = .ok (.aload_n 0, 1) := by decide +kernel
theorem dX0_go_56 : decode cX0_go 56 = .ok (.getfield 26, 3) := by decide +kernel
theorem dX0_go_59 : decode cX0_go 59 = .ok (.aload_n 0, 1) := by decide +kernel
theorem dX0_go_60 : decode cX0_go 60 = .ok (.getfield 30, 3) := by decide +kernel
theorem dX0_go_63 : decode cX0_go 63 = .ok (.aaload, 1) := by decide +kernel
theorem dX0_go_64 : decode cX0_go 64 = .ok (.astore_n 3, 1) := by decide +kernel
theorem dX0_go_65 : decode cX0_go 65 = .ok (.aload_n 3, 1) := by decide +kernel
theorem dX0_go_66 : decode cX0_go 66 = .ok (.getfield 77, 3) := by decide +kernel
theorem dX0_go_69 : decode cX0_go 69 = .ok (.istore 4, 2) := by decide +kernel
theorem dX0_go_71 : decode cX0_go 71 = .ok (.aload_n 3, 1) := by decide +kernel
theorem dX0_go_72 : decode cX0_go 72 = .ok (.getfield 80, 3) := by decide +kernel
theorem dX0_go_75 : decode cX0_go 75 = .ok (.iconst (-1), 1) := by decide +kernel
theorem dX0_go_76 : decode cX0_go 76 = .ok (.if_icmp .eq 11, 3) := by decide +kernel
theorem dX0_go_79 : decode cX0_go 79 = .ok (.aload_n 0, 1) := by decide +kernel
theorem dX0_go_80 : decode cX0_go 80 = .ok (.aload_n 3, 1) := by decide +kernel
theorem dX0_go_81 : decode cX0_go 81 = .ok (.invokevirtual 83, 3) := by decide +kernel
theorem dX0_go_84 : decode cX0_go 84 = .ok (.goto 224, 3) := by decide +kernel
theorem dX0_go_87 : decode cX0_go 87 = .ok (.iload 4, 2) := by decide +kernel
theorem dX0_go_89 : decode cX0_go 89 = .ok (.aload_n 3, 1) := by decide +kernel
theorem dX0_go_90 : decode cX0_go 90 = .ok (.getfield 87, 3) := by decide +kernel
theorem dX0_go_93 : decode cX0_go 93 = .ok (.if_icmp .eq 20, 3) := by decide +kernel
theorem dX0_go_96 : decode cX0_go 96 = .ok (.iload 4, 2) := by decide +kernel
theorem dX0_go_98 : decode cX0_go 98 = .ok (.ifCond .lt 15, 3) := by decide +kernel
theorem dX0_go_101 : decode cX0_go 101 = .ok (.iload 4, 2) := by decide +kernel
theorem dX0_go_103 : decode cX0_go 103 = .ok (.aload_n 0, 1) := by decide +kernel
theorem dX0_go_104 : decode cX0_go 104 = .ok (.getfield 14, 3) := by decide +kernel
theorem dX0_go_107 : decode cX0_go 107 = .ok (.getfield 60, 3) := by decide +kernel
theorem dX0_go_110 : decode cX0_go 110 = .ok (.if_icmp .lt 16, 3) := by decide +kernel
theorem dX0_go_113 : decode cX0_go 113 = .ok (.aload_n 0, 1) := by decide +kernel
theorem dX0_go_114 : decode cX0_go 114 = .ok (.dup, 1) := by decide +kernel
theorem dX0_go_115 : decode cX0_go 115 = .ok (.getfield 30, 3) := by decide +kernel
theorem dX0_go_118 : decode cX0_go 118 = .ok (.iconst 1, 1) := by decide +kernel
theorem dX0_go_119 : decode cX0_go 119 = .ok (.isub, 1) := by decide +kernel
theorem dX0_go_120 : decode cX0_go 120 = .ok (.putfield 30, 3) := by decide +kernel
theorem dX0_go_123 : decode cX0_go 123 = .ok (.goto 185, 3) := by decide +kernel
theorem dX0_go_126 : decode cX0_go 126 = .ok (.aload_n 3, 1) := by decide +kernel
theorem dX0_go_127 : decode cX0_go 127 = .ok (.getfield 90, 3) := by decide +kernel
theorem dX0_go_130 : decode cX0_go 130 = .ok (.ifCond .ne 13, 3) := by decide +kernel
theorem dX0_go_133 : decode cX0_go 133 = .ok (.aload_n 0, 1) := by decide +kernel
theorem dX0_go_134 : decode cX0_go 134 = .ok (.aload_n 3, 1) := by decide +kernel
theorem dX0_go_135 : decode cX0_go 135 = .ok (.iload 4, 2) := by decide +kernel
theorem dX0_go_137 : decode cX0_go 137 = .ok (.invokevirtual 93, 3) := by decide +kernel
theorem dX0_go_140 : decode cX0_go 140 = .ok (.ifCond .ne 168, 3) := by decide +kernel
theorem dX0_go_143 : decode cX0_go 143 = .ok (.aload_n 3, 1) := by decide +kernel
theorem dX0_go_144 : decode cX0_go 144 = .ok (.aload_n 0, 1) := by decide +kernel
theorem dX0_go_145 : decode cX0_go 145 = .ok (.getfield 20, 3) := by decide +kernel
theorem dX0_go_148 : decode cX0_go 148 = .ok (.iload 4, 2) := by decide +kernel
theorem dX0_go_150 : decode cX0_go 150 = .ok (.iaload, 1) := by decide +kernel
theorem dX0_go_151 : decode cX0_go 151 = .ok (.putfield 77, 3) := by decide +kernel
theorem dX0_go_154 : decode cX0_go 154 = .ok (.aload_n 0, 1) := by decide +kernel
theorem dX0_go_155 : decode cX0_go 155 = .ok (.getfield 30, 3) := by decide +kernel
theorem dX0_go_158 : decode cX0_go 158 = .ok (.ifCond .ne 41, 3) := by decide +kernel
theorem dX0_go_161 : decode cX0_go 161 = .ok (.aload_n 1, 1) := by decide +kernel
theorem dX0_go_162 : decode cX0_go 162 = .ok (.aload_n 0, 1) := by decide +kernel
theorem dX0_go_163 : decode cX0_go 163 = .ok (.getfield 14, 3) := by decide +kernel
theorem dX0_go_166 : decode cX0_go 166 = .ok (.getfield 97, 3) := by decide +kernel
theorem dX0_go_169 : decode cX0_go 169 = .ok (.iload 4, 2) := by decide +kernel
theorem dX0_go_171 : decode cX0_go 171 = .ok (.iaload, 1) := by decide +kernel
theorem dX0_go_172 : decode cX0_go 172 = .ok (.aload_n 0, 1) := by decide +kernel
theorem dX0_go_173 : decode cX0_go 173 = .ok (.getfield 14, 3) := by decide +kernel
theorem dX0_go_176 : decode cX0_go 176 = .ok (.getfield 100, 3) := by decide +kernel
theorem dX0_go_179 : decode cX0_go 179 = .ok (.iload 4, 2) := by decide +kernel
theorem dX0_go_181 : decode cX0_go 181 = .ok (.iaload, 1) := by decide +kernel
theorem dX0_go_182 : decode cX0_go 182 = .ok (.aload_n 0, 1) := by decide +kernel
theorem dX0_go_183 : decode cX0_go 183 = .ok (.getfield 14, 3) := by decide +kernel
theorem dX0_go_186 : decode cX0_go 186 = .ok (.getfield 103, 3) := by decide +kernel
theorem dX0_go_189 : decode cX0_go 189 = .ok (.iload 4, 2) := by decide +kernel
theorem dX0_go_191 : decode cX0_go 191 = .ok (.iaload, 1) := by decide +kernel
theorem dX0_go_192 : decode cX0_go 192 = .ok (.invokevirtual 63, 3) := by decide +kernel
theorem dX0_go_195 : decode cX0_go 195 = .ok (.pop, 1) := by decide +kernel
theorem dX0_go_196 : decode cX0_go 196 = .ok (.goto 112, 3) := by decide +kernel
theorem dX0_go_199 : decode cX0_go 199 = .ok (.aload_n 0, 1) := by decide +kernel
theorem dX0_go_200 : decode cX0_go 200 = .ok (.getfield 26, 3) := by decide +kernel
theorem dX0_go_203 : decode cX0_go 203 = .ok (.aload_n 0, 1) := by decide +kernel
theorem dX0_go_204 : decode cX0_go 204 = .ok (.getfield 30, 3) := by decide +kernel
theorem dX0_go_207 : decode cX0_go 207 = .ok (.iconst 1, 1) := by decide +kernel
theorem dX0_go_208 : decode cX0_go 208 = .ok (.isub, 1) := by decide +kernel
theorem dX0_go_209 : decode cX0_go 209 = .ok (.aaload, 1) := by decide +kernel
theorem dX0_go_210 : decode cX0_go 210 = .ok (.getfield 106, 3) := by decide +kernel
theorem dX0_go_213 : decode cX0_go 213 = .ok (.ifCond .eq 51, 3) := by decide +kernel
theorem dX0_go_216 : decode cX0_go 216 = .ok (.aload_n 0, 1) := by decide +kernel
theorem dX0_go_217 : decode cX0_go 217 = .ok (.aload_n 0, 1) := by decide +kernel
theorem dX0_go_218 : decode cX0_go 218 = .ok (.getfield 26, 3) := by decide +kernel
theorem dX0_go_221 : decode cX0_go 221 = .ok (.aload_n 0, 1) := by decide +kernel
theorem dX0_go_222 : decode cX0_go 222 = .ok (.getfield 30, 3) := by decide +kernel
theorem dX0_go_225 : decode cX0_go 225 = .ok (.iconst 1, 1) := by decide +kernel
theorem dX0_go_226 : decode cX0_go 226 = .ok (.isub, 1) := by decide +kernel
theorem dX0_go_227 : decode cX0_go 227 = .ok (.aaload, 1) := by decide +kernel
theorem dX0_go_228 : decode cX0_go 228 = .ok (.aload_n 0, 1) := by decide +kernel
theorem dX0_go_229 : decode cX0_go 229 = .ok (.getfield 14, 3) := by decide +kernel
theorem dX0_go_232 : decode cX0_go 232 = .ok (.getfield 97, 3) := by decide +kernel
theorem dX0_go_235 : decode cX0_go 235 = .ok (.iload 4, 2) := by decide +kernel
theorem dX0_go_237 : decode cX0_go 237 = .ok (.iaload, 1) := by decide +kernel
theorem dX0_go_238 : decode cX0_go 238 = .ok (.aload_n 0, 1) := by decide +kernel
theorem dX0_go_239 : decode cX0_go 239 = .ok (.getfield 14, 3) := by decide +kernel
theorem dX0_go_242 : decode cX0_go 242 = .ok (.getfield 100, 3) := by decide +kernel
theorem dX0_go_245 : decode cX0_go 245 = .ok (.iload 4, 2) := by decide +kernel
theorem dX0_go_247 : decode cX0_go 247 = .ok (.iaload, 1) := by decide +kernel
theorem dX0_go_248 : decode cX0_go 248 = .ok (.aload_n 0, 1) := by decide +kernel
theorem dX0_go_249 : decode cX0_go 249 = .ok (.getfield 14, 3) := by decide +kernel
theorem dX0_go_252 : decode cX0_go 252 = .ok (.getfield 103, 3) := by decide +kernel
theorem dX0_go_255 : decode cX0_go 255 = .ok (.iload 4, 2) := by decide +kernel
theorem dX0_go_257 : decode cX0_go 257 = .ok (.iaload, 1) := by decide +kernel
theorem dX0_go_258 : decode cX0_go 258 = .ok (.invokevirtual 109, 3) := by decide +kernel
theorem dX0_go_261 : decode cX0_go 261 = .ok (.goto 47, 3) := by decide +kernel
theorem dX0_go_264 : decode cX0_go 264 = .ok (.aload_n 0, 1) := by decide +kernel
theorem dX0_go_265 : decode cX0_go 265 = .ok (.getfield 26, 3) := by decide +kernel
theorem dX0_go_268 : decode cX0_go 268 = .ok (.aload_n 0, 1) := by decide +kernel
theorem dX0_go_269 : decode cX0_go 269 = .ok (.getfield 30, 3) := by decide +kernel
theorem dX0_go_272 : decode cX0_go 272 = .ok (.iconst 1, 1) := by decide +kernel
theorem dX0_go_273 : decode cX0_go 273 = .ok (.isub, 1) := by decide +kernel
theorem dX0_go_274 : decode cX0_go 274 = .ok (.aaload, 1) := by decide +kernel
theorem dX0_go_275 : decode cX0_go 275 = .ok (.aload_n 0, 1) := by decide +kernel
theorem dX0_go_276 : decode cX0_go 276 = .ok (.getfield 14, 3) := by decide +kernel
theorem dX0_go_279 : decode cX0_go 279 = .ok (.getfield 97, 3) := by decide +kernel
theorem dX0_go_282 : decode cX0_go 282 = .ok (.iload 4, 2) := by decide +kernel
theorem dX0_go_284 : decode cX0_go 284 = .ok (.iaload, 1) := by decide +kernel
theorem dX0_go_285 : decode cX0_go 285 = .ok (.aload_n 0, 1) := by decide +kernel
theorem dX0_go_286 : decode cX0_go 286 = .ok (.getfield 14, 3) := by decide +kernel
theorem dX0_go_289 : decode cX0_go 289 = .ok (.getfield 100, 3) := by decide +kernel
theorem dX0_go_292 : decode cX0_go 292 = .ok (.iload 4, 2) := by decide +kernel
theorem dX0_go_294 : decode cX0_go 294 = .ok (.iaload, 1) := by decide +kernel
theorem dX0_go_295 : decode cX0_go 295 = .ok (.aload_n 0, 1) := by decide +kernel
theorem dX0_go_296 : decode cX0_go 296 = .ok (.getfield 14, 3) := by decide +kernel
theorem dX0_go_299 : decode cX0_go 299 = .ok (.getfield 103, 3) := by decide +kernel
theorem dX0_go_302 : decode cX0_go 302 = .ok (.iload 4, 2) := by decide +kernel
theorem dX0_go_304 : decode cX0_go 304 = .ok (.iaload, 1) := by decide +kernel
theorem dX0_go_305 : decode cX0_go 305 = .ok (.invokevirtual 113, 3) := by decide +kernel
theorem dX0_go_308 : decode cX0_go 308 = .ok (.iinc 2 1, 3) := by decide +kernel
theorem dX0_go_311 : decode cX0_go 311 = .ok (.goto (-279), 3) := by decide +kernel
theorem dX0_go_314 : decode cX0_go 314 = .ok (.return_, 1) := by decide +kernel
theorem dX0_isReplaced_0 : decode cX0_isReplaced 0 = .ok (.aload_n 0, 1) := by decide +kernel
theorem dX0_isReplaced_1 : decode cX0_isReplaced 1 = .ok (.getfield 14, 3) := by decide +kernel
theorem dX0_isReplaced_4 : decode cX0_isReplaced 4 = .ok (.getfield 100, 3) := by decide +kernel
theorem dX0_isReplaced_7 : decode cX0_isReplaced 7 = .ok (.iload_n 2, 1) := by decide +kernel
theorem dX0_isReplaced_8 : decode cX0_isReplaced 8 = .ok (.iaload, 1) := by decide +kernel
theorem dX0_isReplaced_9 : decode cX0_isReplaced 9 = .ok (.istore_n 3, 1) := by decide +kernel
theorem dX0_isReplaced_10 : decode cX0_isReplaced 10 = .ok (.iload_n 3, 1) := by decide +kernel
theorem dX0_isReplaced_11 : decode cX0_isReplaced 11 = .ok (.invokestatic 117, 3) := by decide +kernel
theorem dX0_isReplaced_14 : decode cX0_isReplaced 14 = .ok (.ifCond .eq 5, 3) := by decide +kernel
theorem dX0_isReplaced_17 : decode cX0_isReplaced 17 = .ok (.iconst 0, 1) := by decide +kernel
theorem dX0_isReplaced_18 : decode cX0_isReplaced 18 = .ok (.ireturn, 1) := by decide +kernel
theorem dX0_isReplaced_19 : decode cX0_isReplaced 19 = .ok (.aload_n 0, 1) := by decide +kernel
theorem dX0_isReplaced_20 : decode cX0_isReplaced 20 = .ok (.getfield 42, 3) := by decide +kernel
theorem dX0_isReplaced_23 : decode cX0_isReplaced 23 = .ok (.aload_n 0, 1) := by decide +kernel
theorem dX0_isReplaced_24 : decode cX0_isReplaced 24 = .ok (.getfield 14, 3) := by decide +kernel
theorem dX0_isReplaced_27 : decode cX0_isReplaced 27 = .ok (.getfield 97, 3) := by decide +kernel
theorem dX0_isReplaced_30 : decode cX0_isReplaced 30 = .ok (.iload_n 2, 1) := by decide +kernel
theorem dX0_isReplaced_31 : decode cX0_isReplaced 31 = .ok (.iaload, 1) := by decide +kernel
theorem dX0_isReplaced_32 : decode cX0_isReplaced 32 = .ok (.iload_n 3, 1) := by decide +kernel
theorem dX0_isReplaced_33 : decode cX0_isReplaced 33 = .ok (.invokestatic 121, 3) := by decide +kernel
theorem dX0_isReplaced_36 : decode cX0_isReplaced 36 = .ok (.invokevirtual 124, 3) := by decide +kernel
theorem dX0_isReplaced_39 : decode cX0_isReplaced 39 = .ok (.istore 4, 2) := by decide +kernel
theorem dX0_isReplaced_41 : decode cX0_isReplaced 41 = .ok (.iload 4, 2) := by decide +kernel
theorem dX0_isReplaced_43 : decode cX0_isReplaced 43 = .ok (.iconst (-1), 1) := by decide +kernel
theorem dX0_isReplaced_44 : decode cX0_isReplaced 44 = .ok (.if_icmp .eq 20, 3) := by decide +kernel
theorem dX0_isReplaced_47 : decode cX0_isReplaced 47 = .ok (.aload_n 0, 1) := by decide +kernel
theorem dX0_isReplaced_48 : decode cX0_isReplaced 48 = .ok (.getfield 14, 3) := by decide +kernel
theorem dX0_isReplaced_51 : decode cX0_isReplaced 51 = .ok (.getfield 103, 3) := by decide +kernel
theorem dX0_isReplaced_54 : decode cX0_isReplaced 54 = .ok (.iload_n 2, 1) := by decide +kernel
theorem dX0_isReplaced_55 : decode cX0_isReplaced 55 = .ok (.iaload, 1) := by decide +kernel
theorem dX0_isReplaced_56 : decode cX0_isReplaced 56 = .ok (.iload 4, 2) := by decide +kernel
theorem dX0_isReplaced_58 : decode cX0_isReplaced 58 = .ok (.ishr, 1) := by decide +kernel
theorem dX0_isReplaced_59 : decode cX0_isReplaced 59 = .ok (.iconst 1, 1) := by decide +kernel
theorem dX0_isReplaced_60 : decode cX0_isReplaced 60 = .ok (.iand, 1) := by decide +kernel
theorem dX0_isReplaced_61 : decode cX0_isReplaced 61 = .ok (.ifCond .eq 5, 3) := by decide +kernel
theorem dX0_isReplaced_64 : decode cX0_isReplaced 64 = .ok (.iconst 0, 1) := by decide +kernel
theorem dX0_isReplaced_65 : decode cX0_isReplaced 65 = .ok (.ireturn, 1) := by decide +kernel
theorem dX0_isReplaced_66 : decode cX0_isReplaced 66 = .ok (.aload_n 0, 1) := by decide +kernel
theorem dX0_isReplaced_67 : decode cX0_isReplaced 67 = .ok (.aload_n 1, 1) := by decide +kernel
theorem dX0_isReplaced_68 : decode cX0_isReplaced 68 = .ok (.iload_n 2, 1) := by decide +kernel
theorem dX0_isReplaced_69 : decode cX0_isReplaced 69 = .ok (.iload 4, 2) := by decide +kernel
theorem dX0_isReplaced_71 : decode cX0_isReplaced 71 = .ok (.invokevirtual 130, 3) := by decide +kernel
theorem dX0_isReplaced_74 : decode cX0_isReplaced 74 = .ok (.ireturn, 1) := by decide +kernel
theorem dX0_replaces_0 : decode cX0_replaces 0 = .ok (.aload_n 0, 1) := by decide +kernel
theorem dX0_replaces_1 : decode cX0_replaces 1 = .ok (.getfield 14, 3) := by decide +kernel
theorem dX0_replaces_4 : decode cX0_replaces 4 = .ok (.getfield 103, 3) := by decide +kernel
theorem dX0_replaces_7 : decode cX0_replaces 7 = .ok (.iload_n 2, 1) := by decide +kernel
theorem dX0_replaces_8 : decode cX0_replaces 8 = .ok (.iaload, 1) := by decide +kernel
theorem dX0_replaces_9 : decode cX0_replaces 9 = .ok (.istore 4, 2) := by decide +kernel
theorem dX0_replaces_11 : decode cX0_replaces 11 = .ok (.aload_n 0, 1) := by decide +kernel
theorem dX0_replaces_12 : decode cX0_replaces 12 = .ok (.getfield 20, 3) := by decide +kernel
theorem dX0_replaces_15 : decode cX0_replaces 15 = .ok (.iload_n 2, 1) := by decide +kernel
theorem dX0_replaces_16 : decode cX0_replaces 16 = .ok (.iaload, 1) := by decide +kernel
theorem dX0_replaces_17 : decode cX0_replaces 17 = .ok (.istore 5, 2) := by decide +kernel
theorem dX0_replaces_19 : decode cX0_replaces 19 = .ok (.aload_n 0, 1) := by decide +kernel
theorem dX0_replaces_20 : decode cX0_replaces 20 = .ok (.getfield 42, 3) := by decide +kernel
theorem dX0_replaces_23 : decode cX0_replaces 23 = .ok (.getfield 134, 3) := by decide +kernel
theorem dX0_replaces_26 : decode cX0_replaces 26 = .ok (.iload_n 3, 1) := by decide +kernel
theorem dX0_replaces_27 : decode cX0_replaces 27 = .ok (.iaload, 1) := by decide +kernel
theorem dX0_replaces_28 : decode cX0_replaces 28 = .ok (.iconst (-1), 1) := by decide +kernel
theorem dX0_replaces_29 : decode cX0_replaces 29 = .ok (.if_icmp .eq 204, 3) := by decide +kernel
theorem dX0_replaces_32 : decode cX0_replaces 32 = .ok (.iload 5, 2) := by decide +kernel
theorem dX0_replaces_34 : decode cX0_replaces 34 = .ok (.istore 6, 2) := by decide +kernel
theorem dX0_replaces_36 : decode cX0_replaces 36 = .ok (.iload 6, 2) := by decide +kernel
theorem dX0_replaces_38 : decode cX0_replaces 38 = .ok (.aload_n 1, 1) := by decide +kernel
theorem dX0_replaces_39 : decode cX0_replaces 39 = .ok (.getfield 87, 3) := by decide +kernel
theorem dX0_replaces_42 : decode cX0_replaces 42 = .ok (.if_icmp .eq 52, 3) := by decide +kernel
theorem dX0_replaces_45 : decode cX0_replaces 45 = .ok (.iload 6, 2) := by decide +kernel
theorem dX0_replaces_47 : decode cX0_replaces 47 = .ok (.ifCond .lt 47, 3) := by decide +kernel
theorem dX0_replaces_50 : decode cX0_replaces 50 = .ok (.iload 6, 2) := by decide +kernel
theorem dX0_replaces_52 : decode cX0_replaces 52 = .ok (.aload_n 0, 1) := by decide +kernel
theorem dX0_replaces_53 : decode cX0_replaces 53 = .ok (.getfield 14, 3) := by decide +kernel
theorem dX0_replaces_56 : decode cX0_replaces 56 = .ok (.getfield 60, 3) := by decide +kernel
theorem dX0_replaces_59 : decode cX0_replaces 59 = .ok (.if_icmp .ge 35, 3) := by decide +kernel
theorem dX0_replaces_62 : decode cX0_replaces 62 = .ok (.aload_n 0, 1) := by decide +kernel
theorem dX0_replaces_63 : decode cX0_replaces 63 = .ok (.getfield 38, 3) := by decide +kernel
theorem dX0_replaces_66 : decode cX0_replaces 66 = .ok (.aload_n 0, 1) := by decide +kernel
theorem dX0_replaces_67 : decode cX0_replaces 67 = .ok (.getfield 14, 3) := by decide +kernel
theorem dX0_replaces_70 : decode cX0_replaces 70 = .ok (.getfield 97, 3) := by decide +kernel
theorem dX0_replaces_73 : decode cX0_replaces 73 = .ok (.iload 6, 2) := by decide +kernel
theorem dX0_replaces_75 : decode cX0_replaces 75 = .ok (.iaload, 1) := by decide +kernel
theorem dX0_replaces_76 : decode cX0_replaces 76 = .ok (.aload_n 0, 1) := by decide +kernel
theorem dX0_replaces_77 : decode cX0_replaces 77 = .ok (.getfield 14, 3) := by decide +kernel
theorem dX0_replaces_80 : decode cX0_replaces 80 = .ok (.getfield 100, 3) := by decide +kernel
theorem dX0_replaces_83 : decode cX0_replaces 83 = .ok (.iload 6, 2) := by decide +kernel
theorem dX0_replaces_85 : decode cX0_replaces 85 = .ok (.iaload, 1) := by decide +kernel
theorem dX0_replaces_86 : decode cX0_replaces 86 = .ok (.invokevirtual 137, 3) := by decide +kernel
theorem dX0_replaces_89 : decode cX0_replaces 89 = .ok (.bipush 40, 2) := by decide +kernel
theorem dX0_replaces_91 : decode cX0_replaces 91 = .ok (.if_icmp .eq 5, 3) := by decide +kernel
theorem dX0_replaces_94 : decode cX0_replaces 94 = .ok (.iconst 0, 1) := by decide +kernel
theorem dX0_replaces_95 : decode cX0_replaces 95 = .ok (.ireturn, 1) := by decide +kernel
theorem dX0_replaces_96 : decode cX0_replaces 96 = .ok (.aload_n 0, 1) := by decide +kernel
theorem dX0_replaces_97 : decode cX0_replaces 97 = .ok (.aload_n 1, 1) := by decide +kernel
theorem dX0_replaces_98 : decode cX0_replaces 98 = .ok (.iload 6, 2) := by decide +kernel
theorem dX0_replaces_100 : decode cX0_replaces 100 = .ok (.invokevirtual 142, 3) := by decide +kernel
theorem dX0_replaces_103 : decode cX0_replaces 103 = .ok (.istore 7, 2) := by decide +kernel
theorem dX0_replaces_105 : decode cX0_replaces 105 = .ok (.iload 7, 2) := by decide +kernel
theorem dX0_replaces_107 : decode cX0_replaces 107 = .ok (.iconst (-1), 1) := by decide +kernel
theorem dX0_replaces_108 : decode cX0_replaces 108 = .ok (.if_icmp .ne 22, 3) := by decide +kernel
theorem dX0_replaces_111 : decode cX0_replaces 111 = .ok (.aload_n 0, 1) := by decide +kernel
theorem dX0_replaces_112 : decode cX0_replaces 112 = .ok (.getfield 46, 3) := by decide +kernel
theorem dX0_replaces_115 : decode cX0_replaces 115 = .ok (.iconst 3, 1) := by decide +kernel
theorem dX0_replaces_116 : decode cX0_replaces 116 = .ok (.aload_n 0, 1) := by decide +kernel
theorem dX0_replaces_117 : decode cX0_replaces 117 = .ok (.getfield 14, 3) := by decide +kernel
theorem dX0_replaces_120 : decode cX0_replaces 120 = .ok (.getfield 100, 3) := by decide +kernel
theorem dX0_replaces_123 : decode cX0_replaces 123 = .ok (.iload_n 2, 1) := by decide +kernel
theorem dX0_replaces_124 : decode cX0_replaces 124 = .ok (.iaload, 1) := by decide +kernel
theorem dX0_replaces_125 : decode cX0_replaces 125 = .ok (.invokevirtual 146, 3) := by decide +kernel
theorem dX0_replaces_128 : decode cX0_replaces 128 = .ok (.iconst 1, 1) := by decide +kernel
theorem dX0_replaces_129 : decode cX0_replaces 129 = .ok (.ireturn, 1) := by decide +kernel
theorem dX0_replaces_130 : decode cX0_replaces 130 = .ok (.aload_n 0, 1) := by decide +kernel
theorem dX0_replaces_131 : decode cX0_replaces 131 = .ok (.getfield 20, 3) := by decide +kernel
theorem dX0_replaces_134 : decode cX0_replaces 134 = .ok (.iload 6, 2) := by decide +kernel
theorem dX0_replaces_136 : decode cX0_replaces 136 = .ok (.iaload, 1) := by decide +kernel
theorem dX0_replaces_137 : decode cX0_replaces 137 = .ok (.iload 7, 2) := by decide +kernel
theorem dX0_replaces_139 : decode cX0_replaces 139 = .ok (.if_icmp .ne 7, 3) := by decide +kernel
theorem dX0_replaces_142 : decode cX0_replaces 142 = .ok (.iconst 1, 1) := by decide +kernel
theorem dX0_replaces_143 : decode cX0_replaces 143 = .ok (.goto 4, 3) := by decide +kernel
theorem dX0_replaces_146 : decode cX0_replaces 146 = .ok (.iconst 0, 1) := by decide +kernel
theorem dX0_replaces_147 : decode cX0_replaces 147 = .ok (.istore 8, 2) := by decide +kernel
theorem dX0_replaces_149 : decode cX0_replaces 149 = .ok (.aload_n 0, 1) := by decide +kernel
theorem dX0_replaces_150 : decode cX0_replaces 150 = .ok (.getfield 42, 3) := by decide +kernel
theorem dX0_replaces_153 : decode cX0_replaces 153 = .ok (.getfield 134, 3) := by decide +kernel
theorem dX0_replaces_156 : decode cX0_replaces 156 = .ok (.iload_n 3, 1) := by decide +kernel
theorem dX0_replaces_157 : decode cX0_replaces 157 = .ok (.iaload, 1) := by decide +kernel
theorem dX0_replaces_158 : decode cX0_replaces 158 = .ok (.ifCond .ne 12, 3) := by decide +kernel
theorem dX0_replaces_161 : decode cX0_replaces 161 = .ok (.iload 8, 2) := by decide +kernel
theorem dX0_replaces_163 : decode cX0_replaces 163 = .ok (.ifCond .eq 7, 3) := by decide +kernel
theorem dX0_replaces_166 : decode cX0_replaces 166 = .ok (.iconst 0, 1) := by decide +kernel
theorem dX0_replaces_167 : decode cX0_replaces 167 = .ok (.goto 7, 3) := by decide +kernel
theorem dX0_replaces_170 : decode cX0_replaces 170 = .ok (.aload_n 1, 1) := by decide +kernel
theorem dX0_replaces_171 : decode cX0_replaces 171 = .ok (.getfield 149, 3) := by decide +kernel
theorem dX0_replaces_174 : decode cX0_replaces 174 = .ok (.istore 9, 2) := by decide +kernel
theorem dX0_replaces_176 : decode cX0_replaces 176 = .ok (.iload 9, 2) := by decide +kernel
theorem dX0_replaces_178 : decode cX0_replaces 178 = .ok (.aload_n 0, 1) := by decide +kernel
theorem dX0_replaces_179 : decode cX0_replaces 179 = .ok (.getfield 42, 3) := by decide +kernel
theorem dX0_replaces_182 : decode cX0_replaces 182 = .ok (.getfield 134, 3) := by decide +kernel
theorem dX0_replaces_185 : decode cX0_replaces 185 = .ok (.iload_n 3, 1) := by decide +kernel
theorem dX0_replaces_186 : decode cX0_replaces 186 = .ok (.iaload, 1) := by decide +kernel
theorem dX0_replaces_187 : decode cX0_replaces 187 = .ok (.if_icmp .eq 22, 3) := by decide +kernel
theorem dX0_replaces_190 : decode cX0_replaces 190 = .ok (.aload_n 0, 1) := by decide +kernel
theorem dX0_replaces_191 : decode cX0_replaces 191 = .ok (.getfield 46, 3) := by decide +kernel
theorem dX0_replaces_194 : decode cX0_replaces 194 = .ok (.iconst 4, 1) := by decide +kernel
theorem dX0_replaces_195 : decode cX0_replaces 195 = .ok (.aload_n 0, 1) := by decide +kernel
theorem dX0_replaces_196 : decode cX0_replaces 196 = .ok (.getfield 14, 3) := by decide +kernel
theorem dX0_replaces_199 : decode cX0_replaces 199 = .ok (.getfield 100, 3) := by decide +kernel
theorem dX0_replaces_202 : decode cX0_replaces 202 = .ok (.iload_n 2, 1) := by decide +kernel
theorem dX0_replaces_203 : decode cX0_replaces 203 = .ok (.iaload, 1) := by decide +kernel
theorem dX0_replaces_204 : decode cX0_replaces 204 = .ok (.invokevirtual 146, 3) := by decide +kernel
theorem dX0_replaces_207 : decode cX0_replaces 207 = .ok (.iconst 1, 1) := by decide +kernel
theorem dX0_replaces_208 : decode cX0_replaces 208 = .ok (.ireturn, 1) := by decide +kernel
theorem dX0_replaces_209 : decode cX0_replaces 209 = .ok (.iload 4, 2) := by decide +kernel
theorem dX0_replaces_211 : decode cX0_replaces 211 = .ok (.aload_n 0, 1) := by decide +kernel
theorem dX0_replaces_212 : decode cX0_replaces 212 = .ok (.getfield 14, 3) := by decide +kernel
theorem dX0_replaces_215 : decode cX0_replaces 215 = .ok (.getfield 103, 3) := by decide +kernel
theorem dX0_replaces_218 : decode cX0_replaces 218 = .ok (.iload 7, 2) := by decide +kernel
theorem dX0_replaces_220 : decode cX0_replaces 220 = .ok (.iaload, 1) := by decide +kernel
theorem dX0_replaces_221 : decode cX0_replaces 221 = .ok (.iand, 1) := by decide +kernel
theorem dX0_replaces_222 : decode cX0_replaces 222 = .ok (.istore 4, 2) := by decide +kernel
theorem dX0_replaces_224 : decode cX0_replaces 224 = .ok (.aload_n 0, 1) := by decide +kernel
theorem dX0_replaces_225 : decode cX0_replaces 225 = .ok (.getfield 20, 3) := by decide +kernel
theorem dX0_replaces_228 : decode cX0_replaces 228 = .ok (.iload 7, 2) := by decide +kernel
theorem dX0_replaces_230 : decode cX0_replaces 230 = .ok (.iaload, 1) := by decide +kernel
theorem dX0_replaces_231 : decode cX0_replaces 231 = .ok (.istore 5, 2) := by decide +kernel
theorem dX0_replaces_233 : decode cX0_replaces 233 = .ok (.aload_n 0, 1) := by decide +kernel
theorem dX0_replaces_234 : decode cX0_replaces 234 = .ok (.getfield 50, 3) := by decide +kernel
theorem dX0_replaces_237 : decode cX0_replaces 237 = .ok (.bipush 6, 2) := by decide +kernel
theorem dX0_replaces_239 : decode cX0_replaces 239 = .ok (.iaload, 1) := by decide +kernel
theorem dX0_replaces_240 : decode cX0_replaces 240 = .ok (.bipush 100, 2) := by decide +kernel
theorem dX0_replaces_242 : decode cX0_replaces 242 = .ok (.if_icmp .lt 23, 3) := by decide +kernel
theorem dX0_replaces_245 : decode cX0_replaces 245 = .ok (.aload_n 0, 1) := by decide +kernel
theorem dX0_replaces_246 : decode cX0_replaces 246 = .ok (.getfield 46, 3) := by decide +kernel
theorem dX0_replaces_249 : decode cX0_replaces 249 = .ok (.bipush 7, 2) := by decide +kernel
theorem dX0_replaces_251 : decode cX0_replaces 251 = .ok (.aload_n 0, 1) := by decide +kernel
theorem dX0_replaces_252 : decode cX0_replaces 252 = .ok (.getfield 14, 3) := by decide +kernel
theorem dX0_replaces_255 : decode cX0_replaces 255 = .ok (.getfield 100, 3) := by decide +kernel
theorem dX0_replaces_258 : decode cX0_replaces 258 = .ok (.iload_n 2, 1) := by decide +kernel
theorem dX0_replaces_259 : decode cX0_replaces 259 = .ok (.iaload, 1) := by decide +kernel
theorem dX0_replaces_260 : decode cX0_replaces 260 = .ok (.invokevirtual 146, 3) := by decide +kernel
theorem dX0_replaces_263 : decode cX0_replaces 263 = .ok (.iconst 1, 1) := by decide +kernel
theorem dX0_replaces_264 : decode cX0_replaces 264 = .ok (.ireturn, 1) := by decide +kernel
theorem dX0_replaces_265 : decode cX0_replaces 265 = .ok (.aload_n 0, 1) := by decide +kernel
theorem dX0_replaces_266 : decode cX0_replaces 266 = .ok (.getfield 50, 3) := by decide +kernel
theorem dX0_replaces_269 : decode cX0_replaces 269 = .ok (.bipush 6, 2) := by decide +kernel
theorem dX0_replaces_271 : decode cX0_replaces 271 = .ok (.dup2, 1) := by decide +kernel
theorem dX0_replaces_272 : decode cX0_replaces 272 = .ok (.iaload, 1) := by decide +kernel
theorem dX0_replaces_273 : decode cX0_replaces 273 = .ok (.iconst 1, 1) := by decide +kernel
theorem dX0_replaces_274 : decode cX0_replaces 274 = .ok (.iadd, 1) := by decide +kernel
theorem dX0_replaces_275 : decode cX0_replaces 275 = .ok (.iastore, 1) := by decide +kernel
theorem dX0_replaces_276 : decode cX0_replaces 276 = .ok (.aload_n 0, 1) := by decide +kernel
theorem dX0_replaces_277 : decode cX0_replaces 277 = .ok (.getfield 42, 3) := by decide +kernel
theorem dX0_replaces_280 : decode cX0_replaces 280 = .ok (.getfield 152, 3) := by decide +kernel
theorem dX0_replaces_283 : decode cX0_replaces 283 = .ok (.iload_n 3, 1) := by decide +kernel
theorem dX0_replaces_284 : decode cX0_replaces 284 = .ok (.dup2, 1) := by decide +kernel
theorem dX0_replaces_285 : decode cX0_replaces 285 = .ok (.iaload, 1) := by decide +kernel
theorem dX0_replaces_286 : decode cX0_replaces 286 = .ok (.aload_n 0, 1) := by decide +kernel
theorem dX0_replaces_287 : decode cX0_replaces 287 = .ok (.getfield 34, 3) := by decide +kernel
theorem dX0_replaces_290 : decode cX0_replaces 290 = .ok (.ifCond .eq 7, 3) := by decide +kernel
theorem dX0_replaces_293 : decode cX0_replaces 293 = .ok (.iconst 1, 1) := by decide +kernel
theorem dX0_replaces_294 : decode cX0_replaces 294 = .ok (.goto 4, 3) := by decide +kernel
theorem dX0_replaces_297 : decode cX0_replaces 297 = .ok (.iconst 0, 1) := by decide +kernel
theorem dX0_replaces_298 : decode cX0_replaces 298 = .ok (.iadd, 1) := by decide +kernel
theorem dX0_replaces_299 : decode cX0_replaces 299 = .ok (.iastore, 1) := by decide +kernel
theorem dX0_replaces_300 : decode cX0_replaces 300 = .ok (.aload_n 1, 1) := by decide +kernel
theorem dX0_replaces_301 : decode cX0_replaces 301 = .ok (.iload_n 3, 1) := by decide +kernel
theorem dX0_replaces_302 : decode cX0_replaces 302 = .ok (.iload 4, 2) := by decide +kernel
theorem dX0_replaces_304 : decode cX0_replaces 304 = .ok (.iconst 1, 1) := by decide +kernel
theorem dX0_replaces_305 : decode cX0_replaces 305 = .ok (.iload_n 3, 1) := by decide +kernel
theorem dX0_replaces_306 : decode cX0_replaces 306 = .ok (.ishl, 1) := by decide +kernel
theorem dX0_replaces_307 : decode cX0_replaces 307 = .ok (.ior, 1) := by decide +kernel
theorem dX0_replaces_308 : decode cX0_replaces 308 = .ok (.aload_n 0, 1) := by decide +kernel
theorem dX0_replaces_309 : decode cX0_replaces 309 = .ok (.getfield 14, 3) := by decide +kernel
theorem dX0_replaces_312 : decode cX0_replaces 312 = .ok (.getfield 100, 3) := by decide +kernel
theorem dX0_replaces_315 : decode cX0_replaces 315 = .ok (.iload_n 2, 1) := by decide +kernel
theorem dX0_replaces_316 : decode cX0_replaces 316 = .ok (.iaload, 1) := by decide +kernel
theorem dX0_replaces_317 : decode cX0_replaces 317 = .ok (.iload 5, 2) := by decide +kernel
theorem dX0_replaces_319 : decode cX0_replaces 319 = .ok (.invokevirtual 155, 3) := by decide +kernel
theorem dX0_replaces_322 : decode cX0_replaces 322 = .ok (.iconst 1, 1) := by decide +kernel
theorem dX0_replaces_323 : decode cX0_replaces 323 = .ok (.ireturn, 1) := by decide +kernel
theorem dX0_findArguments_0 : decode cX0_findArguments 0 = .ok (.iconst 0, 1) := by decide +kernel
theorem dX0_findArguments_1 : decode cX0_findArguments 1 = .ok (.istore_n 3, 1) := by decide +kernel
theorem dX0_findArguments_2 : decode cX0_findArguments 2 = .ok (.aload_n 0, 1) := by decide +kernel
theorem dX0_findArguments_3 : decode cX0_findArguments 3 = .ok (.getfield 20, 3) := by decide +kernel
theorem dX0_findArguments_6 : decode cX0_findArguments 6 = .ok (.iload_n 2, 1) := by decide +kernel
theorem dX0_findArguments_7 : decode cX0_findArguments 7 = .ok (.iaload, 1) := by decide +kernel
theorem dX0_findArguments_8 : decode cX0_findArguments 8 = .ok (.istore 4, 2) := by decide +kernel
theorem dX0_findArguments_10 : decode cX0_findArguments 10 = .ok (.aload_n 1, 1) := by decide +kernel
theorem dX0_findArguments_11 : decode cX0_findArguments 11 = .ok (.iconst 0, 1) := by decide +kernel
theorem dX0_findArguments_12 : decode cX0_findArguments 12 = .ok (.putfield 149, 3) := by decide +kernel
theorem dX0_findArguments_15 : decode cX0_findArguments 15 = .ok (.iload 4, 2) := by decide +kernel
theorem dX0_findArguments_17 : decode cX0_findArguments 17 = .ok (.istore 5, 2) := by decide +kernel
theorem dX0_findArguments_19 : decode cX0_findArguments 19 = .ok (.iconst 0, 1) := by decide +kernel
theorem dX0_findArguments_20 : decode cX0_findArguments 20 = .ok (.istore 6, 2) := by decide +kernel
theorem dX0_findArguments_22 : decode cX0_findArguments 22 = .ok (.iload 6, 2) := by decide +kernel
theorem dX0_findArguments_24 : decode cX0_findArguments 24 = .ok (.sipush 3440, 3) := by decide +kernel
theorem dX0_findArguments_27 : decode cX0_findArguments 27 = .ok (.if_icmp .ge 164, 3) := by decide +kernel
theorem dX0_findArguments_30 : decode cX0_findArguments 30 = .ok (.iload 5, 2) := by decide +kernel
theorem dX0_findArguments_32 : decode cX0_findArguments 32 = .ok (.aload_n 1, 1) := by decide +kernel
theorem dX0_findArguments_33 : decode cX0_findArguments 33 = .ok (.getfield 87, 3) := by decide +kernel
theorem dX0_findArguments_36 : decode cX0_findArguments 36 = .ok (.if_icmp .eq 155, 3) := by decide +kernel
theorem dX0_findArguments_39 : decode cX0_findArguments 39 = .ok (.iload 5, 2) := by decide +kernel
theorem dX0_findArguments_41 : decode cX0_findArguments 41 = .ok (.ifCond .lt 150, 3) := by decide +kernel
theorem dX0_findArguments_44 : decode cX0_findArguments 44 = .ok (.aload_n 0, 1) := by decide +kernel
theorem dX0_findArguments_45 : decode cX0_findArguments 45 = .ok (.getfield 38, 3) := by decide +kernel
theorem dX0_findArguments_48 : decode cX0_findArguments 48 = .ok (.aload_n 0, 1) := by decide +kernel
theorem dX0_findArguments_49 : decode cX0_findArguments 49 = .ok (.getfield 14, 3) := by decide +kernel
theorem dX0_findArguments_52 : decode cX0_findArguments 52 = .ok (.getfield 97, 3) := by decide +kernel
theorem dX0_findArguments_55 : decode cX0_findArguments 55 = .ok (.iload 5, 2) := by decide +kernel
theorem dX0_findArguments_57 : decode cX0_findArguments 57 = .ok (.iaload, 1) := by decide +kernel
theorem dX0_findArguments_58 : decode cX0_findArguments 58 = .ok (.aload_n 0, 1) := by decide +kernel
theorem dX0_findArguments_59 : decode cX0_findArguments 59 = .ok (.getfield 14, 3) := by decide +kernel
theorem dX0_findArguments_62 : decode cX0_findArguments 62 = .ok (.getfield 100, 3) := by decide +kernel
theorem dX0_findArguments_65 : decode cX0_findArguments 65 = .ok (.iload 5, 2) := by decide +kernel
theorem dX0_findArguments_67 : decode cX0_findArguments 67 = .ok (.iaload, 1) := by decide +kernel
theorem dX0_findArguments_68 : decode cX0_findArguments 68 = .ok (.invokevirtual 137, 3) := by decide +kernel
theorem dX0_findArguments_71 : decode cX0_findArguments 71 = .ok (.istore 7, 2) := by decide +kernel
theorem dX0_findArguments_73 : decode cX0_findArguments 73 = .ok (.iload_n 3, 1) := by decide +kernel
theorem dX0_findArguments_74 : decode cX0_findArguments 74 = .ok (.ifCond .ne 76, 3) := by decide +kernel
theorem dX0_findArguments_77 : decode cX0_findArguments 77 = .ok (.iload 7, 2) := by decide +kernel
theorem dX0_findArguments_79 : decode cX0_findArguments 79 = .ok (.bipush 44, 2) := by decide +kernel
theorem dX0_findArguments_81 : decode cX0_findArguments 81 = .ok (.if_icmp .eq 10, 3) := by decide +kernel
theorem dX0_findArguments_84 : decode cX0_findArguments 84 = .ok (.iload 7, 2) := by decide +kernel
theorem dX0_findArguments_86 : decode cX0_findArguments 86 = .ok (.bipush 41, 2) := by decide +kernel
theorem dX0_findArguments_88 : decode cX0_findArguments 88 = .ok (.if_icmp .ne 62, 3) := by decide +kernel
theorem dX0_findArguments_91 : decode cX0_findArguments 91 = .ok (.aload_n 1, 1) := by decide +kernel
theorem dX0_findArguments_92 : decode cX0_findArguments 92 = .ok (.getfield 149, 3) := by decide +kernel
theorem dX0_findArguments_95 : decode cX0_findArguments 95 = .ok (.iconst 4, 1) := by decide +kernel
theorem dX0_findArguments_96 : decode cX0_findArguments 96 = .ok (.if_icmp .ge 25, 3) := by decide +kernel
theorem dX0_findArguments_99 : decode cX0_findArguments 99 = .ok (.aload_n 1, 1) := by decide +kernel
theorem dX0_findArguments_100 : decode cX0_findArguments 100 = .ok (.getfield 159, 3) := by decide +kernel
theorem dX0_findArguments_103 : decode cX0_findArguments 103 = .ok (.aload_n 1, 1) := by decide +kernel
theorem dX0_findArguments_104 : decode cX0_findArguments 104 = .ok (.getfield 149, 3) := by decide +kernel
theorem dX0_findArguments_107 : decode cX0_findArguments 107 = .ok (.iload 4, 2) := by decide +kernel
theorem dX0_findArguments_109 : decode cX0_findArguments 109 = .ok (.iastore, 1) := by decide +kernel
theorem dX0_findArguments_110 : decode cX0_findArguments 110 = .ok (.aload_n 1, 1) := by decide +kernel
theorem dX0_findArguments_111 : decode cX0_findArguments 111 = .ok (.getfield 162, 3) := by decide +kernel
theorem dX0_findArguments_114 : decode cX0_findArguments 114 = .ok (.aload_n 1, 1) := by decide +kernel
theorem dX0_findArguments_115 : decode cX0_findArguments 115 = .ok (.getfield 149, 3) := by decide +kernel
theorem dX0_findArguments_118 : decode cX0_findArguments 118 = .ok (.iload 5, 2) := by decide +kernel
theorem dX0_findArguments_120 : decode cX0_findArguments 120 = .ok (.iastore, 1) := by decide +kernel
theorem dX0_findArguments_121 : decode cX0_findArguments 121 = .ok (.aload_n 1, 1) := by decide +kernel
theorem dX0_findArguments_122 : decode cX0_findArguments 122 = .ok (.dup, 1) := by decide +kernel
theorem dX0_findArguments_123 : decode cX0_findArguments 123 = .ok (.getfield 149, 3) := by decide +kernel
theorem dX0_findArguments_126 : decode cX0_findArguments 126 = .ok (.iconst 1, 1) := by decide +kernel
theorem dX0_findArguments_127 : decode cX0_findArguments 127 = .ok (.iadd, 1) := by decide +kernel
theorem dX0_findArguments_128 : decode cX0_findArguments 128 = .ok (.putfield 149, 3) := by decide +kernel
theorem dX0_findArguments_131 : decode cX0_findArguments 131 = .ok (.aload_n 0, 1) := by decide +kernel
theorem dX0_findArguments_132 : decode cX0_findArguments 132 = .ok (.getfield 20, 3) := by decide +kernel
theorem dX0_findArguments_135 : decode cX0_findArguments 135 = .ok (.iload 5, 2) := by decide +kernel
theorem dX0_findArguments_137 : decode cX0_findArguments 137 = .ok (.iaload, 1) := by decide +kernel
theorem dX0_findArguments_138 : decode cX0_findArguments 138 = .ok (.istore 4, 2) := by decide +kernel
theorem dX0_findArguments_140 : decode cX0_findArguments 140 = .ok (.iload 7, 2) := by decide +kernel
theorem dX0_findArguments_142 : decode cX0_findArguments 142 = .ok (.bipush 41, 2) := by decide +kernel
theorem dX0_findArguments_144 : decode cX0_findArguments 144 = .ok (.if_icmp .ne 6, 3) := by decide +kernel
theorem dX0_findArguments_147 : decode cX0_findArguments 147 = .ok (.iload 5, 2) := by decide +kernel
theorem dX0_findArguments_149 : decode cX0_findArguments 149 = .ok (.ireturn, 1) := by decide +kernel
theorem dX0_findArguments_150 : decode cX0_findArguments 150 = .ok (.iload_n 3, 1) := by decide +kernel
theorem dX0_findArguments_151 : decode cX0_findArguments 151 = .ok (.iload 7, 2) := by decide +kernel
theorem dX0_findArguments_153 : decode cX0_findArguments 153 = .ok (.bipush 40, 2) := by decide +kernel
theorem dX0_findArguments_155 : decode cX0_findArguments 155 = .ok (.if_icmp .ne 7, 3) := by decide +kernel
theorem dX0_findArguments_158 : decode cX0_findArguments 158 = .ok (.iconst 1, 1) := by decide +kernel
theorem dX0_findArguments_159 : decode cX0_findArguments 159 = .ok (.goto 15, 3) := by decide +kernel
theorem dX0_findArguments_162 : decode cX0_findArguments 162 = .ok (.iload 7, 2) := by decide +kernel
theorem dX0_findArguments_164 : decode cX0_findArguments 164 = .ok (.bipush 41, 2) := by decide +kernel
theorem dX0_findArguments_166 : decode cX0_findArguments 166 = .ok (.if_icmp .ne 7, 3) := by decide +kernel
theorem dX0_findArguments_169 : decode cX0_findArguments 169 = .ok (.iconst (-1), 1) := by decide +kernel
theorem dX0_findArguments_170 : decode cX0_findArguments 170 = .ok (.goto 4, 3) := by decide +kernel
theorem dX0_findArguments_173 : decode cX0_findArguments 173 = .ok (.iconst 0, 1) := by decide +kernel
theorem dX0_findArguments_174 : decode cX0_findArguments 174 = .ok (.iadd, 1) := by decide +kernel
theorem dX0_findArguments_175 : decode cX0_findArguments 175 = .ok (.istore_n 3, 1) := by decide +kernel
theorem dX0_findArguments_176 : decode cX0_findArguments 176 = .ok (.aload_n 0, 1) := by decide +kernel
theorem dX0_findArguments_177 : decode cX0_findArguments 177 = .ok (.getfield 20, 3) := by decide +kernel
theorem dX0_findArguments_180 : decode cX0_findArguments 180 = .ok (.iload 5, 2) := by decide +kernel
theorem dX0_findArguments_182 : decode cX0_findArguments 182 = .ok (.iaload, 1) := by decide +kernel
theorem dX0_findArguments_183 : decode cX0_findArguments 183 = .ok (.istore 5, 2) := by decide +kernel
theorem dX0_findArguments_185 : decode cX0_findArguments 185 = .ok (.iinc 6 1, 3) := by decide +kernel
theorem dX0_findArguments_188 : decode cX0_findArguments 188 = .ok (.goto (-166), 3) := by decide +kernel
theorem dX0_findArguments_191 : decode cX0_findArguments 191 = .ok (.iconst (-1), 1) := by decide +kernel
theorem dX0_findArguments_192 : decode cX0_findArguments 192 = .ok (.ireturn, 1) := by decide +kernel
theorem dX0_doItem_0 : decode cX0_doItem 0 = .ok (.aload_n 1, 1) := by decide +kernel
theorem dX0_doItem_1 : decode cX0_doItem 1 = .ok (.getfield 80, 3) := by decide +kernel
theorem dX0_doItem_4 : decode cX0_doItem 4 = .ok (.istore_n 2, 1) := by decide +kernel
theorem dX0_doItem_5 : decode cX0_doItem 5 = .ok (.iload_n 2, 1) := by decide +kernel
theorem dX0_doItem_6 : decode cX0_doItem 6 = .ok (.ifCond .lt 25, 3) := by decide +kernel
theorem dX0_doItem_9 : decode cX0_doItem 9 = .ok (.iload_n 2, 1) := by decide +kernel
theorem dX0_doItem_10 : decode cX0_doItem 10 = .ok (.bipush 12, 2) := by decide +kernel
theorem dX0_doItem_12 : decode cX0_doItem 12 = .ok (.if_icmp .ge 19, 3) := by decide +kernel
theorem dX0_doItem_15 : decode cX0_doItem 15 = .ok (.aload_n 1, 1) := by decide +kernel
theorem dX0_doItem_16 : decode cX0_doItem 16 = .ok (.getfield 165, 3) := by decide +kernel
theorem dX0_doItem_19 : decode cX0_doItem 19 = .ok (.aload_n 0, 1) := by decide +kernel
theorem dX0_doItem_20 : decode cX0_doItem 20 = .ok (.getfield 42, 3) := by decide +kernel
theorem dX0_doItem_23 : decode cX0_doItem 23 = .ok (.getfield 168, 3) := by decide +kernel
theorem dX0_doItem_26 : decode cX0_doItem 26 = .ok (.iload_n 2, 1) := by decide +kernel
theorem dX0_doItem_27 : decode cX0_doItem 27 = .ok (.iaload, 1) := by decide +kernel
theorem dX0_doItem_28 : decode cX0_doItem 28 = .ok (.if_icmp .lt 9, 3) := by decide +kernel
theorem dX0_doItem_31 : decode cX0_doItem 31 = .ok (.aload_n 0, 1) := by decide +kernel
theorem dX0_doItem_32 : decode cX0_doItem 32 = .ok (.aload_n 1, 1) := by decide +kernel
theorem dX0_doItem_33 : decode cX0_doItem 33 = .ok (.invokevirtual 171, 3) := by decide +kernel
theorem dX0_doItem_36 : decode cX0_doItem 36 = .ok (.return_, 1) := by decide +kernel
theorem dX0_doItem_37 : decode cX0_doItem 37 = .ok (.iload_n 2, 1) := by decide +kernel
theorem dX0_doItem_38 : decode cX0_doItem 38 = .ok (.bipush 20, 2) := by decide +kernel
theorem dX0_doItem_40 : decode cX0_doItem 40 = .ok (.imul, 1) := by decide +kernel
theorem dX0_doItem_41 : decode cX0_doItem 41 = .ok (.aload_n 1, 1) := by decide +kernel
theorem dX0_doItem_42 : decode cX0_doItem 42 = .ok (.getfield 165, 3) := by decide +kernel
theorem dX0_doItem_45 : decode cX0_doItem 45 = .ok (.iadd, 1) := by decide +kernel
theorem dX0_doItem_46 : decode cX0_doItem 46 = .ok (.istore_n 3, 1) := by decide +kernel
theorem dX0_doItem_47 : decode cX0_doItem 47 = .ok (.aload_n 0, 1) := by decide +kernel
theorem dX0_doItem_48 : decode cX0_doItem 48 = .ok (.getfield 42, 3) := by decide +kernel
theorem dX0_doItem_51 : decode cX0_doItem 51 = .ok (.getfield 174, 3) := by decide +kernel
theorem dX0_doItem_54 : decode cX0_doItem 54 = .ok (.iload_n 3, 1) := by decide +kernel
theorem dX0_doItem_55 : decode cX0_doItem 55 = .ok (.iaload, 1) := by decide +kernel
theorem dX0_doItem_56 : decode cX0_doItem 56 = .ok (.istore 4, 2) := by decide +kernel
theorem dX0_doItem_58 : decode cX0_doItem 58 = .ok (.aload_n 0, 1) := by decide +kernel
theorem dX0_doItem_59 : decode cX0_doItem 59 = .ok (.getfield 42, 3) := by decide +kernel
theorem dX0_doItem_62 : decode cX0_doItem 62 = .ok (.getfield 177, 3) := by decide +kernel
theorem dX0_doItem_65 : decode cX0_doItem 65 = .ok (.iload_n 3, 1) := by decide +kernel
theorem dX0_doItem_66 : decode cX0_doItem 66 = .ok (.iaload, 1) := by decide +kernel
theorem dX0_doItem_67 : decode cX0_doItem 67 = .ok (.istore 5, 2) := by decide +kernel
theorem dX0_doItem_69 : decode cX0_doItem 69 = .ok (.aload_n 1, 1) := by decide +kernel
theorem dX0_doItem_70 : decode cX0_doItem 70 = .ok (.iload 4, 2) := by decide +kernel
theorem dX0_doItem_72 : decode cX0_doItem 72 = .ok (.iload 5, 2) := by decide +kernel
theorem dX0_doItem_74 : decode cX0_doItem 74 = .ok (.invokevirtual 180, 3) := by decide +kernel
theorem dX0_doItem_77 : decode cX0_doItem 77 = .ok (.iload 4, 2) := by decide +kernel
theorem dX0_doItem_79 : decode cX0_doItem 79 = .ok (.iconst 1, 1) := by decide +kernel
theorem dX0_doItem_80 : decode cX0_doItem 80 = .ok (.iand, 1) := by decide +kernel
theorem dX0_doItem_81 : decode cX0_doItem 81 = .ok (.ifCond .eq 30, 3) := by decide +kernel
theorem dX0_doItem_84 : decode cX0_doItem 84 = .ok (.aload_n 0, 1) := by decide +kernel
theorem dX0_doItem_85 : decode cX0_doItem 85 = .ok (.aload_n 1, 1) := by decide +kernel
theorem dX0_doItem_86 : decode cX0_doItem 86 = .ok (.aload_n 0, 1) := by decide +kernel
theorem dX0_doItem_87 : decode cX0_doItem 87 = .ok (.getfield 42, 3) := by decide +kernel
theorem dX0_doItem_90 : decode cX0_doItem 90 = .ok (.getfield 183, 3) := by decide +kernel
theorem dX0_doItem_93 : decode cX0_doItem 93 = .ok (.iload_n 3, 1) := by decide +kernel
theorem dX0_doItem_94 : decode cX0_doItem 94 = .ok (.iaload, 1) := by decide +kernel
theorem dX0_doItem_95 : decode cX0_doItem 95 = .ok (.iload 4, 2) := by decide +kernel
theorem dX0_doItem_97 : decode cX0_doItem 97 = .ok (.iconst 2, 1) := by decide +kernel
theorem dX0_doItem_98 : decode cX0_doItem 98 = .ok (.iand, 1) := by decide +kernel
theorem dX0_doItem_99 : decode cX0_doItem 99 = .ok (.ifCond .eq 7, 3) := by decide +kernel
theorem dX0_doItem_102 : decode cX0_doItem 102 = .ok (.iconst 1, 1) := by decide +kernel
theorem dX0_doItem_103 : decode cX0_doItem 103 = .ok (.goto 4, 3) := by decide +kernel
theorem dX0_doItem_106 : decode cX0_doItem 106 = .ok (.iconst 0, 1) := by decide +kernel
theorem dX0_doItem_107 : decode cX0_doItem 107 = .ok (.invokevirtual 186, 3) := by decide +kernel
theorem dX0_doItem_110 : decode cX0_doItem 110 = .ok (.return_, 1) := by decide +kernel
theorem dX0_doItem_111 : decode cX0_doItem 111 = .ok (.aload_n 0, 1) := by decide +kernel
theorem dX0_doItem_112 : decode cX0_doItem 112 = .ok (.getfield 42, 3) := by decide +kernel
theorem dX0_doItem_115 : decode cX0_doItem 115 = .ok (.getfield 190, 3) := by decide +kernel
theorem dX0_doItem_118 : decode cX0_doItem 118 = .ok (.iload_n 3, 1) := by decide +kernel
theorem dX0_doItem_119 : decode cX0_doItem 119 = .ok (.iaload, 1) := by decide +kernel
theorem dX0_doItem_120 : decode cX0_doItem 120 = .ok (.istore 6, 2) := by decide +kernel
theorem dX0_doItem_122 : decode cX0_doItem 122 = .ok (.iload 4, 2) := by decide +kernel
theorem dX0_doItem_124 : decode cX0_doItem 124 = .ok (.iconst 4, 1) := by decide +kernel
theorem dX0_doItem_125 : decode cX0_doItem 125 = .ok (.iand, 1) := by decide +kernel
theorem dX0_doItem_126 : decode cX0_doItem 126 = .ok (.ifCond .eq 61, 3) := by decide +kernel
theorem dX0_doItem_129 : decode cX0_doItem 129 = .ok (.aload_n 0, 1) := by decide +kernel
theorem dX0_doItem_130 : decode cX0_doItem 130 = .ok (.getfield 38, 3) := by decide +kernel
theorem dX0_doItem_133 : decode cX0_doItem 133 = .ok (.getfield 193, 3) := by decide +kernel
theorem dX0_doItem_136 : decode cX0_doItem 136 = .ok (.istore 6, 2) := by decide +kernel
theorem dX0_doItem_138 : decode cX0_doItem 138 = .ok (.aload_n 0, 1) := by decide +kernel
theorem dX0_doItem_139 : decode cX0_doItem 139 = .ok (.aload_n 1, 1) := by decide +kernel
theorem dX0_doItem_140 : decode cX0_doItem 140 = .ok (.aload_n 0, 1) := by decide +kernel
theorem dX0_doItem_141 : decode cX0_doItem 141 = .ok (.getfield 42, 3) := by decide +kernel
theorem dX0_doItem_144 : decode cX0_doItem 144 = .ok (.getfield 183, 3) := by decide +kernel
theorem dX0_doItem_147 : decode cX0_doItem 147 = .ok (.iload_n 3, 1) := by decide +kernel
theorem dX0_doItem_148 : decode cX0_doItem 148 = .ok (.iaload, 1) := by decide +kernel
theorem dX0_doItem_149 : decode cX0_doItem 149 = .ok (.invokevirtual 196, 3) := by decide +kernel
theorem dX0_doItem_152 : decode cX0_doItem 152 = .ok (.istore 7, 2) := by decide +kernel
theorem dX0_doItem_154 : decode cX0_doItem 154 = .ok (.iload 7, 2) := by decide +kernel
theorem dX0_doItem_156 : decode cX0_doItem 156 = .ok (.iconst (-1), 1) := by decide +kernel
theorem dX0_doItem_157 : decode cX0_doItem 157 = .ok (.if_icmp .ne 17, 3) := by decide +kernel
theorem dX0_doItem_160 : decode cX0_doItem 160 = .ok (.aload_n 0, 1) := by decide +kernel
theorem dX0_doItem_161 : decode cX0_doItem 161 = .ok (.getfield 46, 3) := by decide +kernel
theorem dX0_doItem_164 : decode cX0_doItem 164 = .ok (.bipush 6, 2) := by decide +kernel
theorem dX0_doItem_166 : decode cX0_doItem 166 = .ok (.aload_n 1, 1) := by decide +kernel
theorem dX0_doItem_167 : decode cX0_doItem 167 = .ok (.getfield 199, 3) := by decide +kernel
theorem dX0_doItem_170 : decode cX0_doItem 170 = .ok (.invokevirtual 146, 3) := by decide +kernel
theorem dX0_doItem_173 : decode cX0_doItem 173 = .ok (.return_, 1) := by decide +kernel
theorem dX0_doItem_174 : decode cX0_doItem 174 = .ok (.iconst 2, 1) := by decide +kernel
theorem dX0_doItem_175 : decode cX0_doItem 175 = .ok (.iload 7, 2) := by decide +kernel
theorem dX0_doItem_177 : decode cX0_doItem 177 = .ok (.invokestatic 202, 3) := by decide +kernel
theorem dX0_doItem_180 : decode cX0_doItem 180 = .ok (.iload 5, 2) := by decide +kernel
theorem dX0_doItem_182 : decode cX0_doItem 182 = .ok (.invokestatic 205, 3) := by decide +kernel
theorem dX0_doItem_185 : decode cX0_doItem 185 = .ok (.istore 5, 2) := by decide +kernel
theorem dX0_doItem_187 : decode cX0_doItem 187 = .ok (.iload 5, 2) := by decide +kernel
theorem dX0_doItem_189 : decode cX0_doItem 189 = .ok (.aload_n 1, 1) := by decide +kernel
theorem dX0_doItem_190 : decode cX0_doItem 190 = .ok (.getfield 199, 3) := by decide +kernel
theorem dX0_doItem_193 : decode cX0_doItem 193 = .ok (.invokestatic 208, 3) := by decide +kernel
theorem dX0_doItem_196 : decode cX0_doItem 196 = .ok (.istore 5, 2) := by decide +kernel
theorem dX0_doItem_198 : decode cX0_doItem 198 = .ok (.aload_n 1, 1) := by decide +kernel
theorem dX0_doItem_199 : decode cX0_doItem 199 = .ok (.getfield 106, 3) := by decide +kernel
theorem dX0_doItem_202 : decode cX0_doItem 202 = .ok (.ifCond .eq 16, 3) := by decide +kernel
theorem dX0_doItem_205 : decode cX0_doItem 205 = .ok (.aload_n 0, 1) := by decide +kernel
theorem dX0_doItem_206 : decode cX0_doItem 206 = .ok (.aload_n 1, 1) := by decide +kernel
theorem dX0_doItem_207 : decode cX0_doItem 207 = .ok (.iload 6, 2) := by decide +kernel
theorem dX0_doItem_209 : decode cX0_doItem 209 = .ok (.iload 5, 2) := by decide +kernel
theorem dX0_doItem_211 : decode cX0_doItem 211 = .ok (.iconst 0, 1) := by decide +kernel
theorem dX0_doItem_212 : decode cX0_doItem 212 = .ok (.invokevirtual 109, 3) := by decide +kernel
theorem dX0_doItem_215 : decode cX0_doItem 215 = .ok (.goto 12, 3) := by decide +kernel
theorem dX0_doItem_218 : decode cX0_doItem 218 = .ok (.aload_n 1, 1) := by decide +kernel
theorem dX0_doItem_219 : decode cX0_doItem 219 = .ok (.iload 6, 2) := by decide +kernel
theorem dX0_doItem_221 : decode cX0_doItem 221 = .ok (.iload 5, 2) := by decide +kernel
theorem dX0_doItem_223 : decode cX0_doItem 223 = .ok (.iconst 0, 1) := by decide +kernel
theorem dX0_doItem_224 : decode cX0_doItem 224 = .ok (.invokevirtual 113, 3) := by decide +kernel
theorem dX0_doItem_227 : decode cX0_doItem 227 = .ok (.return_, 1) := by decide +kernel
theorem dX0_openArgument_0 : decode cX0_openArgument 0 = .ok (.iload_n 2, 1) := by decide +kernel
theorem dX0_openArgument_1 : decode cX0_openArgument 1 = .ok (.ifCond .lt 69, 3) := by decide +kernel
theorem dX0_openArgument_4 : decode cX0_openArgument 4 = .ok (.iload_n 2, 1) := by decide +kernel
theorem dX0_openArgument_5 : decode cX0_openArgument 5 = .ok (.iconst 4, 1) := by decide +kernel
theorem dX0_openArgument_6 : decode cX0_openArgument 6 = .ok (.if_icmp .ge 64, 3) := by decide +kernel
theorem dX0_openArgument_9 : decode cX0_openArgument 9 = .ok (.aload_n 0, 1) := by decide +kernel
theorem dX0_openArgument_10 : decode cX0_openArgument 10 = .ok (.getfield 30, 3) := by decide +kernel
theorem dX0_openArgument_13 : decode cX0_openArgument 13 = .ok (.iconst 1, 1) := by decide +kernel
theorem dX0_openArgument_14 : decode cX0_openArgument 14 = .ok (.iadd, 1) := by decide +kernel
theorem dX0_openArgument_15 : decode cX0_openArgument 15 = .ok (.aload_n 0, 1) := by decide +kernel
theorem dX0_openArgument_16 : decode cX0_openArgument 16 = .ok (.getfield 26, 3) := by decide +kernel
theorem dX0_openArgument_19 : decode cX0_openArgument 19 = .ok (.arraylength, 1) := by decide +kernel
theorem dX0_openArgument_20 : decode cX0_openArgument 20 = .ok (.if_icmp .ge 50, 3) := by decide +kernel
theorem dX0_openArgument_23 : decode cX0_openArgument 23 = .ok (.aload_n 0, 1) := by decide +kernel
theorem dX0_openArgument_24 : decode cX0_openArgument 24 = .ok (.dup, 1) := by decide +kernel
theorem dX0_openArgument_25 : decode cX0_openArgument 25 = .ok (.getfield 30, 3) := by decide +kernel
theorem dX0_openArgument_28 : decode cX0_openArgument 28 = .ok (.iconst 1, 1) := by decide +kernel
theorem dX0_openArgument_29 : decode cX0_openArgument 29 = .ok (.iadd, 1) := by decide +kernel
theorem dX0_openArgument_30 : decode cX0_openArgument 30 = .ok (.putfield 30, 3) := by decide +kernel
theorem dX0_openArgument_33 : decode cX0_openArgument 33 = .ok (.aload_n 0, 1) := by decide +kernel
theorem dX0_openArgument_34 : decode cX0_openArgument 34 = .ok (.getfield 26, 3) := by decide +kernel
theorem dX0_openArgument_37 : decode cX0_openArgument 37 = .ok (.aload_n 0, 1) := by decide +kernel
theorem dX0_openArgument_38 : decode cX0_openArgument 38 = .ok (.getfield 30, 3) := by decide +kernel
theorem dX0_openArgument_41 : decode cX0_openArgument 41 = .ok (.aaload, 1) := by decide +kernel
theorem dX0_openArgument_42 : decode cX0_openArgument 42 = .ok (.aload_n 1, 1) := by decide +kernel
theorem dX0_openArgument_43 : decode cX0_openArgument 43 = .ok (.getfield 159, 3) := by decide +kernel
theorem dX0_openArgument_46 : decode cX0_openArgument 46 = .ok (.iload_n 2, 1) := by decide +kernel
theorem dX0_openArgument_47 : decode cX0_openArgument 47 = .ok (.iaload, 1) := by decide +kernel
theorem dX0_openArgument_48 : decode cX0_openArgument 48 = .ok (.aload_n 1, 1) := by decide +kernel
theorem dX0_openArgument_49 : decode cX0_openArgument 49 = .ok (.getfield 162, 3) := by decide +kernel
theorem dX0_openArgument_52 : decode cX0_openArgument 52 = .ok (.iload_n 2, 1) := by decide +kernel
theorem dX0_openArgument_53 : decode cX0_openArgument 53 = .ok (.iaload, 1) := by decide +kernel
theorem dX0_openArgument_54 : decode cX0_openArgument 54 = .ok (.invokevirtual 67, 3) := by decide +kernel
theorem dX0_openArgument_57 : decode cX0_openArgument 57 = .ok (.aload_n 0, 1) := by decide +kernel
theorem dX0_openArgument_58 : decode cX0_openArgument 58 = .ok (.getfield 26, 3) := by decide +kernel
theorem dX0_openArgument_61 : decode cX0_openArgument 61 = .ok (.aload_n 0, 1) := by decide +kernel
theorem dX0_openArgument_62 : decode cX0_openArgument 62 = .ok (.getfield 30, 3) := by decide +kernel
theorem dX0_openArgument_65 : decode cX0_openArgument 65 = .ok (.aaload, 1) := by decide +kernel
theorem dX0_openArgument_66 : decode cX0_openArgument 66 = .ok (.iload_n 3, 1) := by decide +kernel
theorem dX0_openArgument_67 : decode cX0_openArgument 67 = .ok (.putfield 90, 3) := by decide +kernel
theorem dX0_openArgument_70 : decode cX0_openArgument 70 = .ok (.return_, 1) := by decide +kernel
theorem dX0_paste_0 : decode cX0_paste 0 = .ok (.aload_n 1, 1) := by decide +kernel
theorem dX0_paste_1 : decode cX0_paste 1 = .ok (.getfield 211, 3) := by decide +kernel
theorem dX0_paste_4 : decode cX0_paste 4 = .ok (.astore 5, 2) := by decide +kernel
theorem dX0_paste_6 : decode cX0_paste 6 = .ok (.aload 5, 2) := by decide +kernel
theorem dX0_paste_8 : decode cX0_paste 8 = .ok (.getfield 60, 3) := by decide +kernel
theorem dX0_paste_11 : decode cX0_paste 11 = .ok (.iconst 1, 1) := by decide +kernel
theorem dX0_paste_12 : decode cX0_paste 12 = .ok (.isub, 1) := by decide +kernel
theorem dX0_paste_13 : decode cX0_paste 13 = .ok (.istore 6, 2) := by decide +kernel
theorem dX0_paste_15 : decode cX0_paste 15 = .ok (.aload_n 1, 1) := by decide +kernel
theorem dX0_paste_16 : decode cX0_paste 16 = .ok (.iconst 0, 1) := by decide +kernel
theorem dX0_paste_17 : decode cX0_paste 17 = .ok (.putfield 106, 3) := by decide +kernel
theorem dX0_paste_20 : decode cX0_paste 20 = .ok (.aload_n 1, 1) := by decide +kernel
theorem dX0_paste_21 : decode cX0_paste 21 = .ok (.iconst 0, 1) := by decide +kernel
theorem dX0_paste_22 : decode cX0_paste 22 = .ok (.putfield 214, 3) := by decide +kernel
theorem dX0_paste_25 : decode cX0_paste 25 = .ok (.iload 6, 2) := by decide +kernel
theorem dX0_paste_27 : decode cX0_paste 27 = .ok (.ifCond .lt 10, 3) := by decide +kernel
theorem dX0_paste_30 : decode cX0_paste 30 = .ok (.aload_n 1, 1) := by decide +kernel
theorem dX0_paste_31 : decode cX0_paste 31 = .ok (.getfield 217, 3) := by decide +kernel
theorem dX0_paste_34 : decode cX0_paste 34 = .ok (.ifCond .eq 4, 3) := by decide +kernel
theorem dX0_paste_37 : decode cX0_paste 37 = .ok (.return_, 1) := by decide +kernel
theorem dX0_paste_38 : decode cX0_paste 38 = .ok (.aload 5, 2) := by decide +kernel
theorem dX0_paste_40 : decode cX0_paste 40 = .ok (.getfield 100, 3) := by decide +kernel
theorem dX0_paste_43 : decode cX0_paste 43 = .ok (.iload 6, 2) := by decide +kernel
theorem dX0_paste_45 : decode cX0_paste 45 = .ok (.iaload, 1) := by decide +kernel
theorem dX0_paste_46 : decode cX0_paste 46 = .ok (.invokestatic 121, 3) := by decide +kernel
theorem dX0_paste_49 : decode cX0_paste 49 = .ok (.istore 7, 2) := by decide +kernel
theorem dX0_paste_51 : decode cX0_paste 51 = .ok (.iload 7, 2) := by decide +kernel
theorem dX0_paste_53 : decode cX0_paste 53 = .ok (.iload_n 3, 1) := by decide +kernel
theorem dX0_paste_54 : decode cX0_paste 54 = .ok (.invokestatic 121, 3) := by decide +kernel
theorem dX0_paste_57 : decode cX0_paste 57 = .ok (.iadd, 1) := by decide +kernel
theorem dX0_paste_58 : decode cX0_paste 58 = .ok (.istore 8, 2) := by decide +kernel
theorem dX0_paste_60 : decode cX0_paste 60 = .ok (.aload_n 0, 1) := by decide +kernel
theorem dX0_paste_61 : decode cX0_paste 61 = .ok (.getfield 38, 3) := by decide +kernel
theorem dX0_paste_64 : decode cX0_paste 64 = .ok (.getfield 193, 3) := by decide +kernel
theorem dX0_paste_67 : decode cX0_paste 67 = .ok (.istore 9, 2) := by decide +kernel
theorem dX0_paste_69 : decode cX0_paste 69 = .ok (.iload 8, 2) := by decide +kernel
theorem dX0_paste_71 : decode cX0_paste 71 = .ok (.bipush 30, 2) := by decide +kernel
theorem dX0_paste_73 : decode cX0_paste 73 = .ok (.if_icmp .gt 19, 3) := by decide +kernel
theorem dX0_paste_76 : decode cX0_paste 76 = .ok (.iload 9, 2) := by decide +kernel
theorem dX0_paste_78 : decode cX0_paste 78 = .ok (.iload 8, 2) := by decide +kernel
theorem dX0_paste_80 : decode cX0_paste 80 = .ok (.iadd, 1) := by decide +kernel
theorem dX0_paste_81 : decode cX0_paste 81 = .ok (.aload_n 0, 1) := by decide +kernel
theorem dX0_paste_82 : decode cX0_paste 82 = .ok (.getfield 38, 3) := by decide +kernel
theorem dX0_paste_85 : decode cX0_paste 85 = .ok (.getfield 220, 3) := by decide +kernel
theorem dX0_paste_88 : decode cX0_paste 88 = .ok (.arraylength, 1) := by decide +kernel
theorem dX0_paste_89 : decode cX0_paste 89 = .ok (.if_icmp .le 9, 3) := by decide +kernel
theorem dX0_paste_92 : decode cX0_paste 92 = .ok (.aload_n 1, 1) := by decide +kernel
theorem dX0_paste_93 : decode cX0_paste 93 = .ok (.iconst 1, 1) := by decide +kernel
theorem dX0_paste_94 : decode cX0_paste 94 = .ok (.putfield 217, 3) := by decide +kernel
theorem dX0_paste_97 : decode cX0_paste 97 = .ok (.return_, 1) := by decide +kernel
theorem dX0_paste_98 : decode cX0_paste 98 = .ok (.aload_n 0, 1) := by decide +kernel
theorem dX0_paste_99 : decode cX0_paste 99 = .ok (.getfield 38, 3) := by decide +kernel
theorem dX0_paste_102 : decode cX0_paste 102 = .ok (.getfield 220, 3) := by decide +kernel
theorem dX0_paste_105 : decode cX0_paste 105 = .ok (.aload 5, 2) := by decide +kernel
theorem dX0_paste_107 : decode cX0_paste 107 = .ok (.getfield 97, 3) := by decide +kernel
theorem dX0_paste_110 : decode cX0_paste 110 = .ok (.iload 6, 2) := by decide +kernel
theorem dX0_paste_112 : decode cX0_paste 112 = .ok (.iaload, 1) := by decide +kernel
theorem dX0_paste_113 : decode cX0_paste 113 = .ok (.aload_n 0, 1) := by decide +kernel
theorem dX0_paste_114 : decode cX0_paste 114 = .ok (.getfield 38, 3) := by decide +kernel
theorem dX0_paste_117 : decode cX0_paste 117 = .ok (.getfield 220, 3) := by decide +kernel
theorem dX0_paste_120 : decode cX0_paste 120 = .ok (.iload 9, 2) := by decide +kernel
theorem dX0_paste_122 : decode cX0_paste 122 = .ok (.iload 7, 2) := by decide +kernel
theorem dX0_paste_124 : decode cX0_paste 124 = .ok (.invokestatic 224, 3) := by decide +kernel
theorem dX0_paste_127 : decode cX0_paste 127 = .ok (.aload_n 0, 1) := by decide +kernel
theorem dX0_paste_128 : decode cX0_paste 128 = .ok (.getfield 38, 3) := by decide +kernel
theorem dX0_paste_131 : decode cX0_paste 131 = .ok (.getfield 220, 3) := by decide +kernel
theorem dX0_paste_134 : decode cX0_paste 134 = .ok (.iload_n 2, 1) := by decide +kernel
theorem dX0_paste_135 : decode cX0_paste 135 = .ok (.aload_n 0, 1) := by decide +kernel
theorem dX0_paste_136 : decode cX0_paste 136 = .ok (.getfield 38, 3) := by decide +kernel
theorem dX0_paste_139 : decode cX0_paste 139 = .ok (.getfield 220, 3) := by decide +kernel
theorem dX0_paste_142 : decode cX0_paste 142 = .ok (.iload 9, 2) := by decide +kernel
theorem dX0_paste_144 : decode cX0_paste 144 = .ok (.iload 7, 2) := by decide +kernel
theorem dX0_paste_146 : decode cX0_paste 146 = .ok (.iadd, 1) := by decide +kernel
theorem dX0_paste_147 : decode cX0_paste 147 = .ok (.iload 8, 2) := by decide +kernel
theorem dX0_paste_149 : decode cX0_paste 149 = .ok (.iload 7, 2) := by decide +kernel
theorem dX0_paste_151 : decode cX0_paste 151 = .ok (.isub, 1) := by decide +kernel
theorem dX0_paste_152 : decode cX0_paste 152 = .ok (.invokestatic 224, 3) := by decide +kernel
theorem dX0_paste_155 : decode cX0_paste 155 = .ok (.aload_n 0, 1) := by decide +kernel
theorem dX0_paste_156 : decode cX0_paste 156 = .ok (.getfield 38, 3) := by decide +kernel
theorem dX0_paste_159 : decode cX0_paste 159 = .ok (.iload 9, 2) := by decide +kernel
theorem dX0_paste_161 : decode cX0_paste 161 = .ok (.iload 9, 2) := by decide +kernel
theorem dX0_paste_163 : decode cX0_paste 163 = .ok (.iload 8, 2) := by decide +kernel
theorem dX0_paste_165 : decode cX0_paste 165 = .ok (.iadd, 1) := by decide +kernel
theorem dX0_paste_166 : decode cX0_paste 166 = .ok (.invokevirtual 230, 3) := by decide +kernel
theorem dX0_paste_169 : decode cX0_paste 169 = .ok (.iload 9, 2) := by decide +kernel
theorem dX0_paste_171 : decode cX0_paste 171 = .ok (.iload 8, 2) := by decide +kernel
theorem dX0_paste_173 : decode cX0_paste 173 = .ok (.iadd, 1) := by decide +kernel
theorem dX0_paste_174 : decode cX0_paste 174 = .ok (.if_icmp .eq 9, 3) := by decide +kernel
theorem dX0_paste_177 : decode cX0_paste 177 = .ok (.aload_n 1, 1) := by decide +kernel
theorem dX0_paste_178 : decode cX0_paste 178 = .ok (.iconst 1, 1) := by decide +kernel
theorem dX0_paste_179 : decode cX0_paste 179 = .ok (.putfield 217, 3) := by decide +kernel
theorem dX0_paste_182 : decode cX0_paste 182 = .ok (.return_, 1) := by decide +kernel
theorem dX0_paste_183 : decode cX0_paste 183 = .ok (.aload_n 0, 1) := by decide +kernel
theorem dX0_paste_184 : decode cX0_paste 184 = .ok (.getfield 38, 3) := by decide +kernel
theorem dX0_paste_187 : decode cX0_paste 187 = .ok (.dup, 1) := by decide +kernel
theorem dX0_paste_188 : decode cX0_paste 188 = .ok (.getfield 193, 3) := by decide +kernel
theorem dX0_paste_191 : decode cX0_paste 191 = .ok (.iload 8, 2) := by decide +kernel
theorem dX0_paste_193 : decode cX0_paste 193 = .ok (.iadd, 1) := by decide +kernel
theorem dX0_paste_194 : decode cX0_paste 194 = .ok (.putfield 193, 3) := by decide +kernel
theorem dX0_paste_197 : decode cX0_paste 197 = .ok (.aload 5, 2) := by decide +kernel
theorem dX0_paste_199 : decode cX0_paste 199 = .ok (.getfield 97, 3) := by decide +kernel
theorem dX0_paste_202 : decode cX0_paste 202 = .ok (.iload 6, 2) := by decide +kernel
theorem dX0_paste_204 : decode cX0_paste 204 = .ok (.iload 9, 2) := by decide +kernel
theorem dX0_paste_206 : decode cX0_paste 206 = .ok (.iastore, 1) := by decide +kernel
theorem dX0_paste_207 : decode cX0_paste 207 = .ok (.aload 5, 2) := by decide +kernel
theorem dX0_paste_209 : decode cX0_paste 209 = .ok (.getfield 100, 3) := by decide +kernel
theorem dX0_paste_212 : decode cX0_paste 212 = .ok (.iload 6, 2) := by decide +kernel
theorem dX0_paste_214 : decode cX0_paste 214 = .ok (.aload 5, 2) := by decide +kernel
theorem dX0_paste_216 : decode cX0_paste 216 = .ok (.getfield 100, 3) := by decide +kernel
theorem dX0_paste_219 : decode cX0_paste 219 = .ok (.iload 6, 2) := by decide +kernel
theorem dX0_paste_221 : decode cX0_paste 221 = .ok (.iaload, 1) := by decide +kernel
theorem dX0_paste_222 : decode cX0_paste 222 = .ok (.bipush (-128), 2) := by decide +kernel
theorem dX0_paste_224 : decode cX0_paste 224 = .ok (.iand, 1) := by decide +kernel
theorem dX0_paste_225 : decode cX0_paste 225 = .ok (.aload_n 0, 1) := by decide +kernel
theorem dX0_paste_226 : decode cX0_paste 226 = .ok (.getfield 38, 3) := by decide +kernel
theorem dX0_paste_229 : decode cX0_paste 229 = .ok (.iload 9, 2) := by decide +kernel
theorem dX0_paste_231 : decode cX0_paste 231 = .ok (.invokevirtual 233, 3) := by decide +kernel
theorem dX0_paste_234 : decode cX0_paste 234 = .ok (.iload 8, 2) := by decide +kernel
theorem dX0_paste_236 : decode cX0_paste 236 = .ok (.invokestatic 202, 3) := by decide +kernel
theorem dX0_paste_239 : decode cX0_paste 239 = .ok (.ior, 1) := by decide +kernel
theorem dX0_paste_240 : decode cX0_paste 240 = .ok (.iastore, 1) := by decide +kernel
theorem dX0_paste_241 : decode cX0_paste 241 = .ok (.aload 5, 2) := by decide +kernel
theorem dX0_paste_243 : decode cX0_paste 243 = .ok (.getfield 103, 3) := by decide +kernel
theorem dX0_paste_246 : decode cX0_paste 246 = .ok (.iload 6, 2) := by decide +kernel
theorem dX0_paste_248 : decode cX0_paste 248 = .ok (.dup2, 1) := by decide +kernel
theorem dX0_paste_249 : decode cX0_paste 249 = .ok (.iaload, 1) := by decide +kernel
theorem dX0_paste_250 : decode cX0_paste 250 = .ok (.iload 4, 2) := by decide +kernel
theorem dX0_paste_252 : decode cX0_paste 252 = .ok (.iand, 1) := by decide +kernel
theorem dX0_paste_253 : decode cX0_paste 253 = .ok (.iastore, 1) := by decide +kernel
theorem dX0_paste_254 : decode cX0_paste 254 = .ok (.aload_n 1, 1) := by decide +kernel
theorem dX0_paste_255 : decode cX0_paste 255 = .ok (.dup, 1) := by decide +kernel
theorem dX0_paste_256 : decode cX0_paste 256 = .ok (.getfield 236, 3) := by decide +kernel
theorem dX0_paste_259 : decode cX0_paste 259 = .ok (.iconst 1, 1) := by decide +kernel
theorem dX0_paste_260 : decode cX0_paste 260 = .ok (.iadd, 1) := by decide +kernel
theorem dX0_paste_261 : decode cX0_paste 261 = .ok (.putfield 236, 3) := by decide +kernel
theorem dX0_paste_264 : decode cX0_paste 264 = .ok (.return_, 1) := by decide +kernel
theorem dX0_makeString_0 : decode cX0_makeString 0 = .ok (.aload_n 0, 1) := by decide +kernel
theorem dX0_makeString_1 : decode cX0_makeString 1 = .ok (.getfield 38, 3) := by decide +kernel
theorem dX0_makeString_4 : decode cX0_makeString 4 = .ok (.getfield 193, 3) := by decide +kernel
theorem dX0_makeString_7 : decode cX0_makeString 7 = .ok (.istore_n 3, 1) := by decide +kernel
theorem dX0_makeString_8 : decode cX0_makeString 8 = .ok (.iload_n 2, 1) := by decide +kernel
theorem dX0_makeString_9 : decode cX0_makeString 9 = .ok (.ifCond .lt 23, 3) := by decide +kernel
theorem dX0_makeString_12 : decode cX0_makeString 12 = .ok (.iload_n 2, 1) := by decide +kernel
theorem dX0_makeString_13 : decode cX0_makeString 13 = .ok (.iconst 4, 1) := by decide +kernel
theorem dX0_makeString_14 : decode cX0_makeString 14 = .ok (.if_icmp .ge 18, 3) := by decide +kernel
theorem dX0_makeString_17 : decode cX0_makeString 17 = .ok (.iload_n 3, 1) := by decide +kernel
theorem dX0_makeString_18 : decode cX0_makeString 18 = .ok (.bipush 30, 2) := by decide +kernel
theorem dX0_makeString_20 : decode cX0_makeString 20 = .ok (.iadd, 1) := by decide +kernel
theorem dX0_makeString_21 : decode cX0_makeString 21 = .ok (.aload_n 0, 1) := by decide +kernel
theorem dX0_makeString_22 : decode cX0_makeString 22 = .ok (.getfield 38, 3) := by decide +kernel
theorem dX0_makeString_25 : decode cX0_makeString 25 = .ok (.getfield 220, 3) := by decide +kernel
theorem dX0_makeString_28 : decode cX0_makeString 28 = .ok (.arraylength, 1) := by decide +kernel
theorem dX0_makeString_29 : decode cX0_makeString 29 = .ok (.if_icmp .le 5, 3) := by decide +kernel
theorem dX0_makeString_32 : decode cX0_makeString 32 = .ok (.iconst (-1), 1) := by decide +kernel
theorem dX0_makeString_33 : decode cX0_makeString 33 = .ok (.ireturn, 1) := by decide +kernel
theorem dX0_makeString_34 : decode cX0_makeString 34 = .ok (.iconst 1, 1) := by decide +kernel
theorem dX0_makeString_35 : decode cX0_makeString 35 = .ok (.istore 4, 2) := by decide +kernel
theorem dX0_makeString_37 : decode cX0_makeString 37 = .ok (.aload_n 0, 1) := by decide +kernel
theorem dX0_makeString_38 : decode cX0_makeString 38 = .ok (.getfield 38, 3) := by decide +kernel
theorem dX0_makeString_41 : decode cX0_makeString 41 = .ok (.getfield 220, 3) := by decide +kernel
theorem dX0_makeString_44 : decode cX0_makeString 44 = .ok (.iload_n 3, 1) := by decide +kernel
theorem dX0_makeString_45 : decode cX0_makeString 45 = .ok (.bipush 34, 2) := by decide +kernel
theorem dX0_makeString_47 : decode cX0_makeString 47 = .ok (.bastore, 1) := by decide +kernel
theorem dX0_makeString_48 : decode cX0_makeString 48 = .ok (.aload_n 1, 1) := by decide +kernel
theorem dX0_makeString_49 : decode cX0_makeString 49 = .ok (.getfield 159, 3) := by decide +kernel
theorem dX0_makeString_52 : decode cX0_makeString 52 = .ok (.iload_n 2, 1) := by decide +kernel
theorem dX0_makeString_53 : decode cX0_makeString 53 = .ok (.iaload, 1) := by decide +kernel
theorem dX0_makeString_54 : decode cX0_makeString 54 = .ok (.istore 5, 2) := by decide +kernel
theorem dX0_makeString_56 : decode cX0_makeString 56 = .ok (.aload_n 1, 1) := by decide +kernel
theorem dX0_makeString_57 : decode cX0_makeString 57 = .ok (.getfield 162, 3) := by decide +kernel
theorem dX0_makeString_60 : decode cX0_makeString 60 = .ok (.iload_n 2, 1) := by decide +kernel
theorem dX0_makeString_61 : decode cX0_makeString 61 = .ok (.iaload, 1) := by decide +kernel
theorem dX0_makeString_62 : decode cX0_makeString 62 = .ok (.istore 6, 2) := by decide +kernel
theorem dX0_makeString_64 : decode cX0_makeString 64 = .ok (.iload 5, 2) := by decide +kernel
theorem dX0_makeString_66 : decode cX0_makeString 66 = .ok (.istore 7, 2) := by decide +kernel
theorem dX0_makeString_68 : decode cX0_makeString 68 = .ok (.iconst 0, 1) := by decide +kernel
theorem dX0_makeString_69 : decode cX0_makeString 69 = .ok (.istore 8, 2) := by decide +kernel
theorem dX0_makeString_71 : decode cX0_makeString 71 = .ok (.iload 8, 2) := by decide +kernel
theorem dX0_makeString_73 : decode cX0_makeString 73 = .ok (.sipush 3440, 3) := by decide +kernel
theorem dX0_makeString_76 : decode cX0_makeString 76 = .ok (.if_icmp .ge 171, 3) := by decide +kernel
theorem dX0_makeString_79 : decode cX0_makeString 79 = .ok (.iload 7, 2) := by decide +kernel
theorem dX0_makeString_81 : decode cX0_makeString 81 = .ok (.iload 6, 2) := by decide +kernel
theorem dX0_makeString_83 : decode cX0_makeString 83 = .ok (.if_icmp .eq 164, 3) := by decide +kernel
theorem dX0_makeString_86 : decode cX0_makeString 86 = .ok (.iload 7, 2) := by decide +kernel
theorem dX0_makeString_88 : decode cX0_makeString 88 = .ok (.ifCond .lt 159, 3) := by decide +kernel
theorem dX0_makeString_91 : decode cX0_makeString 91 = .ok (.aload_n 0, 1) := by decide +kernel
theorem dX0_makeString_92 : decode cX0_makeString 92 = .ok (.getfield 14, 3) := by decide +kernel
theorem dX0_makeString_95 : decode cX0_makeString 95 = .ok (.getfield 100, 3) := by decide +kernel
theorem dX0_makeString_98 : decode cX0_makeString 98 = .ok (.iload 7, 2) := by decide +kernel
theorem dX0_makeString_100 : decode cX0_makeString 100 = .ok (.iaload, 1) := by decide +kernel
theorem dX0_makeString_101 : decode cX0_makeString 101 = .ok (.istore 9, 2) := by decide +kernel
theorem dX0_makeString_103 : decode cX0_makeString 103 = .ok (.iload 7, 2) := by decide +kernel
theorem dX0_makeString_105 : decode cX0_makeString 105 = .ok (.iload 5, 2) := by decide +kernel
theorem dX0_makeString_107 : decode cX0_makeString 107 = .ok (.if_icmp .eq 29, 3) := by decide +kernel
theorem dX0_makeString_110 : decode cX0_makeString 110 = .ok (.iload 9, 2) := by decide +kernel
theorem dX0_makeString_112 : decode cX0_makeString 112 = .ok (.invokestatic 239, 3) := by decide +kernel
theorem dX0_makeString_115 : decode cX0_makeString 115 = .ok (.iconst 1, 1) := by decide +kernel
theorem dX0_makeString_116 : decode cX0_makeString 116 = .ok (.if_icmp .ne 20, 3) := by decide +kernel
theorem dX0_makeString_119 : decode cX0_makeString 119 = .ok (.aload_n 0, 1) := by decide +kernel
theorem dX0_makeString_120 : decode cX0_makeString 120 = .ok (.getfield 38, 3) := by decide +kernel
theorem dX0_makeString_123 : decode cX0_makeString 123 = .ok (.getfield 220, 3) := by decide +kernel
theorem dX0_makeString_126 : decode cX0_makeString 126 = .ok (.iload_n 3, 1) := by decide +kernel
theorem dX0_makeString_127 : decode cX0_makeString 127 = .ok (.iload 4, 2) := by decide +kernel
theorem dX0_makeString_129 : decode cX0_makeString 129 = .ok (.iadd, 1) := by decide +kernel
theorem dX0_makeString_130 : decode cX0_makeString 130 = .ok (.bipush 32, 2) := by decide +kernel
theorem dX0_makeString_132 : decode cX0_makeString 132 = .ok (.bastore, 1) := by decide +kernel
theorem dX0_makeString_133 : decode cX0_makeString 133 = .ok (.iinc 4 1, 3) := by decide +kernel
theorem dX0_makeString_136 : decode cX0_makeString 136 = .ok (.iload 9, 2) := by decide +kernel
theorem dX0_makeString_138 : decode cX0_makeString 138 = .ok (.invokestatic 121, 3) := by decide +kernel
theorem dX0_makeString_141 : decode cX0_makeString 141 = .ok (.istore 10, 2) := by decide +kernel
theorem dX0_makeString_143 : decode cX0_makeString 143 = .ok (.iload 4, 2) := by decide +kernel
theorem dX0_makeString_145 : decode cX0_makeString 145 = .ok (.iload 10, 2) := by decide +kernel
theorem dX0_makeString_147 : decode cX0_makeString 147 = .ok (.iadd, 1) := by decide +kernel
theorem dX0_makeString_148 : decode cX0_makeString 148 = .ok (.iconst 1, 1) := by decide +kernel
theorem dX0_makeString_149 : decode cX0_makeString 149 = .ok (.iadd, 1) := by decide +kernel
theorem dX0_makeString_150 : decode cX0_makeString 150 = .ok (.bipush 30, 2) := by decide +kernel
theorem dX0_makeString_152 : decode cX0_makeString 152 = .ok (.if_icmp .le 5, 3) := by decide +kernel
theorem dX0_makeString_155 : decode cX0_makeString 155 = .ok (.iconst (-1), 1) := by decide +kernel
theorem dX0_makeString_156 : decode cX0_makeString 156 = .ok (.ireturn, 1) := by decide +kernel
theorem dX0_makeString_157 : decode cX0_makeString 157 = .ok (.iconst 0, 1) := by decide +kernel
theorem dX0_makeString_158 : decode cX0_makeString 158 = .ok (.istore 11, 2) := by decide +kernel
theorem dX0_makeString_160 : decode cX0_makeString 160 = .ok (.iload 11, 2) := by decide +kernel
theorem dX0_makeString_162 : decode cX0_makeString 162 = .ok (.iload 10, 2) := by decide +kernel
theorem dX0_makeString_164 : decode cX0_makeString 164 = .ok (.if_icmp .ge 61, 3) := by decide +kernel
theorem dX0_makeString_167 : decode cX0_makeString 167 = .ok (.aload_n 0, 1) := by decide +kernel
theorem dX0_makeString_168 : decode cX0_makeString 168 = .ok (.getfield 38, 3) := by decide +kernel
theorem dX0_makeString_171 : decode cX0_makeString 171 = .ok (.getfield 220, 3) := by decide +kernel
theorem dX0_makeString_174 : decode cX0_makeString 174 = .ok (.aload_n 0, 1) := by decide +kernel
theorem dX0_makeString_175 : decode cX0_makeString 175 = .ok (.getfield 14, 3) := by decide +kernel
theorem dX0_makeString_178 : decode cX0_makeString 178 = .ok (.getfield 97, 3) := by decide +kernel
theorem dX0_makeString_181 : decode cX0_makeString 181 = .ok (.iload 7, 2) := by decide +kernel
theorem dX0_makeString_183 : decode cX0_makeString 183 = .ok (.iaload, 1) := by decide +kernel
theorem dX0_makeString_184 : decode cX0_makeString 184 = .ok (.iload 11, 2) := by decide +kernel
theorem dX0_makeString_186 : decode cX0_makeString 186 = .ok (.iadd, 1) := by decide +kernel
theorem dX0_makeString_187 : decode cX0_makeString 187 = .ok (.baload, 1) := by decide +kernel
theorem dX0_makeString_188 : decode cX0_makeString 188 = .ok (.istore 12, 2) := by decide +kernel
theorem dX0_makeString_190 : decode cX0_makeString 190 = .ok (.aload_n 0, 1) := by decide +kernel
theorem dX0_makeString_191 : decode cX0_makeString 191 = .ok (.getfield 38, 3) := by decide +kernel
theorem dX0_makeString_194 : decode cX0_makeString 194 = .ok (.getfield 220, 3) := by decide +kernel
theorem dX0_makeString_197 : decode cX0_makeString 197 = .ok (.iload_n 3, 1) := by decide +kernel
theorem dX0_makeString_198 : decode cX0_makeString 198 = .ok (.iload 4, 2) := by decide +kernel
theorem dX0_makeString_200 : decode cX0_makeString 200 = .ok (.iadd, 1) := by decide +kernel
theorem dX0_makeString_201 : decode cX0_makeString 201 = .ok (.iload 11, 2) := by decide +kernel
theorem dX0_makeString_203 : decode cX0_makeString 203 = .ok (.iadd, 1) := by decide +kernel
theorem dX0_makeString_204 : decode cX0_makeString 204 = .ok (.iload 12, 2) := by decide +kernel
theorem dX0_makeString_206 : decode cX0_makeString 206 = .ok (.bipush 34, 2) := by decide +kernel
theorem dX0_makeString_208 : decode cX0_makeString 208 = .ok (.if_icmp .ne 8, 3) := by decide +kernel
theorem dX0_makeString_211 : decode cX0_makeString 211 = .ok (.bipush 39, 2) := by decide +kernel
theorem dX0_makeString_213 : decode cX0_makeString 213 = .ok (.goto 5, 3) := by decide +kernel
theorem dX0_makeString_216 : decode cX0_makeString 216 = .ok (.iload 12, 2) := by decide +kernel
theorem dX0_makeString_218 : decode cX0_makeString 218 = .ok (.bastore, 1) := by decide +kernel
theorem dX0_makeString_219 : decode cX0_makeString 219 = .ok (.iinc 11 1, 3) := by decide +kernel
theorem dX0_makeString_222 : decode cX0_makeString 222 = .ok (.goto (-62), 3) := by decide +kernel
theorem dX0_makeString_225 : decode cX0_makeString 225 = .ok (.iload 4, 2) := by decide +kernel
theorem dX0_makeString_227 : decode cX0_makeString 227 = .ok (.iload 10, 2) := by decide +kernel
theorem dX0_makeString_229 : decode cX0_makeString 229 = .ok (.iadd, 1) := by decide +kernel
theorem dX0_makeString_230 : decode cX0_makeString 230 = .ok (.istore 4, 2) := by decide +kernel
theorem dX0_makeString_232 : decode cX0_makeString 232 = .ok (.aload_n 0, 1) := by decide +kernel
theorem dX0_makeString_233 : decode cX0_makeString 233 = .ok (.getfield 20, 3) := by decide +kernel
theorem dX0_makeString_236 : decode cX0_makeString 236 = .ok (.iload 7, 2) := by decide +kernel
theorem dX0_makeString_238 : decode cX0_makeString 238 = .ok (.iaload, 1) := by decide +kernel
theorem dX0_makeString_239 : decode cX0_makeString 239 = .ok (.istore 7, 2) := by decide +kernel
theorem dX0_makeString_241 : decode cX0_makeString 241 = .ok (.iinc 8 1, 3) := by decide +kernel
theorem dX0_makeString_244 : decode cX0_makeString 244 = .ok (.goto (-173), 3) := by decide +kernel
theorem dX0_makeString_247 : decode cX0_makeString 247 = .ok (.aload_n 0, 1) := by decide +kernel
theorem dX0_makeString_248 : decode cX0_makeString 248 = .ok (.getfield 38, 3) := by decide +kernel
theorem dX0_makeString_251 : decode cX0_makeString 251 = .ok (.getfield 220, 3) := by decide +kernel
theorem dX0_makeString_254 : decode cX0_makeString 254 = .ok (.iload_n 3, 1) := by decide +kernel
theorem dX0_makeString_255 : decode cX0_makeString 255 = .ok (.iload 4, 2) := by decide +kernel
theorem dX0_makeString_257 : decode cX0_makeString 257 = .ok (.iadd, 1) := by decide +kernel
theorem dX0_makeString_258 : decode cX0_makeString 258 = .ok (.bipush 34, 2) := by decide +kernel
theorem dX0_makeString_260 : decode cX0_makeString 260 = .ok (.bastore, 1) := by decide +kernel
theorem dX0_makeString_261 : decode cX0_makeString 261 = .ok (.aload_n 0, 1) := by decide +kernel
theorem dX0_makeString_262 : decode cX0_makeString 262 = .ok (.getfield 38, 3) := by decide +kernel
theorem dX0_makeString_265 : decode cX0_makeString 265 = .ok (.dup, 1) := by decide +kernel
theorem dX0_makeString_266 : decode cX0_makeString 266 = .ok (.getfield 193, 3) := by decide +kernel
theorem dX0_makeString_269 : decode cX0_makeString 269 = .ok (.iload 4, 2) := by decide +kernel
theorem dX0_makeString_271 : decode cX0_makeString 271 = .ok (.iconst 1, 1) := by decide +kernel
theorem dX0_makeString_272 : decode cX0_makeString 272 = .ok (.iadd, 1) := by decide +kernel
theorem dX0_makeString_273 : decode cX0_makeString 273 = .ok (.iadd, 1) := by decide +kernel
theorem dX0_makeString_274 : decode cX0_makeString 274 = .ok (.putfield 193, 3) := by decide +kernel
theorem dX0_makeString_277 : decode cX0_makeString 277 = .ok (.aload_n 0, 1) := by decide +kernel
theorem dX0_makeString_278 : decode cX0_makeString 278 = .ok (.getfield 50, 3) := by decide +kernel
theorem dX0_makeString_281 : decode cX0_makeString 281 = .ok (.bipush 8, 2) := by decide +kernel
theorem dX0_makeString_283 : decode cX0_makeString 283 = .ok (.dup2, 1) := by decide +kernel
theorem dX0_makeString_284 : decode cX0_makeString 284 = .ok (.iaload, 1) := by decide +kernel
theorem dX0_makeString_285 : decode cX0_makeString 285 = .ok (.iconst 1, 1) := by decide +kernel
theorem dX0_makeString_286 : decode cX0_makeString 286 = .ok (.iadd, 1) := by decide +kernel
theorem dX0_makeString_287 : decode cX0_makeString 287 = .ok (.iastore, 1) := by decide +kernel
theorem dX0_makeString_288 : decode cX0_makeString 288 = .ok (.iload 4, 2) := by decide +kernel
theorem dX0_makeString_290 : decode cX0_makeString 290 = .ok (.iconst 1, 1) := by decide +kernel
theorem dX0_makeString_291 : decode cX0_makeString 291 = .ok (.iadd, 1) := by decide +kernel
theorem dX0_makeString_292 : decode cX0_makeString 292 = .ok (.ireturn, 1) := by decide +kernel
theorem dX0_putInPlace_0 : decode cX0_putInPlace 0 = .ok (.aload_n 0, 1) := by decide +kernel
theorem dX0_putInPlace_1 : decode cX0_putInPlace 1 = .ok (.getfield 50, 3) := by decide +kernel
theorem dX0_putInPlace_4 : decode cX0_putInPlace 4 = .ok (.bipush 7, 2) := by decide +kernel
theorem dX0_putInPlace_6 : decode cX0_putInPlace 6 = .ok (.dup2, 1) := by decide +kernel
theorem dX0_putInPlace_7 : decode cX0_putInPlace 7 = .ok (.iaload, 1) := by decide +kernel
theorem dX0_putInPlace_8 : decode cX0_putInPlace 8 = .ok (.aload_n 1, 1) := by decide +kernel
theorem dX0_putInPlace_9 : decode cX0_putInPlace 9 = .ok (.getfield 236, 3) := by decide +kernel
theorem dX0_putInPlace_12 : decode cX0_putInPlace 12 = .ok (.iadd, 1) := by decide +kernel
theorem dX0_putInPlace_13 : decode cX0_putInPlace 13 = .ok (.iastore, 1) := by decide +kernel
theorem dX0_putInPlace_14 : decode cX0_putInPlace 14 = .ok (.aload_n 1, 1) := by decide +kernel
theorem dX0_putInPlace_15 : decode cX0_putInPlace 15 = .ok (.getfield 217, 3) := by decide +kernel
theorem dX0_putInPlace_18 : decode cX0_putInPlace 18 = .ok (.ifCond .eq 17, 3) := by decide +kernel
theorem dX0_putInPlace_21 : decode cX0_putInPlace 21 = .ok (.aload_n 0, 1) := by decide +kernel
theorem dX0_putInPlace_22 : decode cX0_putInPlace 22 = .ok (.getfield 46, 3) := by decide +kernel
theorem dX0_putInPlace_25 : decode cX0_putInPlace 25 = .ok (.bipush 6, 2) := by decide +kernel
theorem dX0_putInPlace_27 : decode cX0_putInPlace 27 = .ok (.aload_n 1, 1) := by decide +kernel
theorem dX0_putInPlace_28 : decode cX0_putInPlace 28 = .ok (.getfield 199, 3) := by decide +kernel
theorem dX0_putInPlace_31 : decode cX0_putInPlace 31 = .ok (.invokevirtual 146, 3) := by decide +kernel
theorem dX0_putInPlace_34 : decode cX0_putInPlace 34 = .ok (.return_, 1) := by decide +kernel
theorem dX0_putInPlace_35 : decode cX0_putInPlace 35 = .ok (.aload_n 1, 1) := by decide +kernel
theorem dX0_putInPlace_36 : decode cX0_putInPlace 36 = .ok (.getfield 211, 3) := by decide +kernel
theorem dX0_putInPlace_39 : decode cX0_putInPlace 39 = .ok (.astore_n 2, 1) := by decide +kernel
theorem dX0_putInPlace_40 : decode cX0_putInPlace 40 = .ok (.aload_n 2, 1) := by decide +kernel
theorem dX0_putInPlace_41 : decode cX0_putInPlace 41 = .ok (.getfield 60, 3) := by decide +kernel
theorem dX0_putInPlace_44 : decode cX0_putInPlace 44 = .ok (.bipush 30, 2) := by decide +kernel
theorem dX0_putInPlace_46 : decode cX0_putInPlace 46 = .ok (.if_icmp .gt 21, 3) := by decide +kernel
theorem dX0_putInPlace_49 : decode cX0_putInPlace 49 = .ok (.aload_n 0, 1) := by decide +kernel
theorem dX0_putInPlace_50 : decode cX0_putInPlace 50 = .ok (.getfield 14, 3) := by decide +kernel
theorem dX0_putInPlace_53 : decode cX0_putInPlace 53 = .ok (.getfield 60, 3) := by decide +kernel
theorem dX0_putInPlace_56 : decode cX0_putInPlace 56 = .ok (.aload_n 2, 1) := by decide +kernel
theorem dX0_putInPlace_57 : decode cX0_putInPlace 57 = .ok (.getfield 60, 3) := by decide +kernel
theorem dX0_putInPlace_60 : decode cX0_putInPlace 60 = .ok (.iadd, 1) := by decide +kernel
theorem dX0_putInPlace_61 : decode cX0_putInPlace 61 = .ok (.sipush 3440, 3) := by decide +kernel
theorem dX0_putInPlace_64 : decode cX0_putInPlace 64 = .ok (.if_icmp .le 17, 3) := by decide +kernel
theorem dX0_putInPlace_67 : decode cX0_putInPlace 67 = .ok (.aload_n 0, 1) := by decide +kernel
theorem dX0_putInPlace_68 : decode cX0_putInPlace 68 = .ok (.getfield 46, 3) := by decide +kernel
theorem dX0_putInPlace_71 : decode cX0_putInPlace 71 = .ok (.bipush 7, 2) := by decide +kernel
theorem dX0_putInPlace_73 : decode cX0_putInPlace 73 = .ok (.aload_n 1, 1) := by decide +kernel
theorem dX0_putInPlace_74 : decode cX0_putInPlace 74 = .ok (.getfield 199, 3) := by decide +kernel
theorem dX0_putInPlace_77 : decode cX0_putInPlace 77 = .ok (.invokevirtual 146, 3) := by decide +kernel
theorem dX0_putInPlace_80 : decode cX0_putInPlace 80 = .ok (.return_, 1) := by decide +kernel
theorem dX0_putInPlace_81 : decode cX0_putInPlace 81 = .ok (.aload_n 1, 1) := by decide +kernel
theorem dX0_putInPlace_82 : decode cX0_putInPlace 82 = .ok (.getfield 242, 3) := by decide +kernel
theorem dX0_putInPlace_85 : decode cX0_putInPlace 85 = .ok (.istore_n 3, 1) := by decide +kernel
theorem dX0_putInPlace_86 : decode cX0_putInPlace 86 = .ok (.aload_n 2, 1) := by decide +kernel
theorem dX0_putInPlace_87 : decode cX0_putInPlace 87 = .ok (.getfield 60, 3) := by decide +kernel
theorem dX0_putInPlace_90 : decode cX0_putInPlace 90 = .ok (.iconst 1, 1) := by decide +kernel
theorem dX0_putInPlace_91 : decode cX0_putInPlace 91 = .ok (.isub, 1) := by decide +kernel
theorem dX0_putInPlace_92 : decode cX0_putInPlace 92 = .ok (.istore 4, 2) := by decide +kernel
theorem dX0_putInPlace_94 : decode cX0_putInPlace 94 = .ok (.iload 4, 2) := by decide +kernel
theorem dX0_putInPlace_96 : decode cX0_putInPlace 96 = .ok (.ifCond .lt 90, 3) := by decide +kernel
theorem dX0_putInPlace_99 : decode cX0_putInPlace 99 = .ok (.iload 4, 2) := by decide +kernel
theorem dX0_putInPlace_101 : decode cX0_putInPlace 101 = .ok (.ifCond .ne 20, 3) := by decide +kernel
theorem dX0_putInPlace_104 : decode cX0_putInPlace 104 = .ok (.aload_n 2, 1) := by decide +kernel
theorem dX0_putInPlace_105 : decode cX0_putInPlace 105 = .ok (.getfield 100, 3) := by decide +kernel
theorem dX0_putInPlace_108 : decode cX0_putInPlace 108 = .ok (.iload 4, 2) := by decide +kernel
theorem dX0_putInPlace_110 : decode cX0_putInPlace 110 = .ok (.iaload, 1) := by decide +kernel
theorem dX0_putInPlace_111 : decode cX0_putInPlace 111 = .ok (.aload_n 1, 1) := by decide +kernel
theorem dX0_putInPlace_112 : decode cX0_putInPlace 112 = .ok (.getfield 199, 3) := by decide +kernel
theorem dX0_putInPlace_115 : decode cX0_putInPlace 115 = .ok (.invokestatic 205, 3) := by decide +kernel
theorem dX0_putInPlace_118 : decode cX0_putInPlace 118 = .ok (.goto 10, 3) := by decide +kernel
theorem dX0_putInPlace_121 : decode cX0_putInPlace 121 = .ok (.aload_n 2, 1) := by decide +kernel
theorem dX0_putInPlace_122 : decode cX0_putInPlace 122 = .ok (.getfield 100, 3) := by decide +kernel
theorem dX0_putInPlace_125 : decode cX0_putInPlace 125 = .ok (.iload 4, 2) := by decide +kernel
theorem dX0_putInPlace_127 : decode cX0_putInPlace 127 = .ok (.iaload, 1) := by decide +kernel
theorem dX0_putInPlace_128 : decode cX0_putInPlace 128 = .ok (.istore 5, 2) := by decide +kernel
theorem dX0_putInPlace_130 : decode cX0_putInPlace 130 = .ok (.aload_n 0, 1) := by decide +kernel
theorem dX0_putInPlace_131 : decode cX0_putInPlace 131 = .ok (.getfield 20, 3) := by decide +kernel
theorem dX0_putInPlace_134 : decode cX0_putInPlace 134 = .ok (.aload_n 0, 1) := by decide +kernel
theorem dX0_putInPlace_135 : decode cX0_putInPlace 135 = .ok (.getfield 14, 3) := by decide +kernel
theorem dX0_putInPlace_138 : decode cX0_putInPlace 138 = .ok (.getfield 60, 3) := by decide +kernel
theorem dX0_putInPlace_141 : decode cX0_putInPlace 141 = .ok (.iload_n 3, 1) := by decide +kernel
theorem dX0_putInPlace_142 : decode cX0_putInPlace 142 = .ok (.iastore, 1) := by decide +kernel
theorem dX0_putInPlace_143 : decode cX0_putInPlace 143 = .ok (.aload_n 0, 1) := by decide +kernel
theorem dX0_putInPlace_144 : decode cX0_putInPlace 144 = .ok (.getfield 14, 3) := by decide +kernel
theorem dX0_putInPlace_147 : decode cX0_putInPlace 147 = .ok (.getfield 60, 3) := by decide +kernel
theorem dX0_putInPlace_150 : decode cX0_putInPlace 150 = .ok (.istore_n 3, 1) := by decide +kernel
theorem dX0_putInPlace_151 : decode cX0_putInPlace 151 = .ok (.aload_n 0, 1) := by decide +kernel
theorem dX0_putInPlace_152 : decode cX0_putInPlace 152 = .ok (.getfield 14, 3) := by decide +kernel
theorem dX0_putInPlace_155 : decode cX0_putInPlace 155 = .ok (.aload_n 2, 1) := by decide +kernel
theorem dX0_putInPlace_156 : decode cX0_putInPlace 156 = .ok (.getfield 97, 3) := by decide +kernel
theorem dX0_putInPlace_159 : decode cX0_putInPlace 159 = .ok (.iload 4, 2) := by decide +kernel
theorem dX0_putInPlace_161 : decode cX0_putInPlace 161 = .ok (.iaload, 1) := by decide +kernel
theorem dX0_putInPlace_162 : decode cX0_putInPlace 162 = .ok (.iload 5, 2) := by decide +kernel
theorem dX0_putInPlace_164 : decode cX0_putInPlace 164 = .ok (.aload_n 2, 1) := by decide +kernel
theorem dX0_putInPlace_165 : decode cX0_putInPlace 165 = .ok (.getfield 103, 3) := by decide +kernel
theorem dX0_putInPlace_168 : decode cX0_putInPlace 168 = .ok (.iload 4, 2) := by decide +kernel
theorem dX0_putInPlace_170 : decode cX0_putInPlace 170 = .ok (.iaload, 1) := by decide +kernel
theorem dX0_putInPlace_171 : decode cX0_putInPlace 171 = .ok (.aload_n 1, 1) := by decide +kernel
theorem dX0_putInPlace_172 : decode cX0_putInPlace 172 = .ok (.getfield 245, 3) := by decide +kernel
theorem dX0_putInPlace_175 : decode cX0_putInPlace 175 = .ok (.ior, 1) := by decide +kernel
theorem dX0_putInPlace_176 : decode cX0_putInPlace 176 = .ok (.invokevirtual 63, 3) := by decide +kernel
theorem dX0_putInPlace_179 : decode cX0_putInPlace 179 = .ok (.pop, 1) := by decide +kernel
theorem dX0_putInPlace_180 : decode cX0_putInPlace 180 = .ok (.iinc 4 (-1), 3) := by decide +kernel
theorem dX0_putInPlace_183 : decode cX0_putInPlace 183 = .ok (.goto (-89), 3) := by decide +kernel
theorem dX0_putInPlace_186 : decode cX0_putInPlace 186 = .ok (.aload_n 1, 1) := by decide +kernel
theorem dX0_putInPlace_187 : decode cX0_putInPlace 187 = .ok (.iload_n 3, 1) := by decide +kernel
theorem dX0_putInPlace_188 : decode cX0_putInPlace 188 = .ok (.putfield 77, 3) := by decide +kernel
theorem dX0_putInPlace_191 : decode cX0_putInPlace 191 = .ok (.aload_n 1, 1) := by decide +kernel
theorem dX0_putInPlace_192 : decode cX0_putInPlace 192 = .ok (.iconst (-1), 1) := by decide +kernel
theorem dX0_putInPlace_193 : decode cX0_putInPlace 193 = .ok (.putfield 80, 3) := by decide +kernel
theorem dX0_putInPlace_196 : decode cX0_putInPlace 196 = .ok (.return_, 1) := by decide +kernel
