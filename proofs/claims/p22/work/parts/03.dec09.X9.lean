theorem dX9_init_0 : decode cX9_init 0 = .ok (.aload_n 0, 1) := by decide +kernel
theorem dX9_init_1 : decode cX9_init 1 = .ok (.invokespecial 3, 3) := by decide +kernel
theorem dX9_init_4 : decode cX9_init 4 = .ok (.aload_n 0, 1) := by decide +kernel
theorem dX9_init_5 : decode cX9_init 5 = .ok (.sipush 3440, 3) := by decide +kernel
theorem dX9_init_8 : decode cX9_init 8 = .ok (.newarray .int, 2) := by decide +kernel
theorem dX9_init_10 : decode cX9_init 10 = .ok (.putfield 9, 3) := by decide +kernel
theorem dX9_init_13 : decode cX9_init 13 = .ok (.aload_n 0, 1) := by decide +kernel
theorem dX9_init_14 : decode cX9_init 14 = .ok (.sipush 3440, 3) := by decide +kernel
theorem dX9_init_17 : decode cX9_init 17 = .ok (.newarray .long, 2) := by decide +kernel
theorem dX9_init_19 : decode cX9_init 19 = .ok (.putfield 15, 3) := by decide +kernel
theorem dX9_init_22 : decode cX9_init 22 = .ok (.aload_n 0, 1) := by decide +kernel
theorem dX9_init_23 : decode cX9_init 23 = .ok (.iconst 0, 1) := by decide +kernel
theorem dX9_init_24 : decode cX9_init 24 = .ok (.putfield 19, 3) := by decide +kernel
theorem dX9_init_27 : decode cX9_init 27 = .ok (.aload_n 0, 1) := by decide +kernel
theorem dX9_init_28 : decode cX9_init 28 = .ok (.iconst (-1), 1) := by decide +kernel
theorem dX9_init_29 : decode cX9_init 29 = .ok (.putfield 23, 3) := by decide +kernel
theorem dX9_init_32 : decode cX9_init 32 = .ok (.aload_n 0, 1) := by decide +kernel
theorem dX9_init_33 : decode cX9_init 33 = .ok (.iconst (-1), 1) := by decide +kernel
theorem dX9_init_34 : decode cX9_init 34 = .ok (.putfield 26, 3) := by decide +kernel
theorem dX9_init_37 : decode cX9_init 37 = .ok (.aload_n 0, 1) := by decide +kernel
theorem dX9_init_38 : decode cX9_init 38 = .ok (.aload_n 1, 1) := by decide +kernel
theorem dX9_init_39 : decode cX9_init 39 = .ok (.putfield 29, 3) := by decide +kernel
theorem dX9_init_42 : decode cX9_init 42 = .ok (.aload_n 0, 1) := by decide +kernel
theorem dX9_init_43 : decode cX9_init 43 = .ok (.aload_n 2, 1) := by decide +kernel
theorem dX9_init_44 : decode cX9_init 44 = .ok (.putfield 33, 3) := by decide +kernel
theorem dX9_init_47 : decode cX9_init 47 = .ok (.return_, 1) := by decide +kernel
theorem dX9_whole_0 : decode cX9_whole 0 = .ok (.aload_n 0, 1) := by decide +kernel
theorem dX9_whole_1 : decode cX9_whole 1 = .ok (.aload_n 1, 1) := by decide +kernel
theorem dX9_whole_2 : decode cX9_whole 2 = .ok (.putfield 37, 3) := by decide +kernel
theorem dX9_whole_5 : decode cX9_whole 5 = .ok (.aload_n 0, 1) := by decide +kernel
theorem dX9_whole_6 : decode cX9_whole 6 = .ok (.iconst 0, 1) := by decide +kernel
theorem dX9_whole_7 : decode cX9_whole 7 = .ok (.putfield 19, 3) := by decide +kernel
theorem dX9_whole_10 : decode cX9_whole 10 = .ok (.aload_n 0, 1) := by decide +kernel
theorem dX9_whole_11 : decode cX9_whole 11 = .ok (.iconst (-1), 1) := by decide +kernel
theorem dX9_whole_12 : decode cX9_whole 12 = .ok (.putfield 23, 3) := by decide +kernel
theorem dX9_whole_15 : decode cX9_whole 15 = .ok (.aload_n 0, 1) := by decide +kernel
theorem dX9_whole_16 : decode cX9_whole 16 = .ok (.iconst (-1), 1) := by decide +kernel
theorem dX9_whole_17 : decode cX9_whole 17 = .ok (.putfield 26, 3) := by decide +kernel
theorem dX9_whole_20 : decode cX9_whole 20 = .ok (.iconst 0, 1) := by decide +kernel
theorem dX9_whole_21 : decode cX9_whole 21 = .ok (.istore_n 3, 1) := by decide +kernel
theorem dX9_whole_22 : decode cX9_whole 22 = .ok (.iload_n 3, 1) := by decide +kernel
theorem dX9_whole_23 : decode cX9_whole 23 = .ok (.aload_n 0, 1) := by decide +kernel
theorem dX9_whole_24 : decode cX9_whole 24 = .ok (.getfield 37, 3) := by decide +kernel
theorem dX9_whole_27 : decode cX9_whole 27 = .ok (.getfield 41, 3) := by decide +kernel
theorem dX9_whole_30 : decode cX9_whole 30 = .ok (.if_icmp .ge 39, 3) := by decide +kernel
theorem dX9_whole_33 : decode cX9_whole 33 = .ok (.iload_n 3, 1) := by decide +kernel
theorem dX9_whole_34 : decode cX9_whole 34 = .ok (.sipush 3440, 3) := by decide +kernel
theorem dX9_whole_37 : decode cX9_whole 37 = .ok (.if_icmp .ge 32, 3) := by decide +kernel
theorem dX9_whole_40 : decode cX9_whole 40 = .ok (.aload_n 0, 1) := by decide +kernel
theorem dX9_whole_41 : decode cX9_whole 41 = .ok (.iload_n 3, 1) := by decide +kernel
theorem dX9_whole_42 : decode cX9_whole 42 = .ok (.aload_n 0, 1) := by decide +kernel
theorem dX9_whole_43 : decode cX9_whole 43 = .ok (.getfield 37, 3) := by decide +kernel
theorem dX9_whole_46 : decode cX9_whole 46 = .ok (.getfield 46, 3) := by decide +kernel
theorem dX9_whole_49 : decode cX9_whole 49 = .ok (.iload_n 3, 1) := by decide +kernel
theorem dX9_whole_50 : decode cX9_whole 50 = .ok (.iaload, 1) := by decide +kernel
theorem dX9_whole_51 : decode cX9_whole 51 = .ok (.aload_n 0, 1) := by decide +kernel
theorem dX9_whole_52 : decode cX9_whole 52 = .ok (.getfield 37, 3) := by decide +kernel
theorem dX9_whole_55 : decode cX9_whole 55 = .ok (.getfield 49, 3) := by decide +kernel
theorem dX9_whole_58 : decode cX9_whole 58 = .ok (.iload_n 3, 1) := by decide +kernel
theorem dX9_whole_59 : decode cX9_whole 59 = .ok (.iaload, 1) := by decide +kernel
theorem dX9_whole_60 : decode cX9_whole 60 = .ok (.invokevirtual 52, 3) := by decide +kernel
theorem dX9_whole_63 : decode cX9_whole 63 = .ok (.iinc 3 1, 3) := by decide +kernel
theorem dX9_whole_66 : decode cX9_whole 66 = .ok (.goto (-44), 3) := by decide +kernel
theorem dX9_whole_69 : decode cX9_whole 69 = .ok (.aload_n 0, 1) := by decide +kernel
theorem dX9_whole_70 : decode cX9_whole 70 = .ok (.iconst 0, 1) := by decide +kernel
theorem dX9_whole_71 : decode cX9_whole 71 = .ok (.iconst 1, 1) := by decide +kernel
theorem dX9_whole_72 : decode cX9_whole 72 = .ok (.invokevirtual 56, 3) := by decide +kernel
theorem dX9_whole_75 : decode cX9_whole 75 = .ok (.lstore_n 3, 1) := by decide +kernel
theorem dX9_whole_76 : decode cX9_whole 76 = .ok (.aload_n 0, 1) := by decide +kernel
theorem dX9_whole_77 : decode cX9_whole 77 = .ok (.getfield 23, 3) := by decide +kernel
theorem dX9_whole_80 : decode cX9_whole 80 = .ok (.iconst (-1), 1) := by decide +kernel
theorem dX9_whole_81 : decode cX9_whole 81 = .ok (.if_icmp .ne 25, 3) := by decide +kernel
theorem dX9_whole_84 : decode cX9_whole 84 = .ok (.aload_n 0, 1) := by decide +kernel
theorem dX9_whole_85 : decode cX9_whole 85 = .ok (.getfield 19, 3) := by decide +kernel
theorem dX9_whole_88 : decode cX9_whole 88 = .ok (.aload_n 0, 1) := by decide +kernel
theorem dX9_whole_89 : decode cX9_whole 89 = .ok (.getfield 37, 3) := by decide +kernel
theorem dX9_whole_92 : decode cX9_whole 92 = .ok (.getfield 41, 3) := by decide +kernel
theorem dX9_whole_95 : decode cX9_whole 95 = .ok (.if_icmp .ge 11, 3) := by decide +kernel
theorem dX9_whole_98 : decode cX9_whole 98 = .ok (.aload_n 0, 1) := by decide +kernel
theorem dX9_whole_99 : decode cX9_whole 99 = .ok (.aload_n 0, 1) := by decide +kernel
theorem dX9_whole_100 : decode cX9_whole 100 = .ok (.getfield 19, 3) := by decide +kernel
theorem dX9_whole_103 : decode cX9_whole 103 = .ok (.putfield 23, 3) := by decide +kernel
theorem dX9_whole_106 : decode cX9_whole 106 = .ok (.aload_n 0, 1) := by decide +kernel
theorem dX9_whole_107 : decode cX9_whole 107 = .ok (.getfield 23, 3) := by decide +kernel
theorem dX9_whole_110 : decode cX9_whole 110 = .ok (.iconst (-1), 1) := by decide +kernel
theorem dX9_whole_111 : decode cX9_whole 111 = .ok (.if_icmp .eq 45, 3) := by decide +kernel
theorem dX9_whole_114 : decode cX9_whole 114 = .ok (.aload_n 0, 1) := by decide +kernel
theorem dX9_whole_115 : decode cX9_whole 115 = .ok (.getfield 33, 3) := by decide +kernel
theorem dX9_whole_118 : decode cX9_whole 118 = .ok (.bipush 8, 2) := by decide +kernel
theorem dX9_whole_120 : decode cX9_whole 120 = .ok (.aload_n 0, 1) := by decide +kernel
theorem dX9_whole_121 : decode cX9_whole 121 = .ok (.getfield 23, 3) := by decide +kernel
theorem dX9_whole_124 : decode cX9_whole 124 = .ok (.aload_n 0, 1) := by decide +kernel
theorem dX9_whole_125 : decode cX9_whole 125 = .ok (.getfield 37, 3) := by decide +kernel
theorem dX9_whole_128 : decode cX9_whole 128 = .ok (.getfield 41, 3) := by decide +kernel
theorem dX9_whole_131 : decode cX9_whole 131 = .ok (.if_icmp .ge 18, 3) := by decide +kernel
theorem dX9_whole_134 : decode cX9_whole 134 = .ok (.aload_n 0, 1) := by decide +kernel
theorem dX9_whole_135 : decode cX9_whole 135 = .ok (.getfield 37, 3) := by decide +kernel
theorem dX9_whole_138 : decode cX9_whole 138 = .ok (.getfield 49, 3) := by decide +kernel
theorem dX9_whole_141 : decode cX9_whole 141 = .ok (.aload_n 0, 1) := by decide +kernel
theorem dX9_whole_142 : decode cX9_whole 142 = .ok (.getfield 23, 3) := by decide +kernel
theorem dX9_whole_145 : decode cX9_whole 145 = .ok (.iaload, 1) := by decide +kernel
theorem dX9_whole_146 : decode cX9_whole 146 = .ok (.goto 4, 3) := by decide +kernel
theorem dX9_whole_149 : decode cX9_whole 149 = .ok (.iload_n 2, 1) := by decide +kernel
theorem dX9_whole_150 : decode cX9_whole 150 = .ok (.invokevirtual 60, 3) := by decide +kernel
theorem dX9_whole_153 : decode cX9_whole 153 = .ok (.goto 32, 3) := by decide +kernel
theorem dX9_whole_156 : decode cX9_whole 156 = .ok (.aload_n 0, 1) := by decide +kernel
theorem dX9_whole_157 : decode cX9_whole 157 = .ok (.getfield 26, 3) := by decide +kernel
theorem dX9_whole_160 : decode cX9_whole 160 = .ok (.iconst (-1), 1) := by decide +kernel
theorem dX9_whole_161 : decode cX9_whole 161 = .ok (.if_icmp .eq 24, 3) := by decide +kernel
theorem dX9_whole_164 : decode cX9_whole 164 = .ok (.aload_n 0, 1) := by decide +kernel
theorem dX9_whole_165 : decode cX9_whole 165 = .ok (.getfield 33, 3) := by decide +kernel
theorem dX9_whole_168 : decode cX9_whole 168 = .ok (.bipush 9, 2) := by decide +kernel
theorem dX9_whole_170 : decode cX9_whole 170 = .ok (.aload_n 0, 1) := by decide +kernel
theorem dX9_whole_171 : decode cX9_whole 171 = .ok (.getfield 37, 3) := by decide +kernel
theorem dX9_whole_174 : decode cX9_whole 174 = .ok (.getfield 49, 3) := by decide +kernel
theorem dX9_whole_177 : decode cX9_whole 177 = .ok (.aload_n 0, 1) := by decide +kernel
theorem dX9_whole_178 : decode cX9_whole 178 = .ok (.getfield 26, 3) := by decide +kernel
theorem dX9_whole_181 : decode cX9_whole 181 = .ok (.iaload, 1) := by decide +kernel
theorem dX9_whole_182 : decode cX9_whole 182 = .ok (.invokevirtual 60, 3) := by decide +kernel
theorem dX9_whole_185 : decode cX9_whole 185 = .ok (.lload_n 3, 1) := by decide +kernel
theorem dX9_whole_186 : decode cX9_whole 186 = .ok (.lreturn, 1) := by decide +kernel
theorem dX9_readToken_0 : decode cX9_readToken 0 = .ok (.iload_n 3, 1) := by decide +kernel
theorem dX9_readToken_1 : decode cX9_readToken 1 = .ok (.invokestatic 66, 3) := by decide +kernel
theorem dX9_readToken_4 : decode cX9_readToken 4 = .ok (.istore 4, 2) := by decide +kernel
theorem dX9_readToken_6 : decode cX9_readToken 6 = .ok (.iload_n 2, 1) := by decide +kernel
theorem dX9_readToken_7 : decode cX9_readToken 7 = .ok (.iload_n 3, 1) := by decide +kernel
theorem dX9_readToken_8 : decode cX9_readToken 8 = .ok (.invokestatic 70, 3) := by decide +kernel
theorem dX9_readToken_11 : decode cX9_readToken 11 = .ok (.iadd, 1) := by decide +kernel
theorem dX9_readToken_12 : decode cX9_readToken 12 = .ok (.istore 5, 2) := by decide +kernel
theorem dX9_readToken_14 : decode cX9_readToken 14 = .ok (.aload_n 0, 1) := by decide +kernel
theorem dX9_readToken_15 : decode cX9_readToken 15 = .ok (.getfield 9, 3) := by decide +kernel
theorem dX9_readToken_18 : decode cX9_readToken 18 = .ok (.iload_n 1, 1) := by decide +kernel
theorem dX9_readToken_19 : decode cX9_readToken 19 = .ok (.iload 4, 2) := by decide +kernel
theorem dX9_readToken_21 : decode cX9_readToken 21 = .ok (.ifCond .ne 7, 3) := by decide +kernel
theorem dX9_readToken_24 : decode cX9_readToken 24 = .ok (.iconst 0, 1) := by decide +kernel
theorem dX9_readToken_25 : decode cX9_readToken 25 = .ok (.goto 4, 3) := by decide +kernel
theorem dX9_readToken_28 : decode cX9_readToken 28 = .ok (.iconst (-1), 1) := by decide +kernel
theorem dX9_readToken_29 : decode cX9_readToken 29 = .ok (.iastore, 1) := by decide +kernel
theorem dX9_readToken_30 : decode cX9_readToken 30 = .ok (.aload_n 0, 1) := by decide +kernel
theorem dX9_readToken_31 : decode cX9_readToken 31 = .ok (.getfield 15, 3) := by decide +kernel
theorem dX9_readToken_34 : decode cX9_readToken 34 = .ok (.iload_n 1, 1) := by decide +kernel
theorem dX9_readToken_35 : decode cX9_readToken 35 = .ok (.lconst 0, 1) := by decide +kernel
theorem dX9_readToken_36 : decode cX9_readToken 36 = .ok (.lastore, 1) := by decide +kernel
theorem dX9_readToken_37 : decode cX9_readToken 37 = .ok (.iload 4, 2) := by decide +kernel
theorem dX9_readToken_39 : decode cX9_readToken 39 = .ok (.iconst 3, 1) := by decide +kernel
theorem dX9_readToken_40 : decode cX9_readToken 40 = .ok (.if_icmp .ne 21, 3) := by decide +kernel
theorem dX9_readToken_43 : decode cX9_readToken 43 = .ok (.aload_n 0, 1) := by decide +kernel
theorem dX9_readToken_44 : decode cX9_readToken 44 = .ok (.getfield 9, 3) := by decide +kernel
theorem dX9_readToken_47 : decode cX9_readToken 47 = .ok (.iload_n 1, 1) := by decide +kernel
theorem dX9_readToken_48 : decode cX9_readToken 48 = .ok (.aload_n 0, 1) := by decide +kernel
theorem dX9_readToken_49 : decode cX9_readToken 49 = .ok (.getfield 29, 3) := by decide +kernel
theorem dX9_readToken_52 : decode cX9_readToken 52 = .ok (.iload_n 2, 1) := by decide +kernel
theorem dX9_readToken_53 : decode cX9_readToken 53 = .ok (.iload_n 3, 1) := by decide +kernel
theorem dX9_readToken_54 : decode cX9_readToken 54 = .ok (.invokevirtual 73, 3) := by decide +kernel
theorem dX9_readToken_57 : decode cX9_readToken 57 = .ok (.iastore, 1) := by decide +kernel
theorem dX9_readToken_58 : decode cX9_readToken 58 = .ok (.goto 72, 3) := by decide +kernel
theorem dX9_readToken_61 : decode cX9_readToken 61 = .ok (.iload 4, 2) := by decide +kernel
theorem dX9_readToken_63 : decode cX9_readToken 63 = .ok (.iconst 1, 1) := by decide +kernel
theorem dX9_readToken_64 : decode cX9_readToken 64 = .ok (.if_icmp .ne 52, 3) := by decide +kernel
theorem dX9_readToken_67 : decode cX9_readToken 67 = .ok (.iload 5, 2) := by decide +kernel
theorem dX9_readToken_69 : decode cX9_readToken 69 = .ok (.iload_n 2, 1) := by decide +kernel
theorem dX9_readToken_70 : decode cX9_readToken 70 = .ok (.isub, 1) := by decide +kernel
theorem dX9_readToken_71 : decode cX9_readToken 71 = .ok (.iconst 1, 1) := by decide +kernel
theorem dX9_readToken_72 : decode cX9_readToken 72 = .ok (.if_icmp .le 44, 3) := by decide +kernel
theorem dX9_readToken_75 : decode cX9_readToken 75 = .ok (.aload_n 0, 1) := by decide +kernel
theorem dX9_readToken_76 : decode cX9_readToken 76 = .ok (.getfield 29, 3) := by decide +kernel
theorem dX9_readToken_79 : decode cX9_readToken 79 = .ok (.iload_n 2, 1) := by decide +kernel
theorem dX9_readToken_80 : decode cX9_readToken 80 = .ok (.invokevirtual 79, 3) := by decide +kernel
theorem dX9_readToken_83 : decode cX9_readToken 83 = .ok (.bipush 48, 2) := by decide +kernel
theorem dX9_readToken_85 : decode cX9_readToken 85 = .ok (.if_icmp .ne 31, 3) := by decide +kernel
theorem dX9_readToken_88 : decode cX9_readToken 88 = .ok (.aload_n 0, 1) := by decide +kernel
theorem dX9_readToken_89 : decode cX9_readToken 89 = .ok (.getfield 29, 3) := by decide +kernel
theorem dX9_readToken_92 : decode cX9_readToken 92 = .ok (.iload_n 2, 1) := by decide +kernel
theorem dX9_readToken_93 : decode cX9_readToken 93 = .ok (.iconst 1, 1) := by decide +kernel
theorem dX9_readToken_94 : decode cX9_readToken 94 = .ok (.iadd, 1) := by decide +kernel
theorem dX9_readToken_95 : decode cX9_readToken 95 = .ok (.invokevirtual 79, 3) := by decide +kernel
theorem dX9_readToken_98 : decode cX9_readToken 98 = .ok (.bipush 120, 2) := by decide +kernel
theorem dX9_readToken_100 : decode cX9_readToken 100 = .ok (.if_icmp .ne 16, 3) := by decide +kernel
theorem dX9_readToken_103 : decode cX9_readToken 103 = .ok (.aload_n 0, 1) := by decide +kernel
theorem dX9_readToken_104 : decode cX9_readToken 104 = .ok (.iload_n 1, 1) := by decide +kernel
theorem dX9_readToken_105 : decode cX9_readToken 105 = .ok (.iload_n 2, 1) := by decide +kernel
theorem dX9_readToken_106 : decode cX9_readToken 106 = .ok (.iconst 2, 1) := by decide +kernel
theorem dX9_readToken_107 : decode cX9_readToken 107 = .ok (.iadd, 1) := by decide +kernel
theorem dX9_readToken_108 : decode cX9_readToken 108 = .ok (.iload 5, 2) := by decide +kernel
theorem dX9_readToken_110 : decode cX9_readToken 110 = .ok (.invokevirtual 82, 3) := by decide +kernel
theorem dX9_readToken_113 : decode cX9_readToken 113 = .ok (.goto 17, 3) := by decide +kernel
theorem dX9_readToken_116 : decode cX9_readToken 116 = .ok (.iload 4, 2) := by decide +kernel
theorem dX9_readToken_118 : decode cX9_readToken 118 = .ok (.iconst 1, 1) := by decide +kernel
theorem dX9_readToken_119 : decode cX9_readToken 119 = .ok (.if_icmp .ne 11, 3) := by decide +kernel
theorem dX9_readToken_122 : decode cX9_readToken 122 = .ok (.aload_n 0, 1) := by decide +kernel
theorem dX9_readToken_123 : decode cX9_readToken 123 = .ok (.iload_n 1, 1) := by decide +kernel
theorem dX9_readToken_124 : decode cX9_readToken 124 = .ok (.iload_n 2, 1) := by decide +kernel
theorem dX9_readToken_125 : decode cX9_readToken 125 = .ok (.iload 5, 2) := by decide +kernel
theorem dX9_readToken_127 : decode cX9_readToken 127 = .ok (.invokevirtual 85, 3) := by decide +kernel
theorem dX9_readToken_130 : decode cX9_readToken 130 = .ok (.return_, 1) := by decide +kernel
theorem dX9_readHex_0 : decode cX9_readHex 0 = .ok (.lconst 0, 1) := by decide +kernel
theorem dX9_readHex_1 : decode cX9_readHex 1 = .ok (.lstore 4, 2) := by decide +kernel
theorem dX9_readHex_3 : decode cX9_readHex 3 = .ok (.iload_n 3, 1) := by decide +kernel
theorem dX9_readHex_4 : decode cX9_readHex 4 = .ok (.iload_n 2, 1) := by decide +kernel
theorem dX9_readHex_5 : decode cX9_readHex 5 = .ok (.if_icmp .le 15, 3) := by decide +kernel
theorem dX9_readHex_8 : decode cX9_readHex 8 = .ok (.iload_n 3, 1) := by decide +kernel
theorem dX9_readHex_9 : decode cX9_readHex 9 = .ok (.iload_n 2, 1) := by decide +kernel
theorem dX9_readHex_10 : decode cX9_readHex 10 = .ok (.isub, 1) := by decide +kernel
theorem dX9_readHex_11 : decode cX9_readHex 11 = .ok (.bipush 16, 2) := by decide +kernel
theorem dX9_readHex_13 : decode cX9_readHex 13 = .ok (.if_icmp .gt 7, 3) := by decide +kernel
theorem dX9_readHex_16 : decode cX9_readHex 16 = .ok (.iconst 1, 1) := by decide +kernel
theorem dX9_readHex_17 : decode cX9_readHex 17 = .ok (.goto 4, 3) := by decide +kernel
theorem dX9_readHex_20 : decode cX9_readHex 20 = .ok (.iconst 0, 1) := by decide +kernel
theorem dX9_readHex_21 : decode cX9_readHex 21 = .ok (.istore 6, 2) := by decide +kernel
theorem dX9_readHex_23 : decode cX9_readHex 23 = .ok (.iload_n 2, 1) := by decide +kernel
theorem dX9_readHex_24 : decode cX9_readHex 24 = .ok (.istore 7, 2) := by decide +kernel
theorem dX9_readHex_26 : decode cX9_readHex 26 = .ok (.iload 7, 2) := by decide +kernel
theorem dX9_readHex_28 : decode cX9_readHex 28 = .ok (.iload_n 3, 1) := by decide +kernel
theorem dX9_readHex_29 : decode cX9_readHex 29 = .ok (.if_icmp .ge 126, 3) := by decide +kernel
theorem dX9_readHex_32 : decode cX9_readHex 32 = .ok (.aload_n 0, 1) := by decide +kernel
theorem dX9_readHex_33 : decode cX9_readHex 33 = .ok (.getfield 29, 3) := by decide +kernel
theorem dX9_readHex_36 : decode cX9_readHex 36 = .ok (.iload 7, 2) := by decide +kernel
theorem dX9_readHex_38 : decode cX9_readHex 38 = .ok (.invokevirtual 79, 3) := by decide +kernel
theorem dX9_readHex_41 : decode cX9_readHex 41 = .ok (.istore 8, 2) := by decide +kernel
theorem dX9_readHex_43 : decode cX9_readHex 43 = .ok (.iload 8, 2) := by decide +kernel
theorem dX9_readHex_45 : decode cX9_readHex 45 = .ok (.bipush 48, 2) := by decide +kernel
theorem dX9_readHex_47 : decode cX9_readHex 47 = .ok (.if_icmp .lt 18, 3) := by decide +kernel
theorem dX9_readHex_50 : decode cX9_readHex 50 = .ok (.iload 8, 2) := by decide +kernel
theorem dX9_readHex_52 : decode cX9_readHex 52 = .ok (.bipush 57, 2) := by decide +kernel
theorem dX9_readHex_54 : decode cX9_readHex 54 = .ok (.if_icmp .gt 11, 3) := by decide +kernel
theorem dX9_readHex_57 : decode cX9_readHex 57 = .ok (.iload 8, 2) := by decide +kernel
theorem dX9_readHex_59 : decode cX9_readHex 59 = .ok (.bipush 48, 2) := by decide +kernel
theorem dX9_readHex_61 : decode cX9_readHex 61 = .ok (.isub, 1) := by decide +kernel
theorem dX9_readHex_62 : decode cX9_readHex 62 = .ok (.goto 54, 3) := by decide +kernel
theorem dX9_readHex_65 : decode cX9_readHex 65 = .ok (.iload 8, 2) := by decide +kernel
theorem dX9_readHex_67 : decode cX9_readHex 67 = .ok (.bipush 97, 2) := by decide +kernel
theorem dX9_readHex_69 : decode cX9_readHex 69 = .ok (.if_icmp .lt 21, 3) := by decide +kernel
theorem dX9_readHex_72 : decode cX9_readHex 72 = .ok (.iload 8, 2) := by decide +kernel
theorem dX9_readHex_74 : decode cX9_readHex 74 = .ok (.bipush 102, 2) := by decide +kernel
theorem dX9_readHex_76 : decode cX9_readHex 76 = .ok (.if_icmp .gt 14, 3) := by decide +kernel
theorem dX9_readHex_79 : decode cX9_readHex 79 = .ok (.iload 8, 2) := by decide +kernel
theorem dX9_readHex_81 : decode cX9_readHex 81 = .ok (.bipush 97, 2) := by decide +kernel
theorem dX9_readHex_83 : decode cX9_readHex 83 = .ok (.isub, 1) := by decide +kernel
theorem dX9_readHex_84 : decode cX9_readHex 84 = .ok (.bipush 10, 2) := by decide +kernel
theorem dX9_readHex_86 : decode cX9_readHex 86 = .ok (.iadd, 1) := by decide +kernel
theorem dX9_readHex_87 : decode cX9_readHex 87 = .ok (.goto 29, 3) := by decide +kernel
theorem dX9_readHex_90 : decode cX9_readHex 90 = .ok (.iload 8, 2) := by decide +kernel
theorem dX9_readHex_92 : decode cX9_readHex 92 = .ok (.bipush 65, 2) := by decide +kernel
theorem dX9_readHex_94 : decode cX9_readHex 94 = .ok (.if_icmp .lt 21, 3) := by decide +kernel
theorem dX9_readHex_97 : decode cX9_readHex 97 = .ok (.iload 8, 2) := by decide +kernel
theorem dX9_readHex_99 : decode cX9_readHex 99 = .ok (.bipush 70, 2) := by decide +kernel
theorem dX9_readHex_101 : decode cX9_readHex 101 = .ok (.if_icmp .gt 14, 3) := by decide +kernel
theorem dX9_readHex_104 : decode cX9_readHex 104 = .ok (.iload 8, 2) := by decide +kernel
theorem dX9_readHex_106 : decode cX9_readHex 106 = .ok (.bipush 65, 2) := by decide +kernel
theorem dX9_readHex_108 : decode cX9_readHex 108 = .ok (.isub, 1) := by decide +kernel
theorem dX9_readHex_109 : decode cX9_readHex 109 = .ok (.bipush 10, 2) := by decide +kernel
theorem dX9_readHex_111 : decode cX9_readHex 111 = .ok (.iadd, 1) := by decide +kernel
theorem dX9_readHex_112 : decode cX9_readHex 112 = .ok (.goto 4, 3) := by decide +kernel
theorem dX9_readHex_115 : decode cX9_readHex 115 = .ok (.iconst (-1), 1) := by decide +kernel
theorem dX9_readHex_116 : decode cX9_readHex 116 = .ok (.istore 9, 2) := by decide +kernel
theorem dX9_readHex_118 : decode cX9_readHex 118 = .ok (.iload 6, 2) := by decide +kernel
theorem dX9_readHex_120 : decode cX9_readHex 120 = .ok (.ifCond .eq 13, 3) := by decide +kernel
theorem dX9_readHex_123 : decode cX9_readHex 123 = .ok (.iload 9, 2) := by decide +kernel
theorem dX9_readHex_125 : decode cX9_readHex 125 = .ok (.iconst (-1), 1) := by decide +kernel
theorem dX9_readHex_126 : decode cX9_readHex 126 = .ok (.if_icmp .eq 7, 3) := by decide +kernel
theorem dX9_readHex_129 : decode cX9_readHex 129 = .ok (.iconst 1, 1) := by decide +kernel
theorem dX9_readHex_130 : decode cX9_readHex 130 = .ok (.goto 4, 3) := by decide +kernel
theorem dX9_readHex_133 : decode cX9_readHex 133 = .ok (.iconst 0, 1) := by decide +kernel
theorem dX9_readHex_134 : decode cX9_readHex 134 = .ok (.istore 6, 2) := by decide +kernel
theorem dX9_readHex_136 : decode cX9_readHex 136 = .ok (.lload 4, 2) := by decide +kernel
theorem dX9_readHex_138 : decode cX9_readHex 138 = .ok (.iconst 4, 1) := by decide +kernel
theorem dX9_readHex_139 : decode cX9_readHex 139 = .ok (.lshl, 1) := by decide +kernel
theorem dX9_readHex_140 : decode cX9_readHex 140 = .ok (.iload 9, 2) := by decide +kernel
theorem dX9_readHex_142 : decode cX9_readHex 142 = .ok (.bipush 15, 2) := by decide +kernel
theorem dX9_readHex_144 : decode cX9_readHex 144 = .ok (.iand, 1) := by decide +kernel
theorem dX9_readHex_145 : decode cX9_readHex 145 = .ok (.i2l, 1) := by decide +kernel
theorem dX9_readHex_146 : decode cX9_readHex 146 = .ok (.lor, 1) := by decide +kernel
theorem dX9_readHex_147 : decode cX9_readHex 147 = .ok (.lstore 4, 2) := by decide +kernel
theorem dX9_readHex_149 : decode cX9_readHex 149 = .ok (.iinc 7 1, 3) := by decide +kernel
theorem dX9_readHex_152 : decode cX9_readHex 152 = .ok (.goto (-126), 3) := by decide +kernel
theorem dX9_readHex_155 : decode cX9_readHex 155 = .ok (.aload_n 0, 1) := by decide +kernel
theorem dX9_readHex_156 : decode cX9_readHex 156 = .ok (.getfield 9, 3) := by decide +kernel
theorem dX9_readHex_159 : decode cX9_readHex 159 = .ok (.iload_n 1, 1) := by decide +kernel
theorem dX9_readHex_160 : decode cX9_readHex 160 = .ok (.iload 6, 2) := by decide +kernel
theorem dX9_readHex_162 : decode cX9_readHex 162 = .ok (.ifCond .eq 7, 3) := by decide +kernel
theorem dX9_readHex_165 : decode cX9_readHex 165 = .ok (.iconst 0, 1) := by decide +kernel
theorem dX9_readHex_166 : decode cX9_readHex 166 = .ok (.goto 4, 3) := by decide +kernel
theorem dX9_readHex_169 : decode cX9_readHex 169 = .ok (.iconst (-1), 1) := by decide +kernel
theorem dX9_readHex_170 : decode cX9_readHex 170 = .ok (.iastore, 1) := by decide +kernel
theorem dX9_readHex_171 : decode cX9_readHex 171 = .ok (.aload_n 0, 1) := by decide +kernel
theorem dX9_readHex_172 : decode cX9_readHex 172 = .ok (.getfield 15, 3) := by decide +kernel
theorem dX9_readHex_175 : decode cX9_readHex 175 = .ok (.iload_n 1, 1) := by decide +kernel
theorem dX9_readHex_176 : decode cX9_readHex 176 = .ok (.lload 4, 2) := by decide +kernel
theorem dX9_readHex_178 : decode cX9_readHex 178 = .ok (.lastore, 1) := by decide +kernel
theorem dX9_readHex_179 : decode cX9_readHex 179 = .ok (.return_, 1) := by decide +kernel
theorem dX9_readDecimal_0 : decode cX9_readDecimal 0 = .ok (.lconst 0, 1) := by decide +kernel
theorem dX9_readDecimal_1 : decode cX9_readDecimal 1 = .ok (.lstore 4, 2) := by decide +kernel
theorem dX9_readDecimal_3 : decode cX9_readDecimal 3 = .ok (.iconst 1, 1) := by decide +kernel
theorem dX9_readDecimal_4 : decode cX9_readDecimal 4 = .ok (.istore 6, 2) := by decide +kernel
theorem dX9_readDecimal_6 : decode cX9_readDecimal 6 = .ok (.iload_n 2, 1) := by decide +kernel
theorem dX9_readDecimal_7 : decode cX9_readDecimal 7 = .ok (.istore 7, 2) := by decide +kernel
theorem dX9_readDecimal_9 : decode cX9_readDecimal 9 = .ok (.iload 7, 2) := by decide +kernel
theorem dX9_readDecimal_11 : decode cX9_readDecimal 11 = .ok (.iload_n 3, 1) := by decide +kernel
theorem dX9_readDecimal_12 : decode cX9_readDecimal 12 = .ok (.if_icmp .ge 76, 3) := by decide +kernel
theorem dX9_readDecimal_15 : decode cX9_readDecimal 15 = .ok (.iload 6, 2) := by decide +kernel
theorem dX9_readDecimal_17 : decode cX9_readDecimal 17 = .ok (.ifCond .eq 71, 3) := by decide +kernel
theorem dX9_readDecimal_20 : decode cX9_readDecimal 20 = .ok (.aload_n 0, 1) := by decide +kernel
theorem dX9_readDecimal_21 : decode cX9_readDecimal 21 = .ok (.getfield 29, 3) := by decide +kernel
theorem dX9_readDecimal_24 : decode cX9_readDecimal 24 = .ok (.iload 7, 2) := by decide +kernel
theorem dX9_readDecimal_26 : decode cX9_readDecimal 26 = .ok (.invokevirtual 79, 3) := by decide +kernel
theorem dX9_readDecimal_29 : decode cX9_readDecimal 29 = .ok (.bipush 48, 2) := by decide +kernel
theorem dX9_readDecimal_31 : decode cX9_readDecimal 31 = .ok (.isub, 1) := by decide +kernel
theorem dX9_readDecimal_32 : decode cX9_readDecimal 32 = .ok (.istore 8, 2) := by decide +kernel
theorem dX9_readDecimal_34 : decode cX9_readDecimal 34 = .ok (.iload 8, 2) := by decide +kernel
theorem dX9_readDecimal_36 : decode cX9_readDecimal 36 = .ok (.ifCond .lt 31, 3) := by decide +kernel
theorem dX9_readDecimal_39 : decode cX9_readDecimal 39 = .ok (.iload 8, 2) := by decide +kernel
theorem dX9_readDecimal_41 : decode cX9_readDecimal 41 = .ok (.bipush 9, 2) := by decide +kernel
theorem dX9_readDecimal_43 : decode cX9_readDecimal 43 = .ok (.if_icmp .gt 24, 3) := by decide +kernel
theorem dX9_readDecimal_46 : decode cX9_readDecimal 46 = .ok (.lload 4, 2) := by decide +kernel
theorem dX9_readDecimal_48 : decode cX9_readDecimal 48 = .ok (.ldc2_w 90, 3) := by decide +kernel
theorem dX9_readDecimal_51 : decode cX9_readDecimal 51 = .ok (.iload 8, 2) := by decide +kernel
theorem dX9_readDecimal_53 : decode cX9_readDecimal 53 = .ok (.i2l, 1) := by decide +kernel
theorem dX9_readDecimal_54 : decode cX9_readDecimal 54 = .ok (.lsub, 1) := by decide +kernel
theorem dX9_readDecimal_55 : decode cX9_readDecimal 55 = .ok (.ldc2_w 92, 3) := by decide +kernel
theorem dX9_readDecimal_58 : decode cX9_readDecimal 58 = .ok (.ldiv, 1) := by decide +kernel
theorem dX9_readDecimal_59 : decode cX9_readDecimal 59 = .ok (.lcmp, 1) := by decide +kernel
theorem dX9_readDecimal_60 : decode cX9_readDecimal 60 = .ok (.ifCond .gt 7, 3) := by decide +kernel
theorem dX9_readDecimal_63 : decode cX9_readDecimal 63 = .ok (.iconst 1, 1) := by decide +kernel
theorem dX9_readDecimal_64 : decode cX9_readDecimal 64 = .ok (.goto 4, 3) := by decide +kernel
theorem dX9_readDecimal_67 : decode cX9_readDecimal 67 = .ok (.iconst 0, 1) := by decide +kernel
theorem dX9_readDecimal_68 : decode cX9_readDecimal 68 = .ok (.istore 6, 2) := by decide +kernel
theorem dX9_readDecimal_70 : decode cX9_readDecimal 70 = .ok (.lload 4, 2) := by decide +kernel
theorem dX9_readDecimal_72 : decode cX9_readDecimal 72 = .ok (.ldc2_w 92, 3) := by decide +kernel
theorem dX9_readDecimal_75 : decode cX9_readDecimal 75 = .ok (.lmul, 1) := by decide +kernel
theorem dX9_readDecimal_76 : decode cX9_readDecimal 76 = .ok (.iload 8, 2) := by decide +kernel
theorem dX9_readDecimal_78 : decode cX9_readDecimal 78 = .ok (.i2l, 1) := by decide +kernel
theorem dX9_readDecimal_79 : decode cX9_readDecimal 79 = .ok (.ladd, 1) := by decide +kernel
theorem dX9_readDecimal_80 : decode cX9_readDecimal 80 = .ok (.lstore 4, 2) := by decide +kernel
theorem dX9_readDecimal_82 : decode cX9_readDecimal 82 = .ok (.iinc 7 1, 3) := by decide +kernel
theorem dX9_readDecimal_85 : decode cX9_readDecimal 85 = .ok (.goto (-76), 3) := by decide +kernel
theorem dX9_readDecimal_88 : decode cX9_readDecimal 88 = .ok (.aload_n 0, 1) := by decide +kernel
theorem dX9_readDecimal_89 : decode cX9_readDecimal 89 = .ok (.getfield 9, 3) := by decide +kernel
theorem dX9_readDecimal_92 : decode cX9_readDecimal 92 = .ok (.iload_n 1, 1) := by decide +kernel
theorem dX9_readDecimal_93 : decode cX9_readDecimal 93 = .ok (.iload 6, 2) := by decide +kernel
theorem dX9_readDecimal_95 : decode cX9_readDecimal 95 = .ok (.ifCond .eq 7, 3) := by decide +kernel
theorem dX9_readDecimal_98 : decode cX9_readDecimal 98 = .ok (.iconst 0, 1) := by decide +kernel
theorem dX9_readDecimal_99 : decode cX9_readDecimal 99 = .ok (.goto 4, 3) := by decide +kernel
theorem dX9_readDecimal_102 : decode cX9_readDecimal 102 = .ok (.iconst (-1), 1) := by decide +kernel
theorem dX9_readDecimal_103 : decode cX9_readDecimal 103 = .ok (.iastore, 1) := by decide +kernel
theorem dX9_readDecimal_104 : decode cX9_readDecimal 104 = .ok (.aload_n 0, 1) := by decide +kernel
theorem dX9_readDecimal_105 : decode cX9_readDecimal 105 = .ok (.getfield 15, 3) := by decide +kernel
theorem dX9_readDecimal_108 : decode cX9_readDecimal 108 = .ok (.iload_n 1, 1) := by decide +kernel
theorem dX9_readDecimal_109 : decode cX9_readDecimal 109 = .ok (.lload 4, 2) := by decide +kernel
theorem dX9_readDecimal_111 : decode cX9_readDecimal 111 = .ok (.lastore, 1) := by decide +kernel
theorem dX9_readDecimal_112 : decode cX9_readDecimal 112 = .ok (.return_, 1) := by decide +kernel
theorem dX9_refuse_0 : decode cX9_refuse 0 = .ok (.aload_n 0, 1) := by decide +kernel
theorem dX9_refuse_1 : decode cX9_refuse 1 = .ok (.aload_n 0, 1) := by decide +kernel
theorem dX9_refuse_2 : decode cX9_refuse 2 = .ok (.getfield 23, 3) := by decide +kernel
theorem dX9_refuse_5 : decode cX9_refuse 5 = .ok (.iconst (-1), 1) := by decide +kernel
theorem dX9_refuse_6 : decode cX9_refuse 6 = .ok (.if_icmp .ne 10, 3) := by decide +kernel
theorem dX9_refuse_9 : decode cX9_refuse 9 = .ok (.aload_n 0, 1) := by decide +kernel
theorem dX9_refuse_10 : decode cX9_refuse 10 = .ok (.getfield 19, 3) := by decide +kernel
theorem dX9_refuse_13 : decode cX9_refuse 13 = .ok (.goto 7, 3) := by decide +kernel
theorem dX9_refuse_16 : decode cX9_refuse 16 = .ok (.aload_n 0, 1) := by decide +kernel
theorem dX9_refuse_17 : decode cX9_refuse 17 = .ok (.getfield 23, 3) := by decide +kernel
theorem dX9_refuse_20 : decode cX9_refuse 20 = .ok (.putfield 23, 3) := by decide +kernel
theorem dX9_refuse_23 : decode cX9_refuse 23 = .ok (.return_, 1) := by decide +kernel
theorem dX9_sign_0 : decode cX9_sign 0 = .ok (.aload_n 0, 1) := by decide +kernel
theorem dX9_sign_1 : decode cX9_sign 1 = .ok (.getfield 19, 3) := by decide +kernel
theorem dX9_sign_4 : decode cX9_sign 4 = .ok (.aload_n 0, 1) := by decide +kernel
theorem dX9_sign_5 : decode cX9_sign 5 = .ok (.getfield 37, 3) := by decide +kernel
theorem dX9_sign_8 : decode cX9_sign 8 = .ok (.getfield 41, 3) := by decide +kernel
theorem dX9_sign_11 : decode cX9_sign 11 = .ok (.if_icmp .ge 25, 3) := by decide +kernel
theorem dX9_sign_14 : decode cX9_sign 14 = .ok (.aload_n 0, 1) := by decide +kernel
theorem dX9_sign_15 : decode cX9_sign 15 = .ok (.getfield 19, 3) := by decide +kernel
theorem dX9_sign_18 : decode cX9_sign 18 = .ok (.sipush 3440, 3) := by decide +kernel
theorem dX9_sign_21 : decode cX9_sign 21 = .ok (.if_icmp .ge 15, 3) := by decide +kernel
theorem dX9_sign_24 : decode cX9_sign 24 = .ok (.aload_n 0, 1) := by decide +kernel
theorem dX9_sign_25 : decode cX9_sign 25 = .ok (.getfield 9, 3) := by decide +kernel
theorem dX9_sign_28 : decode cX9_sign 28 = .ok (.aload_n 0, 1) := by decide +kernel
theorem dX9_sign_29 : decode cX9_sign 29 = .ok (.getfield 19, 3) := by decide +kernel
theorem dX9_sign_32 : decode cX9_sign 32 = .ok (.iaload, 1) := by decide +kernel
theorem dX9_sign_33 : decode cX9_sign 33 = .ok (.goto 4, 3) := by decide +kernel
theorem dX9_sign_36 : decode cX9_sign 36 = .ok (.iconst (-1), 1) := by decide +kernel
theorem dX9_sign_37 : decode cX9_sign 37 = .ok (.ireturn, 1) := by decide +kernel
theorem dX9_choice_0 : decode cX9_choice 0 = .ok (.aload_n 0, 1) := by decide +kernel
theorem dX9_choice_1 : decode cX9_choice 1 = .ok (.iconst 1, 1) := by decide +kernel
theorem dX9_choice_2 : decode cX9_choice 2 = .ok (.iload_n 1, 1) := by decide +kernel
theorem dX9_choice_3 : decode cX9_choice 3 = .ok (.iload_n 2, 1) := by decide +kernel
theorem dX9_choice_4 : decode cX9_choice 4 = .ok (.invokevirtual 94, 3) := by decide +kernel
theorem dX9_choice_7 : decode cX9_choice 7 = .ok (.lstore_n 3, 1) := by decide +kernel
theorem dX9_choice_8 : decode cX9_choice 8 = .ok (.aload_n 0, 1) := by decide +kernel
theorem dX9_choice_9 : decode cX9_choice 9 = .ok (.getfield 23, 3) := by decide +kernel
theorem dX9_choice_12 : decode cX9_choice 12 = .ok (.iconst (-1), 1) := by decide +kernel
theorem dX9_choice_13 : decode cX9_choice 13 = .ok (.if_icmp .ne 12, 3) := by decide +kernel
theorem dX9_choice_16 : decode cX9_choice 16 = .ok (.aload_n 0, 1) := by decide +kernel
theorem dX9_choice_17 : decode cX9_choice 17 = .ok (.invokevirtual 98, 3) := by decide +kernel
theorem dX9_choice_20 : decode cX9_choice 20 = .ok (.bipush 63, 2) := by decide +kernel
theorem dX9_choice_22 : decode cX9_choice 22 = .ok (.if_icmp .eq 5, 3) := by decide +kernel
theorem dX9_choice_25 : decode cX9_choice 25 = .ok (.lload_n 3, 1) := by decide +kernel
theorem dX9_choice_26 : decode cX9_choice 26 = .ok (.lreturn, 1) := by decide +kernel
theorem dX9_choice_27 : decode cX9_choice 27 = .ok (.aload_n 0, 1) := by decide +kernel
theorem dX9_choice_28 : decode cX9_choice 28 = .ok (.dup, 1) := by decide +kernel
theorem dX9_choice_29 : decode cX9_choice 29 = .ok (.getfield 19, 3) := by decide +kernel
theorem dX9_choice_32 : decode cX9_choice 32 = .ok (.iconst 1, 1) := by decide +kernel
theorem dX9_choice_33 : decode cX9_choice 33 = .ok (.iadd, 1) := by decide +kernel
theorem dX9_choice_34 : decode cX9_choice 34 = .ok (.putfield 19, 3) := by decide +kernel
theorem dX9_choice_37 : decode cX9_choice 37 = .ok (.aload_n 0, 1) := by decide +kernel
theorem dX9_choice_38 : decode cX9_choice 38 = .ok (.iload_n 1, 1) := by decide +kernel
theorem dX9_choice_39 : decode cX9_choice 39 = .ok (.iload_n 2, 1) := by decide +kernel
theorem dX9_choice_40 : decode cX9_choice 40 = .ok (.ifCond .eq 13, 3) := by decide +kernel
theorem dX9_choice_43 : decode cX9_choice 43 = .ok (.lload_n 3, 1) := by decide +kernel
theorem dX9_choice_44 : decode cX9_choice 44 = .ok (.lconst 0, 1) := by decide +kernel
theorem dX9_choice_45 : decode cX9_choice 45 = .ok (.lcmp, 1) := by decide +kernel
theorem dX9_choice_46 : decode cX9_choice 46 = .ok (.ifCond .eq 7, 3) := by decide +kernel
theorem dX9_choice_49 : decode cX9_choice 49 = .ok (.iconst 1, 1) := by decide +kernel
theorem dX9_choice_50 : decode cX9_choice 50 = .ok (.goto 4, 3) := by decide +kernel
theorem dX9_choice_53 : decode cX9_choice 53 = .ok (.iconst 0, 1) := by decide +kernel
theorem dX9_choice_54 : decode cX9_choice 54 = .ok (.invokevirtual 102, 3) := by decide +kernel
theorem dX9_choice_57 : decode cX9_choice 57 = .ok (.lstore 5, 2) := by decide +kernel
theorem dX9_choice_59 : decode cX9_choice 59 = .ok (.aload_n 0, 1) := by decide +kernel
theorem dX9_choice_60 : decode cX9_choice 60 = .ok (.invokevirtual 98, 3) := by decide +kernel
theorem dX9_choice_63 : decode cX9_choice 63 = .ok (.bipush 58, 2) := by decide +kernel
theorem dX9_choice_65 : decode cX9_choice 65 = .ok (.if_icmp .eq 7, 3) := by decide +kernel
theorem dX9_choice_68 : decode cX9_choice 68 = .ok (.aload_n 0, 1) := by decide +kernel
theorem dX9_choice_69 : decode cX9_choice 69 = .ok (.invokevirtual 105, 3) := by decide +kernel
theorem dX9_choice_72 : decode cX9_choice 72 = .ok (.aload_n 0, 1) := by decide +kernel
theorem dX9_choice_73 : decode cX9_choice 73 = .ok (.dup, 1) := by decide +kernel
theorem dX9_choice_74 : decode cX9_choice 74 = .ok (.getfield 19, 3) := by decide +kernel
theorem dX9_choice_77 : decode cX9_choice 77 = .ok (.iconst 1, 1) := by decide +kernel
theorem dX9_choice_78 : decode cX9_choice 78 = .ok (.iadd, 1) := by decide +kernel
theorem dX9_choice_79 : decode cX9_choice 79 = .ok (.putfield 19, 3) := by decide +kernel
theorem dX9_choice_82 : decode cX9_choice 82 = .ok (.aload_n 0, 1) := by decide +kernel
theorem dX9_choice_83 : decode cX9_choice 83 = .ok (.iload_n 1, 1) := by decide +kernel
theorem dX9_choice_84 : decode cX9_choice 84 = .ok (.iload_n 2, 1) := by decide +kernel
theorem dX9_choice_85 : decode cX9_choice 85 = .ok (.ifCond .eq 13, 3) := by decide +kernel
theorem dX9_choice_88 : decode cX9_choice 88 = .ok (.lload_n 3, 1) := by decide +kernel
theorem dX9_choice_89 : decode cX9_choice 89 = .ok (.lconst 0, 1) := by decide +kernel
theorem dX9_choice_90 : decode cX9_choice 90 = .ok (.lcmp, 1) := by decide +kernel
theorem dX9_choice_91 : decode cX9_choice 91 = .ok (.ifCond .ne 7, 3) := by decide +kernel
theorem dX9_choice_94 : decode cX9_choice 94 = .ok (.iconst 1, 1) := by decide +kernel
theorem dX9_choice_95 : decode cX9_choice 95 = .ok (.goto 4, 3) := by decide +kernel
theorem dX9_choice_98 : decode cX9_choice 98 = .ok (.iconst 0, 1) := by decide +kernel
theorem dX9_choice_99 : decode cX9_choice 99 = .ok (.invokevirtual 102, 3) := by decide +kernel
theorem dX9_choice_102 : decode cX9_choice 102 = .ok (.lstore 7, 2) := by decide +kernel
theorem dX9_choice_104 : decode cX9_choice 104 = .ok (.lload_n 3, 1) := by decide +kernel
theorem dX9_choice_105 : decode cX9_choice 105 = .ok (.lconst 0, 1) := by decide +kernel
theorem dX9_choice_106 : decode cX9_choice 106 = .ok (.lcmp, 1) := by decide +kernel
theorem dX9_choice_107 : decode cX9_choice 107 = .ok (.ifCond .eq 8, 3) := by decide +kernel
theorem dX9_choice_110 : decode cX9_choice 110 = .ok (.lload 5, 2) := by decide +kernel
theorem dX9_choice_112 : decode cX9_choice 112 = .ok (.goto 5, 3) := by decide +kernel
theorem dX9_choice_115 : decode cX9_choice 115 = .ok (.lload 7, 2) := by decide +kernel
theorem dX9_choice_117 : decode cX9_choice 117 = .ok (.lreturn, 1) := by decide +kernel
theorem dX9_part_0 : decode cX9_part 0 = .ok (.iload_n 1, 1) := by decide +kernel
theorem dX9_part_1 : decode cX9_part 1 = .ok (.bipush 8, 2) := by decide +kernel
theorem dX9_part_3 : decode cX9_part 3 = .ok (.if_icmp .lt 7, 3) := by decide +kernel
theorem dX9_part_6 : decode cX9_part 6 = .ok (.aload_n 0, 1) := by decide +kernel
theorem dX9_part_7 : decode cX9_part 7 = .ok (.invokevirtual 105, 3) := by decide +kernel
theorem dX9_part_10 : decode cX9_part 10 = .ok (.aload_n 0, 1) := by decide +kernel
theorem dX9_part_11 : decode cX9_part 11 = .ok (.getfield 23, 3) := by decide +kernel
theorem dX9_part_14 : decode cX9_part 14 = .ok (.iconst (-1), 1) := by decide +kernel
theorem dX9_part_15 : decode cX9_part 15 = .ok (.if_icmp .eq 7, 3) := by decide +kernel
theorem dX9_part_18 : decode cX9_part 18 = .ok (.lconst 0, 1) := by decide +kernel
theorem dX9_part_19 : decode cX9_part 19 = .ok (.goto 11, 3) := by decide +kernel
theorem dX9_part_22 : decode cX9_part 22 = .ok (.aload_n 0, 1) := by decide +kernel
theorem dX9_part_23 : decode cX9_part 23 = .ok (.iload_n 1, 1) := by decide +kernel
theorem dX9_part_24 : decode cX9_part 24 = .ok (.iconst 1, 1) := by decide +kernel
theorem dX9_part_25 : decode cX9_part 25 = .ok (.iadd, 1) := by decide +kernel
theorem dX9_part_26 : decode cX9_part 26 = .ok (.iload_n 2, 1) := by decide +kernel
theorem dX9_part_27 : decode cX9_part 27 = .ok (.invokevirtual 56, 3) := by decide +kernel
theorem dX9_part_30 : decode cX9_part 30 = .ok (.lreturn, 1) := by decide +kernel
theorem dX9_binary_0 : decode cX9_binary 0 = .ok (.iload_n 1, 1) := by decide +kernel
theorem dX9_binary_1 : decode cX9_binary 1 = .ok (.bipush 10, 2) := by decide +kernel
theorem dX9_binary_3 : decode cX9_binary 3 = .ok (.if_icmp .le 10, 3) := by decide +kernel
theorem dX9_binary_6 : decode cX9_binary 6 = .ok (.aload_n 0, 1) := by decide +kernel
theorem dX9_binary_7 : decode cX9_binary 7 = .ok (.iload_n 2, 1) := by decide +kernel
theorem dX9_binary_8 : decode cX9_binary 8 = .ok (.iload_n 3, 1) := by decide +kernel
theorem dX9_binary_9 : decode cX9_binary 9 = .ok (.invokevirtual 108, 3) := by decide +kernel
theorem dX9_binary_12 : decode cX9_binary 12 = .ok (.lreturn, 1) := by decide +kernel
theorem dX9_binary_13 : decode cX9_binary 13 = .ok (.aload_n 0, 1) := by decide +kernel
theorem dX9_binary_14 : decode cX9_binary 14 = .ok (.iload_n 1, 1) := by decide +kernel
theorem dX9_binary_15 : decode cX9_binary 15 = .ok (.iconst 1, 1) := by decide +kernel
theorem dX9_binary_16 : decode cX9_binary 16 = .ok (.iadd, 1) := by decide +kernel
theorem dX9_binary_17 : decode cX9_binary 17 = .ok (.iload_n 2, 1) := by decide +kernel
theorem dX9_binary_18 : decode cX9_binary 18 = .ok (.iload_n 3, 1) := by decide +kernel
theorem dX9_binary_19 : decode cX9_binary 19 = .ok (.invokevirtual 94, 3) := by decide +kernel
theorem dX9_binary_22 : decode cX9_binary 22 = .ok (.lstore 4, 2) := by decide +kernel
theorem dX9_binary_24 : decode cX9_binary 24 = .ok (.iconst 0, 1) := by decide +kernel
theorem dX9_binary_25 : decode cX9_binary 25 = .ok (.istore 6, 2) := by decide +kernel
theorem dX9_binary_27 : decode cX9_binary 27 = .ok (.iload 6, 2) := by decide +kernel
theorem dX9_binary_29 : decode cX9_binary 29 = .ok (.aload_n 0, 1) := by decide +kernel
theorem dX9_binary_30 : decode cX9_binary 30 = .ok (.getfield 37, 3) := by decide +kernel
theorem dX9_binary_33 : decode cX9_binary 33 = .ok (.getfield 41, 3) := by decide +kernel
theorem dX9_binary_36 : decode cX9_binary 36 = .ok (.if_icmp .ge 210, 3) := by decide +kernel
theorem dX9_binary_39 : decode cX9_binary 39 = .ok (.aload_n 0, 1) := by decide +kernel
theorem dX9_binary_40 : decode cX9_binary 40 = .ok (.getfield 23, 3) := by decide +kernel
theorem dX9_binary_43 : decode cX9_binary 43 = .ok (.iconst (-1), 1) := by decide +kernel
theorem dX9_binary_44 : decode cX9_binary 44 = .ok (.if_icmp .ne 202, 3) := by decide +kernel
theorem dX9_binary_47 : decode cX9_binary 47 = .ok (.aload_n 0, 1) := by decide +kernel
theorem dX9_binary_48 : decode cX9_binary 48 = .ok (.invokevirtual 98, 3) := by decide +kernel
theorem dX9_binary_51 : decode cX9_binary 51 = .ok (.invokestatic 111, 3) := by decide +kernel
theorem dX9_binary_54 : decode cX9_binary 54 = .ok (.iload_n 1, 1) := by decide +kernel
theorem dX9_binary_55 : decode cX9_binary 55 = .ok (.if_icmp .ne 191, 3) := by decide +kernel
theorem dX9_binary_58 : decode cX9_binary 58 = .ok (.aload_n 0, 1) := by decide +kernel
theorem dX9_binary_59 : decode cX9_binary 59 = .ok (.invokevirtual 98, 3) := by decide +kernel
theorem dX9_binary_62 : decode cX9_binary 62 = .ok (.istore 7, 2) := by decide +kernel
theorem dX9_binary_64 : decode cX9_binary 64 = .ok (.aload_n 0, 1) := by decide +kernel
theorem dX9_binary_65 : decode cX9_binary 65 = .ok (.getfield 19, 3) := by decide +kernel
theorem dX9_binary_68 : decode cX9_binary 68 = .ok (.istore 8, 2) := by decide +kernel
theorem dX9_binary_70 : decode cX9_binary 70 = .ok (.aload_n 0, 1) := by decide +kernel
theorem dX9_binary_71 : decode cX9_binary 71 = .ok (.dup, 1) := by decide +kernel
theorem dX9_binary_72 : decode cX9_binary 72 = .ok (.getfield 19, 3) := by decide +kernel
theorem dX9_binary_75 : decode cX9_binary 75 = .ok (.iconst 1, 1) := by decide +kernel
theorem dX9_binary_76 : decode cX9_binary 76 = .ok (.iadd, 1) := by decide +kernel
theorem dX9_binary_77 : decode cX9_binary 77 = .ok (.putfield 19, 3) := by decide +kernel
theorem dX9_binary_80 : decode cX9_binary 80 = .ok (.iload 7, 2) := by decide +kernel
theorem dX9_binary_82 : decode cX9_binary 82 = .ok (.sipush 31868, 3) := by decide +kernel
theorem dX9_binary_85 : decode cX9_binary 85 = .ok (.if_icmp .ne 10, 3) := by decide +kernel
theorem dX9_binary_88 : decode cX9_binary 88 = .ok (.lload 4, 2) := by decide +kernel
theorem dX9_binary_90 : decode cX9_binary 90 = .ok (.lconst 0, 1) := by decide +kernel
theorem dX9_binary_91 : decode cX9_binary 91 = .ok (.lcmp, 1) := by decide +kernel
theorem dX9_binary_92 : decode cX9_binary 92 = .ok (.ifCond .ne 18, 3) := by decide +kernel
theorem dX9_binary_95 : decode cX9_binary 95 = .ok (.iload 7, 2) := by decide +kernel
theorem dX9_binary_97 : decode cX9_binary 97 = .ok (.sipush 9766, 3) := by decide +kernel
theorem dX9_binary_100 : decode cX9_binary 100 = .ok (.if_icmp .ne 14, 3) := by decide +kernel
theorem dX9_binary_103 : decode cX9_binary 103 = .ok (.lload 4, 2) := by decide +kernel
theorem dX9_binary_105 : decode cX9_binary 105 = .ok (.lconst 0, 1) := by decide +kernel
theorem dX9_binary_106 : decode cX9_binary 106 = .ok (.lcmp, 1) := by decide +kernel
theorem dX9_binary_107 : decode cX9_binary 107 = .ok (.ifCond .ne 7, 3) := by decide +kernel
theorem dX9_binary_110 : decode cX9_binary 110 = .ok (.iconst 1, 1) := by decide +kernel
theorem dX9_binary_111 : decode cX9_binary 111 = .ok (.goto 4, 3) := by decide +kernel
theorem dX9_binary_114 : decode cX9_binary 114 = .ok (.iconst 0, 1) := by decide +kernel
theorem dX9_binary_115 : decode cX9_binary 115 = .ok (.istore 9, 2) := by decide +kernel
theorem dX9_binary_117 : decode cX9_binary 117 = .ok (.aload_n 0, 1) := by decide +kernel
theorem dX9_binary_118 : decode cX9_binary 118 = .ok (.iload_n 1, 1) := by decide +kernel
theorem dX9_binary_119 : decode cX9_binary 119 = .ok (.iconst 1, 1) := by decide +kernel
theorem dX9_binary_120 : decode cX9_binary 120 = .ok (.iadd, 1) := by decide +kernel
theorem dX9_binary_121 : decode cX9_binary 121 = .ok (.iload_n 2, 1) := by decide +kernel
theorem dX9_binary_122 : decode cX9_binary 122 = .ok (.iload_n 3, 1) := by decide +kernel
theorem dX9_binary_123 : decode cX9_binary 123 = .ok (.ifCond .eq 12, 3) := by decide +kernel
theorem dX9_binary_126 : decode cX9_binary 126 = .ok (.iload 9, 2) := by decide +kernel
theorem dX9_binary_128 : decode cX9_binary 128 = .ok (.ifCond .ne 7, 3) := by decide +kernel
theorem dX9_binary_131 : decode cX9_binary 131 = .ok (.iconst 1, 1) := by decide +kernel
theorem dX9_binary_132 : decode cX9_binary 132 = .ok (.goto 4, 3) := by decide +kernel
theorem dX9_binary_135 : decode cX9_binary 135 = .ok (.iconst 0, 1) := by decide +kernel
theorem dX9_binary_136 : decode cX9_binary 136 = .ok (.invokevirtual 94, 3) := by decide +kernel
theorem dX9_binary_139 : decode cX9_binary 139 = .ok (.lstore 10, 2) := by decide +kernel
theorem dX9_binary_141 : decode cX9_binary 141 = .ok (.iload 7, 2) := by decide +kernel
theorem dX9_binary_143 : decode cX9_binary 143 = .ok (.bipush 47, 2) := by decide +kernel
theorem dX9_binary_145 : decode cX9_binary 145 = .ok (.if_icmp .eq 10, 3) := by decide +kernel
theorem dX9_binary_148 : decode cX9_binary 148 = .ok (.iload 7, 2) := by decide +kernel
theorem dX9_binary_150 : decode cX9_binary 150 = .ok (.bipush 37, 2) := by decide +kernel
theorem dX9_binary_152 : decode cX9_binary 152 = .ok (.if_icmp .ne 41, 3) := by decide +kernel
theorem dX9_binary_155 : decode cX9_binary 155 = .ok (.lload 10, 2) := by decide +kernel
theorem dX9_binary_157 : decode cX9_binary 157 = .ok (.lconst 0, 1) := by decide +kernel
theorem dX9_binary_158 : decode cX9_binary 158 = .ok (.lcmp, 1) := by decide +kernel
theorem dX9_binary_159 : decode cX9_binary 159 = .ok (.ifCond .ne 34, 3) := by decide +kernel
theorem dX9_binary_162 : decode cX9_binary 162 = .ok (.aload_n 0, 1) := by decide +kernel
theorem dX9_binary_163 : decode cX9_binary 163 = .ok (.iload_n 3, 1) := by decide +kernel
theorem dX9_binary_164 : decode cX9_binary 164 = .ok (.ifCond .eq 16, 3) := by decide +kernel
theorem dX9_binary_167 : decode cX9_binary 167 = .ok (.aload_n 0, 1) := by decide +kernel
theorem dX9_binary_168 : decode cX9_binary 168 = .ok (.getfield 26, 3) := by decide +kernel
theorem dX9_binary_171 : decode cX9_binary 171 = .ok (.iconst (-1), 1) := by decide +kernel
theorem dX9_binary_172 : decode cX9_binary 172 = .ok (.if_icmp .ne 8, 3) := by decide +kernel
theorem dX9_binary_175 : decode cX9_binary 175 = .ok (.iload 8, 2) := by decide +kernel
theorem dX9_binary_177 : decode cX9_binary 177 = .ok (.goto 7, 3) := by decide +kernel
theorem dX9_binary_180 : decode cX9_binary 180 = .ok (.aload_n 0, 1) := by decide +kernel
theorem dX9_binary_181 : decode cX9_binary 181 = .ok (.getfield 26, 3) := by decide +kernel
theorem dX9_binary_184 : decode cX9_binary 184 = .ok (.putfield 26, 3) := by decide +kernel
theorem dX9_binary_187 : decode cX9_binary 187 = .ok (.lconst 0, 1) := by decide +kernel
theorem dX9_binary_188 : decode cX9_binary 188 = .ok (.lstore 4, 2) := by decide +kernel
theorem dX9_binary_190 : decode cX9_binary 190 = .ok (.goto 50, 3) := by decide +kernel
theorem dX9_binary_193 : decode cX9_binary 193 = .ok (.iload_n 1, 1) := by decide +kernel
theorem dX9_binary_194 : decode cX9_binary 194 = .ok (.bipush 6, 2) := by decide +kernel
theorem dX9_binary_196 : decode cX9_binary 196 = .ok (.if_icmp .ge 15, 3) := by decide +kernel
theorem dX9_binary_199 : decode cX9_binary 199 = .ok (.iload 7, 2) := by decide +kernel
theorem dX9_binary_201 : decode cX9_binary 201 = .ok (.lload 4, 2) := by decide +kernel
theorem dX9_binary_203 : decode cX9_binary 203 = .ok (.lload 10, 2) := by decide +kernel
theorem dX9_binary_205 : decode cX9_binary 205 = .ok (.invokestatic 114, 3) := by decide +kernel
theorem dX9_binary_208 : decode cX9_binary 208 = .ok (.goto 30, 3) := by decide +kernel
theorem dX9_binary_211 : decode cX9_binary 211 = .ok (.iload_n 1, 1) := by decide +kernel
theorem dX9_binary_212 : decode cX9_binary 212 = .ok (.bipush 8, 2) := by decide +kernel
theorem dX9_binary_214 : decode cX9_binary 214 = .ok (.if_icmp .ge 15, 3) := by decide +kernel
theorem dX9_binary_217 : decode cX9_binary 217 = .ok (.iload 7, 2) := by decide +kernel
theorem dX9_binary_219 : decode cX9_binary 219 = .ok (.lload 4, 2) := by decide +kernel
theorem dX9_binary_221 : decode cX9_binary 221 = .ok (.lload 10, 2) := by decide +kernel
theorem dX9_binary_223 : decode cX9_binary 223 = .ok (.invokestatic 118, 3) := by decide +kernel
theorem dX9_binary_226 : decode cX9_binary 226 = .ok (.goto 12, 3) := by decide +kernel
theorem dX9_binary_229 : decode cX9_binary 229 = .ok (.iload 7, 2) := by decide +kernel
theorem dX9_binary_231 : decode cX9_binary 231 = .ok (.lload 4, 2) := by decide +kernel
theorem dX9_binary_233 : decode cX9_binary 233 = .ok (.lload 10, 2) := by decide +kernel
theorem dX9_binary_235 : decode cX9_binary 235 = .ok (.invokestatic 121, 3) := by decide +kernel
theorem dX9_binary_238 : decode cX9_binary 238 = .ok (.lstore 4, 2) := by decide +kernel
theorem dX9_binary_240 : decode cX9_binary 240 = .ok (.iinc 6 1, 3) := by decide +kernel
theorem dX9_binary_243 : decode cX9_binary 243 = .ok (.goto (-216), 3) := by decide +kernel
theorem dX9_binary_246 : decode cX9_binary 246 = .ok (.lload 4, 2) := by decide +kernel
theorem dX9_binary_248 : decode cX9_binary 248 = .ok (.lreturn, 1) := by decide +kernel
theorem dX9_strengthOf_0 : decode cX9_strengthOf 0 = .ok (.iload_n 0, 1) := by decide +kernel
theorem dX9_strengthOf_1 : decode cX9_strengthOf 1 = .ok (.lookupswitch 180 #[(37, 177), (38, 163), (42, 177), (43, 174), (45, 174), (47, 177), (60, 168), (62, 168), (94, 161), (124, 159), (9766, 157), (15420, 171), (15649, 165), (15676, 168), (15677, 165), (15678, 168), (15934, 171), (31868, 155)], 155) := by decide +kernel
theorem dX9_strengthOf_156 : decode cX9_strengthOf 156 = .ok (.iconst 1, 1) := by decide +kernel
theorem dX9_strengthOf_157 : decode cX9_strengthOf 157 = .ok (.ireturn, 1) := by decide +kernel
theorem dX9_strengthOf_158 : decode cX9_strengthOf 158 = .ok (.iconst 2, 1) := by decide +kernel
theorem dX9_strengthOf_159 : decode cX9_strengthOf 159 = .ok (.ireturn, 1) := by decide +kernel
theorem dX9_strengthOf_160 : decode cX9_strengthOf 160 = .ok (.iconst 3, 1) := by decide +kernel
theorem dX9_strengthOf_161 : decode cX9_strengthOf 161 = .ok (.ireturn, 1) := by decide +kernel
theorem dX9_strengthOf_162 : decode cX9_strengthOf 162 = .ok (.iconst 4, 1) := by decide +kernel
theorem dX9_strengthOf_163 : decode cX9_strengthOf 163 = .ok (.ireturn, 1) := by decide +kernel
theorem dX9_strengthOf_164 : decode cX9_strengthOf 164 = .ok (.iconst 5, 1) := by decide +kernel
theorem dX9_strengthOf_165 : decode cX9_strengthOf 165 = .ok (.ireturn, 1) := by decide +kernel
theorem dX9_strengthOf_166 : decode cX9_strengthOf 166 = .ok (.bipush 6, 2) := by decide +kernel
theorem dX9_strengthOf_168 : decode cX9_strengthOf 168 = .ok (.ireturn, 1) := by decide +kernel
theorem dX9_strengthOf_169 : decode cX9_strengthOf 169 = .ok (.bipush 7, 2) := by decide +kernel
theorem dX9_strengthOf_171 : decode cX9_strengthOf 171 = .ok (.ireturn, 1) := by decide +kernel
theorem dX9_strengthOf_172 : decode cX9_strengthOf 172 = .ok (.bipush 8, 2) := by decide +kernel
theorem dX9_strengthOf_174 : decode cX9_strengthOf 174 = .ok (.ireturn, 1) := by decide +kernel
theorem dX9_strengthOf_175 : decode cX9_strengthOf 175 = .ok (.bipush 9, 2) := by decide +kernel
theorem dX9_strengthOf_177 : decode cX9_strengthOf 177 = .ok (.ireturn, 1) := by decide +kernel
theorem dX9_strengthOf_178 : decode cX9_strengthOf 178 = .ok (.bipush 10, 2) := by decide +kernel
theorem dX9_strengthOf_180 : decode cX9_strengthOf 180 = .ok (.ireturn, 1) := by decide +kernel
theorem dX9_strengthOf_181 : decode cX9_strengthOf 181 = .ok (.iconst 0, 1) := by decide +kernel
theorem dX9_strengthOf_182 : decode cX9_strengthOf 182 = .ok (.ireturn, 1) := by decide +kernel
theorem dX9_ofBits_0 : decode cX9_ofBits 0 = .ok (.iload_n 0, 1) := by decide +kernel
theorem dX9_ofBits_1 : decode cX9_ofBits 1 = .ok (.lookupswitch 87 #[(94, 83), (124, 79), (9766, 61), (31868, 43)], 43) := by decide +kernel
theorem dX9_ofBits_44 : decode cX9_ofBits 44 = .ok (.lload_n 1, 1) := by decide +kernel
theorem dX9_ofBits_45 : decode cX9_ofBits 45 = .ok (.lconst 0, 1) := by decide +kernel
theorem dX9_ofBits_46 : decode cX9_ofBits 46 = .ok (.lcmp, 1) := by decide +kernel
theorem dX9_ofBits_47 : decode cX9_ofBits 47 = .ok (.ifCond .ne 9, 3) := by decide +kernel
theorem dX9_ofBits_50 : decode cX9_ofBits 50 = .ok (.lload_n 3, 1) := by decide +kernel
theorem dX9_ofBits_51 : decode cX9_ofBits 51 = .ok (.lconst 0, 1) := by decide +kernel
theorem dX9_ofBits_52 : decode cX9_ofBits 52 = .ok (.lcmp, 1) := by decide +kernel
theorem dX9_ofBits_53 : decode cX9_ofBits 53 = .ok (.ifCond .eq 7, 3) := by decide +kernel
theorem dX9_ofBits_56 : decode cX9_ofBits 56 = .ok (.lconst 1, 1) := by decide +kernel
theorem dX9_ofBits_57 : decode cX9_ofBits 57 = .ok (.goto 4, 3) := by decide +kernel
theorem dX9_ofBits_60 : decode cX9_ofBits 60 = .ok (.lconst 0, 1) := by decide +kernel
theorem dX9_ofBits_61 : decode cX9_ofBits 61 = .ok (.lreturn, 1) := by decide +kernel
theorem dX9_ofBits_62 : decode cX9_ofBits 62 = .ok (.lload_n 1, 1) := by decide +kernel
theorem dX9_ofBits_63 : decode cX9_ofBits 63 = .ok (.lconst 0, 1) := by decide +kernel
theorem dX9_ofBits_64 : decode cX9_ofBits 64 = .ok (.lcmp, 1) := by decide +kernel
theorem dX9_ofBits_65 : decode cX9_ofBits 65 = .ok (.ifCond .eq 13, 3) := by decide +kernel
theorem dX9_ofBits_68 : decode cX9_ofBits 68 = .ok (.lload_n 3, 1) := by decide +kernel
theorem dX9_ofBits_69 : decode cX9_ofBits 69 = .ok (.lconst 0, 1) := by decide +kernel
theorem dX9_ofBits_70 : decode cX9_ofBits 70 = .ok (.lcmp, 1) := by decide +kernel
theorem dX9_ofBits_71 : decode cX9_ofBits 71 = .ok (.ifCond .eq 7, 3) := by decide +kernel
theorem dX9_ofBits_74 : decode cX9_ofBits 74 = .ok (.lconst 1, 1) := by decide +kernel
theorem dX9_ofBits_75 : decode cX9_ofBits 75 = .ok (.goto 4, 3) := by decide +kernel
theorem dX9_ofBits_78 : decode cX9_ofBits 78 = .ok (.lconst 0, 1) := by decide +kernel
theorem dX9_ofBits_79 : decode cX9_ofBits 79 = .ok (.lreturn, 1) := by decide +kernel
theorem dX9_ofBits_80 : decode cX9_ofBits 80 = .ok (.lload_n 1, 1) := by decide +kernel
theorem dX9_ofBits_81 : decode cX9_ofBits 81 = .ok (.lload_n 3, 1) := by decide +kernel
theorem dX9_ofBits_82 : decode cX9_ofBits 82 = .ok (.lor, 1) := by decide +kernel
theorem dX9_ofBits_83 : decode cX9_ofBits 83 = .ok (.lreturn, 1) := by decide +kernel
theorem dX9_ofBits_84 : decode cX9_ofBits 84 = .ok (.lload_n 1, 1) := by decide +kernel
theorem dX9_ofBits_85 : decode cX9_ofBits 85 = .ok (.lload_n 3, 1) := by decide +kernel
theorem dX9_ofBits_86 : decode cX9_ofBits 86 = .ok (.lxor, 1) := by decide +kernel
theorem dX9_ofBits_87 : decode cX9_ofBits 87 = .ok (.lreturn, 1) := by decide +kernel
theorem dX9_ofBits_88 : decode cX9_ofBits 88 = .ok (.lload_n 1, 1) := by decide +kernel
theorem dX9_ofBits_89 : decode cX9_ofBits 89 = .ok (.lload_n 3, 1) := by decide +kernel
theorem dX9_ofBits_90 : decode cX9_ofBits 90 = .ok (.land, 1) := by decide +kernel
theorem dX9_ofBits_91 : decode cX9_ofBits 91 = .ok (.lreturn, 1) := by decide +kernel
theorem dX9_compared_0 : decode cX9_compared 0 = .ok (.iload_n 0, 1) := by decide +kernel
theorem dX9_compared_1 : decode cX9_compared 1 = .ok (.lookupswitch 131 #[(60, 83), (62, 99), (15649, 67), (15676, 115), (15677, 51)], 51) := by decide +kernel
theorem dX9_compared_52 : decode cX9_compared 52 = .ok (.lload_n 1, 1) := by decide +kernel
theorem dX9_compared_53 : decode cX9_compared 53 = .ok (.lload_n 3, 1) := by decide +kernel
theorem dX9_compared_54 : decode cX9_compared 54 = .ok (.lcmp, 1) := by decide +kernel
theorem dX9_compared_55 : decode cX9_compared 55 = .ok (.ifCond .ne 7, 3) := by decide +kernel
theorem dX9_compared_58 : decode cX9_compared 58 = .ok (.iconst 1, 1) := by decide +kernel
theorem dX9_compared_59 : decode cX9_compared 59 = .ok (.goto 4, 3) := by decide +kernel
theorem dX9_compared_62 : decode cX9_compared 62 = .ok (.iconst 0, 1) := by decide +kernel
theorem dX9_compared_63 : decode cX9_compared 63 = .ok (.istore 5, 2) := by decide +kernel
theorem dX9_compared_65 : decode cX9_compared 65 = .ok (.goto 80, 3) := by decide +kernel
theorem dX9_compared_68 : decode cX9_compared 68 = .ok (.lload_n 1, 1) := by decide +kernel
theorem dX9_compared_69 : decode cX9_compared 69 = .ok (.lload_n 3, 1) := by decide +kernel
theorem dX9_compared_70 : decode cX9_compared 70 = .ok (.lcmp, 1) := by decide +kernel
theorem dX9_compared_71 : decode cX9_compared 71 = .ok (.ifCond .eq 7, 3) := by decide +kernel
theorem dX9_compared_74 : decode cX9_compared 74 = .ok (.iconst 1, 1) := by decide +kernel
theorem dX9_compared_75 : decode cX9_compared 75 = .ok (.goto 4, 3) := by decide +kernel
theorem dX9_compared_78 : decode cX9_compared 78 = .ok (.iconst 0, 1) := by decide +kernel
theorem dX9_compared_79 : decode cX9_compared 79 = .ok (.istore 5, 2) := by decide +kernel
theorem dX9_compared_81 : decode cX9_compared 81 = .ok (.goto 64, 3) := by decide +kernel
theorem dX9_compared_84 : decode cX9_compared 84 = .ok (.lload_n 1, 1) := by decide +kernel
theorem dX9_compared_85 : decode cX9_compared 85 = .ok (.lload_n 3, 1) := by decide +kernel
theorem dX9_compared_86 : decode cX9_compared 86 = .ok (.lcmp, 1) := by decide +kernel
theorem dX9_compared_87 : decode cX9_compared 87 = .ok (.ifCond .ge 7, 3) := by decide +kernel
theorem dX9_compared_90 : decode cX9_compared 90 = .ok (.iconst 1, 1) := by decide +kernel
theorem dX9_compared_91 : decode cX9_compared 91 = .ok (.goto 4, 3) := by decide +kernel
theorem dX9_compared_94 : decode cX9_compared 94 = .ok (.iconst 0, 1) := by decide +kernel
theorem dX9_compared_95 : decode cX9_compared 95 = .ok (.istore 5, 2) := by decide +kernel
theorem dX9_compared_97 : decode cX9_compared 97 = .ok (.goto 48, 3) := by decide +kernel
theorem dX9_compared_100 : decode cX9_compared 100 = .ok (.lload_n 1, 1) := by decide +kernel
theorem dX9_compared_101 : decode cX9_compared 101 = .ok (.lload_n 3, 1) := by decide +kernel
theorem dX9_compared_102 : decode cX9_compared 102 = .ok (.lcmp, 1) := by decide +kernel
theorem dX9_compared_103 : decode cX9_compared 103 = .ok (.ifCond .le 7, 3) := by decide +kernel
theorem dX9_compared_106 : decode cX9_compared 106 = .ok (.iconst 1, 1) := by decide +kernel
theorem dX9_compared_107 : decode cX9_compared 107 = .ok (.goto 4, 3) := by decide +kernel
theorem dX9_compared_110 : decode cX9_compared 110 = .ok (.iconst 0, 1) := by decide +kernel
theorem dX9_compared_111 : decode cX9_compared 111 = .ok (.istore 5, 2) := by decide +kernel
theorem dX9_compared_113 : decode cX9_compared 113 = .ok (.goto 32, 3) := by decide +kernel
theorem dX9_compared_116 : decode cX9_compared 116 = .ok (.lload_n 1, 1) := by decide +kernel
theorem dX9_compared_117 : decode cX9_compared 117 = .ok (.lload_n 3, 1) := by decide +kernel
theorem dX9_compared_118 : decode cX9_compared 118 = .ok (.lcmp, 1) := by decide +kernel
theorem dX9_compared_119 : decode cX9_compared 119 = .ok (.ifCond .gt 7, 3) := by decide +kernel
theorem dX9_compared_122 : decode cX9_compared 122 = .ok (.iconst 1, 1) := by decide +kernel
theorem dX9_compared_123 : decode cX9_compared 123 = .ok (.goto 4, 3) := by decide +kernel
theorem dX9_compared_126 : decode cX9_compared 126 = .ok (.iconst 0, 1) := by decide +kernel
theorem dX9_compared_127 : decode cX9_compared 127 = .ok (.istore 5, 2) := by decide +kernel
theorem dX9_compared_129 : decode cX9_compared 129 = .ok (.goto 16, 3) := by decide +kernel
theorem dX9_compared_132 : decode cX9_compared 132 = .ok (.lload_n 1, 1) := by decide +kernel
theorem dX9_compared_133 : decode cX9_compared 133 = .ok (.lload_n 3, 1) := by decide +kernel
theorem dX9_compared_134 : decode cX9_compared 134 = .ok (.lcmp, 1) := by decide +kernel
theorem dX9_compared_135 : decode cX9_compared 135 = .ok (.ifCond .lt 7, 3) := by decide +kernel
theorem dX9_compared_138 : decode cX9_compared 138 = .ok (.iconst 1, 1) := by decide +kernel
theorem dX9_compared_139 : decode cX9_compared 139 = .ok (.goto 4, 3) := by decide +kernel
theorem dX9_compared_142 : decode cX9_compared 142 = .ok (.iconst 0, 1) := by decide +kernel
theorem dX9_compared_143 : decode cX9_compared 143 = .ok (.istore 5, 2) := by decide +kernel
theorem dX9_compared_145 : decode cX9_compared 145 = .ok (.iload 5, 2) := by decide +kernel
theorem dX9_compared_147 : decode cX9_compared 147 = .ok (.ifCond .eq 7, 3) := by decide +kernel
theorem dX9_compared_150 : decode cX9_compared 150 = .ok (.lconst 1, 1) := by decide +kernel
theorem dX9_compared_151 : decode cX9_compared 151 = .ok (.goto 4, 3) := by decide +kernel
theorem dX9_compared_154 : decode cX9_compared 154 = .ok (.lconst 0, 1) := by decide +kernel
theorem dX9_compared_155 : decode cX9_compared 155 = .ok (.lreturn, 1) := by decide +kernel
theorem dX9_counted_0 : decode cX9_counted 0 = .ok (.iload_n 0, 1) := by decide +kernel
theorem dX9_counted_1 : decode cX9_counted 1 = .ok (.lookupswitch 103 #[(42, 85), (43, 77), (45, 81), (47, 89), (15420, 59), (15934, 68)], 59) := by decide +kernel
theorem dX9_counted_60 : decode cX9_counted 60 = .ok (.lload_n 1, 1) := by decide +kernel
theorem dX9_counted_61 : decode cX9_counted 61 = .ok (.lload_n 3, 1) := by decide +kernel
theorem dX9_counted_62 : decode cX9_counted 62 = .ok (.ldc2_w 124, 3) := by decide +kernel
theorem dX9_counted_65 : decode cX9_counted 65 = .ok (.land, 1) := by decide +kernel
theorem dX9_counted_66 : decode cX9_counted 66 = .ok (.l2i, 1) := by decide +kernel
theorem dX9_counted_67 : decode cX9_counted 67 = .ok (.lshl, 1) := by decide +kernel
theorem dX9_counted_68 : decode cX9_counted 68 = .ok (.lreturn, 1) := by decide +kernel
theorem dX9_counted_69 : decode cX9_counted 69 = .ok (.lload_n 1, 1) := by decide +kernel
theorem dX9_counted_70 : decode cX9_counted 70 = .ok (.lload_n 3, 1) := by decide +kernel
theorem dX9_counted_71 : decode cX9_counted 71 = .ok (.ldc2_w 124, 3) := by decide +kernel
theorem dX9_counted_74 : decode cX9_counted 74 = .ok (.land, 1) := by decide +kernel
theorem dX9_counted_75 : decode cX9_counted 75 = .ok (.l2i, 1) := by decide +kernel
theorem dX9_counted_76 : decode cX9_counted 76 = .ok (.lshr, 1) := by decide +kernel
theorem dX9_counted_77 : decode cX9_counted 77 = .ok (.lreturn, 1) := by decide +kernel
theorem dX9_counted_78 : decode cX9_counted 78 = .ok (.lload_n 1, 1) := by decide +kernel
theorem dX9_counted_79 : decode cX9_counted 79 = .ok (.lload_n 3, 1) := by decide +kernel
theorem dX9_counted_80 : decode cX9_counted 80 = .ok (.ladd, 1) := by decide +kernel
theorem dX9_counted_81 : decode cX9_counted 81 = .ok (.lreturn, 1) := by decide +kernel
theorem dX9_counted_82 : decode cX9_counted 82 = .ok (.lload_n 1, 1) := by decide +kernel
theorem dX9_counted_83 : decode cX9_counted 83 = .ok (.lload_n 3, 1) := by decide +kernel
theorem dX9_counted_84 : decode cX9_counted 84 = .ok (.lsub, 1) := by decide +kernel
theorem dX9_counted_85 : decode cX9_counted 85 = .ok (.lreturn, 1) := by decide +kernel
theorem dX9_counted_86 : decode cX9_counted 86 = .ok (.lload_n 1, 1) := by decide +kernel
theorem dX9_counted_87 : decode cX9_counted 87 = .ok (.lload_n 3, 1) := by decide +kernel
theorem dX9_counted_88 : decode cX9_counted 88 = .ok (.lmul, 1) := by decide +kernel
theorem dX9_counted_89 : decode cX9_counted 89 = .ok (.lreturn, 1) := by decide +kernel
theorem dX9_counted_90 : decode cX9_counted 90 = .ok (.lload_n 3, 1) := by decide +kernel
theorem dX9_counted_91 : decode cX9_counted 91 = .ok (.lconst 0, 1) := by decide +kernel
theorem dX9_counted_92 : decode cX9_counted 92 = .ok (.lcmp, 1) := by decide +kernel
theorem dX9_counted_93 : decode cX9_counted 93 = .ok (.ifCond .ne 7, 3) := by decide +kernel
theorem dX9_counted_96 : decode cX9_counted 96 = .ok (.lconst 0, 1) := by decide +kernel
theorem dX9_counted_97 : decode cX9_counted 97 = .ok (.goto 6, 3) := by decide +kernel
theorem dX9_counted_100 : decode cX9_counted 100 = .ok (.lload_n 1, 1) := by decide +kernel
theorem dX9_counted_101 : decode cX9_counted 101 = .ok (.lload_n 3, 1) := by decide +kernel
theorem dX9_counted_102 : decode cX9_counted 102 = .ok (.ldiv, 1) := by decide +kernel
theorem dX9_counted_103 : decode cX9_counted 103 = .ok (.lreturn, 1) := by decide +kernel
theorem dX9_counted_104 : decode cX9_counted 104 = .ok (.lload_n 3, 1) := by decide +kernel
theorem dX9_counted_105 : decode cX9_counted 105 = .ok (.lconst 0, 1) := by decide +kernel
theorem dX9_counted_106 : decode cX9_counted 106 = .ok (.lcmp, 1) := by decide +kernel
theorem dX9_counted_107 : decode cX9_counted 107 = .ok (.ifCond .ne 7, 3) := by decide +kernel
theorem dX9_counted_110 : decode cX9_counted 110 = .ok (.lconst 0, 1) := by decide +kernel
theorem dX9_counted_111 : decode cX9_counted 111 = .ok (.goto 6, 3) := by decide +kernel
theorem dX9_counted_114 : decode cX9_counted 114 = .ok (.lload_n 1, 1) := by decide +kernel
theorem dX9_counted_115 : decode cX9_counted 115 = .ok (.lload_n 3, 1) := by decide +kernel
theorem dX9_counted_116 : decode cX9_counted 116 = .ok (.lrem, 1) := by decide +kernel
theorem dX9_counted_117 : decode cX9_counted 117 = .ok (.lreturn, 1) := by decide +kernel
theorem dX9_single_0 : decode cX9_single 0 = .ok (.aload_n 0, 1) := by decide +kernel
theorem dX9_single_1 : decode cX9_single 1 = .ok (.invokevirtual 98, 3) := by decide +kernel
theorem dX9_single_4 : decode cX9_single 4 = .ok (.istore_n 3, 1) := by decide +kernel
theorem dX9_single_5 : decode cX9_single 5 = .ok (.iload_n 3, 1) := by decide +kernel
theorem dX9_single_6 : decode cX9_single 6 = .ok (.ifCond .ne 25, 3) := by decide +kernel
theorem dX9_single_9 : decode cX9_single 9 = .ok (.aload_n 0, 1) := by decide +kernel
theorem dX9_single_10 : decode cX9_single 10 = .ok (.dup, 1) := by decide +kernel
theorem dX9_single_11 : decode cX9_single 11 = .ok (.getfield 19, 3) := by decide +kernel
theorem dX9_single_14 : decode cX9_single 14 = .ok (.iconst 1, 1) := by decide +kernel
theorem dX9_single_15 : decode cX9_single 15 = .ok (.iadd, 1) := by decide +kernel
theorem dX9_single_16 : decode cX9_single 16 = .ok (.putfield 19, 3) := by decide +kernel
theorem dX9_single_19 : decode cX9_single 19 = .ok (.aload_n 0, 1) := by decide +kernel
theorem dX9_single_20 : decode cX9_single 20 = .ok (.getfield 15, 3) := by decide +kernel
theorem dX9_single_23 : decode cX9_single 23 = .ok (.aload_n 0, 1) := by decide +kernel
theorem dX9_single_24 : decode cX9_single 24 = .ok (.getfield 19, 3) := by decide +kernel
theorem dX9_single_27 : decode cX9_single 27 = .ok (.iconst 1, 1) := by decide +kernel
theorem dX9_single_28 : decode cX9_single 28 = .ok (.isub, 1) := by decide +kernel
theorem dX9_single_29 : decode cX9_single 29 = .ok (.laload, 1) := by decide +kernel
theorem dX9_single_30 : decode cX9_single 30 = .ok (.lreturn, 1) := by decide +kernel
theorem dX9_single_31 : decode cX9_single 31 = .ok (.iload_n 3, 1) := by decide +kernel
theorem dX9_single_32 : decode cX9_single 32 = .ok (.bipush 33, 2) := by decide +kernel
theorem dX9_single_34 : decode cX9_single 34 = .ok (.if_icmp .eq 21, 3) := by decide +kernel
theorem dX9_single_37 : decode cX9_single 37 = .ok (.iload_n 3, 1) := by decide +kernel
theorem dX9_single_38 : decode cX9_single 38 = .ok (.bipush 126, 2) := by decide +kernel
theorem dX9_single_40 : decode cX9_single 40 = .ok (.if_icmp .eq 15, 3) := by decide +kernel
theorem dX9_single_43 : decode cX9_single 43 = .ok (.iload_n 3, 1) := by decide +kernel
theorem dX9_single_44 : decode cX9_single 44 = .ok (.bipush 45, 2) := by decide +kernel
theorem dX9_single_46 : decode cX9_single 46 = .ok (.if_icmp .eq 9, 3) := by decide +kernel
theorem dX9_single_49 : decode cX9_single 49 = .ok (.iload_n 3, 1) := by decide +kernel
theorem dX9_single_50 : decode cX9_single 50 = .ok (.bipush 43, 2) := by decide +kernel
theorem dX9_single_52 : decode cX9_single 52 = .ok (.if_icmp .ne 7, 3) := by decide +kernel
theorem dX9_single_55 : decode cX9_single 55 = .ok (.iconst 1, 1) := by decide +kernel
theorem dX9_single_56 : decode cX9_single 56 = .ok (.goto 4, 3) := by decide +kernel
theorem dX9_single_59 : decode cX9_single 59 = .ok (.iconst 0, 1) := by decide +kernel
theorem dX9_single_60 : decode cX9_single 60 = .ok (.istore 4, 2) := by decide +kernel
theorem dX9_single_62 : decode cX9_single 62 = .ok (.iload 4, 2) := by decide +kernel
theorem dX9_single_64 : decode cX9_single 64 = .ok (.ifCond .ne 9, 3) := by decide +kernel
theorem dX9_single_67 : decode cX9_single 67 = .ok (.iload_n 3, 1) := by decide +kernel
theorem dX9_single_68 : decode cX9_single 68 = .ok (.bipush 40, 2) := by decide +kernel
theorem dX9_single_70 : decode cX9_single 70 = .ok (.if_icmp .ne 9, 3) := by decide +kernel
theorem dX9_single_73 : decode cX9_single 73 = .ok (.iload_n 1, 1) := by decide +kernel
theorem dX9_single_74 : decode cX9_single 74 = .ok (.bipush 8, 2) := by decide +kernel
theorem dX9_single_76 : decode cX9_single 76 = .ok (.if_icmp .lt 9, 3) := by decide +kernel
theorem dX9_single_79 : decode cX9_single 79 = .ok (.aload_n 0, 1) := by decide +kernel
theorem dX9_single_80 : decode cX9_single 80 = .ok (.invokevirtual 105, 3) := by decide +kernel
theorem dX9_single_83 : decode cX9_single 83 = .ok (.lconst 0, 1) := by decide +kernel
theorem dX9_single_84 : decode cX9_single 84 = .ok (.lreturn, 1) := by decide +kernel
theorem dX9_single_85 : decode cX9_single 85 = .ok (.aload_n 0, 1) := by decide +kernel
theorem dX9_single_86 : decode cX9_single 86 = .ok (.dup, 1) := by decide +kernel
theorem dX9_single_87 : decode cX9_single 87 = .ok (.getfield 19, 3) := by decide +kernel
theorem dX9_single_90 : decode cX9_single 90 = .ok (.iconst 1, 1) := by decide +kernel
theorem dX9_single_91 : decode cX9_single 91 = .ok (.iadd, 1) := by decide +kernel
theorem dX9_single_92 : decode cX9_single 92 = .ok (.putfield 19, 3) := by decide +kernel
theorem dX9_single_95 : decode cX9_single 95 = .ok (.iload_n 3, 1) := by decide +kernel
theorem dX9_single_96 : decode cX9_single 96 = .ok (.bipush 40, 2) := by decide +kernel
theorem dX9_single_98 : decode cX9_single 98 = .ok (.if_icmp .ne 39, 3) := by decide +kernel
theorem dX9_single_101 : decode cX9_single 101 = .ok (.aload_n 0, 1) := by decide +kernel
theorem dX9_single_102 : decode cX9_single 102 = .ok (.iload_n 1, 1) := by decide +kernel
theorem dX9_single_103 : decode cX9_single 103 = .ok (.iconst 1, 1) := by decide +kernel
theorem dX9_single_104 : decode cX9_single 104 = .ok (.iadd, 1) := by decide +kernel
theorem dX9_single_105 : decode cX9_single 105 = .ok (.iload_n 2, 1) := by decide +kernel
theorem dX9_single_106 : decode cX9_single 106 = .ok (.invokevirtual 56, 3) := by decide +kernel
theorem dX9_single_109 : decode cX9_single 109 = .ok (.lstore 5, 2) := by decide +kernel
theorem dX9_single_111 : decode cX9_single 111 = .ok (.aload_n 0, 1) := by decide +kernel
theorem dX9_single_112 : decode cX9_single 112 = .ok (.invokevirtual 98, 3) := by decide +kernel
theorem dX9_single_115 : decode cX9_single 115 = .ok (.bipush 41, 2) := by decide +kernel
theorem dX9_single_117 : decode cX9_single 117 = .ok (.if_icmp .eq 7, 3) := by decide +kernel
theorem dX9_single_120 : decode cX9_single 120 = .ok (.aload_n 0, 1) := by decide +kernel
theorem dX9_single_121 : decode cX9_single 121 = .ok (.invokevirtual 105, 3) := by decide +kernel
theorem dX9_single_124 : decode cX9_single 124 = .ok (.aload_n 0, 1) := by decide +kernel
theorem dX9_single_125 : decode cX9_single 125 = .ok (.dup, 1) := by decide +kernel
theorem dX9_single_126 : decode cX9_single 126 = .ok (.getfield 19, 3) := by decide +kernel
theorem dX9_single_129 : decode cX9_single 129 = .ok (.iconst 1, 1) := by decide +kernel
theorem dX9_single_130 : decode cX9_single 130 = .ok (.iadd, 1) := by decide +kernel
theorem dX9_single_131 : decode cX9_single 131 = .ok (.putfield 19, 3) := by decide +kernel
theorem dX9_single_134 : decode cX9_single 134 = .ok (.lload 5, 2) := by decide +kernel
theorem dX9_single_136 : decode cX9_single 136 = .ok (.lreturn, 1) := by decide +kernel
theorem dX9_single_137 : decode cX9_single 137 = .ok (.aload_n 0, 1) := by decide +kernel
theorem dX9_single_138 : decode cX9_single 138 = .ok (.iload_n 1, 1) := by decide +kernel
theorem dX9_single_139 : decode cX9_single 139 = .ok (.iconst 1, 1) := by decide +kernel
theorem dX9_single_140 : decode cX9_single 140 = .ok (.iadd, 1) := by decide +kernel
theorem dX9_single_141 : decode cX9_single 141 = .ok (.iload_n 2, 1) := by decide +kernel
theorem dX9_single_142 : decode cX9_single 142 = .ok (.invokevirtual 108, 3) := by decide +kernel
theorem dX9_single_145 : decode cX9_single 145 = .ok (.lstore 5, 2) := by decide +kernel
theorem dX9_single_147 : decode cX9_single 147 = .ok (.iload_n 3, 1) := by decide +kernel
theorem dX9_single_148 : decode cX9_single 148 = .ok (.bipush 33, 2) := by decide +kernel
theorem dX9_single_150 : decode cX9_single 150 = .ok (.if_icmp .ne 16, 3) := by decide +kernel
theorem dX9_single_153 : decode cX9_single 153 = .ok (.lload 5, 2) := by decide +kernel
theorem dX9_single_155 : decode cX9_single 155 = .ok (.lconst 0, 1) := by decide +kernel
theorem dX9_single_156 : decode cX9_single 156 = .ok (.lcmp, 1) := by decide +kernel
theorem dX9_single_157 : decode cX9_single 157 = .ok (.ifCond .ne 7, 3) := by decide +kernel
theorem dX9_single_160 : decode cX9_single 160 = .ok (.lconst 1, 1) := by decide +kernel
theorem dX9_single_161 : decode cX9_single 161 = .ok (.goto 4, 3) := by decide +kernel
theorem dX9_single_164 : decode cX9_single 164 = .ok (.lconst 0, 1) := by decide +kernel
theorem dX9_single_165 : decode cX9_single 165 = .ok (.lreturn, 1) := by decide +kernel
theorem dX9_single_166 : decode cX9_single 166 = .ok (.iload_n 3, 1) := by decide +kernel
theorem dX9_single_167 : decode cX9_single 167 = .ok (.bipush 126, 2) := by decide +kernel
theorem dX9_single_169 : decode cX9_single 169 = .ok (.if_icmp .ne 12, 3) := by decide +kernel
theorem dX9_single_172 : decode cX9_single 172 = .ok (.lload 5, 2) := by decide +kernel
theorem dX9_single_174 : decode cX9_single 174 = .ok (.ldc2_w 126, 3) := by decide +kernel
theorem dX9_single_177 : decode cX9_single 177 = .ok (.lxor, 1) := by decide +kernel
theorem dX9_single_178 : decode cX9_single 178 = .ok (.goto 17, 3) := by decide +kernel
theorem dX9_single_181 : decode cX9_single 181 = .ok (.iload_n 3, 1) := by decide +kernel
theorem dX9_single_182 : decode cX9_single 182 = .ok (.bipush 45, 2) := by decide +kernel
theorem dX9_single_184 : decode cX9_single 184 = .ok (.if_icmp .ne 9, 3) := by decide +kernel
theorem dX9_single_187 : decode cX9_single 187 = .ok (.lload 5, 2) := by decide +kernel
theorem dX9_single_189 : decode cX9_single 189 = .ok (.lneg, 1) := by decide +kernel
theorem dX9_single_190 : decode cX9_single 190 = .ok (.goto 5, 3) := by decide +kernel
theorem dX9_single_193 : decode cX9_single 193 = .ok (.lload 5, 2) := by decide +kernel
theorem dX9_single_195 : decode cX9_single 195 = .ok (.lreturn, 1) := by decide +kernel
