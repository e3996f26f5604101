theorem dX8_init_0 : decode cX8_init 0 = .ok (.aload_n 0, 1) := by decide +kernel
theorem dX8_init_1 : decode cX8_init 1 = .ok (.invokespecial 3, 3) := by decide +kernel
theorem dX8_init_4 : decode cX8_init 4 = .ok (.aload_n 0, 1) := by decide +kernel
theorem dX8_init_5 : decode cX8_init 5 = .ok (.new 9, 3) := by decide +kernel
theorem dX8_init_8 : decode cX8_init 8 = .ok (.dup, 1) := by decide +kernel
theorem dX8_init_9 : decode cX8_init 9 = .ok (.iconst 1, 1) := by decide +kernel
theorem dX8_init_10 : decode cX8_init 10 = .ok (.invokespecial 11, 3) := by decide +kernel
theorem dX8_init_13 : decode cX8_init 13 = .ok (.putfield 14, 3) := by decide +kernel
theorem dX8_init_16 : decode cX8_init 16 = .ok (.aload_n 0, 1) := by decide +kernel
theorem dX8_init_17 : decode cX8_init 17 = .ok (.ldc 20, 2) := by decide +kernel
theorem dX8_init_19 : decode cX8_init 19 = .ok (.newarray .byte, 2) := by decide +kernel
theorem dX8_init_21 : decode cX8_init 21 = .ok (.putfield 21, 3) := by decide +kernel
theorem dX8_init_24 : decode cX8_init 24 = .ok (.aload_n 0, 1) := by decide +kernel
theorem dX8_init_25 : decode cX8_init 25 = .ok (.bipush 8, 2) := by decide +kernel
theorem dX8_init_27 : decode cX8_init 27 = .ok (.newarray .int, 2) := by decide +kernel
theorem dX8_init_29 : decode cX8_init 29 = .ok (.putfield 25, 3) := by decide +kernel
theorem dX8_init_32 : decode cX8_init 32 = .ok (.aload_n 0, 1) := by decide +kernel
theorem dX8_init_33 : decode cX8_init 33 = .ok (.bipush 8, 2) := by decide +kernel
theorem dX8_init_35 : decode cX8_init 35 = .ok (.newarray .int, 2) := by decide +kernel
theorem dX8_init_37 : decode cX8_init 37 = .ok (.putfield 29, 3) := by decide +kernel
theorem dX8_init_40 : decode cX8_init 40 = .ok (.aload_n 0, 1) := by decide +kernel
theorem dX8_init_41 : decode cX8_init 41 = .ok (.sipush 160, 3) := by decide +kernel
theorem dX8_init_44 : decode cX8_init 44 = .ok (.newarray .int, 2) := by decide +kernel
theorem dX8_init_46 : decode cX8_init 46 = .ok (.putfield 32, 3) := by decide +kernel
theorem dX8_init_49 : decode cX8_init 49 = .ok (.aload_n 0, 1) := by decide +kernel
theorem dX8_init_50 : decode cX8_init 50 = .ok (.iconst (-1), 1) := by decide +kernel
theorem dX8_init_51 : decode cX8_init 51 = .ok (.putfield 35, 3) := by decide +kernel
theorem dX8_init_54 : decode cX8_init 54 = .ok (.return_, 1) := by decide +kernel
theorem dX8_look_0 : decode cX8_look 0 = .ok (.aload_n 0, 1) := by decide +kernel
theorem dX8_look_1 : decode cX8_look 1 = .ok (.getfield 35, 3) := by decide +kernel
theorem dX8_look_4 : decode cX8_look 4 = .ok (.iload_n 2, 1) := by decide +kernel
theorem dX8_look_5 : decode cX8_look 5 = .ok (.if_icmp .ne 4, 3) := by decide +kernel
theorem dX8_look_8 : decode cX8_look 8 = .ok (.return_, 1) := by decide +kernel
theorem dX8_look_9 : decode cX8_look 9 = .ok (.aload_n 0, 1) := by decide +kernel
theorem dX8_look_10 : decode cX8_look 10 = .ok (.iload_n 2, 1) := by decide +kernel
theorem dX8_look_11 : decode cX8_look 11 = .ok (.putfield 35, 3) := by decide +kernel
theorem dX8_look_14 : decode cX8_look 14 = .ok (.aload_n 0, 1) := by decide +kernel
theorem dX8_look_15 : decode cX8_look 15 = .ok (.getfield 32, 3) := by decide +kernel
theorem dX8_look_18 : decode cX8_look 18 = .ok (.iconst 0, 1) := by decide +kernel
theorem dX8_look_19 : decode cX8_look 19 = .ok (.invokestatic 39, 3) := by decide +kernel
theorem dX8_look_22 : decode cX8_look 22 = .ok (.iconst 0, 1) := by decide +kernel
theorem dX8_look_23 : decode cX8_look 23 = .ok (.istore_n 3, 1) := by decide +kernel
theorem dX8_look_24 : decode cX8_look 24 = .ok (.iload_n 3, 1) := by decide +kernel
theorem dX8_look_25 : decode cX8_look 25 = .ok (.iconst 1, 1) := by decide +kernel
theorem dX8_look_26 : decode cX8_look 26 = .ok (.aload_n 1, 1) := by decide +kernel
theorem dX8_look_27 : decode cX8_look 27 = .ok (.getfield 45, 3) := by decide +kernel
theorem dX8_look_30 : decode cX8_look 30 = .ok (.ishl, 1) := by decide +kernel
theorem dX8_look_31 : decode cX8_look 31 = .ok (.if_icmp .ge 121, 3) := by decide +kernel
theorem dX8_look_34 : decode cX8_look 34 = .ok (.iload_n 3, 1) := by decide +kernel
theorem dX8_look_35 : decode cX8_look 35 = .ok (.bipush 8, 2) := by decide +kernel
theorem dX8_look_37 : decode cX8_look 37 = .ok (.if_icmp .ge 115, 3) := by decide +kernel
theorem dX8_look_40 : decode cX8_look 40 = .ok (.aload_n 0, 1) := by decide +kernel
theorem dX8_look_41 : decode cX8_look 41 = .ok (.getfield 14, 3) := by decide +kernel
theorem dX8_look_44 : decode cX8_look 44 = .ok (.aload_n 1, 1) := by decide +kernel
theorem dX8_look_45 : decode cX8_look 45 = .ok (.iload_n 2, 1) := by decide +kernel
theorem dX8_look_46 : decode cX8_look 46 = .ok (.iload_n 3, 1) := by decide +kernel
theorem dX8_look_47 : decode cX8_look 47 = .ok (.invokevirtual 50, 3) := by decide +kernel
theorem dX8_look_50 : decode cX8_look 50 = .ok (.iconst 1, 1) := by decide +kernel
theorem dX8_look_51 : decode cX8_look 51 = .ok (.istore 4, 2) := by decide +kernel
theorem dX8_look_53 : decode cX8_look 53 = .ok (.iconst 0, 1) := by decide +kernel
theorem dX8_look_54 : decode cX8_look 54 = .ok (.istore 5, 2) := by decide +kernel
theorem dX8_look_56 : decode cX8_look 56 = .ok (.iload 5, 2) := by decide +kernel
theorem dX8_look_58 : decode cX8_look 58 = .ok (.ldc 54, 2) := by decide +kernel
theorem dX8_look_60 : decode cX8_look 60 = .ok (.if_icmp .ge 23, 3) := by decide +kernel
theorem dX8_look_63 : decode cX8_look 63 = .ok (.iload 4, 2) := by decide +kernel
theorem dX8_look_65 : decode cX8_look 65 = .ok (.ifCond .eq 18, 3) := by decide +kernel
theorem dX8_look_68 : decode cX8_look 68 = .ok (.aload_n 0, 1) := by decide +kernel
theorem dX8_look_69 : decode cX8_look 69 = .ok (.getfield 14, 3) := by decide +kernel
theorem dX8_look_72 : decode cX8_look 72 = .ok (.invokevirtual 55, 3) := by decide +kernel
theorem dX8_look_75 : decode cX8_look 75 = .ok (.istore 4, 2) := by decide +kernel
theorem dX8_look_77 : decode cX8_look 77 = .ok (.iinc 5 1, 3) := by decide +kernel
theorem dX8_look_80 : decode cX8_look 80 = .ok (.goto (-24), 3) := by decide +kernel
theorem dX8_look_83 : decode cX8_look 83 = .ok (.iconst 0, 1) := by decide +kernel
theorem dX8_look_84 : decode cX8_look 84 = .ok (.istore 5, 2) := by decide +kernel
theorem dX8_look_86 : decode cX8_look 86 = .ok (.iload 5, 2) := by decide +kernel
theorem dX8_look_88 : decode cX8_look 88 = .ok (.sipush 160, 3) := by decide +kernel
theorem dX8_look_91 : decode cX8_look 91 = .ok (.if_icmp .ge 39, 3) := by decide +kernel
theorem dX8_look_94 : decode cX8_look 94 = .ok (.aload_n 0, 1) := by decide +kernel
theorem dX8_look_95 : decode cX8_look 95 = .ok (.getfield 32, 3) := by decide +kernel
theorem dX8_look_98 : decode cX8_look 98 = .ok (.iload 5, 2) := by decide +kernel
theorem dX8_look_100 : decode cX8_look 100 = .ok (.dup2, 1) := by decide +kernel
theorem dX8_look_101 : decode cX8_look 101 = .ok (.iaload, 1) := by decide +kernel
theorem dX8_look_102 : decode cX8_look 102 = .ok (.aload_n 0, 1) := by decide +kernel
theorem dX8_look_103 : decode cX8_look 103 = .ok (.getfield 14, 3) := by decide +kernel
theorem dX8_look_106 : decode cX8_look 106 = .ok (.getfield 59, 3) := by decide +kernel
theorem dX8_look_109 : decode cX8_look 109 = .ok (.iload 5, 2) := by decide +kernel
theorem dX8_look_111 : decode cX8_look 111 = .ok (.iaload, 1) := by decide +kernel
theorem dX8_look_112 : decode cX8_look 112 = .ok (.ifCond .le 9, 3) := by decide +kernel
theorem dX8_look_115 : decode cX8_look 115 = .ok (.iconst 1, 1) := by decide +kernel
theorem dX8_look_116 : decode cX8_look 116 = .ok (.iload_n 3, 1) := by decide +kernel
theorem dX8_look_117 : decode cX8_look 117 = .ok (.ishl, 1) := by decide +kernel
theorem dX8_look_118 : decode cX8_look 118 = .ok (.goto 4, 3) := by decide +kernel
theorem dX8_look_121 : decode cX8_look 121 = .ok (.iconst 0, 1) := by decide +kernel
theorem dX8_look_122 : decode cX8_look 122 = .ok (.ior, 1) := by decide +kernel
theorem dX8_look_123 : decode cX8_look 123 = .ok (.iastore, 1) := by decide +kernel
theorem dX8_look_124 : decode cX8_look 124 = .ok (.iinc 5 1, 3) := by decide +kernel
theorem dX8_look_127 : decode cX8_look 127 = .ok (.goto (-41), 3) := by decide +kernel
theorem dX8_look_130 : decode cX8_look 130 = .ok (.aload_n 0, 1) := by decide +kernel
theorem dX8_look_131 : decode cX8_look 131 = .ok (.iload_n 3, 1) := by decide +kernel
theorem dX8_look_132 : decode cX8_look 132 = .ok (.invokevirtual 62, 3) := by decide +kernel
theorem dX8_look_135 : decode cX8_look 135 = .ok (.aload_n 0, 1) := by decide +kernel
theorem dX8_look_136 : decode cX8_look 136 = .ok (.getfield 29, 3) := by decide +kernel
theorem dX8_look_139 : decode cX8_look 139 = .ok (.iload_n 3, 1) := by decide +kernel
theorem dX8_look_140 : decode cX8_look 140 = .ok (.aload_n 0, 1) := by decide +kernel
theorem dX8_look_141 : decode cX8_look 141 = .ok (.iload_n 3, 1) := by decide +kernel
theorem dX8_look_142 : decode cX8_look 142 = .ok (.invokevirtual 65, 3) := by decide +kernel
theorem dX8_look_145 : decode cX8_look 145 = .ok (.iastore, 1) := by decide +kernel
theorem dX8_look_146 : decode cX8_look 146 = .ok (.iinc 3 1, 3) := by decide +kernel
theorem dX8_look_149 : decode cX8_look 149 = .ok (.goto (-125), 3) := by decide +kernel
theorem dX8_look_152 : decode cX8_look 152 = .ok (.return_, 1) := by decide +kernel
theorem dX8_keep_0 : decode cX8_keep 0 = .ok (.iload_n 1, 1) := by decide +kernel
theorem dX8_keep_1 : decode cX8_keep 1 = .ok (.sipush 9305, 3) := by decide +kernel
theorem dX8_keep_4 : decode cX8_keep 4 = .ok (.imul, 1) := by decide +kernel
theorem dX8_keep_5 : decode cX8_keep 5 = .ok (.istore_n 2, 1) := by decide +kernel
theorem dX8_keep_6 : decode cX8_keep 6 = .ok (.aload_n 0, 1) := by decide +kernel
theorem dX8_keep_7 : decode cX8_keep 7 = .ok (.getfield 14, 3) := by decide +kernel
theorem dX8_keep_10 : decode cX8_keep 10 = .ok (.getfield 69, 3) := by decide +kernel
theorem dX8_keep_13 : decode cX8_keep 13 = .ok (.astore_n 3, 1) := by decide +kernel
theorem dX8_keep_14 : decode cX8_keep 14 = .ok (.iconst 0, 1) := by decide +kernel
theorem dX8_keep_15 : decode cX8_keep 15 = .ok (.istore 4, 2) := by decide +kernel
theorem dX8_keep_17 : decode cX8_keep 17 = .ok (.iload 4, 2) := by decide +kernel
theorem dX8_keep_19 : decode cX8_keep 19 = .ok (.aload_n 3, 1) := by decide +kernel
theorem dX8_keep_20 : decode cX8_keep 20 = .ok (.getfield 73, 3) := by decide +kernel
theorem dX8_keep_23 : decode cX8_keep 23 = .ok (.if_icmp .ge 74, 3) := by decide +kernel
theorem dX8_keep_26 : decode cX8_keep 26 = .ok (.iload 4, 2) := by decide +kernel
theorem dX8_keep_28 : decode cX8_keep 28 = .ok (.sipush 300, 3) := by decide +kernel
theorem dX8_keep_31 : decode cX8_keep 31 = .ok (.if_icmp .ge 66, 3) := by decide +kernel
theorem dX8_keep_34 : decode cX8_keep 34 = .ok (.aload_n 3, 1) := by decide +kernel
theorem dX8_keep_35 : decode cX8_keep 35 = .ok (.getfield 78, 3) := by decide +kernel
theorem dX8_keep_38 : decode cX8_keep 38 = .ok (.iload 4, 2) := by decide +kernel
theorem dX8_keep_40 : decode cX8_keep 40 = .ok (.iaload, 1) := by decide +kernel
theorem dX8_keep_41 : decode cX8_keep 41 = .ok (.invokestatic 81, 3) := by decide +kernel
theorem dX8_keep_44 : decode cX8_keep 44 = .ok (.istore 5, 2) := by decide +kernel
theorem dX8_keep_46 : decode cX8_keep 46 = .ok (.aload_n 0, 1) := by decide +kernel
theorem dX8_keep_47 : decode cX8_keep 47 = .ok (.getfield 21, 3) := by decide +kernel
theorem dX8_keep_50 : decode cX8_keep 50 = .ok (.iload_n 2, 1) := by decide +kernel
theorem dX8_keep_51 : decode cX8_keep 51 = .ok (.iload 5, 2) := by decide +kernel
theorem dX8_keep_53 : decode cX8_keep 53 = .ok (.i2b, 1) := by decide +kernel
theorem dX8_keep_54 : decode cX8_keep 54 = .ok (.bastore, 1) := by decide +kernel
theorem dX8_keep_55 : decode cX8_keep 55 = .ok (.aload_n 0, 1) := by decide +kernel
theorem dX8_keep_56 : decode cX8_keep 56 = .ok (.getfield 14, 3) := by decide +kernel
theorem dX8_keep_59 : decode cX8_keep 59 = .ok (.getfield 84, 3) := by decide +kernel
theorem dX8_keep_62 : decode cX8_keep 62 = .ok (.getfield 88, 3) := by decide +kernel
theorem dX8_keep_65 : decode cX8_keep 65 = .ok (.aload_n 3, 1) := by decide +kernel
theorem dX8_keep_66 : decode cX8_keep 66 = .ok (.getfield 93, 3) := by decide +kernel
theorem dX8_keep_69 : decode cX8_keep 69 = .ok (.iload 4, 2) := by decide +kernel
theorem dX8_keep_71 : decode cX8_keep 71 = .ok (.iaload, 1) := by decide +kernel
theorem dX8_keep_72 : decode cX8_keep 72 = .ok (.aload_n 0, 1) := by decide +kernel
theorem dX8_keep_73 : decode cX8_keep 73 = .ok (.getfield 21, 3) := by decide +kernel
theorem dX8_keep_76 : decode cX8_keep 76 = .ok (.iload_n 2, 1) := by decide +kernel
theorem dX8_keep_77 : decode cX8_keep 77 = .ok (.iconst 1, 1) := by decide +kernel
theorem dX8_keep_78 : decode cX8_keep 78 = .ok (.iadd, 1) := by decide +kernel
theorem dX8_keep_79 : decode cX8_keep 79 = .ok (.iload 5, 2) := by decide +kernel
theorem dX8_keep_81 : decode cX8_keep 81 = .ok (.invokestatic 96, 3) := by decide +kernel
theorem dX8_keep_84 : decode cX8_keep 84 = .ok (.iload_n 2, 1) := by decide +kernel
theorem dX8_keep_85 : decode cX8_keep 85 = .ok (.iconst 1, 1) := by decide +kernel
theorem dX8_keep_86 : decode cX8_keep 86 = .ok (.iload 5, 2) := by decide +kernel
theorem dX8_keep_88 : decode cX8_keep 88 = .ok (.iadd, 1) := by decide +kernel
theorem dX8_keep_89 : decode cX8_keep 89 = .ok (.iadd, 1) := by decide +kernel
theorem dX8_keep_90 : decode cX8_keep 90 = .ok (.istore_n 2, 1) := by decide +kernel
theorem dX8_keep_91 : decode cX8_keep 91 = .ok (.iinc 4 1, 3) := by decide +kernel
theorem dX8_keep_94 : decode cX8_keep 94 = .ok (.goto (-77), 3) := by decide +kernel
theorem dX8_keep_97 : decode cX8_keep 97 = .ok (.aload_n 0, 1) := by decide +kernel
theorem dX8_keep_98 : decode cX8_keep 98 = .ok (.getfield 14, 3) := by decide +kernel
theorem dX8_keep_101 : decode cX8_keep 101 = .ok (.getfield 102, 3) := by decide +kernel
theorem dX8_keep_104 : decode cX8_keep 104 = .ok (.getfield 106, 3) := by decide +kernel
theorem dX8_keep_107 : decode cX8_keep 107 = .ok (.istore 4, 2) := by decide +kernel
theorem dX8_keep_109 : decode cX8_keep 109 = .ok (.aload_n 0, 1) := by decide +kernel
theorem dX8_keep_110 : decode cX8_keep 110 = .ok (.getfield 21, 3) := by decide +kernel
theorem dX8_keep_113 : decode cX8_keep 113 = .ok (.iload_n 2, 1) := by decide +kernel
theorem dX8_keep_114 : decode cX8_keep 114 = .ok (.aload_n 0, 1) := by decide +kernel
theorem dX8_keep_115 : decode cX8_keep 115 = .ok (.getfield 14, 3) := by decide +kernel
theorem dX8_keep_118 : decode cX8_keep 118 = .ok (.getfield 102, 3) := by decide +kernel
theorem dX8_keep_121 : decode cX8_keep 121 = .ok (.getfield 110, 3) := by decide +kernel
theorem dX8_keep_124 : decode cX8_keep 124 = .ok (.i2b, 1) := by decide +kernel
theorem dX8_keep_125 : decode cX8_keep 125 = .ok (.bastore, 1) := by decide +kernel
theorem dX8_keep_126 : decode cX8_keep 126 = .ok (.aload_n 0, 1) := by decide +kernel
theorem dX8_keep_127 : decode cX8_keep 127 = .ok (.getfield 21, 3) := by decide +kernel
theorem dX8_keep_130 : decode cX8_keep 130 = .ok (.iload_n 2, 1) := by decide +kernel
theorem dX8_keep_131 : decode cX8_keep 131 = .ok (.iconst 1, 1) := by decide +kernel
theorem dX8_keep_132 : decode cX8_keep 132 = .ok (.iadd, 1) := by decide +kernel
theorem dX8_keep_133 : decode cX8_keep 133 = .ok (.iload 4, 2) := by decide +kernel
theorem dX8_keep_135 : decode cX8_keep 135 = .ok (.invokestatic 113, 3) := by decide +kernel
theorem dX8_keep_138 : decode cX8_keep 138 = .ok (.i2b, 1) := by decide +kernel
theorem dX8_keep_139 : decode cX8_keep 139 = .ok (.bastore, 1) := by decide +kernel
theorem dX8_keep_140 : decode cX8_keep 140 = .ok (.aload_n 0, 1) := by decide +kernel
theorem dX8_keep_141 : decode cX8_keep 141 = .ok (.getfield 21, 3) := by decide +kernel
theorem dX8_keep_144 : decode cX8_keep 144 = .ok (.iload_n 2, 1) := by decide +kernel
theorem dX8_keep_145 : decode cX8_keep 145 = .ok (.iconst 2, 1) := by decide +kernel
theorem dX8_keep_146 : decode cX8_keep 146 = .ok (.iadd, 1) := by decide +kernel
theorem dX8_keep_147 : decode cX8_keep 147 = .ok (.iload 4, 2) := by decide +kernel
theorem dX8_keep_149 : decode cX8_keep 149 = .ok (.invokestatic 116, 3) := by decide +kernel
theorem dX8_keep_152 : decode cX8_keep 152 = .ok (.i2b, 1) := by decide +kernel
theorem dX8_keep_153 : decode cX8_keep 153 = .ok (.bastore, 1) := by decide +kernel
theorem dX8_keep_154 : decode cX8_keep 154 = .ok (.aload_n 0, 1) := by decide +kernel
theorem dX8_keep_155 : decode cX8_keep 155 = .ok (.getfield 21, 3) := by decide +kernel
theorem dX8_keep_158 : decode cX8_keep 158 = .ok (.iload_n 2, 1) := by decide +kernel
theorem dX8_keep_159 : decode cX8_keep 159 = .ok (.iconst 3, 1) := by decide +kernel
theorem dX8_keep_160 : decode cX8_keep 160 = .ok (.iadd, 1) := by decide +kernel
theorem dX8_keep_161 : decode cX8_keep 161 = .ok (.iload 4, 2) := by decide +kernel
theorem dX8_keep_163 : decode cX8_keep 163 = .ok (.invokestatic 119, 3) := by decide +kernel
theorem dX8_keep_166 : decode cX8_keep 166 = .ok (.i2b, 1) := by decide +kernel
theorem dX8_keep_167 : decode cX8_keep 167 = .ok (.bastore, 1) := by decide +kernel
theorem dX8_keep_168 : decode cX8_keep 168 = .ok (.aload_n 0, 1) := by decide +kernel
theorem dX8_keep_169 : decode cX8_keep 169 = .ok (.getfield 21, 3) := by decide +kernel
theorem dX8_keep_172 : decode cX8_keep 172 = .ok (.iload_n 2, 1) := by decide +kernel
theorem dX8_keep_173 : decode cX8_keep 173 = .ok (.iconst 4, 1) := by decide +kernel
theorem dX8_keep_174 : decode cX8_keep 174 = .ok (.iadd, 1) := by decide +kernel
theorem dX8_keep_175 : decode cX8_keep 175 = .ok (.iload 4, 2) := by decide +kernel
theorem dX8_keep_177 : decode cX8_keep 177 = .ok (.invokestatic 119, 3) := by decide +kernel
theorem dX8_keep_180 : decode cX8_keep 180 = .ok (.bipush 8, 2) := by decide +kernel
theorem dX8_keep_182 : decode cX8_keep 182 = .ok (.ishr, 1) := by decide +kernel
theorem dX8_keep_183 : decode cX8_keep 183 = .ok (.i2b, 1) := by decide +kernel
theorem dX8_keep_184 : decode cX8_keep 184 = .ok (.bastore, 1) := by decide +kernel
theorem dX8_keep_185 : decode cX8_keep 185 = .ok (.aload_n 0, 1) := by decide +kernel
theorem dX8_keep_186 : decode cX8_keep 186 = .ok (.getfield 25, 3) := by decide +kernel
theorem dX8_keep_189 : decode cX8_keep 189 = .ok (.iload_n 1, 1) := by decide +kernel
theorem dX8_keep_190 : decode cX8_keep 190 = .ok (.iload_n 2, 1) := by decide +kernel
theorem dX8_keep_191 : decode cX8_keep 191 = .ok (.iconst 5, 1) := by decide +kernel
theorem dX8_keep_192 : decode cX8_keep 192 = .ok (.iadd, 1) := by decide +kernel
theorem dX8_keep_193 : decode cX8_keep 193 = .ok (.iload_n 1, 1) := by decide +kernel
theorem dX8_keep_194 : decode cX8_keep 194 = .ok (.sipush 9305, 3) := by decide +kernel
theorem dX8_keep_197 : decode cX8_keep 197 = .ok (.imul, 1) := by decide +kernel
theorem dX8_keep_198 : decode cX8_keep 198 = .ok (.isub, 1) := by decide +kernel
theorem dX8_keep_199 : decode cX8_keep 199 = .ok (.iastore, 1) := by decide +kernel
theorem dX8_keep_200 : decode cX8_keep 200 = .ok (.return_, 1) := by decide +kernel
theorem dX8_leastLike_0 : decode cX8_leastLike 0 = .ok (.iconst 0, 1) := by decide +kernel
theorem dX8_leastLike_1 : decode cX8_leastLike 1 = .ok (.istore_n 2, 1) := by decide +kernel
theorem dX8_leastLike_2 : decode cX8_leastLike 2 = .ok (.iload_n 2, 1) := by decide +kernel
theorem dX8_leastLike_3 : decode cX8_leastLike 3 = .ok (.iload_n 1, 1) := by decide +kernel
theorem dX8_leastLike_4 : decode cX8_leastLike 4 = .ok (.if_icmp .ge 52, 3) := by decide +kernel
theorem dX8_leastLike_7 : decode cX8_leastLike 7 = .ok (.aload_n 0, 1) := by decide +kernel
theorem dX8_leastLike_8 : decode cX8_leastLike 8 = .ok (.getfield 25, 3) := by decide +kernel
theorem dX8_leastLike_11 : decode cX8_leastLike 11 = .ok (.iload_n 2, 1) := by decide +kernel
theorem dX8_leastLike_12 : decode cX8_leastLike 12 = .ok (.iaload, 1) := by decide +kernel
theorem dX8_leastLike_13 : decode cX8_leastLike 13 = .ok (.aload_n 0, 1) := by decide +kernel
theorem dX8_leastLike_14 : decode cX8_leastLike 14 = .ok (.getfield 25, 3) := by decide +kernel
theorem dX8_leastLike_17 : decode cX8_leastLike 17 = .ok (.iload_n 1, 1) := by decide +kernel
theorem dX8_leastLike_18 : decode cX8_leastLike 18 = .ok (.iaload, 1) := by decide +kernel
theorem dX8_leastLike_19 : decode cX8_leastLike 19 = .ok (.if_icmp .ne 31, 3) := by decide +kernel
theorem dX8_leastLike_22 : decode cX8_leastLike 22 = .ok (.aload_n 0, 1) := by decide +kernel
theorem dX8_leastLike_23 : decode cX8_leastLike 23 = .ok (.getfield 21, 3) := by decide +kernel
theorem dX8_leastLike_26 : decode cX8_leastLike 26 = .ok (.iload_n 2, 1) := by decide +kernel
theorem dX8_leastLike_27 : decode cX8_leastLike 27 = .ok (.sipush 9305, 3) := by decide +kernel
theorem dX8_leastLike_30 : decode cX8_leastLike 30 = .ok (.imul, 1) := by decide +kernel
theorem dX8_leastLike_31 : decode cX8_leastLike 31 = .ok (.iload_n 1, 1) := by decide +kernel
theorem dX8_leastLike_32 : decode cX8_leastLike 32 = .ok (.sipush 9305, 3) := by decide +kernel
theorem dX8_leastLike_35 : decode cX8_leastLike 35 = .ok (.imul, 1) := by decide +kernel
theorem dX8_leastLike_36 : decode cX8_leastLike 36 = .ok (.aload_n 0, 1) := by decide +kernel
theorem dX8_leastLike_37 : decode cX8_leastLike 37 = .ok (.getfield 25, 3) := by decide +kernel
theorem dX8_leastLike_40 : decode cX8_leastLike 40 = .ok (.iload_n 1, 1) := by decide +kernel
theorem dX8_leastLike_41 : decode cX8_leastLike 41 = .ok (.iaload, 1) := by decide +kernel
theorem dX8_leastLike_42 : decode cX8_leastLike 42 = .ok (.invokestatic 122, 3) := by decide +kernel
theorem dX8_leastLike_45 : decode cX8_leastLike 45 = .ok (.ifCond .eq 5, 3) := by decide +kernel
theorem dX8_leastLike_48 : decode cX8_leastLike 48 = .ok (.iload_n 2, 1) := by decide +kernel
theorem dX8_leastLike_49 : decode cX8_leastLike 49 = .ok (.ireturn, 1) := by decide +kernel
theorem dX8_leastLike_50 : decode cX8_leastLike 50 = .ok (.iinc 2 1, 3) := by decide +kernel
theorem dX8_leastLike_53 : decode cX8_leastLike 53 = .ok (.goto (-51), 3) := by decide +kernel
theorem dX8_leastLike_56 : decode cX8_leastLike 56 = .ok (.iload_n 1, 1) := by decide +kernel
theorem dX8_leastLike_57 : decode cX8_leastLike 57 = .ok (.ireturn, 1) := by decide +kernel
theorem dX8_unlike_0 : decode cX8_unlike 0 = .ok (.iconst 0, 1) := by decide +kernel
theorem dX8_unlike_1 : decode cX8_unlike 1 = .ok (.istore_n 2, 1) := by decide +kernel
theorem dX8_unlike_2 : decode cX8_unlike 2 = .ok (.iconst 0, 1) := by decide +kernel
theorem dX8_unlike_3 : decode cX8_unlike 3 = .ok (.istore_n 3, 1) := by decide +kernel
theorem dX8_unlike_4 : decode cX8_unlike 4 = .ok (.iload_n 3, 1) := by decide +kernel
theorem dX8_unlike_5 : decode cX8_unlike 5 = .ok (.iload_n 1, 1) := by decide +kernel
theorem dX8_unlike_6 : decode cX8_unlike 6 = .ok (.if_icmp .ge 33, 3) := by decide +kernel
theorem dX8_unlike_9 : decode cX8_unlike 9 = .ok (.iload_n 3, 1) := by decide +kernel
theorem dX8_unlike_10 : decode cX8_unlike 10 = .ok (.bipush 8, 2) := by decide +kernel
theorem dX8_unlike_12 : decode cX8_unlike 12 = .ok (.if_icmp .ge 27, 3) := by decide +kernel
theorem dX8_unlike_15 : decode cX8_unlike 15 = .ok (.iload_n 2, 1) := by decide +kernel
theorem dX8_unlike_16 : decode cX8_unlike 16 = .ok (.aload_n 0, 1) := by decide +kernel
theorem dX8_unlike_17 : decode cX8_unlike 17 = .ok (.getfield 29, 3) := by decide +kernel
theorem dX8_unlike_20 : decode cX8_unlike 20 = .ok (.iload_n 3, 1) := by decide +kernel
theorem dX8_unlike_21 : decode cX8_unlike 21 = .ok (.iaload, 1) := by decide +kernel
theorem dX8_unlike_22 : decode cX8_unlike 22 = .ok (.iload_n 3, 1) := by decide +kernel
theorem dX8_unlike_23 : decode cX8_unlike 23 = .ok (.if_icmp .ne 7, 3) := by decide +kernel
theorem dX8_unlike_26 : decode cX8_unlike 26 = .ok (.iconst 1, 1) := by decide +kernel
theorem dX8_unlike_27 : decode cX8_unlike 27 = .ok (.goto 4, 3) := by decide +kernel
theorem dX8_unlike_30 : decode cX8_unlike 30 = .ok (.iconst 0, 1) := by decide +kernel
theorem dX8_unlike_31 : decode cX8_unlike 31 = .ok (.iadd, 1) := by decide +kernel
theorem dX8_unlike_32 : decode cX8_unlike 32 = .ok (.istore_n 2, 1) := by decide +kernel
theorem dX8_unlike_33 : decode cX8_unlike 33 = .ok (.iinc 3 1, 3) := by decide +kernel
theorem dX8_unlike_36 : decode cX8_unlike 36 = .ok (.goto (-32), 3) := by decide +kernel
theorem dX8_unlike_39 : decode cX8_unlike 39 = .ok (.iload_n 2, 1) := by decide +kernel
theorem dX8_unlike_40 : decode cX8_unlike 40 = .ok (.ireturn, 1) := by decide +kernel
theorem dX8_changing_0 : decode cX8_changing 0 = .ok (.iconst 0, 1) := by decide +kernel
theorem dX8_changing_1 : decode cX8_changing 1 = .ok (.istore_n 2, 1) := by decide +kernel
theorem dX8_changing_2 : decode cX8_changing 2 = .ok (.iconst 0, 1) := by decide +kernel
theorem dX8_changing_3 : decode cX8_changing 3 = .ok (.istore_n 3, 1) := by decide +kernel
theorem dX8_changing_4 : decode cX8_changing 4 = .ok (.iload_n 3, 1) := by decide +kernel
theorem dX8_changing_5 : decode cX8_changing 5 = .ok (.iconst 1, 1) := by decide +kernel
theorem dX8_changing_6 : decode cX8_changing 6 = .ok (.iload_n 1, 1) := by decide +kernel
theorem dX8_changing_7 : decode cX8_changing 7 = .ok (.ishl, 1) := by decide +kernel
theorem dX8_changing_8 : decode cX8_changing 8 = .ok (.if_icmp .ge 61, 3) := by decide +kernel
theorem dX8_changing_11 : decode cX8_changing 11 = .ok (.iload_n 3, 1) := by decide +kernel
theorem dX8_changing_12 : decode cX8_changing 12 = .ok (.bipush 8, 2) := by decide +kernel
theorem dX8_changing_14 : decode cX8_changing 14 = .ok (.if_icmp .ge 55, 3) := by decide +kernel
theorem dX8_changing_17 : decode cX8_changing 17 = .ok (.iconst 0, 1) := by decide +kernel
theorem dX8_changing_18 : decode cX8_changing 18 = .ok (.istore 4, 2) := by decide +kernel
theorem dX8_changing_20 : decode cX8_changing 20 = .ok (.iload 4, 2) := by decide +kernel
theorem dX8_changing_22 : decode cX8_changing 22 = .ok (.iload_n 1, 1) := by decide +kernel
theorem dX8_changing_23 : decode cX8_changing 23 = .ok (.if_icmp .ge 40, 3) := by decide +kernel
theorem dX8_changing_26 : decode cX8_changing 26 = .ok (.iload_n 2, 1) := by decide +kernel
theorem dX8_changing_27 : decode cX8_changing 27 = .ok (.aload_n 0, 1) := by decide +kernel
theorem dX8_changing_28 : decode cX8_changing 28 = .ok (.getfield 29, 3) := by decide +kernel
theorem dX8_changing_31 : decode cX8_changing 31 = .ok (.iload_n 3, 1) := by decide +kernel
theorem dX8_changing_32 : decode cX8_changing 32 = .ok (.iaload, 1) := by decide +kernel
theorem dX8_changing_33 : decode cX8_changing 33 = .ok (.aload_n 0, 1) := by decide +kernel
theorem dX8_changing_34 : decode cX8_changing 34 = .ok (.getfield 29, 3) := by decide +kernel
theorem dX8_changing_37 : decode cX8_changing 37 = .ok (.iload_n 3, 1) := by decide +kernel
theorem dX8_changing_38 : decode cX8_changing 38 = .ok (.iconst 1, 1) := by decide +kernel
theorem dX8_changing_39 : decode cX8_changing 39 = .ok (.iload 4, 2) := by decide +kernel
theorem dX8_changing_41 : decode cX8_changing 41 = .ok (.ishl, 1) := by decide +kernel
theorem dX8_changing_42 : decode cX8_changing 42 = .ok (.ixor, 1) := by decide +kernel
theorem dX8_changing_43 : decode cX8_changing 43 = .ok (.iaload, 1) := by decide +kernel
theorem dX8_changing_44 : decode cX8_changing 44 = .ok (.if_icmp .eq 10, 3) := by decide +kernel
theorem dX8_changing_47 : decode cX8_changing 47 = .ok (.iconst 1, 1) := by decide +kernel
theorem dX8_changing_48 : decode cX8_changing 48 = .ok (.iload 4, 2) := by decide +kernel
theorem dX8_changing_50 : decode cX8_changing 50 = .ok (.ishl, 1) := by decide +kernel
theorem dX8_changing_51 : decode cX8_changing 51 = .ok (.goto 4, 3) := by decide +kernel
theorem dX8_changing_54 : decode cX8_changing 54 = .ok (.iconst 0, 1) := by decide +kernel
theorem dX8_changing_55 : decode cX8_changing 55 = .ok (.ior, 1) := by decide +kernel
theorem dX8_changing_56 : decode cX8_changing 56 = .ok (.istore_n 2, 1) := by decide +kernel
theorem dX8_changing_57 : decode cX8_changing 57 = .ok (.iinc 4 1, 3) := by decide +kernel
theorem dX8_changing_60 : decode cX8_changing 60 = .ok (.goto (-40), 3) := by decide +kernel
theorem dX8_changing_63 : decode cX8_changing 63 = .ok (.iinc 3 1, 3) := by decide +kernel
theorem dX8_changing_66 : decode cX8_changing 66 = .ok (.goto (-62), 3) := by decide +kernel
theorem dX8_changing_69 : decode cX8_changing 69 = .ok (.iload_n 2, 1) := by decide +kernel
theorem dX8_changing_70 : decode cX8_changing 70 = .ok (.ireturn, 1) := by decide +kernel
