theorem dX4_init_0 : decode cX4_init 0 = .ok (.aload_n 0, 1) := by decide +kernel
theorem dX4_init_1 : decode cX4_init 1 = .ok (.invokespecial 3, 3) := by decide +kernel
theorem dX4_init_4 : decode cX4_init 4 = .ok (.aload_n 0, 1) := by decide +kernel
theorem dX4_init_5 : decode cX4_init 5 = .ok (.sipush 401, 3) := by decide +kernel
theorem dX4_init_8 : decode cX4_init 8 = .ok (.newarray .byte, 2) := by decide +kernel
theorem dX4_init_10 : decode cX4_init 10 = .ok (.putfield 9, 3) := by decide +kernel
theorem dX4_init_13 : decode cX4_init 13 = .ok (.aload_n 0, 1) := by decide +kernel
theorem dX4_init_14 : decode cX4_init 14 = .ok (.bipush 41, 2) := by decide +kernel
theorem dX4_init_16 : decode cX4_init 16 = .ok (.newarray .int, 2) := by decide +kernel
theorem dX4_init_18 : decode cX4_init 18 = .ok (.putfield 15, 3) := by decide +kernel
theorem dX4_init_21 : decode cX4_init 21 = .ok (.aload_n 0, 1) := by decide +kernel
theorem dX4_init_22 : decode cX4_init 22 = .ok (.bipush 40, 2) := by decide +kernel
theorem dX4_init_24 : decode cX4_init 24 = .ok (.newarray .int, 2) := by decide +kernel
theorem dX4_init_26 : decode cX4_init 26 = .ok (.putfield 19, 3) := by decide +kernel
theorem dX4_init_29 : decode cX4_init 29 = .ok (.aload_n 0, 1) := by decide +kernel
theorem dX4_init_30 : decode cX4_init 30 = .ok (.iconst 0, 1) := by decide +kernel
theorem dX4_init_31 : decode cX4_init 31 = .ok (.putfield 22, 3) := by decide +kernel
theorem dX4_init_34 : decode cX4_init 34 = .ok (.aload_n 0, 1) := by decide +kernel
theorem dX4_init_35 : decode cX4_init 35 = .ok (.iconst 0, 1) := by decide +kernel
theorem dX4_init_36 : decode cX4_init 36 = .ok (.putfield 26, 3) := by decide +kernel
theorem dX4_init_39 : decode cX4_init 39 = .ok (.aload_n 0, 1) := by decide +kernel
theorem dX4_init_40 : decode cX4_init 40 = .ok (.iconst 0, 1) := by decide +kernel
theorem dX4_init_41 : decode cX4_init 41 = .ok (.putfield 30, 3) := by decide +kernel
theorem dX4_init_44 : decode cX4_init 44 = .ok (.aload_n 0, 1) := by decide +kernel
theorem dX4_init_45 : decode cX4_init 45 = .ok (.iconst 0, 1) := by decide +kernel
theorem dX4_init_46 : decode cX4_init 46 = .ok (.putfield 33, 3) := by decide +kernel
theorem dX4_init_49 : decode cX4_init 49 = .ok (.return_, 1) := by decide +kernel
theorem dX4_read_0 : decode cX4_read 0 = .ok (.aload_n 0, 1) := by decide +kernel
theorem dX4_read_1 : decode cX4_read 1 = .ok (.iconst 1, 1) := by decide +kernel
theorem dX4_read_2 : decode cX4_read 2 = .ok (.putfield 26, 3) := by decide +kernel
theorem dX4_read_5 : decode cX4_read 5 = .ok (.aload_n 0, 1) := by decide +kernel
theorem dX4_read_6 : decode cX4_read 6 = .ok (.iconst 0, 1) := by decide +kernel
theorem dX4_read_7 : decode cX4_read 7 = .ok (.putfield 22, 3) := by decide +kernel
theorem dX4_read_10 : decode cX4_read 10 = .ok (.iconst 0, 1) := by decide +kernel
theorem dX4_read_11 : decode cX4_read 11 = .ok (.istore_n 3, 1) := by decide +kernel
theorem dX4_read_12 : decode cX4_read 12 = .ok (.iconst 0, 1) := by decide +kernel
theorem dX4_read_13 : decode cX4_read 13 = .ok (.istore 4, 2) := by decide +kernel
theorem dX4_read_15 : decode cX4_read 15 = .ok (.iload 4, 2) := by decide +kernel
theorem dX4_read_17 : decode cX4_read 17 = .ok (.iload_n 2, 1) := by decide +kernel
theorem dX4_read_18 : decode cX4_read 18 = .ok (.if_icmp .ge 50, 3) := by decide +kernel
theorem dX4_read_21 : decode cX4_read 21 = .ok (.iload 4, 2) := by decide +kernel
theorem dX4_read_23 : decode cX4_read 23 = .ok (.aload_n 1, 1) := by decide +kernel
theorem dX4_read_24 : decode cX4_read 24 = .ok (.arraylength, 1) := by decide +kernel
theorem dX4_read_25 : decode cX4_read 25 = .ok (.if_icmp .ge 43, 3) := by decide +kernel
theorem dX4_read_28 : decode cX4_read 28 = .ok (.iload_n 3, 1) := by decide +kernel
theorem dX4_read_29 : decode cX4_read 29 = .ok (.sipush 401, 3) := by decide +kernel
theorem dX4_read_32 : decode cX4_read 32 = .ok (.if_icmp .ge 36, 3) := by decide +kernel
theorem dX4_read_35 : decode cX4_read 35 = .ok (.aload_n 0, 1) := by decide +kernel
theorem dX4_read_36 : decode cX4_read 36 = .ok (.getfield 9, 3) := by decide +kernel
theorem dX4_read_39 : decode cX4_read 39 = .ok (.iload_n 3, 1) := by decide +kernel
theorem dX4_read_40 : decode cX4_read 40 = .ok (.aload_n 1, 1) := by decide +kernel
theorem dX4_read_41 : decode cX4_read 41 = .ok (.iload 4, 2) := by decide +kernel
theorem dX4_read_43 : decode cX4_read 43 = .ok (.baload, 1) := by decide +kernel
theorem dX4_read_44 : decode cX4_read 44 = .ok (.bastore, 1) := by decide +kernel
theorem dX4_read_45 : decode cX4_read 45 = .ok (.iinc 3 1, 3) := by decide +kernel
theorem dX4_read_48 : decode cX4_read 48 = .ok (.aload_n 1, 1) := by decide +kernel
theorem dX4_read_49 : decode cX4_read 49 = .ok (.iload 4, 2) := by decide +kernel
theorem dX4_read_51 : decode cX4_read 51 = .ok (.baload, 1) := by decide +kernel
theorem dX4_read_52 : decode cX4_read 52 = .ok (.bipush 10, 2) := by decide +kernel
theorem dX4_read_54 : decode cX4_read 54 = .ok (.if_icmp .ne 8, 3) := by decide +kernel
theorem dX4_read_57 : decode cX4_read 57 = .ok (.aload_n 0, 1) := by decide +kernel
theorem dX4_read_58 : decode cX4_read 58 = .ok (.iload_n 3, 1) := by decide +kernel
theorem dX4_read_59 : decode cX4_read 59 = .ok (.invokevirtual 36, 3) := by decide +kernel
theorem dX4_read_62 : decode cX4_read 62 = .ok (.iinc 4 1, 3) := by decide +kernel
theorem dX4_read_65 : decode cX4_read 65 = .ok (.goto (-50), 3) := by decide +kernel
theorem dX4_read_68 : decode cX4_read 68 = .ok (.iload_n 3, 1) := by decide +kernel
theorem dX4_read_69 : decode cX4_read 69 = .ok (.aload_n 0, 1) := by decide +kernel
theorem dX4_read_70 : decode cX4_read 70 = .ok (.getfield 15, 3) := by decide +kernel
theorem dX4_read_73 : decode cX4_read 73 = .ok (.aload_n 0, 1) := by decide +kernel
theorem dX4_read_74 : decode cX4_read 74 = .ok (.getfield 22, 3) := by decide +kernel
theorem dX4_read_77 : decode cX4_read 77 = .ok (.iaload, 1) := by decide +kernel
theorem dX4_read_78 : decode cX4_read 78 = .ok (.if_icmp .le 25, 3) := by decide +kernel
theorem dX4_read_81 : decode cX4_read 81 = .ok (.iload_n 3, 1) := by decide +kernel
theorem dX4_read_82 : decode cX4_read 82 = .ok (.sipush 401, 3) := by decide +kernel
theorem dX4_read_85 : decode cX4_read 85 = .ok (.if_icmp .ge 18, 3) := by decide +kernel
theorem dX4_read_88 : decode cX4_read 88 = .ok (.aload_n 0, 1) := by decide +kernel
theorem dX4_read_89 : decode cX4_read 89 = .ok (.getfield 9, 3) := by decide +kernel
theorem dX4_read_92 : decode cX4_read 92 = .ok (.iload_n 3, 1) := by decide +kernel
theorem dX4_read_93 : decode cX4_read 93 = .ok (.bipush 10, 2) := by decide +kernel
theorem dX4_read_95 : decode cX4_read 95 = .ok (.bastore, 1) := by decide +kernel
theorem dX4_read_96 : decode cX4_read 96 = .ok (.aload_n 0, 1) := by decide +kernel
theorem dX4_read_97 : decode cX4_read 97 = .ok (.iload_n 3, 1) := by decide +kernel
theorem dX4_read_98 : decode cX4_read 98 = .ok (.iconst 1, 1) := by decide +kernel
theorem dX4_read_99 : decode cX4_read 99 = .ok (.iadd, 1) := by decide +kernel
theorem dX4_read_100 : decode cX4_read 100 = .ok (.invokevirtual 36, 3) := by decide +kernel
theorem dX4_read_103 : decode cX4_read 103 = .ok (.aload_n 0, 1) := by decide +kernel
theorem dX4_read_104 : decode cX4_read 104 = .ok (.invokevirtual 40, 3) := by decide +kernel
theorem dX4_read_107 : decode cX4_read 107 = .ok (.return_, 1) := by decide +kernel
theorem dX4_closeLine_0 : decode cX4_closeLine 0 = .ok (.aload_n 0, 1) := by decide +kernel
theorem dX4_closeLine_1 : decode cX4_closeLine 1 = .ok (.getfield 22, 3) := by decide +kernel
theorem dX4_closeLine_4 : decode cX4_closeLine 4 = .ok (.bipush 40, 2) := by decide +kernel
theorem dX4_closeLine_6 : decode cX4_closeLine 6 = .ok (.if_icmp .ge 23, 3) := by decide +kernel
theorem dX4_closeLine_9 : decode cX4_closeLine 9 = .ok (.aload_n 0, 1) := by decide +kernel
theorem dX4_closeLine_10 : decode cX4_closeLine 10 = .ok (.dup, 1) := by decide +kernel
theorem dX4_closeLine_11 : decode cX4_closeLine 11 = .ok (.getfield 22, 3) := by decide +kernel
theorem dX4_closeLine_14 : decode cX4_closeLine 14 = .ok (.iconst 1, 1) := by decide +kernel
theorem dX4_closeLine_15 : decode cX4_closeLine 15 = .ok (.iadd, 1) := by decide +kernel
theorem dX4_closeLine_16 : decode cX4_closeLine 16 = .ok (.putfield 22, 3) := by decide +kernel
theorem dX4_closeLine_19 : decode cX4_closeLine 19 = .ok (.aload_n 0, 1) := by decide +kernel
theorem dX4_closeLine_20 : decode cX4_closeLine 20 = .ok (.getfield 15, 3) := by decide +kernel
theorem dX4_closeLine_23 : decode cX4_closeLine 23 = .ok (.aload_n 0, 1) := by decide +kernel
theorem dX4_closeLine_24 : decode cX4_closeLine 24 = .ok (.getfield 22, 3) := by decide +kernel
theorem dX4_closeLine_27 : decode cX4_closeLine 27 = .ok (.iload_n 1, 1) := by decide +kernel
theorem dX4_closeLine_28 : decode cX4_closeLine 28 = .ok (.iastore, 1) := by decide +kernel
theorem dX4_closeLine_29 : decode cX4_closeLine 29 = .ok (.return_, 1) := by decide +kernel
theorem dX4_change_0 : decode cX4_change 0 = .ok (.iload_n 1, 1) := by decide +kernel
theorem dX4_change_1 : decode cX4_change 1 = .ok (.aload_n 0, 1) := by decide +kernel
theorem dX4_change_2 : decode cX4_change 2 = .ok (.getfield 22, 3) := by decide +kernel
theorem dX4_change_5 : decode cX4_change 5 = .ok (.if_icmp .ne 7, 3) := by decide +kernel
theorem dX4_change_8 : decode cX4_change 8 = .ok (.iconst 1, 1) := by decide +kernel
theorem dX4_change_9 : decode cX4_change 9 = .ok (.goto 4, 3) := by decide +kernel
theorem dX4_change_12 : decode cX4_change 12 = .ok (.iconst 0, 1) := by decide +kernel
theorem dX4_change_13 : decode cX4_change 13 = .ok (.istore 4, 2) := by decide +kernel
theorem dX4_change_15 : decode cX4_change 15 = .ok (.iload 4, 2) := by decide +kernel
theorem dX4_change_17 : decode cX4_change 17 = .ok (.ifCond .eq 15, 3) := by decide +kernel
theorem dX4_change_20 : decode cX4_change 20 = .ok (.aload_n 0, 1) := by decide +kernel
theorem dX4_change_21 : decode cX4_change 21 = .ok (.getfield 15, 3) := by decide +kernel
theorem dX4_change_24 : decode cX4_change 24 = .ok (.aload_n 0, 1) := by decide +kernel
theorem dX4_change_25 : decode cX4_change 25 = .ok (.getfield 22, 3) := by decide +kernel
theorem dX4_change_28 : decode cX4_change 28 = .ok (.iaload, 1) := by decide +kernel
theorem dX4_change_29 : decode cX4_change 29 = .ok (.goto 11, 3) := by decide +kernel
theorem dX4_change_32 : decode cX4_change 32 = .ok (.aload_n 0, 1) := by decide +kernel
theorem dX4_change_33 : decode cX4_change 33 = .ok (.getfield 15, 3) := by decide +kernel
theorem dX4_change_36 : decode cX4_change 36 = .ok (.iload_n 1, 1) := by decide +kernel
theorem dX4_change_37 : decode cX4_change 37 = .ok (.iconst 1, 1) := by decide +kernel
theorem dX4_change_38 : decode cX4_change 38 = .ok (.iadd, 1) := by decide +kernel
theorem dX4_change_39 : decode cX4_change 39 = .ok (.iaload, 1) := by decide +kernel
theorem dX4_change_40 : decode cX4_change 40 = .ok (.istore 5, 2) := by decide +kernel
theorem dX4_change_42 : decode cX4_change 42 = .ok (.aload_n 0, 1) := by decide +kernel
theorem dX4_change_43 : decode cX4_change 43 = .ok (.getfield 15, 3) := by decide +kernel
theorem dX4_change_46 : decode cX4_change 46 = .ok (.iload_n 1, 1) := by decide +kernel
theorem dX4_change_47 : decode cX4_change 47 = .ok (.iaload, 1) := by decide +kernel
theorem dX4_change_48 : decode cX4_change 48 = .ok (.iload_n 3, 1) := by decide +kernel
theorem dX4_change_49 : decode cX4_change 49 = .ok (.iadd, 1) := by decide +kernel
theorem dX4_change_50 : decode cX4_change 50 = .ok (.iconst 1, 1) := by decide +kernel
theorem dX4_change_51 : decode cX4_change 51 = .ok (.iadd, 1) := by decide +kernel
theorem dX4_change_52 : decode cX4_change 52 = .ok (.iload 5, 2) := by decide +kernel
theorem dX4_change_54 : decode cX4_change 54 = .ok (.isub, 1) := by decide +kernel
theorem dX4_change_55 : decode cX4_change 55 = .ok (.istore 6, 2) := by decide +kernel
theorem dX4_change_57 : decode cX4_change 57 = .ok (.aload_n 0, 1) := by decide +kernel
theorem dX4_change_58 : decode cX4_change 58 = .ok (.getfield 15, 3) := by decide +kernel
theorem dX4_change_61 : decode cX4_change 61 = .ok (.aload_n 0, 1) := by decide +kernel
theorem dX4_change_62 : decode cX4_change 62 = .ok (.getfield 22, 3) := by decide +kernel
theorem dX4_change_65 : decode cX4_change 65 = .ok (.iaload, 1) := by decide +kernel
theorem dX4_change_66 : decode cX4_change 66 = .ok (.iload 6, 2) := by decide +kernel
theorem dX4_change_68 : decode cX4_change 68 = .ok (.iadd, 1) := by decide +kernel
theorem dX4_change_69 : decode cX4_change 69 = .ok (.sipush 400, 3) := by decide +kernel
theorem dX4_change_72 : decode cX4_change 72 = .ok (.if_icmp .gt 17, 3) := by decide +kernel
theorem dX4_change_75 : decode cX4_change 75 = .ok (.iload 4, 2) := by decide +kernel
theorem dX4_change_77 : decode cX4_change 77 = .ok (.ifCond .eq 14, 3) := by decide +kernel
theorem dX4_change_80 : decode cX4_change 80 = .ok (.aload_n 0, 1) := by decide +kernel
theorem dX4_change_81 : decode cX4_change 81 = .ok (.getfield 22, 3) := by decide +kernel
theorem dX4_change_84 : decode cX4_change 84 = .ok (.bipush 40, 2) := by decide +kernel
theorem dX4_change_86 : decode cX4_change 86 = .ok (.if_icmp .lt 5, 3) := by decide +kernel
theorem dX4_change_89 : decode cX4_change 89 = .ok (.iconst 0, 1) := by decide +kernel
theorem dX4_change_90 : decode cX4_change 90 = .ok (.ireturn, 1) := by decide +kernel
theorem dX4_change_91 : decode cX4_change 91 = .ok (.iload 4, 2) := by decide +kernel
theorem dX4_change_93 : decode cX4_change 93 = .ok (.ifCond .eq 24, 3) := by decide +kernel
theorem dX4_change_96 : decode cX4_change 96 = .ok (.aload_n 0, 1) := by decide +kernel
theorem dX4_change_97 : decode cX4_change 97 = .ok (.dup, 1) := by decide +kernel
theorem dX4_change_98 : decode cX4_change 98 = .ok (.getfield 22, 3) := by decide +kernel
theorem dX4_change_101 : decode cX4_change 101 = .ok (.iconst 1, 1) := by decide +kernel
theorem dX4_change_102 : decode cX4_change 102 = .ok (.iadd, 1) := by decide +kernel
theorem dX4_change_103 : decode cX4_change 103 = .ok (.putfield 22, 3) := by decide +kernel
theorem dX4_change_106 : decode cX4_change 106 = .ok (.aload_n 0, 1) := by decide +kernel
theorem dX4_change_107 : decode cX4_change 107 = .ok (.getfield 15, 3) := by decide +kernel
theorem dX4_change_110 : decode cX4_change 110 = .ok (.aload_n 0, 1) := by decide +kernel
theorem dX4_change_111 : decode cX4_change 111 = .ok (.getfield 22, 3) := by decide +kernel
theorem dX4_change_114 : decode cX4_change 114 = .ok (.iload 5, 2) := by decide +kernel
theorem dX4_change_116 : decode cX4_change 116 = .ok (.iastore, 1) := by decide +kernel
theorem dX4_change_117 : decode cX4_change 117 = .ok (.aload_n 0, 1) := by decide +kernel
theorem dX4_change_118 : decode cX4_change 118 = .ok (.getfield 9, 3) := by decide +kernel
theorem dX4_change_121 : decode cX4_change 121 = .ok (.iload 5, 2) := by decide +kernel
theorem dX4_change_123 : decode cX4_change 123 = .ok (.aload_n 0, 1) := by decide +kernel
theorem dX4_change_124 : decode cX4_change 124 = .ok (.getfield 9, 3) := by decide +kernel
theorem dX4_change_127 : decode cX4_change 127 = .ok (.iload 5, 2) := by decide +kernel
theorem dX4_change_129 : decode cX4_change 129 = .ok (.iload 6, 2) := by decide +kernel
theorem dX4_change_131 : decode cX4_change 131 = .ok (.iadd, 1) := by decide +kernel
theorem dX4_change_132 : decode cX4_change 132 = .ok (.aload_n 0, 1) := by decide +kernel
theorem dX4_change_133 : decode cX4_change 133 = .ok (.getfield 15, 3) := by decide +kernel
theorem dX4_change_136 : decode cX4_change 136 = .ok (.aload_n 0, 1) := by decide +kernel
theorem dX4_change_137 : decode cX4_change 137 = .ok (.getfield 22, 3) := by decide +kernel
theorem dX4_change_140 : decode cX4_change 140 = .ok (.iaload, 1) := by decide +kernel
theorem dX4_change_141 : decode cX4_change 141 = .ok (.iload 5, 2) := by decide +kernel
theorem dX4_change_143 : decode cX4_change 143 = .ok (.isub, 1) := by decide +kernel
theorem dX4_change_144 : decode cX4_change 144 = .ok (.invokestatic 43, 3) := by decide +kernel
theorem dX4_change_147 : decode cX4_change 147 = .ok (.aload_n 2, 1) := by decide +kernel
theorem dX4_change_148 : decode cX4_change 148 = .ok (.iconst 0, 1) := by decide +kernel
theorem dX4_change_149 : decode cX4_change 149 = .ok (.aload_n 0, 1) := by decide +kernel
theorem dX4_change_150 : decode cX4_change 150 = .ok (.getfield 9, 3) := by decide +kernel
theorem dX4_change_153 : decode cX4_change 153 = .ok (.aload_n 0, 1) := by decide +kernel
theorem dX4_change_154 : decode cX4_change 154 = .ok (.getfield 15, 3) := by decide +kernel
theorem dX4_change_157 : decode cX4_change 157 = .ok (.iload_n 1, 1) := by decide +kernel
theorem dX4_change_158 : decode cX4_change 158 = .ok (.iaload, 1) := by decide +kernel
theorem dX4_change_159 : decode cX4_change 159 = .ok (.iload_n 3, 1) := by decide +kernel
theorem dX4_change_160 : decode cX4_change 160 = .ok (.invokestatic 43, 3) := by decide +kernel
theorem dX4_change_163 : decode cX4_change 163 = .ok (.aload_n 0, 1) := by decide +kernel
theorem dX4_change_164 : decode cX4_change 164 = .ok (.getfield 9, 3) := by decide +kernel
theorem dX4_change_167 : decode cX4_change 167 = .ok (.aload_n 0, 1) := by decide +kernel
theorem dX4_change_168 : decode cX4_change 168 = .ok (.getfield 15, 3) := by decide +kernel
theorem dX4_change_171 : decode cX4_change 171 = .ok (.iload_n 1, 1) := by decide +kernel
theorem dX4_change_172 : decode cX4_change 172 = .ok (.iaload, 1) := by decide +kernel
theorem dX4_change_173 : decode cX4_change 173 = .ok (.iload_n 3, 1) := by decide +kernel
theorem dX4_change_174 : decode cX4_change 174 = .ok (.iadd, 1) := by decide +kernel
theorem dX4_change_175 : decode cX4_change 175 = .ok (.bipush 10, 2) := by decide +kernel
theorem dX4_change_177 : decode cX4_change 177 = .ok (.bastore, 1) := by decide +kernel
theorem dX4_change_178 : decode cX4_change 178 = .ok (.iload_n 1, 1) := by decide +kernel
theorem dX4_change_179 : decode cX4_change 179 = .ok (.iconst 1, 1) := by decide +kernel
theorem dX4_change_180 : decode cX4_change 180 = .ok (.iadd, 1) := by decide +kernel
theorem dX4_change_181 : decode cX4_change 181 = .ok (.istore 7, 2) := by decide +kernel
theorem dX4_change_183 : decode cX4_change 183 = .ok (.iload 7, 2) := by decide +kernel
theorem dX4_change_185 : decode cX4_change 185 = .ok (.aload_n 0, 1) := by decide +kernel
theorem dX4_change_186 : decode cX4_change 186 = .ok (.getfield 22, 3) := by decide +kernel
theorem dX4_change_189 : decode cX4_change 189 = .ok (.if_icmp .gt 21, 3) := by decide +kernel
theorem dX4_change_192 : decode cX4_change 192 = .ok (.aload_n 0, 1) := by decide +kernel
theorem dX4_change_193 : decode cX4_change 193 = .ok (.getfield 15, 3) := by decide +kernel
theorem dX4_change_196 : decode cX4_change 196 = .ok (.iload 7, 2) := by decide +kernel
theorem dX4_change_198 : decode cX4_change 198 = .ok (.dup2, 1) := by decide +kernel
theorem dX4_change_199 : decode cX4_change 199 = .ok (.iaload, 1) := by decide +kernel
theorem dX4_change_200 : decode cX4_change 200 = .ok (.iload 6, 2) := by decide +kernel
theorem dX4_change_202 : decode cX4_change 202 = .ok (.iadd, 1) := by decide +kernel
theorem dX4_change_203 : decode cX4_change 203 = .ok (.iastore, 1) := by decide +kernel
theorem dX4_change_204 : decode cX4_change 204 = .ok (.iinc 7 1, 3) := by decide +kernel
theorem dX4_change_207 : decode cX4_change 207 = .ok (.goto (-24), 3) := by decide +kernel
theorem dX4_change_210 : decode cX4_change 210 = .ok (.aload_n 0, 1) := by decide +kernel
theorem dX4_change_211 : decode cX4_change 211 = .ok (.invokevirtual 40, 3) := by decide +kernel
theorem dX4_change_214 : decode cX4_change 214 = .ok (.iconst 1, 1) := by decide +kernel
theorem dX4_change_215 : decode cX4_change 215 = .ok (.ireturn, 1) := by decide +kernel
theorem dX4_takeOut_0 : decode cX4_takeOut 0 = .ok (.aload_n 0, 1) := by decide +kernel
theorem dX4_takeOut_1 : decode cX4_takeOut 1 = .ok (.getfield 15, 3) := by decide +kernel
theorem dX4_takeOut_4 : decode cX4_takeOut 4 = .ok (.iload_n 1, 1) := by decide +kernel
theorem dX4_takeOut_5 : decode cX4_takeOut 5 = .ok (.iconst 1, 1) := by decide +kernel
theorem dX4_takeOut_6 : decode cX4_takeOut 6 = .ok (.iadd, 1) := by decide +kernel
theorem dX4_takeOut_7 : decode cX4_takeOut 7 = .ok (.iaload, 1) := by decide +kernel
theorem dX4_takeOut_8 : decode cX4_takeOut 8 = .ok (.aload_n 0, 1) := by decide +kernel
theorem dX4_takeOut_9 : decode cX4_takeOut 9 = .ok (.getfield 15, 3) := by decide +kernel
theorem dX4_takeOut_12 : decode cX4_takeOut 12 = .ok (.iload_n 1, 1) := by decide +kernel
theorem dX4_takeOut_13 : decode cX4_takeOut 13 = .ok (.iaload, 1) := by decide +kernel
theorem dX4_takeOut_14 : decode cX4_takeOut 14 = .ok (.isub, 1) := by decide +kernel
theorem dX4_takeOut_15 : decode cX4_takeOut 15 = .ok (.istore_n 2, 1) := by decide +kernel
theorem dX4_takeOut_16 : decode cX4_takeOut 16 = .ok (.aload_n 0, 1) := by decide +kernel
theorem dX4_takeOut_17 : decode cX4_takeOut 17 = .ok (.getfield 9, 3) := by decide +kernel
theorem dX4_takeOut_20 : decode cX4_takeOut 20 = .ok (.aload_n 0, 1) := by decide +kernel
theorem dX4_takeOut_21 : decode cX4_takeOut 21 = .ok (.getfield 15, 3) := by decide +kernel
theorem dX4_takeOut_24 : decode cX4_takeOut 24 = .ok (.iload_n 1, 1) := by decide +kernel
theorem dX4_takeOut_25 : decode cX4_takeOut 25 = .ok (.iconst 1, 1) := by decide +kernel
theorem dX4_takeOut_26 : decode cX4_takeOut 26 = .ok (.iadd, 1) := by decide +kernel
theorem dX4_takeOut_27 : decode cX4_takeOut 27 = .ok (.iaload, 1) := by decide +kernel
theorem dX4_takeOut_28 : decode cX4_takeOut 28 = .ok (.aload_n 0, 1) := by decide +kernel
theorem dX4_takeOut_29 : decode cX4_takeOut 29 = .ok (.getfield 9, 3) := by decide +kernel
theorem dX4_takeOut_32 : decode cX4_takeOut 32 = .ok (.aload_n 0, 1) := by decide +kernel
theorem dX4_takeOut_33 : decode cX4_takeOut 33 = .ok (.getfield 15, 3) := by decide +kernel
theorem dX4_takeOut_36 : decode cX4_takeOut 36 = .ok (.iload_n 1, 1) := by decide +kernel
theorem dX4_takeOut_37 : decode cX4_takeOut 37 = .ok (.iaload, 1) := by decide +kernel
theorem dX4_takeOut_38 : decode cX4_takeOut 38 = .ok (.aload_n 0, 1) := by decide +kernel
theorem dX4_takeOut_39 : decode cX4_takeOut 39 = .ok (.getfield 15, 3) := by decide +kernel
theorem dX4_takeOut_42 : decode cX4_takeOut 42 = .ok (.aload_n 0, 1) := by decide +kernel
theorem dX4_takeOut_43 : decode cX4_takeOut 43 = .ok (.getfield 22, 3) := by decide +kernel
theorem dX4_takeOut_46 : decode cX4_takeOut 46 = .ok (.iaload, 1) := by decide +kernel
theorem dX4_takeOut_47 : decode cX4_takeOut 47 = .ok (.aload_n 0, 1) := by decide +kernel
theorem dX4_takeOut_48 : decode cX4_takeOut 48 = .ok (.getfield 15, 3) := by decide +kernel
theorem dX4_takeOut_51 : decode cX4_takeOut 51 = .ok (.iload_n 1, 1) := by decide +kernel
theorem dX4_takeOut_52 : decode cX4_takeOut 52 = .ok (.iconst 1, 1) := by decide +kernel
theorem dX4_takeOut_53 : decode cX4_takeOut 53 = .ok (.iadd, 1) := by decide +kernel
theorem dX4_takeOut_54 : decode cX4_takeOut 54 = .ok (.iaload, 1) := by decide +kernel
theorem dX4_takeOut_55 : decode cX4_takeOut 55 = .ok (.isub, 1) := by decide +kernel
theorem dX4_takeOut_56 : decode cX4_takeOut 56 = .ok (.invokestatic 43, 3) := by decide +kernel
theorem dX4_takeOut_59 : decode cX4_takeOut 59 = .ok (.iload_n 1, 1) := by decide +kernel
theorem dX4_takeOut_60 : decode cX4_takeOut 60 = .ok (.iconst 1, 1) := by decide +kernel
theorem dX4_takeOut_61 : decode cX4_takeOut 61 = .ok (.iadd, 1) := by decide +kernel
theorem dX4_takeOut_62 : decode cX4_takeOut 62 = .ok (.istore_n 3, 1) := by decide +kernel
theorem dX4_takeOut_63 : decode cX4_takeOut 63 = .ok (.iload_n 3, 1) := by decide +kernel
theorem dX4_takeOut_64 : decode cX4_takeOut 64 = .ok (.aload_n 0, 1) := by decide +kernel
theorem dX4_takeOut_65 : decode cX4_takeOut 65 = .ok (.getfield 22, 3) := by decide +kernel
theorem dX4_takeOut_68 : decode cX4_takeOut 68 = .ok (.if_icmp .ge 25, 3) := by decide +kernel
theorem dX4_takeOut_71 : decode cX4_takeOut 71 = .ok (.aload_n 0, 1) := by decide +kernel
theorem dX4_takeOut_72 : decode cX4_takeOut 72 = .ok (.getfield 15, 3) := by decide +kernel
theorem dX4_takeOut_75 : decode cX4_takeOut 75 = .ok (.iload_n 3, 1) := by decide +kernel
theorem dX4_takeOut_76 : decode cX4_takeOut 76 = .ok (.aload_n 0, 1) := by decide +kernel
theorem dX4_takeOut_77 : decode cX4_takeOut 77 = .ok (.getfield 15, 3) := by decide +kernel
theorem dX4_takeOut_80 : decode cX4_takeOut 80 = .ok (.iload_n 3, 1) := by decide +kernel
theorem dX4_takeOut_81 : decode cX4_takeOut 81 = .ok (.iconst 1, 1) := by decide +kernel
theorem dX4_takeOut_82 : decode cX4_takeOut 82 = .ok (.iadd, 1) := by decide +kernel
theorem dX4_takeOut_83 : decode cX4_takeOut 83 = .ok (.iaload, 1) := by decide +kernel
theorem dX4_takeOut_84 : decode cX4_takeOut 84 = .ok (.iload_n 2, 1) := by decide +kernel
theorem dX4_takeOut_85 : decode cX4_takeOut 85 = .ok (.isub, 1) := by decide +kernel
theorem dX4_takeOut_86 : decode cX4_takeOut 86 = .ok (.iastore, 1) := by decide +kernel
theorem dX4_takeOut_87 : decode cX4_takeOut 87 = .ok (.iinc 3 1, 3) := by decide +kernel
theorem dX4_takeOut_90 : decode cX4_takeOut 90 = .ok (.goto (-27), 3) := by decide +kernel
theorem dX4_takeOut_93 : decode cX4_takeOut 93 = .ok (.aload_n 0, 1) := by decide +kernel
theorem dX4_takeOut_94 : decode cX4_takeOut 94 = .ok (.dup, 1) := by decide +kernel
theorem dX4_takeOut_95 : decode cX4_takeOut 95 = .ok (.getfield 22, 3) := by decide +kernel
theorem dX4_takeOut_98 : decode cX4_takeOut 98 = .ok (.iconst 1, 1) := by decide +kernel
theorem dX4_takeOut_99 : decode cX4_takeOut 99 = .ok (.isub, 1) := by decide +kernel
theorem dX4_takeOut_100 : decode cX4_takeOut 100 = .ok (.putfield 22, 3) := by decide +kernel
theorem dX4_takeOut_103 : decode cX4_takeOut 103 = .ok (.aload_n 0, 1) := by decide +kernel
theorem dX4_takeOut_104 : decode cX4_takeOut 104 = .ok (.invokevirtual 40, 3) := by decide +kernel
theorem dX4_takeOut_107 : decode cX4_takeOut 107 = .ok (.return_, 1) := by decide +kernel
theorem dX4_copy_0 : decode cX4_copy 0 = .ok (.aload_n 1, 1) := by decide +kernel
theorem dX4_copy_1 : decode cX4_copy 1 = .ok (.getfield 9, 3) := by decide +kernel
theorem dX4_copy_4 : decode cX4_copy 4 = .ok (.iconst 0, 1) := by decide +kernel
theorem dX4_copy_5 : decode cX4_copy 5 = .ok (.aload_n 0, 1) := by decide +kernel
theorem dX4_copy_6 : decode cX4_copy 6 = .ok (.getfield 9, 3) := by decide +kernel
theorem dX4_copy_9 : decode cX4_copy 9 = .ok (.iconst 0, 1) := by decide +kernel
theorem dX4_copy_10 : decode cX4_copy 10 = .ok (.sipush 401, 3) := by decide +kernel
theorem dX4_copy_13 : decode cX4_copy 13 = .ok (.invokestatic 43, 3) := by decide +kernel
theorem dX4_copy_16 : decode cX4_copy 16 = .ok (.aload_n 1, 1) := by decide +kernel
theorem dX4_copy_17 : decode cX4_copy 17 = .ok (.getfield 15, 3) := by decide +kernel
theorem dX4_copy_20 : decode cX4_copy 20 = .ok (.iconst 0, 1) := by decide +kernel
theorem dX4_copy_21 : decode cX4_copy 21 = .ok (.aload_n 0, 1) := by decide +kernel
theorem dX4_copy_22 : decode cX4_copy 22 = .ok (.getfield 15, 3) := by decide +kernel
theorem dX4_copy_25 : decode cX4_copy 25 = .ok (.iconst 0, 1) := by decide +kernel
theorem dX4_copy_26 : decode cX4_copy 26 = .ok (.bipush 41, 2) := by decide +kernel
theorem dX4_copy_28 : decode cX4_copy 28 = .ok (.invokestatic 43, 3) := by decide +kernel
theorem dX4_copy_31 : decode cX4_copy 31 = .ok (.aload_n 1, 1) := by decide +kernel
theorem dX4_copy_32 : decode cX4_copy 32 = .ok (.getfield 19, 3) := by decide +kernel
theorem dX4_copy_35 : decode cX4_copy 35 = .ok (.iconst 0, 1) := by decide +kernel
theorem dX4_copy_36 : decode cX4_copy 36 = .ok (.aload_n 0, 1) := by decide +kernel
theorem dX4_copy_37 : decode cX4_copy 37 = .ok (.getfield 19, 3) := by decide +kernel
theorem dX4_copy_40 : decode cX4_copy 40 = .ok (.iconst 0, 1) := by decide +kernel
theorem dX4_copy_41 : decode cX4_copy 41 = .ok (.bipush 40, 2) := by decide +kernel
theorem dX4_copy_43 : decode cX4_copy 43 = .ok (.invokestatic 43, 3) := by decide +kernel
theorem dX4_copy_46 : decode cX4_copy 46 = .ok (.aload_n 0, 1) := by decide +kernel
theorem dX4_copy_47 : decode cX4_copy 47 = .ok (.aload_n 1, 1) := by decide +kernel
theorem dX4_copy_48 : decode cX4_copy 48 = .ok (.getfield 22, 3) := by decide +kernel
theorem dX4_copy_51 : decode cX4_copy 51 = .ok (.putfield 22, 3) := by decide +kernel
theorem dX4_copy_54 : decode cX4_copy 54 = .ok (.aload_n 0, 1) := by decide +kernel
theorem dX4_copy_55 : decode cX4_copy 55 = .ok (.aload_n 1, 1) := by decide +kernel
theorem dX4_copy_56 : decode cX4_copy 56 = .ok (.getfield 26, 3) := by decide +kernel
theorem dX4_copy_59 : decode cX4_copy 59 = .ok (.putfield 26, 3) := by decide +kernel
theorem dX4_copy_62 : decode cX4_copy 62 = .ok (.aload_n 0, 1) := by decide +kernel
theorem dX4_copy_63 : decode cX4_copy 63 = .ok (.aload_n 1, 1) := by decide +kernel
theorem dX4_copy_64 : decode cX4_copy 64 = .ok (.getfield 30, 3) := by decide +kernel
theorem dX4_copy_67 : decode cX4_copy 67 = .ok (.putfield 30, 3) := by decide +kernel
theorem dX4_copy_70 : decode cX4_copy 70 = .ok (.aload_n 0, 1) := by decide +kernel
theorem dX4_copy_71 : decode cX4_copy 71 = .ok (.aload_n 1, 1) := by decide +kernel
theorem dX4_copy_72 : decode cX4_copy 72 = .ok (.getfield 33, 3) := by decide +kernel
theorem dX4_copy_75 : decode cX4_copy 75 = .ok (.putfield 33, 3) := by decide +kernel
theorem dX4_copy_78 : decode cX4_copy 78 = .ok (.return_, 1) := by decide +kernel
theorem dX4_firstOf_0 : decode cX4_firstOf 0 = .ok (.aload_n 0, 1) := by decide +kernel
theorem dX4_firstOf_1 : decode cX4_firstOf 1 = .ok (.aload_n 0, 1) := by decide +kernel
theorem dX4_firstOf_2 : decode cX4_firstOf 2 = .ok (.getfield 15, 3) := by decide +kernel
theorem dX4_firstOf_5 : decode cX4_firstOf 5 = .ok (.iload_n 1, 1) := by decide +kernel
theorem dX4_firstOf_6 : decode cX4_firstOf 6 = .ok (.iaload, 1) := by decide +kernel
theorem dX4_firstOf_7 : decode cX4_firstOf 7 = .ok (.aload_n 0, 1) := by decide +kernel
theorem dX4_firstOf_8 : decode cX4_firstOf 8 = .ok (.getfield 15, 3) := by decide +kernel
theorem dX4_firstOf_11 : decode cX4_firstOf 11 = .ok (.iload_n 1, 1) := by decide +kernel
theorem dX4_firstOf_12 : decode cX4_firstOf 12 = .ok (.iconst 1, 1) := by decide +kernel
theorem dX4_firstOf_13 : decode cX4_firstOf 13 = .ok (.iadd, 1) := by decide +kernel
theorem dX4_firstOf_14 : decode cX4_firstOf 14 = .ok (.iaload, 1) := by decide +kernel
theorem dX4_firstOf_15 : decode cX4_firstOf 15 = .ok (.iconst 1, 1) := by decide +kernel
theorem dX4_firstOf_16 : decode cX4_firstOf 16 = .ok (.isub, 1) := by decide +kernel
theorem dX4_firstOf_17 : decode cX4_firstOf 17 = .ok (.invokevirtual 49, 3) := by decide +kernel
theorem dX4_firstOf_20 : decode cX4_firstOf 20 = .ok (.ireturn, 1) := by decide +kernel
theorem dX4_skipBlanks_0 : decode cX4_skipBlanks 0 = .ok (.iload_n 1, 1) := by decide +kernel
theorem dX4_skipBlanks_1 : decode cX4_skipBlanks 1 = .ok (.istore_n 3, 1) := by decide +kernel
theorem dX4_skipBlanks_2 : decode cX4_skipBlanks 2 = .ok (.iload_n 3, 1) := by decide +kernel
theorem dX4_skipBlanks_3 : decode cX4_skipBlanks 3 = .ok (.iload_n 2, 1) := by decide +kernel
theorem dX4_skipBlanks_4 : decode cX4_skipBlanks 4 = .ok (.if_icmp .ge 20, 3) := by decide +kernel
theorem dX4_skipBlanks_7 : decode cX4_skipBlanks 7 = .ok (.aload_n 0, 1) := by decide +kernel
theorem dX4_skipBlanks_8 : decode cX4_skipBlanks 8 = .ok (.getfield 9, 3) := by decide +kernel
theorem dX4_skipBlanks_11 : decode cX4_skipBlanks 11 = .ok (.iload_n 3, 1) := by decide +kernel
theorem dX4_skipBlanks_12 : decode cX4_skipBlanks 12 = .ok (.baload, 1) := by decide +kernel
theorem dX4_skipBlanks_13 : decode cX4_skipBlanks 13 = .ok (.bipush 32, 2) := by decide +kernel
theorem dX4_skipBlanks_15 : decode cX4_skipBlanks 15 = .ok (.if_icmp .ne 9, 3) := by decide +kernel
theorem dX4_skipBlanks_18 : decode cX4_skipBlanks 18 = .ok (.iinc 3 1, 3) := by decide +kernel
theorem dX4_skipBlanks_21 : decode cX4_skipBlanks 21 = .ok (.goto (-19), 3) := by decide +kernel
theorem dX4_skipBlanks_24 : decode cX4_skipBlanks 24 = .ok (.iload_n 3, 1) := by decide +kernel
theorem dX4_skipBlanks_25 : decode cX4_skipBlanks 25 = .ok (.ireturn, 1) := by decide +kernel
theorem dX4_skipWord_0 : decode cX4_skipWord 0 = .ok (.iload_n 1, 1) := by decide +kernel
theorem dX4_skipWord_1 : decode cX4_skipWord 1 = .ok (.istore_n 3, 1) := by decide +kernel
theorem dX4_skipWord_2 : decode cX4_skipWord 2 = .ok (.iload_n 3, 1) := by decide +kernel
theorem dX4_skipWord_3 : decode cX4_skipWord 3 = .ok (.iload_n 2, 1) := by decide +kernel
theorem dX4_skipWord_4 : decode cX4_skipWord 4 = .ok (.if_icmp .ge 21, 3) := by decide +kernel
theorem dX4_skipWord_7 : decode cX4_skipWord 7 = .ok (.aload_n 0, 1) := by decide +kernel
theorem dX4_skipWord_8 : decode cX4_skipWord 8 = .ok (.getfield 9, 3) := by decide +kernel
theorem dX4_skipWord_11 : decode cX4_skipWord 11 = .ok (.iload_n 3, 1) := by decide +kernel
theorem dX4_skipWord_12 : decode cX4_skipWord 12 = .ok (.baload, 1) := by decide +kernel
theorem dX4_skipWord_13 : decode cX4_skipWord 13 = .ok (.invokestatic 53, 3) := by decide +kernel
theorem dX4_skipWord_16 : decode cX4_skipWord 16 = .ok (.ifCond .eq 9, 3) := by decide +kernel
theorem dX4_skipWord_19 : decode cX4_skipWord 19 = .ok (.iinc 3 1, 3) := by decide +kernel
theorem dX4_skipWord_22 : decode cX4_skipWord 22 = .ok (.goto (-20), 3) := by decide +kernel
theorem dX4_skipWord_25 : decode cX4_skipWord 25 = .ok (.iload_n 3, 1) := by decide +kernel
theorem dX4_skipWord_26 : decode cX4_skipWord 26 = .ok (.ireturn, 1) := by decide +kernel
theorem dX4_mark_0 : decode cX4_mark 0 = .ok (.iconst 0, 1) := by decide +kernel
theorem dX4_mark_1 : decode cX4_mark 1 = .ok (.istore_n 1, 1) := by decide +kernel
theorem dX4_mark_2 : decode cX4_mark 2 = .ok (.iload_n 1, 1) := by decide +kernel
theorem dX4_mark_3 : decode cX4_mark 3 = .ok (.aload_n 0, 1) := by decide +kernel
theorem dX4_mark_4 : decode cX4_mark 4 = .ok (.getfield 22, 3) := by decide +kernel
theorem dX4_mark_7 : decode cX4_mark 7 = .ok (.if_icmp .ge 20, 3) := by decide +kernel
theorem dX4_mark_10 : decode cX4_mark 10 = .ok (.aload_n 0, 1) := by decide +kernel
theorem dX4_mark_11 : decode cX4_mark 11 = .ok (.getfield 19, 3) := by decide +kernel
theorem dX4_mark_14 : decode cX4_mark 14 = .ok (.iload_n 1, 1) := by decide +kernel
theorem dX4_mark_15 : decode cX4_mark 15 = .ok (.aload_n 0, 1) := by decide +kernel
theorem dX4_mark_16 : decode cX4_mark 16 = .ok (.iload_n 1, 1) := by decide +kernel
theorem dX4_mark_17 : decode cX4_mark 17 = .ok (.invokevirtual 59, 3) := by decide +kernel
theorem dX4_mark_20 : decode cX4_mark 20 = .ok (.iastore, 1) := by decide +kernel
theorem dX4_mark_21 : decode cX4_mark 21 = .ok (.iinc 1 1, 3) := by decide +kernel
theorem dX4_mark_24 : decode cX4_mark 24 = .ok (.goto (-22), 3) := by decide +kernel
theorem dX4_mark_27 : decode cX4_mark 27 = .ok (.aload_n 0, 1) := by decide +kernel
theorem dX4_mark_28 : decode cX4_mark 28 = .ok (.aload_n 0, 1) := by decide +kernel
theorem dX4_mark_29 : decode cX4_mark 29 = .ok (.invokevirtual 63, 3) := by decide +kernel
theorem dX4_mark_32 : decode cX4_mark 32 = .ok (.putfield 33, 3) := by decide +kernel
theorem dX4_mark_35 : decode cX4_mark 35 = .ok (.return_, 1) := by decide +kernel
theorem dX4_wordOf_0 : decode cX4_wordOf 0 = .ok (.aload_n 0, 1) := by decide +kernel
theorem dX4_wordOf_1 : decode cX4_wordOf 1 = .ok (.getfield 15, 3) := by decide +kernel
theorem dX4_wordOf_4 : decode cX4_wordOf 4 = .ok (.iload_n 1, 1) := by decide +kernel
theorem dX4_wordOf_5 : decode cX4_wordOf 5 = .ok (.iconst 1, 1) := by decide +kernel
theorem dX4_wordOf_6 : decode cX4_wordOf 6 = .ok (.iadd, 1) := by decide +kernel
theorem dX4_wordOf_7 : decode cX4_wordOf 7 = .ok (.iaload, 1) := by decide +kernel
theorem dX4_wordOf_8 : decode cX4_wordOf 8 = .ok (.iconst 1, 1) := by decide +kernel
theorem dX4_wordOf_9 : decode cX4_wordOf 9 = .ok (.isub, 1) := by decide +kernel
theorem dX4_wordOf_10 : decode cX4_wordOf 10 = .ok (.istore_n 2, 1) := by decide +kernel
theorem dX4_wordOf_11 : decode cX4_wordOf 11 = .ok (.aload_n 0, 1) := by decide +kernel
theorem dX4_wordOf_12 : decode cX4_wordOf 12 = .ok (.iload_n 1, 1) := by decide +kernel
theorem dX4_wordOf_13 : decode cX4_wordOf 13 = .ok (.invokevirtual 67, 3) := by decide +kernel
theorem dX4_wordOf_16 : decode cX4_wordOf 16 = .ok (.istore_n 3, 1) := by decide +kernel
theorem dX4_wordOf_17 : decode cX4_wordOf 17 = .ok (.iload_n 3, 1) := by decide +kernel
theorem dX4_wordOf_18 : decode cX4_wordOf 18 = .ok (.iload_n 2, 1) := by decide +kernel
theorem dX4_wordOf_19 : decode cX4_wordOf 19 = .ok (.if_icmp .ge 14, 3) := by decide +kernel
theorem dX4_wordOf_22 : decode cX4_wordOf 22 = .ok (.aload_n 0, 1) := by decide +kernel
theorem dX4_wordOf_23 : decode cX4_wordOf 23 = .ok (.getfield 9, 3) := by decide +kernel
theorem dX4_wordOf_26 : decode cX4_wordOf 26 = .ok (.iload_n 3, 1) := by decide +kernel
theorem dX4_wordOf_27 : decode cX4_wordOf 27 = .ok (.baload, 1) := by decide +kernel
theorem dX4_wordOf_28 : decode cX4_wordOf 28 = .ok (.bipush 35, 2) := by decide +kernel
theorem dX4_wordOf_30 : decode cX4_wordOf 30 = .ok (.if_icmp .eq 5, 3) := by decide +kernel
theorem dX4_wordOf_33 : decode cX4_wordOf 33 = .ok (.iconst 0, 1) := by decide +kernel
theorem dX4_wordOf_34 : decode cX4_wordOf 34 = .ok (.ireturn, 1) := by decide +kernel
theorem dX4_wordOf_35 : decode cX4_wordOf 35 = .ok (.aload_n 0, 1) := by decide +kernel
theorem dX4_wordOf_36 : decode cX4_wordOf 36 = .ok (.iload_n 3, 1) := by decide +kernel
theorem dX4_wordOf_37 : decode cX4_wordOf 37 = .ok (.iconst 1, 1) := by decide +kernel
theorem dX4_wordOf_38 : decode cX4_wordOf 38 = .ok (.iadd, 1) := by decide +kernel
theorem dX4_wordOf_39 : decode cX4_wordOf 39 = .ok (.iload_n 2, 1) := by decide +kernel
theorem dX4_wordOf_40 : decode cX4_wordOf 40 = .ok (.invokevirtual 49, 3) := by decide +kernel
theorem dX4_wordOf_43 : decode cX4_wordOf 43 = .ok (.istore 4, 2) := by decide +kernel
theorem dX4_wordOf_45 : decode cX4_wordOf 45 = .ok (.aload_n 0, 1) := by decide +kernel
theorem dX4_wordOf_46 : decode cX4_wordOf 46 = .ok (.iload 4, 2) := by decide +kernel
theorem dX4_wordOf_48 : decode cX4_wordOf 48 = .ok (.iload_n 2, 1) := by decide +kernel
theorem dX4_wordOf_49 : decode cX4_wordOf 49 = .ok (.invokevirtual 70, 3) := by decide +kernel
theorem dX4_wordOf_52 : decode cX4_wordOf 52 = .ok (.istore 5, 2) := by decide +kernel
theorem dX4_wordOf_54 : decode cX4_wordOf 54 = .ok (.aload_n 0, 1) := by decide +kernel
theorem dX4_wordOf_55 : decode cX4_wordOf 55 = .ok (.getfield 9, 3) := by decide +kernel
theorem dX4_wordOf_58 : decode cX4_wordOf 58 = .ok (.iload 4, 2) := by decide +kernel
theorem dX4_wordOf_60 : decode cX4_wordOf 60 = .ok (.iload 5, 2) := by decide +kernel
theorem dX4_wordOf_62 : decode cX4_wordOf 62 = .ok (.ldc 73, 2) := by decide +kernel
theorem dX4_wordOf_64 : decode cX4_wordOf 64 = .ok (.invokestatic 75, 3) := by decide +kernel
theorem dX4_wordOf_67 : decode cX4_wordOf 67 = .ok (.ifCond .ne 35, 3) := by decide +kernel
theorem dX4_wordOf_70 : decode cX4_wordOf 70 = .ok (.aload_n 0, 1) := by decide +kernel
theorem dX4_wordOf_71 : decode cX4_wordOf 71 = .ok (.getfield 9, 3) := by decide +kernel
theorem dX4_wordOf_74 : decode cX4_wordOf 74 = .ok (.iload 4, 2) := by decide +kernel
theorem dX4_wordOf_76 : decode cX4_wordOf 76 = .ok (.iload 5, 2) := by decide +kernel
theorem dX4_wordOf_78 : decode cX4_wordOf 78 = .ok (.ldc 79, 2) := by decide +kernel
theorem dX4_wordOf_80 : decode cX4_wordOf 80 = .ok (.invokestatic 75, 3) := by decide +kernel
theorem dX4_wordOf_83 : decode cX4_wordOf 83 = .ok (.ifCond .ne 19, 3) := by decide +kernel
theorem dX4_wordOf_86 : decode cX4_wordOf 86 = .ok (.aload_n 0, 1) := by decide +kernel
theorem dX4_wordOf_87 : decode cX4_wordOf 87 = .ok (.getfield 9, 3) := by decide +kernel
theorem dX4_wordOf_90 : decode cX4_wordOf 90 = .ok (.iload 4, 2) := by decide +kernel
theorem dX4_wordOf_92 : decode cX4_wordOf 92 = .ok (.iload 5, 2) := by decide +kernel
theorem dX4_wordOf_94 : decode cX4_wordOf 94 = .ok (.ldc 81, 2) := by decide +kernel
theorem dX4_wordOf_96 : decode cX4_wordOf 96 = .ok (.invokestatic 75, 3) := by decide +kernel
theorem dX4_wordOf_99 : decode cX4_wordOf 99 = .ok (.ifCond .eq 5, 3) := by decide +kernel
theorem dX4_wordOf_102 : decode cX4_wordOf 102 = .ok (.iconst 1, 1) := by decide +kernel
theorem dX4_wordOf_103 : decode cX4_wordOf 103 = .ok (.ireturn, 1) := by decide +kernel
theorem dX4_wordOf_104 : decode cX4_wordOf 104 = .ok (.aload_n 0, 1) := by decide +kernel
theorem dX4_wordOf_105 : decode cX4_wordOf 105 = .ok (.getfield 9, 3) := by decide +kernel
theorem dX4_wordOf_108 : decode cX4_wordOf 108 = .ok (.iload 4, 2) := by decide +kernel
theorem dX4_wordOf_110 : decode cX4_wordOf 110 = .ok (.iload 5, 2) := by decide +kernel
theorem dX4_wordOf_112 : decode cX4_wordOf 112 = .ok (.ldc 83, 2) := by decide +kernel
theorem dX4_wordOf_114 : decode cX4_wordOf 114 = .ok (.invokestatic 75, 3) := by decide +kernel
theorem dX4_wordOf_117 : decode cX4_wordOf 117 = .ok (.ifCond .eq 5, 3) := by decide +kernel
theorem dX4_wordOf_120 : decode cX4_wordOf 120 = .ok (.iconst 2, 1) := by decide +kernel
theorem dX4_wordOf_121 : decode cX4_wordOf 121 = .ok (.ireturn, 1) := by decide +kernel
theorem dX4_wordOf_122 : decode cX4_wordOf 122 = .ok (.aload_n 0, 1) := by decide +kernel
theorem dX4_wordOf_123 : decode cX4_wordOf 123 = .ok (.getfield 9, 3) := by decide +kernel
theorem dX4_wordOf_126 : decode cX4_wordOf 126 = .ok (.iload 4, 2) := by decide +kernel
theorem dX4_wordOf_128 : decode cX4_wordOf 128 = .ok (.iload 5, 2) := by decide +kernel
theorem dX4_wordOf_130 : decode cX4_wordOf 130 = .ok (.ldc 85, 2) := by decide +kernel
theorem dX4_wordOf_132 : decode cX4_wordOf 132 = .ok (.invokestatic 75, 3) := by decide +kernel
theorem dX4_wordOf_135 : decode cX4_wordOf 135 = .ok (.ifCond .eq 5, 3) := by decide +kernel
theorem dX4_wordOf_138 : decode cX4_wordOf 138 = .ok (.iconst 3, 1) := by decide +kernel
theorem dX4_wordOf_139 : decode cX4_wordOf 139 = .ok (.ireturn, 1) := by decide +kernel
theorem dX4_wordOf_140 : decode cX4_wordOf 140 = .ok (.aload_n 0, 1) := by decide +kernel
theorem dX4_wordOf_141 : decode cX4_wordOf 141 = .ok (.getfield 9, 3) := by decide +kernel
theorem dX4_wordOf_144 : decode cX4_wordOf 144 = .ok (.iload 4, 2) := by decide +kernel
theorem dX4_wordOf_146 : decode cX4_wordOf 146 = .ok (.iload 5, 2) := by decide +kernel
theorem dX4_wordOf_148 : decode cX4_wordOf 148 = .ok (.ldc 87, 2) := by decide +kernel
theorem dX4_wordOf_150 : decode cX4_wordOf 150 = .ok (.invokestatic 75, 3) := by decide +kernel
theorem dX4_wordOf_153 : decode cX4_wordOf 153 = .ok (.ifCond .eq 7, 3) := by decide +kernel
theorem dX4_wordOf_156 : decode cX4_wordOf 156 = .ok (.iconst 4, 1) := by decide +kernel
theorem dX4_wordOf_157 : decode cX4_wordOf 157 = .ok (.goto 4, 3) := by decide +kernel
theorem dX4_wordOf_160 : decode cX4_wordOf 160 = .ok (.iconst 0, 1) := by decide +kernel
theorem dX4_wordOf_161 : decode cX4_wordOf 161 = .ok (.ireturn, 1) := by decide +kernel
theorem dX4_guardOf_0 : decode cX4_guardOf 0 = .ok (.iconst 0, 1) := by decide +kernel
theorem dX4_guardOf_1 : decode cX4_guardOf 1 = .ok (.istore_n 1, 1) := by decide +kernel
theorem dX4_guardOf_2 : decode cX4_guardOf 2 = .ok (.iload_n 1, 1) := by decide +kernel
theorem dX4_guardOf_3 : decode cX4_guardOf 3 = .ok (.aload_n 0, 1) := by decide +kernel
theorem dX4_guardOf_4 : decode cX4_guardOf 4 = .ok (.getfield 22, 3) := by decide +kernel
theorem dX4_guardOf_7 : decode cX4_guardOf 7 = .ok (.if_icmp .ge 27, 3) := by decide +kernel
theorem dX4_guardOf_10 : decode cX4_guardOf 10 = .ok (.aload_n 0, 1) := by decide +kernel
theorem dX4_guardOf_11 : decode cX4_guardOf 11 = .ok (.iload_n 1, 1) := by decide +kernel
theorem dX4_guardOf_12 : decode cX4_guardOf 12 = .ok (.invokevirtual 67, 3) := by decide +kernel
theorem dX4_guardOf_15 : decode cX4_guardOf 15 = .ok (.aload_n 0, 1) := by decide +kernel
theorem dX4_guardOf_16 : decode cX4_guardOf 16 = .ok (.getfield 15, 3) := by decide +kernel
theorem dX4_guardOf_19 : decode cX4_guardOf 19 = .ok (.iload_n 1, 1) := by decide +kernel
theorem dX4_guardOf_20 : decode cX4_guardOf 20 = .ok (.iconst 1, 1) := by decide +kernel
theorem dX4_guardOf_21 : decode cX4_guardOf 21 = .ok (.iadd, 1) := by decide +kernel
theorem dX4_guardOf_22 : decode cX4_guardOf 22 = .ok (.iaload, 1) := by decide +kernel
theorem dX4_guardOf_23 : decode cX4_guardOf 23 = .ok (.iconst 1, 1) := by decide +kernel
theorem dX4_guardOf_24 : decode cX4_guardOf 24 = .ok (.isub, 1) := by decide +kernel
theorem dX4_guardOf_25 : decode cX4_guardOf 25 = .ok (.if_icmp .ne 9, 3) := by decide +kernel
theorem dX4_guardOf_28 : decode cX4_guardOf 28 = .ok (.iinc 1 1, 3) := by decide +kernel
theorem dX4_guardOf_31 : decode cX4_guardOf 31 = .ok (.goto (-29), 3) := by decide +kernel
theorem dX4_guardOf_34 : decode cX4_guardOf 34 = .ok (.aload_n 0, 1) := by decide +kernel
theorem dX4_guardOf_35 : decode cX4_guardOf 35 = .ok (.getfield 22, 3) := by decide +kernel
theorem dX4_guardOf_38 : decode cX4_guardOf 38 = .ok (.iconst 1, 1) := by decide +kernel
theorem dX4_guardOf_39 : decode cX4_guardOf 39 = .ok (.isub, 1) := by decide +kernel
theorem dX4_guardOf_40 : decode cX4_guardOf 40 = .ok (.istore_n 2, 1) := by decide +kernel
theorem dX4_guardOf_41 : decode cX4_guardOf 41 = .ok (.iload_n 2, 1) := by decide +kernel
theorem dX4_guardOf_42 : decode cX4_guardOf 42 = .ok (.iload_n 1, 1) := by decide +kernel
theorem dX4_guardOf_43 : decode cX4_guardOf 43 = .ok (.if_icmp .le 27, 3) := by decide +kernel
theorem dX4_guardOf_46 : decode cX4_guardOf 46 = .ok (.aload_n 0, 1) := by decide +kernel
theorem dX4_guardOf_47 : decode cX4_guardOf 47 = .ok (.iload_n 2, 1) := by decide +kernel
theorem dX4_guardOf_48 : decode cX4_guardOf 48 = .ok (.invokevirtual 67, 3) := by decide +kernel
theorem dX4_guardOf_51 : decode cX4_guardOf 51 = .ok (.aload_n 0, 1) := by decide +kernel
theorem dX4_guardOf_52 : decode cX4_guardOf 52 = .ok (.getfield 15, 3) := by decide +kernel
theorem dX4_guardOf_55 : decode cX4_guardOf 55 = .ok (.iload_n 2, 1) := by decide +kernel
theorem dX4_guardOf_56 : decode cX4_guardOf 56 = .ok (.iconst 1, 1) := by decide +kernel
theorem dX4_guardOf_57 : decode cX4_guardOf 57 = .ok (.iadd, 1) := by decide +kernel
theorem dX4_guardOf_58 : decode cX4_guardOf 58 = .ok (.iaload, 1) := by decide +kernel
theorem dX4_guardOf_59 : decode cX4_guardOf 59 = .ok (.iconst 1, 1) := by decide +kernel
theorem dX4_guardOf_60 : decode cX4_guardOf 60 = .ok (.isub, 1) := by decide +kernel
theorem dX4_guardOf_61 : decode cX4_guardOf 61 = .ok (.if_icmp .ne 9, 3) := by decide +kernel
theorem dX4_guardOf_64 : decode cX4_guardOf 64 = .ok (.iinc 2 (-1), 3) := by decide +kernel
theorem dX4_guardOf_67 : decode cX4_guardOf 67 = .ok (.goto (-26), 3) := by decide +kernel
theorem dX4_guardOf_70 : decode cX4_guardOf 70 = .ok (.iload_n 1, 1) := by decide +kernel
theorem dX4_guardOf_71 : decode cX4_guardOf 71 = .ok (.iload_n 2, 1) := by decide +kernel
theorem dX4_guardOf_72 : decode cX4_guardOf 72 = .ok (.if_icmp .ge 22, 3) := by decide +kernel
theorem dX4_guardOf_75 : decode cX4_guardOf 75 = .ok (.aload_n 0, 1) := by decide +kernel
theorem dX4_guardOf_76 : decode cX4_guardOf 76 = .ok (.iload_n 1, 1) := by decide +kernel
theorem dX4_guardOf_77 : decode cX4_guardOf 77 = .ok (.invokevirtual 89, 3) := by decide +kernel
theorem dX4_guardOf_80 : decode cX4_guardOf 80 = .ok (.iload_n 2, 1) := by decide +kernel
theorem dX4_guardOf_81 : decode cX4_guardOf 81 = .ok (.if_icmp .ne 13, 3) := by decide +kernel
theorem dX4_guardOf_84 : decode cX4_guardOf 84 = .ok (.aload_n 0, 1) := by decide +kernel
theorem dX4_guardOf_85 : decode cX4_guardOf 85 = .ok (.getfield 19, 3) := by decide +kernel
theorem dX4_guardOf_88 : decode cX4_guardOf 88 = .ok (.iload_n 2, 1) := by decide +kernel
theorem dX4_guardOf_89 : decode cX4_guardOf 89 = .ok (.iaload, 1) := by decide +kernel
theorem dX4_guardOf_90 : decode cX4_guardOf 90 = .ok (.iconst 4, 1) := by decide +kernel
theorem dX4_guardOf_91 : decode cX4_guardOf 91 = .ok (.if_icmp .eq 5, 3) := by decide +kernel
theorem dX4_guardOf_94 : decode cX4_guardOf 94 = .ok (.iconst 0, 1) := by decide +kernel
theorem dX4_guardOf_95 : decode cX4_guardOf 95 = .ok (.ireturn, 1) := by decide +kernel
theorem dX4_guardOf_96 : decode cX4_guardOf 96 = .ok (.aload_n 0, 1) := by decide +kernel
theorem dX4_guardOf_97 : decode cX4_guardOf 97 = .ok (.iload_n 1, 1) := by decide +kernel
theorem dX4_guardOf_98 : decode cX4_guardOf 98 = .ok (.invokevirtual 92, 3) := by decide +kernel
theorem dX4_guardOf_101 : decode cX4_guardOf 101 = .ok (.ireturn, 1) := by decide +kernel
theorem dX4_guardedBy_0 : decode cX4_guardedBy 0 = .ok (.aload_n 0, 1) := by decide +kernel
theorem dX4_guardedBy_1 : decode cX4_guardedBy 1 = .ok (.getfield 15, 3) := by decide +kernel
theorem dX4_guardedBy_4 : decode cX4_guardedBy 4 = .ok (.iload_n 1, 1) := by decide +kernel
theorem dX4_guardedBy_5 : decode cX4_guardedBy 5 = .ok (.iconst 1, 1) := by decide +kernel
theorem dX4_guardedBy_6 : decode cX4_guardedBy 6 = .ok (.iadd, 1) := by decide +kernel
theorem dX4_guardedBy_7 : decode cX4_guardedBy 7 = .ok (.iaload, 1) := by decide +kernel
theorem dX4_guardedBy_8 : decode cX4_guardedBy 8 = .ok (.iconst 1, 1) := by decide +kernel
theorem dX4_guardedBy_9 : decode cX4_guardedBy 9 = .ok (.isub, 1) := by decide +kernel
theorem dX4_guardedBy_10 : decode cX4_guardedBy 10 = .ok (.istore_n 2, 1) := by decide +kernel
theorem dX4_guardedBy_11 : decode cX4_guardedBy 11 = .ok (.aload_n 0, 1) := by decide +kernel
theorem dX4_guardedBy_12 : decode cX4_guardedBy 12 = .ok (.aload_n 0, 1) := by decide +kernel
theorem dX4_guardedBy_13 : decode cX4_guardedBy 13 = .ok (.iload_n 1, 1) := by decide +kernel
theorem dX4_guardedBy_14 : decode cX4_guardedBy 14 = .ok (.invokevirtual 67, 3) := by decide +kernel
theorem dX4_guardedBy_17 : decode cX4_guardedBy 17 = .ok (.iconst 1, 1) := by decide +kernel
theorem dX4_guardedBy_18 : decode cX4_guardedBy 18 = .ok (.iadd, 1) := by decide +kernel
theorem dX4_guardedBy_19 : decode cX4_guardedBy 19 = .ok (.iload_n 2, 1) := by decide +kernel
theorem dX4_guardedBy_20 : decode cX4_guardedBy 20 = .ok (.invokevirtual 49, 3) := by decide +kernel
theorem dX4_guardedBy_23 : decode cX4_guardedBy 23 = .ok (.istore_n 3, 1) := by decide +kernel
theorem dX4_guardedBy_24 : decode cX4_guardedBy 24 = .ok (.aload_n 0, 1) := by decide +kernel
theorem dX4_guardedBy_25 : decode cX4_guardedBy 25 = .ok (.iload_n 3, 1) := by decide +kernel
theorem dX4_guardedBy_26 : decode cX4_guardedBy 26 = .ok (.iload_n 2, 1) := by decide +kernel
theorem dX4_guardedBy_27 : decode cX4_guardedBy 27 = .ok (.invokevirtual 70, 3) := by decide +kernel
theorem dX4_guardedBy_30 : decode cX4_guardedBy 30 = .ok (.istore 4, 2) := by decide +kernel
theorem dX4_guardedBy_32 : decode cX4_guardedBy 32 = .ok (.aload_n 0, 1) := by decide +kernel
theorem dX4_guardedBy_33 : decode cX4_guardedBy 33 = .ok (.getfield 9, 3) := by decide +kernel
theorem dX4_guardedBy_36 : decode cX4_guardedBy 36 = .ok (.iload_n 3, 1) := by decide +kernel
theorem dX4_guardedBy_37 : decode cX4_guardedBy 37 = .ok (.iload 4, 2) := by decide +kernel
theorem dX4_guardedBy_39 : decode cX4_guardedBy 39 = .ok (.ldc 81, 2) := by decide +kernel
theorem dX4_guardedBy_41 : decode cX4_guardedBy 41 = .ok (.invokestatic 75, 3) := by decide +kernel
theorem dX4_guardedBy_44 : decode cX4_guardedBy 44 = .ok (.ifCond .ne 5, 3) := by decide +kernel
theorem dX4_guardedBy_47 : decode cX4_guardedBy 47 = .ok (.iconst 0, 1) := by decide +kernel
theorem dX4_guardedBy_48 : decode cX4_guardedBy 48 = .ok (.ireturn, 1) := by decide +kernel
theorem dX4_guardedBy_49 : decode cX4_guardedBy 49 = .ok (.aload_n 0, 1) := by decide +kernel
theorem dX4_guardedBy_50 : decode cX4_guardedBy 50 = .ok (.aload_n 0, 1) := by decide +kernel
theorem dX4_guardedBy_51 : decode cX4_guardedBy 51 = .ok (.iload 4, 2) := by decide +kernel
theorem dX4_guardedBy_53 : decode cX4_guardedBy 53 = .ok (.iload_n 2, 1) := by decide +kernel
theorem dX4_guardedBy_54 : decode cX4_guardedBy 54 = .ok (.invokevirtual 49, 3) := by decide +kernel
theorem dX4_guardedBy_57 : decode cX4_guardedBy 57 = .ok (.putfield 30, 3) := by decide +kernel
theorem dX4_guardedBy_60 : decode cX4_guardedBy 60 = .ok (.aload_n 0, 1) := by decide +kernel
theorem dX4_guardedBy_61 : decode cX4_guardedBy 61 = .ok (.aload_n 0, 1) := by decide +kernel
theorem dX4_guardedBy_62 : decode cX4_guardedBy 62 = .ok (.getfield 30, 3) := by decide +kernel
theorem dX4_guardedBy_65 : decode cX4_guardedBy 65 = .ok (.iload_n 2, 1) := by decide +kernel
theorem dX4_guardedBy_66 : decode cX4_guardedBy 66 = .ok (.invokevirtual 70, 3) := by decide +kernel
theorem dX4_guardedBy_69 : decode cX4_guardedBy 69 = .ok (.aload_n 0, 1) := by decide +kernel
theorem dX4_guardedBy_70 : decode cX4_guardedBy 70 = .ok (.getfield 30, 3) := by decide +kernel
theorem dX4_guardedBy_73 : decode cX4_guardedBy 73 = .ok (.isub, 1) := by decide +kernel
theorem dX4_guardedBy_74 : decode cX4_guardedBy 74 = .ok (.istore 5, 2) := by decide +kernel
theorem dX4_guardedBy_76 : decode cX4_guardedBy 76 = .ok (.iload 5, 2) := by decide +kernel
theorem dX4_guardedBy_78 : decode cX4_guardedBy 78 = .ok (.ifCond .le 29, 3) := by decide +kernel
theorem dX4_guardedBy_81 : decode cX4_guardedBy 81 = .ok (.iload 5, 2) := by decide +kernel
theorem dX4_guardedBy_83 : decode cX4_guardedBy 83 = .ok (.bipush 30, 2) := by decide +kernel
theorem dX4_guardedBy_85 : decode cX4_guardedBy 85 = .ok (.if_icmp .gt 22, 3) := by decide +kernel
theorem dX4_guardedBy_88 : decode cX4_guardedBy 88 = .ok (.aload_n 0, 1) := by decide +kernel
theorem dX4_guardedBy_89 : decode cX4_guardedBy 89 = .ok (.getfield 9, 3) := by decide +kernel
theorem dX4_guardedBy_92 : decode cX4_guardedBy 92 = .ok (.aload_n 0, 1) := by decide +kernel
theorem dX4_guardedBy_93 : decode cX4_guardedBy 93 = .ok (.getfield 30, 3) := by decide +kernel
theorem dX4_guardedBy_96 : decode cX4_guardedBy 96 = .ok (.baload, 1) := by decide +kernel
theorem dX4_guardedBy_97 : decode cX4_guardedBy 97 = .ok (.invokestatic 95, 3) := by decide +kernel
theorem dX4_guardedBy_100 : decode cX4_guardedBy 100 = .ok (.ifCond .ne 7, 3) := by decide +kernel
theorem dX4_guardedBy_103 : decode cX4_guardedBy 103 = .ok (.iconst 1, 1) := by decide +kernel
theorem dX4_guardedBy_104 : decode cX4_guardedBy 104 = .ok (.goto 4, 3) := by decide +kernel
theorem dX4_guardedBy_107 : decode cX4_guardedBy 107 = .ok (.iconst 0, 1) := by decide +kernel
theorem dX4_guardedBy_108 : decode cX4_guardedBy 108 = .ok (.istore 6, 2) := by decide +kernel
theorem dX4_guardedBy_110 : decode cX4_guardedBy 110 = .ok (.iload 6, 2) := by decide +kernel
theorem dX4_guardedBy_112 : decode cX4_guardedBy 112 = .ok (.ifCond .eq 24, 3) := by decide +kernel
theorem dX4_guardedBy_115 : decode cX4_guardedBy 115 = .ok (.aload_n 0, 1) := by decide +kernel
theorem dX4_guardedBy_116 : decode cX4_guardedBy 116 = .ok (.aload_n 0, 1) := by decide +kernel
theorem dX4_guardedBy_117 : decode cX4_guardedBy 117 = .ok (.getfield 30, 3) := by decide +kernel
theorem dX4_guardedBy_120 : decode cX4_guardedBy 120 = .ok (.iload 5, 2) := by decide +kernel
theorem dX4_guardedBy_122 : decode cX4_guardedBy 122 = .ok (.iadd, 1) := by decide +kernel
theorem dX4_guardedBy_123 : decode cX4_guardedBy 123 = .ok (.iload_n 2, 1) := by decide +kernel
theorem dX4_guardedBy_124 : decode cX4_guardedBy 124 = .ok (.invokevirtual 49, 3) := by decide +kernel
theorem dX4_guardedBy_127 : decode cX4_guardedBy 127 = .ok (.iload_n 2, 1) := by decide +kernel
theorem dX4_guardedBy_128 : decode cX4_guardedBy 128 = .ok (.if_icmp .ne 8, 3) := by decide +kernel
theorem dX4_guardedBy_131 : decode cX4_guardedBy 131 = .ok (.iload 5, 2) := by decide +kernel
theorem dX4_guardedBy_133 : decode cX4_guardedBy 133 = .ok (.goto 4, 3) := by decide +kernel
theorem dX4_guardedBy_136 : decode cX4_guardedBy 136 = .ok (.iconst 0, 1) := by decide +kernel
theorem dX4_guardedBy_137 : decode cX4_guardedBy 137 = .ok (.ireturn, 1) := by decide +kernel
theorem dX4_follower_0 : decode cX4_follower 0 = .ok (.aload_n 0, 1) := by decide +kernel
theorem dX4_follower_1 : decode cX4_follower 1 = .ok (.getfield 19, 3) := by decide +kernel
theorem dX4_follower_4 : decode cX4_follower 4 = .ok (.iload_n 1, 1) := by decide +kernel
theorem dX4_follower_5 : decode cX4_follower 5 = .ok (.iaload, 1) := by decide +kernel
theorem dX4_follower_6 : decode cX4_follower 6 = .ok (.ifCond .eq 31, 3) := by decide +kernel
theorem dX4_follower_9 : decode cX4_follower 9 = .ok (.aload_n 0, 1) := by decide +kernel
theorem dX4_follower_10 : decode cX4_follower 10 = .ok (.getfield 19, 3) := by decide +kernel
theorem dX4_follower_13 : decode cX4_follower 13 = .ok (.iload_n 1, 1) := by decide +kernel
theorem dX4_follower_14 : decode cX4_follower 14 = .ok (.iaload, 1) := by decide +kernel
theorem dX4_follower_15 : decode cX4_follower 15 = .ok (.iconst 4, 1) := by decide +kernel
theorem dX4_follower_16 : decode cX4_follower 16 = .ok (.if_icmp .eq 21, 3) := by decide +kernel
theorem dX4_follower_19 : decode cX4_follower 19 = .ok (.aload_n 0, 1) := by decide +kernel
theorem dX4_follower_20 : decode cX4_follower 20 = .ok (.getfield 19, 3) := by decide +kernel
theorem dX4_follower_23 : decode cX4_follower 23 = .ok (.iload_n 1, 1) := by decide +kernel
theorem dX4_follower_24 : decode cX4_follower 24 = .ok (.iaload, 1) := by decide +kernel
theorem dX4_follower_25 : decode cX4_follower 25 = .ok (.iconst 1, 1) := by decide +kernel
theorem dX4_follower_26 : decode cX4_follower 26 = .ok (.if_icmp .eq 13, 3) := by decide +kernel
theorem dX4_follower_29 : decode cX4_follower 29 = .ok (.aload_n 0, 1) := by decide +kernel
theorem dX4_follower_30 : decode cX4_follower 30 = .ok (.iload_n 1, 1) := by decide +kernel
theorem dX4_follower_31 : decode cX4_follower 31 = .ok (.invokevirtual 98, 3) := by decide +kernel
theorem dX4_follower_34 : decode cX4_follower 34 = .ok (.ifCond .ne 5, 3) := by decide +kernel
theorem dX4_follower_37 : decode cX4_follower 37 = .ok (.iconst (-1), 1) := by decide +kernel
theorem dX4_follower_38 : decode cX4_follower 38 = .ok (.ireturn, 1) := by decide +kernel
theorem dX4_follower_39 : decode cX4_follower 39 = .ok (.iconst 0, 1) := by decide +kernel
theorem dX4_follower_40 : decode cX4_follower 40 = .ok (.istore_n 2, 1) := by decide +kernel
theorem dX4_follower_41 : decode cX4_follower 41 = .ok (.iload_n 1, 1) := by decide +kernel
theorem dX4_follower_42 : decode cX4_follower 42 = .ok (.iconst 1, 1) := by decide +kernel
theorem dX4_follower_43 : decode cX4_follower 43 = .ok (.iadd, 1) := by decide +kernel
theorem dX4_follower_44 : decode cX4_follower 44 = .ok (.istore_n 3, 1) := by decide +kernel
theorem dX4_follower_45 : decode cX4_follower 45 = .ok (.iload_n 3, 1) := by decide +kernel
theorem dX4_follower_46 : decode cX4_follower 46 = .ok (.aload_n 0, 1) := by decide +kernel
theorem dX4_follower_47 : decode cX4_follower 47 = .ok (.getfield 22, 3) := by decide +kernel
theorem dX4_follower_50 : decode cX4_follower 50 = .ok (.if_icmp .ge 57, 3) := by decide +kernel
theorem dX4_follower_53 : decode cX4_follower 53 = .ok (.aload_n 0, 1) := by decide +kernel
theorem dX4_follower_54 : decode cX4_follower 54 = .ok (.getfield 19, 3) := by decide +kernel
theorem dX4_follower_57 : decode cX4_follower 57 = .ok (.iload_n 3, 1) := by decide +kernel
theorem dX4_follower_58 : decode cX4_follower 58 = .ok (.iaload, 1) := by decide +kernel
theorem dX4_follower_59 : decode cX4_follower 59 = .ok (.iconst 2, 1) := by decide +kernel
theorem dX4_follower_60 : decode cX4_follower 60 = .ok (.if_icmp .lt 9, 3) := by decide +kernel
theorem dX4_follower_63 : decode cX4_follower 63 = .ok (.iload_n 2, 1) := by decide +kernel
theorem dX4_follower_64 : decode cX4_follower 64 = .ok (.ifCond .ne 5, 3) := by decide +kernel
theorem dX4_follower_67 : decode cX4_follower 67 = .ok (.iload_n 3, 1) := by decide +kernel
theorem dX4_follower_68 : decode cX4_follower 68 = .ok (.ireturn, 1) := by decide +kernel
theorem dX4_follower_69 : decode cX4_follower 69 = .ok (.iload_n 2, 1) := by decide +kernel
theorem dX4_follower_70 : decode cX4_follower 70 = .ok (.aload_n 0, 1) := by decide +kernel
theorem dX4_follower_71 : decode cX4_follower 71 = .ok (.getfield 19, 3) := by decide +kernel
theorem dX4_follower_74 : decode cX4_follower 74 = .ok (.iload_n 3, 1) := by decide +kernel
theorem dX4_follower_75 : decode cX4_follower 75 = .ok (.iaload, 1) := by decide +kernel
theorem dX4_follower_76 : decode cX4_follower 76 = .ok (.iconst 1, 1) := by decide +kernel
theorem dX4_follower_77 : decode cX4_follower 77 = .ok (.if_icmp .ne 7, 3) := by decide +kernel
theorem dX4_follower_80 : decode cX4_follower 80 = .ok (.iconst 1, 1) := by decide +kernel
theorem dX4_follower_81 : decode cX4_follower 81 = .ok (.goto 18, 3) := by decide +kernel
theorem dX4_follower_84 : decode cX4_follower 84 = .ok (.aload_n 0, 1) := by decide +kernel
theorem dX4_follower_85 : decode cX4_follower 85 = .ok (.getfield 19, 3) := by decide +kernel
theorem dX4_follower_88 : decode cX4_follower 88 = .ok (.iload_n 3, 1) := by decide +kernel
theorem dX4_follower_89 : decode cX4_follower 89 = .ok (.iaload, 1) := by decide +kernel
theorem dX4_follower_90 : decode cX4_follower 90 = .ok (.iconst 4, 1) := by decide +kernel
theorem dX4_follower_91 : decode cX4_follower 91 = .ok (.if_icmp .ne 7, 3) := by decide +kernel
theorem dX4_follower_94 : decode cX4_follower 94 = .ok (.iconst (-1), 1) := by decide +kernel
theorem dX4_follower_95 : decode cX4_follower 95 = .ok (.goto 4, 3) := by decide +kernel
theorem dX4_follower_98 : decode cX4_follower 98 = .ok (.iconst 0, 1) := by decide +kernel
theorem dX4_follower_99 : decode cX4_follower 99 = .ok (.iadd, 1) := by decide +kernel
theorem dX4_follower_100 : decode cX4_follower 100 = .ok (.istore_n 2, 1) := by decide +kernel
theorem dX4_follower_101 : decode cX4_follower 101 = .ok (.iinc 3 1, 3) := by decide +kernel
theorem dX4_follower_104 : decode cX4_follower 104 = .ok (.goto (-59), 3) := by decide +kernel
theorem dX4_follower_107 : decode cX4_follower 107 = .ok (.iconst (-1), 1) := by decide +kernel
theorem dX4_follower_108 : decode cX4_follower 108 = .ok (.ireturn, 1) := by decide +kernel
theorem dX4_isWithin_0 : decode cX4_isWithin 0 = .ok (.iconst 0, 1) := by decide +kernel
theorem dX4_isWithin_1 : decode cX4_isWithin 1 = .ok (.istore_n 2, 1) := by decide +kernel
theorem dX4_isWithin_2 : decode cX4_isWithin 2 = .ok (.iconst 0, 1) := by decide +kernel
theorem dX4_isWithin_3 : decode cX4_isWithin 3 = .ok (.istore_n 3, 1) := by decide +kernel
theorem dX4_isWithin_4 : decode cX4_isWithin 4 = .ok (.iload_n 3, 1) := by decide +kernel
theorem dX4_isWithin_5 : decode cX4_isWithin 5 = .ok (.iload_n 1, 1) := by decide +kernel
theorem dX4_isWithin_6 : decode cX4_isWithin 6 = .ok (.if_icmp .ge 42, 3) := by decide +kernel
theorem dX4_isWithin_9 : decode cX4_isWithin 9 = .ok (.aload_n 0, 1) := by decide +kernel
theorem dX4_isWithin_10 : decode cX4_isWithin 10 = .ok (.getfield 19, 3) := by decide +kernel
theorem dX4_isWithin_13 : decode cX4_isWithin 13 = .ok (.iload_n 3, 1) := by decide +kernel
theorem dX4_isWithin_14 : decode cX4_isWithin 14 = .ok (.iaload, 1) := by decide +kernel
theorem dX4_isWithin_15 : decode cX4_isWithin 15 = .ok (.iconst 1, 1) := by decide +kernel
theorem dX4_isWithin_16 : decode cX4_isWithin 16 = .ok (.if_icmp .ne 9, 3) := by decide +kernel
theorem dX4_isWithin_19 : decode cX4_isWithin 19 = .ok (.iinc 2 1, 3) := by decide +kernel
theorem dX4_isWithin_22 : decode cX4_isWithin 22 = .ok (.goto 20, 3) := by decide +kernel
theorem dX4_isWithin_25 : decode cX4_isWithin 25 = .ok (.aload_n 0, 1) := by decide +kernel
theorem dX4_isWithin_26 : decode cX4_isWithin 26 = .ok (.getfield 19, 3) := by decide +kernel
theorem dX4_isWithin_29 : decode cX4_isWithin 29 = .ok (.iload_n 3, 1) := by decide +kernel
theorem dX4_isWithin_30 : decode cX4_isWithin 30 = .ok (.iaload, 1) := by decide +kernel
theorem dX4_isWithin_31 : decode cX4_isWithin 31 = .ok (.iconst 4, 1) := by decide +kernel
theorem dX4_isWithin_32 : decode cX4_isWithin 32 = .ok (.if_icmp .ne 10, 3) := by decide +kernel
theorem dX4_isWithin_35 : decode cX4_isWithin 35 = .ok (.iload_n 2, 1) := by decide +kernel
theorem dX4_isWithin_36 : decode cX4_isWithin 36 = .ok (.ifCond .le 6, 3) := by decide +kernel
theorem dX4_isWithin_39 : decode cX4_isWithin 39 = .ok (.iinc 2 (-1), 3) := by decide +kernel
theorem dX4_isWithin_42 : decode cX4_isWithin 42 = .ok (.iinc 3 1, 3) := by decide +kernel
theorem dX4_isWithin_45 : decode cX4_isWithin 45 = .ok (.goto (-41), 3) := by decide +kernel
theorem dX4_isWithin_48 : decode cX4_isWithin 48 = .ok (.iload_n 2, 1) := by decide +kernel
theorem dX4_isWithin_49 : decode cX4_isWithin 49 = .ok (.ifCond .le 7, 3) := by decide +kernel
theorem dX4_isWithin_52 : decode cX4_isWithin 52 = .ok (.iconst 1, 1) := by decide +kernel
theorem dX4_isWithin_53 : decode cX4_isWithin 53 = .ok (.goto 4, 3) := by decide +kernel
theorem dX4_isWithin_56 : decode cX4_isWithin 56 = .ok (.iconst 0, 1) := by decide +kernel
theorem dX4_isWithin_57 : decode cX4_isWithin 57 = .ok (.ireturn, 1) := by decide +kernel
