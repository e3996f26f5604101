theorem dX12_includes_189 : decode cX12_includes 189 = .ok (.iconst 5, 1) := by decide +kernel
theorem dX12_includes_190 : decode cX12_includes 190 = .ok (.iaload, 1) := by decide +kernel
theorem dX12_includes_191 : decode cX12_includes 191 = .ok (.if_icmp .le 13, 3) := by decide +kernel
theorem dX12_includes_194 : decode cX12_includes 194 = .ok (.aload_n 0, 1) := by decide +kernel
theorem dX12_includes_195 : decode cX12_includes 195 = .ok (.getfield 68, 3) := by decide +kernel
theorem dX12_includes_198 : decode cX12_includes 198 = .ok (.iconst 5, 1) := by decide +kernel
theorem dX12_includes_199 : decode cX12_includes 199 = .ok (.aload_n 0, 1) := by decide +kernel
theorem dX12_includes_200 : decode cX12_includes 200 = .ok (.getfield 645, 3) := by decide +kernel
theorem dX12_includes_203 : decode cX12_includes 203 = .ok (.iastore, 1) := by decide +kernel
theorem dX12_includes_204 : decode cX12_includes 204 = .ok (.aload_n 0, 1) := by decide +kernel
theorem dX12_includes_205 : decode cX12_includes 205 = .ok (.getfield 169, 3) := by decide +kernel
theorem dX12_includes_208 : decode cX12_includes 208 = .ok (.aload_n 0, 1) := by decide +kernel
theorem dX12_includes_209 : decode cX12_includes 209 = .ok (.getfield 645, 3) := by decide +kernel
theorem dX12_includes_212 : decode cX12_includes 212 = .ok (.iload_n 1, 1) := by decide +kernel
theorem dX12_includes_213 : decode cX12_includes 213 = .ok (.iastore, 1) := by decide +kernel
theorem dX12_includes_214 : decode cX12_includes 214 = .ok (.aload_n 0, 1) := by decide +kernel
theorem dX12_includes_215 : decode cX12_includes 215 = .ok (.getfield 172, 3) := by decide +kernel
theorem dX12_includes_218 : decode cX12_includes 218 = .ok (.aload_n 0, 1) := by decide +kernel
theorem dX12_includes_219 : decode cX12_includes 219 = .ok (.getfield 645, 3) := by decide +kernel
theorem dX12_includes_222 : decode cX12_includes 222 = .ok (.iconst 0, 1) := by decide +kernel
theorem dX12_includes_223 : decode cX12_includes 223 = .ok (.iastore, 1) := by decide +kernel
theorem dX12_includes_224 : decode cX12_includes 224 = .ok (.aload_n 0, 1) := by decide +kernel
theorem dX12_includes_225 : decode cX12_includes 225 = .ok (.getfield 175, 3) := by decide +kernel
theorem dX12_includes_228 : decode cX12_includes 228 = .ok (.aload_n 0, 1) := by decide +kernel
theorem dX12_includes_229 : decode cX12_includes 229 = .ok (.getfield 645, 3) := by decide +kernel
theorem dX12_includes_232 : decode cX12_includes 232 = .ok (.aload_n 0, 1) := by decide +kernel
theorem dX12_includes_233 : decode cX12_includes 233 = .ok (.getfield 642, 3) := by decide +kernel
theorem dX12_includes_236 : decode cX12_includes 236 = .ok (.iastore, 1) := by decide +kernel
theorem dX12_includes_237 : decode cX12_includes 237 = .ok (.aload_n 0, 1) := by decide +kernel
theorem dX12_includes_238 : decode cX12_includes 238 = .ok (.iconst 1, 1) := by decide +kernel
theorem dX12_includes_239 : decode cX12_includes 239 = .ok (.putfield 661, 3) := by decide +kernel
theorem dX12_includes_242 : decode cX12_includes 242 = .ok (.iconst 1, 1) := by decide +kernel
theorem dX12_includes_243 : decode cX12_includes 243 = .ok (.ireturn, 1) := by decide +kernel
theorem dX12_doesDirective_0 : decode cX12_doesDirective 0 = .ok (.aload_n 0, 1) := by decide +kernel
theorem dX12_doesDirective_1 : decode cX12_doesDirective 1 = .ok (.getfield 355, 3) := by decide +kernel
theorem dX12_doesDirective_4 : decode cX12_doesDirective 4 = .ok (.iconst 1, 1) := by decide +kernel
theorem dX12_doesDirective_5 : decode cX12_doesDirective 5 = .ok (.if_icmp .ne 5, 3) := by decide +kernel
theorem dX12_doesDirective_8 : decode cX12_doesDirective 8 = .ok (.iconst 1, 1) := by decide +kernel
theorem dX12_doesDirective_9 : decode cX12_doesDirective 9 = .ok (.ireturn, 1) := by decide +kernel
theorem dX12_doesDirective_10 : decode cX12_doesDirective 10 = .ok (.aload_n 0, 1) := by decide +kernel
theorem dX12_doesDirective_11 : decode cX12_doesDirective 11 = .ok (.iconst 1, 1) := by decide +kernel
theorem dX12_doesDirective_12 : decode cX12_doesDirective 12 = .ok (.invokevirtual 361, 3) := by decide +kernel
theorem dX12_doesDirective_15 : decode cX12_doesDirective 15 = .ok (.istore_n 2, 1) := by decide +kernel
theorem dX12_doesDirective_16 : decode cX12_doesDirective 16 = .ok (.iload_n 2, 1) := by decide +kernel
theorem dX12_doesDirective_17 : decode cX12_doesDirective 17 = .ok (.tableswitch 99 0 5 #[39, 92, 44, 49, 92, 92], 39) := by decide +kernel
theorem dX12_doesDirective_56 : decode cX12_doesDirective 56 = .ok (.aload_n 0, 1) := by decide +kernel
theorem dX12_doesDirective_57 : decode cX12_doesDirective 57 = .ok (.invokevirtual 664, 3) := by decide +kernel
theorem dX12_doesDirective_60 : decode cX12_doesDirective 60 = .ok (.ireturn, 1) := by decide +kernel
theorem dX12_doesDirective_61 : decode cX12_doesDirective 61 = .ok (.aload_n 0, 1) := by decide +kernel
theorem dX12_doesDirective_62 : decode cX12_doesDirective 62 = .ok (.invokevirtual 667, 3) := by decide +kernel
theorem dX12_doesDirective_65 : decode cX12_doesDirective 65 = .ok (.ireturn, 1) := by decide +kernel
theorem dX12_doesDirective_66 : decode cX12_doesDirective 66 = .ok (.aload_n 0, 1) := by decide +kernel
theorem dX12_doesDirective_67 : decode cX12_doesDirective 67 = .ok (.iconst 2, 1) := by decide +kernel
theorem dX12_doesDirective_68 : decode cX12_doesDirective 68 = .ok (.invokevirtual 651, 3) := by decide +kernel
theorem dX12_doesDirective_71 : decode cX12_doesDirective 71 = .ok (.ifCond .ne 5, 3) := by decide +kernel
theorem dX12_doesDirective_74 : decode cX12_doesDirective 74 = .ok (.iconst 0, 1) := by decide +kernel
theorem dX12_doesDirective_75 : decode cX12_doesDirective 75 = .ok (.ireturn, 1) := by decide +kernel
theorem dX12_doesDirective_76 : decode cX12_doesDirective 76 = .ok (.aload_n 0, 1) := by decide +kernel
theorem dX12_doesDirective_77 : decode cX12_doesDirective 77 = .ok (.getfield 68, 3) := by decide +kernel
theorem dX12_doesDirective_80 : decode cX12_doesDirective 80 = .ok (.bipush 9, 2) := by decide +kernel
theorem dX12_doesDirective_82 : decode cX12_doesDirective 82 = .ok (.dup2, 1) := by decide +kernel
theorem dX12_doesDirective_83 : decode cX12_doesDirective 83 = .ok (.iaload, 1) := by decide +kernel
theorem dX12_doesDirective_84 : decode cX12_doesDirective 84 = .ok (.iconst 1, 1) := by decide +kernel
theorem dX12_doesDirective_85 : decode cX12_doesDirective 85 = .ok (.iadd, 1) := by decide +kernel
theorem dX12_doesDirective_86 : decode cX12_doesDirective 86 = .ok (.iastore, 1) := by decide +kernel
theorem dX12_doesDirective_87 : decode cX12_doesDirective 87 = .ok (.aload_n 0, 1) := by decide +kernel
theorem dX12_doesDirective_88 : decode cX12_doesDirective 88 = .ok (.iload_n 1, 1) := by decide +kernel
theorem dX12_doesDirective_89 : decode cX12_doesDirective 89 = .ok (.aload_n 0, 1) := by decide +kernel
theorem dX12_doesDirective_90 : decode cX12_doesDirective 90 = .ok (.getfield 627, 3) := by decide +kernel
theorem dX12_doesDirective_93 : decode cX12_doesDirective 93 = .ok (.lconst 0, 1) := by decide +kernel
theorem dX12_doesDirective_94 : decode cX12_doesDirective 94 = .ok (.lcmp, 1) := by decide +kernel
theorem dX12_doesDirective_95 : decode cX12_doesDirective 95 = .ok (.ifCond .eq 7, 3) := by decide +kernel
theorem dX12_doesDirective_98 : decode cX12_doesDirective 98 = .ok (.iconst 1, 1) := by decide +kernel
theorem dX12_doesDirective_99 : decode cX12_doesDirective 99 = .ok (.goto 4, 3) := by decide +kernel
theorem dX12_doesDirective_102 : decode cX12_doesDirective 102 = .ok (.iconst 0, 1) := by decide +kernel
theorem dX12_doesDirective_103 : decode cX12_doesDirective 103 = .ok (.iconst 0, 1) := by decide +kernel
theorem dX12_doesDirective_104 : decode cX12_doesDirective 104 = .ok (.invokevirtual 657, 3) := by decide +kernel
theorem dX12_doesDirective_107 : decode cX12_doesDirective 107 = .ok (.iconst 1, 1) := by decide +kernel
theorem dX12_doesDirective_108 : decode cX12_doesDirective 108 = .ok (.ireturn, 1) := by decide +kernel
theorem dX12_doesDirective_109 : decode cX12_doesDirective 109 = .ok (.aload_n 0, 1) := by decide +kernel
theorem dX12_doesDirective_110 : decode cX12_doesDirective 110 = .ok (.iload_n 2, 1) := by decide +kernel
theorem dX12_doesDirective_111 : decode cX12_doesDirective 111 = .ok (.iload_n 1, 1) := by decide +kernel
theorem dX12_doesDirective_112 : decode cX12_doesDirective 112 = .ok (.invokevirtual 670, 3) := by decide +kernel
theorem dX12_doesDirective_115 : decode cX12_doesDirective 115 = .ok (.ireturn, 1) := by decide +kernel
theorem dX12_doesDirective_116 : decode cX12_doesDirective 116 = .ok (.aload_n 0, 1) := by decide +kernel
theorem dX12_doesDirective_117 : decode cX12_doesDirective 117 = .ok (.iconst 2, 1) := by decide +kernel
theorem dX12_doesDirective_118 : decode cX12_doesDirective 118 = .ok (.iconst 1, 1) := by decide +kernel
theorem dX12_doesDirective_119 : decode cX12_doesDirective 119 = .ok (.invokevirtual 430, 3) := by decide +kernel
theorem dX12_doesDirective_122 : decode cX12_doesDirective 122 = .ok (.ireturn, 1) := by decide +kernel
theorem dX12_doesText_0 : decode cX12_doesText 0 = .ok (.aload_n 0, 1) := by decide +kernel
theorem dX12_doesText_1 : decode cX12_doesText 1 = .ok (.invokevirtual 673, 3) := by decide +kernel
theorem dX12_doesText_4 : decode cX12_doesText 4 = .ok (.ifCond .ne 5, 3) := by decide +kernel
theorem dX12_doesText_7 : decode cX12_doesText 7 = .ok (.iconst 0, 1) := by decide +kernel
theorem dX12_doesText_8 : decode cX12_doesText 8 = .ok (.ireturn, 1) := by decide +kernel
theorem dX12_doesText_9 : decode cX12_doesText 9 = .ok (.iconst 0, 1) := by decide +kernel
theorem dX12_doesText_10 : decode cX12_doesText 10 = .ok (.istore_n 1, 1) := by decide +kernel
theorem dX12_doesText_11 : decode cX12_doesText 11 = .ok (.iload_n 1, 1) := by decide +kernel
theorem dX12_doesText_12 : decode cX12_doesText 12 = .ok (.aload_n 0, 1) := by decide +kernel
theorem dX12_doesText_13 : decode cX12_doesText 13 = .ok (.getfield 451, 3) := by decide +kernel
theorem dX12_doesText_16 : decode cX12_doesText 16 = .ok (.if_icmp .ge 42, 3) := by decide +kernel
theorem dX12_doesText_19 : decode cX12_doesText 19 = .ok (.aload_n 0, 1) := by decide +kernel
theorem dX12_doesText_20 : decode cX12_doesText 20 = .ok (.getfield 636, 3) := by decide +kernel
theorem dX12_doesText_23 : decode cX12_doesText 23 = .ok (.sipush 300, 3) := by decide +kernel
theorem dX12_doesText_26 : decode cX12_doesText 26 = .ok (.if_icmp .ne 16, 3) := by decide +kernel
theorem dX12_doesText_29 : decode cX12_doesText 29 = .ok (.aload_n 0, 1) := by decide +kernel
theorem dX12_doesText_30 : decode cX12_doesText 30 = .ok (.bipush 7, 2) := by decide +kernel
theorem dX12_doesText_32 : decode cX12_doesText 32 = .ok (.aload_n 0, 1) := by decide +kernel
theorem dX12_doesText_33 : decode cX12_doesText 33 = .ok (.getfield 138, 3) := by decide +kernel
theorem dX12_doesText_36 : decode cX12_doesText 36 = .ok (.iload_n 1, 1) := by decide +kernel
theorem dX12_doesText_37 : decode cX12_doesText 37 = .ok (.iaload, 1) := by decide +kernel
theorem dX12_doesText_38 : decode cX12_doesText 38 = .ok (.invokevirtual 376, 3) := by decide +kernel
theorem dX12_doesText_41 : decode cX12_doesText 41 = .ok (.ireturn, 1) := by decide +kernel
theorem dX12_doesText_42 : decode cX12_doesText 42 = .ok (.aload_n 0, 1) := by decide +kernel
theorem dX12_doesText_43 : decode cX12_doesText 43 = .ok (.aload_n 0, 1) := by decide +kernel
theorem dX12_doesText_44 : decode cX12_doesText 44 = .ok (.getfield 138, 3) := by decide +kernel
theorem dX12_doesText_47 : decode cX12_doesText 47 = .ok (.iload_n 1, 1) := by decide +kernel
theorem dX12_doesText_48 : decode cX12_doesText 48 = .ok (.iaload, 1) := by decide +kernel
theorem dX12_doesText_49 : decode cX12_doesText 49 = .ok (.invokevirtual 676, 3) := by decide +kernel
theorem dX12_doesText_52 : decode cX12_doesText 52 = .ok (.iinc 1 1, 3) := by decide +kernel
theorem dX12_doesText_55 : decode cX12_doesText 55 = .ok (.goto (-44), 3) := by decide +kernel
theorem dX12_doesText_58 : decode cX12_doesText 58 = .ok (.aload_n 0, 1) := by decide +kernel
theorem dX12_doesText_59 : decode cX12_doesText 59 = .ok (.getfield 68, 3) := by decide +kernel
theorem dX12_doesText_62 : decode cX12_doesText 62 = .ok (.iconst 1, 1) := by decide +kernel
theorem dX12_doesText_63 : decode cX12_doesText 63 = .ok (.dup2, 1) := by decide +kernel
theorem dX12_doesText_64 : decode cX12_doesText 64 = .ok (.iaload, 1) := by decide +kernel
theorem dX12_doesText_65 : decode cX12_doesText 65 = .ok (.iconst 1, 1) := by decide +kernel
theorem dX12_doesText_66 : decode cX12_doesText 66 = .ok (.iadd, 1) := by decide +kernel
theorem dX12_doesText_67 : decode cX12_doesText 67 = .ok (.iastore, 1) := by decide +kernel
theorem dX12_doesText_68 : decode cX12_doesText 68 = .ok (.iconst 1, 1) := by decide +kernel
theorem dX12_doesText_69 : decode cX12_doesText 69 = .ok (.ireturn, 1) := by decide +kernel
theorem dX12_doesLine_0 : decode cX12_doesLine 0 = .ok (.aload_n 0, 1) := by decide +kernel
theorem dX12_doesLine_1 : decode cX12_doesLine 1 = .ok (.iload_n 1, 1) := by decide +kernel
theorem dX12_doesLine_2 : decode cX12_doesLine 2 = .ok (.iload_n 2, 1) := by decide +kernel
theorem dX12_doesLine_3 : decode cX12_doesLine 3 = .ok (.invokevirtual 337, 3) := by decide +kernel
theorem dX12_doesLine_6 : decode cX12_doesLine 6 = .ok (.istore_n 3, 1) := by decide +kernel
theorem dX12_doesLine_7 : decode cX12_doesLine 7 = .ok (.aload_n 0, 1) := by decide +kernel
theorem dX12_doesLine_8 : decode cX12_doesLine 8 = .ok (.invokevirtual 679, 3) := by decide +kernel
theorem dX12_doesLine_11 : decode cX12_doesLine 11 = .ok (.istore 4, 2) := by decide +kernel
theorem dX12_doesLine_13 : decode cX12_doesLine 13 = .ok (.iload_n 3, 1) := by decide +kernel
theorem dX12_doesLine_14 : decode cX12_doesLine 14 = .ok (.iconst 1, 1) := by decide +kernel
theorem dX12_doesLine_15 : decode cX12_doesLine 15 = .ok (.if_icmp .le 23, 3) := by decide +kernel
theorem dX12_doesLine_18 : decode cX12_doesLine 18 = .ok (.iload 4, 2) := by decide +kernel
theorem dX12_doesLine_20 : decode cX12_doesLine 20 = .ok (.ifCond .ne 18, 3) := by decide +kernel
theorem dX12_doesLine_23 : decode cX12_doesLine 23 = .ok (.aload_n 0, 1) := by decide +kernel
theorem dX12_doesLine_24 : decode cX12_doesLine 24 = .ok (.bipush 10, 2) := by decide +kernel
theorem dX12_doesLine_26 : decode cX12_doesLine 26 = .ok (.iload_n 1, 1) := by decide +kernel
theorem dX12_doesLine_27 : decode cX12_doesLine 27 = .ok (.iload_n 2, 1) := by decide +kernel
theorem dX12_doesLine_28 : decode cX12_doesLine 28 = .ok (.aload_n 0, 1) := by decide +kernel
theorem dX12_doesLine_29 : decode cX12_doesLine 29 = .ok (.iload_n 1, 1) := by decide +kernel
theorem dX12_doesLine_30 : decode cX12_doesLine 30 = .ok (.iload_n 2, 1) := by decide +kernel
theorem dX12_doesLine_31 : decode cX12_doesLine 31 = .ok (.invokevirtual 330, 3) := by decide +kernel
theorem dX12_doesLine_34 : decode cX12_doesLine 34 = .ok (.invokevirtual 373, 3) := by decide +kernel
theorem dX12_doesLine_37 : decode cX12_doesLine 37 = .ok (.ireturn, 1) := by decide +kernel
theorem dX12_doesLine_38 : decode cX12_doesLine 38 = .ok (.iload 4, 2) := by decide +kernel
theorem dX12_doesLine_40 : decode cX12_doesLine 40 = .ok (.ifCond .eq 18, 3) := by decide +kernel
theorem dX12_doesLine_43 : decode cX12_doesLine 43 = .ok (.aload_n 0, 1) := by decide +kernel
theorem dX12_doesLine_44 : decode cX12_doesLine 44 = .ok (.getfield 190, 3) := by decide +kernel
theorem dX12_doesLine_47 : decode cX12_doesLine 47 = .ok (.aload_n 0, 1) := by decide +kernel
theorem dX12_doesLine_48 : decode cX12_doesLine 48 = .ok (.getfield 642, 3) := by decide +kernel
theorem dX12_doesLine_51 : decode cX12_doesLine 51 = .ok (.iconst 1, 1) := by decide +kernel
theorem dX12_doesLine_52 : decode cX12_doesLine 52 = .ok (.isub, 1) := by decide +kernel
theorem dX12_doesLine_53 : decode cX12_doesLine 53 = .ok (.iaload, 1) := by decide +kernel
theorem dX12_doesLine_54 : decode cX12_doesLine 54 = .ok (.iconst 1, 1) := by decide +kernel
theorem dX12_doesLine_55 : decode cX12_doesLine 55 = .ok (.if_icmp .eq 27, 3) := by decide +kernel
theorem dX12_doesLine_58 : decode cX12_doesLine 58 = .ok (.iload 4, 2) := by decide +kernel
theorem dX12_doesLine_60 : decode cX12_doesLine 60 = .ok (.ifCond .eq 61, 3) := by decide +kernel
theorem dX12_doesLine_63 : decode cX12_doesLine 63 = .ok (.aload_n 0, 1) := by decide +kernel
theorem dX12_doesLine_64 : decode cX12_doesLine 64 = .ok (.getfield 184, 3) := by decide +kernel
theorem dX12_doesLine_67 : decode cX12_doesLine 67 = .ok (.aload_n 0, 1) := by decide +kernel
theorem dX12_doesLine_68 : decode cX12_doesLine 68 = .ok (.getfield 642, 3) := by decide +kernel
theorem dX12_doesLine_71 : decode cX12_doesLine 71 = .ok (.iconst 1, 1) := by decide +kernel
theorem dX12_doesLine_72 : decode cX12_doesLine 72 = .ok (.isub, 1) := by decide +kernel
theorem dX12_doesLine_73 : decode cX12_doesLine 73 = .ok (.iaload, 1) := by decide +kernel
theorem dX12_doesLine_74 : decode cX12_doesLine 74 = .ok (.ifCond .ne 47, 3) := by decide +kernel
theorem dX12_doesLine_77 : decode cX12_doesLine 77 = .ok (.iload_n 3, 1) := by decide +kernel
theorem dX12_doesLine_78 : decode cX12_doesLine 78 = .ok (.iconst 2, 1) := by decide +kernel
theorem dX12_doesLine_79 : decode cX12_doesLine 79 = .ok (.if_icmp .ge 42, 3) := by decide +kernel
theorem dX12_doesLine_82 : decode cX12_doesLine 82 = .ok (.aload_n 0, 1) := by decide +kernel
theorem dX12_doesLine_83 : decode cX12_doesLine 83 = .ok (.getfield 68, 3) := by decide +kernel
theorem dX12_doesLine_86 : decode cX12_doesLine 86 = .ok (.iconst 2, 1) := by decide +kernel
theorem dX12_doesLine_87 : decode cX12_doesLine 87 = .ok (.dup2, 1) := by decide +kernel
theorem dX12_doesLine_88 : decode cX12_doesLine 88 = .ok (.iaload, 1) := by decide +kernel
theorem dX12_doesLine_89 : decode cX12_doesLine 89 = .ok (.iconst 1, 1) := by decide +kernel
theorem dX12_doesLine_90 : decode cX12_doesLine 90 = .ok (.iadd, 1) := by decide +kernel
theorem dX12_doesLine_91 : decode cX12_doesLine 91 = .ok (.iastore, 1) := by decide +kernel
theorem dX12_doesLine_92 : decode cX12_doesLine 92 = .ok (.iload_n 3, 1) := by decide +kernel
theorem dX12_doesLine_93 : decode cX12_doesLine 93 = .ok (.iconst 1, 1) := by decide +kernel
theorem dX12_doesLine_94 : decode cX12_doesLine 94 = .ok (.if_icmp .ne 10, 3) := by decide +kernel
theorem dX12_doesLine_97 : decode cX12_doesLine 97 = .ok (.aload_n 0, 1) := by decide +kernel
theorem dX12_doesLine_98 : decode cX12_doesLine 98 = .ok (.iload_n 2, 1) := by decide +kernel
theorem dX12_doesLine_99 : decode cX12_doesLine 99 = .ok (.iconst 0, 1) := by decide +kernel
theorem dX12_doesLine_100 : decode cX12_doesLine 100 = .ok (.iconst 1, 1) := by decide +kernel
theorem dX12_doesLine_101 : decode cX12_doesLine 101 = .ok (.invokevirtual 657, 3) := by decide +kernel
theorem dX12_doesLine_104 : decode cX12_doesLine 104 = .ok (.iload_n 3, 1) := by decide +kernel
theorem dX12_doesLine_105 : decode cX12_doesLine 105 = .ok (.iconst 4, 1) := by decide +kernel
theorem dX12_doesLine_106 : decode cX12_doesLine 106 = .ok (.if_icmp .ne 13, 3) := by decide +kernel
theorem dX12_doesLine_109 : decode cX12_doesLine 109 = .ok (.aload_n 0, 1) := by decide +kernel
theorem dX12_doesLine_110 : decode cX12_doesLine 110 = .ok (.dup, 1) := by decide +kernel
theorem dX12_doesLine_111 : decode cX12_doesLine 111 = .ok (.getfield 642, 3) := by decide +kernel
theorem dX12_doesLine_114 : decode cX12_doesLine 114 = .ok (.iconst 1, 1) := by decide +kernel
theorem dX12_doesLine_115 : decode cX12_doesLine 115 = .ok (.isub, 1) := by decide +kernel
theorem dX12_doesLine_116 : decode cX12_doesLine 116 = .ok (.putfield 642, 3) := by decide +kernel
theorem dX12_doesLine_119 : decode cX12_doesLine 119 = .ok (.iconst 1, 1) := by decide +kernel
theorem dX12_doesLine_120 : decode cX12_doesLine 120 = .ok (.ireturn, 1) := by decide +kernel
theorem dX12_doesLine_121 : decode cX12_doesLine 121 = .ok (.iload_n 3, 1) := by decide +kernel
theorem dX12_doesLine_122 : decode cX12_doesLine 122 = .ok (.iconst 1, 1) := by decide +kernel
theorem dX12_doesLine_123 : decode cX12_doesLine 123 = .ok (.if_icmp .le 11, 3) := by decide +kernel
theorem dX12_doesLine_126 : decode cX12_doesLine 126 = .ok (.aload_n 0, 1) := by decide +kernel
theorem dX12_doesLine_127 : decode cX12_doesLine 127 = .ok (.iload_n 1, 1) := by decide +kernel
theorem dX12_doesLine_128 : decode cX12_doesLine 128 = .ok (.iload_n 2, 1) := by decide +kernel
theorem dX12_doesLine_129 : decode cX12_doesLine 129 = .ok (.iload_n 3, 1) := by decide +kernel
theorem dX12_doesLine_130 : decode cX12_doesLine 130 = .ok (.invokevirtual 682, 3) := by decide +kernel
theorem dX12_doesLine_133 : decode cX12_doesLine 133 = .ok (.ireturn, 1) := by decide +kernel
theorem dX12_doesLine_134 : decode cX12_doesLine 134 = .ok (.aload_n 0, 1) := by decide +kernel
theorem dX12_doesLine_135 : decode cX12_doesLine 135 = .ok (.iload_n 1, 1) := by decide +kernel
theorem dX12_doesLine_136 : decode cX12_doesLine 136 = .ok (.iload_n 2, 1) := by decide +kernel
theorem dX12_doesLine_137 : decode cX12_doesLine 137 = .ok (.invokevirtual 352, 3) := by decide +kernel
theorem dX12_doesLine_140 : decode cX12_doesLine 140 = .ok (.ifCond .ne 5, 3) := by decide +kernel
theorem dX12_doesLine_143 : decode cX12_doesLine 143 = .ok (.iconst 0, 1) := by decide +kernel
theorem dX12_doesLine_144 : decode cX12_doesLine 144 = .ok (.ireturn, 1) := by decide +kernel
theorem dX12_doesLine_145 : decode cX12_doesLine 145 = .ok (.aload_n 0, 1) := by decide +kernel
theorem dX12_doesLine_146 : decode cX12_doesLine 146 = .ok (.iconst 0, 1) := by decide +kernel
theorem dX12_doesLine_147 : decode cX12_doesLine 147 = .ok (.putfield 661, 3) := by decide +kernel
theorem dX12_doesLine_150 : decode cX12_doesLine 150 = .ok (.aload_n 0, 1) := by decide +kernel
theorem dX12_doesLine_151 : decode cX12_doesLine 151 = .ok (.getfield 355, 3) := by decide +kernel
theorem dX12_doesLine_154 : decode cX12_doesLine 154 = .ok (.ifCond .le 19, 3) := by decide +kernel
theorem dX12_doesLine_157 : decode cX12_doesLine 157 = .ok (.aload_n 0, 1) := by decide +kernel
theorem dX12_doesLine_158 : decode cX12_doesLine 158 = .ok (.iconst 0, 1) := by decide +kernel
theorem dX12_doesLine_159 : decode cX12_doesLine 159 = .ok (.invokevirtual 358, 3) := by decide +kernel
theorem dX12_doesLine_162 : decode cX12_doesLine 162 = .ok (.ifCond .eq 11, 3) := by decide +kernel
theorem dX12_doesLine_165 : decode cX12_doesLine 165 = .ok (.aload_n 0, 1) := by decide +kernel
theorem dX12_doesLine_166 : decode cX12_doesLine 166 = .ok (.iload_n 2, 1) := by decide +kernel
theorem dX12_doesLine_167 : decode cX12_doesLine 167 = .ok (.invokevirtual 685, 3) := by decide +kernel
theorem dX12_doesLine_170 : decode cX12_doesLine 170 = .ok (.goto 7, 3) := by decide +kernel
theorem dX12_doesLine_173 : decode cX12_doesLine 173 = .ok (.aload_n 0, 1) := by decide +kernel
theorem dX12_doesLine_174 : decode cX12_doesLine 174 = .ok (.invokevirtual 688, 3) := by decide +kernel
theorem dX12_doesLine_177 : decode cX12_doesLine 177 = .ok (.istore 5, 2) := by decide +kernel
theorem dX12_doesLine_179 : decode cX12_doesLine 179 = .ok (.iload 5, 2) := by decide +kernel
theorem dX12_doesLine_181 : decode cX12_doesLine 181 = .ok (.ifCond .eq 16, 3) := by decide +kernel
theorem dX12_doesLine_184 : decode cX12_doesLine 184 = .ok (.aload_n 0, 1) := by decide +kernel
theorem dX12_doesLine_185 : decode cX12_doesLine 185 = .ok (.getfield 661, 3) := by decide +kernel
theorem dX12_doesLine_188 : decode cX12_doesLine 188 = .ok (.ifCond .ne 9, 3) := by decide +kernel
theorem dX12_doesLine_191 : decode cX12_doesLine 191 = .ok (.aload_n 0, 1) := by decide +kernel
theorem dX12_doesLine_192 : decode cX12_doesLine 192 = .ok (.iload_n 1, 1) := by decide +kernel
theorem dX12_doesLine_193 : decode cX12_doesLine 193 = .ok (.iload_n 2, 1) := by decide +kernel
theorem dX12_doesLine_194 : decode cX12_doesLine 194 = .ok (.invokevirtual 648, 3) := by decide +kernel
theorem dX12_doesLine_197 : decode cX12_doesLine 197 = .ok (.iload 5, 2) := by decide +kernel
theorem dX12_doesLine_199 : decode cX12_doesLine 199 = .ok (.ireturn, 1) := by decide +kernel
theorem dX12_runs_0 : decode cX12_runs 0 = .ok (.aload_n 0, 1) := by decide +kernel
theorem dX12_runs_1 : decode cX12_runs 1 = .ok (.invokevirtual 691, 3) := by decide +kernel
theorem dX12_runs_4 : decode cX12_runs 4 = .ok (.aload_n 0, 1) := by decide +kernel
theorem dX12_runs_5 : decode cX12_runs 5 = .ok (.iload_n 2, 1) := by decide +kernel
theorem dX12_runs_6 : decode cX12_runs 6 = .ok (.invokevirtual 694, 3) := by decide +kernel
theorem dX12_runs_9 : decode cX12_runs 9 = .ok (.aload_n 0, 1) := by decide +kernel
theorem dX12_runs_10 : decode cX12_runs 10 = .ok (.iconst 0, 1) := by decide +kernel
theorem dX12_runs_11 : decode cX12_runs 11 = .ok (.putfield 645, 3) := by decide +kernel
theorem dX12_runs_14 : decode cX12_runs 14 = .ok (.aload_n 0, 1) := by decide +kernel
theorem dX12_runs_15 : decode cX12_runs 15 = .ok (.iconst 0, 1) := by decide +kernel
theorem dX12_runs_16 : decode cX12_runs 16 = .ok (.putfield 642, 3) := by decide +kernel
theorem dX12_runs_19 : decode cX12_runs 19 = .ok (.aload_n 0, 1) := by decide +kernel
theorem dX12_runs_20 : decode cX12_runs 20 = .ok (.getfield 169, 3) := by decide +kernel
theorem dX12_runs_23 : decode cX12_runs 23 = .ok (.iconst 0, 1) := by decide +kernel
theorem dX12_runs_24 : decode cX12_runs 24 = .ok (.iload_n 1, 1) := by decide +kernel
theorem dX12_runs_25 : decode cX12_runs 25 = .ok (.iastore, 1) := by decide +kernel
theorem dX12_runs_26 : decode cX12_runs 26 = .ok (.aload_n 0, 1) := by decide +kernel
theorem dX12_runs_27 : decode cX12_runs 27 = .ok (.getfield 172, 3) := by decide +kernel
theorem dX12_runs_30 : decode cX12_runs 30 = .ok (.iconst 0, 1) := by decide +kernel
theorem dX12_runs_31 : decode cX12_runs 31 = .ok (.iconst 0, 1) := by decide +kernel
theorem dX12_runs_32 : decode cX12_runs 32 = .ok (.iastore, 1) := by decide +kernel
theorem dX12_runs_33 : decode cX12_runs 33 = .ok (.aload_n 0, 1) := by decide +kernel
theorem dX12_runs_34 : decode cX12_runs 34 = .ok (.getfield 175, 3) := by decide +kernel
theorem dX12_runs_37 : decode cX12_runs 37 = .ok (.iconst 0, 1) := by decide +kernel
theorem dX12_runs_38 : decode cX12_runs 38 = .ok (.iconst 0, 1) := by decide +kernel
theorem dX12_runs_39 : decode cX12_runs 39 = .ok (.iastore, 1) := by decide +kernel
theorem dX12_runs_40 : decode cX12_runs 40 = .ok (.aload_n 0, 1) := by decide +kernel
theorem dX12_runs_41 : decode cX12_runs 41 = .ok (.getfield 645, 3) := by decide +kernel
theorem dX12_runs_44 : decode cX12_runs 44 = .ok (.ifCond .lt 145, 3) := by decide +kernel
theorem dX12_runs_47 : decode cX12_runs 47 = .ok (.aload_n 0, 1) := by decide +kernel
theorem dX12_runs_48 : decode cX12_runs 48 = .ok (.getfield 169, 3) := by decide +kernel
theorem dX12_runs_51 : decode cX12_runs 51 = .ok (.aload_n 0, 1) := by decide +kernel
theorem dX12_runs_52 : decode cX12_runs 52 = .ok (.getfield 645, 3) := by decide +kernel
theorem dX12_runs_55 : decode cX12_runs 55 = .ok (.iaload, 1) := by decide +kernel
theorem dX12_runs_56 : decode cX12_runs 56 = .ok (.istore_n 3, 1) := by decide +kernel
theorem dX12_runs_57 : decode cX12_runs 57 = .ok (.aload_n 0, 1) := by decide +kernel
theorem dX12_runs_58 : decode cX12_runs 58 = .ok (.getfield 172, 3) := by decide +kernel
theorem dX12_runs_61 : decode cX12_runs 61 = .ok (.aload_n 0, 1) := by decide +kernel
theorem dX12_runs_62 : decode cX12_runs 62 = .ok (.getfield 645, 3) := by decide +kernel
theorem dX12_runs_65 : decode cX12_runs 65 = .ok (.iaload, 1) := by decide +kernel
theorem dX12_runs_66 : decode cX12_runs 66 = .ok (.istore 4, 2) := by decide +kernel
theorem dX12_runs_68 : decode cX12_runs 68 = .ok (.iload 4, 2) := by decide +kernel
theorem dX12_runs_70 : decode cX12_runs 70 = .ok (.aload_n 0, 1) := by decide +kernel
theorem dX12_runs_71 : decode cX12_runs 71 = .ok (.iload_n 3, 1) := by decide +kernel
theorem dX12_runs_72 : decode cX12_runs 72 = .ok (.invokevirtual 285, 3) := by decide +kernel
theorem dX12_runs_75 : decode cX12_runs 75 = .ok (.if_icmp .ge 28, 3) := by decide +kernel
theorem dX12_runs_78 : decode cX12_runs 78 = .ok (.aload_n 0, 1) := by decide +kernel
theorem dX12_runs_79 : decode cX12_runs 79 = .ok (.getfield 172, 3) := by decide +kernel
theorem dX12_runs_82 : decode cX12_runs 82 = .ok (.aload_n 0, 1) := by decide +kernel
theorem dX12_runs_83 : decode cX12_runs 83 = .ok (.getfield 645, 3) := by decide +kernel
theorem dX12_runs_86 : decode cX12_runs 86 = .ok (.dup2, 1) := by decide +kernel
theorem dX12_runs_87 : decode cX12_runs 87 = .ok (.iaload, 1) := by decide +kernel
theorem dX12_runs_88 : decode cX12_runs 88 = .ok (.iconst 1, 1) := by decide +kernel
theorem dX12_runs_89 : decode cX12_runs 89 = .ok (.iadd, 1) := by decide +kernel
theorem dX12_runs_90 : decode cX12_runs 90 = .ok (.iastore, 1) := by decide +kernel
theorem dX12_runs_91 : decode cX12_runs 91 = .ok (.aload_n 0, 1) := by decide +kernel
theorem dX12_runs_92 : decode cX12_runs 92 = .ok (.iload_n 3, 1) := by decide +kernel
theorem dX12_runs_93 : decode cX12_runs 93 = .ok (.iload 4, 2) := by decide +kernel
theorem dX12_runs_95 : decode cX12_runs 95 = .ok (.invokevirtual 697, 3) := by decide +kernel
theorem dX12_runs_98 : decode cX12_runs 98 = .ok (.ifCond .ne (-58), 3) := by decide +kernel
theorem dX12_runs_101 : decode cX12_runs 101 = .ok (.iconst 0, 1) := by decide +kernel
theorem dX12_runs_102 : decode cX12_runs 102 = .ok (.ireturn, 1) := by decide +kernel
theorem dX12_runs_103 : decode cX12_runs 103 = .ok (.aload_n 0, 1) := by decide +kernel
theorem dX12_runs_104 : decode cX12_runs 104 = .ok (.invokevirtual 679, 3) := by decide +kernel
theorem dX12_runs_107 : decode cX12_runs 107 = .ok (.ifCond .eq 38, 3) := by decide +kernel
theorem dX12_runs_110 : decode cX12_runs 110 = .ok (.aload_n 0, 1) := by decide +kernel
theorem dX12_runs_111 : decode cX12_runs 111 = .ok (.bipush 10, 2) := by decide +kernel
theorem dX12_runs_113 : decode cX12_runs 113 = .ok (.iload_n 3, 1) := by decide +kernel
theorem dX12_runs_114 : decode cX12_runs 114 = .ok (.aload_n 0, 1) := by decide +kernel
theorem dX12_runs_115 : decode cX12_runs 115 = .ok (.getfield 178, 3) := by decide +kernel
theorem dX12_runs_118 : decode cX12_runs 118 = .ok (.aload_n 0, 1) := by decide +kernel
theorem dX12_runs_119 : decode cX12_runs 119 = .ok (.getfield 642, 3) := by decide +kernel
theorem dX12_runs_122 : decode cX12_runs 122 = .ok (.iconst 1, 1) := by decide +kernel
theorem dX12_runs_123 : decode cX12_runs 123 = .ok (.isub, 1) := by decide +kernel
theorem dX12_runs_124 : decode cX12_runs 124 = .ok (.iaload, 1) := by decide +kernel
theorem dX12_runs_125 : decode cX12_runs 125 = .ok (.aload_n 0, 1) := by decide +kernel
theorem dX12_runs_126 : decode cX12_runs 126 = .ok (.iload_n 3, 1) := by decide +kernel
theorem dX12_runs_127 : decode cX12_runs 127 = .ok (.aload_n 0, 1) := by decide +kernel
theorem dX12_runs_128 : decode cX12_runs 128 = .ok (.getfield 178, 3) := by decide +kernel
theorem dX12_runs_131 : decode cX12_runs 131 = .ok (.aload_n 0, 1) := by decide +kernel
theorem dX12_runs_132 : decode cX12_runs 132 = .ok (.getfield 642, 3) := by decide +kernel
theorem dX12_runs_135 : decode cX12_runs 135 = .ok (.iconst 1, 1) := by decide +kernel
theorem dX12_runs_136 : decode cX12_runs 136 = .ok (.isub, 1) := by decide +kernel
theorem dX12_runs_137 : decode cX12_runs 137 = .ok (.iaload, 1) := by decide +kernel
theorem dX12_runs_138 : decode cX12_runs 138 = .ok (.invokevirtual 330, 3) := by decide +kernel
theorem dX12_runs_141 : decode cX12_runs 141 = .ok (.invokevirtual 373, 3) := by decide +kernel
theorem dX12_runs_144 : decode cX12_runs 144 = .ok (.ireturn, 1) := by decide +kernel
theorem dX12_runs_145 : decode cX12_runs 145 = .ok (.aload_n 0, 1) := by decide +kernel
theorem dX12_runs_146 : decode cX12_runs 146 = .ok (.dup, 1) := by decide +kernel
theorem dX12_runs_147 : decode cX12_runs 147 = .ok (.getfield 645, 3) := by decide +kernel
theorem dX12_runs_150 : decode cX12_runs 150 = .ok (.iconst 1, 1) := by decide +kernel
theorem dX12_runs_151 : decode cX12_runs 151 = .ok (.isub, 1) := by decide +kernel
theorem dX12_runs_152 : decode cX12_runs 152 = .ok (.putfield 645, 3) := by decide +kernel
theorem dX12_runs_155 : decode cX12_runs 155 = .ok (.aload_n 0, 1) := by decide +kernel
theorem dX12_runs_156 : decode cX12_runs 156 = .ok (.getfield 645, 3) := by decide +kernel
theorem dX12_runs_159 : decode cX12_runs 159 = .ok (.ifCond .lt 27, 3) := by decide +kernel
theorem dX12_runs_162 : decode cX12_runs 162 = .ok (.aload_n 0, 1) := by decide +kernel
theorem dX12_runs_163 : decode cX12_runs 163 = .ok (.aload_n 0, 1) := by decide +kernel
theorem dX12_runs_164 : decode cX12_runs 164 = .ok (.getfield 169, 3) := by decide +kernel
theorem dX12_runs_167 : decode cX12_runs 167 = .ok (.aload_n 0, 1) := by decide +kernel
theorem dX12_runs_168 : decode cX12_runs 168 = .ok (.getfield 645, 3) := by decide +kernel
theorem dX12_runs_171 : decode cX12_runs 171 = .ok (.iaload, 1) := by decide +kernel
theorem dX12_runs_172 : decode cX12_runs 172 = .ok (.aload_n 0, 1) := by decide +kernel
theorem dX12_runs_173 : decode cX12_runs 173 = .ok (.getfield 172, 3) := by decide +kernel
theorem dX12_runs_176 : decode cX12_runs 176 = .ok (.aload_n 0, 1) := by decide +kernel
theorem dX12_runs_177 : decode cX12_runs 177 = .ok (.getfield 645, 3) := by decide +kernel
theorem dX12_runs_180 : decode cX12_runs 180 = .ok (.iaload, 1) := by decide +kernel
theorem dX12_runs_181 : decode cX12_runs 181 = .ok (.iconst 1, 1) := by decide +kernel
theorem dX12_runs_182 : decode cX12_runs 182 = .ok (.isub, 1) := by decide +kernel
theorem dX12_runs_183 : decode cX12_runs 183 = .ok (.invokevirtual 648, 3) := by decide +kernel
theorem dX12_runs_186 : decode cX12_runs 186 = .ok (.goto (-146), 3) := by decide +kernel
theorem dX12_runs_189 : decode cX12_runs 189 = .ok (.iconst 1, 1) := by decide +kernel
theorem dX12_runs_190 : decode cX12_runs 190 = .ok (.ireturn, 1) := by decide +kernel
theorem dX12_tellsFault_0 : decode cX12_tellsFault 0 = .ok (.iconst 0, 1) := by decide +kernel
theorem dX12_tellsFault_1 : decode cX12_tellsFault 1 = .ok (.istore_n 1, 1) := by decide +kernel
theorem dX12_tellsFault_2 : decode cX12_tellsFault 2 = .ok (.iload_n 1, 1) := by decide +kernel
theorem dX12_tellsFault_3 : decode cX12_tellsFault 3 = .ok (.iconst 4, 1) := by decide +kernel
theorem dX12_tellsFault_4 : decode cX12_tellsFault 4 = .ok (.if_icmp .ge 24, 3) := by decide +kernel
theorem dX12_tellsFault_7 : decode cX12_tellsFault 7 = .ok (.aload_n 0, 1) := by decide +kernel
theorem dX12_tellsFault_8 : decode cX12_tellsFault 8 = .ok (.getfield 221, 3) := by decide +kernel
theorem dX12_tellsFault_11 : decode cX12_tellsFault 11 = .ok (.iload_n 1, 1) := by decide +kernel
theorem dX12_tellsFault_12 : decode cX12_tellsFault 12 = .ok (.aload_n 0, 1) := by decide +kernel
theorem dX12_tellsFault_13 : decode cX12_tellsFault 13 = .ok (.getfield 68, 3) := by decide +kernel
theorem dX12_tellsFault_16 : decode cX12_tellsFault 16 = .ok (.bipush 11, 2) := by decide +kernel
theorem dX12_tellsFault_18 : decode cX12_tellsFault 18 = .ok (.iload_n 1, 1) := by decide +kernel
theorem dX12_tellsFault_19 : decode cX12_tellsFault 19 = .ok (.iadd, 1) := by decide +kernel
theorem dX12_tellsFault_20 : decode cX12_tellsFault 20 = .ok (.iaload, 1) := by decide +kernel
theorem dX12_tellsFault_21 : decode cX12_tellsFault 21 = .ok (.iastore, 1) := by decide +kernel
theorem dX12_tellsFault_22 : decode cX12_tellsFault 22 = .ok (.iinc 1 1, 3) := by decide +kernel
theorem dX12_tellsFault_25 : decode cX12_tellsFault 25 = .ok (.goto (-23), 3) := by decide +kernel
theorem dX12_tellsFault_28 : decode cX12_tellsFault 28 = .ok (.return_, 1) := by decide +kernel
theorem dX12_tellsTokens_0 : decode cX12_tellsTokens 0 = .ok (.aload_n 0, 1) := by decide +kernel
theorem dX12_tellsTokens_1 : decode cX12_tellsTokens 1 = .ok (.iload_n 1, 1) := by decide +kernel
theorem dX12_tellsTokens_2 : decode cX12_tellsTokens 2 = .ok (.putfield 700, 3) := by decide +kernel
theorem dX12_tellsTokens_5 : decode cX12_tellsTokens 5 = .ok (.iconst 0, 1) := by decide +kernel
theorem dX12_tellsTokens_6 : decode cX12_tellsTokens 6 = .ok (.istore_n 2, 1) := by decide +kernel
theorem dX12_tellsTokens_7 : decode cX12_tellsTokens 7 = .ok (.iload_n 2, 1) := by decide +kernel
theorem dX12_tellsTokens_8 : decode cX12_tellsTokens 8 = .ok (.iload_n 1, 1) := by decide +kernel
theorem dX12_tellsTokens_9 : decode cX12_tellsTokens 9 = .ok (.if_icmp .ge 149, 3) := by decide +kernel
theorem dX12_tellsTokens_12 : decode cX12_tellsTokens 12 = .ok (.aload_n 0, 1) := by decide +kernel
theorem dX12_tellsTokens_13 : decode cX12_tellsTokens 13 = .ok (.getfield 224, 3) := by decide +kernel
theorem dX12_tellsTokens_16 : decode cX12_tellsTokens 16 = .ok (.iload_n 2, 1) := by decide +kernel
theorem dX12_tellsTokens_17 : decode cX12_tellsTokens 17 = .ok (.aload_n 0, 1) := by decide +kernel
theorem dX12_tellsTokens_18 : decode cX12_tellsTokens 18 = .ok (.getfield 193, 3) := by decide +kernel
theorem dX12_tellsTokens_21 : decode cX12_tellsTokens 21 = .ok (.iload_n 2, 1) := by decide +kernel
theorem dX12_tellsTokens_22 : decode cX12_tellsTokens 22 = .ok (.iaload, 1) := by decide +kernel
theorem dX12_tellsTokens_23 : decode cX12_tellsTokens 23 = .ok (.iastore, 1) := by decide +kernel
theorem dX12_tellsTokens_24 : decode cX12_tellsTokens 24 = .ok (.aload_n 0, 1) := by decide +kernel
theorem dX12_tellsTokens_25 : decode cX12_tellsTokens 25 = .ok (.getfield 227, 3) := by decide +kernel
theorem dX12_tellsTokens_28 : decode cX12_tellsTokens 28 = .ok (.iload_n 2, 1) := by decide +kernel
theorem dX12_tellsTokens_29 : decode cX12_tellsTokens 29 = .ok (.aload_n 0, 1) := by decide +kernel
theorem dX12_tellsTokens_30 : decode cX12_tellsTokens 30 = .ok (.getfield 196, 3) := by decide +kernel
theorem dX12_tellsTokens_33 : decode cX12_tellsTokens 33 = .ok (.iload_n 2, 1) := by decide +kernel
theorem dX12_tellsTokens_34 : decode cX12_tellsTokens 34 = .ok (.iaload, 1) := by decide +kernel
theorem dX12_tellsTokens_35 : decode cX12_tellsTokens 35 = .ok (.iastore, 1) := by decide +kernel
theorem dX12_tellsTokens_36 : decode cX12_tellsTokens 36 = .ok (.aload_n 0, 1) := by decide +kernel
theorem dX12_tellsTokens_37 : decode cX12_tellsTokens 37 = .ok (.getfield 230, 3) := by decide +kernel
theorem dX12_tellsTokens_40 : decode cX12_tellsTokens 40 = .ok (.iload_n 2, 1) := by decide +kernel
theorem dX12_tellsTokens_41 : decode cX12_tellsTokens 41 = .ok (.aload_n 0, 1) := by decide +kernel
theorem dX12_tellsTokens_42 : decode cX12_tellsTokens 42 = .ok (.getfield 199, 3) := by decide +kernel
theorem dX12_tellsTokens_45 : decode cX12_tellsTokens 45 = .ok (.iload_n 2, 1) := by decide +kernel
theorem dX12_tellsTokens_46 : decode cX12_tellsTokens 46 = .ok (.iaload, 1) := by decide +kernel
theorem dX12_tellsTokens_47 : decode cX12_tellsTokens 47 = .ok (.iastore, 1) := by decide +kernel
theorem dX12_tellsTokens_48 : decode cX12_tellsTokens 48 = .ok (.aload_n 0, 1) := by decide +kernel
theorem dX12_tellsTokens_49 : decode cX12_tellsTokens 49 = .ok (.getfield 233, 3) := by decide +kernel
theorem dX12_tellsTokens_52 : decode cX12_tellsTokens 52 = .ok (.iload_n 2, 1) := by decide +kernel
theorem dX12_tellsTokens_53 : decode cX12_tellsTokens 53 = .ok (.aload_n 0, 1) := by decide +kernel
theorem dX12_tellsTokens_54 : decode cX12_tellsTokens 54 = .ok (.getfield 202, 3) := by decide +kernel
theorem dX12_tellsTokens_57 : decode cX12_tellsTokens 57 = .ok (.iload_n 2, 1) := by decide +kernel
theorem dX12_tellsTokens_58 : decode cX12_tellsTokens 58 = .ok (.iaload, 1) := by decide +kernel
theorem dX12_tellsTokens_59 : decode cX12_tellsTokens 59 = .ok (.iastore, 1) := by decide +kernel
theorem dX12_tellsTokens_60 : decode cX12_tellsTokens 60 = .ok (.aload_n 0, 1) := by decide +kernel
theorem dX12_tellsTokens_61 : decode cX12_tellsTokens 61 = .ok (.getfield 236, 3) := by decide +kernel
theorem dX12_tellsTokens_64 : decode cX12_tellsTokens 64 = .ok (.iload_n 2, 1) := by decide +kernel
theorem dX12_tellsTokens_65 : decode cX12_tellsTokens 65 = .ok (.aload_n 0, 1) := by decide +kernel
theorem dX12_tellsTokens_66 : decode cX12_tellsTokens 66 = .ok (.getfield 205, 3) := by decide +kernel
theorem dX12_tellsTokens_69 : decode cX12_tellsTokens 69 = .ok (.iload_n 2, 1) := by decide +kernel
theorem dX12_tellsTokens_70 : decode cX12_tellsTokens 70 = .ok (.iaload, 1) := by decide +kernel
theorem dX12_tellsTokens_71 : decode cX12_tellsTokens 71 = .ok (.iastore, 1) := by decide +kernel
theorem dX12_tellsTokens_72 : decode cX12_tellsTokens 72 = .ok (.aload_n 0, 1) := by decide +kernel
theorem dX12_tellsTokens_73 : decode cX12_tellsTokens 73 = .ok (.getfield 239, 3) := by decide +kernel
theorem dX12_tellsTokens_76 : decode cX12_tellsTokens 76 = .ok (.iload_n 2, 1) := by decide +kernel
theorem dX12_tellsTokens_77 : decode cX12_tellsTokens 77 = .ok (.aload_n 0, 1) := by decide +kernel
theorem dX12_tellsTokens_78 : decode cX12_tellsTokens 78 = .ok (.getfield 208, 3) := by decide +kernel
theorem dX12_tellsTokens_81 : decode cX12_tellsTokens 81 = .ok (.iload_n 2, 1) := by decide +kernel
theorem dX12_tellsTokens_82 : decode cX12_tellsTokens 82 = .ok (.iaload, 1) := by decide +kernel
theorem dX12_tellsTokens_83 : decode cX12_tellsTokens 83 = .ok (.iastore, 1) := by decide +kernel
theorem dX12_tellsTokens_84 : decode cX12_tellsTokens 84 = .ok (.aload_n 0, 1) := by decide +kernel
theorem dX12_tellsTokens_85 : decode cX12_tellsTokens 85 = .ok (.getfield 242, 3) := by decide +kernel
theorem dX12_tellsTokens_88 : decode cX12_tellsTokens 88 = .ok (.iload_n 2, 1) := by decide +kernel
theorem dX12_tellsTokens_89 : decode cX12_tellsTokens 89 = .ok (.aload_n 0, 1) := by decide +kernel
theorem dX12_tellsTokens_90 : decode cX12_tellsTokens 90 = .ok (.getfield 211, 3) := by decide +kernel
theorem dX12_tellsTokens_93 : decode cX12_tellsTokens 93 = .ok (.iload_n 2, 1) := by decide +kernel
theorem dX12_tellsTokens_94 : decode cX12_tellsTokens 94 = .ok (.iaload, 1) := by decide +kernel
theorem dX12_tellsTokens_95 : decode cX12_tellsTokens 95 = .ok (.iastore, 1) := by decide +kernel
theorem dX12_tellsTokens_96 : decode cX12_tellsTokens 96 = .ok (.aload_n 0, 1) := by decide +kernel
theorem dX12_tellsTokens_97 : decode cX12_tellsTokens 97 = .ok (.getfield 245, 3) := by decide +kernel
theorem dX12_tellsTokens_100 : decode cX12_tellsTokens 100 = .ok (.iload_n 2, 1) := by decide +kernel
theorem dX12_tellsTokens_101 : decode cX12_tellsTokens 101 = .ok (.aload_n 0, 1) := by decide +kernel
theorem dX12_tellsTokens_102 : decode cX12_tellsTokens 102 = .ok (.getfield 214, 3) := by decide +kernel
theorem dX12_tellsTokens_105 : decode cX12_tellsTokens 105 = .ok (.iload_n 2, 1) := by decide +kernel
theorem dX12_tellsTokens_106 : decode cX12_tellsTokens 106 = .ok (.iaload, 1) := by decide +kernel
theorem dX12_tellsTokens_107 : decode cX12_tellsTokens 107 = .ok (.iastore, 1) := by decide +kernel
theorem dX12_tellsTokens_108 : decode cX12_tellsTokens 108 = .ok (.iconst 0, 1) := by decide +kernel
theorem dX12_tellsTokens_109 : decode cX12_tellsTokens 109 = .ok (.istore_n 3, 1) := by decide +kernel
theorem dX12_tellsTokens_110 : decode cX12_tellsTokens 110 = .ok (.iload_n 3, 1) := by decide +kernel
theorem dX12_tellsTokens_111 : decode cX12_tellsTokens 111 = .ok (.aload_n 0, 1) := by decide +kernel
theorem dX12_tellsTokens_112 : decode cX12_tellsTokens 112 = .ok (.getfield 199, 3) := by decide +kernel
theorem dX12_tellsTokens_115 : decode cX12_tellsTokens 115 = .ok (.iload_n 2, 1) := by decide +kernel
theorem dX12_tellsTokens_116 : decode cX12_tellsTokens 116 = .ok (.iaload, 1) := by decide +kernel
theorem dX12_tellsTokens_117 : decode cX12_tellsTokens 117 = .ok (.if_icmp .ge 35, 3) := by decide +kernel
theorem dX12_tellsTokens_120 : decode cX12_tellsTokens 120 = .ok (.aload_n 0, 1) := by decide +kernel
theorem dX12_tellsTokens_121 : decode cX12_tellsTokens 121 = .ok (.getfield 248, 3) := by decide +kernel
theorem dX12_tellsTokens_124 : decode cX12_tellsTokens 124 = .ok (.aload_n 0, 1) := by decide +kernel
theorem dX12_tellsTokens_125 : decode cX12_tellsTokens 125 = .ok (.getfield 196, 3) := by decide +kernel
theorem dX12_tellsTokens_128 : decode cX12_tellsTokens 128 = .ok (.iload_n 2, 1) := by decide +kernel
theorem dX12_tellsTokens_129 : decode cX12_tellsTokens 129 = .ok (.iaload, 1) := by decide +kernel
theorem dX12_tellsTokens_130 : decode cX12_tellsTokens 130 = .ok (.iload_n 3, 1) := by decide +kernel
theorem dX12_tellsTokens_131 : decode cX12_tellsTokens 131 = .ok (.iadd, 1) := by decide +kernel
theorem dX12_tellsTokens_132 : decode cX12_tellsTokens 132 = .ok (.aload_n 0, 1) := by decide +kernel
theorem dX12_tellsTokens_133 : decode cX12_tellsTokens 133 = .ok (.getfield 218, 3) := by decide +kernel
theorem dX12_tellsTokens_136 : decode cX12_tellsTokens 136 = .ok (.aload_n 0, 1) := by decide +kernel
theorem dX12_tellsTokens_137 : decode cX12_tellsTokens 137 = .ok (.getfield 196, 3) := by decide +kernel
theorem dX12_tellsTokens_140 : decode cX12_tellsTokens 140 = .ok (.iload_n 2, 1) := by decide +kernel
theorem dX12_tellsTokens_141 : decode cX12_tellsTokens 141 = .ok (.iaload, 1) := by decide +kernel
theorem dX12_tellsTokens_142 : decode cX12_tellsTokens 142 = .ok (.iload_n 3, 1) := by decide +kernel
theorem dX12_tellsTokens_143 : decode cX12_tellsTokens 143 = .ok (.iadd, 1) := by decide +kernel
theorem dX12_tellsTokens_144 : decode cX12_tellsTokens 144 = .ok (.baload, 1) := by decide +kernel
theorem dX12_tellsTokens_145 : decode cX12_tellsTokens 145 = .ok (.bastore, 1) := by decide +kernel
theorem dX12_tellsTokens_146 : decode cX12_tellsTokens 146 = .ok (.iinc 3 1, 3) := by decide +kernel
theorem dX12_tellsTokens_149 : decode cX12_tellsTokens 149 = .ok (.goto (-39), 3) := by decide +kernel
theorem dX12_tellsTokens_152 : decode cX12_tellsTokens 152 = .ok (.iinc 2 1, 3) := by decide +kernel
theorem dX12_tellsTokens_155 : decode cX12_tellsTokens 155 = .ok (.goto (-148), 3) := by decide +kernel
theorem dX12_tellsTokens_158 : decode cX12_tellsTokens 158 = .ok (.return_, 1) := by decide +kernel
theorem dX12_run_0 : decode cX12_run 0 = .ok (.aload_n 0, 1) := by decide +kernel
theorem dX12_run_1 : decode cX12_run 1 = .ok (.iconst 0, 1) := by decide +kernel
theorem dX12_run_2 : decode cX12_run 2 = .ok (.putfield 1, 3) := by decide +kernel
theorem dX12_run_5 : decode cX12_run 5 = .ok (.aload_n 0, 1) := by decide +kernel
theorem dX12_run_6 : decode cX12_run 6 = .ok (.iload_n 1, 1) := by decide +kernel
theorem dX12_run_7 : decode cX12_run 7 = .ok (.invokevirtual 281, 3) := by decide +kernel
theorem dX12_run_10 : decode cX12_run 10 = .ok (.ifCond .ne 5, 3) := by decide +kernel
theorem dX12_run_13 : decode cX12_run 13 = .ok (.iconst (-1), 1) := by decide +kernel
theorem dX12_run_14 : decode cX12_run 14 = .ok (.ireturn, 1) := by decide +kernel
theorem dX12_run_15 : decode cX12_run 15 = .ok (.aload_n 0, 1) := by decide +kernel
theorem dX12_run_16 : decode cX12_run 16 = .ok (.iload_n 1, 1) := by decide +kernel
theorem dX12_run_17 : decode cX12_run 17 = .ok (.aload_n 0, 1) := by decide +kernel
theorem dX12_run_18 : decode cX12_run 18 = .ok (.getfield 17, 3) := by decide +kernel
theorem dX12_run_21 : decode cX12_run 21 = .ok (.sipush 172, 3) := by decide +kernel
theorem dX12_run_24 : decode cX12_run 24 = .ok (.iaload, 1) := by decide +kernel
theorem dX12_run_25 : decode cX12_run 25 = .ok (.invokevirtual 703, 3) := by decide +kernel
theorem dX12_run_28 : decode cX12_run 28 = .ok (.istore_n 2, 1) := by decide +kernel
theorem dX12_run_29 : decode cX12_run 29 = .ok (.aload_n 0, 1) := by decide +kernel
theorem dX12_run_30 : decode cX12_run 30 = .ok (.invokevirtual 706, 3) := by decide +kernel
theorem dX12_run_33 : decode cX12_run 33 = .ok (.aload_n 0, 1) := by decide +kernel
theorem dX12_run_34 : decode cX12_run 34 = .ok (.aload_n 0, 1) := by decide +kernel
theorem dX12_run_35 : decode cX12_run 35 = .ok (.getfield 636, 3) := by decide +kernel
theorem dX12_run_38 : decode cX12_run 38 = .ok (.invokevirtual 709, 3) := by decide +kernel
theorem dX12_run_41 : decode cX12_run 41 = .ok (.iconst 0, 1) := by decide +kernel
theorem dX12_run_42 : decode cX12_run 42 = .ok (.istore_n 3, 1) := by decide +kernel
theorem dX12_run_43 : decode cX12_run 43 = .ok (.iload_n 3, 1) := by decide +kernel
theorem dX12_run_44 : decode cX12_run 44 = .ok (.sipush 1219, 3) := by decide +kernel
theorem dX12_run_47 : decode cX12_run 47 = .ok (.if_icmp .ge 21, 3) := by decide +kernel
theorem dX12_run_50 : decode cX12_run 50 = .ok (.aload_n 0, 1) := by decide +kernel
theorem dX12_run_51 : decode cX12_run 51 = .ok (.getfield 71, 3) := by decide +kernel
theorem dX12_run_54 : decode cX12_run 54 = .ok (.iload_n 3, 1) := by decide +kernel
theorem dX12_run_55 : decode cX12_run 55 = .ok (.aload_n 0, 1) := by decide +kernel
theorem dX12_run_56 : decode cX12_run 56 = .ok (.getfield 68, 3) := by decide +kernel
theorem dX12_run_59 : decode cX12_run 59 = .ok (.iload_n 3, 1) := by decide +kernel
theorem dX12_run_60 : decode cX12_run 60 = .ok (.iaload, 1) := by decide +kernel
theorem dX12_run_61 : decode cX12_run 61 = .ok (.iastore, 1) := by decide +kernel
theorem dX12_run_62 : decode cX12_run 62 = .ok (.iinc 3 1, 3) := by decide +kernel
theorem dX12_run_65 : decode cX12_run 65 = .ok (.goto (-22), 3) := by decide +kernel
theorem dX12_run_68 : decode cX12_run 68 = .ok (.iconst 0, 1) := by decide +kernel
theorem dX12_run_69 : decode cX12_run 69 = .ok (.istore_n 3, 1) := by decide +kernel
theorem dX12_run_70 : decode cX12_run 70 = .ok (.iload_n 3, 1) := by decide +kernel
theorem dX12_run_71 : decode cX12_run 71 = .ok (.sipush 7560, 3) := by decide +kernel
theorem dX12_run_74 : decode cX12_run 74 = .ok (.if_icmp .ge 21, 3) := by decide +kernel
theorem dX12_run_77 : decode cX12_run 77 = .ok (.aload_n 0, 1) := by decide +kernel
theorem dX12_run_78 : decode cX12_run 78 = .ok (.getfield 77, 3) := by decide +kernel
theorem dX12_run_81 : decode cX12_run 81 = .ok (.iload_n 3, 1) := by decide +kernel
theorem dX12_run_82 : decode cX12_run 82 = .ok (.aload_n 0, 1) := by decide +kernel
theorem dX12_run_83 : decode cX12_run 83 = .ok (.getfield 74, 3) := by decide +kernel
theorem dX12_run_86 : decode cX12_run 86 = .ok (.iload_n 3, 1) := by decide +kernel
theorem dX12_run_87 : decode cX12_run 87 = .ok (.baload, 1) := by decide +kernel
theorem dX12_run_88 : decode cX12_run 88 = .ok (.bastore, 1) := by decide +kernel
theorem dX12_run_89 : decode cX12_run 89 = .ok (.iinc 3 1, 3) := by decide +kernel
theorem dX12_run_92 : decode cX12_run 92 = .ok (.goto (-22), 3) := by decide +kernel
theorem dX12_run_95 : decode cX12_run 95 = .ok (.iload_n 2, 1) := by decide +kernel
theorem dX12_run_96 : decode cX12_run 96 = .ok (.ifCond .eq 10, 3) := by decide +kernel
theorem dX12_run_99 : decode cX12_run 99 = .ok (.aload_n 0, 1) := by decide +kernel
theorem dX12_run_100 : decode cX12_run 100 = .ok (.getfield 636, 3) := by decide +kernel
theorem dX12_run_103 : decode cX12_run 103 = .ok (.goto 5, 3) := by decide +kernel
theorem dX12_run_106 : decode cX12_run 106 = .ok (.bipush (-2), 2) := by decide +kernel
theorem dX12_run_108 : decode cX12_run 108 = .ok (.ireturn, 1) := by decide +kernel
theorem dX12_fault_0 : decode cX12_fault 0 = .ok (.aload_n 0, 1) := by decide +kernel
theorem dX12_fault_1 : decode cX12_fault 1 = .ok (.iconst 0, 1) := by decide +kernel
theorem dX12_fault_2 : decode cX12_fault 2 = .ok (.putfield 1, 3) := by decide +kernel
theorem dX12_fault_5 : decode cX12_fault 5 = .ok (.iload_n 1, 1) := by decide +kernel
theorem dX12_fault_6 : decode cX12_fault 6 = .ok (.ifCond .ne 10, 3) := by decide +kernel
theorem dX12_fault_9 : decode cX12_fault 9 = .ok (.aload_n 0, 1) := by decide +kernel
theorem dX12_fault_10 : decode cX12_fault 10 = .ok (.getfield 221, 3) := by decide +kernel
theorem dX12_fault_13 : decode cX12_fault 13 = .ok (.iconst 0, 1) := by decide +kernel
theorem dX12_fault_14 : decode cX12_fault 14 = .ok (.iaload, 1) := by decide +kernel
theorem dX12_fault_15 : decode cX12_fault 15 = .ok (.ireturn, 1) := by decide +kernel
theorem dX12_fault_16 : decode cX12_fault 16 = .ok (.iload_n 1, 1) := by decide +kernel
theorem dX12_fault_17 : decode cX12_fault 17 = .ok (.iconst 1, 1) := by decide +kernel
theorem dX12_fault_18 : decode cX12_fault 18 = .ok (.iconst 3, 1) := by decide +kernel
theorem dX12_fault_19 : decode cX12_fault 19 = .ok (.invokestatic 277, 3) := by decide +kernel
theorem dX12_fault_22 : decode cX12_fault 22 = .ok (.ifCond .eq 12, 3) := by decide +kernel
theorem dX12_fault_25 : decode cX12_fault 25 = .ok (.aload_n 0, 1) := by decide +kernel
theorem dX12_fault_26 : decode cX12_fault 26 = .ok (.getfield 221, 3) := by decide +kernel
theorem dX12_fault_29 : decode cX12_fault 29 = .ok (.iconst 0, 1) := by decide +kernel
theorem dX12_fault_30 : decode cX12_fault 30 = .ok (.iaload, 1) := by decide +kernel
theorem dX12_fault_31 : decode cX12_fault 31 = .ok (.ifCond .ne 7, 3) := by decide +kernel
theorem dX12_fault_34 : decode cX12_fault 34 = .ok (.iconst (-1), 1) := by decide +kernel
theorem dX12_fault_35 : decode cX12_fault 35 = .ok (.goto 9, 3) := by decide +kernel
theorem dX12_fault_38 : decode cX12_fault 38 = .ok (.aload_n 0, 1) := by decide +kernel
theorem dX12_fault_39 : decode cX12_fault 39 = .ok (.getfield 221, 3) := by decide +kernel
theorem dX12_fault_42 : decode cX12_fault 42 = .ok (.iload_n 1, 1) := by decide +kernel
theorem dX12_fault_43 : decode cX12_fault 43 = .ok (.iaload, 1) := by decide +kernel
theorem dX12_fault_44 : decode cX12_fault 44 = .ok (.ireturn, 1) := by decide +kernel
theorem dX12_asTold_0 : decode cX12_asTold 0 = .ok (.aload_n 0, 1) := by decide +kernel
theorem dX12_asTold_1 : decode cX12_asTold 1 = .ok (.invokevirtual 691, 3) := by decide +kernel
theorem dX12_asTold_4 : decode cX12_asTold 4 = .ok (.iconst 0, 1) := by decide +kernel
theorem dX12_asTold_5 : decode cX12_asTold 5 = .ok (.istore_n 1, 1) := by decide +kernel
theorem dX12_asTold_6 : decode cX12_asTold 6 = .ok (.iload_n 1, 1) := by decide +kernel
theorem dX12_asTold_7 : decode cX12_asTold 7 = .ok (.sipush 1219, 3) := by decide +kernel
theorem dX12_asTold_10 : decode cX12_asTold 10 = .ok (.if_icmp .ge 21, 3) := by decide +kernel
theorem dX12_asTold_13 : decode cX12_asTold 13 = .ok (.aload_n 0, 1) := by decide +kernel
theorem dX12_asTold_14 : decode cX12_asTold 14 = .ok (.getfield 68, 3) := by decide +kernel
theorem dX12_asTold_17 : decode cX12_asTold 17 = .ok (.iload_n 1, 1) := by decide +kernel
theorem dX12_asTold_18 : decode cX12_asTold 18 = .ok (.aload_n 0, 1) := by decide +kernel
theorem dX12_asTold_19 : decode cX12_asTold 19 = .ok (.getfield 71, 3) := by decide +kernel
theorem dX12_asTold_22 : decode cX12_asTold 22 = .ok (.iload_n 1, 1) := by decide +kernel
theorem dX12_asTold_23 : decode cX12_asTold 23 = .ok (.iaload, 1) := by decide +kernel
theorem dX12_asTold_24 : decode cX12_asTold 24 = .ok (.iastore, 1) := by decide +kernel
theorem dX12_asTold_25 : decode cX12_asTold 25 = .ok (.iinc 1 1, 3) := by decide +kernel
theorem dX12_asTold_28 : decode cX12_asTold 28 = .ok (.goto (-22), 3) := by decide +kernel
theorem dX12_asTold_31 : decode cX12_asTold 31 = .ok (.iconst 0, 1) := by decide +kernel
theorem dX12_asTold_32 : decode cX12_asTold 32 = .ok (.istore_n 1, 1) := by decide +kernel
theorem dX12_asTold_33 : decode cX12_asTold 33 = .ok (.iload_n 1, 1) := by decide +kernel
theorem dX12_asTold_34 : decode cX12_asTold 34 = .ok (.sipush 7560, 3) := by decide +kernel
theorem dX12_asTold_37 : decode cX12_asTold 37 = .ok (.if_icmp .ge 21, 3) := by decide +kernel
theorem dX12_asTold_40 : decode cX12_asTold 40 = .ok (.aload_n 0, 1) := by decide +kernel
theorem dX12_asTold_41 : decode cX12_asTold 41 = .ok (.getfield 74, 3) := by decide +kernel
theorem dX12_asTold_44 : decode cX12_asTold 44 = .ok (.iload_n 1, 1) := by decide +kernel
theorem dX12_asTold_45 : decode cX12_asTold 45 = .ok (.aload_n 0, 1) := by decide +kernel
theorem dX12_asTold_46 : decode cX12_asTold 46 = .ok (.getfield 77, 3) := by decide +kernel
theorem dX12_asTold_49 : decode cX12_asTold 49 = .ok (.iload_n 1, 1) := by decide +kernel
theorem dX12_asTold_50 : decode cX12_asTold 50 = .ok (.baload, 1) := by decide +kernel
theorem dX12_asTold_51 : decode cX12_asTold 51 = .ok (.bastore, 1) := by decide +kernel
theorem dX12_asTold_52 : decode cX12_asTold 52 = .ok (.iinc 1 1, 3) := by decide +kernel
theorem dX12_asTold_55 : decode cX12_asTold 55 = .ok (.goto (-22), 3) := by decide +kernel
theorem dX12_asTold_58 : decode cX12_asTold 58 = .ok (.aload_n 0, 1) := by decide +kernel
theorem dX12_asTold_59 : decode cX12_asTold 59 = .ok (.iconst 0, 1) := by decide +kernel
theorem dX12_asTold_60 : decode cX12_asTold 60 = .ok (.iconst (-1), 1) := by decide +kernel
theorem dX12_asTold_61 : decode cX12_asTold 61 = .ok (.iconst (-1), 1) := by decide +kernel
theorem dX12_asTold_62 : decode cX12_asTold 62 = .ok (.iconst (-1), 1) := by decide +kernel
theorem dX12_asTold_63 : decode cX12_asTold 63 = .ok (.invokevirtual 373, 3) := by decide +kernel
theorem dX12_asTold_66 : decode cX12_asTold 66 = .ok (.pop, 1) := by decide +kernel
theorem dX12_asTold_67 : decode cX12_asTold 67 = .ok (.return_, 1) := by decide +kernel
theorem dX12_expand_0 : decode cX12_expand 0 = .ok (.aload_n 0, 1) := by decide +kernel
theorem dX12_expand_1 : decode cX12_expand 1 = .ok (.invokevirtual 293, 3) := by decide +kernel
theorem dX12_expand_4 : decode cX12_expand 4 = .ok (.aload_n 0, 1) := by decide +kernel
theorem dX12_expand_5 : decode cX12_expand 5 = .ok (.invokevirtual 712, 3) := by decide +kernel
theorem dX12_expand_8 : decode cX12_expand 8 = .ok (.aload_n 0, 1) := by decide +kernel
theorem dX12_expand_9 : decode cX12_expand 9 = .ok (.invokevirtual 715, 3) := by decide +kernel
theorem dX12_expand_12 : decode cX12_expand 12 = .ok (.ifCond .eq 14, 3) := by decide +kernel
theorem dX12_expand_15 : decode cX12_expand 15 = .ok (.aload_n 0, 1) := by decide +kernel
theorem dX12_expand_16 : decode cX12_expand 16 = .ok (.invokevirtual 673, 3) := by decide +kernel
theorem dX12_expand_19 : decode cX12_expand 19 = .ok (.ifCond .eq 7, 3) := by decide +kernel
theorem dX12_expand_22 : decode cX12_expand 22 = .ok (.iconst 1, 1) := by decide +kernel
theorem dX12_expand_23 : decode cX12_expand 23 = .ok (.goto 4, 3) := by decide +kernel
theorem dX12_expand_26 : decode cX12_expand 26 = .ok (.iconst 0, 1) := by decide +kernel
theorem dX12_expand_27 : decode cX12_expand 27 = .ok (.istore_n 1, 1) := by decide +kernel
theorem dX12_expand_28 : decode cX12_expand 28 = .ok (.aload_n 0, 1) := by decide +kernel
theorem dX12_expand_29 : decode cX12_expand 29 = .ok (.invokevirtual 706, 3) := by decide +kernel
theorem dX12_expand_32 : decode cX12_expand 32 = .ok (.iconst 0, 1) := by decide +kernel
theorem dX12_expand_33 : decode cX12_expand 33 = .ok (.istore_n 2, 1) := by decide +kernel
theorem dX12_expand_34 : decode cX12_expand 34 = .ok (.iload_n 2, 1) := by decide +kernel
theorem dX12_expand_35 : decode cX12_expand 35 = .ok (.aload_n 0, 1) := by decide +kernel
theorem dX12_expand_36 : decode cX12_expand 36 = .ok (.getfield 451, 3) := by decide +kernel
theorem dX12_expand_39 : decode cX12_expand 39 = .ok (.if_icmp .ge 23, 3) := by decide +kernel
theorem dX12_expand_42 : decode cX12_expand 42 = .ok (.iload_n 1, 1) := by decide +kernel
theorem dX12_expand_43 : decode cX12_expand 43 = .ok (.ifCond .eq 19, 3) := by decide +kernel
theorem dX12_expand_46 : decode cX12_expand 46 = .ok (.aload_n 0, 1) := by decide +kernel
theorem dX12_expand_47 : decode cX12_expand 47 = .ok (.aload_n 0, 1) := by decide +kernel
theorem dX12_expand_48 : decode cX12_expand 48 = .ok (.getfield 138, 3) := by decide +kernel
theorem dX12_expand_51 : decode cX12_expand 51 = .ok (.iload_n 2, 1) := by decide +kernel
theorem dX12_expand_52 : decode cX12_expand 52 = .ok (.iaload, 1) := by decide +kernel
theorem dX12_expand_53 : decode cX12_expand 53 = .ok (.invokevirtual 676, 3) := by decide +kernel
theorem dX12_expand_56 : decode cX12_expand 56 = .ok (.iinc 2 1, 3) := by decide +kernel
theorem dX12_expand_59 : decode cX12_expand 59 = .ok (.goto (-25), 3) := by decide +kernel
theorem dX12_expand_62 : decode cX12_expand 62 = .ok (.aload_n 0, 1) := by decide +kernel
theorem dX12_expand_63 : decode cX12_expand 63 = .ok (.iload_n 1, 1) := by decide +kernel
theorem dX12_expand_64 : decode cX12_expand 64 = .ok (.ifCond .eq 10, 3) := by decide +kernel
theorem dX12_expand_67 : decode cX12_expand 67 = .ok (.aload_n 0, 1) := by decide +kernel
theorem dX12_expand_68 : decode cX12_expand 68 = .ok (.getfield 636, 3) := by decide +kernel
theorem dX12_expand_71 : decode cX12_expand 71 = .ok (.goto 4, 3) := by decide +kernel
theorem dX12_expand_74 : decode cX12_expand 74 = .ok (.iconst 0, 1) := by decide +kernel
theorem dX12_expand_75 : decode cX12_expand 75 = .ok (.invokevirtual 709, 3) := by decide +kernel
theorem dX12_expand_78 : decode cX12_expand 78 = .ok (.iload_n 1, 1) := by decide +kernel
theorem dX12_expand_79 : decode cX12_expand 79 = .ok (.ifCond .eq 10, 3) := by decide +kernel
theorem dX12_expand_82 : decode cX12_expand 82 = .ok (.aload_n 0, 1) := by decide +kernel
theorem dX12_expand_83 : decode cX12_expand 83 = .ok (.getfield 636, 3) := by decide +kernel
theorem dX12_expand_86 : decode cX12_expand 86 = .ok (.goto 5, 3) := by decide +kernel
theorem dX12_expand_89 : decode cX12_expand 89 = .ok (.bipush (-2), 2) := by decide +kernel
theorem dX12_expand_91 : decode cX12_expand 91 = .ok (.ireturn, 1) := by decide +kernel
theorem dX12_value_0 : decode cX12_value 0 = .ok (.aload_n 0, 1) := by decide +kernel
theorem dX12_value_1 : decode cX12_value 1 = .ok (.invokevirtual 293, 3) := by decide +kernel
theorem dX12_value_4 : decode cX12_value 4 = .ok (.aload_n 0, 1) := by decide +kernel
theorem dX12_value_5 : decode cX12_value 5 = .ok (.invokevirtual 712, 3) := by decide +kernel
theorem dX12_value_8 : decode cX12_value 8 = .ok (.aload_n 0, 1) := by decide +kernel
theorem dX12_value_9 : decode cX12_value 9 = .ok (.invokevirtual 715, 3) := by decide +kernel
theorem dX12_value_12 : decode cX12_value 12 = .ok (.ifCond .eq 15, 3) := by decide +kernel
theorem dX12_value_15 : decode cX12_value 15 = .ok (.aload_n 0, 1) := by decide +kernel
theorem dX12_value_16 : decode cX12_value 16 = .ok (.iconst 0, 1) := by decide +kernel
theorem dX12_value_17 : decode cX12_value 17 = .ok (.invokevirtual 651, 3) := by decide +kernel
theorem dX12_value_20 : decode cX12_value 20 = .ok (.ifCond .eq 7, 3) := by decide +kernel
theorem dX12_value_23 : decode cX12_value 23 = .ok (.iconst 1, 1) := by decide +kernel
theorem dX12_value_24 : decode cX12_value 24 = .ok (.goto 4, 3) := by decide +kernel
theorem dX12_value_27 : decode cX12_value 27 = .ok (.iconst 0, 1) := by decide +kernel
theorem dX12_value_28 : decode cX12_value 28 = .ok (.istore_n 1, 1) := by decide +kernel
theorem dX12_value_29 : decode cX12_value 29 = .ok (.aload_n 0, 1) := by decide +kernel
theorem dX12_value_30 : decode cX12_value 30 = .ok (.invokevirtual 706, 3) := by decide +kernel
theorem dX12_value_33 : decode cX12_value 33 = .ok (.aload_n 0, 1) := by decide +kernel
theorem dX12_value_34 : decode cX12_value 34 = .ok (.iload_n 1, 1) := by decide +kernel
theorem dX12_value_35 : decode cX12_value 35 = .ok (.ifCond .ne 7, 3) := by decide +kernel
theorem dX12_value_38 : decode cX12_value 38 = .ok (.iconst 1, 1) := by decide +kernel
theorem dX12_value_39 : decode cX12_value 39 = .ok (.goto 4, 3) := by decide +kernel
theorem dX12_value_42 : decode cX12_value 42 = .ok (.iconst 0, 1) := by decide +kernel
theorem dX12_value_43 : decode cX12_value 43 = .ok (.invokevirtual 718, 3) := by decide +kernel
theorem dX12_value_46 : decode cX12_value 46 = .ok (.ifCond .eq 5, 3) := by decide +kernel
theorem dX12_value_49 : decode cX12_value 49 = .ok (.lconst 0, 1) := by decide +kernel
theorem dX12_value_50 : decode cX12_value 50 = .ok (.lreturn, 1) := by decide +kernel
theorem dX12_value_51 : decode cX12_value 51 = .ok (.aload_n 0, 1) := by decide +kernel
theorem dX12_value_52 : decode cX12_value 52 = .ok (.getfield 627, 3) := by decide +kernel
theorem dX12_value_55 : decode cX12_value 55 = .ok (.lreturn, 1) := by decide +kernel
theorem dX12_token_0 : decode cX12_token 0 = .ok (.aload_n 0, 1) := by decide +kernel
theorem dX12_token_1 : decode cX12_token 1 = .ok (.iload_n 1, 1) := by decide +kernel
theorem dX12_token_2 : decode cX12_token 2 = .ok (.iconst 0, 1) := by decide +kernel
theorem dX12_token_3 : decode cX12_token 3 = .ok (.aload_n 0, 1) := by decide +kernel
theorem dX12_token_4 : decode cX12_token 4 = .ok (.getfield 700, 3) := by decide +kernel
theorem dX12_token_7 : decode cX12_token 7 = .ok (.iconst 1, 1) := by decide +kernel
theorem dX12_token_8 : decode cX12_token 8 = .ok (.isub, 1) := by decide +kernel
theorem dX12_token_9 : decode cX12_token 9 = .ok (.invokestatic 277, 3) := by decide +kernel
theorem dX12_token_12 : decode cX12_token 12 = .ok (.ifCond .eq 13, 3) := by decide +kernel
theorem dX12_token_15 : decode cX12_token 15 = .ok (.iload_n 2, 1) := by decide +kernel
theorem dX12_token_16 : decode cX12_token 16 = .ok (.iconst 0, 1) := by decide +kernel
theorem dX12_token_17 : decode cX12_token 17 = .ok (.bipush 6, 2) := by decide +kernel
theorem dX12_token_19 : decode cX12_token 19 = .ok (.invokestatic 277, 3) := by decide +kernel
theorem dX12_token_22 : decode cX12_token 22 = .ok (.ifCond .ne 7, 3) := by decide +kernel
theorem dX12_token_25 : decode cX12_token 25 = .ok (.iconst 1, 1) := by decide +kernel
theorem dX12_token_26 : decode cX12_token 26 = .ok (.goto 4, 3) := by decide +kernel
theorem dX12_token_29 : decode cX12_token 29 = .ok (.iconst 0, 1) := by decide +kernel
theorem dX12_token_30 : decode cX12_token 30 = .ok (.invokevirtual 718, 3) := by decide +kernel
theorem dX12_token_33 : decode cX12_token 33 = .ok (.ifCond .eq 5, 3) := by decide +kernel
theorem dX12_token_36 : decode cX12_token 36 = .ok (.iconst 0, 1) := by decide +kernel
theorem dX12_token_37 : decode cX12_token 37 = .ok (.ireturn, 1) := by decide +kernel
theorem dX12_token_38 : decode cX12_token 38 = .ok (.iload_n 2, 1) := by decide +kernel
theorem dX12_token_39 : decode cX12_token 39 = .ok (.tableswitch 79 0 5 #[37, 44, 51, 58, 65, 72], 37) := by decide +kernel
theorem dX12_token_76 : decode cX12_token 76 = .ok (.aload_n 0, 1) := by decide +kernel
theorem dX12_token_77 : decode cX12_token 77 = .ok (.getfield 224, 3) := by decide +kernel
theorem dX12_token_80 : decode cX12_token 80 = .ok (.iload_n 1, 1) := by decide +kernel
theorem dX12_token_81 : decode cX12_token 81 = .ok (.iaload, 1) := by decide +kernel
theorem dX12_token_82 : decode cX12_token 82 = .ok (.ireturn, 1) := by decide +kernel
theorem dX12_token_83 : decode cX12_token 83 = .ok (.aload_n 0, 1) := by decide +kernel
theorem dX12_token_84 : decode cX12_token 84 = .ok (.getfield 230, 3) := by decide +kernel
theorem dX12_token_87 : decode cX12_token 87 = .ok (.iload_n 1, 1) := by decide +kernel
theorem dX12_token_88 : decode cX12_token 88 = .ok (.iaload, 1) := by decide +kernel
theorem dX12_token_89 : decode cX12_token 89 = .ok (.ireturn, 1) := by decide +kernel
theorem dX12_token_90 : decode cX12_token 90 = .ok (.aload_n 0, 1) := by decide +kernel
theorem dX12_token_91 : decode cX12_token 91 = .ok (.getfield 233, 3) := by decide +kernel
theorem dX12_token_94 : decode cX12_token 94 = .ok (.iload_n 1, 1) := by decide +kernel
theorem dX12_token_95 : decode cX12_token 95 = .ok (.iaload, 1) := by decide +kernel
theorem dX12_token_96 : decode cX12_token 96 = .ok (.ireturn, 1) := by decide +kernel
theorem dX12_token_97 : decode cX12_token 97 = .ok (.aload_n 0, 1) := by decide +kernel
theorem dX12_token_98 : decode cX12_token 98 = .ok (.getfield 236, 3) := by decide +kernel
theorem dX12_token_101 : decode cX12_token 101 = .ok (.iload_n 1, 1) := by decide +kernel
theorem dX12_token_102 : decode cX12_token 102 = .ok (.iaload, 1) := by decide +kernel
theorem dX12_token_103 : decode cX12_token 103 = .ok (.ireturn, 1) := by decide +kernel
theorem dX12_token_104 : decode cX12_token 104 = .ok (.aload_n 0, 1) := by decide +kernel
theorem dX12_token_105 : decode cX12_token 105 = .ok (.getfield 239, 3) := by decide +kernel
theorem dX12_token_108 : decode cX12_token 108 = .ok (.iload_n 1, 1) := by decide +kernel
theorem dX12_token_109 : decode cX12_token 109 = .ok (.iaload, 1) := by decide +kernel
theorem dX12_token_110 : decode cX12_token 110 = .ok (.ireturn, 1) := by decide +kernel
theorem dX12_token_111 : decode cX12_token 111 = .ok (.aload_n 0, 1) := by decide +kernel
theorem dX12_token_112 : decode cX12_token 112 = .ok (.getfield 242, 3) := by decide +kernel
theorem dX12_token_115 : decode cX12_token 115 = .ok (.iload_n 1, 1) := by decide +kernel
theorem dX12_token_116 : decode cX12_token 116 = .ok (.iaload, 1) := by decide +kernel
theorem dX12_token_117 : decode cX12_token 117 = .ok (.ireturn, 1) := by decide +kernel
theorem dX12_token_118 : decode cX12_token 118 = .ok (.aload_n 0, 1) := by decide +kernel
theorem dX12_token_119 : decode cX12_token 119 = .ok (.getfield 245, 3) := by decide +kernel
theorem dX12_token_122 : decode cX12_token 122 = .ok (.iload_n 1, 1) := by decide +kernel
theorem dX12_token_123 : decode cX12_token 123 = .ok (.iaload, 1) := by decide +kernel
theorem dX12_token_124 : decode cX12_token 124 = .ok (.ireturn, 1) := by decide +kernel
theorem dX12_tokenAt_0 : decode cX12_tokenAt 0 = .ok (.aload_n 0, 1) := by decide +kernel
theorem dX12_tokenAt_1 : decode cX12_tokenAt 1 = .ok (.iconst 0, 1) := by decide +kernel
theorem dX12_tokenAt_2 : decode cX12_tokenAt 2 = .ok (.putfield 1, 3) := by decide +kernel
theorem dX12_tokenAt_5 : decode cX12_tokenAt 5 = .ok (.iload_n 1, 1) := by decide +kernel
theorem dX12_tokenAt_6 : decode cX12_tokenAt 6 = .ok (.iconst 0, 1) := by decide +kernel
theorem dX12_tokenAt_7 : decode cX12_tokenAt 7 = .ok (.aload_n 0, 1) := by decide +kernel
theorem dX12_tokenAt_8 : decode cX12_tokenAt 8 = .ok (.getfield 700, 3) := by decide +kernel
theorem dX12_tokenAt_11 : decode cX12_tokenAt 11 = .ok (.iconst 1, 1) := by decide +kernel
theorem dX12_tokenAt_12 : decode cX12_tokenAt 12 = .ok (.isub, 1) := by decide +kernel
theorem dX12_tokenAt_13 : decode cX12_tokenAt 13 = .ok (.invokestatic 277, 3) := by decide +kernel
theorem dX12_tokenAt_16 : decode cX12_tokenAt 16 = .ok (.ifCond .eq 35, 3) := by decide +kernel
theorem dX12_tokenAt_19 : decode cX12_tokenAt 19 = .ok (.iload_n 2, 1) := by decide +kernel
theorem dX12_tokenAt_20 : decode cX12_tokenAt 20 = .ok (.iconst 0, 1) := by decide +kernel
theorem dX12_tokenAt_21 : decode cX12_tokenAt 21 = .ok (.aload_n 0, 1) := by decide +kernel
theorem dX12_tokenAt_22 : decode cX12_tokenAt 22 = .ok (.getfield 230, 3) := by decide +kernel
theorem dX12_tokenAt_25 : decode cX12_tokenAt 25 = .ok (.iload_n 1, 1) := by decide +kernel
theorem dX12_tokenAt_26 : decode cX12_tokenAt 26 = .ok (.iaload, 1) := by decide +kernel
theorem dX12_tokenAt_27 : decode cX12_tokenAt 27 = .ok (.iconst 1, 1) := by decide +kernel
theorem dX12_tokenAt_28 : decode cX12_tokenAt 28 = .ok (.isub, 1) := by decide +kernel
theorem dX12_tokenAt_29 : decode cX12_tokenAt 29 = .ok (.invokestatic 277, 3) := by decide +kernel
theorem dX12_tokenAt_32 : decode cX12_tokenAt 32 = .ok (.ifCond .eq 19, 3) := by decide +kernel
theorem dX12_tokenAt_35 : decode cX12_tokenAt 35 = .ok (.aload_n 0, 1) := by decide +kernel
theorem dX12_tokenAt_36 : decode cX12_tokenAt 36 = .ok (.getfield 248, 3) := by decide +kernel
theorem dX12_tokenAt_39 : decode cX12_tokenAt 39 = .ok (.aload_n 0, 1) := by decide +kernel
theorem dX12_tokenAt_40 : decode cX12_tokenAt 40 = .ok (.getfield 227, 3) := by decide +kernel
theorem dX12_tokenAt_43 : decode cX12_tokenAt 43 = .ok (.iload_n 1, 1) := by decide +kernel
theorem dX12_tokenAt_44 : decode cX12_tokenAt 44 = .ok (.iaload, 1) := by decide +kernel
theorem dX12_tokenAt_45 : decode cX12_tokenAt 45 = .ok (.iload_n 2, 1) := by decide +kernel
theorem dX12_tokenAt_46 : decode cX12_tokenAt 46 = .ok (.iadd, 1) := by decide +kernel
theorem dX12_tokenAt_47 : decode cX12_tokenAt 47 = .ok (.baload, 1) := by decide +kernel
theorem dX12_tokenAt_48 : decode cX12_tokenAt 48 = .ok (.goto 4, 3) := by decide +kernel
theorem dX12_tokenAt_51 : decode cX12_tokenAt 51 = .ok (.iconst (-1), 1) := by decide +kernel
theorem dX12_tokenAt_52 : decode cX12_tokenAt 52 = .ok (.ireturn, 1) := by decide +kernel
theorem dX12_macro_0 : decode cX12_macro 0 = .ok (.aload_n 0, 1) := by decide +kernel
theorem dX12_macro_1 : decode cX12_macro 1 = .ok (.iload_n 1, 1) := by decide +kernel
theorem dX12_macro_2 : decode cX12_macro 2 = .ok (.iconst 0, 1) := by decide +kernel
theorem dX12_macro_3 : decode cX12_macro 3 = .ok (.aload_n 0, 1) := by decide +kernel
theorem dX12_macro_4 : decode cX12_macro 4 = .ok (.getfield 71, 3) := by decide +kernel
theorem dX12_macro_7 : decode cX12_macro 7 = .ok (.iconst 0, 1) := by decide +kernel
theorem dX12_macro_8 : decode cX12_macro 8 = .ok (.iaload, 1) := by decide +kernel
theorem dX12_macro_9 : decode cX12_macro 9 = .ok (.iconst 1, 1) := by decide +kernel
theorem dX12_macro_10 : decode cX12_macro 10 = .ok (.isub, 1) := by decide +kernel
theorem dX12_macro_11 : decode cX12_macro 11 = .ok (.invokestatic 277, 3) := by decide +kernel
theorem dX12_macro_14 : decode cX12_macro 14 = .ok (.ifCond .eq 12, 3) := by decide +kernel
theorem dX12_macro_17 : decode cX12_macro 17 = .ok (.iload_n 2, 1) := by decide +kernel
theorem dX12_macro_18 : decode cX12_macro 18 = .ok (.iconst 0, 1) := by decide +kernel
theorem dX12_macro_19 : decode cX12_macro 19 = .ok (.iconst 5, 1) := by decide +kernel
theorem dX12_macro_20 : decode cX12_macro 20 = .ok (.invokestatic 277, 3) := by decide +kernel
theorem dX12_macro_23 : decode cX12_macro 23 = .ok (.ifCond .ne 7, 3) := by decide +kernel
theorem dX12_macro_26 : decode cX12_macro 26 = .ok (.iconst 1, 1) := by decide +kernel
theorem dX12_macro_27 : decode cX12_macro 27 = .ok (.goto 4, 3) := by decide +kernel
theorem dX12_macro_30 : decode cX12_macro 30 = .ok (.iconst 0, 1) := by decide +kernel
theorem dX12_macro_31 : decode cX12_macro 31 = .ok (.invokevirtual 718, 3) := by decide +kernel
theorem dX12_macro_34 : decode cX12_macro 34 = .ok (.ifCond .eq 5, 3) := by decide +kernel
theorem dX12_macro_37 : decode cX12_macro 37 = .ok (.iconst 0, 1) := by decide +kernel
theorem dX12_macro_38 : decode cX12_macro 38 = .ok (.ireturn, 1) := by decide +kernel
theorem dX12_macro_39 : decode cX12_macro 39 = .ok (.iload_n 2, 1) := by decide +kernel
theorem dX12_macro_40 : decode cX12_macro 40 = .ok (.ifCond .ne 14, 3) := by decide +kernel
theorem dX12_macro_43 : decode cX12_macro 43 = .ok (.aload_n 0, 1) := by decide +kernel
theorem dX12_macro_44 : decode cX12_macro 44 = .ok (.getfield 71, 3) := by decide +kernel
theorem dX12_macro_47 : decode cX12_macro 47 = .ok (.sipush 187, 3) := by decide +kernel
theorem dX12_macro_50 : decode cX12_macro 50 = .ok (.iload_n 1, 1) := by decide +kernel
theorem dX12_macro_51 : decode cX12_macro 51 = .ok (.iadd, 1) := by decide +kernel
theorem dX12_macro_52 : decode cX12_macro 52 = .ok (.iaload, 1) := by decide +kernel
theorem dX12_macro_53 : decode cX12_macro 53 = .ok (.ireturn, 1) := by decide +kernel
theorem dX12_macro_54 : decode cX12_macro 54 = .ok (.iload_n 2, 1) := by decide +kernel
theorem dX12_macro_55 : decode cX12_macro 55 = .ok (.iconst 5, 1) := by decide +kernel
theorem dX12_macro_56 : decode cX12_macro 56 = .ok (.if_icmp .ne 14, 3) := by decide +kernel
theorem dX12_macro_59 : decode cX12_macro 59 = .ok (.aload_n 0, 1) := by decide +kernel
theorem dX12_macro_60 : decode cX12_macro 60 = .ok (.getfield 71, 3) := by decide +kernel
theorem dX12_macro_63 : decode cX12_macro 63 = .ok (.sipush 247, 3) := by decide +kernel
theorem dX12_macro_66 : decode cX12_macro 66 = .ok (.iload_n 1, 1) := by decide +kernel
theorem dX12_macro_67 : decode cX12_macro 67 = .ok (.iadd, 1) := by decide +kernel
theorem dX12_macro_68 : decode cX12_macro 68 = .ok (.iaload, 1) := by decide +kernel
theorem dX12_macro_69 : decode cX12_macro 69 = .ok (.ireturn, 1) := by decide +kernel
theorem dX12_macro_70 : decode cX12_macro 70 = .ok (.aload_n 0, 1) := by decide +kernel
theorem dX12_macro_71 : decode cX12_macro 71 = .ok (.getfield 71, 3) := by decide +kernel
theorem dX12_macro_74 : decode cX12_macro 74 = .ok (.sipush 187, 3) := by decide +kernel
theorem dX12_macro_77 : decode cX12_macro 77 = .ok (.iload_n 1, 1) := by decide +kernel
theorem dX12_macro_78 : decode cX12_macro 78 = .ok (.iadd, 1) := by decide +kernel
theorem dX12_macro_79 : decode cX12_macro 79 = .ok (.iaload, 1) := by decide +kernel
theorem dX12_macro_80 : decode cX12_macro 80 = .ok (.ifCond .ne 5, 3) := by decide +kernel
theorem dX12_macro_83 : decode cX12_macro 83 = .ok (.iconst (-1), 1) := by decide +kernel
theorem dX12_macro_84 : decode cX12_macro 84 = .ok (.ireturn, 1) := by decide +kernel
theorem dX12_macro_85 : decode cX12_macro 85 = .ok (.iload_n 2, 1) := by decide +kernel
theorem dX12_macro_86 : decode cX12_macro 86 = .ok (.iconst 1, 1) := by decide +kernel
theorem dX12_macro_87 : decode cX12_macro 87 = .ok (.if_icmp .ne 16, 3) := by decide +kernel
theorem dX12_macro_90 : decode cX12_macro 90 = .ok (.aload_n 0, 1) := by decide +kernel
theorem dX12_macro_91 : decode cX12_macro 91 = .ok (.getfield 71, 3) := by decide +kernel
theorem dX12_macro_94 : decode cX12_macro 94 = .ok (.sipush 199, 3) := by decide +kernel
theorem dX12_macro_97 : decode cX12_macro 97 = .ok (.iload_n 1, 1) := by decide +kernel
theorem dX12_macro_98 : decode cX12_macro 98 = .ok (.iadd, 1) := by decide +kernel
theorem dX12_macro_99 : decode cX12_macro 99 = .ok (.iaload, 1) := by decide +kernel
theorem dX12_macro_100 : decode cX12_macro 100 = .ok (.goto 49, 3) := by decide +kernel
theorem dX12_macro_103 : decode cX12_macro 103 = .ok (.iload_n 2, 1) := by decide +kernel
theorem dX12_macro_104 : decode cX12_macro 104 = .ok (.iconst 2, 1) := by decide +kernel
theorem dX12_macro_105 : decode cX12_macro 105 = .ok (.if_icmp .ne 16, 3) := by decide +kernel
theorem dX12_macro_108 : decode cX12_macro 108 = .ok (.aload_n 0, 1) := by decide +kernel
theorem dX12_macro_109 : decode cX12_macro 109 = .ok (.getfield 71, 3) := by decide +kernel
theorem dX12_macro_112 : decode cX12_macro 112 = .ok (.sipush 211, 3) := by decide +kernel
theorem dX12_macro_115 : decode cX12_macro 115 = .ok (.iload_n 1, 1) := by decide +kernel
theorem dX12_macro_116 : decode cX12_macro 116 = .ok (.iadd, 1) := by decide +kernel
theorem dX12_macro_117 : decode cX12_macro 117 = .ok (.iaload, 1) := by decide +kernel
theorem dX12_macro_118 : decode cX12_macro 118 = .ok (.goto 31, 3) := by decide +kernel
theorem dX12_macro_121 : decode cX12_macro 121 = .ok (.iload_n 2, 1) := by decide +kernel
theorem dX12_macro_122 : decode cX12_macro 122 = .ok (.iconst 3, 1) := by decide +kernel
theorem dX12_macro_123 : decode cX12_macro 123 = .ok (.if_icmp .ne 16, 3) := by decide +kernel
theorem dX12_macro_126 : decode cX12_macro 126 = .ok (.aload_n 0, 1) := by decide +kernel
theorem dX12_macro_127 : decode cX12_macro 127 = .ok (.getfield 71, 3) := by decide +kernel
theorem dX12_macro_130 : decode cX12_macro 130 = .ok (.sipush 223, 3) := by decide +kernel
theorem dX12_macro_133 : decode cX12_macro 133 = .ok (.iload_n 1, 1) := by decide +kernel
theorem dX12_macro_134 : decode cX12_macro 134 = .ok (.iadd, 1) := by decide +kernel
theorem dX12_macro_135 : decode cX12_macro 135 = .ok (.iaload, 1) := by decide +kernel
theorem dX12_macro_136 : decode cX12_macro 136 = .ok (.goto 13, 3) := by decide +kernel
theorem dX12_macro_139 : decode cX12_macro 139 = .ok (.aload_n 0, 1) := by decide +kernel
theorem dX12_macro_140 : decode cX12_macro 140 = .ok (.getfield 71, 3) := by decide +kernel
theorem dX12_macro_143 : decode cX12_macro 143 = .ok (.sipush 235, 3) := by decide +kernel
theorem dX12_macro_146 : decode cX12_macro 146 = .ok (.iload_n 1, 1) := by decide +kernel
theorem dX12_macro_147 : decode cX12_macro 147 = .ok (.iadd, 1) := by decide +kernel
theorem dX12_macro_148 : decode cX12_macro 148 = .ok (.iaload, 1) := by decide +kernel
theorem dX12_macro_149 : decode cX12_macro 149 = .ok (.ireturn, 1) := by decide +kernel
theorem dX12_macroAt_0 : decode cX12_macroAt 0 = .ok (.aload_n 0, 1) := by decide +kernel
theorem dX12_macroAt_1 : decode cX12_macroAt 1 = .ok (.iconst 0, 1) := by decide +kernel
theorem dX12_macroAt_2 : decode cX12_macroAt 2 = .ok (.putfield 1, 3) := by decide +kernel
theorem dX12_macroAt_5 : decode cX12_macroAt 5 = .ok (.iload_n 1, 1) := by decide +kernel
theorem dX12_macroAt_6 : decode cX12_macroAt 6 = .ok (.iconst 0, 1) := by decide +kernel
theorem dX12_macroAt_7 : decode cX12_macroAt 7 = .ok (.aload_n 0, 1) := by decide +kernel
theorem dX12_macroAt_8 : decode cX12_macroAt 8 = .ok (.getfield 71, 3) := by decide +kernel
theorem dX12_macroAt_11 : decode cX12_macroAt 11 = .ok (.iconst 0, 1) := by decide +kernel
theorem dX12_macroAt_12 : decode cX12_macroAt 12 = .ok (.iaload, 1) := by decide +kernel
theorem dX12_macroAt_13 : decode cX12_macroAt 13 = .ok (.iconst 1, 1) := by decide +kernel
theorem dX12_macroAt_14 : decode cX12_macroAt 14 = .ok (.isub, 1) := by decide +kernel
theorem dX12_macroAt_15 : decode cX12_macroAt 15 = .ok (.invokestatic 277, 3) := by decide +kernel
theorem dX12_macroAt_18 : decode cX12_macroAt 18 = .ok (.ifCond .eq 37, 3) := by decide +kernel
theorem dX12_macroAt_21 : decode cX12_macroAt 21 = .ok (.iload_n 2, 1) := by decide +kernel
theorem dX12_macroAt_22 : decode cX12_macroAt 22 = .ok (.iconst 0, 1) := by decide +kernel
theorem dX12_macroAt_23 : decode cX12_macroAt 23 = .ok (.aload_n 0, 1) := by decide +kernel
theorem dX12_macroAt_24 : decode cX12_macroAt 24 = .ok (.getfield 71, 3) := by decide +kernel
theorem dX12_macroAt_27 : decode cX12_macroAt 27 = .ok (.sipush 175, 3) := by decide +kernel
theorem dX12_macroAt_30 : decode cX12_macroAt 30 = .ok (.iload_n 1, 1) := by decide +kernel
theorem dX12_macroAt_31 : decode cX12_macroAt 31 = .ok (.iadd, 1) := by decide +kernel
theorem dX12_macroAt_32 : decode cX12_macroAt 32 = .ok (.iaload, 1) := by decide +kernel
theorem dX12_macroAt_33 : decode cX12_macroAt 33 = .ok (.iconst 1, 1) := by decide +kernel
theorem dX12_macroAt_34 : decode cX12_macroAt 34 = .ok (.isub, 1) := by decide +kernel
theorem dX12_macroAt_35 : decode cX12_macroAt 35 = .ok (.invokestatic 277, 3) := by decide +kernel
theorem dX12_macroAt_38 : decode cX12_macroAt 38 = .ok (.ifCond .eq 17, 3) := by decide +kernel
theorem dX12_macroAt_41 : decode cX12_macroAt 41 = .ok (.aload_n 0, 1) := by decide +kernel
theorem dX12_macroAt_42 : decode cX12_macroAt 42 = .ok (.getfield 77, 3) := by decide +kernel
theorem dX12_macroAt_45 : decode cX12_macroAt 45 = .ok (.bipush 30, 2) := by decide +kernel
theorem dX12_macroAt_47 : decode cX12_macroAt 47 = .ok (.iload_n 1, 1) := by decide +kernel
theorem dX12_macroAt_48 : decode cX12_macroAt 48 = .ok (.imul, 1) := by decide +kernel
theorem dX12_macroAt_49 : decode cX12_macroAt 49 = .ok (.iload_n 2, 1) := by decide +kernel
theorem dX12_macroAt_50 : decode cX12_macroAt 50 = .ok (.iadd, 1) := by decide +kernel
theorem dX12_macroAt_51 : decode cX12_macroAt 51 = .ok (.baload, 1) := by decide +kernel
theorem dX12_macroAt_52 : decode cX12_macroAt 52 = .ok (.goto 4, 3) := by decide +kernel
theorem dX12_macroAt_55 : decode cX12_macroAt 55 = .ok (.iconst (-1), 1) := by decide +kernel
theorem dX12_macroAt_56 : decode cX12_macroAt 56 = .ok (.ireturn, 1) := by decide +kernel
theorem dX12_now_0 : decode cX12_now 0 = .ok (.aload_n 0, 1) := by decide +kernel
theorem dX12_now_1 : decode cX12_now 1 = .ok (.iconst 0, 1) := by decide +kernel
theorem dX12_now_2 : decode cX12_now 2 = .ok (.putfield 1, 3) := by decide +kernel
theorem dX12_now_5 : decode cX12_now 5 = .ok (.iload_n 1, 1) := by decide +kernel
theorem dX12_now_6 : decode cX12_now 6 = .ok (.iconst 0, 1) := by decide +kernel
theorem dX12_now_7 : decode cX12_now 7 = .ok (.bipush 9, 2) := by decide +kernel
theorem dX12_now_9 : decode cX12_now 9 = .ok (.invokestatic 277, 3) := by decide +kernel
theorem dX12_now_12 : decode cX12_now 12 = .ok (.ifCond .eq 12, 3) := by decide +kernel
theorem dX12_now_15 : decode cX12_now 15 = .ok (.aload_n 0, 1) := by decide +kernel
theorem dX12_now_16 : decode cX12_now 16 = .ok (.getfield 71, 3) := by decide +kernel
theorem dX12_now_19 : decode cX12_now 19 = .ok (.iload_n 1, 1) := by decide +kernel
theorem dX12_now_20 : decode cX12_now 20 = .ok (.iaload, 1) := by decide +kernel
theorem dX12_now_21 : decode cX12_now 21 = .ok (.goto 4, 3) := by decide +kernel
theorem dX12_now_24 : decode cX12_now 24 = .ok (.iconst (-1), 1) := by decide +kernel
theorem dX12_now_25 : decode cX12_now 25 = .ok (.ireturn, 1) := by decide +kernel
theorem dX12_passed_0 : decode cX12_passed 0 = .ok (.aload_n 0, 1) := by decide +kernel
theorem dX12_passed_1 : decode cX12_passed 1 = .ok (.iconst 0, 1) := by decide +kernel
theorem dX12_passed_2 : decode cX12_passed 2 = .ok (.putfield 1, 3) := by decide +kernel
theorem dX12_passed_5 : decode cX12_passed 5 = .ok (.aload_n 0, 1) := by decide +kernel
theorem dX12_passed_6 : decode cX12_passed 6 = .ok (.iload_n 1, 1) := by decide +kernel
theorem dX12_passed_7 : decode cX12_passed 7 = .ok (.iload_n 2, 1) := by decide +kernel
theorem dX12_passed_8 : decode cX12_passed 8 = .ok (.invokevirtual 324, 3) := by decide +kernel
theorem dX12_passed_11 : decode cX12_passed 11 = .ok (.ifCond .eq 20, 3) := by decide +kernel
theorem dX12_passed_14 : decode cX12_passed 14 = .ok (.aload_n 0, 1) := by decide +kernel
theorem dX12_passed_15 : decode cX12_passed 15 = .ok (.getfield 71, 3) := by decide +kernel
theorem dX12_passed_18 : decode cX12_passed 18 = .ok (.bipush 15, 2) := by decide +kernel
theorem dX12_passed_20 : decode cX12_passed 20 = .ok (.bipush 40, 2) := by decide +kernel
theorem dX12_passed_22 : decode cX12_passed 22 = .ok (.iload_n 1, 1) := by decide +kernel
theorem dX12_passed_23 : decode cX12_passed 23 = .ok (.imul, 1) := by decide +kernel
theorem dX12_passed_24 : decode cX12_passed 24 = .ok (.iadd, 1) := by decide +kernel
theorem dX12_passed_25 : decode cX12_passed 25 = .ok (.iload_n 2, 1) := by decide +kernel
theorem dX12_passed_26 : decode cX12_passed 26 = .ok (.iadd, 1) := by decide +kernel
theorem dX12_passed_27 : decode cX12_passed 27 = .ok (.iaload, 1) := by decide +kernel
theorem dX12_passed_28 : decode cX12_passed 28 = .ok (.goto 4, 3) := by decide +kernel
theorem dX12_passed_31 : decode cX12_passed 31 = .ok (.iconst (-1), 1) := by decide +kernel
theorem dX12_passed_32 : decode cX12_passed 32 = .ok (.ireturn, 1) := by decide +kernel
theorem dX12_studies_0 : decode cX12_studies 0 = .ok (.aload_n 0, 1) := by decide +kernel
theorem dX12_studies_1 : decode cX12_studies 1 = .ok (.getfield 300, 3) := by decide +kernel
theorem dX12_studies_4 : decode cX12_studies 4 = .ok (.ifCond .eq 12, 3) := by decide +kernel
theorem dX12_studies_7 : decode cX12_studies 7 = .ok (.aload_n 0, 1) := by decide +kernel
theorem dX12_studies_8 : decode cX12_studies 8 = .ok (.getfield 722, 3) := by decide +kernel
theorem dX12_studies_11 : decode cX12_studies 11 = .ok (.iload_n 1, 1) := by decide +kernel
theorem dX12_studies_12 : decode cX12_studies 12 = .ok (.if_icmp .ne 4, 3) := by decide +kernel
theorem dX12_studies_15 : decode cX12_studies 15 = .ok (.return_, 1) := by decide +kernel
theorem dX12_studies_16 : decode cX12_studies 16 = .ok (.aload_n 0, 1) := by decide +kernel
theorem dX12_studies_17 : decode cX12_studies 17 = .ok (.iconst 1, 1) := by decide +kernel
theorem dX12_studies_18 : decode cX12_studies 18 = .ok (.putfield 300, 3) := by decide +kernel
theorem dX12_studies_21 : decode cX12_studies 21 = .ok (.aload_n 0, 1) := by decide +kernel
theorem dX12_studies_22 : decode cX12_studies 22 = .ok (.iload_n 1, 1) := by decide +kernel
theorem dX12_studies_23 : decode cX12_studies 23 = .ok (.putfield 722, 3) := by decide +kernel
theorem dX12_studies_26 : decode cX12_studies 26 = .ok (.iconst 0, 1) := by decide +kernel
theorem dX12_studies_27 : decode cX12_studies 27 = .ok (.istore_n 2, 1) := by decide +kernel
theorem dX12_studies_28 : decode cX12_studies 28 = .ok (.iload_n 2, 1) := by decide +kernel
theorem dX12_studies_29 : decode cX12_studies 29 = .ok (.sipush 160, 3) := by decide +kernel
theorem dX12_studies_32 : decode cX12_studies 32 = .ok (.if_icmp .ge 16, 3) := by decide +kernel
theorem dX12_studies_35 : decode cX12_studies 35 = .ok (.aload_n 0, 1) := by decide +kernel
theorem dX12_studies_36 : decode cX12_studies 36 = .ok (.getfield 251, 3) := by decide +kernel
theorem dX12_studies_39 : decode cX12_studies 39 = .ok (.iload_n 2, 1) := by decide +kernel
theorem dX12_studies_40 : decode cX12_studies 40 = .ok (.iconst 0, 1) := by decide +kernel
theorem dX12_studies_41 : decode cX12_studies 41 = .ok (.iastore, 1) := by decide +kernel
theorem dX12_studies_42 : decode cX12_studies 42 = .ok (.iinc 2 1, 3) := by decide +kernel
theorem dX12_studies_45 : decode cX12_studies 45 = .ok (.goto (-17), 3) := by decide +kernel
theorem dX12_studies_48 : decode cX12_studies 48 = .ok (.iconst 0, 1) := by decide +kernel
theorem dX12_studies_49 : decode cX12_studies 49 = .ok (.istore_n 2, 1) := by decide +kernel
theorem dX12_studies_50 : decode cX12_studies 50 = .ok (.iload_n 2, 1) := by decide +kernel
theorem dX12_studies_51 : decode cX12_studies 51 = .ok (.iconst 1, 1) := by decide +kernel
theorem dX12_studies_52 : decode cX12_studies 52 = .ok (.aload_n 0, 1) := by decide +kernel
theorem dX12_studies_53 : decode cX12_studies 53 = .ok (.getfield 17, 3) := by decide +kernel
theorem dX12_studies_56 : decode cX12_studies 56 = .ok (.sipush 168, 3) := by decide +kernel
theorem dX12_studies_59 : decode cX12_studies 59 = .ok (.iaload, 1) := by decide +kernel
theorem dX12_studies_60 : decode cX12_studies 60 = .ok (.ishl, 1) := by decide +kernel
theorem dX12_studies_61 : decode cX12_studies 61 = .ok (.if_icmp .ge 198, 3) := by decide +kernel
theorem dX12_studies_64 : decode cX12_studies 64 = .ok (.aload_n 0, 1) := by decide +kernel
theorem dX12_studies_65 : decode cX12_studies 65 = .ok (.iload_n 1, 1) := by decide +kernel
theorem dX12_studies_66 : decode cX12_studies 66 = .ok (.iload_n 2, 1) := by decide +kernel
theorem dX12_studies_67 : decode cX12_studies 67 = .ok (.invokevirtual 703, 3) := by decide +kernel
theorem dX12_studies_70 : decode cX12_studies 70 = .ok (.pop, 1) := by decide +kernel
theorem dX12_studies_71 : decode cX12_studies 71 = .ok (.iconst 0, 1) := by decide +kernel
theorem dX12_studies_72 : decode cX12_studies 72 = .ok (.istore_n 3, 1) := by decide +kernel
theorem dX12_studies_73 : decode cX12_studies 73 = .ok (.iload_n 3, 1) := by decide +kernel
theorem dX12_studies_74 : decode cX12_studies 74 = .ok (.sipush 160, 3) := by decide +kernel
theorem dX12_studies_77 : decode cX12_studies 77 = .ok (.if_icmp .ge 33, 3) := by decide +kernel
theorem dX12_studies_80 : decode cX12_studies 80 = .ok (.aload_n 0, 1) := by decide +kernel
theorem dX12_studies_81 : decode cX12_studies 81 = .ok (.getfield 68, 3) := by decide +kernel
theorem dX12_studies_84 : decode cX12_studies 84 = .ok (.bipush 15, 2) := by decide +kernel
theorem dX12_studies_86 : decode cX12_studies 86 = .ok (.iload_n 3, 1) := by decide +kernel
theorem dX12_studies_87 : decode cX12_studies 87 = .ok (.iadd, 1) := by decide +kernel
theorem dX12_studies_88 : decode cX12_studies 88 = .ok (.iaload, 1) := by decide +kernel
theorem dX12_studies_89 : decode cX12_studies 89 = .ok (.ifCond .le 15, 3) := by decide +kernel
theorem dX12_studies_92 : decode cX12_studies 92 = .ok (.aload_n 0, 1) := by decide +kernel
theorem dX12_studies_93 : decode cX12_studies 93 = .ok (.getfield 251, 3) := by decide +kernel
theorem dX12_studies_96 : decode cX12_studies 96 = .ok (.iload_n 3, 1) := by decide +kernel
theorem dX12_studies_97 : decode cX12_studies 97 = .ok (.dup2, 1) := by decide +kernel
theorem dX12_studies_98 : decode cX12_studies 98 = .ok (.iaload, 1) := by decide +kernel
theorem dX12_studies_99 : decode cX12_studies 99 = .ok (.iconst 1, 1) := by decide +kernel
theorem dX12_studies_100 : decode cX12_studies 100 = .ok (.iload_n 2, 1) := by decide +kernel
theorem dX12_studies_101 : decode cX12_studies 101 = .ok (.ishl, 1) := by decide +kernel
theorem dX12_studies_102 : decode cX12_studies 102 = .ok (.ior, 1) := by decide +kernel
theorem dX12_studies_103 : decode cX12_studies 103 = .ok (.iastore, 1) := by decide +kernel
theorem dX12_studies_104 : decode cX12_studies 104 = .ok (.iinc 3 1, 3) := by decide +kernel
theorem dX12_studies_107 : decode cX12_studies 107 = .ok (.goto (-34), 3) := by decide +kernel
theorem dX12_studies_110 : decode cX12_studies 110 = .ok (.iconst 0, 1) := by decide +kernel
theorem dX12_studies_111 : decode cX12_studies 111 = .ok (.istore_n 3, 1) := by decide +kernel
theorem dX12_studies_112 : decode cX12_studies 112 = .ok (.iload_n 3, 1) := by decide +kernel
theorem dX12_studies_113 : decode cX12_studies 113 = .ok (.iconst 4, 1) := by decide +kernel
theorem dX12_studies_114 : decode cX12_studies 114 = .ok (.if_icmp .ge 28, 3) := by decide +kernel
theorem dX12_studies_117 : decode cX12_studies 117 = .ok (.aload_n 0, 1) := by decide +kernel
theorem dX12_studies_118 : decode cX12_studies 118 = .ok (.getfield 260, 3) := by decide +kernel
theorem dX12_studies_121 : decode cX12_studies 121 = .ok (.iconst 4, 1) := by decide +kernel
theorem dX12_studies_122 : decode cX12_studies 122 = .ok (.iload_n 2, 1) := by decide +kernel
theorem dX12_studies_123 : decode cX12_studies 123 = .ok (.imul, 1) := by decide +kernel
theorem dX12_studies_124 : decode cX12_studies 124 = .ok (.iload_n 3, 1) := by decide +kernel
theorem dX12_studies_125 : decode cX12_studies 125 = .ok (.iadd, 1) := by decide +kernel
theorem dX12_studies_126 : decode cX12_studies 126 = .ok (.aload_n 0, 1) := by decide +kernel
theorem dX12_studies_127 : decode cX12_studies 127 = .ok (.getfield 68, 3) := by decide +kernel
theorem dX12_studies_130 : decode cX12_studies 130 = .ok (.bipush 11, 2) := by decide +kernel
theorem dX12_studies_132 : decode cX12_studies 132 = .ok (.iload_n 3, 1) := by decide +kernel
theorem dX12_studies_133 : decode cX12_studies 133 = .ok (.iadd, 1) := by decide +kernel
theorem dX12_studies_134 : decode cX12_studies 134 = .ok (.iaload, 1) := by decide +kernel
theorem dX12_studies_135 : decode cX12_studies 135 = .ok (.iastore, 1) := by decide +kernel
theorem dX12_studies_136 : decode cX12_studies 136 = .ok (.iinc 3 1, 3) := by decide +kernel
theorem dX12_studies_139 : decode cX12_studies 139 = .ok (.goto (-27), 3) := by decide +kernel
theorem dX12_studies_142 : decode cX12_studies 142 = .ok (.iconst 0, 1) := by decide +kernel
theorem dX12_studies_143 : decode cX12_studies 143 = .ok (.istore_n 3, 1) := by decide +kernel
theorem dX12_studies_144 : decode cX12_studies 144 = .ok (.iconst 0, 1) := by decide +kernel
theorem dX12_studies_145 : decode cX12_studies 145 = .ok (.istore 4, 2) := by decide +kernel
theorem dX12_studies_147 : decode cX12_studies 147 = .ok (.iload 4, 2) := by decide +kernel
theorem dX12_studies_149 : decode cX12_studies 149 = .ok (.aload_n 0, 1) := by decide +kernel
theorem dX12_studies_150 : decode cX12_studies 150 = .ok (.getfield 636, 3) := by decide +kernel
theorem dX12_studies_153 : decode cX12_studies 153 = .ok (.if_icmp .ge 83, 3) := by decide +kernel
theorem dX12_studies_156 : decode cX12_studies 156 = .ok (.aload_n 0, 1) := by decide +kernel
theorem dX12_studies_157 : decode cX12_studies 157 = .ok (.getfield 264, 3) := by decide +kernel
theorem dX12_studies_160 : decode cX12_studies 160 = .ok (.sipush 9300, 3) := by decide +kernel
theorem dX12_studies_163 : decode cX12_studies 163 = .ok (.iload_n 2, 1) := by decide +kernel
theorem dX12_studies_164 : decode cX12_studies 164 = .ok (.imul, 1) := by decide +kernel
theorem dX12_studies_165 : decode cX12_studies 165 = .ok (.iload_n 3, 1) := by decide +kernel
theorem dX12_studies_166 : decode cX12_studies 166 = .ok (.iadd, 1) := by decide +kernel
theorem dX12_studies_167 : decode cX12_studies 167 = .ok (.aload_n 0, 1) := by decide +kernel
theorem dX12_studies_168 : decode cX12_studies 168 = .ok (.getfield 199, 3) := by decide +kernel
theorem dX12_studies_171 : decode cX12_studies 171 = .ok (.iload 4, 2) := by decide +kernel
theorem dX12_studies_173 : decode cX12_studies 173 = .ok (.iaload, 1) := by decide +kernel
theorem dX12_studies_174 : decode cX12_studies 174 = .ok (.i2b, 1) := by decide +kernel
theorem dX12_studies_175 : decode cX12_studies 175 = .ok (.bastore, 1) := by decide +kernel
theorem dX12_studies_176 : decode cX12_studies 176 = .ok (.iinc 3 1, 3) := by decide +kernel
theorem dX12_studies_179 : decode cX12_studies 179 = .ok (.iconst 0, 1) := by decide +kernel
theorem dX12_studies_180 : decode cX12_studies 180 = .ok (.istore 5, 2) := by decide +kernel
theorem dX12_studies_182 : decode cX12_studies 182 = .ok (.iload 5, 2) := by decide +kernel
theorem dX12_studies_184 : decode cX12_studies 184 = .ok (.aload_n 0, 1) := by decide +kernel
theorem dX12_studies_185 : decode cX12_studies 185 = .ok (.getfield 199, 3) := by decide +kernel
theorem dX12_studies_188 : decode cX12_studies 188 = .ok (.iload 4, 2) := by decide +kernel
theorem dX12_studies_190 : decode cX12_studies 190 = .ok (.iaload, 1) := by decide +kernel
theorem dX12_studies_191 : decode cX12_studies 191 = .ok (.if_icmp .ge 39, 3) := by decide +kernel
theorem dX12_studies_194 : decode cX12_studies 194 = .ok (.aload_n 0, 1) := by decide +kernel
theorem dX12_studies_195 : decode cX12_studies 195 = .ok (.getfield 264, 3) := by decide +kernel
theorem dX12_studies_198 : decode cX12_studies 198 = .ok (.sipush 9300, 3) := by decide +kernel
theorem dX12_studies_201 : decode cX12_studies 201 = .ok (.iload_n 2, 1) := by decide +kernel
theorem dX12_studies_202 : decode cX12_studies 202 = .ok (.imul, 1) := by decide +kernel
theorem dX12_studies_203 : decode cX12_studies 203 = .ok (.iload_n 3, 1) := by decide +kernel
theorem dX12_studies_204 : decode cX12_studies 204 = .ok (.iadd, 1) := by decide +kernel
theorem dX12_studies_205 : decode cX12_studies 205 = .ok (.aload_n 0, 1) := by decide +kernel
theorem dX12_studies_206 : decode cX12_studies 206 = .ok (.getfield 218, 3) := by decide +kernel
theorem dX12_studies_209 : decode cX12_studies 209 = .ok (.aload_n 0, 1) := by decide +kernel
theorem dX12_studies_210 : decode cX12_studies 210 = .ok (.getfield 196, 3) := by decide +kernel
theorem dX12_studies_213 : decode cX12_studies 213 = .ok (.iload 4, 2) := by decide +kernel
theorem dX12_studies_215 : decode cX12_studies 215 = .ok (.iaload, 1) := by decide +kernel
theorem dX12_studies_216 : decode cX12_studies 216 = .ok (.iload 5, 2) := by decide +kernel
theorem dX12_studies_218 : decode cX12_studies 218 = .ok (.iadd, 1) := by decide +kernel
theorem dX12_studies_219 : decode cX12_studies 219 = .ok (.baload, 1) := by decide +kernel
theorem dX12_studies_220 : decode cX12_studies 220 = .ok (.bastore, 1) := by decide +kernel
theorem dX12_studies_221 : decode cX12_studies 221 = .ok (.iinc 3 1, 3) := by decide +kernel
theorem dX12_studies_224 : decode cX12_studies 224 = .ok (.iinc 5 1, 3) := by decide +kernel
theorem dX12_studies_227 : decode cX12_studies 227 = .ok (.goto (-45), 3) := by decide +kernel
theorem dX12_studies_230 : decode cX12_studies 230 = .ok (.iinc 4 1, 3) := by decide +kernel
theorem dX12_studies_233 : decode cX12_studies 233 = .ok (.goto (-86), 3) := by decide +kernel
theorem dX12_studies_236 : decode cX12_studies 236 = .ok (.aload_n 0, 1) := by decide +kernel
theorem dX12_studies_237 : decode cX12_studies 237 = .ok (.getfield 254, 3) := by decide +kernel
theorem dX12_studies_240 : decode cX12_studies 240 = .ok (.iload_n 2, 1) := by decide +kernel
theorem dX12_studies_241 : decode cX12_studies 241 = .ok (.iload_n 3, 1) := by decide +kernel
theorem dX12_studies_242 : decode cX12_studies 242 = .ok (.iastore, 1) := by decide +kernel
theorem dX12_studies_243 : decode cX12_studies 243 = .ok (.aload_n 0, 1) := by decide +kernel
theorem dX12_studies_244 : decode cX12_studies 244 = .ok (.getfield 257, 3) := by decide +kernel
theorem dX12_studies_247 : decode cX12_studies 247 = .ok (.iload_n 2, 1) := by decide +kernel
theorem dX12_studies_248 : decode cX12_studies 248 = .ok (.aload_n 0, 1) := by decide +kernel
theorem dX12_studies_249 : decode cX12_studies 249 = .ok (.getfield 636, 3) := by decide +kernel
theorem dX12_studies_252 : decode cX12_studies 252 = .ok (.iastore, 1) := by decide +kernel
theorem dX12_studies_253 : decode cX12_studies 253 = .ok (.iinc 2 1, 3) := by decide +kernel
theorem dX12_studies_256 : decode cX12_studies 256 = .ok (.goto (-206), 3) := by decide +kernel
theorem dX12_studies_259 : decode cX12_studies 259 = .ok (.return_, 1) := by decide +kernel
theorem dX12_areAlike_0 : decode cX12_areAlike 0 = .ok (.aload_n 0, 1) := by decide +kernel
theorem dX12_areAlike_1 : decode cX12_areAlike 1 = .ok (.getfield 254, 3) := by decide +kernel
theorem dX12_areAlike_4 : decode cX12_areAlike 4 = .ok (.iload_n 1, 1) := by decide +kernel
theorem dX12_areAlike_5 : decode cX12_areAlike 5 = .ok (.iaload, 1) := by decide +kernel
theorem dX12_areAlike_6 : decode cX12_areAlike 6 = .ok (.aload_n 0, 1) := by decide +kernel
theorem dX12_areAlike_7 : decode cX12_areAlike 7 = .ok (.getfield 254, 3) := by decide +kernel
theorem dX12_areAlike_10 : decode cX12_areAlike 10 = .ok (.iload_n 2, 1) := by decide +kernel
theorem dX12_areAlike_11 : decode cX12_areAlike 11 = .ok (.iaload, 1) := by decide +kernel
theorem dX12_areAlike_12 : decode cX12_areAlike 12 = .ok (.if_icmp .ne 22, 3) := by decide +kernel
theorem dX12_areAlike_15 : decode cX12_areAlike 15 = .ok (.aload_n 0, 1) := by decide +kernel
theorem dX12_areAlike_16 : decode cX12_areAlike 16 = .ok (.getfield 257, 3) := by decide +kernel
theorem dX12_areAlike_19 : decode cX12_areAlike 19 = .ok (.iload_n 1, 1) := by decide +kernel
theorem dX12_areAlike_20 : decode cX12_areAlike 20 = .ok (.iaload, 1) := by decide +kernel
theorem dX12_areAlike_21 : decode cX12_areAlike 21 = .ok (.aload_n 0, 1) := by decide +kernel
theorem dX12_areAlike_22 : decode cX12_areAlike 22 = .ok (.getfield 257, 3) := by decide +kernel
theorem dX12_areAlike_25 : decode cX12_areAlike 25 = .ok (.iload_n 2, 1) := by decide +kernel
theorem dX12_areAlike_26 : decode cX12_areAlike 26 = .ok (.iaload, 1) := by decide +kernel
theorem dX12_areAlike_27 : decode cX12_areAlike 27 = .ok (.if_icmp .ne 7, 3) := by decide +kernel
theorem dX12_areAlike_30 : decode cX12_areAlike 30 = .ok (.iconst 1, 1) := by decide +kernel
theorem dX12_areAlike_31 : decode cX12_areAlike 31 = .ok (.goto 4, 3) := by decide +kernel
theorem dX12_areAlike_34 : decode cX12_areAlike 34 = .ok (.iconst 0, 1) := by decide +kernel
theorem dX12_areAlike_35 : decode cX12_areAlike 35 = .ok (.istore_n 3, 1) := by decide +kernel
theorem dX12_areAlike_36 : decode cX12_areAlike 36 = .ok (.iconst 0, 1) := by decide +kernel
theorem dX12_areAlike_37 : decode cX12_areAlike 37 = .ok (.istore 4, 2) := by decide +kernel
theorem dX12_areAlike_39 : decode cX12_areAlike 39 = .ok (.iload 4, 2) := by decide +kernel
theorem dX12_areAlike_41 : decode cX12_areAlike 41 = .ok (.iconst 4, 1) := by decide +kernel
theorem dX12_areAlike_42 : decode cX12_areAlike 42 = .ok (.if_icmp .ge 44, 3) := by decide +kernel
theorem dX12_areAlike_45 : decode cX12_areAlike 45 = .ok (.iload_n 3, 1) := by decide +kernel
theorem dX12_areAlike_46 : decode cX12_areAlike 46 = .ok (.ifCond .eq 32, 3) := by decide +kernel
theorem dX12_areAlike_49 : decode cX12_areAlike 49 = .ok (.aload_n 0, 1) := by decide +kernel
theorem dX12_areAlike_50 : decode cX12_areAlike 50 = .ok (.getfield 260, 3) := by decide +kernel
theorem dX12_areAlike_53 : decode cX12_areAlike 53 = .ok (.iconst 4, 1) := by decide +kernel
theorem dX12_areAlike_54 : decode cX12_areAlike 54 = .ok (.iload_n 1, 1) := by decide +kernel
theorem dX12_areAlike_55 : decode cX12_areAlike 55 = .ok (.imul, 1) := by decide +kernel
theorem dX12_areAlike_56 : decode cX12_areAlike 56 = .ok (.iload 4, 2) := by decide +kernel
theorem dX12_areAlike_58 : decode cX12_areAlike 58 = .ok (.iadd, 1) := by decide +kernel
theorem dX12_areAlike_59 : decode cX12_areAlike 59 = .ok (.iaload, 1) := by decide +kernel
theorem dX12_areAlike_60 : decode cX12_areAlike 60 = .ok (.aload_n 0, 1) := by decide +kernel
theorem dX12_areAlike_61 : decode cX12_areAlike 61 = .ok (.getfield 260, 3) := by decide +kernel
theorem dX12_areAlike_64 : decode cX12_areAlike 64 = .ok (.iconst 4, 1) := by decide +kernel
theorem dX12_areAlike_65 : decode cX12_areAlike 65 = .ok (.iload_n 2, 1) := by decide +kernel
theorem dX12_areAlike_66 : decode cX12_areAlike 66 = .ok (.imul, 1) := by decide +kernel
theorem dX12_areAlike_67 : decode cX12_areAlike 67 = .ok (.iload 4, 2) := by decide +kernel
theorem dX12_areAlike_69 : decode cX12_areAlike 69 = .ok (.iadd, 1) := by decide +kernel
theorem dX12_areAlike_70 : decode cX12_areAlike 70 = .ok (.iaload, 1) := by decide +kernel
theorem dX12_areAlike_71 : decode cX12_areAlike 71 = .ok (.if_icmp .ne 7, 3) := by decide +kernel
theorem dX12_areAlike_74 : decode cX12_areAlike 74 = .ok (.iconst 1, 1) := by decide +kernel
theorem dX12_areAlike_75 : decode cX12_areAlike 75 = .ok (.goto 4, 3) := by decide +kernel
theorem dX12_areAlike_78 : decode cX12_areAlike 78 = .ok (.iconst 0, 1) := by decide +kernel
theorem dX12_areAlike_79 : decode cX12_areAlike 79 = .ok (.istore_n 3, 1) := by decide +kernel
theorem dX12_areAlike_80 : decode cX12_areAlike 80 = .ok (.iinc 4 1, 3) := by decide +kernel
theorem dX12_areAlike_83 : decode cX12_areAlike 83 = .ok (.goto (-44), 3) := by decide +kernel
theorem dX12_areAlike_86 : decode cX12_areAlike 86 = .ok (.iconst 0, 1) := by decide +kernel
theorem dX12_areAlike_87 : decode cX12_areAlike 87 = .ok (.istore 4, 2) := by decide +kernel
theorem dX12_areAlike_89 : decode cX12_areAlike 89 = .ok (.iload 4, 2) := by decide +kernel
theorem dX12_areAlike_91 : decode cX12_areAlike 91 = .ok (.aload_n 0, 1) := by decide +kernel
theorem dX12_areAlike_92 : decode cX12_areAlike 92 = .ok (.getfield 254, 3) := by decide +kernel
theorem dX12_areAlike_95 : decode cX12_areAlike 95 = .ok (.iload_n 1, 1) := by decide +kernel
theorem dX12_areAlike_96 : decode cX12_areAlike 96 = .ok (.iaload, 1) := by decide +kernel
theorem dX12_areAlike_97 : decode cX12_areAlike 97 = .ok (.if_icmp .ge 48, 3) := by decide +kernel
theorem dX12_areAlike_100 : decode cX12_areAlike 100 = .ok (.iload_n 3, 1) := by decide +kernel
theorem dX12_areAlike_101 : decode cX12_areAlike 101 = .ok (.ifCond .eq 44, 3) := by decide +kernel
theorem dX12_areAlike_104 : decode cX12_areAlike 104 = .ok (.aload_n 0, 1) := by decide +kernel
theorem dX12_areAlike_105 : decode cX12_areAlike 105 = .ok (.getfield 264, 3) := by decide +kernel
theorem dX12_areAlike_108 : decode cX12_areAlike 108 = .ok (.sipush 9300, 3) := by decide +kernel
theorem dX12_areAlike_111 : decode cX12_areAlike 111 = .ok (.iload_n 1, 1) := by decide +kernel
theorem dX12_areAlike_112 : decode cX12_areAlike 112 = .ok (.imul, 1) := by decide +kernel
theorem dX12_areAlike_113 : decode cX12_areAlike 113 = .ok (.iload 4, 2) := by decide +kernel
theorem dX12_areAlike_115 : decode cX12_areAlike 115 = .ok (.iadd, 1) := by decide +kernel
theorem dX12_areAlike_116 : decode cX12_areAlike 116 = .ok (.baload, 1) := by decide +kernel
theorem dX12_areAlike_117 : decode cX12_areAlike 117 = .ok (.aload_n 0, 1) := by decide +kernel
theorem dX12_areAlike_118 : decode cX12_areAlike 118 = .ok (.getfield 264, 3) := by decide +kernel
theorem dX12_areAlike_121 : decode cX12_areAlike 121 = .ok (.sipush 9300, 3) := by decide +kernel
theorem dX12_areAlike_124 : decode cX12_areAlike 124 = .ok (.iload_n 2, 1) := by decide +kernel
theorem dX12_areAlike_125 : decode cX12_areAlike 125 = .ok (.imul, 1) := by decide +kernel
theorem dX12_areAlike_126 : decode cX12_areAlike 126 = .ok (.iload 4, 2) := by decide +kernel
theorem dX12_areAlike_128 : decode cX12_areAlike 128 = .ok (.iadd, 1) := by decide +kernel
theorem dX12_areAlike_129 : decode cX12_areAlike 129 = .ok (.baload, 1) := by decide +kernel
theorem dX12_areAlike_130 : decode cX12_areAlike 130 = .ok (.if_icmp .ne 7, 3) := by decide +kernel
theorem dX12_areAlike_133 : decode cX12_areAlike 133 = .ok (.iconst 1, 1) := by decide +kernel
theorem dX12_areAlike_134 : decode cX12_areAlike 134 = .ok (.goto 4, 3) := by decide +kernel
theorem dX12_areAlike_137 : decode cX12_areAlike 137 = .ok (.iconst 0, 1) := by decide +kernel
theorem dX12_areAlike_138 : decode cX12_areAlike 138 = .ok (.istore_n 3, 1) := by decide +kernel
theorem dX12_areAlike_139 : decode cX12_areAlike 139 = .ok (.iinc 4 1, 3) := by decide +kernel
theorem dX12_areAlike_142 : decode cX12_areAlike 142 = .ok (.goto (-53), 3) := by decide +kernel
theorem dX12_areAlike_145 : decode cX12_areAlike 145 = .ok (.iload_n 3, 1) := by decide +kernel
theorem dX12_areAlike_146 : decode cX12_areAlike 146 = .ok (.ireturn, 1) := by decide +kernel
theorem dX12_leastLike_0 : decode cX12_leastLike 0 = .ok (.iconst 0, 1) := by decide +kernel
theorem dX12_leastLike_1 : decode cX12_leastLike 1 = .ok (.istore_n 2, 1) := by decide +kernel
theorem dX12_leastLike_2 : decode cX12_leastLike 2 = .ok (.aload_n 0, 1) := by decide +kernel
theorem dX12_leastLike_3 : decode cX12_leastLike 3 = .ok (.iload_n 1, 1) := by decide +kernel
theorem dX12_leastLike_4 : decode cX12_leastLike 4 = .ok (.iload_n 2, 1) := by decide +kernel
theorem dX12_leastLike_5 : decode cX12_leastLike 5 = .ok (.invokevirtual 725, 3) := by decide +kernel
theorem dX12_leastLike_8 : decode cX12_leastLike 8 = .ok (.ifCond .ne 9, 3) := by decide +kernel
theorem dX12_leastLike_11 : decode cX12_leastLike 11 = .ok (.iinc 2 1, 3) := by decide +kernel
theorem dX12_leastLike_14 : decode cX12_leastLike 14 = .ok (.goto (-12), 3) := by decide +kernel
theorem dX12_leastLike_17 : decode cX12_leastLike 17 = .ok (.iload_n 2, 1) := by decide +kernel
theorem dX12_leastLike_18 : decode cX12_leastLike 18 = .ok (.ireturn, 1) := by decide +kernel
theorem dX12_presence_0 : decode cX12_presence 0 = .ok (.aload_n 0, 1) := by decide +kernel
theorem dX12_presence_1 : decode cX12_presence 1 = .ok (.iconst 0, 1) := by decide +kernel
theorem dX12_presence_2 : decode cX12_presence 2 = .ok (.putfield 1, 3) := by decide +kernel
theorem dX12_presence_5 : decode cX12_presence 5 = .ok (.aload_n 0, 1) := by decide +kernel
theorem dX12_presence_6 : decode cX12_presence 6 = .ok (.iload_n 1, 1) := by decide +kernel
theorem dX12_presence_7 : decode cX12_presence 7 = .ok (.invokevirtual 281, 3) := by decide +kernel
theorem dX12_presence_10 : decode cX12_presence 10 = .ok (.ifCond .eq 12, 3) := by decide +kernel
theorem dX12_presence_13 : decode cX12_presence 13 = .ok (.aload_n 0, 1) := by decide +kernel
theorem dX12_presence_14 : decode cX12_presence 14 = .ok (.iload_n 2, 1) := by decide +kernel
theorem dX12_presence_15 : decode cX12_presence 15 = .ok (.iload_n 3, 1) := by decide +kernel
theorem dX12_presence_16 : decode cX12_presence 16 = .ok (.invokevirtual 324, 3) := by decide +kernel
theorem dX12_presence_19 : decode cX12_presence 19 = .ok (.ifCond .ne 5, 3) := by decide +kernel
theorem dX12_presence_22 : decode cX12_presence 22 = .ok (.iconst (-1), 1) := by decide +kernel
theorem dX12_presence_23 : decode cX12_presence 23 = .ok (.ireturn, 1) := by decide +kernel
theorem dX12_presence_24 : decode cX12_presence 24 = .ok (.aload_n 0, 1) := by decide +kernel
theorem dX12_presence_25 : decode cX12_presence 25 = .ok (.iload_n 1, 1) := by decide +kernel
theorem dX12_presence_26 : decode cX12_presence 26 = .ok (.invokevirtual 728, 3) := by decide +kernel
theorem dX12_presence_29 : decode cX12_presence 29 = .ok (.aload_n 0, 1) := by decide +kernel
theorem dX12_presence_30 : decode cX12_presence 30 = .ok (.getfield 251, 3) := by decide +kernel
theorem dX12_presence_33 : decode cX12_presence 33 = .ok (.bipush 40, 2) := by decide +kernel
theorem dX12_presence_35 : decode cX12_presence 35 = .ok (.iload_n 2, 1) := by decide +kernel
theorem dX12_presence_36 : decode cX12_presence 36 = .ok (.imul, 1) := by decide +kernel
theorem dX12_presence_37 : decode cX12_presence 37 = .ok (.iload_n 3, 1) := by decide +kernel
theorem dX12_presence_38 : decode cX12_presence 38 = .ok (.iadd, 1) := by decide +kernel
theorem dX12_presence_39 : decode cX12_presence 39 = .ok (.iaload, 1) := by decide +kernel
theorem dX12_presence_40 : decode cX12_presence 40 = .ok (.ireturn, 1) := by decide +kernel
theorem dX12_outcomes_0 : decode cX12_outcomes 0 = .ok (.aload_n 0, 1) := by decide +kernel
theorem dX12_outcomes_1 : decode cX12_outcomes 1 = .ok (.iconst 0, 1) := by decide +kernel
theorem dX12_outcomes_2 : decode cX12_outcomes 2 = .ok (.putfield 1, 3) := by decide +kernel
theorem dX12_outcomes_5 : decode cX12_outcomes 5 = .ok (.aload_n 0, 1) := by decide +kernel
theorem dX12_outcomes_6 : decode cX12_outcomes 6 = .ok (.iload_n 1, 1) := by decide +kernel
theorem dX12_outcomes_7 : decode cX12_outcomes 7 = .ok (.invokevirtual 281, 3) := by decide +kernel
theorem dX12_outcomes_10 : decode cX12_outcomes 10 = .ok (.ifCond .ne 5, 3) := by decide +kernel
theorem dX12_outcomes_13 : decode cX12_outcomes 13 = .ok (.iconst (-1), 1) := by decide +kernel
theorem dX12_outcomes_14 : decode cX12_outcomes 14 = .ok (.ireturn, 1) := by decide +kernel
theorem dX12_outcomes_15 : decode cX12_outcomes 15 = .ok (.aload_n 0, 1) := by decide +kernel
theorem dX12_outcomes_16 : decode cX12_outcomes 16 = .ok (.iload_n 1, 1) := by decide +kernel
theorem dX12_outcomes_17 : decode cX12_outcomes 17 = .ok (.invokevirtual 728, 3) := by decide +kernel
theorem dX12_outcomes_20 : decode cX12_outcomes 20 = .ok (.iconst 0, 1) := by decide +kernel
theorem dX12_outcomes_21 : decode cX12_outcomes 21 = .ok (.istore_n 2, 1) := by decide +kernel
theorem dX12_outcomes_22 : decode cX12_outcomes 22 = .ok (.iconst 0, 1) := by decide +kernel
theorem dX12_outcomes_23 : decode cX12_outcomes 23 = .ok (.istore_n 3, 1) := by decide +kernel
theorem dX12_outcomes_24 : decode cX12_outcomes 24 = .ok (.iload_n 3, 1) := by decide +kernel
theorem dX12_outcomes_25 : decode cX12_outcomes 25 = .ok (.iconst 1, 1) := by decide +kernel
theorem dX12_outcomes_26 : decode cX12_outcomes 26 = .ok (.aload_n 0, 1) := by decide +kernel
theorem dX12_outcomes_27 : decode cX12_outcomes 27 = .ok (.getfield 17, 3) := by decide +kernel
theorem dX12_outcomes_30 : decode cX12_outcomes 30 = .ok (.sipush 168, 3) := by decide +kernel
theorem dX12_outcomes_33 : decode cX12_outcomes 33 = .ok (.iaload, 1) := by decide +kernel
theorem dX12_outcomes_34 : decode cX12_outcomes 34 = .ok (.ishl, 1) := by decide +kernel
theorem dX12_outcomes_35 : decode cX12_outcomes 35 = .ok (.if_icmp .ge 26, 3) := by decide +kernel
theorem dX12_outcomes_38 : decode cX12_outcomes 38 = .ok (.iload_n 2, 1) := by decide +kernel
theorem dX12_outcomes_39 : decode cX12_outcomes 39 = .ok (.aload_n 0, 1) := by decide +kernel
theorem dX12_outcomes_40 : decode cX12_outcomes 40 = .ok (.iload_n 3, 1) := by decide +kernel
theorem dX12_outcomes_41 : decode cX12_outcomes 41 = .ok (.invokevirtual 731, 3) := by decide +kernel
theorem dX12_outcomes_44 : decode cX12_outcomes 44 = .ok (.iload_n 3, 1) := by decide +kernel
theorem dX12_outcomes_45 : decode cX12_outcomes 45 = .ok (.if_icmp .ne 7, 3) := by decide +kernel
theorem dX12_outcomes_48 : decode cX12_outcomes 48 = .ok (.iconst 1, 1) := by decide +kernel
theorem dX12_outcomes_49 : decode cX12_outcomes 49 = .ok (.goto 4, 3) := by decide +kernel
theorem dX12_outcomes_52 : decode cX12_outcomes 52 = .ok (.iconst 0, 1) := by decide +kernel
theorem dX12_outcomes_53 : decode cX12_outcomes 53 = .ok (.iadd, 1) := by decide +kernel
theorem dX12_outcomes_54 : decode cX12_outcomes 54 = .ok (.istore_n 2, 1) := by decide +kernel
theorem dX12_outcomes_55 : decode cX12_outcomes 55 = .ok (.iinc 3 1, 3) := by decide +kernel
theorem dX12_outcomes_58 : decode cX12_outcomes 58 = .ok (.goto (-34), 3) := by decide +kernel
theorem dX12_outcomes_61 : decode cX12_outcomes 61 = .ok (.iload_n 2, 1) := by decide +kernel
theorem dX12_outcomes_62 : decode cX12_outcomes 62 = .ok (.ireturn, 1) := by decide +kernel
theorem dX12_like_0 : decode cX12_like 0 = .ok (.aload_n 0, 1) := by decide +kernel
theorem dX12_like_1 : decode cX12_like 1 = .ok (.iconst 0, 1) := by decide +kernel
theorem dX12_like_2 : decode cX12_like 2 = .ok (.putfield 1, 3) := by decide +kernel
theorem dX12_like_5 : decode cX12_like 5 = .ok (.aload_n 0, 1) := by decide +kernel
theorem dX12_like_6 : decode cX12_like 6 = .ok (.iload_n 1, 1) := by decide +kernel
theorem dX12_like_7 : decode cX12_like 7 = .ok (.invokevirtual 281, 3) := by decide +kernel
theorem dX12_like_10 : decode cX12_like 10 = .ok (.ifCond .eq 23, 3) := by decide +kernel
theorem dX12_like_13 : decode cX12_like 13 = .ok (.iload_n 2, 1) := by decide +kernel
theorem dX12_like_14 : decode cX12_like 14 = .ok (.iconst 0, 1) := by decide +kernel
theorem dX12_like_15 : decode cX12_like 15 = .ok (.iconst 1, 1) := by decide +kernel
theorem dX12_like_16 : decode cX12_like 16 = .ok (.aload_n 0, 1) := by decide +kernel
theorem dX12_like_17 : decode cX12_like 17 = .ok (.getfield 17, 3) := by decide +kernel
theorem dX12_like_20 : decode cX12_like 20 = .ok (.sipush 168, 3) := by decide +kernel
theorem dX12_like_23 : decode cX12_like 23 = .ok (.iaload, 1) := by decide +kernel
theorem dX12_like_24 : decode cX12_like 24 = .ok (.ishl, 1) := by decide +kernel
theorem dX12_like_25 : decode cX12_like 25 = .ok (.iconst 1, 1) := by decide +kernel
theorem dX12_like_26 : decode cX12_like 26 = .ok (.isub, 1) := by decide +kernel
theorem dX12_like_27 : decode cX12_like 27 = .ok (.invokestatic 277, 3) := by decide +kernel
theorem dX12_like_30 : decode cX12_like 30 = .ok (.ifCond .ne 5, 3) := by decide +kernel
theorem dX12_like_33 : decode cX12_like 33 = .ok (.iconst (-1), 1) := by decide +kernel
theorem dX12_like_34 : decode cX12_like 34 = .ok (.ireturn, 1) := by decide +kernel
theorem dX12_like_35 : decode cX12_like 35 = .ok (.aload_n 0, 1) := by decide +kernel
theorem dX12_like_36 : decode cX12_like 36 = .ok (.iload_n 1, 1) := by decide +kernel
theorem dX12_like_37 : decode cX12_like 37 = .ok (.invokevirtual 728, 3) := by decide +kernel
theorem dX12_like_40 : decode cX12_like 40 = .ok (.aload_n 0, 1) := by decide +kernel
theorem dX12_like_41 : decode cX12_like 41 = .ok (.iload_n 2, 1) := by decide +kernel
theorem dX12_like_42 : decode cX12_like 42 = .ok (.invokevirtual 731, 3) := by decide +kernel
theorem dX12_like_45 : decode cX12_like 45 = .ok (.ireturn, 1) := by decide +kernel
theorem dX12_depends_0 : decode cX12_depends 0 = .ok (.aload_n 0, 1) := by decide +kernel
theorem dX12_depends_1 : decode cX12_depends 1 = .ok (.iconst 0, 1) := by decide +kernel
theorem dX12_depends_2 : decode cX12_depends 2 = .ok (.putfield 1, 3) := by decide +kernel
theorem dX12_depends_5 : decode cX12_depends 5 = .ok (.aload_n 0, 1) := by decide +kernel
theorem dX12_depends_6 : decode cX12_depends 6 = .ok (.iload_n 1, 1) := by decide +kernel
theorem dX12_depends_7 : decode cX12_depends 7 = .ok (.invokevirtual 281, 3) := by decide +kernel
theorem dX12_depends_10 : decode cX12_depends 10 = .ok (.ifCond .ne 5, 3) := by decide +kernel
theorem dX12_depends_13 : decode cX12_depends 13 = .ok (.iconst (-1), 1) := by decide +kernel
theorem dX12_depends_14 : decode cX12_depends 14 = .ok (.ireturn, 1) := by decide +kernel
theorem dX12_depends_15 : decode cX12_depends 15 = .ok (.aload_n 0, 1) := by decide +kernel
theorem dX12_depends_16 : decode cX12_depends 16 = .ok (.iload_n 1, 1) := by decide +kernel
theorem dX12_depends_17 : decode cX12_depends 17 = .ok (.invokevirtual 728, 3) := by decide +kernel
theorem dX12_depends_20 : decode cX12_depends 20 = .ok (.iconst 0, 1) := by decide +kernel
theorem dX12_depends_21 : decode cX12_depends 21 = .ok (.istore_n 2, 1) := by decide +kernel
theorem dX12_depends_22 : decode cX12_depends 22 = .ok (.iconst 0, 1) := by decide +kernel
theorem dX12_depends_23 : decode cX12_depends 23 = .ok (.istore_n 3, 1) := by decide +kernel
theorem dX12_depends_24 : decode cX12_depends 24 = .ok (.iload_n 3, 1) := by decide +kernel
theorem dX12_depends_25 : decode cX12_depends 25 = .ok (.aload_n 0, 1) := by decide +kernel
theorem dX12_depends_26 : decode cX12_depends 26 = .ok (.getfield 17, 3) := by decide +kernel
theorem dX12_depends_29 : decode cX12_depends 29 = .ok (.sipush 168, 3) := by decide +kernel
theorem dX12_depends_32 : decode cX12_depends 32 = .ok (.iaload, 1) := by decide +kernel
theorem dX12_depends_33 : decode cX12_depends 33 = .ok (.if_icmp .ge 54, 3) := by decide +kernel
theorem dX12_depends_36 : decode cX12_depends 36 = .ok (.iconst 0, 1) := by decide +kernel
theorem dX12_depends_37 : decode cX12_depends 37 = .ok (.istore 4, 2) := by decide +kernel
theorem dX12_depends_39 : decode cX12_depends 39 = .ok (.iload 4, 2) := by decide +kernel
theorem dX12_depends_41 : decode cX12_depends 41 = .ok (.iconst 1, 1) := by decide +kernel
theorem dX12_depends_42 : decode cX12_depends 42 = .ok (.aload_n 0, 1) := by decide +kernel
theorem dX12_depends_43 : decode cX12_depends 43 = .ok (.getfield 17, 3) := by decide +kernel
theorem dX12_depends_46 : decode cX12_depends 46 = .ok (.sipush 168, 3) := by decide +kernel
theorem dX12_depends_49 : decode cX12_depends 49 = .ok (.iaload, 1) := by decide +kernel
theorem dX12_depends_50 : decode cX12_depends 50 = .ok (.ishl, 1) := by decide +kernel
theorem dX12_depends_51 : decode cX12_depends 51 = .ok (.if_icmp .ge 30, 3) := by decide +kernel
theorem dX12_depends_54 : decode cX12_depends 54 = .ok (.aload_n 0, 1) := by decide +kernel
theorem dX12_depends_55 : decode cX12_depends 55 = .ok (.iload 4, 2) := by decide +kernel
theorem dX12_depends_57 : decode cX12_depends 57 = .ok (.iload 4, 2) := by decide +kernel
theorem dX12_depends_59 : decode cX12_depends 59 = .ok (.iconst 1, 1) := by decide +kernel
theorem dX12_depends_60 : decode cX12_depends 60 = .ok (.iload_n 3, 1) := by decide +kernel
theorem dX12_depends_61 : decode cX12_depends 61 = .ok (.ishl, 1) := by decide +kernel
theorem dX12_depends_62 : decode cX12_depends 62 = .ok (.ixor, 1) := by decide +kernel
theorem dX12_depends_63 : decode cX12_depends 63 = .ok (.invokevirtual 725, 3) := by decide +kernel
theorem dX12_depends_66 : decode cX12_depends 66 = .ok (.ifCond .ne 9, 3) := by decide +kernel
theorem dX12_depends_69 : decode cX12_depends 69 = .ok (.iload_n 2, 1) := by decide +kernel
theorem dX12_depends_70 : decode cX12_depends 70 = .ok (.iconst 1, 1) := by decide +kernel
theorem dX12_depends_71 : decode cX12_depends 71 = .ok (.iload_n 3, 1) := by decide +kernel
theorem dX12_depends_72 : decode cX12_depends 72 = .ok (.ishl, 1) := by decide +kernel
theorem dX12_depends_73 : decode cX12_depends 73 = .ok (.ior, 1) := by decide +kernel
theorem dX12_depends_74 : decode cX12_depends 74 = .ok (.istore_n 2, 1) := by decide +kernel
theorem dX12_depends_75 : decode cX12_depends 75 = .ok (.iinc 4 1, 3) := by decide +kernel
theorem dX12_depends_78 : decode cX12_depends 78 = .ok (.goto (-39), 3) := by decide +kernel
theorem dX12_depends_81 : decode cX12_depends 81 = .ok (.iinc 3 1, 3) := by decide +kernel
theorem dX12_depends_84 : decode cX12_depends 84 = .ok (.goto (-60), 3) := by decide +kernel
theorem dX12_depends_87 : decode cX12_depends 87 = .ok (.iload_n 2, 1) := by decide +kernel
theorem dX12_depends_88 : decode cX12_depends 88 = .ok (.ireturn, 1) := by decide +kernel
