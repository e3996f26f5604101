theorem dX3_init_0 : decode cX3_init 0 = .ok (.aload_n 0, 1) := by decide +kernel
theorem dX3_init_1 : decode cX3_init 1 = .ok (.invokespecial 3, 3) := by decide +kernel
theorem dX3_init_4 : decode cX3_init 4 = .ok (.aload_n 0, 1) := by decide +kernel
theorem dX3_init_5 : decode cX3_init 5 = .ok (.iconst 0, 1) := by decide +kernel
theorem dX3_init_6 : decode cX3_init 6 = .ok (.putfield 9, 3) := by decide +kernel
theorem dX3_init_9 : decode cX3_init 9 = .ok (.aload_n 0, 1) := by decide +kernel
theorem dX3_init_10 : decode cX3_init 10 = .ok (.bipush 12, 2) := by decide +kernel
theorem dX3_init_12 : decode cX3_init 12 = .ok (.newarray .int, 2) := by decide +kernel
theorem dX3_init_14 : decode cX3_init 14 = .ok (.putfield 15, 3) := by decide +kernel
theorem dX3_init_17 : decode cX3_init 17 = .ok (.aload_n 0, 1) := by decide +kernel
theorem dX3_init_18 : decode cX3_init 18 = .ok (.bipush 12, 2) := by decide +kernel
theorem dX3_init_20 : decode cX3_init 20 = .ok (.newarray .int, 2) := by decide +kernel
theorem dX3_init_22 : decode cX3_init 22 = .ok (.putfield 19, 3) := by decide +kernel
theorem dX3_init_25 : decode cX3_init 25 = .ok (.aload_n 0, 1) := by decide +kernel
theorem dX3_init_26 : decode cX3_init 26 = .ok (.bipush 12, 2) := by decide +kernel
theorem dX3_init_28 : decode cX3_init 28 = .ok (.newarray .boolean, 2) := by decide +kernel
theorem dX3_init_30 : decode cX3_init 30 = .ok (.putfield 22, 3) := by decide +kernel
theorem dX3_init_33 : decode cX3_init 33 = .ok (.aload_n 0, 1) := by decide +kernel
theorem dX3_init_34 : decode cX3_init 34 = .ok (.bipush 12, 2) := by decide +kernel
theorem dX3_init_36 : decode cX3_init 36 = .ok (.newarray .int, 2) := by decide +kernel
theorem dX3_init_38 : decode cX3_init 38 = .ok (.putfield 26, 3) := by decide +kernel
theorem dX3_init_41 : decode cX3_init 41 = .ok (.aload_n 0, 1) := by decide +kernel
theorem dX3_init_42 : decode cX3_init 42 = .ok (.bipush 12, 2) := by decide +kernel
theorem dX3_init_44 : decode cX3_init 44 = .ok (.newarray .int, 2) := by decide +kernel
theorem dX3_init_46 : decode cX3_init 46 = .ok (.putfield 29, 3) := by decide +kernel
theorem dX3_init_49 : decode cX3_init 49 = .ok (.aload_n 0, 1) := by decide +kernel
theorem dX3_init_50 : decode cX3_init 50 = .ok (.bipush 12, 2) := by decide +kernel
theorem dX3_init_52 : decode cX3_init 52 = .ok (.newarray .int, 2) := by decide +kernel
theorem dX3_init_54 : decode cX3_init 54 = .ok (.putfield 32, 3) := by decide +kernel
theorem dX3_init_57 : decode cX3_init 57 = .ok (.aload_n 0, 1) := by decide +kernel
theorem dX3_init_58 : decode cX3_init 58 = .ok (.bipush 12, 2) := by decide +kernel
theorem dX3_init_60 : decode cX3_init 60 = .ok (.newarray .int, 2) := by decide +kernel
theorem dX3_init_62 : decode cX3_init 62 = .ok (.putfield 35, 3) := by decide +kernel
theorem dX3_init_65 : decode cX3_init 65 = .ok (.aload_n 0, 1) := by decide +kernel
theorem dX3_init_66 : decode cX3_init 66 = .ok (.bipush 12, 2) := by decide +kernel
theorem dX3_init_68 : decode cX3_init 68 = .ok (.newarray .int, 2) := by decide +kernel
theorem dX3_init_70 : decode cX3_init 70 = .ok (.putfield 38, 3) := by decide +kernel
theorem dX3_init_73 : decode cX3_init 73 = .ok (.aload_n 0, 1) := by decide +kernel
theorem dX3_init_74 : decode cX3_init 74 = .ok (.bipush 12, 2) := by decide +kernel
theorem dX3_init_76 : decode cX3_init 76 = .ok (.newarray .int, 2) := by decide +kernel
theorem dX3_init_78 : decode cX3_init 78 = .ok (.putfield 41, 3) := by decide +kernel
theorem dX3_init_81 : decode cX3_init 81 = .ok (.aload_n 0, 1) := by decide +kernel
theorem dX3_init_82 : decode cX3_init 82 = .ok (.sipush 240, 3) := by decide +kernel
theorem dX3_init_85 : decode cX3_init 85 = .ok (.newarray .int, 2) := by decide +kernel
theorem dX3_init_87 : decode cX3_init 87 = .ok (.putfield 44, 3) := by decide +kernel
theorem dX3_init_90 : decode cX3_init 90 = .ok (.aload_n 0, 1) := by decide +kernel
theorem dX3_init_91 : decode cX3_init 91 = .ok (.sipush 240, 3) := by decide +kernel
theorem dX3_init_94 : decode cX3_init 94 = .ok (.newarray .int, 2) := by decide +kernel
theorem dX3_init_96 : decode cX3_init 96 = .ok (.putfield 47, 3) := by decide +kernel
theorem dX3_init_99 : decode cX3_init 99 = .ok (.aload_n 0, 1) := by decide +kernel
theorem dX3_init_100 : decode cX3_init 100 = .ok (.sipush 240, 3) := by decide +kernel
theorem dX3_init_103 : decode cX3_init 103 = .ok (.newarray .int, 2) := by decide +kernel
theorem dX3_init_105 : decode cX3_init 105 = .ok (.putfield 50, 3) := by decide +kernel
theorem dX3_init_108 : decode cX3_init 108 = .ok (.aload_n 0, 1) := by decide +kernel
theorem dX3_init_109 : decode cX3_init 109 = .ok (.sipush 240, 3) := by decide +kernel
theorem dX3_init_112 : decode cX3_init 112 = .ok (.newarray .int, 2) := by decide +kernel
theorem dX3_init_114 : decode cX3_init 114 = .ok (.putfield 53, 3) := by decide +kernel
theorem dX3_init_117 : decode cX3_init 117 = .ok (.aload_n 0, 1) := by decide +kernel
theorem dX3_init_118 : decode cX3_init 118 = .ok (.iconst 4, 1) := by decide +kernel
theorem dX3_init_119 : decode cX3_init 119 = .ok (.newarray .int, 2) := by decide +kernel
theorem dX3_init_121 : decode cX3_init 121 = .ok (.putfield 56, 3) := by decide +kernel
theorem dX3_init_124 : decode cX3_init 124 = .ok (.aload_n 0, 1) := by decide +kernel
theorem dX3_init_125 : decode cX3_init 125 = .ok (.iconst 0, 1) := by decide +kernel
theorem dX3_init_126 : decode cX3_init 126 = .ok (.putfield 59, 3) := by decide +kernel
theorem dX3_init_129 : decode cX3_init 129 = .ok (.aload_n 0, 1) := by decide +kernel
theorem dX3_init_130 : decode cX3_init 130 = .ok (.aload_n 1, 1) := by decide +kernel
theorem dX3_init_131 : decode cX3_init 131 = .ok (.putfield 62, 3) := by decide +kernel
theorem dX3_init_134 : decode cX3_init 134 = .ok (.aload_n 0, 1) := by decide +kernel
theorem dX3_init_135 : decode cX3_init 135 = .ok (.aload_n 2, 1) := by decide +kernel
theorem dX3_init_136 : decode cX3_init 136 = .ok (.putfield 66, 3) := by decide +kernel
theorem dX3_init_139 : decode cX3_init 139 = .ok (.return_, 1) := by decide +kernel
theorem dX3_numberOf_0 : decode cX3_numberOf 0 = .ok (.iconst 0, 1) := by decide +kernel
theorem dX3_numberOf_1 : decode cX3_numberOf 1 = .ok (.istore_n 3, 1) := by decide +kernel
theorem dX3_numberOf_2 : decode cX3_numberOf 2 = .ok (.iload_n 3, 1) := by decide +kernel
theorem dX3_numberOf_3 : decode cX3_numberOf 3 = .ok (.aload_n 0, 1) := by decide +kernel
theorem dX3_numberOf_4 : decode cX3_numberOf 4 = .ok (.getfield 9, 3) := by decide +kernel
theorem dX3_numberOf_7 : decode cX3_numberOf 7 = .ok (.if_icmp .ge 48, 3) := by decide +kernel
theorem dX3_numberOf_10 : decode cX3_numberOf 10 = .ok (.iload_n 3, 1) := by decide +kernel
theorem dX3_numberOf_11 : decode cX3_numberOf 11 = .ok (.bipush 12, 2) := by decide +kernel
theorem dX3_numberOf_13 : decode cX3_numberOf 13 = .ok (.if_icmp .ge 42, 3) := by decide +kernel
theorem dX3_numberOf_16 : decode cX3_numberOf 16 = .ok (.aload_n 0, 1) := by decide +kernel
theorem dX3_numberOf_17 : decode cX3_numberOf 17 = .ok (.getfield 19, 3) := by decide +kernel
theorem dX3_numberOf_20 : decode cX3_numberOf 20 = .ok (.iload_n 3, 1) := by decide +kernel
theorem dX3_numberOf_21 : decode cX3_numberOf 21 = .ok (.iaload, 1) := by decide +kernel
theorem dX3_numberOf_22 : decode cX3_numberOf 22 = .ok (.iload_n 2, 1) := by decide +kernel
theorem dX3_numberOf_23 : decode cX3_numberOf 23 = .ok (.if_icmp .ne 26, 3) := by decide +kernel
theorem dX3_numberOf_26 : decode cX3_numberOf 26 = .ok (.aload_n 0, 1) := by decide +kernel
theorem dX3_numberOf_27 : decode cX3_numberOf 27 = .ok (.getfield 62, 3) := by decide +kernel
theorem dX3_numberOf_30 : decode cX3_numberOf 30 = .ok (.getfield 70, 3) := by decide +kernel
theorem dX3_numberOf_33 : decode cX3_numberOf 33 = .ok (.iload_n 1, 1) := by decide +kernel
theorem dX3_numberOf_34 : decode cX3_numberOf 34 = .ok (.aload_n 0, 1) := by decide +kernel
theorem dX3_numberOf_35 : decode cX3_numberOf 35 = .ok (.getfield 15, 3) := by decide +kernel
theorem dX3_numberOf_38 : decode cX3_numberOf 38 = .ok (.iload_n 3, 1) := by decide +kernel
theorem dX3_numberOf_39 : decode cX3_numberOf 39 = .ok (.iaload, 1) := by decide +kernel
theorem dX3_numberOf_40 : decode cX3_numberOf 40 = .ok (.iload_n 2, 1) := by decide +kernel
theorem dX3_numberOf_41 : decode cX3_numberOf 41 = .ok (.invokestatic 76, 3) := by decide +kernel
theorem dX3_numberOf_44 : decode cX3_numberOf 44 = .ok (.ifCond .eq 5, 3) := by decide +kernel
theorem dX3_numberOf_47 : decode cX3_numberOf 47 = .ok (.iload_n 3, 1) := by decide +kernel
theorem dX3_numberOf_48 : decode cX3_numberOf 48 = .ok (.ireturn, 1) := by decide +kernel
theorem dX3_numberOf_49 : decode cX3_numberOf 49 = .ok (.iinc 3 1, 3) := by decide +kernel
theorem dX3_numberOf_52 : decode cX3_numberOf 52 = .ok (.goto (-50), 3) := by decide +kernel
theorem dX3_numberOf_55 : decode cX3_numberOf 55 = .ok (.iconst (-1), 1) := by decide +kernel
theorem dX3_numberOf_56 : decode cX3_numberOf 56 = .ok (.ireturn, 1) := by decide +kernel
theorem dX3_standing_0 : decode cX3_standing 0 = .ok (.aload_n 0, 1) := by decide +kernel
theorem dX3_standing_1 : decode cX3_standing 1 = .ok (.iload_n 1, 1) := by decide +kernel
theorem dX3_standing_2 : decode cX3_standing 2 = .ok (.iload_n 2, 1) := by decide +kernel
theorem dX3_standing_3 : decode cX3_standing 3 = .ok (.invokevirtual 80, 3) := by decide +kernel
theorem dX3_standing_6 : decode cX3_standing 6 = .ok (.istore_n 3, 1) := by decide +kernel
theorem dX3_standing_7 : decode cX3_standing 7 = .ok (.iload_n 3, 1) := by decide +kernel
theorem dX3_standing_8 : decode cX3_standing 8 = .ok (.iconst (-1), 1) := by decide +kernel
theorem dX3_standing_9 : decode cX3_standing 9 = .ok (.if_icmp .eq 16, 3) := by decide +kernel
theorem dX3_standing_12 : decode cX3_standing 12 = .ok (.aload_n 0, 1) := by decide +kernel
theorem dX3_standing_13 : decode cX3_standing 13 = .ok (.getfield 22, 3) := by decide +kernel
theorem dX3_standing_16 : decode cX3_standing 16 = .ok (.iload_n 3, 1) := by decide +kernel
theorem dX3_standing_17 : decode cX3_standing 17 = .ok (.baload, 1) := by decide +kernel
theorem dX3_standing_18 : decode cX3_standing 18 = .ok (.ifCond .eq 7, 3) := by decide +kernel
theorem dX3_standing_21 : decode cX3_standing 21 = .ok (.iload_n 3, 1) := by decide +kernel
theorem dX3_standing_22 : decode cX3_standing 22 = .ok (.goto 4, 3) := by decide +kernel
theorem dX3_standing_25 : decode cX3_standing 25 = .ok (.iconst (-1), 1) := by decide +kernel
theorem dX3_standing_26 : decode cX3_standing 26 = .ok (.ireturn, 1) := by decide +kernel
theorem dX3_addSwitch_0 : decode cX3_addSwitch 0 = .ok (.aload_n 0, 1) := by decide +kernel
theorem dX3_addSwitch_1 : decode cX3_addSwitch 1 = .ok (.getfield 9, 3) := by decide +kernel
theorem dX3_addSwitch_4 : decode cX3_addSwitch 4 = .ok (.bipush 12, 2) := by decide +kernel
theorem dX3_addSwitch_6 : decode cX3_addSwitch 6 = .ok (.if_icmp .lt 4, 3) := by decide +kernel
theorem dX3_addSwitch_9 : decode cX3_addSwitch 9 = .ok (.return_, 1) := by decide +kernel
theorem dX3_addSwitch_10 : decode cX3_addSwitch 10 = .ok (.aload_n 0, 1) := by decide +kernel
theorem dX3_addSwitch_11 : decode cX3_addSwitch 11 = .ok (.getfield 9, 3) := by decide +kernel
theorem dX3_addSwitch_14 : decode cX3_addSwitch 14 = .ok (.istore 4, 2) := by decide +kernel
theorem dX3_addSwitch_16 : decode cX3_addSwitch 16 = .ok (.aload_n 0, 1) := by decide +kernel
theorem dX3_addSwitch_17 : decode cX3_addSwitch 17 = .ok (.iload 4, 2) := by decide +kernel
theorem dX3_addSwitch_19 : decode cX3_addSwitch 19 = .ok (.iload_n 1, 1) := by decide +kernel
theorem dX3_addSwitch_20 : decode cX3_addSwitch 20 = .ok (.iload_n 2, 1) := by decide +kernel
theorem dX3_addSwitch_21 : decode cX3_addSwitch 21 = .ok (.invokevirtual 84, 3) := by decide +kernel
theorem dX3_addSwitch_24 : decode cX3_addSwitch 24 = .ok (.aload_n 0, 1) := by decide +kernel
theorem dX3_addSwitch_25 : decode cX3_addSwitch 25 = .ok (.getfield 22, 3) := by decide +kernel
theorem dX3_addSwitch_28 : decode cX3_addSwitch 28 = .ok (.iload 4, 2) := by decide +kernel
theorem dX3_addSwitch_30 : decode cX3_addSwitch 30 = .ok (.iload_n 3, 1) := by decide +kernel
theorem dX3_addSwitch_31 : decode cX3_addSwitch 31 = .ok (.bastore, 1) := by decide +kernel
theorem dX3_addSwitch_32 : decode cX3_addSwitch 32 = .ok (.aload_n 0, 1) := by decide +kernel
theorem dX3_addSwitch_33 : decode cX3_addSwitch 33 = .ok (.getfield 26, 3) := by decide +kernel
theorem dX3_addSwitch_36 : decode cX3_addSwitch 36 = .ok (.iload 4, 2) := by decide +kernel
theorem dX3_addSwitch_38 : decode cX3_addSwitch 38 = .ok (.iconst (-1), 1) := by decide +kernel
theorem dX3_addSwitch_39 : decode cX3_addSwitch 39 = .ok (.iastore, 1) := by decide +kernel
theorem dX3_addSwitch_40 : decode cX3_addSwitch 40 = .ok (.aload_n 0, 1) := by decide +kernel
theorem dX3_addSwitch_41 : decode cX3_addSwitch 41 = .ok (.getfield 29, 3) := by decide +kernel
theorem dX3_addSwitch_44 : decode cX3_addSwitch 44 = .ok (.iload 4, 2) := by decide +kernel
theorem dX3_addSwitch_46 : decode cX3_addSwitch 46 = .ok (.iconst 1, 1) := by decide +kernel
theorem dX3_addSwitch_47 : decode cX3_addSwitch 47 = .ok (.iastore, 1) := by decide +kernel
theorem dX3_addSwitch_48 : decode cX3_addSwitch 48 = .ok (.aload_n 0, 1) := by decide +kernel
theorem dX3_addSwitch_49 : decode cX3_addSwitch 49 = .ok (.getfield 32, 3) := by decide +kernel
theorem dX3_addSwitch_52 : decode cX3_addSwitch 52 = .ok (.iload 4, 2) := by decide +kernel
theorem dX3_addSwitch_54 : decode cX3_addSwitch 54 = .ok (.iconst (-1), 1) := by decide +kernel
theorem dX3_addSwitch_55 : decode cX3_addSwitch 55 = .ok (.iastore, 1) := by decide +kernel
theorem dX3_addSwitch_56 : decode cX3_addSwitch 56 = .ok (.aload_n 0, 1) := by decide +kernel
theorem dX3_addSwitch_57 : decode cX3_addSwitch 57 = .ok (.getfield 35, 3) := by decide +kernel
theorem dX3_addSwitch_60 : decode cX3_addSwitch 60 = .ok (.iload 4, 2) := by decide +kernel
theorem dX3_addSwitch_62 : decode cX3_addSwitch 62 = .ok (.iconst (-1), 1) := by decide +kernel
theorem dX3_addSwitch_63 : decode cX3_addSwitch 63 = .ok (.iastore, 1) := by decide +kernel
theorem dX3_addSwitch_64 : decode cX3_addSwitch 64 = .ok (.aload_n 0, 1) := by decide +kernel
theorem dX3_addSwitch_65 : decode cX3_addSwitch 65 = .ok (.getfield 41, 3) := by decide +kernel
theorem dX3_addSwitch_68 : decode cX3_addSwitch 68 = .ok (.iload 4, 2) := by decide +kernel
theorem dX3_addSwitch_70 : decode cX3_addSwitch 70 = .ok (.iconst 0, 1) := by decide +kernel
theorem dX3_addSwitch_71 : decode cX3_addSwitch 71 = .ok (.iastore, 1) := by decide +kernel
theorem dX3_addSwitch_72 : decode cX3_addSwitch 72 = .ok (.aload_n 0, 1) := by decide +kernel
theorem dX3_addSwitch_73 : decode cX3_addSwitch 73 = .ok (.iload 4, 2) := by decide +kernel
theorem dX3_addSwitch_75 : decode cX3_addSwitch 75 = .ok (.iconst 0, 1) := by decide +kernel
theorem dX3_addSwitch_76 : decode cX3_addSwitch 76 = .ok (.iconst (-1), 1) := by decide +kernel
theorem dX3_addSwitch_77 : decode cX3_addSwitch 77 = .ok (.sipush 1695, 3) := by decide +kernel
theorem dX3_addSwitch_80 : decode cX3_addSwitch 80 = .ok (.iconst 1, 1) := by decide +kernel
theorem dX3_addSwitch_81 : decode cX3_addSwitch 81 = .ok (.iconst 1, 1) := by decide +kernel
theorem dX3_addSwitch_82 : decode cX3_addSwitch 82 = .ok (.invokestatic 88, 3) := by decide +kernel
theorem dX3_addSwitch_85 : decode cX3_addSwitch 85 = .ok (.invokevirtual 93, 3) := by decide +kernel
theorem dX3_addSwitch_88 : decode cX3_addSwitch 88 = .ok (.return_, 1) := by decide +kernel
theorem dX3_enter_0 : decode cX3_enter 0 = .ok (.iload_n 1, 1) := by decide +kernel
theorem dX3_enter_1 : decode cX3_enter 1 = .ok (.aload_n 0, 1) := by decide +kernel
theorem dX3_enter_2 : decode cX3_enter 2 = .ok (.getfield 9, 3) := by decide +kernel
theorem dX3_enter_5 : decode cX3_enter 5 = .ok (.if_icmp .ne 20, 3) := by decide +kernel
theorem dX3_enter_8 : decode cX3_enter 8 = .ok (.aload_n 0, 1) := by decide +kernel
theorem dX3_enter_9 : decode cX3_enter 9 = .ok (.dup, 1) := by decide +kernel
theorem dX3_enter_10 : decode cX3_enter 10 = .ok (.getfield 9, 3) := by decide +kernel
theorem dX3_enter_13 : decode cX3_enter 13 = .ok (.iconst 1, 1) := by decide +kernel
theorem dX3_enter_14 : decode cX3_enter 14 = .ok (.iadd, 1) := by decide +kernel
theorem dX3_enter_15 : decode cX3_enter 15 = .ok (.putfield 9, 3) := by decide +kernel
theorem dX3_enter_18 : decode cX3_enter 18 = .ok (.aload_n 0, 1) := by decide +kernel
theorem dX3_enter_19 : decode cX3_enter 19 = .ok (.getfield 38, 3) := by decide +kernel
theorem dX3_enter_22 : decode cX3_enter 22 = .ok (.iload_n 1, 1) := by decide +kernel
theorem dX3_enter_23 : decode cX3_enter 23 = .ok (.iconst 0, 1) := by decide +kernel
theorem dX3_enter_24 : decode cX3_enter 24 = .ok (.iastore, 1) := by decide +kernel
theorem dX3_enter_25 : decode cX3_enter 25 = .ok (.aload_n 0, 1) := by decide +kernel
theorem dX3_enter_26 : decode cX3_enter 26 = .ok (.getfield 15, 3) := by decide +kernel
theorem dX3_enter_29 : decode cX3_enter 29 = .ok (.iload_n 1, 1) := by decide +kernel
theorem dX3_enter_30 : decode cX3_enter 30 = .ok (.iload_n 2, 1) := by decide +kernel
theorem dX3_enter_31 : decode cX3_enter 31 = .ok (.iastore, 1) := by decide +kernel
theorem dX3_enter_32 : decode cX3_enter 32 = .ok (.aload_n 0, 1) := by decide +kernel
theorem dX3_enter_33 : decode cX3_enter 33 = .ok (.getfield 19, 3) := by decide +kernel
theorem dX3_enter_36 : decode cX3_enter 36 = .ok (.iload_n 1, 1) := by decide +kernel
theorem dX3_enter_37 : decode cX3_enter 37 = .ok (.iload_n 3, 1) := by decide +kernel
theorem dX3_enter_38 : decode cX3_enter 38 = .ok (.iastore, 1) := by decide +kernel
theorem dX3_enter_39 : decode cX3_enter 39 = .ok (.return_, 1) := by decide +kernel
theorem dX3_addItem_0 : decode cX3_addItem 0 = .ok (.iload_n 1, 1) := by decide +kernel
theorem dX3_addItem_1 : decode cX3_addItem 1 = .ok (.bipush 20, 2) := by decide +kernel
theorem dX3_addItem_3 : decode cX3_addItem 3 = .ok (.imul, 1) := by decide +kernel
theorem dX3_addItem_4 : decode cX3_addItem 4 = .ok (.aload_n 0, 1) := by decide +kernel
theorem dX3_addItem_5 : decode cX3_addItem 5 = .ok (.getfield 41, 3) := by decide +kernel
theorem dX3_addItem_8 : decode cX3_addItem 8 = .ok (.iload_n 1, 1) := by decide +kernel
theorem dX3_addItem_9 : decode cX3_addItem 9 = .ok (.iaload, 1) := by decide +kernel
theorem dX3_addItem_10 : decode cX3_addItem 10 = .ok (.iadd, 1) := by decide +kernel
theorem dX3_addItem_11 : decode cX3_addItem 11 = .ok (.istore 6, 2) := by decide +kernel
theorem dX3_addItem_13 : decode cX3_addItem 13 = .ok (.aload_n 0, 1) := by decide +kernel
theorem dX3_addItem_14 : decode cX3_addItem 14 = .ok (.getfield 41, 3) := by decide +kernel
theorem dX3_addItem_17 : decode cX3_addItem 17 = .ok (.iload_n 1, 1) := by decide +kernel
theorem dX3_addItem_18 : decode cX3_addItem 18 = .ok (.iaload, 1) := by decide +kernel
theorem dX3_addItem_19 : decode cX3_addItem 19 = .ok (.bipush 20, 2) := by decide +kernel
theorem dX3_addItem_21 : decode cX3_addItem 21 = .ok (.if_icmp .ge 57, 3) := by decide +kernel
theorem dX3_addItem_24 : decode cX3_addItem 24 = .ok (.iload 6, 2) := by decide +kernel
theorem dX3_addItem_26 : decode cX3_addItem 26 = .ok (.aload_n 0, 1) := by decide +kernel
theorem dX3_addItem_27 : decode cX3_addItem 27 = .ok (.getfield 44, 3) := by decide +kernel
theorem dX3_addItem_30 : decode cX3_addItem 30 = .ok (.arraylength, 1) := by decide +kernel
theorem dX3_addItem_31 : decode cX3_addItem 31 = .ok (.if_icmp .ge 47, 3) := by decide +kernel
theorem dX3_addItem_34 : decode cX3_addItem 34 = .ok (.aload_n 0, 1) := by decide +kernel
theorem dX3_addItem_35 : decode cX3_addItem 35 = .ok (.getfield 44, 3) := by decide +kernel
theorem dX3_addItem_38 : decode cX3_addItem 38 = .ok (.iload 6, 2) := by decide +kernel
theorem dX3_addItem_40 : decode cX3_addItem 40 = .ok (.iload_n 2, 1) := by decide +kernel
theorem dX3_addItem_41 : decode cX3_addItem 41 = .ok (.iastore, 1) := by decide +kernel
theorem dX3_addItem_42 : decode cX3_addItem 42 = .ok (.aload_n 0, 1) := by decide +kernel
theorem dX3_addItem_43 : decode cX3_addItem 43 = .ok (.getfield 47, 3) := by decide +kernel
theorem dX3_addItem_46 : decode cX3_addItem 46 = .ok (.iload 6, 2) := by decide +kernel
theorem dX3_addItem_48 : decode cX3_addItem 48 = .ok (.iload_n 3, 1) := by decide +kernel
theorem dX3_addItem_49 : decode cX3_addItem 49 = .ok (.iastore, 1) := by decide +kernel
theorem dX3_addItem_50 : decode cX3_addItem 50 = .ok (.aload_n 0, 1) := by decide +kernel
theorem dX3_addItem_51 : decode cX3_addItem 51 = .ok (.getfield 50, 3) := by decide +kernel
theorem dX3_addItem_54 : decode cX3_addItem 54 = .ok (.iload 6, 2) := by decide +kernel
theorem dX3_addItem_56 : decode cX3_addItem 56 = .ok (.iload 4, 2) := by decide +kernel
theorem dX3_addItem_58 : decode cX3_addItem 58 = .ok (.iastore, 1) := by decide +kernel
theorem dX3_addItem_59 : decode cX3_addItem 59 = .ok (.aload_n 0, 1) := by decide +kernel
theorem dX3_addItem_60 : decode cX3_addItem 60 = .ok (.getfield 53, 3) := by decide +kernel
theorem dX3_addItem_63 : decode cX3_addItem 63 = .ok (.iload 6, 2) := by decide +kernel
theorem dX3_addItem_65 : decode cX3_addItem 65 = .ok (.iload 5, 2) := by decide +kernel
theorem dX3_addItem_67 : decode cX3_addItem 67 = .ok (.iastore, 1) := by decide +kernel
theorem dX3_addItem_68 : decode cX3_addItem 68 = .ok (.aload_n 0, 1) := by decide +kernel
theorem dX3_addItem_69 : decode cX3_addItem 69 = .ok (.getfield 41, 3) := by decide +kernel
theorem dX3_addItem_72 : decode cX3_addItem 72 = .ok (.iload_n 1, 1) := by decide +kernel
theorem dX3_addItem_73 : decode cX3_addItem 73 = .ok (.dup2, 1) := by decide +kernel
theorem dX3_addItem_74 : decode cX3_addItem 74 = .ok (.iaload, 1) := by decide +kernel
theorem dX3_addItem_75 : decode cX3_addItem 75 = .ok (.iconst 1, 1) := by decide +kernel
theorem dX3_addItem_76 : decode cX3_addItem 76 = .ok (.iadd, 1) := by decide +kernel
theorem dX3_addItem_77 : decode cX3_addItem 77 = .ok (.iastore, 1) := by decide +kernel
theorem dX3_addItem_78 : decode cX3_addItem 78 = .ok (.return_, 1) := by decide +kernel
theorem dX3_define_0 : decode cX3_define 0 = .ok (.aload_n 0, 1) := by decide +kernel
theorem dX3_define_1 : decode cX3_define 1 = .ok (.aload_n 1, 1) := by decide +kernel
theorem dX3_define_2 : decode cX3_define 2 = .ok (.iload_n 2, 1) := by decide +kernel
theorem dX3_define_3 : decode cX3_define 3 = .ok (.invokevirtual 97, 3) := by decide +kernel
theorem dX3_define_6 : decode cX3_define 6 = .ok (.istore_n 3, 1) := by decide +kernel
theorem dX3_define_7 : decode cX3_define 7 = .ok (.iload_n 3, 1) := by decide +kernel
theorem dX3_define_8 : decode cX3_define 8 = .ok (.iconst (-1), 1) := by decide +kernel
theorem dX3_define_9 : decode cX3_define 9 = .ok (.if_icmp .eq 9, 3) := by decide +kernel
theorem dX3_define_12 : decode cX3_define 12 = .ok (.iload_n 3, 1) := by decide +kernel
theorem dX3_define_13 : decode cX3_define 13 = .ok (.bipush 12, 2) := by decide +kernel
theorem dX3_define_15 : decode cX3_define 15 = .ok (.if_icmp .lt 4, 3) := by decide +kernel
theorem dX3_define_18 : decode cX3_define 18 = .ok (.return_, 1) := by decide +kernel
theorem dX3_define_19 : decode cX3_define 19 = .ok (.iconst 3, 1) := by decide +kernel
theorem dX3_define_20 : decode cX3_define 20 = .ok (.istore 4, 2) := by decide +kernel
theorem dX3_define_22 : decode cX3_define 22 = .ok (.iconst (-1), 1) := by decide +kernel
theorem dX3_define_23 : decode cX3_define 23 = .ok (.istore 5, 2) := by decide +kernel
theorem dX3_define_25 : decode cX3_define 25 = .ok (.aload_n 0, 1) := by decide +kernel
theorem dX3_define_26 : decode cX3_define 26 = .ok (.iconst 0, 1) := by decide +kernel
theorem dX3_define_27 : decode cX3_define 27 = .ok (.putfield 59, 3) := by decide +kernel
theorem dX3_define_30 : decode cX3_define 30 = .ok (.aload_n 0, 1) := by decide +kernel
theorem dX3_define_31 : decode cX3_define 31 = .ok (.aload_n 1, 1) := by decide +kernel
theorem dX3_define_32 : decode cX3_define 32 = .ok (.iconst 3, 1) := by decide +kernel
theorem dX3_define_33 : decode cX3_define 33 = .ok (.bipush 40, 2) := by decide +kernel
theorem dX3_define_35 : decode cX3_define 35 = .ok (.invokevirtual 101, 3) := by decide +kernel
theorem dX3_define_38 : decode cX3_define 38 = .ok (.ifCond .eq 29, 3) := by decide +kernel
theorem dX3_define_41 : decode cX3_define 41 = .ok (.aload_n 1, 1) := by decide +kernel
theorem dX3_define_42 : decode cX3_define 42 = .ok (.getfield 105, 3) := by decide +kernel
theorem dX3_define_45 : decode cX3_define 45 = .ok (.iconst 3, 1) := by decide +kernel
theorem dX3_define_46 : decode cX3_define 46 = .ok (.iaload, 1) := by decide +kernel
theorem dX3_define_47 : decode cX3_define 47 = .ok (.invokestatic 108, 3) := by decide +kernel
theorem dX3_define_50 : decode cX3_define 50 = .ok (.ifCond .ne 17, 3) := by decide +kernel
theorem dX3_define_53 : decode cX3_define 53 = .ok (.aload_n 0, 1) := by decide +kernel
theorem dX3_define_54 : decode cX3_define 54 = .ok (.aload_n 1, 1) := by decide +kernel
theorem dX3_define_55 : decode cX3_define 55 = .ok (.iload_n 2, 1) := by decide +kernel
theorem dX3_define_56 : decode cX3_define 56 = .ok (.invokevirtual 112, 3) := by decide +kernel
theorem dX3_define_59 : decode cX3_define 59 = .ok (.istore 4, 2) := by decide +kernel
theorem dX3_define_61 : decode cX3_define 61 = .ok (.aload_n 0, 1) := by decide +kernel
theorem dX3_define_62 : decode cX3_define 62 = .ok (.getfield 59, 3) := by decide +kernel
theorem dX3_define_65 : decode cX3_define 65 = .ok (.istore 5, 2) := by decide +kernel
theorem dX3_define_67 : decode cX3_define 67 = .ok (.aload_n 0, 1) := by decide +kernel
theorem dX3_define_68 : decode cX3_define 68 = .ok (.getfield 66, 3) := by decide +kernel
theorem dX3_define_71 : decode cX3_define 71 = .ok (.getfield 115, 3) := by decide +kernel
theorem dX3_define_74 : decode cX3_define 74 = .ok (.ifCond .ne 111, 3) := by decide +kernel
theorem dX3_define_77 : decode cX3_define 77 = .ok (.aload_n 0, 1) := by decide +kernel
theorem dX3_define_78 : decode cX3_define 78 = .ok (.aload_n 1, 1) := by decide +kernel
theorem dX3_define_79 : decode cX3_define 79 = .ok (.iload 4, 2) := by decide +kernel
theorem dX3_define_81 : decode cX3_define 81 = .ok (.iload 5, 2) := by decide +kernel
theorem dX3_define_83 : decode cX3_define 83 = .ok (.iconst (-1), 1) := by decide +kernel
theorem dX3_define_84 : decode cX3_define 84 = .ok (.if_icmp .eq 7, 3) := by decide +kernel
theorem dX3_define_87 : decode cX3_define 87 = .ok (.iconst 1, 1) := by decide +kernel
theorem dX3_define_88 : decode cX3_define 88 = .ok (.goto 4, 3) := by decide +kernel
theorem dX3_define_91 : decode cX3_define 91 = .ok (.iconst 0, 1) := by decide +kernel
theorem dX3_define_92 : decode cX3_define 92 = .ok (.invokevirtual 120, 3) := by decide +kernel
theorem dX3_define_95 : decode cX3_define 95 = .ok (.ifCond .eq 90, 3) := by decide +kernel
theorem dX3_define_98 : decode cX3_define 98 = .ok (.aload_n 0, 1) := by decide +kernel
theorem dX3_define_99 : decode cX3_define 99 = .ok (.iload_n 3, 1) := by decide +kernel
theorem dX3_define_100 : decode cX3_define 100 = .ok (.aload_n 1, 1) := by decide +kernel
theorem dX3_define_101 : decode cX3_define 101 = .ok (.iload 4, 2) := by decide +kernel
theorem dX3_define_103 : decode cX3_define 103 = .ok (.iload 5, 2) := by decide +kernel
theorem dX3_define_105 : decode cX3_define 105 = .ok (.iconst (-1), 1) := by decide +kernel
theorem dX3_define_106 : decode cX3_define 106 = .ok (.if_icmp .eq 7, 3) := by decide +kernel
theorem dX3_define_109 : decode cX3_define 109 = .ok (.iconst 1, 1) := by decide +kernel
theorem dX3_define_110 : decode cX3_define 110 = .ok (.goto 4, 3) := by decide +kernel
theorem dX3_define_113 : decode cX3_define 113 = .ok (.iconst 0, 1) := by decide +kernel
theorem dX3_define_114 : decode cX3_define 114 = .ok (.invokevirtual 124, 3) := by decide +kernel
theorem dX3_define_117 : decode cX3_define 117 = .ok (.aload_n 0, 1) := by decide +kernel
theorem dX3_define_118 : decode cX3_define 118 = .ok (.iload_n 3, 1) := by decide +kernel
theorem dX3_define_119 : decode cX3_define 119 = .ok (.aload_n 1, 1) := by decide +kernel
theorem dX3_define_120 : decode cX3_define 120 = .ok (.getfield 128, 3) := by decide +kernel
theorem dX3_define_123 : decode cX3_define 123 = .ok (.iconst 2, 1) := by decide +kernel
theorem dX3_define_124 : decode cX3_define 124 = .ok (.iaload, 1) := by decide +kernel
theorem dX3_define_125 : decode cX3_define 125 = .ok (.aload_n 1, 1) := by decide +kernel
theorem dX3_define_126 : decode cX3_define 126 = .ok (.getfield 105, 3) := by decide +kernel
theorem dX3_define_129 : decode cX3_define 129 = .ok (.iconst 2, 1) := by decide +kernel
theorem dX3_define_130 : decode cX3_define 130 = .ok (.iaload, 1) := by decide +kernel
theorem dX3_define_131 : decode cX3_define 131 = .ok (.invokestatic 131, 3) := by decide +kernel
theorem dX3_define_134 : decode cX3_define 134 = .ok (.invokevirtual 84, 3) := by decide +kernel
theorem dX3_define_137 : decode cX3_define 137 = .ok (.aload_n 0, 1) := by decide +kernel
theorem dX3_define_138 : decode cX3_define 138 = .ok (.getfield 22, 3) := by decide +kernel
theorem dX3_define_141 : decode cX3_define 141 = .ok (.iload_n 3, 1) := by decide +kernel
theorem dX3_define_142 : decode cX3_define 142 = .ok (.iconst 1, 1) := by decide +kernel
theorem dX3_define_143 : decode cX3_define 143 = .ok (.bastore, 1) := by decide +kernel
theorem dX3_define_144 : decode cX3_define 144 = .ok (.aload_n 0, 1) := by decide +kernel
theorem dX3_define_145 : decode cX3_define 145 = .ok (.getfield 26, 3) := by decide +kernel
theorem dX3_define_148 : decode cX3_define 148 = .ok (.iload_n 3, 1) := by decide +kernel
theorem dX3_define_149 : decode cX3_define 149 = .ok (.iload 5, 2) := by decide +kernel
theorem dX3_define_151 : decode cX3_define 151 = .ok (.iastore, 1) := by decide +kernel
theorem dX3_define_152 : decode cX3_define 152 = .ok (.aload_n 0, 1) := by decide +kernel
theorem dX3_define_153 : decode cX3_define 153 = .ok (.getfield 29, 3) := by decide +kernel
theorem dX3_define_156 : decode cX3_define 156 = .ok (.iload_n 3, 1) := by decide +kernel
theorem dX3_define_157 : decode cX3_define 157 = .ok (.aload_n 1, 1) := by decide +kernel
theorem dX3_define_158 : decode cX3_define 158 = .ok (.getfield 134, 3) := by decide +kernel
theorem dX3_define_161 : decode cX3_define 161 = .ok (.iload 4, 2) := by decide +kernel
theorem dX3_define_163 : decode cX3_define 163 = .ok (.isub, 1) := by decide +kernel
theorem dX3_define_164 : decode cX3_define 164 = .ok (.iastore, 1) := by decide +kernel
theorem dX3_define_165 : decode cX3_define 165 = .ok (.aload_n 0, 1) := by decide +kernel
theorem dX3_define_166 : decode cX3_define 166 = .ok (.getfield 32, 3) := by decide +kernel
theorem dX3_define_169 : decode cX3_define 169 = .ok (.iload_n 3, 1) := by decide +kernel
theorem dX3_define_170 : decode cX3_define 170 = .ok (.iload_n 2, 1) := by decide +kernel
theorem dX3_define_171 : decode cX3_define 171 = .ok (.invokestatic 135, 3) := by decide +kernel
theorem dX3_define_174 : decode cX3_define 174 = .ok (.iastore, 1) := by decide +kernel
theorem dX3_define_175 : decode cX3_define 175 = .ok (.aload_n 0, 1) := by decide +kernel
theorem dX3_define_176 : decode cX3_define 176 = .ok (.getfield 35, 3) := by decide +kernel
theorem dX3_define_179 : decode cX3_define 179 = .ok (.iload_n 3, 1) := by decide +kernel
theorem dX3_define_180 : decode cX3_define 180 = .ok (.iload_n 2, 1) := by decide +kernel
theorem dX3_define_181 : decode cX3_define 181 = .ok (.invokestatic 137, 3) := by decide +kernel
theorem dX3_define_184 : decode cX3_define 184 = .ok (.iastore, 1) := by decide +kernel
theorem dX3_define_185 : decode cX3_define 185 = .ok (.return_, 1) := by decide +kernel
theorem dX3_newNumber_0 : decode cX3_newNumber 0 = .ok (.aload_n 1, 1) := by decide +kernel
theorem dX3_newNumber_1 : decode cX3_newNumber 1 = .ok (.getfield 134, 3) := by decide +kernel
theorem dX3_newNumber_4 : decode cX3_newNumber 4 = .ok (.iconst 3, 1) := by decide +kernel
theorem dX3_newNumber_5 : decode cX3_newNumber 5 = .ok (.if_icmp .ge 14, 3) := by decide +kernel
theorem dX3_newNumber_8 : decode cX3_newNumber 8 = .ok (.aload_n 0, 1) := by decide +kernel
theorem dX3_newNumber_9 : decode cX3_newNumber 9 = .ok (.getfield 66, 3) := by decide +kernel
theorem dX3_newNumber_12 : decode cX3_newNumber 12 = .ok (.iconst 2, 1) := by decide +kernel
theorem dX3_newNumber_13 : decode cX3_newNumber 13 = .ok (.iload_n 2, 1) := by decide +kernel
theorem dX3_newNumber_14 : decode cX3_newNumber 14 = .ok (.invokevirtual 139, 3) := by decide +kernel
theorem dX3_newNumber_17 : decode cX3_newNumber 17 = .ok (.iconst (-1), 1) := by decide +kernel
theorem dX3_newNumber_18 : decode cX3_newNumber 18 = .ok (.ireturn, 1) := by decide +kernel
theorem dX3_newNumber_19 : decode cX3_newNumber 19 = .ok (.aload_n 1, 1) := by decide +kernel
theorem dX3_newNumber_20 : decode cX3_newNumber 20 = .ok (.getfield 105, 3) := by decide +kernel
theorem dX3_newNumber_23 : decode cX3_newNumber 23 = .ok (.iconst 2, 1) := by decide +kernel
theorem dX3_newNumber_24 : decode cX3_newNumber 24 = .ok (.iaload, 1) := by decide +kernel
theorem dX3_newNumber_25 : decode cX3_newNumber 25 = .ok (.invokestatic 131, 3) := by decide +kernel
theorem dX3_newNumber_28 : decode cX3_newNumber 28 = .ok (.istore_n 3, 1) := by decide +kernel
theorem dX3_newNumber_29 : decode cX3_newNumber 29 = .ok (.aload_n 1, 1) := by decide +kernel
theorem dX3_newNumber_30 : decode cX3_newNumber 30 = .ok (.getfield 128, 3) := by decide +kernel
theorem dX3_newNumber_33 : decode cX3_newNumber 33 = .ok (.iconst 2, 1) := by decide +kernel
theorem dX3_newNumber_34 : decode cX3_newNumber 34 = .ok (.iaload, 1) := by decide +kernel
theorem dX3_newNumber_35 : decode cX3_newNumber 35 = .ok (.istore 4, 2) := by decide +kernel
theorem dX3_newNumber_37 : decode cX3_newNumber 37 = .ok (.aload_n 1, 1) := by decide +kernel
theorem dX3_newNumber_38 : decode cX3_newNumber 38 = .ok (.getfield 105, 3) := by decide +kernel
theorem dX3_newNumber_41 : decode cX3_newNumber 41 = .ok (.iconst 2, 1) := by decide +kernel
theorem dX3_newNumber_42 : decode cX3_newNumber 42 = .ok (.iaload, 1) := by decide +kernel
theorem dX3_newNumber_43 : decode cX3_newNumber 43 = .ok (.invokestatic 143, 3) := by decide +kernel
theorem dX3_newNumber_46 : decode cX3_newNumber 46 = .ok (.ifCond .ne 24, 3) := by decide +kernel
theorem dX3_newNumber_49 : decode cX3_newNumber 49 = .ok (.aload_n 0, 1) := by decide +kernel
theorem dX3_newNumber_50 : decode cX3_newNumber 50 = .ok (.getfield 62, 3) := by decide +kernel
theorem dX3_newNumber_53 : decode cX3_newNumber 53 = .ok (.getfield 70, 3) := by decide +kernel
theorem dX3_newNumber_56 : decode cX3_newNumber 56 = .ok (.iload 4, 2) := by decide +kernel
theorem dX3_newNumber_58 : decode cX3_newNumber 58 = .ok (.iload 4, 2) := by decide +kernel
theorem dX3_newNumber_60 : decode cX3_newNumber 60 = .ok (.iload_n 3, 1) := by decide +kernel
theorem dX3_newNumber_61 : decode cX3_newNumber 61 = .ok (.iadd, 1) := by decide +kernel
theorem dX3_newNumber_62 : decode cX3_newNumber 62 = .ok (.ldc 146, 2) := by decide +kernel
theorem dX3_newNumber_64 : decode cX3_newNumber 64 = .ok (.invokestatic 148, 3) := by decide +kernel
theorem dX3_newNumber_67 : decode cX3_newNumber 67 = .ok (.ifCond .eq 19, 3) := by decide +kernel
theorem dX3_newNumber_70 : decode cX3_newNumber 70 = .ok (.aload_n 0, 1) := by decide +kernel
theorem dX3_newNumber_71 : decode cX3_newNumber 71 = .ok (.getfield 66, 3) := by decide +kernel
theorem dX3_newNumber_74 : decode cX3_newNumber 74 = .ok (.iconst 2, 1) := by decide +kernel
theorem dX3_newNumber_75 : decode cX3_newNumber 75 = .ok (.aload_n 1, 1) := by decide +kernel
theorem dX3_newNumber_76 : decode cX3_newNumber 76 = .ok (.getfield 105, 3) := by decide +kernel
theorem dX3_newNumber_79 : decode cX3_newNumber 79 = .ok (.iconst 2, 1) := by decide +kernel
theorem dX3_newNumber_80 : decode cX3_newNumber 80 = .ok (.iaload, 1) := by decide +kernel
theorem dX3_newNumber_81 : decode cX3_newNumber 81 = .ok (.invokevirtual 139, 3) := by decide +kernel
theorem dX3_newNumber_84 : decode cX3_newNumber 84 = .ok (.iconst (-1), 1) := by decide +kernel
theorem dX3_newNumber_85 : decode cX3_newNumber 85 = .ok (.ireturn, 1) := by decide +kernel
theorem dX3_newNumber_86 : decode cX3_newNumber 86 = .ok (.aload_n 0, 1) := by decide +kernel
theorem dX3_newNumber_87 : decode cX3_newNumber 87 = .ok (.iload 4, 2) := by decide +kernel
theorem dX3_newNumber_89 : decode cX3_newNumber 89 = .ok (.iload_n 3, 1) := by decide +kernel
theorem dX3_newNumber_90 : decode cX3_newNumber 90 = .ok (.invokevirtual 80, 3) := by decide +kernel
theorem dX3_newNumber_93 : decode cX3_newNumber 93 = .ok (.istore 5, 2) := by decide +kernel
theorem dX3_newNumber_95 : decode cX3_newNumber 95 = .ok (.iload 5, 2) := by decide +kernel
theorem dX3_newNumber_97 : decode cX3_newNumber 97 = .ok (.iconst (-1), 1) := by decide +kernel
theorem dX3_newNumber_98 : decode cX3_newNumber 98 = .ok (.if_icmp .eq 29, 3) := by decide +kernel
theorem dX3_newNumber_101 : decode cX3_newNumber 101 = .ok (.aload_n 0, 1) := by decide +kernel
theorem dX3_newNumber_102 : decode cX3_newNumber 102 = .ok (.getfield 22, 3) := by decide +kernel
theorem dX3_newNumber_105 : decode cX3_newNumber 105 = .ok (.iload 5, 2) := by decide +kernel
theorem dX3_newNumber_107 : decode cX3_newNumber 107 = .ok (.baload, 1) := by decide +kernel
theorem dX3_newNumber_108 : decode cX3_newNumber 108 = .ok (.ifCond .eq 19, 3) := by decide +kernel
theorem dX3_newNumber_111 : decode cX3_newNumber 111 = .ok (.aload_n 0, 1) := by decide +kernel
theorem dX3_newNumber_112 : decode cX3_newNumber 112 = .ok (.getfield 66, 3) := by decide +kernel
theorem dX3_newNumber_115 : decode cX3_newNumber 115 = .ok (.iconst 5, 1) := by decide +kernel
theorem dX3_newNumber_116 : decode cX3_newNumber 116 = .ok (.aload_n 1, 1) := by decide +kernel
theorem dX3_newNumber_117 : decode cX3_newNumber 117 = .ok (.getfield 105, 3) := by decide +kernel
theorem dX3_newNumber_120 : decode cX3_newNumber 120 = .ok (.iconst 2, 1) := by decide +kernel
theorem dX3_newNumber_121 : decode cX3_newNumber 121 = .ok (.iaload, 1) := by decide +kernel
theorem dX3_newNumber_122 : decode cX3_newNumber 122 = .ok (.invokevirtual 139, 3) := by decide +kernel
theorem dX3_newNumber_125 : decode cX3_newNumber 125 = .ok (.iconst (-1), 1) := by decide +kernel
theorem dX3_newNumber_126 : decode cX3_newNumber 126 = .ok (.ireturn, 1) := by decide +kernel
theorem dX3_newNumber_127 : decode cX3_newNumber 127 = .ok (.iload 5, 2) := by decide +kernel
theorem dX3_newNumber_129 : decode cX3_newNumber 129 = .ok (.iconst (-1), 1) := by decide +kernel
theorem dX3_newNumber_130 : decode cX3_newNumber 130 = .ok (.if_icmp .ne 29, 3) := by decide +kernel
theorem dX3_newNumber_133 : decode cX3_newNumber 133 = .ok (.aload_n 0, 1) := by decide +kernel
theorem dX3_newNumber_134 : decode cX3_newNumber 134 = .ok (.getfield 9, 3) := by decide +kernel
theorem dX3_newNumber_137 : decode cX3_newNumber 137 = .ok (.bipush 12, 2) := by decide +kernel
theorem dX3_newNumber_139 : decode cX3_newNumber 139 = .ok (.if_icmp .lt 20, 3) := by decide +kernel
theorem dX3_newNumber_142 : decode cX3_newNumber 142 = .ok (.aload_n 0, 1) := by decide +kernel
theorem dX3_newNumber_143 : decode cX3_newNumber 143 = .ok (.getfield 66, 3) := by decide +kernel
theorem dX3_newNumber_146 : decode cX3_newNumber 146 = .ok (.bipush 7, 2) := by decide +kernel
theorem dX3_newNumber_148 : decode cX3_newNumber 148 = .ok (.aload_n 1, 1) := by decide +kernel
theorem dX3_newNumber_149 : decode cX3_newNumber 149 = .ok (.getfield 105, 3) := by decide +kernel
theorem dX3_newNumber_152 : decode cX3_newNumber 152 = .ok (.iconst 2, 1) := by decide +kernel
theorem dX3_newNumber_153 : decode cX3_newNumber 153 = .ok (.iaload, 1) := by decide +kernel
theorem dX3_newNumber_154 : decode cX3_newNumber 154 = .ok (.invokevirtual 139, 3) := by decide +kernel
theorem dX3_newNumber_157 : decode cX3_newNumber 157 = .ok (.iconst (-1), 1) := by decide +kernel
theorem dX3_newNumber_158 : decode cX3_newNumber 158 = .ok (.ireturn, 1) := by decide +kernel
theorem dX3_newNumber_159 : decode cX3_newNumber 159 = .ok (.iload 5, 2) := by decide +kernel
theorem dX3_newNumber_161 : decode cX3_newNumber 161 = .ok (.iconst (-1), 1) := by decide +kernel
theorem dX3_newNumber_162 : decode cX3_newNumber 162 = .ok (.if_icmp .ne 10, 3) := by decide +kernel
theorem dX3_newNumber_165 : decode cX3_newNumber 165 = .ok (.aload_n 0, 1) := by decide +kernel
theorem dX3_newNumber_166 : decode cX3_newNumber 166 = .ok (.getfield 9, 3) := by decide +kernel
theorem dX3_newNumber_169 : decode cX3_newNumber 169 = .ok (.goto 5, 3) := by decide +kernel
theorem dX3_newNumber_172 : decode cX3_newNumber 172 = .ok (.iload 5, 2) := by decide +kernel
theorem dX3_newNumber_174 : decode cX3_newNumber 174 = .ok (.ireturn, 1) := by decide +kernel
theorem dX3_isSign_0 : decode cX3_isSign 0 = .ok (.iload_n 2, 1) := by decide +kernel
theorem dX3_isSign_1 : decode cX3_isSign 1 = .ok (.ifCond .lt 38, 3) := by decide +kernel
theorem dX3_isSign_4 : decode cX3_isSign 4 = .ok (.iload_n 2, 1) := by decide +kernel
theorem dX3_isSign_5 : decode cX3_isSign 5 = .ok (.aload_n 1, 1) := by decide +kernel
theorem dX3_isSign_6 : decode cX3_isSign 6 = .ok (.getfield 134, 3) := by decide +kernel
theorem dX3_isSign_9 : decode cX3_isSign 9 = .ok (.if_icmp .ge 30, 3) := by decide +kernel
theorem dX3_isSign_12 : decode cX3_isSign 12 = .ok (.aload_n 0, 1) := by decide +kernel
theorem dX3_isSign_13 : decode cX3_isSign 13 = .ok (.getfield 62, 3) := by decide +kernel
theorem dX3_isSign_16 : decode cX3_isSign 16 = .ok (.aload_n 1, 1) := by decide +kernel
theorem dX3_isSign_17 : decode cX3_isSign 17 = .ok (.getfield 128, 3) := by decide +kernel
theorem dX3_isSign_20 : decode cX3_isSign 20 = .ok (.iload_n 2, 1) := by decide +kernel
theorem dX3_isSign_21 : decode cX3_isSign 21 = .ok (.iaload, 1) := by decide +kernel
theorem dX3_isSign_22 : decode cX3_isSign 22 = .ok (.aload_n 1, 1) := by decide +kernel
theorem dX3_isSign_23 : decode cX3_isSign 23 = .ok (.getfield 105, 3) := by decide +kernel
theorem dX3_isSign_26 : decode cX3_isSign 26 = .ok (.iload_n 2, 1) := by decide +kernel
theorem dX3_isSign_27 : decode cX3_isSign 27 = .ok (.iaload, 1) := by decide +kernel
theorem dX3_isSign_28 : decode cX3_isSign 28 = .ok (.invokevirtual 152, 3) := by decide +kernel
theorem dX3_isSign_31 : decode cX3_isSign 31 = .ok (.iload_n 3, 1) := by decide +kernel
theorem dX3_isSign_32 : decode cX3_isSign 32 = .ok (.if_icmp .ne 7, 3) := by decide +kernel
theorem dX3_isSign_35 : decode cX3_isSign 35 = .ok (.iconst 1, 1) := by decide +kernel
theorem dX3_isSign_36 : decode cX3_isSign 36 = .ok (.goto 4, 3) := by decide +kernel
theorem dX3_isSign_39 : decode cX3_isSign 39 = .ok (.iconst 0, 1) := by decide +kernel
theorem dX3_isSign_40 : decode cX3_isSign 40 = .ok (.ireturn, 1) := by decide +kernel
theorem dX3_tellParameters_0 : decode cX3_tellParameters 0 = .ok (.aload_n 0, 1) := by decide +kernel
theorem dX3_tellParameters_1 : decode cX3_tellParameters 1 = .ok (.aload_n 1, 1) := by decide +kernel
theorem dX3_tellParameters_2 : decode cX3_tellParameters 2 = .ok (.iconst 4, 1) := by decide +kernel
theorem dX3_tellParameters_3 : decode cX3_tellParameters 3 = .ok (.bipush 41, 2) := by decide +kernel
theorem dX3_tellParameters_5 : decode cX3_tellParameters 5 = .ok (.invokevirtual 101, 3) := by decide +kernel
theorem dX3_tellParameters_8 : decode cX3_tellParameters 8 = .ok (.ifCond .eq 5, 3) := by decide +kernel
theorem dX3_tellParameters_11 : decode cX3_tellParameters 11 = .ok (.iconst 5, 1) := by decide +kernel
theorem dX3_tellParameters_12 : decode cX3_tellParameters 12 = .ok (.ireturn, 1) := by decide +kernel
theorem dX3_tellParameters_13 : decode cX3_tellParameters 13 = .ok (.iconst 4, 1) := by decide +kernel
theorem dX3_tellParameters_14 : decode cX3_tellParameters 14 = .ok (.istore_n 3, 1) := by decide +kernel
theorem dX3_tellParameters_15 : decode cX3_tellParameters 15 = .ok (.iload_n 3, 1) := by decide +kernel
theorem dX3_tellParameters_16 : decode cX3_tellParameters 16 = .ok (.aload_n 1, 1) := by decide +kernel
theorem dX3_tellParameters_17 : decode cX3_tellParameters 17 = .ok (.getfield 134, 3) := by decide +kernel
theorem dX3_tellParameters_20 : decode cX3_tellParameters 20 = .ok (.if_icmp .ge 159, 3) := by decide +kernel
theorem dX3_tellParameters_23 : decode cX3_tellParameters 23 = .ok (.aload_n 1, 1) := by decide +kernel
theorem dX3_tellParameters_24 : decode cX3_tellParameters 24 = .ok (.getfield 105, 3) := by decide +kernel
theorem dX3_tellParameters_27 : decode cX3_tellParameters 27 = .ok (.iload_n 3, 1) := by decide +kernel
theorem dX3_tellParameters_28 : decode cX3_tellParameters 28 = .ok (.iaload, 1) := by decide +kernel
theorem dX3_tellParameters_29 : decode cX3_tellParameters 29 = .ok (.invokestatic 143, 3) := by decide +kernel
theorem dX3_tellParameters_32 : decode cX3_tellParameters 32 = .ok (.ifCond .ne 13, 3) := by decide +kernel
theorem dX3_tellParameters_35 : decode cX3_tellParameters 35 = .ok (.aload_n 0, 1) := by decide +kernel
theorem dX3_tellParameters_36 : decode cX3_tellParameters 36 = .ok (.aload_n 1, 1) := by decide +kernel
theorem dX3_tellParameters_37 : decode cX3_tellParameters 37 = .ok (.iload_n 3, 1) := by decide +kernel
theorem dX3_tellParameters_38 : decode cX3_tellParameters 38 = .ok (.invokevirtual 155, 3) := by decide +kernel
theorem dX3_tellParameters_41 : decode cX3_tellParameters 41 = .ok (.iconst (-1), 1) := by decide +kernel
theorem dX3_tellParameters_42 : decode cX3_tellParameters 42 = .ok (.if_icmp .eq 22, 3) := by decide +kernel
theorem dX3_tellParameters_45 : decode cX3_tellParameters 45 = .ok (.aload_n 0, 1) := by decide +kernel
theorem dX3_tellParameters_46 : decode cX3_tellParameters 46 = .ok (.getfield 66, 3) := by decide +kernel
theorem dX3_tellParameters_49 : decode cX3_tellParameters 49 = .ok (.iconst 2, 1) := by decide +kernel
theorem dX3_tellParameters_50 : decode cX3_tellParameters 50 = .ok (.aload_n 1, 1) := by decide +kernel
theorem dX3_tellParameters_51 : decode cX3_tellParameters 51 = .ok (.getfield 105, 3) := by decide +kernel
theorem dX3_tellParameters_54 : decode cX3_tellParameters 54 = .ok (.iload_n 3, 1) := by decide +kernel
theorem dX3_tellParameters_55 : decode cX3_tellParameters 55 = .ok (.iaload, 1) := by decide +kernel
theorem dX3_tellParameters_56 : decode cX3_tellParameters 56 = .ok (.invokevirtual 139, 3) := by decide +kernel
theorem dX3_tellParameters_59 : decode cX3_tellParameters 59 = .ok (.aload_n 1, 1) := by decide +kernel
theorem dX3_tellParameters_60 : decode cX3_tellParameters 60 = .ok (.getfield 134, 3) := by decide +kernel
theorem dX3_tellParameters_63 : decode cX3_tellParameters 63 = .ok (.ireturn, 1) := by decide +kernel
theorem dX3_tellParameters_64 : decode cX3_tellParameters 64 = .ok (.aload_n 0, 1) := by decide +kernel
theorem dX3_tellParameters_65 : decode cX3_tellParameters 65 = .ok (.getfield 59, 3) := by decide +kernel
theorem dX3_tellParameters_68 : decode cX3_tellParameters 68 = .ok (.iconst 4, 1) := by decide +kernel
theorem dX3_tellParameters_69 : decode cX3_tellParameters 69 = .ok (.if_icmp .lt 23, 3) := by decide +kernel
theorem dX3_tellParameters_72 : decode cX3_tellParameters 72 = .ok (.aload_n 0, 1) := by decide +kernel
theorem dX3_tellParameters_73 : decode cX3_tellParameters 73 = .ok (.getfield 66, 3) := by decide +kernel
theorem dX3_tellParameters_76 : decode cX3_tellParameters 76 = .ok (.bipush 7, 2) := by decide +kernel
theorem dX3_tellParameters_78 : decode cX3_tellParameters 78 = .ok (.aload_n 1, 1) := by decide +kernel
theorem dX3_tellParameters_79 : decode cX3_tellParameters 79 = .ok (.getfield 105, 3) := by decide +kernel
theorem dX3_tellParameters_82 : decode cX3_tellParameters 82 = .ok (.iload_n 3, 1) := by decide +kernel
theorem dX3_tellParameters_83 : decode cX3_tellParameters 83 = .ok (.iaload, 1) := by decide +kernel
theorem dX3_tellParameters_84 : decode cX3_tellParameters 84 = .ok (.invokevirtual 139, 3) := by decide +kernel
theorem dX3_tellParameters_87 : decode cX3_tellParameters 87 = .ok (.aload_n 1, 1) := by decide +kernel
theorem dX3_tellParameters_88 : decode cX3_tellParameters 88 = .ok (.getfield 134, 3) := by decide +kernel
theorem dX3_tellParameters_91 : decode cX3_tellParameters 91 = .ok (.ireturn, 1) := by decide +kernel
theorem dX3_tellParameters_92 : decode cX3_tellParameters 92 = .ok (.aload_n 0, 1) := by decide +kernel
theorem dX3_tellParameters_93 : decode cX3_tellParameters 93 = .ok (.getfield 56, 3) := by decide +kernel
theorem dX3_tellParameters_96 : decode cX3_tellParameters 96 = .ok (.aload_n 0, 1) := by decide +kernel
theorem dX3_tellParameters_97 : decode cX3_tellParameters 97 = .ok (.getfield 59, 3) := by decide +kernel
theorem dX3_tellParameters_100 : decode cX3_tellParameters 100 = .ok (.iload_n 3, 1) := by decide +kernel
theorem dX3_tellParameters_101 : decode cX3_tellParameters 101 = .ok (.iastore, 1) := by decide +kernel
theorem dX3_tellParameters_102 : decode cX3_tellParameters 102 = .ok (.aload_n 0, 1) := by decide +kernel
theorem dX3_tellParameters_103 : decode cX3_tellParameters 103 = .ok (.dup, 1) := by decide +kernel
theorem dX3_tellParameters_104 : decode cX3_tellParameters 104 = .ok (.getfield 59, 3) := by decide +kernel
theorem dX3_tellParameters_107 : decode cX3_tellParameters 107 = .ok (.iconst 1, 1) := by decide +kernel
theorem dX3_tellParameters_108 : decode cX3_tellParameters 108 = .ok (.iadd, 1) := by decide +kernel
theorem dX3_tellParameters_109 : decode cX3_tellParameters 109 = .ok (.putfield 59, 3) := by decide +kernel
theorem dX3_tellParameters_112 : decode cX3_tellParameters 112 = .ok (.aload_n 0, 1) := by decide +kernel
theorem dX3_tellParameters_113 : decode cX3_tellParameters 113 = .ok (.aload_n 1, 1) := by decide +kernel
theorem dX3_tellParameters_114 : decode cX3_tellParameters 114 = .ok (.iload_n 3, 1) := by decide +kernel
theorem dX3_tellParameters_115 : decode cX3_tellParameters 115 = .ok (.iconst 1, 1) := by decide +kernel
theorem dX3_tellParameters_116 : decode cX3_tellParameters 116 = .ok (.iadd, 1) := by decide +kernel
theorem dX3_tellParameters_117 : decode cX3_tellParameters 117 = .ok (.bipush 41, 2) := by decide +kernel
theorem dX3_tellParameters_119 : decode cX3_tellParameters 119 = .ok (.invokevirtual 101, 3) := by decide +kernel
theorem dX3_tellParameters_122 : decode cX3_tellParameters 122 = .ok (.ifCond .eq 7, 3) := by decide +kernel
theorem dX3_tellParameters_125 : decode cX3_tellParameters 125 = .ok (.iload_n 3, 1) := by decide +kernel
theorem dX3_tellParameters_126 : decode cX3_tellParameters 126 = .ok (.iconst 2, 1) := by decide +kernel
theorem dX3_tellParameters_127 : decode cX3_tellParameters 127 = .ok (.iadd, 1) := by decide +kernel
theorem dX3_tellParameters_128 : decode cX3_tellParameters 128 = .ok (.ireturn, 1) := by decide +kernel
theorem dX3_tellParameters_129 : decode cX3_tellParameters 129 = .ok (.iload_n 3, 1) := by decide +kernel
theorem dX3_tellParameters_130 : decode cX3_tellParameters 130 = .ok (.iconst 1, 1) := by decide +kernel
theorem dX3_tellParameters_131 : decode cX3_tellParameters 131 = .ok (.iadd, 1) := by decide +kernel
theorem dX3_tellParameters_132 : decode cX3_tellParameters 132 = .ok (.aload_n 1, 1) := by decide +kernel
theorem dX3_tellParameters_133 : decode cX3_tellParameters 133 = .ok (.getfield 134, 3) := by decide +kernel
theorem dX3_tellParameters_136 : decode cX3_tellParameters 136 = .ok (.if_icmp .ge 37, 3) := by decide +kernel
theorem dX3_tellParameters_139 : decode cX3_tellParameters 139 = .ok (.aload_n 0, 1) := by decide +kernel
theorem dX3_tellParameters_140 : decode cX3_tellParameters 140 = .ok (.aload_n 1, 1) := by decide +kernel
theorem dX3_tellParameters_141 : decode cX3_tellParameters 141 = .ok (.iload_n 3, 1) := by decide +kernel
theorem dX3_tellParameters_142 : decode cX3_tellParameters 142 = .ok (.iconst 1, 1) := by decide +kernel
theorem dX3_tellParameters_143 : decode cX3_tellParameters 143 = .ok (.iadd, 1) := by decide +kernel
theorem dX3_tellParameters_144 : decode cX3_tellParameters 144 = .ok (.bipush 44, 2) := by decide +kernel
theorem dX3_tellParameters_146 : decode cX3_tellParameters 146 = .ok (.invokevirtual 101, 3) := by decide +kernel
theorem dX3_tellParameters_149 : decode cX3_tellParameters 149 = .ok (.ifCond .ne 24, 3) := by decide +kernel
theorem dX3_tellParameters_152 : decode cX3_tellParameters 152 = .ok (.aload_n 0, 1) := by decide +kernel
theorem dX3_tellParameters_153 : decode cX3_tellParameters 153 = .ok (.getfield 66, 3) := by decide +kernel
theorem dX3_tellParameters_156 : decode cX3_tellParameters 156 = .ok (.iconst 2, 1) := by decide +kernel
theorem dX3_tellParameters_157 : decode cX3_tellParameters 157 = .ok (.aload_n 1, 1) := by decide +kernel
theorem dX3_tellParameters_158 : decode cX3_tellParameters 158 = .ok (.getfield 105, 3) := by decide +kernel
theorem dX3_tellParameters_161 : decode cX3_tellParameters 161 = .ok (.iload_n 3, 1) := by decide +kernel
theorem dX3_tellParameters_162 : decode cX3_tellParameters 162 = .ok (.iconst 1, 1) := by decide +kernel
theorem dX3_tellParameters_163 : decode cX3_tellParameters 163 = .ok (.iadd, 1) := by decide +kernel
theorem dX3_tellParameters_164 : decode cX3_tellParameters 164 = .ok (.iaload, 1) := by decide +kernel
theorem dX3_tellParameters_165 : decode cX3_tellParameters 165 = .ok (.invokevirtual 139, 3) := by decide +kernel
theorem dX3_tellParameters_168 : decode cX3_tellParameters 168 = .ok (.aload_n 1, 1) := by decide +kernel
theorem dX3_tellParameters_169 : decode cX3_tellParameters 169 = .ok (.getfield 134, 3) := by decide +kernel
theorem dX3_tellParameters_172 : decode cX3_tellParameters 172 = .ok (.ireturn, 1) := by decide +kernel
theorem dX3_tellParameters_173 : decode cX3_tellParameters 173 = .ok (.iinc 3 2, 3) := by decide +kernel
theorem dX3_tellParameters_176 : decode cX3_tellParameters 176 = .ok (.goto (-161), 3) := by decide +kernel
theorem dX3_tellParameters_179 : decode cX3_tellParameters 179 = .ok (.aload_n 0, 1) := by decide +kernel
theorem dX3_tellParameters_180 : decode cX3_tellParameters 180 = .ok (.getfield 66, 3) := by decide +kernel
theorem dX3_tellParameters_183 : decode cX3_tellParameters 183 = .ok (.iconst 2, 1) := by decide +kernel
theorem dX3_tellParameters_184 : decode cX3_tellParameters 184 = .ok (.iload_n 2, 1) := by decide +kernel
theorem dX3_tellParameters_185 : decode cX3_tellParameters 185 = .ok (.invokevirtual 139, 3) := by decide +kernel
theorem dX3_tellParameters_188 : decode cX3_tellParameters 188 = .ok (.aload_n 1, 1) := by decide +kernel
theorem dX3_tellParameters_189 : decode cX3_tellParameters 189 = .ok (.getfield 134, 3) := by decide +kernel
theorem dX3_tellParameters_192 : decode cX3_tellParameters 192 = .ok (.ireturn, 1) := by decide +kernel
theorem dX3_parameterAt_0 : decode cX3_parameterAt 0 = .ok (.iload_n 2, 1) := by decide +kernel
theorem dX3_parameterAt_1 : decode cX3_parameterAt 1 = .ok (.ifCond .lt 11, 3) := by decide +kernel
theorem dX3_parameterAt_4 : decode cX3_parameterAt 4 = .ok (.iload_n 2, 1) := by decide +kernel
theorem dX3_parameterAt_5 : decode cX3_parameterAt 5 = .ok (.aload_n 1, 1) := by decide +kernel
theorem dX3_parameterAt_6 : decode cX3_parameterAt 6 = .ok (.getfield 134, 3) := by decide +kernel
theorem dX3_parameterAt_9 : decode cX3_parameterAt 9 = .ok (.if_icmp .lt 5, 3) := by decide +kernel
theorem dX3_parameterAt_12 : decode cX3_parameterAt 12 = .ok (.iconst (-1), 1) := by decide +kernel
theorem dX3_parameterAt_13 : decode cX3_parameterAt 13 = .ok (.ireturn, 1) := by decide +kernel
theorem dX3_parameterAt_14 : decode cX3_parameterAt 14 = .ok (.aload_n 1, 1) := by decide +kernel
theorem dX3_parameterAt_15 : decode cX3_parameterAt 15 = .ok (.getfield 105, 3) := by decide +kernel
theorem dX3_parameterAt_18 : decode cX3_parameterAt 18 = .ok (.iload_n 2, 1) := by decide +kernel
theorem dX3_parameterAt_19 : decode cX3_parameterAt 19 = .ok (.iaload, 1) := by decide +kernel
theorem dX3_parameterAt_20 : decode cX3_parameterAt 20 = .ok (.invokestatic 131, 3) := by decide +kernel
theorem dX3_parameterAt_23 : decode cX3_parameterAt 23 = .ok (.istore_n 3, 1) := by decide +kernel
theorem dX3_parameterAt_24 : decode cX3_parameterAt 24 = .ok (.iconst 0, 1) := by decide +kernel
theorem dX3_parameterAt_25 : decode cX3_parameterAt 25 = .ok (.istore 4, 2) := by decide +kernel
theorem dX3_parameterAt_27 : decode cX3_parameterAt 27 = .ok (.iload 4, 2) := by decide +kernel
theorem dX3_parameterAt_29 : decode cX3_parameterAt 29 = .ok (.aload_n 0, 1) := by decide +kernel
theorem dX3_parameterAt_30 : decode cX3_parameterAt 30 = .ok (.getfield 59, 3) := by decide +kernel
theorem dX3_parameterAt_33 : decode cX3_parameterAt 33 = .ok (.if_icmp .ge 68, 3) := by decide +kernel
theorem dX3_parameterAt_36 : decode cX3_parameterAt 36 = .ok (.iload 4, 2) := by decide +kernel
theorem dX3_parameterAt_38 : decode cX3_parameterAt 38 = .ok (.iconst 4, 1) := by decide +kernel
theorem dX3_parameterAt_39 : decode cX3_parameterAt 39 = .ok (.if_icmp .ge 62, 3) := by decide +kernel
theorem dX3_parameterAt_42 : decode cX3_parameterAt 42 = .ok (.aload_n 0, 1) := by decide +kernel
theorem dX3_parameterAt_43 : decode cX3_parameterAt 43 = .ok (.getfield 56, 3) := by decide +kernel
theorem dX3_parameterAt_46 : decode cX3_parameterAt 46 = .ok (.iload 4, 2) := by decide +kernel
theorem dX3_parameterAt_48 : decode cX3_parameterAt 48 = .ok (.iaload, 1) := by decide +kernel
theorem dX3_parameterAt_49 : decode cX3_parameterAt 49 = .ok (.istore 5, 2) := by decide +kernel
theorem dX3_parameterAt_51 : decode cX3_parameterAt 51 = .ok (.aload_n 1, 1) := by decide +kernel
theorem dX3_parameterAt_52 : decode cX3_parameterAt 52 = .ok (.getfield 105, 3) := by decide +kernel
theorem dX3_parameterAt_55 : decode cX3_parameterAt 55 = .ok (.iload 5, 2) := by decide +kernel
theorem dX3_parameterAt_57 : decode cX3_parameterAt 57 = .ok (.iaload, 1) := by decide +kernel
theorem dX3_parameterAt_58 : decode cX3_parameterAt 58 = .ok (.invokestatic 131, 3) := by decide +kernel
theorem dX3_parameterAt_61 : decode cX3_parameterAt 61 = .ok (.iload_n 3, 1) := by decide +kernel
theorem dX3_parameterAt_62 : decode cX3_parameterAt 62 = .ok (.if_icmp .ne 33, 3) := by decide +kernel
theorem dX3_parameterAt_65 : decode cX3_parameterAt 65 = .ok (.aload_n 0, 1) := by decide +kernel
theorem dX3_parameterAt_66 : decode cX3_parameterAt 66 = .ok (.getfield 62, 3) := by decide +kernel
theorem dX3_parameterAt_69 : decode cX3_parameterAt 69 = .ok (.getfield 70, 3) := by decide +kernel
theorem dX3_parameterAt_72 : decode cX3_parameterAt 72 = .ok (.aload_n 1, 1) := by decide +kernel
theorem dX3_parameterAt_73 : decode cX3_parameterAt 73 = .ok (.getfield 128, 3) := by decide +kernel
theorem dX3_parameterAt_76 : decode cX3_parameterAt 76 = .ok (.iload_n 2, 1) := by decide +kernel
theorem dX3_parameterAt_77 : decode cX3_parameterAt 77 = .ok (.iaload, 1) := by decide +kernel
theorem dX3_parameterAt_78 : decode cX3_parameterAt 78 = .ok (.aload_n 1, 1) := by decide +kernel
theorem dX3_parameterAt_79 : decode cX3_parameterAt 79 = .ok (.getfield 128, 3) := by decide +kernel
theorem dX3_parameterAt_82 : decode cX3_parameterAt 82 = .ok (.iload 5, 2) := by decide +kernel
theorem dX3_parameterAt_84 : decode cX3_parameterAt 84 = .ok (.iaload, 1) := by decide +kernel
theorem dX3_parameterAt_85 : decode cX3_parameterAt 85 = .ok (.iload_n 3, 1) := by decide +kernel
theorem dX3_parameterAt_86 : decode cX3_parameterAt 86 = .ok (.invokestatic 76, 3) := by decide +kernel
theorem dX3_parameterAt_89 : decode cX3_parameterAt 89 = .ok (.ifCond .eq 6, 3) := by decide +kernel
theorem dX3_parameterAt_92 : decode cX3_parameterAt 92 = .ok (.iload 4, 2) := by decide +kernel
theorem dX3_parameterAt_94 : decode cX3_parameterAt 94 = .ok (.ireturn, 1) := by decide +kernel
theorem dX3_parameterAt_95 : decode cX3_parameterAt 95 = .ok (.iinc 4 1, 3) := by decide +kernel
theorem dX3_parameterAt_98 : decode cX3_parameterAt 98 = .ok (.goto (-71), 3) := by decide +kernel
theorem dX3_parameterAt_101 : decode cX3_parameterAt 101 = .ok (.iconst (-1), 1) := by decide +kernel
theorem dX3_parameterAt_102 : decode cX3_parameterAt 102 = .ok (.ireturn, 1) := by decide +kernel
theorem dX3_isBody_0 : decode cX3_isBody 0 = .ok (.iload_n 2, 1) := by decide +kernel
theorem dX3_isBody_1 : decode cX3_isBody 1 = .ok (.istore 4, 2) := by decide +kernel
theorem dX3_isBody_3 : decode cX3_isBody 3 = .ok (.iload 4, 2) := by decide +kernel
theorem dX3_isBody_5 : decode cX3_isBody 5 = .ok (.aload_n 1, 1) := by decide +kernel
theorem dX3_isBody_6 : decode cX3_isBody 6 = .ok (.getfield 134, 3) := by decide +kernel
theorem dX3_isBody_9 : decode cX3_isBody 9 = .ok (.if_icmp .ge 156, 3) := by decide +kernel
theorem dX3_isBody_12 : decode cX3_isBody 12 = .ok (.iload 4, 2) := by decide +kernel
theorem dX3_isBody_14 : decode cX3_isBody 14 = .ok (.iload_n 2, 1) := by decide +kernel
theorem dX3_isBody_15 : decode cX3_isBody 15 = .ok (.if_icmp .eq 29, 3) := by decide +kernel
theorem dX3_isBody_18 : decode cX3_isBody 18 = .ok (.iload 4, 2) := by decide +kernel
theorem dX3_isBody_20 : decode cX3_isBody 20 = .ok (.aload_n 1, 1) := by decide +kernel
theorem dX3_isBody_21 : decode cX3_isBody 21 = .ok (.getfield 134, 3) := by decide +kernel
theorem dX3_isBody_24 : decode cX3_isBody 24 = .ok (.iconst 1, 1) := by decide +kernel
theorem dX3_isBody_25 : decode cX3_isBody 25 = .ok (.isub, 1) := by decide +kernel
theorem dX3_isBody_26 : decode cX3_isBody 26 = .ok (.if_icmp .eq 18, 3) := by decide +kernel
theorem dX3_isBody_29 : decode cX3_isBody 29 = .ok (.aload_n 0, 1) := by decide +kernel
theorem dX3_isBody_30 : decode cX3_isBody 30 = .ok (.aload_n 1, 1) := by decide +kernel
theorem dX3_isBody_31 : decode cX3_isBody 31 = .ok (.iload 4, 2) := by decide +kernel
theorem dX3_isBody_33 : decode cX3_isBody 33 = .ok (.iconst 1, 1) := by decide +kernel
theorem dX3_isBody_34 : decode cX3_isBody 34 = .ok (.isub, 1) := by decide +kernel
theorem dX3_isBody_35 : decode cX3_isBody 35 = .ok (.sipush 8995, 3) := by decide +kernel
theorem dX3_isBody_38 : decode cX3_isBody 38 = .ok (.invokevirtual 101, 3) := by decide +kernel
theorem dX3_isBody_41 : decode cX3_isBody 41 = .ok (.ifCond .eq 7, 3) := by decide +kernel
theorem dX3_isBody_44 : decode cX3_isBody 44 = .ok (.iconst 1, 1) := by decide +kernel
theorem dX3_isBody_45 : decode cX3_isBody 45 = .ok (.goto 4, 3) := by decide +kernel
theorem dX3_isBody_48 : decode cX3_isBody 48 = .ok (.iconst 0, 1) := by decide +kernel
theorem dX3_isBody_49 : decode cX3_isBody 49 = .ok (.istore 5, 2) := by decide +kernel
theorem dX3_isBody_51 : decode cX3_isBody 51 = .ok (.aload_n 0, 1) := by decide +kernel
theorem dX3_isBody_52 : decode cX3_isBody 52 = .ok (.aload_n 1, 1) := by decide +kernel
theorem dX3_isBody_53 : decode cX3_isBody 53 = .ok (.iload 4, 2) := by decide +kernel
theorem dX3_isBody_55 : decode cX3_isBody 55 = .ok (.sipush 8995, 3) := by decide +kernel
theorem dX3_isBody_58 : decode cX3_isBody 58 = .ok (.invokevirtual 101, 3) := by decide +kernel
theorem dX3_isBody_61 : decode cX3_isBody 61 = .ok (.ifCond .eq 25, 3) := by decide +kernel
theorem dX3_isBody_64 : decode cX3_isBody 64 = .ok (.iload 5, 2) := by decide +kernel
theorem dX3_isBody_66 : decode cX3_isBody 66 = .ok (.ifCond .eq 20, 3) := by decide +kernel
theorem dX3_isBody_69 : decode cX3_isBody 69 = .ok (.aload_n 0, 1) := by decide +kernel
theorem dX3_isBody_70 : decode cX3_isBody 70 = .ok (.getfield 66, 3) := by decide +kernel
theorem dX3_isBody_73 : decode cX3_isBody 73 = .ok (.iconst 2, 1) := by decide +kernel
theorem dX3_isBody_74 : decode cX3_isBody 74 = .ok (.aload_n 1, 1) := by decide +kernel
theorem dX3_isBody_75 : decode cX3_isBody 75 = .ok (.getfield 105, 3) := by decide +kernel
theorem dX3_isBody_78 : decode cX3_isBody 78 = .ok (.iload 4, 2) := by decide +kernel
theorem dX3_isBody_80 : decode cX3_isBody 80 = .ok (.iaload, 1) := by decide +kernel
theorem dX3_isBody_81 : decode cX3_isBody 81 = .ok (.invokevirtual 139, 3) := by decide +kernel
theorem dX3_isBody_84 : decode cX3_isBody 84 = .ok (.iconst 0, 1) := by decide +kernel
theorem dX3_isBody_85 : decode cX3_isBody 85 = .ok (.ireturn, 1) := by decide +kernel
theorem dX3_isBody_86 : decode cX3_isBody 86 = .ok (.iload_n 3, 1) := by decide +kernel
theorem dX3_isBody_87 : decode cX3_isBody 87 = .ok (.ifCond .eq 45, 3) := by decide +kernel
theorem dX3_isBody_90 : decode cX3_isBody 90 = .ok (.aload_n 0, 1) := by decide +kernel
theorem dX3_isBody_91 : decode cX3_isBody 91 = .ok (.aload_n 1, 1) := by decide +kernel
theorem dX3_isBody_92 : decode cX3_isBody 92 = .ok (.iload 4, 2) := by decide +kernel
theorem dX3_isBody_94 : decode cX3_isBody 94 = .ok (.bipush 35, 2) := by decide +kernel
theorem dX3_isBody_96 : decode cX3_isBody 96 = .ok (.invokevirtual 101, 3) := by decide +kernel
theorem dX3_isBody_99 : decode cX3_isBody 99 = .ok (.ifCond .eq 33, 3) := by decide +kernel
theorem dX3_isBody_102 : decode cX3_isBody 102 = .ok (.aload_n 0, 1) := by decide +kernel
theorem dX3_isBody_103 : decode cX3_isBody 103 = .ok (.aload_n 1, 1) := by decide +kernel
theorem dX3_isBody_104 : decode cX3_isBody 104 = .ok (.iload 4, 2) := by decide +kernel
theorem dX3_isBody_106 : decode cX3_isBody 106 = .ok (.iconst 1, 1) := by decide +kernel
theorem dX3_isBody_107 : decode cX3_isBody 107 = .ok (.iadd, 1) := by decide +kernel
theorem dX3_isBody_108 : decode cX3_isBody 108 = .ok (.invokevirtual 155, 3) := by decide +kernel
theorem dX3_isBody_111 : decode cX3_isBody 111 = .ok (.iconst (-1), 1) := by decide +kernel
theorem dX3_isBody_112 : decode cX3_isBody 112 = .ok (.if_icmp .ne 20, 3) := by decide +kernel
theorem dX3_isBody_115 : decode cX3_isBody 115 = .ok (.aload_n 0, 1) := by decide +kernel
theorem dX3_isBody_116 : decode cX3_isBody 116 = .ok (.getfield 66, 3) := by decide +kernel
theorem dX3_isBody_119 : decode cX3_isBody 119 = .ok (.iconst 2, 1) := by decide +kernel
theorem dX3_isBody_120 : decode cX3_isBody 120 = .ok (.aload_n 1, 1) := by decide +kernel
theorem dX3_isBody_121 : decode cX3_isBody 121 = .ok (.getfield 105, 3) := by decide +kernel
theorem dX3_isBody_124 : decode cX3_isBody 124 = .ok (.iload 4, 2) := by decide +kernel
theorem dX3_isBody_126 : decode cX3_isBody 126 = .ok (.iaload, 1) := by decide +kernel
theorem dX3_isBody_127 : decode cX3_isBody 127 = .ok (.invokevirtual 139, 3) := by decide +kernel
theorem dX3_isBody_130 : decode cX3_isBody 130 = .ok (.iconst 0, 1) := by decide +kernel
theorem dX3_isBody_131 : decode cX3_isBody 131 = .ok (.ireturn, 1) := by decide +kernel
theorem dX3_isBody_132 : decode cX3_isBody 132 = .ok (.iload 4, 2) := by decide +kernel
theorem dX3_isBody_134 : decode cX3_isBody 134 = .ok (.iload_n 2, 1) := by decide +kernel
theorem dX3_isBody_135 : decode cX3_isBody 135 = .ok (.isub, 1) := by decide +kernel
theorem dX3_isBody_136 : decode cX3_isBody 136 = .ok (.bipush 20, 2) := by decide +kernel
theorem dX3_isBody_138 : decode cX3_isBody 138 = .ok (.if_icmp .lt 21, 3) := by decide +kernel
theorem dX3_isBody_141 : decode cX3_isBody 141 = .ok (.aload_n 0, 1) := by decide +kernel
theorem dX3_isBody_142 : decode cX3_isBody 142 = .ok (.getfield 66, 3) := by decide +kernel
theorem dX3_isBody_145 : decode cX3_isBody 145 = .ok (.bipush 7, 2) := by decide +kernel
theorem dX3_isBody_147 : decode cX3_isBody 147 = .ok (.aload_n 1, 1) := by decide +kernel
theorem dX3_isBody_148 : decode cX3_isBody 148 = .ok (.getfield 105, 3) := by decide +kernel
theorem dX3_isBody_151 : decode cX3_isBody 151 = .ok (.iload 4, 2) := by decide +kernel
theorem dX3_isBody_153 : decode cX3_isBody 153 = .ok (.iaload, 1) := by decide +kernel
theorem dX3_isBody_154 : decode cX3_isBody 154 = .ok (.invokevirtual 139, 3) := by decide +kernel
theorem dX3_isBody_157 : decode cX3_isBody 157 = .ok (.iconst 0, 1) := by decide +kernel
theorem dX3_isBody_158 : decode cX3_isBody 158 = .ok (.ireturn, 1) := by decide +kernel
theorem dX3_isBody_159 : decode cX3_isBody 159 = .ok (.iinc 4 1, 3) := by decide +kernel
theorem dX3_isBody_162 : decode cX3_isBody 162 = .ok (.goto (-159), 3) := by decide +kernel
theorem dX3_isBody_165 : decode cX3_isBody 165 = .ok (.iconst 1, 1) := by decide +kernel
theorem dX3_isBody_166 : decode cX3_isBody 166 = .ok (.ireturn, 1) := by decide +kernel
theorem dX3_makeItems_0 : decode cX3_makeItems 0 = .ok (.aload_n 0, 1) := by decide +kernel
theorem dX3_makeItems_1 : decode cX3_makeItems 1 = .ok (.getfield 41, 3) := by decide +kernel
theorem dX3_makeItems_4 : decode cX3_makeItems 4 = .ok (.iload_n 1, 1) := by decide +kernel
theorem dX3_makeItems_5 : decode cX3_makeItems 5 = .ok (.iconst 0, 1) := by decide +kernel
theorem dX3_makeItems_6 : decode cX3_makeItems 6 = .ok (.iastore, 1) := by decide +kernel
theorem dX3_makeItems_7 : decode cX3_makeItems 7 = .ok (.iconst 0, 1) := by decide +kernel
theorem dX3_makeItems_8 : decode cX3_makeItems 8 = .ok (.istore 5, 2) := by decide +kernel
theorem dX3_makeItems_10 : decode cX3_makeItems 10 = .ok (.iload_n 3, 1) := by decide +kernel
theorem dX3_makeItems_11 : decode cX3_makeItems 11 = .ok (.istore 6, 2) := by decide +kernel
theorem dX3_makeItems_13 : decode cX3_makeItems 13 = .ok (.iload 6, 2) := by decide +kernel
theorem dX3_makeItems_15 : decode cX3_makeItems 15 = .ok (.aload_n 2, 1) := by decide +kernel
theorem dX3_makeItems_16 : decode cX3_makeItems 16 = .ok (.getfield 134, 3) := by decide +kernel
theorem dX3_makeItems_19 : decode cX3_makeItems 19 = .ok (.if_icmp .ge 146, 3) := by decide +kernel
theorem dX3_makeItems_22 : decode cX3_makeItems 22 = .ok (.aload_n 0, 1) := by decide +kernel
theorem dX3_makeItems_23 : decode cX3_makeItems 23 = .ok (.aload_n 2, 1) := by decide +kernel
theorem dX3_makeItems_24 : decode cX3_makeItems 24 = .ok (.iload 6, 2) := by decide +kernel
theorem dX3_makeItems_26 : decode cX3_makeItems 26 = .ok (.sipush 8995, 3) := by decide +kernel
theorem dX3_makeItems_29 : decode cX3_makeItems 29 = .ok (.invokevirtual 101, 3) := by decide +kernel
theorem dX3_makeItems_32 : decode cX3_makeItems 32 = .ok (.ifCond .eq 10, 3) := by decide +kernel
theorem dX3_makeItems_35 : decode cX3_makeItems 35 = .ok (.bipush 8, 2) := by decide +kernel
theorem dX3_makeItems_37 : decode cX3_makeItems 37 = .ok (.istore 5, 2) := by decide +kernel
theorem dX3_makeItems_39 : decode cX3_makeItems 39 = .ok (.goto 120, 3) := by decide +kernel
theorem dX3_makeItems_42 : decode cX3_makeItems 42 = .ok (.aload_n 2, 1) := by decide +kernel
theorem dX3_makeItems_43 : decode cX3_makeItems 43 = .ok (.getfield 105, 3) := by decide +kernel
theorem dX3_makeItems_46 : decode cX3_makeItems 46 = .ok (.iload 6, 2) := by decide +kernel
theorem dX3_makeItems_48 : decode cX3_makeItems 48 = .ok (.iaload, 1) := by decide +kernel
theorem dX3_makeItems_49 : decode cX3_makeItems 49 = .ok (.istore 7, 2) := by decide +kernel
theorem dX3_makeItems_51 : decode cX3_makeItems 51 = .ok (.aload_n 2, 1) := by decide +kernel
theorem dX3_makeItems_52 : decode cX3_makeItems 52 = .ok (.getfield 128, 3) := by decide +kernel
theorem dX3_makeItems_55 : decode cX3_makeItems 55 = .ok (.iload 6, 2) := by decide +kernel
theorem dX3_makeItems_57 : decode cX3_makeItems 57 = .ok (.iaload, 1) := by decide +kernel
theorem dX3_makeItems_58 : decode cX3_makeItems 58 = .ok (.istore 8, 2) := by decide +kernel
theorem dX3_makeItems_60 : decode cX3_makeItems 60 = .ok (.iconst 0, 1) := by decide +kernel
theorem dX3_makeItems_61 : decode cX3_makeItems 61 = .ok (.istore 9, 2) := by decide +kernel
theorem dX3_makeItems_63 : decode cX3_makeItems 63 = .ok (.aload_n 0, 1) := by decide +kernel
theorem dX3_makeItems_64 : decode cX3_makeItems 64 = .ok (.aload_n 2, 1) := by decide +kernel
theorem dX3_makeItems_65 : decode cX3_makeItems 65 = .ok (.iload 6, 2) := by decide +kernel
theorem dX3_makeItems_67 : decode cX3_makeItems 67 = .ok (.invokevirtual 155, 3) := by decide +kernel
theorem dX3_makeItems_70 : decode cX3_makeItems 70 = .ok (.istore 10, 2) := by decide +kernel
theorem dX3_makeItems_72 : decode cX3_makeItems 72 = .ok (.iload 4, 2) := by decide +kernel
theorem dX3_makeItems_74 : decode cX3_makeItems 74 = .ok (.ifCond .eq 33, 3) := by decide +kernel
theorem dX3_makeItems_77 : decode cX3_makeItems 77 = .ok (.aload_n 0, 1) := by decide +kernel
theorem dX3_makeItems_78 : decode cX3_makeItems 78 = .ok (.aload_n 2, 1) := by decide +kernel
theorem dX3_makeItems_79 : decode cX3_makeItems 79 = .ok (.iload 6, 2) := by decide +kernel
theorem dX3_makeItems_81 : decode cX3_makeItems 81 = .ok (.bipush 35, 2) := by decide +kernel
theorem dX3_makeItems_83 : decode cX3_makeItems 83 = .ok (.invokevirtual 101, 3) := by decide +kernel
theorem dX3_makeItems_86 : decode cX3_makeItems 86 = .ok (.ifCond .eq 21, 3) := by decide +kernel
theorem dX3_makeItems_89 : decode cX3_makeItems 89 = .ok (.iconst 4, 1) := by decide +kernel
theorem dX3_makeItems_90 : decode cX3_makeItems 90 = .ok (.istore 9, 2) := by decide +kernel
theorem dX3_makeItems_92 : decode cX3_makeItems 92 = .ok (.iinc 6 1, 3) := by decide +kernel
theorem dX3_makeItems_95 : decode cX3_makeItems 95 = .ok (.aload_n 0, 1) := by decide +kernel
theorem dX3_makeItems_96 : decode cX3_makeItems 96 = .ok (.aload_n 2, 1) := by decide +kernel
theorem dX3_makeItems_97 : decode cX3_makeItems 97 = .ok (.iload 6, 2) := by decide +kernel
theorem dX3_makeItems_99 : decode cX3_makeItems 99 = .ok (.invokevirtual 155, 3) := by decide +kernel
theorem dX3_makeItems_102 : decode cX3_makeItems 102 = .ok (.istore 10, 2) := by decide +kernel
theorem dX3_makeItems_104 : decode cX3_makeItems 104 = .ok (.goto 36, 3) := by decide +kernel
theorem dX3_makeItems_107 : decode cX3_makeItems 107 = .ok (.iload 10, 2) := by decide +kernel
theorem dX3_makeItems_109 : decode cX3_makeItems 109 = .ok (.iconst (-1), 1) := by decide +kernel
theorem dX3_makeItems_110 : decode cX3_makeItems 110 = .ok (.if_icmp .eq 30, 3) := by decide +kernel
theorem dX3_makeItems_113 : decode cX3_makeItems 113 = .ok (.iload 5, 2) := by decide +kernel
theorem dX3_makeItems_115 : decode cX3_makeItems 115 = .ok (.ifCond .ne 18, 3) := by decide +kernel
theorem dX3_makeItems_118 : decode cX3_makeItems 118 = .ok (.aload_n 0, 1) := by decide +kernel
theorem dX3_makeItems_119 : decode cX3_makeItems 119 = .ok (.aload_n 2, 1) := by decide +kernel
theorem dX3_makeItems_120 : decode cX3_makeItems 120 = .ok (.iload 6, 2) := by decide +kernel
theorem dX3_makeItems_122 : decode cX3_makeItems 122 = .ok (.iconst 1, 1) := by decide +kernel
theorem dX3_makeItems_123 : decode cX3_makeItems 123 = .ok (.iadd, 1) := by decide +kernel
theorem dX3_makeItems_124 : decode cX3_makeItems 124 = .ok (.sipush 8995, 3) := by decide +kernel
theorem dX3_makeItems_127 : decode cX3_makeItems 127 = .ok (.invokevirtual 101, 3) := by decide +kernel
theorem dX3_makeItems_130 : decode cX3_makeItems 130 = .ok (.ifCond .eq 7, 3) := by decide +kernel
theorem dX3_makeItems_133 : decode cX3_makeItems 133 = .ok (.iconst 3, 1) := by decide +kernel
theorem dX3_makeItems_134 : decode cX3_makeItems 134 = .ok (.goto 4, 3) := by decide +kernel
theorem dX3_makeItems_137 : decode cX3_makeItems 137 = .ok (.iconst 1, 1) := by decide +kernel
theorem dX3_makeItems_138 : decode cX3_makeItems 138 = .ok (.istore 9, 2) := by decide +kernel
theorem dX3_makeItems_140 : decode cX3_makeItems 140 = .ok (.aload_n 0, 1) := by decide +kernel
theorem dX3_makeItems_141 : decode cX3_makeItems 141 = .ok (.iload_n 1, 1) := by decide +kernel
theorem dX3_makeItems_142 : decode cX3_makeItems 142 = .ok (.iload 9, 2) := by decide +kernel
theorem dX3_makeItems_144 : decode cX3_makeItems 144 = .ok (.iload 5, 2) := by decide +kernel
theorem dX3_makeItems_146 : decode cX3_makeItems 146 = .ok (.ior, 1) := by decide +kernel
theorem dX3_makeItems_147 : decode cX3_makeItems 147 = .ok (.iload 10, 2) := by decide +kernel
theorem dX3_makeItems_149 : decode cX3_makeItems 149 = .ok (.iload 8, 2) := by decide +kernel
theorem dX3_makeItems_151 : decode cX3_makeItems 151 = .ok (.iload 7, 2) := by decide +kernel
theorem dX3_makeItems_153 : decode cX3_makeItems 153 = .ok (.invokevirtual 93, 3) := by decide +kernel
theorem dX3_makeItems_156 : decode cX3_makeItems 156 = .ok (.iconst 0, 1) := by decide +kernel
theorem dX3_makeItems_157 : decode cX3_makeItems 157 = .ok (.istore 5, 2) := by decide +kernel
theorem dX3_makeItems_159 : decode cX3_makeItems 159 = .ok (.iinc 6 1, 3) := by decide +kernel
theorem dX3_makeItems_162 : decode cX3_makeItems 162 = .ok (.goto (-149), 3) := by decide +kernel
theorem dX3_makeItems_165 : decode cX3_makeItems 165 = .ok (.return_, 1) := by decide +kernel
