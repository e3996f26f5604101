theorem dX10_init_0 : decode cX10_init 0 = .ok (.aload_n 0, 1) := by decide +kernel
theorem dX10_init_1 : decode cX10_init 1 = .ok (.invokespecial 3, 3) := by decide +kernel
theorem dX10_init_4 : decode cX10_init 4 = .ok (.aload_n 0, 1) := by decide +kernel
theorem dX10_init_5 : decode cX10_init 5 = .ok (.sipush 2576, 3) := by decide +kernel
theorem dX10_init_8 : decode cX10_init 8 = .ok (.putfield 9, 3) := by decide +kernel
theorem dX10_init_11 : decode cX10_init 11 = .ok (.aload_n 0, 1) := by decide +kernel
theorem dX10_init_12 : decode cX10_init 12 = .ok (.sipush 2576, 3) := by decide +kernel
theorem dX10_init_15 : decode cX10_init 15 = .ok (.iload_n 1, 1) := by decide +kernel
theorem dX10_init_16 : decode cX10_init 16 = .ok (.iadd, 1) := by decide +kernel
theorem dX10_init_17 : decode cX10_init 17 = .ok (.newarray .byte, 2) := by decide +kernel
theorem dX10_init_19 : decode cX10_init 19 = .ok (.putfield 15, 3) := by decide +kernel
theorem dX10_init_22 : decode cX10_init 22 = .ok (.aload_n 0, 1) := by decide +kernel
theorem dX10_init_23 : decode cX10_init 23 = .ok (.getfield 15, 3) := by decide +kernel
theorem dX10_init_26 : decode cX10_init 26 = .ok (.sipush 1694, 3) := by decide +kernel
theorem dX10_init_29 : decode cX10_init 29 = .ok (.bipush 48, 2) := by decide +kernel
theorem dX10_init_31 : decode cX10_init 31 = .ok (.bastore, 1) := by decide +kernel
theorem dX10_init_32 : decode cX10_init 32 = .ok (.aload_n 0, 1) := by decide +kernel
theorem dX10_init_33 : decode cX10_init 33 = .ok (.getfield 15, 3) := by decide +kernel
theorem dX10_init_36 : decode cX10_init 36 = .ok (.sipush 1695, 3) := by decide +kernel
theorem dX10_init_39 : decode cX10_init 39 = .ok (.bipush 49, 2) := by decide +kernel
theorem dX10_init_41 : decode cX10_init 41 = .ok (.bastore, 1) := by decide +kernel
theorem dX10_init_42 : decode cX10_init 42 = .ok (.return_, 1) := by decide +kernel
theorem dX10_byteAt_0 : decode cX10_byteAt 0 = .ok (.iload_n 1, 1) := by decide +kernel
theorem dX10_byteAt_1 : decode cX10_byteAt 1 = .ok (.ifCond .lt 12, 3) := by decide +kernel
theorem dX10_byteAt_4 : decode cX10_byteAt 4 = .ok (.iload_n 1, 1) := by decide +kernel
theorem dX10_byteAt_5 : decode cX10_byteAt 5 = .ok (.aload_n 0, 1) := by decide +kernel
theorem dX10_byteAt_6 : decode cX10_byteAt 6 = .ok (.getfield 15, 3) := by decide +kernel
theorem dX10_byteAt_9 : decode cX10_byteAt 9 = .ok (.arraylength, 1) := by decide +kernel
theorem dX10_byteAt_10 : decode cX10_byteAt 10 = .ok (.if_icmp .lt 7, 3) := by decide +kernel
theorem dX10_byteAt_13 : decode cX10_byteAt 13 = .ok (.iconst 0, 1) := by decide +kernel
theorem dX10_byteAt_14 : decode cX10_byteAt 14 = .ok (.goto 9, 3) := by decide +kernel
theorem dX10_byteAt_17 : decode cX10_byteAt 17 = .ok (.aload_n 0, 1) := by decide +kernel
theorem dX10_byteAt_18 : decode cX10_byteAt 18 = .ok (.getfield 15, 3) := by decide +kernel
theorem dX10_byteAt_21 : decode cX10_byteAt 21 = .ok (.iload_n 1, 1) := by decide +kernel
theorem dX10_byteAt_22 : decode cX10_byteAt 22 = .ok (.baload, 1) := by decide +kernel
theorem dX10_byteAt_23 : decode cX10_byteAt 23 = .ok (.ireturn, 1) := by decide +kernel
theorem dX10_isDigit_0 : decode cX10_isDigit 0 = .ok (.iload_n 0, 1) := by decide +kernel
theorem dX10_isDigit_1 : decode cX10_isDigit 1 = .ok (.bipush 48, 2) := by decide +kernel
theorem dX10_isDigit_3 : decode cX10_isDigit 3 = .ok (.if_icmp .lt 13, 3) := by decide +kernel
theorem dX10_isDigit_6 : decode cX10_isDigit 6 = .ok (.iload_n 0, 1) := by decide +kernel
theorem dX10_isDigit_7 : decode cX10_isDigit 7 = .ok (.bipush 57, 2) := by decide +kernel
theorem dX10_isDigit_9 : decode cX10_isDigit 9 = .ok (.if_icmp .gt 7, 3) := by decide +kernel
theorem dX10_isDigit_12 : decode cX10_isDigit 12 = .ok (.iconst 1, 1) := by decide +kernel
theorem dX10_isDigit_13 : decode cX10_isDigit 13 = .ok (.goto 4, 3) := by decide +kernel
theorem dX10_isDigit_16 : decode cX10_isDigit 16 = .ok (.iconst 0, 1) := by decide +kernel
theorem dX10_isDigit_17 : decode cX10_isDigit 17 = .ok (.ireturn, 1) := by decide +kernel
theorem dX10_isWord_0 : decode cX10_isWord 0 = .ok (.iload_n 0, 1) := by decide +kernel
theorem dX10_isWord_1 : decode cX10_isWord 1 = .ok (.bipush 97, 2) := by decide +kernel
theorem dX10_isWord_3 : decode cX10_isWord 3 = .ok (.if_icmp .lt 9, 3) := by decide +kernel
theorem dX10_isWord_6 : decode cX10_isWord 6 = .ok (.iload_n 0, 1) := by decide +kernel
theorem dX10_isWord_7 : decode cX10_isWord 7 = .ok (.bipush 122, 2) := by decide +kernel
theorem dX10_isWord_9 : decode cX10_isWord 9 = .ok (.if_icmp .le 33, 3) := by decide +kernel
theorem dX10_isWord_12 : decode cX10_isWord 12 = .ok (.iload_n 0, 1) := by decide +kernel
theorem dX10_isWord_13 : decode cX10_isWord 13 = .ok (.bipush 65, 2) := by decide +kernel
theorem dX10_isWord_15 : decode cX10_isWord 15 = .ok (.if_icmp .lt 9, 3) := by decide +kernel
theorem dX10_isWord_18 : decode cX10_isWord 18 = .ok (.iload_n 0, 1) := by decide +kernel
theorem dX10_isWord_19 : decode cX10_isWord 19 = .ok (.bipush 90, 2) := by decide +kernel
theorem dX10_isWord_21 : decode cX10_isWord 21 = .ok (.if_icmp .le 21, 3) := by decide +kernel
theorem dX10_isWord_24 : decode cX10_isWord 24 = .ok (.iload_n 0, 1) := by decide +kernel
theorem dX10_isWord_25 : decode cX10_isWord 25 = .ok (.bipush 95, 2) := by decide +kernel
theorem dX10_isWord_27 : decode cX10_isWord 27 = .ok (.if_icmp .eq 15, 3) := by decide +kernel
theorem dX10_isWord_30 : decode cX10_isWord 30 = .ok (.iload_n 0, 1) := by decide +kernel
theorem dX10_isWord_31 : decode cX10_isWord 31 = .ok (.bipush 48, 2) := by decide +kernel
theorem dX10_isWord_33 : decode cX10_isWord 33 = .ok (.if_icmp .lt 13, 3) := by decide +kernel
theorem dX10_isWord_36 : decode cX10_isWord 36 = .ok (.iload_n 0, 1) := by decide +kernel
theorem dX10_isWord_37 : decode cX10_isWord 37 = .ok (.bipush 57, 2) := by decide +kernel
theorem dX10_isWord_39 : decode cX10_isWord 39 = .ok (.if_icmp .gt 7, 3) := by decide +kernel
theorem dX10_isWord_42 : decode cX10_isWord 42 = .ok (.iconst 1, 1) := by decide +kernel
theorem dX10_isWord_43 : decode cX10_isWord 43 = .ok (.goto 4, 3) := by decide +kernel
theorem dX10_isWord_46 : decode cX10_isWord 46 = .ok (.iconst 0, 1) := by decide +kernel
theorem dX10_isWord_47 : decode cX10_isWord 47 = .ok (.ireturn, 1) := by decide +kernel
theorem dX10_says_0 : decode cX10_says 0 = .ok (.iload_n 2, 1) := by decide +kernel
theorem dX10_says_1 : decode cX10_says 1 = .ok (.iload_n 1, 1) := by decide +kernel
theorem dX10_says_2 : decode cX10_says 2 = .ok (.isub, 1) := by decide +kernel
theorem dX10_says_3 : decode cX10_says 3 = .ok (.aload_n 3, 1) := by decide +kernel
theorem dX10_says_4 : decode cX10_says 4 = .ok (.invokevirtual 19, 3) := by decide +kernel
theorem dX10_says_7 : decode cX10_says 7 = .ok (.if_icmp .ne 13, 3) := by decide +kernel
theorem dX10_says_10 : decode cX10_says 10 = .ok (.iload_n 1, 1) := by decide +kernel
theorem dX10_says_11 : decode cX10_says 11 = .ok (.ifCond .lt 9, 3) := by decide +kernel
theorem dX10_says_14 : decode cX10_says 14 = .ok (.iload_n 2, 1) := by decide +kernel
theorem dX10_says_15 : decode cX10_says 15 = .ok (.aload_n 0, 1) := by decide +kernel
theorem dX10_says_16 : decode cX10_says 16 = .ok (.arraylength, 1) := by decide +kernel
theorem dX10_says_17 : decode cX10_says 17 = .ok (.if_icmp .le 5, 3) := by decide +kernel
theorem dX10_says_20 : decode cX10_says 20 = .ok (.iconst 0, 1) := by decide +kernel
theorem dX10_says_21 : decode cX10_says 21 = .ok (.ireturn, 1) := by decide +kernel
theorem dX10_says_22 : decode cX10_says 22 = .ok (.iconst 0, 1) := by decide +kernel
theorem dX10_says_23 : decode cX10_says 23 = .ok (.istore 4, 2) := by decide +kernel
theorem dX10_says_25 : decode cX10_says 25 = .ok (.iload 4, 2) := by decide +kernel
theorem dX10_says_27 : decode cX10_says 27 = .ok (.aload_n 3, 1) := by decide +kernel
theorem dX10_says_28 : decode cX10_says 28 = .ok (.invokevirtual 19, 3) := by decide +kernel
theorem dX10_says_31 : decode cX10_says 31 = .ok (.if_icmp .ge 26, 3) := by decide +kernel
theorem dX10_says_34 : decode cX10_says 34 = .ok (.aload_n 0, 1) := by decide +kernel
theorem dX10_says_35 : decode cX10_says 35 = .ok (.iload_n 1, 1) := by decide +kernel
theorem dX10_says_36 : decode cX10_says 36 = .ok (.iload 4, 2) := by decide +kernel
theorem dX10_says_38 : decode cX10_says 38 = .ok (.iadd, 1) := by decide +kernel
theorem dX10_says_39 : decode cX10_says 39 = .ok (.baload, 1) := by decide +kernel
theorem dX10_says_40 : decode cX10_says 40 = .ok (.aload_n 3, 1) := by decide +kernel
theorem dX10_says_41 : decode cX10_says 41 = .ok (.iload 4, 2) := by decide +kernel
theorem dX10_says_43 : decode cX10_says 43 = .ok (.invokevirtual 25, 3) := by decide +kernel
theorem dX10_says_46 : decode cX10_says 46 = .ok (.if_icmp .eq 5, 3) := by decide +kernel
theorem dX10_says_49 : decode cX10_says 49 = .ok (.iconst 0, 1) := by decide +kernel
theorem dX10_says_50 : decode cX10_says 50 = .ok (.ireturn, 1) := by decide +kernel
theorem dX10_says_51 : decode cX10_says 51 = .ok (.iinc 4 1, 3) := by decide +kernel
theorem dX10_says_54 : decode cX10_says 54 = .ok (.goto (-29), 3) := by decide +kernel
theorem dX10_says_57 : decode cX10_says 57 = .ok (.iconst 1, 1) := by decide +kernel
theorem dX10_says_58 : decode cX10_says 58 = .ok (.ireturn, 1) := by decide +kernel
theorem dX10_isAlike_0 : decode cX10_isAlike 0 = .ok (.iload_n 1, 1) := by decide +kernel
theorem dX10_isAlike_1 : decode cX10_isAlike 1 = .ok (.ifCond .lt 23, 3) := by decide +kernel
theorem dX10_isAlike_4 : decode cX10_isAlike 4 = .ok (.iload_n 2, 1) := by decide +kernel
theorem dX10_isAlike_5 : decode cX10_isAlike 5 = .ok (.ifCond .lt 19, 3) := by decide +kernel
theorem dX10_isAlike_8 : decode cX10_isAlike 8 = .ok (.iload_n 1, 1) := by decide +kernel
theorem dX10_isAlike_9 : decode cX10_isAlike 9 = .ok (.iload_n 3, 1) := by decide +kernel
theorem dX10_isAlike_10 : decode cX10_isAlike 10 = .ok (.iadd, 1) := by decide +kernel
theorem dX10_isAlike_11 : decode cX10_isAlike 11 = .ok (.aload_n 0, 1) := by decide +kernel
theorem dX10_isAlike_12 : decode cX10_isAlike 12 = .ok (.arraylength, 1) := by decide +kernel
theorem dX10_isAlike_13 : decode cX10_isAlike 13 = .ok (.if_icmp .gt 11, 3) := by decide +kernel
theorem dX10_isAlike_16 : decode cX10_isAlike 16 = .ok (.iload_n 2, 1) := by decide +kernel
theorem dX10_isAlike_17 : decode cX10_isAlike 17 = .ok (.iload_n 3, 1) := by decide +kernel
theorem dX10_isAlike_18 : decode cX10_isAlike 18 = .ok (.iadd, 1) := by decide +kernel
theorem dX10_isAlike_19 : decode cX10_isAlike 19 = .ok (.aload_n 0, 1) := by decide +kernel
theorem dX10_isAlike_20 : decode cX10_isAlike 20 = .ok (.arraylength, 1) := by decide +kernel
theorem dX10_isAlike_21 : decode cX10_isAlike 21 = .ok (.if_icmp .le 5, 3) := by decide +kernel
theorem dX10_isAlike_24 : decode cX10_isAlike 24 = .ok (.iconst 0, 1) := by decide +kernel
theorem dX10_isAlike_25 : decode cX10_isAlike 25 = .ok (.ireturn, 1) := by decide +kernel
theorem dX10_isAlike_26 : decode cX10_isAlike 26 = .ok (.iconst 0, 1) := by decide +kernel
theorem dX10_isAlike_27 : decode cX10_isAlike 27 = .ok (.istore 4, 2) := by decide +kernel
theorem dX10_isAlike_29 : decode cX10_isAlike 29 = .ok (.iload 4, 2) := by decide +kernel
theorem dX10_isAlike_31 : decode cX10_isAlike 31 = .ok (.iload_n 3, 1) := by decide +kernel
theorem dX10_isAlike_32 : decode cX10_isAlike 32 = .ok (.if_icmp .ge 26, 3) := by decide +kernel
theorem dX10_isAlike_35 : decode cX10_isAlike 35 = .ok (.aload_n 0, 1) := by decide +kernel
theorem dX10_isAlike_36 : decode cX10_isAlike 36 = .ok (.iload_n 1, 1) := by decide +kernel
theorem dX10_isAlike_37 : decode cX10_isAlike 37 = .ok (.iload 4, 2) := by decide +kernel
theorem dX10_isAlike_39 : decode cX10_isAlike 39 = .ok (.iadd, 1) := by decide +kernel
theorem dX10_isAlike_40 : decode cX10_isAlike 40 = .ok (.baload, 1) := by decide +kernel
theorem dX10_isAlike_41 : decode cX10_isAlike 41 = .ok (.aload_n 0, 1) := by decide +kernel
theorem dX10_isAlike_42 : decode cX10_isAlike 42 = .ok (.iload_n 2, 1) := by decide +kernel
theorem dX10_isAlike_43 : decode cX10_isAlike 43 = .ok (.iload 4, 2) := by decide +kernel
theorem dX10_isAlike_45 : decode cX10_isAlike 45 = .ok (.iadd, 1) := by decide +kernel
theorem dX10_isAlike_46 : decode cX10_isAlike 46 = .ok (.baload, 1) := by decide +kernel
theorem dX10_isAlike_47 : decode cX10_isAlike 47 = .ok (.if_icmp .eq 5, 3) := by decide +kernel
theorem dX10_isAlike_50 : decode cX10_isAlike 50 = .ok (.iconst 0, 1) := by decide +kernel
theorem dX10_isAlike_51 : decode cX10_isAlike 51 = .ok (.ireturn, 1) := by decide +kernel
theorem dX10_isAlike_52 : decode cX10_isAlike 52 = .ok (.iinc 4 1, 3) := by decide +kernel
theorem dX10_isAlike_55 : decode cX10_isAlike 55 = .ok (.goto (-26), 3) := by decide +kernel
theorem dX10_isAlike_58 : decode cX10_isAlike 58 = .ok (.iconst 1, 1) := by decide +kernel
theorem dX10_isAlike_59 : decode cX10_isAlike 59 = .ok (.ireturn, 1) := by decide +kernel
theorem dX10_endOf_0 : decode cX10_endOf 0 = .ok (.iload_n 1, 1) := by decide +kernel
theorem dX10_endOf_1 : decode cX10_endOf 1 = .ok (.ifCond .lt 17, 3) := by decide +kernel
theorem dX10_endOf_4 : decode cX10_endOf 4 = .ok (.iload_n 1, 1) := by decide +kernel
theorem dX10_endOf_5 : decode cX10_endOf 5 = .ok (.iload_n 2, 1) := by decide +kernel
theorem dX10_endOf_6 : decode cX10_endOf 6 = .ok (.if_icmp .ge 12, 3) := by decide +kernel
theorem dX10_endOf_9 : decode cX10_endOf 9 = .ok (.iload_n 2, 1) := by decide +kernel
theorem dX10_endOf_10 : decode cX10_endOf 10 = .ok (.aload_n 0, 1) := by decide +kernel
theorem dX10_endOf_11 : decode cX10_endOf 11 = .ok (.getfield 15, 3) := by decide +kernel
theorem dX10_endOf_14 : decode cX10_endOf 14 = .ok (.arraylength, 1) := by decide +kernel
theorem dX10_endOf_15 : decode cX10_endOf 15 = .ok (.if_icmp .le 5, 3) := by decide +kernel
theorem dX10_endOf_18 : decode cX10_endOf 18 = .ok (.iconst (-1), 1) := by decide +kernel
theorem dX10_endOf_19 : decode cX10_endOf 19 = .ok (.ireturn, 1) := by decide +kernel
theorem dX10_endOf_20 : decode cX10_endOf 20 = .ok (.aload_n 0, 1) := by decide +kernel
theorem dX10_endOf_21 : decode cX10_endOf 21 = .ok (.getfield 15, 3) := by decide +kernel
theorem dX10_endOf_24 : decode cX10_endOf 24 = .ok (.iload_n 1, 1) := by decide +kernel
theorem dX10_endOf_25 : decode cX10_endOf 25 = .ok (.baload, 1) := by decide +kernel
theorem dX10_endOf_26 : decode cX10_endOf 26 = .ok (.istore_n 3, 1) := by decide +kernel
theorem dX10_endOf_27 : decode cX10_endOf 27 = .ok (.iload_n 1, 1) := by decide +kernel
theorem dX10_endOf_28 : decode cX10_endOf 28 = .ok (.iconst 1, 1) := by decide +kernel
theorem dX10_endOf_29 : decode cX10_endOf 29 = .ok (.iadd, 1) := by decide +kernel
theorem dX10_endOf_30 : decode cX10_endOf 30 = .ok (.istore 4, 2) := by decide +kernel
theorem dX10_endOf_32 : decode cX10_endOf 32 = .ok (.iload_n 3, 1) := by decide +kernel
theorem dX10_endOf_33 : decode cX10_endOf 33 = .ok (.invokestatic 29, 3) := by decide +kernel
theorem dX10_endOf_36 : decode cX10_endOf 36 = .ok (.ifCond .eq 31, 3) := by decide +kernel
theorem dX10_endOf_39 : decode cX10_endOf 39 = .ok (.iload 4, 2) := by decide +kernel
theorem dX10_endOf_41 : decode cX10_endOf 41 = .ok (.iload_n 2, 1) := by decide +kernel
theorem dX10_endOf_42 : decode cX10_endOf 42 = .ok (.if_icmp .ge 22, 3) := by decide +kernel
theorem dX10_endOf_45 : decode cX10_endOf 45 = .ok (.aload_n 0, 1) := by decide +kernel
theorem dX10_endOf_46 : decode cX10_endOf 46 = .ok (.getfield 15, 3) := by decide +kernel
theorem dX10_endOf_49 : decode cX10_endOf 49 = .ok (.iload 4, 2) := by decide +kernel
theorem dX10_endOf_51 : decode cX10_endOf 51 = .ok (.baload, 1) := by decide +kernel
theorem dX10_endOf_52 : decode cX10_endOf 52 = .ok (.invokestatic 29, 3) := by decide +kernel
theorem dX10_endOf_55 : decode cX10_endOf 55 = .ok (.ifCond .eq 9, 3) := by decide +kernel
theorem dX10_endOf_58 : decode cX10_endOf 58 = .ok (.iinc 4 1, 3) := by decide +kernel
theorem dX10_endOf_61 : decode cX10_endOf 61 = .ok (.goto (-22), 3) := by decide +kernel
theorem dX10_endOf_64 : decode cX10_endOf 64 = .ok (.iload 4, 2) := by decide +kernel
theorem dX10_endOf_66 : decode cX10_endOf 66 = .ok (.ireturn, 1) := by decide +kernel
theorem dX10_endOf_67 : decode cX10_endOf 67 = .ok (.iload_n 3, 1) := by decide +kernel
theorem dX10_endOf_68 : decode cX10_endOf 68 = .ok (.bipush 34, 2) := by decide +kernel
theorem dX10_endOf_70 : decode cX10_endOf 70 = .ok (.if_icmp .ne 42, 3) := by decide +kernel
theorem dX10_endOf_73 : decode cX10_endOf 73 = .ok (.iload 4, 2) := by decide +kernel
theorem dX10_endOf_75 : decode cX10_endOf 75 = .ok (.iload_n 2, 1) := by decide +kernel
theorem dX10_endOf_76 : decode cX10_endOf 76 = .ok (.if_icmp .ge 21, 3) := by decide +kernel
theorem dX10_endOf_79 : decode cX10_endOf 79 = .ok (.aload_n 0, 1) := by decide +kernel
theorem dX10_endOf_80 : decode cX10_endOf 80 = .ok (.getfield 15, 3) := by decide +kernel
theorem dX10_endOf_83 : decode cX10_endOf 83 = .ok (.iload 4, 2) := by decide +kernel
theorem dX10_endOf_85 : decode cX10_endOf 85 = .ok (.baload, 1) := by decide +kernel
theorem dX10_endOf_86 : decode cX10_endOf 86 = .ok (.bipush 34, 2) := by decide +kernel
theorem dX10_endOf_88 : decode cX10_endOf 88 = .ok (.if_icmp .eq 9, 3) := by decide +kernel
theorem dX10_endOf_91 : decode cX10_endOf 91 = .ok (.iinc 4 1, 3) := by decide +kernel
theorem dX10_endOf_94 : decode cX10_endOf 94 = .ok (.goto (-21), 3) := by decide +kernel
theorem dX10_endOf_97 : decode cX10_endOf 97 = .ok (.iload 4, 2) := by decide +kernel
theorem dX10_endOf_99 : decode cX10_endOf 99 = .ok (.iload_n 2, 1) := by decide +kernel
theorem dX10_endOf_100 : decode cX10_endOf 100 = .ok (.if_icmp .ge 10, 3) := by decide +kernel
theorem dX10_endOf_103 : decode cX10_endOf 103 = .ok (.iload 4, 2) := by decide +kernel
theorem dX10_endOf_105 : decode cX10_endOf 105 = .ok (.iconst 1, 1) := by decide +kernel
theorem dX10_endOf_106 : decode cX10_endOf 106 = .ok (.iadd, 1) := by decide +kernel
theorem dX10_endOf_107 : decode cX10_endOf 107 = .ok (.goto 4, 3) := by decide +kernel
theorem dX10_endOf_110 : decode cX10_endOf 110 = .ok (.iconst (-1), 1) := by decide +kernel
theorem dX10_endOf_111 : decode cX10_endOf 111 = .ok (.ireturn, 1) := by decide +kernel
theorem dX10_endOf_112 : decode cX10_endOf 112 = .ok (.iload 4, 2) := by decide +kernel
theorem dX10_endOf_114 : decode cX10_endOf 114 = .ok (.iload_n 2, 1) := by decide +kernel
theorem dX10_endOf_115 : decode cX10_endOf 115 = .ok (.if_icmp .ge 24, 3) := by decide +kernel
theorem dX10_endOf_118 : decode cX10_endOf 118 = .ok (.iload_n 3, 1) := by decide +kernel
theorem dX10_endOf_119 : decode cX10_endOf 119 = .ok (.aload_n 0, 1) := by decide +kernel
theorem dX10_endOf_120 : decode cX10_endOf 120 = .ok (.getfield 15, 3) := by decide +kernel
theorem dX10_endOf_123 : decode cX10_endOf 123 = .ok (.iload 4, 2) := by decide +kernel
theorem dX10_endOf_125 : decode cX10_endOf 125 = .ok (.baload, 1) := by decide +kernel
theorem dX10_endOf_126 : decode cX10_endOf 126 = .ok (.invokestatic 33, 3) := by decide +kernel
theorem dX10_endOf_129 : decode cX10_endOf 129 = .ok (.ifCond .eq 10, 3) := by decide +kernel
theorem dX10_endOf_132 : decode cX10_endOf 132 = .ok (.iload 4, 2) := by decide +kernel
theorem dX10_endOf_134 : decode cX10_endOf 134 = .ok (.iconst 1, 1) := by decide +kernel
theorem dX10_endOf_135 : decode cX10_endOf 135 = .ok (.iadd, 1) := by decide +kernel
theorem dX10_endOf_136 : decode cX10_endOf 136 = .ok (.goto 5, 3) := by decide +kernel
theorem dX10_endOf_139 : decode cX10_endOf 139 = .ok (.iload 4, 2) := by decide +kernel
theorem dX10_endOf_141 : decode cX10_endOf 141 = .ok (.ireturn, 1) := by decide +kernel
theorem dX10_isPair_0 : decode cX10_isPair 0 = .ok (.iload_n 1, 1) := by decide +kernel
theorem dX10_isPair_1 : decode cX10_isPair 1 = .ok (.bipush 61, 2) := by decide +kernel
theorem dX10_isPair_3 : decode cX10_isPair 3 = .ok (.if_icmp .ne 23, 3) := by decide +kernel
theorem dX10_isPair_6 : decode cX10_isPair 6 = .ok (.iload_n 0, 1) := by decide +kernel
theorem dX10_isPair_7 : decode cX10_isPair 7 = .ok (.bipush 33, 2) := by decide +kernel
theorem dX10_isPair_9 : decode cX10_isPair 9 = .ok (.if_icmp .eq 15, 3) := by decide +kernel
theorem dX10_isPair_12 : decode cX10_isPair 12 = .ok (.iload_n 0, 1) := by decide +kernel
theorem dX10_isPair_13 : decode cX10_isPair 13 = .ok (.bipush 60, 2) := by decide +kernel
theorem dX10_isPair_15 : decode cX10_isPair 15 = .ok (.if_icmp .eq 9, 3) := by decide +kernel
theorem dX10_isPair_18 : decode cX10_isPair 18 = .ok (.iload_n 0, 1) := by decide +kernel
theorem dX10_isPair_19 : decode cX10_isPair 19 = .ok (.bipush 62, 2) := by decide +kernel
theorem dX10_isPair_21 : decode cX10_isPair 21 = .ok (.if_icmp .ne 5, 3) := by decide +kernel
theorem dX10_isPair_24 : decode cX10_isPair 24 = .ok (.iconst 1, 1) := by decide +kernel
theorem dX10_isPair_25 : decode cX10_isPair 25 = .ok (.ireturn, 1) := by decide +kernel
theorem dX10_isPair_26 : decode cX10_isPair 26 = .ok (.iload_n 0, 1) := by decide +kernel
theorem dX10_isPair_27 : decode cX10_isPair 27 = .ok (.iload_n 1, 1) := by decide +kernel
theorem dX10_isPair_28 : decode cX10_isPair 28 = .ok (.if_icmp .ne 43, 3) := by decide +kernel
theorem dX10_isPair_31 : decode cX10_isPair 31 = .ok (.iload_n 0, 1) := by decide +kernel
theorem dX10_isPair_32 : decode cX10_isPair 32 = .ok (.bipush 35, 2) := by decide +kernel
theorem dX10_isPair_34 : decode cX10_isPair 34 = .ok (.if_icmp .eq 33, 3) := by decide +kernel
theorem dX10_isPair_37 : decode cX10_isPair 37 = .ok (.iload_n 0, 1) := by decide +kernel
theorem dX10_isPair_38 : decode cX10_isPair 38 = .ok (.bipush 61, 2) := by decide +kernel
theorem dX10_isPair_40 : decode cX10_isPair 40 = .ok (.if_icmp .eq 27, 3) := by decide +kernel
theorem dX10_isPair_43 : decode cX10_isPair 43 = .ok (.iload_n 0, 1) := by decide +kernel
theorem dX10_isPair_44 : decode cX10_isPair 44 = .ok (.bipush 38, 2) := by decide +kernel
theorem dX10_isPair_46 : decode cX10_isPair 46 = .ok (.if_icmp .eq 21, 3) := by decide +kernel
theorem dX10_isPair_49 : decode cX10_isPair 49 = .ok (.iload_n 0, 1) := by decide +kernel
theorem dX10_isPair_50 : decode cX10_isPair 50 = .ok (.bipush 124, 2) := by decide +kernel
theorem dX10_isPair_52 : decode cX10_isPair 52 = .ok (.if_icmp .eq 15, 3) := by decide +kernel
theorem dX10_isPair_55 : decode cX10_isPair 55 = .ok (.iload_n 0, 1) := by decide +kernel
theorem dX10_isPair_56 : decode cX10_isPair 56 = .ok (.bipush 60, 2) := by decide +kernel
theorem dX10_isPair_58 : decode cX10_isPair 58 = .ok (.if_icmp .eq 9, 3) := by decide +kernel
theorem dX10_isPair_61 : decode cX10_isPair 61 = .ok (.iload_n 0, 1) := by decide +kernel
theorem dX10_isPair_62 : decode cX10_isPair 62 = .ok (.bipush 62, 2) := by decide +kernel
theorem dX10_isPair_64 : decode cX10_isPair 64 = .ok (.if_icmp .ne 7, 3) := by decide +kernel
theorem dX10_isPair_67 : decode cX10_isPair 67 = .ok (.iconst 1, 1) := by decide +kernel
theorem dX10_isPair_68 : decode cX10_isPair 68 = .ok (.goto 4, 3) := by decide +kernel
theorem dX10_isPair_71 : decode cX10_isPair 71 = .ok (.iconst 0, 1) := by decide +kernel
theorem dX10_isPair_72 : decode cX10_isPair 72 = .ok (.ireturn, 1) := by decide +kernel
theorem dX10_kindAt_0 : decode cX10_kindAt 0 = .ok (.aload_n 0, 1) := by decide +kernel
theorem dX10_kindAt_1 : decode cX10_kindAt 1 = .ok (.iload_n 1, 1) := by decide +kernel
theorem dX10_kindAt_2 : decode cX10_kindAt 2 = .ok (.invokevirtual 37, 3) := by decide +kernel
theorem dX10_kindAt_5 : decode cX10_kindAt 5 = .ok (.istore_n 2, 1) := by decide +kernel
theorem dX10_kindAt_6 : decode cX10_kindAt 6 = .ok (.iload_n 2, 1) := by decide +kernel
theorem dX10_kindAt_7 : decode cX10_kindAt 7 = .ok (.invokestatic 29, 3) := by decide +kernel
theorem dX10_kindAt_10 : decode cX10_kindAt 10 = .ok (.ifCond .ne 15, 3) := by decide +kernel
theorem dX10_kindAt_13 : decode cX10_kindAt 13 = .ok (.iload_n 2, 1) := by decide +kernel
theorem dX10_kindAt_14 : decode cX10_kindAt 14 = .ok (.bipush 34, 2) := by decide +kernel
theorem dX10_kindAt_16 : decode cX10_kindAt 16 = .ok (.if_icmp .ne 7, 3) := by decide +kernel
theorem dX10_kindAt_19 : decode cX10_kindAt 19 = .ok (.iconst 2, 1) := by decide +kernel
theorem dX10_kindAt_20 : decode cX10_kindAt 20 = .ok (.goto 4, 3) := by decide +kernel
theorem dX10_kindAt_23 : decode cX10_kindAt 23 = .ok (.iconst 3, 1) := by decide +kernel
theorem dX10_kindAt_24 : decode cX10_kindAt 24 = .ok (.ireturn, 1) := by decide +kernel
theorem dX10_kindAt_25 : decode cX10_kindAt 25 = .ok (.iload_n 2, 1) := by decide +kernel
theorem dX10_kindAt_26 : decode cX10_kindAt 26 = .ok (.invokestatic 41, 3) := by decide +kernel
theorem dX10_kindAt_29 : decode cX10_kindAt 29 = .ok (.ifCond .eq 7, 3) := by decide +kernel
theorem dX10_kindAt_32 : decode cX10_kindAt 32 = .ok (.iconst 1, 1) := by decide +kernel
theorem dX10_kindAt_33 : decode cX10_kindAt 33 = .ok (.goto 4, 3) := by decide +kernel
theorem dX10_kindAt_36 : decode cX10_kindAt 36 = .ok (.iconst 0, 1) := by decide +kernel
theorem dX10_kindAt_37 : decode cX10_kindAt 37 = .ok (.ireturn, 1) := by decide +kernel
theorem dX10_signOf_0 : decode cX10_signOf 0 = .ok (.iload_n 2, 1) := by decide +kernel
theorem dX10_signOf_1 : decode cX10_signOf 1 = .ok (.bipush 127, 2) := by decide +kernel
theorem dX10_signOf_3 : decode cX10_signOf 3 = .ok (.iand, 1) := by decide +kernel
theorem dX10_signOf_4 : decode cX10_signOf 4 = .ok (.istore_n 3, 1) := by decide +kernel
theorem dX10_signOf_5 : decode cX10_signOf 5 = .ok (.iload_n 3, 1) := by decide +kernel
theorem dX10_signOf_6 : decode cX10_signOf 6 = .ok (.bipush 97, 2) := by decide +kernel
theorem dX10_signOf_8 : decode cX10_signOf 8 = .ok (.if_icmp .ne 23, 3) := by decide +kernel
theorem dX10_signOf_11 : decode cX10_signOf 11 = .ok (.iload_n 1, 1) := by decide +kernel
theorem dX10_signOf_12 : decode cX10_signOf 12 = .ok (.ifCond .lt 19, 3) := by decide +kernel
theorem dX10_signOf_15 : decode cX10_signOf 15 = .ok (.iload_n 1, 1) := by decide +kernel
theorem dX10_signOf_16 : decode cX10_signOf 16 = .ok (.aload_n 0, 1) := by decide +kernel
theorem dX10_signOf_17 : decode cX10_signOf 17 = .ok (.getfield 15, 3) := by decide +kernel
theorem dX10_signOf_20 : decode cX10_signOf 20 = .ok (.arraylength, 1) := by decide +kernel
theorem dX10_signOf_21 : decode cX10_signOf 21 = .ok (.if_icmp .ge 10, 3) := by decide +kernel
theorem dX10_signOf_24 : decode cX10_signOf 24 = .ok (.aload_n 0, 1) := by decide +kernel
theorem dX10_signOf_25 : decode cX10_signOf 25 = .ok (.getfield 15, 3) := by decide +kernel
theorem dX10_signOf_28 : decode cX10_signOf 28 = .ok (.iload_n 1, 1) := by decide +kernel
theorem dX10_signOf_29 : decode cX10_signOf 29 = .ok (.baload, 1) := by decide +kernel
theorem dX10_signOf_30 : decode cX10_signOf 30 = .ok (.ireturn, 1) := by decide +kernel
theorem dX10_signOf_31 : decode cX10_signOf 31 = .ok (.iload_n 3, 1) := by decide +kernel
theorem dX10_signOf_32 : decode cX10_signOf 32 = .ok (.bipush 98, 2) := by decide +kernel
theorem dX10_signOf_34 : decode cX10_signOf 34 = .ok (.if_icmp .ne 37, 3) := by decide +kernel
theorem dX10_signOf_37 : decode cX10_signOf 37 = .ok (.iload_n 1, 1) := by decide +kernel
theorem dX10_signOf_38 : decode cX10_signOf 38 = .ok (.ifCond .lt 33, 3) := by decide +kernel
theorem dX10_signOf_41 : decode cX10_signOf 41 = .ok (.iload_n 1, 1) := by decide +kernel
theorem dX10_signOf_42 : decode cX10_signOf 42 = .ok (.iconst 1, 1) := by decide +kernel
theorem dX10_signOf_43 : decode cX10_signOf 43 = .ok (.iadd, 1) := by decide +kernel
theorem dX10_signOf_44 : decode cX10_signOf 44 = .ok (.aload_n 0, 1) := by decide +kernel
theorem dX10_signOf_45 : decode cX10_signOf 45 = .ok (.getfield 15, 3) := by decide +kernel
theorem dX10_signOf_48 : decode cX10_signOf 48 = .ok (.arraylength, 1) := by decide +kernel
theorem dX10_signOf_49 : decode cX10_signOf 49 = .ok (.if_icmp .ge 22, 3) := by decide +kernel
theorem dX10_signOf_52 : decode cX10_signOf 52 = .ok (.aload_n 0, 1) := by decide +kernel
theorem dX10_signOf_53 : decode cX10_signOf 53 = .ok (.getfield 15, 3) := by decide +kernel
theorem dX10_signOf_56 : decode cX10_signOf 56 = .ok (.iload_n 1, 1) := by decide +kernel
theorem dX10_signOf_57 : decode cX10_signOf 57 = .ok (.baload, 1) := by decide +kernel
theorem dX10_signOf_58 : decode cX10_signOf 58 = .ok (.aload_n 0, 1) := by decide +kernel
theorem dX10_signOf_59 : decode cX10_signOf 59 = .ok (.getfield 15, 3) := by decide +kernel
theorem dX10_signOf_62 : decode cX10_signOf 62 = .ok (.iload_n 1, 1) := by decide +kernel
theorem dX10_signOf_63 : decode cX10_signOf 63 = .ok (.iconst 1, 1) := by decide +kernel
theorem dX10_signOf_64 : decode cX10_signOf 64 = .ok (.iadd, 1) := by decide +kernel
theorem dX10_signOf_65 : decode cX10_signOf 65 = .ok (.baload, 1) := by decide +kernel
theorem dX10_signOf_66 : decode cX10_signOf 66 = .ok (.bipush 8, 2) := by decide +kernel
theorem dX10_signOf_68 : decode cX10_signOf 68 = .ok (.ishl, 1) := by decide +kernel
theorem dX10_signOf_69 : decode cX10_signOf 69 = .ok (.ior, 1) := by decide +kernel
theorem dX10_signOf_70 : decode cX10_signOf 70 = .ok (.ireturn, 1) := by decide +kernel
theorem dX10_signOf_71 : decode cX10_signOf 71 = .ok (.iconst 0, 1) := by decide +kernel
theorem dX10_signOf_72 : decode cX10_signOf 72 = .ok (.ireturn, 1) := by decide +kernel
