theorem dX11_init_0 : decode cX11_init 0 = .ok (.aload_n 0, 1) := by decide +kernel
theorem dX11_init_1 : decode cX11_init 1 = .ok (.invokespecial 3, 3) := by decide +kernel
theorem dX11_init_4 : decode cX11_init 4 = .ok (.aload_n 0, 1) := by decide +kernel
theorem dX11_init_5 : decode cX11_init 5 = .ok (.sipush 440, 3) := by decide +kernel
theorem dX11_init_8 : decode cX11_init 8 = .ok (.newarray .byte, 2) := by decide +kernel
theorem dX11_init_10 : decode cX11_init 10 = .ok (.putfield 9, 3) := by decide +kernel
theorem dX11_init_13 : decode cX11_init 13 = .ok (.aload_n 0, 1) := by decide +kernel
theorem dX11_init_14 : decode cX11_init 14 = .ok (.iconst 0, 1) := by decide +kernel
theorem dX11_init_15 : decode cX11_init 15 = .ok (.putfield 13, 3) := by decide +kernel
theorem dX11_init_18 : decode cX11_init 18 = .ok (.aload_n 0, 1) := by decide +kernel
theorem dX11_init_19 : decode cX11_init 19 = .ok (.new 17, 3) := by decide +kernel
theorem dX11_init_22 : decode cX11_init 22 = .ok (.dup, 1) := by decide +kernel
theorem dX11_init_23 : decode cX11_init 23 = .ok (.invokespecial 19, 3) := by decide +kernel
theorem dX11_init_26 : decode cX11_init 26 = .ok (.putfield 20, 3) := by decide +kernel
theorem dX11_init_29 : decode cX11_init 29 = .ok (.aload_n 0, 1) := by decide +kernel
theorem dX11_init_30 : decode cX11_init 30 = .ok (.iconst 2, 1) := by decide +kernel
theorem dX11_init_31 : decode cX11_init 31 = .ok (.anewarray 17, 3) := by decide +kernel
theorem dX11_init_34 : decode cX11_init 34 = .ok (.putfield 24, 3) := by decide +kernel
theorem dX11_init_37 : decode cX11_init 37 = .ok (.aload_n 0, 1) := by decide +kernel
theorem dX11_init_38 : decode cX11_init 38 = .ok (.iconst 2, 1) := by decide +kernel
theorem dX11_init_39 : decode cX11_init 39 = .ok (.newarray .boolean, 2) := by decide +kernel
theorem dX11_init_41 : decode cX11_init 41 = .ok (.putfield 28, 3) := by decide +kernel
theorem dX11_init_44 : decode cX11_init 44 = .ok (.aload_n 0, 1) := by decide +kernel
theorem dX11_init_45 : decode cX11_init 45 = .ok (.bipush 30, 2) := by decide +kernel
theorem dX11_init_47 : decode cX11_init 47 = .ok (.newarray .byte, 2) := by decide +kernel
theorem dX11_init_49 : decode cX11_init 49 = .ok (.putfield 32, 3) := by decide +kernel
theorem dX11_init_52 : decode cX11_init 52 = .ok (.aload_n 0, 1) := by decide +kernel
theorem dX11_init_53 : decode cX11_init 53 = .ok (.iconst 0, 1) := by decide +kernel
theorem dX11_init_54 : decode cX11_init 54 = .ok (.putfield 35, 3) := by decide +kernel
theorem dX11_init_57 : decode cX11_init 57 = .ok (.aload_n 0, 1) := by decide +kernel
theorem dX11_init_58 : decode cX11_init 58 = .ok (.new 38, 3) := by decide +kernel
theorem dX11_init_61 : decode cX11_init 61 = .ok (.dup, 1) := by decide +kernel
theorem dX11_init_62 : decode cX11_init 62 = .ok (.iconst 2, 1) := by decide +kernel
theorem dX11_init_63 : decode cX11_init 63 = .ok (.invokespecial 40, 3) := by decide +kernel
theorem dX11_init_66 : decode cX11_init 66 = .ok (.putfield 43, 3) := by decide +kernel
theorem dX11_init_69 : decode cX11_init 69 = .ok (.aload_n 0, 1) := by decide +kernel
theorem dX11_init_70 : decode cX11_init 70 = .ok (.aconst_null, 1) := by decide +kernel
theorem dX11_init_71 : decode cX11_init 71 = .ok (.putfield 47, 3) := by decide +kernel
theorem dX11_init_74 : decode cX11_init 74 = .ok (.iconst 0, 1) := by decide +kernel
theorem dX11_init_75 : decode cX11_init 75 = .ok (.istore_n 1, 1) := by decide +kernel
theorem dX11_init_76 : decode cX11_init 76 = .ok (.iload_n 1, 1) := by decide +kernel
theorem dX11_init_77 : decode cX11_init 77 = .ok (.aload_n 0, 1) := by decide +kernel
theorem dX11_init_78 : decode cX11_init 78 = .ok (.getfield 24, 3) := by decide +kernel
theorem dX11_init_81 : decode cX11_init 81 = .ok (.arraylength, 1) := by decide +kernel
theorem dX11_init_82 : decode cX11_init 82 = .ok (.if_icmp .ge 22, 3) := by decide +kernel
theorem dX11_init_85 : decode cX11_init 85 = .ok (.aload_n 0, 1) := by decide +kernel
theorem dX11_init_86 : decode cX11_init 86 = .ok (.getfield 24, 3) := by decide +kernel
theorem dX11_init_89 : decode cX11_init 89 = .ok (.iload_n 1, 1) := by decide +kernel
theorem dX11_init_90 : decode cX11_init 90 = .ok (.new 17, 3) := by decide +kernel
theorem dX11_init_93 : decode cX11_init 93 = .ok (.dup, 1) := by decide +kernel
theorem dX11_init_94 : decode cX11_init 94 = .ok (.invokespecial 19, 3) := by decide +kernel
theorem dX11_init_97 : decode cX11_init 97 = .ok (.aastore, 1) := by decide +kernel
theorem dX11_init_98 : decode cX11_init 98 = .ok (.iinc 1 1, 3) := by decide +kernel
theorem dX11_init_101 : decode cX11_init 101 = .ok (.goto (-25), 3) := by decide +kernel
theorem dX11_init_104 : decode cX11_init 104 = .ok (.return_, 1) := by decide +kernel
theorem dX11_feed_0 : decode cX11_feed 0 = .ok (.aload_n 0, 1) := by decide +kernel
theorem dX11_feed_1 : decode cX11_feed 1 = .ok (.getfield 13, 3) := by decide +kernel
theorem dX11_feed_4 : decode cX11_feed 4 = .ok (.bipush 20, 2) := by decide +kernel
theorem dX11_feed_6 : decode cX11_feed 6 = .ok (.iadd, 1) := by decide +kernel
theorem dX11_feed_7 : decode cX11_feed 7 = .ok (.sipush 440, 3) := by decide +kernel
theorem dX11_feed_10 : decode cX11_feed 10 = .ok (.if_icmp .le 5, 3) := by decide +kernel
theorem dX11_feed_13 : decode cX11_feed 13 = .ok (.iconst (-1), 1) := by decide +kernel
theorem dX11_feed_14 : decode cX11_feed 14 = .ok (.ireturn, 1) := by decide +kernel
theorem dX11_feed_15 : decode cX11_feed 15 = .ok (.aload_n 0, 1) := by decide +kernel
theorem dX11_feed_16 : decode cX11_feed 16 = .ok (.iload_n 1, 1) := by decide +kernel
theorem dX11_feed_17 : decode cX11_feed 17 = .ok (.invokevirtual 51, 3) := by decide +kernel
theorem dX11_feed_20 : decode cX11_feed 20 = .ok (.aload_n 0, 1) := by decide +kernel
theorem dX11_feed_21 : decode cX11_feed 21 = .ok (.iload_n 2, 1) := by decide +kernel
theorem dX11_feed_22 : decode cX11_feed 22 = .ok (.invokevirtual 51, 3) := by decide +kernel
theorem dX11_feed_25 : decode cX11_feed 25 = .ok (.aload_n 0, 1) := by decide +kernel
theorem dX11_feed_26 : decode cX11_feed 26 = .ok (.iload_n 3, 1) := by decide +kernel
theorem dX11_feed_27 : decode cX11_feed 27 = .ok (.invokevirtual 51, 3) := by decide +kernel
theorem dX11_feed_30 : decode cX11_feed 30 = .ok (.aload_n 0, 1) := by decide +kernel
theorem dX11_feed_31 : decode cX11_feed 31 = .ok (.iload 4, 2) := by decide +kernel
theorem dX11_feed_33 : decode cX11_feed 33 = .ok (.invokevirtual 51, 3) := by decide +kernel
theorem dX11_feed_36 : decode cX11_feed 36 = .ok (.aload_n 0, 1) := by decide +kernel
theorem dX11_feed_37 : decode cX11_feed 37 = .ok (.iload 5, 2) := by decide +kernel
theorem dX11_feed_39 : decode cX11_feed 39 = .ok (.invokevirtual 51, 3) := by decide +kernel
theorem dX11_feed_42 : decode cX11_feed 42 = .ok (.aload_n 0, 1) := by decide +kernel
theorem dX11_feed_43 : decode cX11_feed 43 = .ok (.getfield 13, 3) := by decide +kernel
theorem dX11_feed_46 : decode cX11_feed 46 = .ok (.ireturn, 1) := by decide +kernel
theorem dX11_putNumber_0 : decode cX11_putNumber 0 = .ok (.bipush 24, 2) := by decide +kernel
theorem dX11_putNumber_2 : decode cX11_putNumber 2 = .ok (.istore_n 2, 1) := by decide +kernel
theorem dX11_putNumber_3 : decode cX11_putNumber 3 = .ok (.iload_n 2, 1) := by decide +kernel
theorem dX11_putNumber_4 : decode cX11_putNumber 4 = .ok (.ifCond .lt 42, 3) := by decide +kernel
theorem dX11_putNumber_7 : decode cX11_putNumber 7 = .ok (.aload_n 0, 1) := by decide +kernel
theorem dX11_putNumber_8 : decode cX11_putNumber 8 = .ok (.getfield 13, 3) := by decide +kernel
theorem dX11_putNumber_11 : decode cX11_putNumber 11 = .ok (.sipush 440, 3) := by decide +kernel
theorem dX11_putNumber_14 : decode cX11_putNumber 14 = .ok (.if_icmp .ge 32, 3) := by decide +kernel
theorem dX11_putNumber_17 : decode cX11_putNumber 17 = .ok (.aload_n 0, 1) := by decide +kernel
theorem dX11_putNumber_18 : decode cX11_putNumber 18 = .ok (.getfield 9, 3) := by decide +kernel
theorem dX11_putNumber_21 : decode cX11_putNumber 21 = .ok (.aload_n 0, 1) := by decide +kernel
theorem dX11_putNumber_22 : decode cX11_putNumber 22 = .ok (.getfield 13, 3) := by decide +kernel
theorem dX11_putNumber_25 : decode cX11_putNumber 25 = .ok (.iload_n 1, 1) := by decide +kernel
theorem dX11_putNumber_26 : decode cX11_putNumber 26 = .ok (.iload_n 2, 1) := by decide +kernel
theorem dX11_putNumber_27 : decode cX11_putNumber 27 = .ok (.ishr, 1) := by decide +kernel
theorem dX11_putNumber_28 : decode cX11_putNumber 28 = .ok (.i2b, 1) := by decide +kernel
theorem dX11_putNumber_29 : decode cX11_putNumber 29 = .ok (.bastore, 1) := by decide +kernel
theorem dX11_putNumber_30 : decode cX11_putNumber 30 = .ok (.aload_n 0, 1) := by decide +kernel
theorem dX11_putNumber_31 : decode cX11_putNumber 31 = .ok (.dup, 1) := by decide +kernel
theorem dX11_putNumber_32 : decode cX11_putNumber 32 = .ok (.getfield 13, 3) := by decide +kernel
theorem dX11_putNumber_35 : decode cX11_putNumber 35 = .ok (.iconst 1, 1) := by decide +kernel
theorem dX11_putNumber_36 : decode cX11_putNumber 36 = .ok (.iadd, 1) := by decide +kernel
theorem dX11_putNumber_37 : decode cX11_putNumber 37 = .ok (.putfield 13, 3) := by decide +kernel
theorem dX11_putNumber_40 : decode cX11_putNumber 40 = .ok (.iinc 2 (-8), 3) := by decide +kernel
theorem dX11_putNumber_43 : decode cX11_putNumber 43 = .ok (.goto (-40), 3) := by decide +kernel
theorem dX11_putNumber_46 : decode cX11_putNumber 46 = .ok (.return_, 1) := by decide +kernel
theorem dX11_end_0 : decode cX11_end 0 = .ok (.iload_n 1, 1) := by decide +kernel
theorem dX11_end_1 : decode cX11_end 1 = .ok (.ifCond .lt 11, 3) := by decide +kernel
theorem dX11_end_4 : decode cX11_end 4 = .ok (.iload_n 1, 1) := by decide +kernel
theorem dX11_end_5 : decode cX11_end 5 = .ok (.aload_n 0, 1) := by decide +kernel
theorem dX11_end_6 : decode cX11_end 6 = .ok (.getfield 13, 3) := by decide +kernel
theorem dX11_end_9 : decode cX11_end 9 = .ok (.if_icmp .le 5, 3) := by decide +kernel
theorem dX11_end_12 : decode cX11_end 12 = .ok (.iconst 0, 1) := by decide +kernel
theorem dX11_end_13 : decode cX11_end 13 = .ok (.ireturn, 1) := by decide +kernel
theorem dX11_end_14 : decode cX11_end 14 = .ok (.aload_n 0, 1) := by decide +kernel
theorem dX11_end_15 : decode cX11_end 15 = .ok (.iload_n 1, 1) := by decide +kernel
theorem dX11_end_16 : decode cX11_end 16 = .ok (.putfield 13, 3) := by decide +kernel
theorem dX11_end_19 : decode cX11_end 19 = .ok (.iconst 1, 1) := by decide +kernel
theorem dX11_end_20 : decode cX11_end 20 = .ok (.ireturn, 1) := by decide +kernel
theorem dX11_file_0 : decode cX11_file 0 = .ok (.aload_n 0, 1) := by decide +kernel
theorem dX11_file_1 : decode cX11_file 1 = .ok (.invokevirtual 54, 3) := by decide +kernel
theorem dX11_file_4 : decode cX11_file 4 = .ok (.istore_n 2, 1) := by decide +kernel
theorem dX11_file_5 : decode cX11_file 5 = .ok (.iload_n 1, 1) := by decide +kernel
theorem dX11_file_6 : decode cX11_file 6 = .ok (.ifCond .lt 8, 3) := by decide +kernel
theorem dX11_file_9 : decode cX11_file 9 = .ok (.iload_n 1, 1) := by decide +kernel
theorem dX11_file_10 : decode cX11_file 10 = .ok (.iconst 4, 1) := by decide +kernel
theorem dX11_file_11 : decode cX11_file 11 = .ok (.if_icmp .lt 6, 3) := by decide +kernel
theorem dX11_file_14 : decode cX11_file 14 = .ok (.bipush (-2), 2) := by decide +kernel
theorem dX11_file_16 : decode cX11_file 16 = .ok (.ireturn, 1) := by decide +kernel
theorem dX11_file_17 : decode cX11_file 17 = .ok (.iload_n 2, 1) := by decide +kernel
theorem dX11_file_18 : decode cX11_file 18 = .ok (.sipush 400, 3) := by decide +kernel
theorem dX11_file_21 : decode cX11_file 21 = .ok (.if_icmp .le 6, 3) := by decide +kernel
theorem dX11_file_24 : decode cX11_file 24 = .ok (.bipush (-3), 2) := by decide +kernel
theorem dX11_file_26 : decode cX11_file 26 = .ok (.ireturn, 1) := by decide +kernel
theorem dX11_file_27 : decode cX11_file 27 = .ok (.aload_n 0, 1) := by decide +kernel
theorem dX11_file_28 : decode cX11_file 28 = .ok (.iload_n 2, 1) := by decide +kernel
theorem dX11_file_29 : decode cX11_file 29 = .ok (.bipush 10, 2) := by decide +kernel
theorem dX11_file_31 : decode cX11_file 31 = .ok (.invokevirtual 58, 3) := by decide +kernel
theorem dX11_file_34 : decode cX11_file 34 = .ok (.istore_n 3, 1) := by decide +kernel
theorem dX11_file_35 : decode cX11_file 35 = .ok (.iload_n 3, 1) := by decide +kernel
theorem dX11_file_36 : decode cX11_file 36 = .ok (.iconst (-1), 1) := by decide +kernel
theorem dX11_file_37 : decode cX11_file 37 = .ok (.if_icmp .eq 9, 3) := by decide +kernel
theorem dX11_file_40 : decode cX11_file 40 = .ok (.sipush (-1000), 3) := by decide +kernel
theorem dX11_file_43 : decode cX11_file 43 = .ok (.iload_n 3, 1) := by decide +kernel
theorem dX11_file_44 : decode cX11_file 44 = .ok (.isub, 1) := by decide +kernel
theorem dX11_file_45 : decode cX11_file 45 = .ok (.ireturn, 1) := by decide +kernel
theorem dX11_file_46 : decode cX11_file 46 = .ok (.aload_n 0, 1) := by decide +kernel
theorem dX11_file_47 : decode cX11_file 47 = .ok (.iload_n 2, 1) := by decide +kernel
theorem dX11_file_48 : decode cX11_file 48 = .ok (.invokevirtual 62, 3) := by decide +kernel
theorem dX11_file_51 : decode cX11_file 51 = .ok (.bipush 40, 2) := by decide +kernel
theorem dX11_file_53 : decode cX11_file 53 = .ok (.if_icmp .le 6, 3) := by decide +kernel
theorem dX11_file_56 : decode cX11_file 56 = .ok (.bipush (-3), 2) := by decide +kernel
theorem dX11_file_58 : decode cX11_file 58 = .ok (.ireturn, 1) := by decide +kernel
theorem dX11_file_59 : decode cX11_file 59 = .ok (.aload_n 0, 1) := by decide +kernel
theorem dX11_file_60 : decode cX11_file 60 = .ok (.getfield 20, 3) := by decide +kernel
theorem dX11_file_63 : decode cX11_file 63 = .ok (.getfield 66, 3) := by decide +kernel
theorem dX11_file_66 : decode cX11_file 66 = .ok (.iload_n 1, 1) := by decide +kernel
theorem dX11_file_67 : decode cX11_file 67 = .ok (.aaload, 1) := by decide +kernel
theorem dX11_file_68 : decode cX11_file 68 = .ok (.aload_n 0, 1) := by decide +kernel
theorem dX11_file_69 : decode cX11_file 69 = .ok (.getfield 9, 3) := by decide +kernel
theorem dX11_file_72 : decode cX11_file 72 = .ok (.iload_n 2, 1) := by decide +kernel
theorem dX11_file_73 : decode cX11_file 73 = .ok (.invokevirtual 70, 3) := by decide +kernel
theorem dX11_file_76 : decode cX11_file 76 = .ok (.aload_n 0, 1) := by decide +kernel
theorem dX11_file_77 : decode cX11_file 77 = .ok (.invokevirtual 76, 3) := by decide +kernel
theorem dX11_file_80 : decode cX11_file 80 = .ok (.aload_n 0, 1) := by decide +kernel
theorem dX11_file_81 : decode cX11_file 81 = .ok (.getfield 20, 3) := by decide +kernel
theorem dX11_file_84 : decode cX11_file 84 = .ok (.getfield 66, 3) := by decide +kernel
theorem dX11_file_87 : decode cX11_file 87 = .ok (.iload_n 1, 1) := by decide +kernel
theorem dX11_file_88 : decode cX11_file 88 = .ok (.aaload, 1) := by decide +kernel
theorem dX11_file_89 : decode cX11_file 89 = .ok (.getfield 79, 3) := by decide +kernel
theorem dX11_file_92 : decode cX11_file 92 = .ok (.ireturn, 1) := by decide +kernel
theorem dX11_takeTape_0 : decode cX11_takeTape 0 = .ok (.aload_n 0, 1) := by decide +kernel
theorem dX11_takeTape_1 : decode cX11_takeTape 1 = .ok (.getfield 13, 3) := by decide +kernel
theorem dX11_takeTape_4 : decode cX11_takeTape 4 = .ok (.istore_n 1, 1) := by decide +kernel
theorem dX11_takeTape_5 : decode cX11_takeTape 5 = .ok (.aload_n 0, 1) := by decide +kernel
theorem dX11_takeTape_6 : decode cX11_takeTape 6 = .ok (.iconst 0, 1) := by decide +kernel
theorem dX11_takeTape_7 : decode cX11_takeTape 7 = .ok (.putfield 13, 3) := by decide +kernel
theorem dX11_takeTape_10 : decode cX11_takeTape 10 = .ok (.iload_n 1, 1) := by decide +kernel
theorem dX11_takeTape_11 : decode cX11_takeTape 11 = .ok (.ireturn, 1) := by decide +kernel
theorem dX11_forgetStudy_0 : decode cX11_forgetStudy 0 = .ok (.aload_n 0, 1) := by decide +kernel
theorem dX11_forgetStudy_1 : decode cX11_forgetStudy 1 = .ok (.getfield 47, 3) := by decide +kernel
theorem dX11_forgetStudy_4 : decode cX11_forgetStudy 4 = .ok (.ifnull 11, 3) := by decide +kernel
theorem dX11_forgetStudy_7 : decode cX11_forgetStudy 7 = .ok (.aload_n 0, 1) := by decide +kernel
theorem dX11_forgetStudy_8 : decode cX11_forgetStudy 8 = .ok (.getfield 47, 3) := by decide +kernel
theorem dX11_forgetStudy_11 : decode cX11_forgetStudy 11 = .ok (.iconst (-1), 1) := by decide +kernel
theorem dX11_forgetStudy_12 : decode cX11_forgetStudy 12 = .ok (.putfield 82, 3) := by decide +kernel
theorem dX11_forgetStudy_15 : decode cX11_forgetStudy 15 = .ok (.return_, 1) := by decide +kernel
theorem dX11_theStudy_0 : decode cX11_theStudy 0 = .ok (.aload_n 0, 1) := by decide +kernel
theorem dX11_theStudy_1 : decode cX11_theStudy 1 = .ok (.getfield 47, 3) := by decide +kernel
theorem dX11_theStudy_4 : decode cX11_theStudy 4 = .ok (.ifnonnull 14, 3) := by decide +kernel
theorem dX11_theStudy_7 : decode cX11_theStudy 7 = .ok (.aload_n 0, 1) := by decide +kernel
theorem dX11_theStudy_8 : decode cX11_theStudy 8 = .ok (.new 83, 3) := by decide +kernel
theorem dX11_theStudy_11 : decode cX11_theStudy 11 = .ok (.dup, 1) := by decide +kernel
theorem dX11_theStudy_12 : decode cX11_theStudy 12 = .ok (.invokespecial 87, 3) := by decide +kernel
theorem dX11_theStudy_15 : decode cX11_theStudy 15 = .ok (.putfield 47, 3) := by decide +kernel
theorem dX11_theStudy_18 : decode cX11_theStudy 18 = .ok (.aload_n 0, 1) := by decide +kernel
theorem dX11_theStudy_19 : decode cX11_theStudy 19 = .ok (.getfield 47, 3) := by decide +kernel
theorem dX11_theStudy_22 : decode cX11_theStudy 22 = .ok (.areturn, 1) := by decide +kernel
theorem dX11_wrongByte_0 : decode cX11_wrongByte 0 = .ok (.iconst 0, 1) := by decide +kernel
theorem dX11_wrongByte_1 : decode cX11_wrongByte 1 = .ok (.istore_n 3, 1) := by decide +kernel
theorem dX11_wrongByte_2 : decode cX11_wrongByte 2 = .ok (.iload_n 3, 1) := by decide +kernel
theorem dX11_wrongByte_3 : decode cX11_wrongByte 3 = .ok (.iload_n 1, 1) := by decide +kernel
theorem dX11_wrongByte_4 : decode cX11_wrongByte 4 = .ok (.if_icmp .ge 50, 3) := by decide +kernel
theorem dX11_wrongByte_7 : decode cX11_wrongByte 7 = .ok (.iload_n 3, 1) := by decide +kernel
theorem dX11_wrongByte_8 : decode cX11_wrongByte 8 = .ok (.sipush 440, 3) := by decide +kernel
theorem dX11_wrongByte_11 : decode cX11_wrongByte 11 = .ok (.if_icmp .ge 43, 3) := by decide +kernel
theorem dX11_wrongByte_14 : decode cX11_wrongByte 14 = .ok (.aload_n 0, 1) := by decide +kernel
theorem dX11_wrongByte_15 : decode cX11_wrongByte 15 = .ok (.getfield 9, 3) := by decide +kernel
theorem dX11_wrongByte_18 : decode cX11_wrongByte 18 = .ok (.iload_n 3, 1) := by decide +kernel
theorem dX11_wrongByte_19 : decode cX11_wrongByte 19 = .ok (.baload, 1) := by decide +kernel
theorem dX11_wrongByte_20 : decode cX11_wrongByte 20 = .ok (.bipush 32, 2) := by decide +kernel
theorem dX11_wrongByte_22 : decode cX11_wrongByte 22 = .ok (.if_icmp .lt 14, 3) := by decide +kernel
theorem dX11_wrongByte_25 : decode cX11_wrongByte 25 = .ok (.aload_n 0, 1) := by decide +kernel
theorem dX11_wrongByte_26 : decode cX11_wrongByte 26 = .ok (.getfield 9, 3) := by decide +kernel
theorem dX11_wrongByte_29 : decode cX11_wrongByte 29 = .ok (.iload_n 3, 1) := by decide +kernel
theorem dX11_wrongByte_30 : decode cX11_wrongByte 30 = .ok (.baload, 1) := by decide +kernel
theorem dX11_wrongByte_31 : decode cX11_wrongByte 31 = .ok (.bipush 126, 2) := by decide +kernel
theorem dX11_wrongByte_33 : decode cX11_wrongByte 33 = .ok (.if_icmp .le 15, 3) := by decide +kernel
theorem dX11_wrongByte_36 : decode cX11_wrongByte 36 = .ok (.aload_n 0, 1) := by decide +kernel
theorem dX11_wrongByte_37 : decode cX11_wrongByte 37 = .ok (.getfield 9, 3) := by decide +kernel
theorem dX11_wrongByte_40 : decode cX11_wrongByte 40 = .ok (.iload_n 3, 1) := by decide +kernel
theorem dX11_wrongByte_41 : decode cX11_wrongByte 41 = .ok (.baload, 1) := by decide +kernel
theorem dX11_wrongByte_42 : decode cX11_wrongByte 42 = .ok (.iload_n 2, 1) := by decide +kernel
theorem dX11_wrongByte_43 : decode cX11_wrongByte 43 = .ok (.if_icmp .eq 5, 3) := by decide +kernel
theorem dX11_wrongByte_46 : decode cX11_wrongByte 46 = .ok (.iload_n 3, 1) := by decide +kernel
theorem dX11_wrongByte_47 : decode cX11_wrongByte 47 = .ok (.ireturn, 1) := by decide +kernel
theorem dX11_wrongByte_48 : decode cX11_wrongByte 48 = .ok (.iinc 3 1, 3) := by decide +kernel
theorem dX11_wrongByte_51 : decode cX11_wrongByte 51 = .ok (.goto (-49), 3) := by decide +kernel
theorem dX11_wrongByte_54 : decode cX11_wrongByte 54 = .ok (.iconst (-1), 1) := by decide +kernel
theorem dX11_wrongByte_55 : decode cX11_wrongByte 55 = .ok (.ireturn, 1) := by decide +kernel
theorem dX11_linesOnTape_0 : decode cX11_linesOnTape 0 = .ok (.iconst 0, 1) := by decide +kernel
theorem dX11_linesOnTape_1 : decode cX11_linesOnTape 1 = .ok (.istore_n 2, 1) := by decide +kernel
theorem dX11_linesOnTape_2 : decode cX11_linesOnTape 2 = .ok (.iconst 0, 1) := by decide +kernel
theorem dX11_linesOnTape_3 : decode cX11_linesOnTape 3 = .ok (.istore_n 3, 1) := by decide +kernel
theorem dX11_linesOnTape_4 : decode cX11_linesOnTape 4 = .ok (.iload_n 3, 1) := by decide +kernel
theorem dX11_linesOnTape_5 : decode cX11_linesOnTape 5 = .ok (.iload_n 1, 1) := by decide +kernel
theorem dX11_linesOnTape_6 : decode cX11_linesOnTape 6 = .ok (.if_icmp .ge 37, 3) := by decide +kernel
theorem dX11_linesOnTape_9 : decode cX11_linesOnTape 9 = .ok (.iload_n 3, 1) := by decide +kernel
theorem dX11_linesOnTape_10 : decode cX11_linesOnTape 10 = .ok (.sipush 440, 3) := by decide +kernel
theorem dX11_linesOnTape_13 : decode cX11_linesOnTape 13 = .ok (.if_icmp .ge 30, 3) := by decide +kernel
theorem dX11_linesOnTape_16 : decode cX11_linesOnTape 16 = .ok (.aload_n 0, 1) := by decide +kernel
theorem dX11_linesOnTape_17 : decode cX11_linesOnTape 17 = .ok (.getfield 9, 3) := by decide +kernel
theorem dX11_linesOnTape_20 : decode cX11_linesOnTape 20 = .ok (.iload_n 3, 1) := by decide +kernel
theorem dX11_linesOnTape_21 : decode cX11_linesOnTape 21 = .ok (.baload, 1) := by decide +kernel
theorem dX11_linesOnTape_22 : decode cX11_linesOnTape 22 = .ok (.bipush 10, 2) := by decide +kernel
theorem dX11_linesOnTape_24 : decode cX11_linesOnTape 24 = .ok (.if_icmp .eq 10, 3) := by decide +kernel
theorem dX11_linesOnTape_27 : decode cX11_linesOnTape 27 = .ok (.iload_n 3, 1) := by decide +kernel
theorem dX11_linesOnTape_28 : decode cX11_linesOnTape 28 = .ok (.iload_n 1, 1) := by decide +kernel
theorem dX11_linesOnTape_29 : decode cX11_linesOnTape 29 = .ok (.iconst 1, 1) := by decide +kernel
theorem dX11_linesOnTape_30 : decode cX11_linesOnTape 30 = .ok (.isub, 1) := by decide +kernel
theorem dX11_linesOnTape_31 : decode cX11_linesOnTape 31 = .ok (.if_icmp .ne 6, 3) := by decide +kernel
theorem dX11_linesOnTape_34 : decode cX11_linesOnTape 34 = .ok (.iinc 2 1, 3) := by decide +kernel
theorem dX11_linesOnTape_37 : decode cX11_linesOnTape 37 = .ok (.iinc 3 1, 3) := by decide +kernel
theorem dX11_linesOnTape_40 : decode cX11_linesOnTape 40 = .ok (.goto (-36), 3) := by decide +kernel
theorem dX11_linesOnTape_43 : decode cX11_linesOnTape 43 = .ok (.iload_n 2, 1) := by decide +kernel
theorem dX11_linesOnTape_44 : decode cX11_linesOnTape 44 = .ok (.ireturn, 1) := by decide +kernel
theorem dX11_switches_0 : decode cX11_switches 0 = .ok (.aload_n 0, 1) := by decide +kernel
theorem dX11_switches_1 : decode cX11_switches 1 = .ok (.invokevirtual 54, 3) := by decide +kernel
theorem dX11_switches_4 : decode cX11_switches 4 = .ok (.istore_n 1, 1) := by decide +kernel
theorem dX11_switches_5 : decode cX11_switches 5 = .ok (.aload_n 0, 1) := by decide +kernel
theorem dX11_switches_6 : decode cX11_switches 6 = .ok (.getfield 20, 3) := by decide +kernel
theorem dX11_switches_9 : decode cX11_switches 9 = .ok (.aload_n 0, 1) := by decide +kernel
theorem dX11_switches_10 : decode cX11_switches 10 = .ok (.getfield 9, 3) := by decide +kernel
theorem dX11_switches_13 : decode cX11_switches 13 = .ok (.iload_n 1, 1) := by decide +kernel
theorem dX11_switches_14 : decode cX11_switches 14 = .ok (.invokevirtual 88, 3) := by decide +kernel
theorem dX11_switches_17 : decode cX11_switches 17 = .ok (.istore_n 2, 1) := by decide +kernel
theorem dX11_switches_18 : decode cX11_switches 18 = .ok (.iload_n 2, 1) := by decide +kernel
theorem dX11_switches_19 : decode cX11_switches 19 = .ok (.iconst (-1), 1) := by decide +kernel
theorem dX11_switches_20 : decode cX11_switches 20 = .ok (.if_icmp .eq 7, 3) := by decide +kernel
theorem dX11_switches_23 : decode cX11_switches 23 = .ok (.aload_n 0, 1) := by decide +kernel
theorem dX11_switches_24 : decode cX11_switches 24 = .ok (.invokevirtual 76, 3) := by decide +kernel
theorem dX11_switches_27 : decode cX11_switches 27 = .ok (.iload_n 2, 1) := by decide +kernel
theorem dX11_switches_28 : decode cX11_switches 28 = .ok (.ireturn, 1) := by decide +kernel
theorem dX11_set_0 : decode cX11_set 0 = .ok (.aload_n 0, 1) := by decide +kernel
theorem dX11_set_1 : decode cX11_set 1 = .ok (.getfield 20, 3) := by decide +kernel
theorem dX11_set_4 : decode cX11_set 4 = .ok (.iload_n 1, 1) := by decide +kernel
theorem dX11_set_5 : decode cX11_set 5 = .ok (.invokevirtual 92, 3) := by decide +kernel
theorem dX11_set_8 : decode cX11_set 8 = .ok (.ifCond .ne 5, 3) := by decide +kernel
theorem dX11_set_11 : decode cX11_set 11 = .ok (.iconst (-1), 1) := by decide +kernel
theorem dX11_set_12 : decode cX11_set 12 = .ok (.ireturn, 1) := by decide +kernel
theorem dX11_set_13 : decode cX11_set 13 = .ok (.aload_n 0, 1) := by decide +kernel
theorem dX11_set_14 : decode cX11_set 14 = .ok (.getfield 20, 3) := by decide +kernel
theorem dX11_set_17 : decode cX11_set 17 = .ok (.iload_n 1, 1) := by decide +kernel
theorem dX11_set_18 : decode cX11_set 18 = .ok (.putfield 96, 3) := by decide +kernel
theorem dX11_set_21 : decode cX11_set 21 = .ok (.iconst 0, 1) := by decide +kernel
theorem dX11_set_22 : decode cX11_set 22 = .ok (.ireturn, 1) := by decide +kernel
theorem dX11_run_0 : decode cX11_run 0 = .ok (.aload_n 0, 1) := by decide +kernel
theorem dX11_run_1 : decode cX11_run 1 = .ok (.getfield 20, 3) := by decide +kernel
theorem dX11_run_4 : decode cX11_run 4 = .ok (.iload_n 1, 1) := by decide +kernel
theorem dX11_run_5 : decode cX11_run 5 = .ok (.invokevirtual 99, 3) := by decide +kernel
theorem dX11_run_8 : decode cX11_run 8 = .ok (.ifCond .ne 5, 3) := by decide +kernel
theorem dX11_run_11 : decode cX11_run 11 = .ok (.iconst (-1), 1) := by decide +kernel
theorem dX11_run_12 : decode cX11_run 12 = .ok (.ireturn, 1) := by decide +kernel
theorem dX11_run_13 : decode cX11_run 13 = .ok (.aload_n 0, 1) := by decide +kernel
theorem dX11_run_14 : decode cX11_run 14 = .ok (.getfield 43, 3) := by decide +kernel
theorem dX11_run_17 : decode cX11_run 17 = .ok (.aload_n 0, 1) := by decide +kernel
theorem dX11_run_18 : decode cX11_run 18 = .ok (.getfield 20, 3) := by decide +kernel
theorem dX11_run_21 : decode cX11_run 21 = .ok (.iload_n 1, 1) := by decide +kernel
theorem dX11_run_22 : decode cX11_run 22 = .ok (.aload_n 0, 1) := by decide +kernel
theorem dX11_run_23 : decode cX11_run 23 = .ok (.getfield 20, 3) := by decide +kernel
theorem dX11_run_26 : decode cX11_run 26 = .ok (.getfield 96, 3) := by decide +kernel
theorem dX11_run_29 : decode cX11_run 29 = .ok (.invokevirtual 102, 3) := by decide +kernel
theorem dX11_run_32 : decode cX11_run 32 = .ok (.iconst 1, 1) := by decide +kernel
theorem dX11_run_33 : decode cX11_run 33 = .ok (.istore_n 2, 1) := by decide +kernel
theorem dX11_run_34 : decode cX11_run 34 = .ok (.iconst 0, 1) := by decide +kernel
theorem dX11_run_35 : decode cX11_run 35 = .ok (.istore_n 3, 1) := by decide +kernel
theorem dX11_run_36 : decode cX11_run 36 = .ok (.iload_n 3, 1) := by decide +kernel
theorem dX11_run_37 : decode cX11_run 37 = .ok (.ldc 106, 2) := by decide +kernel
theorem dX11_run_39 : decode cX11_run 39 = .ok (.if_icmp .ge 21, 3) := by decide +kernel
theorem dX11_run_42 : decode cX11_run 42 = .ok (.iload_n 2, 1) := by decide +kernel
theorem dX11_run_43 : decode cX11_run 43 = .ok (.ifCond .eq 17, 3) := by decide +kernel
theorem dX11_run_46 : decode cX11_run 46 = .ok (.aload_n 0, 1) := by decide +kernel
theorem dX11_run_47 : decode cX11_run 47 = .ok (.getfield 43, 3) := by decide +kernel
theorem dX11_run_50 : decode cX11_run 50 = .ok (.invokevirtual 107, 3) := by decide +kernel
theorem dX11_run_53 : decode cX11_run 53 = .ok (.istore_n 2, 1) := by decide +kernel
theorem dX11_run_54 : decode cX11_run 54 = .ok (.iinc 3 1, 3) := by decide +kernel
theorem dX11_run_57 : decode cX11_run 57 = .ok (.goto (-21), 3) := by decide +kernel
theorem dX11_run_60 : decode cX11_run 60 = .ok (.aload_n 0, 1) := by decide +kernel
theorem dX11_run_61 : decode cX11_run 61 = .ok (.getfield 43, 3) := by decide +kernel
theorem dX11_run_64 : decode cX11_run 64 = .ok (.getfield 111, 3) := by decide +kernel
theorem dX11_run_67 : decode cX11_run 67 = .ok (.getfield 115, 3) := by decide +kernel
theorem dX11_run_70 : decode cX11_run 70 = .ok (.ifCond .eq 8, 3) := by decide +kernel
theorem dX11_run_73 : decode cX11_run 73 = .ok (.bipush (-2), 2) := by decide +kernel
theorem dX11_run_75 : decode cX11_run 75 = .ok (.goto 13, 3) := by decide +kernel
theorem dX11_run_78 : decode cX11_run 78 = .ok (.aload_n 0, 1) := by decide +kernel
theorem dX11_run_79 : decode cX11_run 79 = .ok (.getfield 43, 3) := by decide +kernel
theorem dX11_run_82 : decode cX11_run 82 = .ok (.getfield 120, 3) := by decide +kernel
theorem dX11_run_85 : decode cX11_run 85 = .ok (.getfield 124, 3) := by decide +kernel
theorem dX11_run_88 : decode cX11_run 88 = .ok (.ireturn, 1) := by decide +kernel
theorem dX11_fault_0 : decode cX11_fault 0 = .ok (.aload_n 0, 1) := by decide +kernel
theorem dX11_fault_1 : decode cX11_fault 1 = .ok (.getfield 43, 3) := by decide +kernel
theorem dX11_fault_4 : decode cX11_fault 4 = .ok (.getfield 111, 3) := by decide +kernel
theorem dX11_fault_7 : decode cX11_fault 7 = .ok (.getfield 115, 3) := by decide +kernel
theorem dX11_fault_10 : decode cX11_fault 10 = .ok (.istore_n 2, 1) := by decide +kernel
theorem dX11_fault_11 : decode cX11_fault 11 = .ok (.aload_n 0, 1) := by decide +kernel
theorem dX11_fault_12 : decode cX11_fault 12 = .ok (.getfield 43, 3) := by decide +kernel
theorem dX11_fault_15 : decode cX11_fault 15 = .ok (.getfield 111, 3) := by decide +kernel
theorem dX11_fault_18 : decode cX11_fault 18 = .ok (.getfield 127, 3) := by decide +kernel
theorem dX11_fault_21 : decode cX11_fault 21 = .ok (.istore_n 3, 1) := by decide +kernel
theorem dX11_fault_22 : decode cX11_fault 22 = .ok (.iload_n 1, 1) := by decide +kernel
theorem dX11_fault_23 : decode cX11_fault 23 = .ok (.ifCond .ne 5, 3) := by decide +kernel
theorem dX11_fault_26 : decode cX11_fault 26 = .ok (.iload_n 2, 1) := by decide +kernel
theorem dX11_fault_27 : decode cX11_fault 27 = .ok (.ireturn, 1) := by decide +kernel
theorem dX11_fault_28 : decode cX11_fault 28 = .ok (.iload_n 2, 1) := by decide +kernel
theorem dX11_fault_29 : decode cX11_fault 29 = .ok (.ifCond .ne 5, 3) := by decide +kernel
theorem dX11_fault_32 : decode cX11_fault 32 = .ok (.iconst (-1), 1) := by decide +kernel
theorem dX11_fault_33 : decode cX11_fault 33 = .ok (.ireturn, 1) := by decide +kernel
theorem dX11_fault_34 : decode cX11_fault 34 = .ok (.iload_n 1, 1) := by decide +kernel
theorem dX11_fault_35 : decode cX11_fault 35 = .ok (.tableswitch 40 1 3 #[25, 30, 35], 25) := by decide +kernel
theorem dX11_fault_60 : decode cX11_fault 60 = .ok (.iload_n 3, 1) := by decide +kernel
theorem dX11_fault_61 : decode cX11_fault 61 = .ok (.invokestatic 130, 3) := by decide +kernel
theorem dX11_fault_64 : decode cX11_fault 64 = .ok (.ireturn, 1) := by decide +kernel
theorem dX11_fault_65 : decode cX11_fault 65 = .ok (.iload_n 3, 1) := by decide +kernel
theorem dX11_fault_66 : decode cX11_fault 66 = .ok (.invokestatic 133, 3) := by decide +kernel
theorem dX11_fault_69 : decode cX11_fault 69 = .ok (.ireturn, 1) := by decide +kernel
theorem dX11_fault_70 : decode cX11_fault 70 = .ok (.iload_n 3, 1) := by decide +kernel
theorem dX11_fault_71 : decode cX11_fault 71 = .ok (.invokestatic 136, 3) := by decide +kernel
theorem dX11_fault_74 : decode cX11_fault 74 = .ok (.ireturn, 1) := by decide +kernel
theorem dX11_fault_75 : decode cX11_fault 75 = .ok (.iconst (-1), 1) := by decide +kernel
theorem dX11_fault_76 : decode cX11_fault 76 = .ok (.ireturn, 1) := by decide +kernel
theorem dX11_expand_0 : decode cX11_expand 0 = .ok (.aload_n 0, 1) := by decide +kernel
theorem dX11_expand_1 : decode cX11_expand 1 = .ok (.invokevirtual 54, 3) := by decide +kernel
theorem dX11_expand_4 : decode cX11_expand 4 = .ok (.istore_n 1, 1) := by decide +kernel
theorem dX11_expand_5 : decode cX11_expand 5 = .ok (.aload_n 0, 1) := by decide +kernel
theorem dX11_expand_6 : decode cX11_expand 6 = .ok (.getfield 43, 3) := by decide +kernel
theorem dX11_expand_9 : decode cX11_expand 9 = .ok (.aload_n 0, 1) := by decide +kernel
theorem dX11_expand_10 : decode cX11_expand 10 = .ok (.getfield 9, 3) := by decide +kernel
theorem dX11_expand_13 : decode cX11_expand 13 = .ok (.iload_n 1, 1) := by decide +kernel
theorem dX11_expand_14 : decode cX11_expand 14 = .ok (.invokevirtual 139, 3) := by decide +kernel
theorem dX11_expand_17 : decode cX11_expand 17 = .ok (.ifCond .eq 16, 3) := by decide +kernel
theorem dX11_expand_20 : decode cX11_expand 20 = .ok (.aload_n 0, 1) := by decide +kernel
theorem dX11_expand_21 : decode cX11_expand 21 = .ok (.getfield 43, 3) := by decide +kernel
theorem dX11_expand_24 : decode cX11_expand 24 = .ok (.getfield 120, 3) := by decide +kernel
theorem dX11_expand_27 : decode cX11_expand 27 = .ok (.getfield 124, 3) := by decide +kernel
theorem dX11_expand_30 : decode cX11_expand 30 = .ok (.goto 5, 3) := by decide +kernel
theorem dX11_expand_33 : decode cX11_expand 33 = .ok (.bipush (-2), 2) := by decide +kernel
theorem dX11_expand_35 : decode cX11_expand 35 = .ok (.ireturn, 1) := by decide +kernel
theorem dX11_value_0 : decode cX11_value 0 = .ok (.aload_n 0, 1) := by decide +kernel
theorem dX11_value_1 : decode cX11_value 1 = .ok (.invokevirtual 54, 3) := by decide +kernel
theorem dX11_value_4 : decode cX11_value 4 = .ok (.istore_n 1, 1) := by decide +kernel
theorem dX11_value_5 : decode cX11_value 5 = .ok (.aload_n 0, 1) := by decide +kernel
theorem dX11_value_6 : decode cX11_value 6 = .ok (.getfield 43, 3) := by decide +kernel
theorem dX11_value_9 : decode cX11_value 9 = .ok (.aload_n 0, 1) := by decide +kernel
theorem dX11_value_10 : decode cX11_value 10 = .ok (.getfield 9, 3) := by decide +kernel
theorem dX11_value_13 : decode cX11_value 13 = .ok (.iload_n 1, 1) := by decide +kernel
theorem dX11_value_14 : decode cX11_value 14 = .ok (.invokevirtual 143, 3) := by decide +kernel
theorem dX11_value_17 : decode cX11_value 17 = .ok (.lstore_n 2, 1) := by decide +kernel
theorem dX11_value_18 : decode cX11_value 18 = .ok (.aload_n 0, 1) := by decide +kernel
theorem dX11_value_19 : decode cX11_value 19 = .ok (.getfield 43, 3) := by decide +kernel
theorem dX11_value_22 : decode cX11_value 22 = .ok (.getfield 111, 3) := by decide +kernel
theorem dX11_value_25 : decode cX11_value 25 = .ok (.getfield 115, 3) := by decide +kernel
theorem dX11_value_28 : decode cX11_value 28 = .ok (.ifCond .eq 11, 3) := by decide +kernel
theorem dX11_value_31 : decode cX11_value 31 = .ok (.new 147, 3) := by decide +kernel
theorem dX11_value_34 : decode cX11_value 34 = .ok (.dup, 1) := by decide +kernel
theorem dX11_value_35 : decode cX11_value 35 = .ok (.invokespecial 149, 3) := by decide +kernel
theorem dX11_value_38 : decode cX11_value 38 = .ok (.athrow, 1) := by decide +kernel
theorem dX11_value_39 : decode cX11_value 39 = .ok (.lload_n 2, 1) := by decide +kernel
theorem dX11_value_40 : decode cX11_value 40 = .ok (.lreturn, 1) := by decide +kernel
theorem dX11_token_0 : decode cX11_token 0 = .ok (.iload_n 1, 1) := by decide +kernel
theorem dX11_token_1 : decode cX11_token 1 = .ok (.ifCond .lt 17, 3) := by decide +kernel
theorem dX11_token_4 : decode cX11_token 4 = .ok (.iload_n 1, 1) := by decide +kernel
theorem dX11_token_5 : decode cX11_token 5 = .ok (.aload_n 0, 1) := by decide +kernel
theorem dX11_token_6 : decode cX11_token 6 = .ok (.getfield 43, 3) := by decide +kernel
theorem dX11_token_9 : decode cX11_token 9 = .ok (.getfield 120, 3) := by decide +kernel
theorem dX11_token_12 : decode cX11_token 12 = .ok (.getfield 124, 3) := by decide +kernel
theorem dX11_token_15 : decode cX11_token 15 = .ok (.if_icmp .lt 11, 3) := by decide +kernel
theorem dX11_token_18 : decode cX11_token 18 = .ok (.new 147, 3) := by decide +kernel
theorem dX11_token_21 : decode cX11_token 21 = .ok (.dup, 1) := by decide +kernel
theorem dX11_token_22 : decode cX11_token 22 = .ok (.invokespecial 149, 3) := by decide +kernel
theorem dX11_token_25 : decode cX11_token 25 = .ok (.athrow, 1) := by decide +kernel
theorem dX11_token_26 : decode cX11_token 26 = .ok (.aload_n 0, 1) := by decide +kernel
theorem dX11_token_27 : decode cX11_token 27 = .ok (.getfield 43, 3) := by decide +kernel
theorem dX11_token_30 : decode cX11_token 30 = .ok (.getfield 120, 3) := by decide +kernel
theorem dX11_token_33 : decode cX11_token 33 = .ok (.getfield 150, 3) := by decide +kernel
theorem dX11_token_36 : decode cX11_token 36 = .ok (.iload_n 1, 1) := by decide +kernel
theorem dX11_token_37 : decode cX11_token 37 = .ok (.iaload, 1) := by decide +kernel
theorem dX11_token_38 : decode cX11_token 38 = .ok (.istore_n 3, 1) := by decide +kernel
theorem dX11_token_39 : decode cX11_token 39 = .ok (.iload_n 2, 1) := by decide +kernel
theorem dX11_token_40 : decode cX11_token 40 = .ok (.tableswitch 87 0 6 #[44, 49, 54, 59, 64, 69, 82], 44) := by decide +kernel
theorem dX11_token_84 : decode cX11_token 84 = .ok (.iload_n 3, 1) := by decide +kernel
theorem dX11_token_85 : decode cX11_token 85 = .ok (.invokestatic 153, 3) := by decide +kernel
theorem dX11_token_88 : decode cX11_token 88 = .ok (.ireturn, 1) := by decide +kernel
theorem dX11_token_89 : decode cX11_token 89 = .ok (.iload_n 3, 1) := by decide +kernel
theorem dX11_token_90 : decode cX11_token 90 = .ok (.invokestatic 156, 3) := by decide +kernel
theorem dX11_token_93 : decode cX11_token 93 = .ok (.ireturn, 1) := by decide +kernel
theorem dX11_token_94 : decode cX11_token 94 = .ok (.iload_n 3, 1) := by decide +kernel
theorem dX11_token_95 : decode cX11_token 95 = .ok (.invokestatic 130, 3) := by decide +kernel
theorem dX11_token_98 : decode cX11_token 98 = .ok (.ireturn, 1) := by decide +kernel
theorem dX11_token_99 : decode cX11_token 99 = .ok (.iload_n 3, 1) := by decide +kernel
theorem dX11_token_100 : decode cX11_token 100 = .ok (.invokestatic 133, 3) := by decide +kernel
theorem dX11_token_103 : decode cX11_token 103 = .ok (.ireturn, 1) := by decide +kernel
theorem dX11_token_104 : decode cX11_token 104 = .ok (.iload_n 3, 1) := by decide +kernel
theorem dX11_token_105 : decode cX11_token 105 = .ok (.invokestatic 136, 3) := by decide +kernel
theorem dX11_token_108 : decode cX11_token 108 = .ok (.ireturn, 1) := by decide +kernel
theorem dX11_token_109 : decode cX11_token 109 = .ok (.aload_n 0, 1) := by decide +kernel
theorem dX11_token_110 : decode cX11_token 110 = .ok (.getfield 43, 3) := by decide +kernel
theorem dX11_token_113 : decode cX11_token 113 = .ok (.getfield 120, 3) := by decide +kernel
theorem dX11_token_116 : decode cX11_token 116 = .ok (.getfield 159, 3) := by decide +kernel
theorem dX11_token_119 : decode cX11_token 119 = .ok (.iload_n 1, 1) := by decide +kernel
theorem dX11_token_120 : decode cX11_token 120 = .ok (.iaload, 1) := by decide +kernel
theorem dX11_token_121 : decode cX11_token 121 = .ok (.ireturn, 1) := by decide +kernel
theorem dX11_token_122 : decode cX11_token 122 = .ok (.iload_n 3, 1) := by decide +kernel
theorem dX11_token_123 : decode cX11_token 123 = .ok (.invokestatic 162, 3) := by decide +kernel
theorem dX11_token_126 : decode cX11_token 126 = .ok (.ireturn, 1) := by decide +kernel
theorem dX11_token_127 : decode cX11_token 127 = .ok (.new 147, 3) := by decide +kernel
theorem dX11_token_130 : decode cX11_token 130 = .ok (.dup, 1) := by decide +kernel
theorem dX11_token_131 : decode cX11_token 131 = .ok (.invokespecial 149, 3) := by decide +kernel
theorem dX11_token_134 : decode cX11_token 134 = .ok (.athrow, 1) := by decide +kernel
theorem dX11_tokenAt_0 : decode cX11_tokenAt 0 = .ok (.iload_n 1, 1) := by decide +kernel
theorem dX11_tokenAt_1 : decode cX11_tokenAt 1 = .ok (.ifCond .lt 40, 3) := by decide +kernel
theorem dX11_tokenAt_4 : decode cX11_tokenAt 4 = .ok (.iload_n 1, 1) := by decide +kernel
theorem dX11_tokenAt_5 : decode cX11_tokenAt 5 = .ok (.aload_n 0, 1) := by decide +kernel
theorem dX11_tokenAt_6 : decode cX11_tokenAt 6 = .ok (.getfield 43, 3) := by decide +kernel
theorem dX11_tokenAt_9 : decode cX11_tokenAt 9 = .ok (.getfield 120, 3) := by decide +kernel
theorem dX11_tokenAt_12 : decode cX11_tokenAt 12 = .ok (.getfield 124, 3) := by decide +kernel
theorem dX11_tokenAt_15 : decode cX11_tokenAt 15 = .ok (.if_icmp .ge 26, 3) := by decide +kernel
theorem dX11_tokenAt_18 : decode cX11_tokenAt 18 = .ok (.iload_n 2, 1) := by decide +kernel
theorem dX11_tokenAt_19 : decode cX11_tokenAt 19 = .ok (.ifCond .lt 22, 3) := by decide +kernel
theorem dX11_tokenAt_22 : decode cX11_tokenAt 22 = .ok (.iload_n 2, 1) := by decide +kernel
theorem dX11_tokenAt_23 : decode cX11_tokenAt 23 = .ok (.aload_n 0, 1) := by decide +kernel
theorem dX11_tokenAt_24 : decode cX11_tokenAt 24 = .ok (.getfield 43, 3) := by decide +kernel
theorem dX11_tokenAt_27 : decode cX11_tokenAt 27 = .ok (.getfield 120, 3) := by decide +kernel
theorem dX11_tokenAt_30 : decode cX11_tokenAt 30 = .ok (.getfield 150, 3) := by decide +kernel
theorem dX11_tokenAt_33 : decode cX11_tokenAt 33 = .ok (.iload_n 1, 1) := by decide +kernel
theorem dX11_tokenAt_34 : decode cX11_tokenAt 34 = .ok (.iaload, 1) := by decide +kernel
theorem dX11_tokenAt_35 : decode cX11_tokenAt 35 = .ok (.invokestatic 156, 3) := by decide +kernel
theorem dX11_tokenAt_38 : decode cX11_tokenAt 38 = .ok (.if_icmp .lt 5, 3) := by decide +kernel
theorem dX11_tokenAt_41 : decode cX11_tokenAt 41 = .ok (.iconst (-1), 1) := by decide +kernel
theorem dX11_tokenAt_42 : decode cX11_tokenAt 42 = .ok (.ireturn, 1) := by decide +kernel
theorem dX11_tokenAt_43 : decode cX11_tokenAt 43 = .ok (.aload_n 0, 1) := by decide +kernel
theorem dX11_tokenAt_44 : decode cX11_tokenAt 44 = .ok (.getfield 43, 3) := by decide +kernel
theorem dX11_tokenAt_47 : decode cX11_tokenAt 47 = .ok (.getfield 165, 3) := by decide +kernel
theorem dX11_tokenAt_50 : decode cX11_tokenAt 50 = .ok (.aload_n 0, 1) := by decide +kernel
theorem dX11_tokenAt_51 : decode cX11_tokenAt 51 = .ok (.getfield 43, 3) := by decide +kernel
theorem dX11_tokenAt_54 : decode cX11_tokenAt 54 = .ok (.getfield 120, 3) := by decide +kernel
theorem dX11_tokenAt_57 : decode cX11_tokenAt 57 = .ok (.getfield 169, 3) := by decide +kernel
theorem dX11_tokenAt_60 : decode cX11_tokenAt 60 = .ok (.iload_n 1, 1) := by decide +kernel
theorem dX11_tokenAt_61 : decode cX11_tokenAt 61 = .ok (.iaload, 1) := by decide +kernel
theorem dX11_tokenAt_62 : decode cX11_tokenAt 62 = .ok (.iload_n 2, 1) := by decide +kernel
theorem dX11_tokenAt_63 : decode cX11_tokenAt 63 = .ok (.iadd, 1) := by decide +kernel
theorem dX11_tokenAt_64 : decode cX11_tokenAt 64 = .ok (.invokevirtual 172, 3) := by decide +kernel
theorem dX11_tokenAt_67 : decode cX11_tokenAt 67 = .ok (.ireturn, 1) := by decide +kernel
theorem dX11_macro_0 : decode cX11_macro 0 = .ok (.aload_n 0, 1) := by decide +kernel
theorem dX11_macro_1 : decode cX11_macro 1 = .ok (.getfield 43, 3) := by decide +kernel
theorem dX11_macro_4 : decode cX11_macro 4 = .ok (.getfield 177, 3) := by decide +kernel
theorem dX11_macro_7 : decode cX11_macro 7 = .ok (.astore_n 3, 1) := by decide +kernel
theorem dX11_macro_8 : decode cX11_macro 8 = .ok (.iload_n 1, 1) := by decide +kernel
theorem dX11_macro_9 : decode cX11_macro 9 = .ok (.ifCond .lt 11, 3) := by decide +kernel
theorem dX11_macro_12 : decode cX11_macro 12 = .ok (.iload_n 1, 1) := by decide +kernel
theorem dX11_macro_13 : decode cX11_macro 13 = .ok (.aload_n 3, 1) := by decide +kernel
theorem dX11_macro_14 : decode cX11_macro 14 = .ok (.getfield 181, 3) := by decide +kernel
theorem dX11_macro_17 : decode cX11_macro 17 = .ok (.if_icmp .lt 11, 3) := by decide +kernel
theorem dX11_macro_20 : decode cX11_macro 20 = .ok (.new 147, 3) := by decide +kernel
theorem dX11_macro_23 : decode cX11_macro 23 = .ok (.dup, 1) := by decide +kernel
theorem dX11_macro_24 : decode cX11_macro 24 = .ok (.invokespecial 149, 3) := by decide +kernel
theorem dX11_macro_27 : decode cX11_macro 27 = .ok (.athrow, 1) := by decide +kernel
theorem dX11_macro_28 : decode cX11_macro 28 = .ok (.aload_n 3, 1) := by decide +kernel
theorem dX11_macro_29 : decode cX11_macro 29 = .ok (.getfield 184, 3) := by decide +kernel
theorem dX11_macro_32 : decode cX11_macro 32 = .ok (.iload_n 1, 1) := by decide +kernel
theorem dX11_macro_33 : decode cX11_macro 33 = .ok (.baload, 1) := by decide +kernel
theorem dX11_macro_34 : decode cX11_macro 34 = .ok (.istore 4, 2) := by decide +kernel
theorem dX11_macro_36 : decode cX11_macro 36 = .ok (.iload_n 2, 1) := by decide +kernel
theorem dX11_macro_37 : decode cX11_macro 37 = .ok (.tableswitch 121 0 5 #[39, 50, 66, 82, 98, 114], 39) := by decide +kernel
theorem dX11_macro_76 : decode cX11_macro 76 = .ok (.iload 4, 2) := by decide +kernel
theorem dX11_macro_78 : decode cX11_macro 78 = .ok (.ifCond .eq 7, 3) := by decide +kernel
theorem dX11_macro_81 : decode cX11_macro 81 = .ok (.iconst 1, 1) := by decide +kernel
theorem dX11_macro_82 : decode cX11_macro 82 = .ok (.goto 4, 3) := by decide +kernel
theorem dX11_macro_85 : decode cX11_macro 85 = .ok (.iconst 0, 1) := by decide +kernel
theorem dX11_macro_86 : decode cX11_macro 86 = .ok (.ireturn, 1) := by decide +kernel
theorem dX11_macro_87 : decode cX11_macro 87 = .ok (.iload 4, 2) := by decide +kernel
theorem dX11_macro_89 : decode cX11_macro 89 = .ok (.ifCond .eq 12, 3) := by decide +kernel
theorem dX11_macro_92 : decode cX11_macro 92 = .ok (.aload_n 3, 1) := by decide +kernel
theorem dX11_macro_93 : decode cX11_macro 93 = .ok (.getfield 187, 3) := by decide +kernel
theorem dX11_macro_96 : decode cX11_macro 96 = .ok (.iload_n 1, 1) := by decide +kernel
theorem dX11_macro_97 : decode cX11_macro 97 = .ok (.iaload, 1) := by decide +kernel
theorem dX11_macro_98 : decode cX11_macro 98 = .ok (.goto 4, 3) := by decide +kernel
theorem dX11_macro_101 : decode cX11_macro 101 = .ok (.iconst (-1), 1) := by decide +kernel
theorem dX11_macro_102 : decode cX11_macro 102 = .ok (.ireturn, 1) := by decide +kernel
theorem dX11_macro_103 : decode cX11_macro 103 = .ok (.iload 4, 2) := by decide +kernel
theorem dX11_macro_105 : decode cX11_macro 105 = .ok (.ifCond .eq 12, 3) := by decide +kernel
theorem dX11_macro_108 : decode cX11_macro 108 = .ok (.aload_n 3, 1) := by decide +kernel
theorem dX11_macro_109 : decode cX11_macro 109 = .ok (.getfield 190, 3) := by decide +kernel
theorem dX11_macro_112 : decode cX11_macro 112 = .ok (.iload_n 1, 1) := by decide +kernel
theorem dX11_macro_113 : decode cX11_macro 113 = .ok (.iaload, 1) := by decide +kernel
theorem dX11_macro_114 : decode cX11_macro 114 = .ok (.goto 4, 3) := by decide +kernel
theorem dX11_macro_117 : decode cX11_macro 117 = .ok (.iconst (-1), 1) := by decide +kernel
theorem dX11_macro_118 : decode cX11_macro 118 = .ok (.ireturn, 1) := by decide +kernel
theorem dX11_macro_119 : decode cX11_macro 119 = .ok (.iload 4, 2) := by decide +kernel
theorem dX11_macro_121 : decode cX11_macro 121 = .ok (.ifCond .eq 12, 3) := by decide +kernel
theorem dX11_macro_124 : decode cX11_macro 124 = .ok (.aload_n 3, 1) := by decide +kernel
theorem dX11_macro_125 : decode cX11_macro 125 = .ok (.getfield 193, 3) := by decide +kernel
theorem dX11_macro_128 : decode cX11_macro 128 = .ok (.iload_n 1, 1) := by decide +kernel
theorem dX11_macro_129 : decode cX11_macro 129 = .ok (.iaload, 1) := by decide +kernel
theorem dX11_macro_130 : decode cX11_macro 130 = .ok (.goto 4, 3) := by decide +kernel
theorem dX11_macro_133 : decode cX11_macro 133 = .ok (.iconst (-1), 1) := by decide +kernel
theorem dX11_macro_134 : decode cX11_macro 134 = .ok (.ireturn, 1) := by decide +kernel
theorem dX11_macro_135 : decode cX11_macro 135 = .ok (.iload 4, 2) := by decide +kernel
theorem dX11_macro_137 : decode cX11_macro 137 = .ok (.ifCond .eq 12, 3) := by decide +kernel
theorem dX11_macro_140 : decode cX11_macro 140 = .ok (.aload_n 3, 1) := by decide +kernel
theorem dX11_macro_141 : decode cX11_macro 141 = .ok (.getfield 195, 3) := by decide +kernel
theorem dX11_macro_144 : decode cX11_macro 144 = .ok (.iload_n 1, 1) := by decide +kernel
theorem dX11_macro_145 : decode cX11_macro 145 = .ok (.iaload, 1) := by decide +kernel
theorem dX11_macro_146 : decode cX11_macro 146 = .ok (.goto 4, 3) := by decide +kernel
theorem dX11_macro_149 : decode cX11_macro 149 = .ok (.iconst (-1), 1) := by decide +kernel
theorem dX11_macro_150 : decode cX11_macro 150 = .ok (.ireturn, 1) := by decide +kernel
theorem dX11_macro_151 : decode cX11_macro 151 = .ok (.aload_n 3, 1) := by decide +kernel
theorem dX11_macro_152 : decode cX11_macro 152 = .ok (.getfield 197, 3) := by decide +kernel
theorem dX11_macro_155 : decode cX11_macro 155 = .ok (.iload_n 1, 1) := by decide +kernel
theorem dX11_macro_156 : decode cX11_macro 156 = .ok (.iaload, 1) := by decide +kernel
theorem dX11_macro_157 : decode cX11_macro 157 = .ok (.ireturn, 1) := by decide +kernel
theorem dX11_macro_158 : decode cX11_macro 158 = .ok (.new 147, 3) := by decide +kernel
theorem dX11_macro_161 : decode cX11_macro 161 = .ok (.dup, 1) := by decide +kernel
theorem dX11_macro_162 : decode cX11_macro 162 = .ok (.invokespecial 149, 3) := by decide +kernel
theorem dX11_macro_165 : decode cX11_macro 165 = .ok (.athrow, 1) := by decide +kernel
theorem dX11_macroAt_0 : decode cX11_macroAt 0 = .ok (.aload_n 0, 1) := by decide +kernel
theorem dX11_macroAt_1 : decode cX11_macroAt 1 = .ok (.getfield 43, 3) := by decide +kernel
theorem dX11_macroAt_4 : decode cX11_macroAt 4 = .ok (.getfield 177, 3) := by decide +kernel
theorem dX11_macroAt_7 : decode cX11_macroAt 7 = .ok (.astore_n 3, 1) := by decide +kernel
theorem dX11_macroAt_8 : decode cX11_macroAt 8 = .ok (.iload_n 1, 1) := by decide +kernel
theorem dX11_macroAt_9 : decode cX11_macroAt 9 = .ok (.ifCond .lt 25, 3) := by decide +kernel
theorem dX11_macroAt_12 : decode cX11_macroAt 12 = .ok (.iload_n 1, 1) := by decide +kernel
theorem dX11_macroAt_13 : decode cX11_macroAt 13 = .ok (.aload_n 3, 1) := by decide +kernel
theorem dX11_macroAt_14 : decode cX11_macroAt 14 = .ok (.getfield 181, 3) := by decide +kernel
theorem dX11_macroAt_17 : decode cX11_macroAt 17 = .ok (.if_icmp .ge 17, 3) := by decide +kernel
theorem dX11_macroAt_20 : decode cX11_macroAt 20 = .ok (.iload_n 2, 1) := by decide +kernel
theorem dX11_macroAt_21 : decode cX11_macroAt 21 = .ok (.ifCond .lt 13, 3) := by decide +kernel
theorem dX11_macroAt_24 : decode cX11_macroAt 24 = .ok (.iload_n 2, 1) := by decide +kernel
theorem dX11_macroAt_25 : decode cX11_macroAt 25 = .ok (.aload_n 3, 1) := by decide +kernel
theorem dX11_macroAt_26 : decode cX11_macroAt 26 = .ok (.getfield 200, 3) := by decide +kernel
theorem dX11_macroAt_29 : decode cX11_macroAt 29 = .ok (.iload_n 1, 1) := by decide +kernel
theorem dX11_macroAt_30 : decode cX11_macroAt 30 = .ok (.iaload, 1) := by decide +kernel
theorem dX11_macroAt_31 : decode cX11_macroAt 31 = .ok (.if_icmp .lt 5, 3) := by decide +kernel
theorem dX11_macroAt_34 : decode cX11_macroAt 34 = .ok (.iconst (-1), 1) := by decide +kernel
theorem dX11_macroAt_35 : decode cX11_macroAt 35 = .ok (.ireturn, 1) := by decide +kernel
theorem dX11_macroAt_36 : decode cX11_macroAt 36 = .ok (.aload_n 0, 1) := by decide +kernel
theorem dX11_macroAt_37 : decode cX11_macroAt 37 = .ok (.getfield 43, 3) := by decide +kernel
theorem dX11_macroAt_40 : decode cX11_macroAt 40 = .ok (.getfield 165, 3) := by decide +kernel
theorem dX11_macroAt_43 : decode cX11_macroAt 43 = .ok (.aload_n 3, 1) := by decide +kernel
theorem dX11_macroAt_44 : decode cX11_macroAt 44 = .ok (.getfield 203, 3) := by decide +kernel
theorem dX11_macroAt_47 : decode cX11_macroAt 47 = .ok (.iload_n 1, 1) := by decide +kernel
theorem dX11_macroAt_48 : decode cX11_macroAt 48 = .ok (.iaload, 1) := by decide +kernel
theorem dX11_macroAt_49 : decode cX11_macroAt 49 = .ok (.iload_n 2, 1) := by decide +kernel
theorem dX11_macroAt_50 : decode cX11_macroAt 50 = .ok (.iadd, 1) := by decide +kernel
theorem dX11_macroAt_51 : decode cX11_macroAt 51 = .ok (.invokevirtual 172, 3) := by decide +kernel
theorem dX11_macroAt_54 : decode cX11_macroAt 54 = .ok (.ireturn, 1) := by decide +kernel
theorem dX11_now_0 : decode cX11_now 0 = .ok (.iload_n 1, 1) := by decide +kernel
theorem dX11_now_1 : decode cX11_now 1 = .ok (.ifCond .lt 9, 3) := by decide +kernel
theorem dX11_now_4 : decode cX11_now 4 = .ok (.iload_n 1, 1) := by decide +kernel
theorem dX11_now_5 : decode cX11_now 5 = .ok (.bipush 10, 2) := by decide +kernel
theorem dX11_now_7 : decode cX11_now 7 = .ok (.if_icmp .lt 5, 3) := by decide +kernel
theorem dX11_now_10 : decode cX11_now 10 = .ok (.iconst (-1), 1) := by decide +kernel
theorem dX11_now_11 : decode cX11_now 11 = .ok (.ireturn, 1) := by decide +kernel
theorem dX11_now_12 : decode cX11_now 12 = .ok (.iload_n 1, 1) := by decide +kernel
theorem dX11_now_13 : decode cX11_now 13 = .ok (.ifCond .ne 16, 3) := by decide +kernel
theorem dX11_now_16 : decode cX11_now 16 = .ok (.aload_n 0, 1) := by decide +kernel
theorem dX11_now_17 : decode cX11_now 17 = .ok (.getfield 43, 3) := by decide +kernel
theorem dX11_now_20 : decode cX11_now 20 = .ok (.getfield 177, 3) := by decide +kernel
theorem dX11_now_23 : decode cX11_now 23 = .ok (.getfield 181, 3) := by decide +kernel
theorem dX11_now_26 : decode cX11_now 26 = .ok (.goto 12, 3) := by decide +kernel
theorem dX11_now_29 : decode cX11_now 29 = .ok (.aload_n 0, 1) := by decide +kernel
theorem dX11_now_30 : decode cX11_now 30 = .ok (.getfield 43, 3) := by decide +kernel
theorem dX11_now_33 : decode cX11_now 33 = .ok (.getfield 206, 3) := by decide +kernel
theorem dX11_now_36 : decode cX11_now 36 = .ok (.iload_n 1, 1) := by decide +kernel
theorem dX11_now_37 : decode cX11_now 37 = .ok (.iaload, 1) := by decide +kernel
theorem dX11_now_38 : decode cX11_now 38 = .ok (.ireturn, 1) := by decide +kernel
theorem dX11_passed_0 : decode cX11_passed 0 = .ok (.aload_n 0, 1) := by decide +kernel
theorem dX11_passed_1 : decode cX11_passed 1 = .ok (.getfield 20, 3) := by decide +kernel
theorem dX11_passed_4 : decode cX11_passed 4 = .ok (.iload_n 1, 1) := by decide +kernel
theorem dX11_passed_5 : decode cX11_passed 5 = .ok (.iload_n 2, 1) := by decide +kernel
theorem dX11_passed_6 : decode cX11_passed 6 = .ok (.invokevirtual 209, 3) := by decide +kernel
theorem dX11_passed_9 : decode cX11_passed 9 = .ok (.ifCond .ne 5, 3) := by decide +kernel
theorem dX11_passed_12 : decode cX11_passed 12 = .ok (.iconst (-1), 1) := by decide +kernel
theorem dX11_passed_13 : decode cX11_passed 13 = .ok (.ireturn, 1) := by decide +kernel
theorem dX11_passed_14 : decode cX11_passed 14 = .ok (.aload_n 0, 1) := by decide +kernel
theorem dX11_passed_15 : decode cX11_passed 15 = .ok (.getfield 43, 3) := by decide +kernel
theorem dX11_passed_18 : decode cX11_passed 18 = .ok (.getfield 213, 3) := by decide +kernel
theorem dX11_passed_21 : decode cX11_passed 21 = .ok (.iload_n 1, 1) := by decide +kernel
theorem dX11_passed_22 : decode cX11_passed 22 = .ok (.bipush 40, 2) := by decide +kernel
theorem dX11_passed_24 : decode cX11_passed 24 = .ok (.imul, 1) := by decide +kernel
theorem dX11_passed_25 : decode cX11_passed 25 = .ok (.iload_n 2, 1) := by decide +kernel
theorem dX11_passed_26 : decode cX11_passed 26 = .ok (.iadd, 1) := by decide +kernel
theorem dX11_passed_27 : decode cX11_passed 27 = .ok (.iaload, 1) := by decide +kernel
theorem dX11_passed_28 : decode cX11_passed 28 = .ok (.ireturn, 1) := by decide +kernel
theorem dX11_presence_0 : decode cX11_presence 0 = .ok (.aload_n 0, 1) := by decide +kernel
theorem dX11_presence_1 : decode cX11_presence 1 = .ok (.getfield 20, 3) := by decide +kernel
theorem dX11_presence_4 : decode cX11_presence 4 = .ok (.iload_n 1, 1) := by decide +kernel
theorem dX11_presence_5 : decode cX11_presence 5 = .ok (.invokevirtual 99, 3) := by decide +kernel
theorem dX11_presence_8 : decode cX11_presence 8 = .ok (.ifCond .eq 15, 3) := by decide +kernel
theorem dX11_presence_11 : decode cX11_presence 11 = .ok (.aload_n 0, 1) := by decide +kernel
theorem dX11_presence_12 : decode cX11_presence 12 = .ok (.getfield 20, 3) := by decide +kernel
theorem dX11_presence_15 : decode cX11_presence 15 = .ok (.iload_n 2, 1) := by decide +kernel
theorem dX11_presence_16 : decode cX11_presence 16 = .ok (.iload_n 3, 1) := by decide +kernel
theorem dX11_presence_17 : decode cX11_presence 17 = .ok (.invokevirtual 209, 3) := by decide +kernel
theorem dX11_presence_20 : decode cX11_presence 20 = .ok (.ifCond .ne 5, 3) := by decide +kernel
theorem dX11_presence_23 : decode cX11_presence 23 = .ok (.iconst (-1), 1) := by decide +kernel
theorem dX11_presence_24 : decode cX11_presence 24 = .ok (.ireturn, 1) := by decide +kernel
theorem dX11_presence_25 : decode cX11_presence 25 = .ok (.aload_n 0, 1) := by decide +kernel
theorem dX11_presence_26 : decode cX11_presence 26 = .ok (.invokevirtual 216, 3) := by decide +kernel
theorem dX11_presence_29 : decode cX11_presence 29 = .ok (.astore 4, 2) := by decide +kernel
theorem dX11_presence_31 : decode cX11_presence 31 = .ok (.aload 4, 2) := by decide +kernel
theorem dX11_presence_33 : decode cX11_presence 33 = .ok (.aload_n 0, 1) := by decide +kernel
theorem dX11_presence_34 : decode cX11_presence 34 = .ok (.getfield 20, 3) := by decide +kernel
theorem dX11_presence_37 : decode cX11_presence 37 = .ok (.iload_n 1, 1) := by decide +kernel
theorem dX11_presence_38 : decode cX11_presence 38 = .ok (.invokevirtual 220, 3) := by decide +kernel
theorem dX11_presence_41 : decode cX11_presence 41 = .ok (.aload 4, 2) := by decide +kernel
theorem dX11_presence_43 : decode cX11_presence 43 = .ok (.getfield 223, 3) := by decide +kernel
theorem dX11_presence_46 : decode cX11_presence 46 = .ok (.iload_n 2, 1) := by decide +kernel
theorem dX11_presence_47 : decode cX11_presence 47 = .ok (.bipush 40, 2) := by decide +kernel
theorem dX11_presence_49 : decode cX11_presence 49 = .ok (.imul, 1) := by decide +kernel
theorem dX11_presence_50 : decode cX11_presence 50 = .ok (.iload_n 3, 1) := by decide +kernel
theorem dX11_presence_51 : decode cX11_presence 51 = .ok (.iadd, 1) := by decide +kernel
theorem dX11_presence_52 : decode cX11_presence 52 = .ok (.iaload, 1) := by decide +kernel
theorem dX11_presence_53 : decode cX11_presence 53 = .ok (.ireturn, 1) := by decide +kernel
theorem dX11_outcomes_0 : decode cX11_outcomes 0 = .ok (.aload_n 0, 1) := by decide +kernel
theorem dX11_outcomes_1 : decode cX11_outcomes 1 = .ok (.getfield 20, 3) := by decide +kernel
theorem dX11_outcomes_4 : decode cX11_outcomes 4 = .ok (.iload_n 1, 1) := by decide +kernel
theorem dX11_outcomes_5 : decode cX11_outcomes 5 = .ok (.invokevirtual 99, 3) := by decide +kernel
theorem dX11_outcomes_8 : decode cX11_outcomes 8 = .ok (.ifCond .ne 5, 3) := by decide +kernel
theorem dX11_outcomes_11 : decode cX11_outcomes 11 = .ok (.iconst (-1), 1) := by decide +kernel
theorem dX11_outcomes_12 : decode cX11_outcomes 12 = .ok (.ireturn, 1) := by decide +kernel
theorem dX11_outcomes_13 : decode cX11_outcomes 13 = .ok (.aload_n 0, 1) := by decide +kernel
theorem dX11_outcomes_14 : decode cX11_outcomes 14 = .ok (.invokevirtual 216, 3) := by decide +kernel
theorem dX11_outcomes_17 : decode cX11_outcomes 17 = .ok (.astore_n 2, 1) := by decide +kernel
theorem dX11_outcomes_18 : decode cX11_outcomes 18 = .ok (.aload_n 2, 1) := by decide +kernel
theorem dX11_outcomes_19 : decode cX11_outcomes 19 = .ok (.aload_n 0, 1) := by decide +kernel
theorem dX11_outcomes_20 : decode cX11_outcomes 20 = .ok (.getfield 20, 3) := by decide +kernel
theorem dX11_outcomes_23 : decode cX11_outcomes 23 = .ok (.iload_n 1, 1) := by decide +kernel
theorem dX11_outcomes_24 : decode cX11_outcomes 24 = .ok (.invokevirtual 220, 3) := by decide +kernel
theorem dX11_outcomes_27 : decode cX11_outcomes 27 = .ok (.aload_n 2, 1) := by decide +kernel
theorem dX11_outcomes_28 : decode cX11_outcomes 28 = .ok (.iconst 1, 1) := by decide +kernel
theorem dX11_outcomes_29 : decode cX11_outcomes 29 = .ok (.aload_n 0, 1) := by decide +kernel
theorem dX11_outcomes_30 : decode cX11_outcomes 30 = .ok (.getfield 20, 3) := by decide +kernel
theorem dX11_outcomes_33 : decode cX11_outcomes 33 = .ok (.getfield 226, 3) := by decide +kernel
theorem dX11_outcomes_36 : decode cX11_outcomes 36 = .ok (.ishl, 1) := by decide +kernel
theorem dX11_outcomes_37 : decode cX11_outcomes 37 = .ok (.invokevirtual 229, 3) := by decide +kernel
theorem dX11_outcomes_40 : decode cX11_outcomes 40 = .ok (.ireturn, 1) := by decide +kernel
theorem dX11_like_0 : decode cX11_like 0 = .ok (.aload_n 0, 1) := by decide +kernel
theorem dX11_like_1 : decode cX11_like 1 = .ok (.getfield 20, 3) := by decide +kernel
theorem dX11_like_4 : decode cX11_like 4 = .ok (.iload_n 1, 1) := by decide +kernel
theorem dX11_like_5 : decode cX11_like 5 = .ok (.invokevirtual 99, 3) := by decide +kernel
theorem dX11_like_8 : decode cX11_like 8 = .ok (.ifCond .eq 14, 3) := by decide +kernel
theorem dX11_like_11 : decode cX11_like 11 = .ok (.aload_n 0, 1) := by decide +kernel
theorem dX11_like_12 : decode cX11_like 12 = .ok (.getfield 20, 3) := by decide +kernel
theorem dX11_like_15 : decode cX11_like 15 = .ok (.iload_n 2, 1) := by decide +kernel
theorem dX11_like_16 : decode cX11_like 16 = .ok (.invokevirtual 92, 3) := by decide +kernel
theorem dX11_like_19 : decode cX11_like 19 = .ok (.ifCond .ne 5, 3) := by decide +kernel
theorem dX11_like_22 : decode cX11_like 22 = .ok (.iconst (-1), 1) := by decide +kernel
theorem dX11_like_23 : decode cX11_like 23 = .ok (.ireturn, 1) := by decide +kernel
theorem dX11_like_24 : decode cX11_like 24 = .ok (.aload_n 0, 1) := by decide +kernel
theorem dX11_like_25 : decode cX11_like 25 = .ok (.invokevirtual 216, 3) := by decide +kernel
theorem dX11_like_28 : decode cX11_like 28 = .ok (.astore_n 3, 1) := by decide +kernel
theorem dX11_like_29 : decode cX11_like 29 = .ok (.aload_n 3, 1) := by decide +kernel
theorem dX11_like_30 : decode cX11_like 30 = .ok (.aload_n 0, 1) := by decide +kernel
theorem dX11_like_31 : decode cX11_like 31 = .ok (.getfield 20, 3) := by decide +kernel
theorem dX11_like_34 : decode cX11_like 34 = .ok (.iload_n 1, 1) := by decide +kernel
theorem dX11_like_35 : decode cX11_like 35 = .ok (.invokevirtual 220, 3) := by decide +kernel
theorem dX11_like_38 : decode cX11_like 38 = .ok (.aload_n 3, 1) := by decide +kernel
theorem dX11_like_39 : decode cX11_like 39 = .ok (.getfield 232, 3) := by decide +kernel
theorem dX11_like_42 : decode cX11_like 42 = .ok (.iload_n 2, 1) := by decide +kernel
theorem dX11_like_43 : decode cX11_like 43 = .ok (.iaload, 1) := by decide +kernel
theorem dX11_like_44 : decode cX11_like 44 = .ok (.ireturn, 1) := by decide +kernel
theorem dX11_depends_0 : decode cX11_depends 0 = .ok (.aload_n 0, 1) := by decide +kernel
theorem dX11_depends_1 : decode cX11_depends 1 = .ok (.getfield 20, 3) := by decide +kernel
theorem dX11_depends_4 : decode cX11_depends 4 = .ok (.iload_n 1, 1) := by decide +kernel
theorem dX11_depends_5 : decode cX11_depends 5 = .ok (.invokevirtual 99, 3) := by decide +kernel
theorem dX11_depends_8 : decode cX11_depends 8 = .ok (.ifCond .ne 5, 3) := by decide +kernel
theorem dX11_depends_11 : decode cX11_depends 11 = .ok (.iconst (-1), 1) := by decide +kernel
theorem dX11_depends_12 : decode cX11_depends 12 = .ok (.ireturn, 1) := by decide +kernel
theorem dX11_depends_13 : decode cX11_depends 13 = .ok (.aload_n 0, 1) := by decide +kernel
theorem dX11_depends_14 : decode cX11_depends 14 = .ok (.invokevirtual 216, 3) := by decide +kernel
theorem dX11_depends_17 : decode cX11_depends 17 = .ok (.astore_n 2, 1) := by decide +kernel
theorem dX11_depends_18 : decode cX11_depends 18 = .ok (.aload_n 2, 1) := by decide +kernel
theorem dX11_depends_19 : decode cX11_depends 19 = .ok (.aload_n 0, 1) := by decide +kernel
theorem dX11_depends_20 : decode cX11_depends 20 = .ok (.getfield 20, 3) := by decide +kernel
theorem dX11_depends_23 : decode cX11_depends 23 = .ok (.iload_n 1, 1) := by decide +kernel
theorem dX11_depends_24 : decode cX11_depends 24 = .ok (.invokevirtual 220, 3) := by decide +kernel
theorem dX11_depends_27 : decode cX11_depends 27 = .ok (.aload_n 2, 1) := by decide +kernel
theorem dX11_depends_28 : decode cX11_depends 28 = .ok (.aload_n 0, 1) := by decide +kernel
theorem dX11_depends_29 : decode cX11_depends 29 = .ok (.getfield 20, 3) := by decide +kernel
theorem dX11_depends_32 : decode cX11_depends 32 = .ok (.getfield 226, 3) := by decide +kernel
theorem dX11_depends_35 : decode cX11_depends 35 = .ok (.invokevirtual 235, 3) := by decide +kernel
theorem dX11_depends_38 : decode cX11_depends 38 = .ok (.ireturn, 1) := by decide +kernel
theorem dX11_guard_0 : decode cX11_guard 0 = .ok (.aload_n 0, 1) := by decide +kernel
theorem dX11_guard_1 : decode cX11_guard 1 = .ok (.getfield 20, 3) := by decide +kernel
theorem dX11_guard_4 : decode cX11_guard 4 = .ok (.iload_n 1, 1) := by decide +kernel
theorem dX11_guard_5 : decode cX11_guard 5 = .ok (.invokevirtual 99, 3) := by decide +kernel
theorem dX11_guard_8 : decode cX11_guard 8 = .ok (.ifCond .ne 5, 3) := by decide +kernel
theorem dX11_guard_11 : decode cX11_guard 11 = .ok (.iconst (-1), 1) := by decide +kernel
theorem dX11_guard_12 : decode cX11_guard 12 = .ok (.ireturn, 1) := by decide +kernel
theorem dX11_guard_13 : decode cX11_guard 13 = .ok (.aload_n 0, 1) := by decide +kernel
theorem dX11_guard_14 : decode cX11_guard 14 = .ok (.getfield 20, 3) := by decide +kernel
theorem dX11_guard_17 : decode cX11_guard 17 = .ok (.getfield 66, 3) := by decide +kernel
theorem dX11_guard_20 : decode cX11_guard 20 = .ok (.iload_n 1, 1) := by decide +kernel
theorem dX11_guard_21 : decode cX11_guard 21 = .ok (.aaload, 1) := by decide +kernel
theorem dX11_guard_22 : decode cX11_guard 22 = .ok (.astore_n 2, 1) := by decide +kernel
theorem dX11_guard_23 : decode cX11_guard 23 = .ok (.aload_n 2, 1) := by decide +kernel
theorem dX11_guard_24 : decode cX11_guard 24 = .ok (.getfield 238, 3) := by decide +kernel
theorem dX11_guard_27 : decode cX11_guard 27 = .ok (.ifCond .le 40, 3) := by decide +kernel
theorem dX11_guard_30 : decode cX11_guard 30 = .ok (.aload_n 2, 1) := by decide +kernel
theorem dX11_guard_31 : decode cX11_guard 31 = .ok (.getfield 238, 3) := by decide +kernel
theorem dX11_guard_34 : decode cX11_guard 34 = .ok (.bipush 30, 2) := by decide +kernel
theorem dX11_guard_36 : decode cX11_guard 36 = .ok (.if_icmp .gt 31, 3) := by decide +kernel
theorem dX11_guard_39 : decode cX11_guard 39 = .ok (.aload_n 0, 1) := by decide +kernel
theorem dX11_guard_40 : decode cX11_guard 40 = .ok (.aload_n 2, 1) := by decide +kernel
theorem dX11_guard_41 : decode cX11_guard 41 = .ok (.getfield 238, 3) := by decide +kernel
theorem dX11_guard_44 : decode cX11_guard 44 = .ok (.putfield 35, 3) := by decide +kernel
theorem dX11_guard_47 : decode cX11_guard 47 = .ok (.aload_n 2, 1) := by decide +kernel
theorem dX11_guard_48 : decode cX11_guard 48 = .ok (.getfield 241, 3) := by decide +kernel
theorem dX11_guard_51 : decode cX11_guard 51 = .ok (.aload_n 2, 1) := by decide +kernel
theorem dX11_guard_52 : decode cX11_guard 52 = .ok (.getfield 243, 3) := by decide +kernel
theorem dX11_guard_55 : decode cX11_guard 55 = .ok (.aload_n 0, 1) := by decide +kernel
theorem dX11_guard_56 : decode cX11_guard 56 = .ok (.getfield 32, 3) := by decide +kernel
theorem dX11_guard_59 : decode cX11_guard 59 = .ok (.iconst 0, 1) := by decide +kernel
theorem dX11_guard_60 : decode cX11_guard 60 = .ok (.aload_n 0, 1) := by decide +kernel
theorem dX11_guard_61 : decode cX11_guard 61 = .ok (.getfield 35, 3) := by decide +kernel
theorem dX11_guard_64 : decode cX11_guard 64 = .ok (.invokestatic 246, 3) := by decide +kernel
theorem dX11_guard_67 : decode cX11_guard 67 = .ok (.aload_n 2, 1) := by decide +kernel
theorem dX11_guard_68 : decode cX11_guard 68 = .ok (.getfield 238, 3) := by decide +kernel
theorem dX11_guard_71 : decode cX11_guard 71 = .ok (.ireturn, 1) := by decide +kernel
theorem dX11_guardAt_0 : decode cX11_guardAt 0 = .ok (.iload_n 1, 1) := by decide +kernel
theorem dX11_guardAt_1 : decode cX11_guardAt 1 = .ok (.ifCond .lt 11, 3) := by decide +kernel
theorem dX11_guardAt_4 : decode cX11_guardAt 4 = .ok (.iload_n 1, 1) := by decide +kernel
theorem dX11_guardAt_5 : decode cX11_guardAt 5 = .ok (.aload_n 0, 1) := by decide +kernel
theorem dX11_guardAt_6 : decode cX11_guardAt 6 = .ok (.getfield 35, 3) := by decide +kernel
theorem dX11_guardAt_9 : decode cX11_guardAt 9 = .ok (.if_icmp .lt 7, 3) := by decide +kernel
theorem dX11_guardAt_12 : decode cX11_guardAt 12 = .ok (.iconst (-1), 1) := by decide +kernel
theorem dX11_guardAt_13 : decode cX11_guardAt 13 = .ok (.goto 9, 3) := by decide +kernel
theorem dX11_guardAt_16 : decode cX11_guardAt 16 = .ok (.aload_n 0, 1) := by decide +kernel
theorem dX11_guardAt_17 : decode cX11_guardAt 17 = .ok (.getfield 32, 3) := by decide +kernel
theorem dX11_guardAt_20 : decode cX11_guardAt 20 = .ok (.iload_n 1, 1) := by decide +kernel
theorem dX11_guardAt_21 : decode cX11_guardAt 21 = .ok (.baload, 1) := by decide +kernel
theorem dX11_guardAt_22 : decode cX11_guardAt 22 = .ok (.ireturn, 1) := by decide +kernel
theorem dX11_nextOf_0 : decode cX11_nextOf 0 = .ok (.aload_n 0, 1) := by decide +kernel
theorem dX11_nextOf_1 : decode cX11_nextOf 1 = .ok (.getfield 20, 3) := by decide +kernel
theorem dX11_nextOf_4 : decode cX11_nextOf 4 = .ok (.iload_n 1, 1) := by decide +kernel
theorem dX11_nextOf_5 : decode cX11_nextOf 5 = .ok (.iload_n 2, 1) := by decide +kernel
theorem dX11_nextOf_6 : decode cX11_nextOf 6 = .ok (.invokevirtual 209, 3) := by decide +kernel
theorem dX11_nextOf_9 : decode cX11_nextOf 9 = .ok (.ifCond .eq 19, 3) := by decide +kernel
theorem dX11_nextOf_12 : decode cX11_nextOf 12 = .ok (.aload_n 0, 1) := by decide +kernel
theorem dX11_nextOf_13 : decode cX11_nextOf 13 = .ok (.getfield 20, 3) := by decide +kernel
theorem dX11_nextOf_16 : decode cX11_nextOf 16 = .ok (.getfield 66, 3) := by decide +kernel
theorem dX11_nextOf_19 : decode cX11_nextOf 19 = .ok (.iload_n 1, 1) := by decide +kernel
theorem dX11_nextOf_20 : decode cX11_nextOf 20 = .ok (.aaload, 1) := by decide +kernel
theorem dX11_nextOf_21 : decode cX11_nextOf 21 = .ok (.iload_n 2, 1) := by decide +kernel
theorem dX11_nextOf_22 : decode cX11_nextOf 22 = .ok (.invokevirtual 252, 3) := by decide +kernel
theorem dX11_nextOf_25 : decode cX11_nextOf 25 = .ok (.goto 4, 3) := by decide +kernel
theorem dX11_nextOf_28 : decode cX11_nextOf 28 = .ok (.iconst (-1), 1) := by decide +kernel
theorem dX11_nextOf_29 : decode cX11_nextOf 29 = .ok (.ireturn, 1) := by decide +kernel
theorem dX11_edit_0 : decode cX11_edit 0 = .ok (.aload_n 0, 1) := by decide +kernel
theorem dX11_edit_1 : decode cX11_edit 1 = .ok (.invokevirtual 54, 3) := by decide +kernel
theorem dX11_edit_4 : decode cX11_edit 4 = .ok (.istore_n 3, 1) := by decide +kernel
theorem dX11_edit_5 : decode cX11_edit 5 = .ok (.aload_n 0, 1) := by decide +kernel
theorem dX11_edit_6 : decode cX11_edit 6 = .ok (.getfield 20, 3) := by decide +kernel
theorem dX11_edit_9 : decode cX11_edit 9 = .ok (.iload_n 1, 1) := by decide +kernel
theorem dX11_edit_10 : decode cX11_edit 10 = .ok (.invokevirtual 99, 3) := by decide +kernel
theorem dX11_edit_13 : decode cX11_edit 13 = .ok (.ifCond .eq 23, 3) := by decide +kernel
theorem dX11_edit_16 : decode cX11_edit 16 = .ok (.iload_n 2, 1) := by decide +kernel
theorem dX11_edit_17 : decode cX11_edit 17 = .ok (.ifCond .lt 19, 3) := by decide +kernel
theorem dX11_edit_20 : decode cX11_edit 20 = .ok (.iload_n 2, 1) := by decide +kernel
theorem dX11_edit_21 : decode cX11_edit 21 = .ok (.aload_n 0, 1) := by decide +kernel
theorem dX11_edit_22 : decode cX11_edit 22 = .ok (.getfield 20, 3) := by decide +kernel
theorem dX11_edit_25 : decode cX11_edit 25 = .ok (.getfield 66, 3) := by decide +kernel
theorem dX11_edit_28 : decode cX11_edit 28 = .ok (.iload_n 1, 1) := by decide +kernel
theorem dX11_edit_29 : decode cX11_edit 29 = .ok (.aaload, 1) := by decide +kernel
theorem dX11_edit_30 : decode cX11_edit 30 = .ok (.getfield 79, 3) := by decide +kernel
theorem dX11_edit_33 : decode cX11_edit 33 = .ok (.if_icmp .le 6, 3) := by decide +kernel
theorem dX11_edit_36 : decode cX11_edit 36 = .ok (.bipush (-2), 2) := by decide +kernel
theorem dX11_edit_38 : decode cX11_edit 38 = .ok (.ireturn, 1) := by decide +kernel
theorem dX11_edit_39 : decode cX11_edit 39 = .ok (.aload_n 0, 1) := by decide +kernel
theorem dX11_edit_40 : decode cX11_edit 40 = .ok (.iload_n 3, 1) := by decide +kernel
theorem dX11_edit_41 : decode cX11_edit 41 = .ok (.bipush 32, 2) := by decide +kernel
theorem dX11_edit_43 : decode cX11_edit 43 = .ok (.invokevirtual 58, 3) := by decide +kernel
theorem dX11_edit_46 : decode cX11_edit 46 = .ok (.istore 4, 2) := by decide +kernel
theorem dX11_edit_48 : decode cX11_edit 48 = .ok (.iload 4, 2) := by decide +kernel
theorem dX11_edit_50 : decode cX11_edit 50 = .ok (.iconst (-1), 1) := by decide +kernel
theorem dX11_edit_51 : decode cX11_edit 51 = .ok (.if_icmp .eq 10, 3) := by decide +kernel
theorem dX11_edit_54 : decode cX11_edit 54 = .ok (.sipush (-1000), 3) := by decide +kernel
theorem dX11_edit_57 : decode cX11_edit 57 = .ok (.iload 4, 2) := by decide +kernel
theorem dX11_edit_59 : decode cX11_edit 59 = .ok (.isub, 1) := by decide +kernel
theorem dX11_edit_60 : decode cX11_edit 60 = .ok (.ireturn, 1) := by decide +kernel
theorem dX11_edit_61 : decode cX11_edit 61 = .ok (.aload_n 0, 1) := by decide +kernel
theorem dX11_edit_62 : decode cX11_edit 62 = .ok (.getfield 20, 3) := by decide +kernel
theorem dX11_edit_65 : decode cX11_edit 65 = .ok (.getfield 66, 3) := by decide +kernel
theorem dX11_edit_68 : decode cX11_edit 68 = .ok (.iload_n 1, 1) := by decide +kernel
theorem dX11_edit_69 : decode cX11_edit 69 = .ok (.aaload, 1) := by decide +kernel
theorem dX11_edit_70 : decode cX11_edit 70 = .ok (.iload_n 2, 1) := by decide +kernel
theorem dX11_edit_71 : decode cX11_edit 71 = .ok (.aload_n 0, 1) := by decide +kernel
theorem dX11_edit_72 : decode cX11_edit 72 = .ok (.getfield 9, 3) := by decide +kernel
theorem dX11_edit_75 : decode cX11_edit 75 = .ok (.iload_n 3, 1) := by decide +kernel
theorem dX11_edit_76 : decode cX11_edit 76 = .ok (.invokevirtual 255, 3) := by decide +kernel
theorem dX11_edit_79 : decode cX11_edit 79 = .ok (.ifCond .ne 6, 3) := by decide +kernel
theorem dX11_edit_82 : decode cX11_edit 82 = .ok (.bipush (-3), 2) := by decide +kernel
theorem dX11_edit_84 : decode cX11_edit 84 = .ok (.ireturn, 1) := by decide +kernel
theorem dX11_edit_85 : decode cX11_edit 85 = .ok (.aload_n 0, 1) := by decide +kernel
theorem dX11_edit_86 : decode cX11_edit 86 = .ok (.invokevirtual 76, 3) := by decide +kernel
theorem dX11_edit_89 : decode cX11_edit 89 = .ok (.aload_n 0, 1) := by decide +kernel
theorem dX11_edit_90 : decode cX11_edit 90 = .ok (.getfield 20, 3) := by decide +kernel
theorem dX11_edit_93 : decode cX11_edit 93 = .ok (.getfield 66, 3) := by decide +kernel
theorem dX11_edit_96 : decode cX11_edit 96 = .ok (.iload_n 1, 1) := by decide +kernel
theorem dX11_edit_97 : decode cX11_edit 97 = .ok (.aaload, 1) := by decide +kernel
theorem dX11_edit_98 : decode cX11_edit 98 = .ok (.getfield 79, 3) := by decide +kernel
theorem dX11_edit_101 : decode cX11_edit 101 = .ok (.ireturn, 1) := by decide +kernel
theorem dX11_drop_0 : decode cX11_drop 0 = .ok (.aload_n 0, 1) := by decide +kernel
theorem dX11_drop_1 : decode cX11_drop 1 = .ok (.getfield 20, 3) := by decide +kernel
theorem dX11_drop_4 : decode cX11_drop 4 = .ok (.iload_n 1, 1) := by decide +kernel
theorem dX11_drop_5 : decode cX11_drop 5 = .ok (.iload_n 2, 1) := by decide +kernel
theorem dX11_drop_6 : decode cX11_drop 6 = .ok (.invokevirtual 209, 3) := by decide +kernel
theorem dX11_drop_9 : decode cX11_drop 9 = .ok (.ifCond .ne 5, 3) := by decide +kernel
theorem dX11_drop_12 : decode cX11_drop 12 = .ok (.iconst (-1), 1) := by decide +kernel
theorem dX11_drop_13 : decode cX11_drop 13 = .ok (.ireturn, 1) := by decide +kernel
theorem dX11_drop_14 : decode cX11_drop 14 = .ok (.aload_n 0, 1) := by decide +kernel
theorem dX11_drop_15 : decode cX11_drop 15 = .ok (.getfield 20, 3) := by decide +kernel
theorem dX11_drop_18 : decode cX11_drop 18 = .ok (.getfield 66, 3) := by decide +kernel
theorem dX11_drop_21 : decode cX11_drop 21 = .ok (.iload_n 1, 1) := by decide +kernel
theorem dX11_drop_22 : decode cX11_drop 22 = .ok (.aaload, 1) := by decide +kernel
theorem dX11_drop_23 : decode cX11_drop 23 = .ok (.iload_n 2, 1) := by decide +kernel
theorem dX11_drop_24 : decode cX11_drop 24 = .ok (.invokevirtual 259, 3) := by decide +kernel
theorem dX11_drop_27 : decode cX11_drop 27 = .ok (.aload_n 0, 1) := by decide +kernel
theorem dX11_drop_28 : decode cX11_drop 28 = .ok (.invokevirtual 76, 3) := by decide +kernel
theorem dX11_drop_31 : decode cX11_drop 31 = .ok (.aload_n 0, 1) := by decide +kernel
theorem dX11_drop_32 : decode cX11_drop 32 = .ok (.getfield 20, 3) := by decide +kernel
theorem dX11_drop_35 : decode cX11_drop 35 = .ok (.getfield 66, 3) := by decide +kernel
theorem dX11_drop_38 : decode cX11_drop 38 = .ok (.iload_n 1, 1) := by decide +kernel
theorem dX11_drop_39 : decode cX11_drop 39 = .ok (.aaload, 1) := by decide +kernel
theorem dX11_drop_40 : decode cX11_drop 40 = .ok (.getfield 79, 3) := by decide +kernel
theorem dX11_drop_43 : decode cX11_drop 43 = .ok (.ireturn, 1) := by decide +kernel
theorem dX11_image_0 : decode cX11_image 0 = .ok (.iload_n 1, 1) := by decide +kernel
theorem dX11_image_1 : decode cX11_image 1 = .ok (.ifCond .lt 12, 3) := by decide +kernel
theorem dX11_image_4 : decode cX11_image 4 = .ok (.iload_n 1, 1) := by decide +kernel
theorem dX11_image_5 : decode cX11_image 5 = .ok (.aload_n 0, 1) := by decide +kernel
theorem dX11_image_6 : decode cX11_image 6 = .ok (.getfield 24, 3) := by decide +kernel
theorem dX11_image_9 : decode cX11_image 9 = .ok (.arraylength, 1) := by decide +kernel
theorem dX11_image_10 : decode cX11_image 10 = .ok (.if_icmp .lt 5, 3) := by decide +kernel
theorem dX11_image_13 : decode cX11_image 13 = .ok (.iconst 0, 1) := by decide +kernel
theorem dX11_image_14 : decode cX11_image 14 = .ok (.ireturn, 1) := by decide +kernel
theorem dX11_image_15 : decode cX11_image 15 = .ok (.aload_n 0, 1) := by decide +kernel
theorem dX11_image_16 : decode cX11_image 16 = .ok (.getfield 24, 3) := by decide +kernel
theorem dX11_image_19 : decode cX11_image 19 = .ok (.iload_n 1, 1) := by decide +kernel
theorem dX11_image_20 : decode cX11_image 20 = .ok (.aaload, 1) := by decide +kernel
theorem dX11_image_21 : decode cX11_image 21 = .ok (.aload_n 0, 1) := by decide +kernel
theorem dX11_image_22 : decode cX11_image 22 = .ok (.getfield 20, 3) := by decide +kernel
theorem dX11_image_25 : decode cX11_image 25 = .ok (.invokevirtual 262, 3) := by decide +kernel
theorem dX11_image_28 : decode cX11_image 28 = .ok (.aload_n 0, 1) := by decide +kernel
theorem dX11_image_29 : decode cX11_image 29 = .ok (.getfield 28, 3) := by decide +kernel
theorem dX11_image_32 : decode cX11_image 32 = .ok (.iload_n 1, 1) := by decide +kernel
theorem dX11_image_33 : decode cX11_image 33 = .ok (.iconst 1, 1) := by decide +kernel
theorem dX11_image_34 : decode cX11_image 34 = .ok (.bastore, 1) := by decide +kernel
theorem dX11_image_35 : decode cX11_image 35 = .ok (.iconst 1, 1) := by decide +kernel
theorem dX11_image_36 : decode cX11_image 36 = .ok (.ireturn, 1) := by decide +kernel
theorem dX11_restore_0 : decode cX11_restore 0 = .ok (.iload_n 1, 1) := by decide +kernel
theorem dX11_restore_1 : decode cX11_restore 1 = .ok (.ifCond .lt 21, 3) := by decide +kernel
theorem dX11_restore_4 : decode cX11_restore 4 = .ok (.iload_n 1, 1) := by decide +kernel
theorem dX11_restore_5 : decode cX11_restore 5 = .ok (.aload_n 0, 1) := by decide +kernel
theorem dX11_restore_6 : decode cX11_restore 6 = .ok (.getfield 24, 3) := by decide +kernel
theorem dX11_restore_9 : decode cX11_restore 9 = .ok (.arraylength, 1) := by decide +kernel
theorem dX11_restore_10 : decode cX11_restore 10 = .ok (.if_icmp .ge 12, 3) := by decide +kernel
theorem dX11_restore_13 : decode cX11_restore 13 = .ok (.aload_n 0, 1) := by decide +kernel
theorem dX11_restore_14 : decode cX11_restore 14 = .ok (.getfield 28, 3) := by decide +kernel
theorem dX11_restore_17 : decode cX11_restore 17 = .ok (.iload_n 1, 1) := by decide +kernel
theorem dX11_restore_18 : decode cX11_restore 18 = .ok (.baload, 1) := by decide +kernel
theorem dX11_restore_19 : decode cX11_restore 19 = .ok (.ifCond .ne 5, 3) := by decide +kernel
theorem dX11_restore_22 : decode cX11_restore 22 = .ok (.iconst 0, 1) := by decide +kernel
theorem dX11_restore_23 : decode cX11_restore 23 = .ok (.ireturn, 1) := by decide +kernel
theorem dX11_restore_24 : decode cX11_restore 24 = .ok (.aload_n 0, 1) := by decide +kernel
theorem dX11_restore_25 : decode cX11_restore 25 = .ok (.getfield 20, 3) := by decide +kernel
theorem dX11_restore_28 : decode cX11_restore 28 = .ok (.aload_n 0, 1) := by decide +kernel
theorem dX11_restore_29 : decode cX11_restore 29 = .ok (.getfield 24, 3) := by decide +kernel
theorem dX11_restore_32 : decode cX11_restore 32 = .ok (.iload_n 1, 1) := by decide +kernel
theorem dX11_restore_33 : decode cX11_restore 33 = .ok (.aaload, 1) := by decide +kernel
theorem dX11_restore_34 : decode cX11_restore 34 = .ok (.invokevirtual 262, 3) := by decide +kernel
theorem dX11_restore_37 : decode cX11_restore 37 = .ok (.aload_n 0, 1) := by decide +kernel
theorem dX11_restore_38 : decode cX11_restore 38 = .ok (.invokevirtual 76, 3) := by decide +kernel
theorem dX11_restore_41 : decode cX11_restore 41 = .ok (.iconst 1, 1) := by decide +kernel
theorem dX11_restore_42 : decode cX11_restore 42 = .ok (.ireturn, 1) := by decide +kernel
theorem dX11_count_0 : decode cX11_count 0 = .ok (.iload_n 1, 1) := by decide +kernel
theorem dX11_count_1 : decode cX11_count 1 = .ok (.tableswitch 60 0 3 #[31, 39, 47, 55], 31) := by decide +kernel
theorem dX11_count_32 : decode cX11_count 32 = .ok (.aload_n 0, 1) := by decide +kernel
theorem dX11_count_33 : decode cX11_count 33 = .ok (.getfield 20, 3) := by decide +kernel
theorem dX11_count_36 : decode cX11_count 36 = .ok (.invokevirtual 266, 3) := by decide +kernel
theorem dX11_count_39 : decode cX11_count 39 = .ok (.ireturn, 1) := by decide +kernel
theorem dX11_count_40 : decode cX11_count 40 = .ok (.aload_n 0, 1) := by decide +kernel
theorem dX11_count_41 : decode cX11_count 41 = .ok (.getfield 20, 3) := by decide +kernel
theorem dX11_count_44 : decode cX11_count 44 = .ok (.getfield 226, 3) := by decide +kernel
theorem dX11_count_47 : decode cX11_count 47 = .ok (.ireturn, 1) := by decide +kernel
theorem dX11_count_48 : decode cX11_count 48 = .ok (.aload_n 0, 1) := by decide +kernel
theorem dX11_count_49 : decode cX11_count 49 = .ok (.getfield 20, 3) := by decide +kernel
theorem dX11_count_52 : decode cX11_count 52 = .ok (.getfield 96, 3) := by decide +kernel
theorem dX11_count_55 : decode cX11_count 55 = .ok (.ireturn, 1) := by decide +kernel
theorem dX11_count_56 : decode cX11_count 56 = .ok (.aload_n 0, 1) := by decide +kernel
theorem dX11_count_57 : decode cX11_count 57 = .ok (.getfield 13, 3) := by decide +kernel
theorem dX11_count_60 : decode cX11_count 60 = .ok (.ireturn, 1) := by decide +kernel
theorem dX11_count_61 : decode cX11_count 61 = .ok (.iconst (-1), 1) := by decide +kernel
theorem dX11_count_62 : decode cX11_count 62 = .ok (.ireturn, 1) := by decide +kernel
theorem dX11_lines_0 : decode cX11_lines 0 = .ok (.aload_n 0, 1) := by decide +kernel
theorem dX11_lines_1 : decode cX11_lines 1 = .ok (.getfield 20, 3) := by decide +kernel
theorem dX11_lines_4 : decode cX11_lines 4 = .ok (.iload_n 1, 1) := by decide +kernel
theorem dX11_lines_5 : decode cX11_lines 5 = .ok (.invokevirtual 99, 3) := by decide +kernel
theorem dX11_lines_8 : decode cX11_lines 8 = .ok (.ifCond .eq 18, 3) := by decide +kernel
theorem dX11_lines_11 : decode cX11_lines 11 = .ok (.aload_n 0, 1) := by decide +kernel
theorem dX11_lines_12 : decode cX11_lines 12 = .ok (.getfield 20, 3) := by decide +kernel
theorem dX11_lines_15 : decode cX11_lines 15 = .ok (.getfield 66, 3) := by decide +kernel
theorem dX11_lines_18 : decode cX11_lines 18 = .ok (.iload_n 1, 1) := by decide +kernel
theorem dX11_lines_19 : decode cX11_lines 19 = .ok (.aaload, 1) := by decide +kernel
theorem dX11_lines_20 : decode cX11_lines 20 = .ok (.getfield 79, 3) := by decide +kernel
theorem dX11_lines_23 : decode cX11_lines 23 = .ok (.goto 4, 3) := by decide +kernel
theorem dX11_lines_26 : decode cX11_lines 26 = .ok (.iconst (-1), 1) := by decide +kernel
theorem dX11_lines_27 : decode cX11_lines 27 = .ok (.ireturn, 1) := by decide +kernel
