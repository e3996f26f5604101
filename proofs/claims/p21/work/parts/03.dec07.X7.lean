theorem dX7_init_0 : decode cX7_init 0 = .ok (.aload_n 0, 1) := by decide +kernel
theorem dX7_init_1 : decode cX7_init 1 = .ok (.invokespecial 3, 3) := by decide +kernel
theorem dX7_init_4 : decode cX7_init 4 = .ok (.aload_n 0, 1) := by decide +kernel
theorem dX7_init_5 : decode cX7_init 5 = .ok (.iconst 4, 1) := by decide +kernel
theorem dX7_init_6 : decode cX7_init 6 = .ok (.anewarray 9, 3) := by decide +kernel
theorem dX7_init_9 : decode cX7_init 9 = .ok (.putfield 11, 3) := by decide +kernel
theorem dX7_init_12 : decode cX7_init 12 = .ok (.aload_n 0, 1) := by decide +kernel
theorem dX7_init_13 : decode cX7_init 13 = .ok (.iconst 3, 1) := by decide +kernel
theorem dX7_init_14 : decode cX7_init 14 = .ok (.bipush 30, 2) := by decide +kernel
theorem dX7_init_16 : decode cX7_init 16 = .ok (.multianewarray 17 2, 4) := by decide +kernel
theorem dX7_init_20 : decode cX7_init 20 = .ok (.putfield 19, 3) := by decide +kernel
theorem dX7_init_23 : decode cX7_init 23 = .ok (.aload_n 0, 1) := by decide +kernel
theorem dX7_init_24 : decode cX7_init 24 = .ok (.iconst 3, 1) := by decide +kernel
theorem dX7_init_25 : decode cX7_init 25 = .ok (.newarray .int, 2) := by decide +kernel
theorem dX7_init_27 : decode cX7_init 27 = .ok (.putfield 22, 3) := by decide +kernel
theorem dX7_init_30 : decode cX7_init 30 = .ok (.aload_n 0, 1) := by decide +kernel
theorem dX7_init_31 : decode cX7_init 31 = .ok (.iconst 0, 1) := by decide +kernel
theorem dX7_init_32 : decode cX7_init 32 = .ok (.putfield 26, 3) := by decide +kernel
theorem dX7_init_35 : decode cX7_init 35 = .ok (.aload_n 0, 1) := by decide +kernel
theorem dX7_init_36 : decode cX7_init 36 = .ok (.iconst 0, 1) := by decide +kernel
theorem dX7_init_37 : decode cX7_init 37 = .ok (.putfield 30, 3) := by decide +kernel
theorem dX7_init_40 : decode cX7_init 40 = .ok (.aload_n 0, 1) := by decide +kernel
theorem dX7_init_41 : decode cX7_init 41 = .ok (.iconst 3, 1) := by decide +kernel
theorem dX7_init_42 : decode cX7_init 42 = .ok (.newarray .int, 2) := by decide +kernel
theorem dX7_init_44 : decode cX7_init 44 = .ok (.putfield 33, 3) := by decide +kernel
theorem dX7_init_47 : decode cX7_init 47 = .ok (.aload_n 0, 1) := by decide +kernel
theorem dX7_init_48 : decode cX7_init 48 = .ok (.iconst 3, 1) := by decide +kernel
theorem dX7_init_49 : decode cX7_init 49 = .ok (.newarray .int, 2) := by decide +kernel
theorem dX7_init_51 : decode cX7_init 51 = .ok (.putfield 36, 3) := by decide +kernel
theorem dX7_init_54 : decode cX7_init 54 = .ok (.iconst 0, 1) := by decide +kernel
theorem dX7_init_55 : decode cX7_init 55 = .ok (.istore_n 1, 1) := by decide +kernel
theorem dX7_init_56 : decode cX7_init 56 = .ok (.iload_n 1, 1) := by decide +kernel
theorem dX7_init_57 : decode cX7_init 57 = .ok (.iconst 4, 1) := by decide +kernel
theorem dX7_init_58 : decode cX7_init 58 = .ok (.if_icmp .ge 22, 3) := by decide +kernel
theorem dX7_init_61 : decode cX7_init 61 = .ok (.aload_n 0, 1) := by decide +kernel
theorem dX7_init_62 : decode cX7_init 62 = .ok (.getfield 11, 3) := by decide +kernel
theorem dX7_init_65 : decode cX7_init 65 = .ok (.iload_n 1, 1) := by decide +kernel
theorem dX7_init_66 : decode cX7_init 66 = .ok (.new 9, 3) := by decide +kernel
theorem dX7_init_69 : decode cX7_init 69 = .ok (.dup, 1) := by decide +kernel
theorem dX7_init_70 : decode cX7_init 70 = .ok (.invokespecial 39, 3) := by decide +kernel
theorem dX7_init_73 : decode cX7_init 73 = .ok (.aastore, 1) := by decide +kernel
theorem dX7_init_74 : decode cX7_init 74 = .ok (.iinc 1 1, 3) := by decide +kernel
theorem dX7_init_77 : decode cX7_init 77 = .ok (.goto (-21), 3) := by decide +kernel
theorem dX7_init_80 : decode cX7_init 80 = .ok (.return_, 1) := by decide +kernel
theorem dX7_hasFile_0 : decode cX7_hasFile 0 = .ok (.iload_n 1, 1) := by decide +kernel
theorem dX7_hasFile_1 : decode cX7_hasFile 1 = .ok (.ifCond .lt 24, 3) := by decide +kernel
theorem dX7_hasFile_4 : decode cX7_hasFile 4 = .ok (.iload_n 1, 1) := by decide +kernel
theorem dX7_hasFile_5 : decode cX7_hasFile 5 = .ok (.iconst 4, 1) := by decide +kernel
theorem dX7_hasFile_6 : decode cX7_hasFile 6 = .ok (.if_icmp .ge 19, 3) := by decide +kernel
theorem dX7_hasFile_9 : decode cX7_hasFile 9 = .ok (.aload_n 0, 1) := by decide +kernel
theorem dX7_hasFile_10 : decode cX7_hasFile 10 = .ok (.getfield 11, 3) := by decide +kernel
theorem dX7_hasFile_13 : decode cX7_hasFile 13 = .ok (.iload_n 1, 1) := by decide +kernel
theorem dX7_hasFile_14 : decode cX7_hasFile 14 = .ok (.aaload, 1) := by decide +kernel
theorem dX7_hasFile_15 : decode cX7_hasFile 15 = .ok (.getfield 40, 3) := by decide +kernel
theorem dX7_hasFile_18 : decode cX7_hasFile 18 = .ok (.ifCond .eq 7, 3) := by decide +kernel
theorem dX7_hasFile_21 : decode cX7_hasFile 21 = .ok (.iconst 1, 1) := by decide +kernel
theorem dX7_hasFile_22 : decode cX7_hasFile 22 = .ok (.goto 4, 3) := by decide +kernel
theorem dX7_hasFile_25 : decode cX7_hasFile 25 = .ok (.iconst 0, 1) := by decide +kernel
theorem dX7_hasFile_26 : decode cX7_hasFile 26 = .ok (.ireturn, 1) := by decide +kernel
theorem dX7_hasLine_0 : decode cX7_hasLine 0 = .ok (.aload_n 0, 1) := by decide +kernel
theorem dX7_hasLine_1 : decode cX7_hasLine 1 = .ok (.iload_n 1, 1) := by decide +kernel
theorem dX7_hasLine_2 : decode cX7_hasLine 2 = .ok (.invokevirtual 44, 3) := by decide +kernel
theorem dX7_hasLine_5 : decode cX7_hasLine 5 = .ok (.ifCond .eq 24, 3) := by decide +kernel
theorem dX7_hasLine_8 : decode cX7_hasLine 8 = .ok (.iload_n 2, 1) := by decide +kernel
theorem dX7_hasLine_9 : decode cX7_hasLine 9 = .ok (.ifCond .lt 20, 3) := by decide +kernel
theorem dX7_hasLine_12 : decode cX7_hasLine 12 = .ok (.iload_n 2, 1) := by decide +kernel
theorem dX7_hasLine_13 : decode cX7_hasLine 13 = .ok (.aload_n 0, 1) := by decide +kernel
theorem dX7_hasLine_14 : decode cX7_hasLine 14 = .ok (.getfield 11, 3) := by decide +kernel
theorem dX7_hasLine_17 : decode cX7_hasLine 17 = .ok (.iload_n 1, 1) := by decide +kernel
theorem dX7_hasLine_18 : decode cX7_hasLine 18 = .ok (.aaload, 1) := by decide +kernel
theorem dX7_hasLine_19 : decode cX7_hasLine 19 = .ok (.getfield 48, 3) := by decide +kernel
theorem dX7_hasLine_22 : decode cX7_hasLine 22 = .ok (.if_icmp .ge 7, 3) := by decide +kernel
theorem dX7_hasLine_25 : decode cX7_hasLine 25 = .ok (.iconst 1, 1) := by decide +kernel
theorem dX7_hasLine_26 : decode cX7_hasLine 26 = .ok (.goto 4, 3) := by decide +kernel
theorem dX7_hasLine_29 : decode cX7_hasLine 29 = .ok (.iconst 0, 1) := by decide +kernel
theorem dX7_hasLine_30 : decode cX7_hasLine 30 = .ok (.ireturn, 1) := by decide +kernel
theorem dX7_hasSetting_0 : decode cX7_hasSetting 0 = .ok (.iload_n 1, 1) := by decide +kernel
theorem dX7_hasSetting_1 : decode cX7_hasSetting 1 = .ok (.ifCond .lt 17, 3) := by decide +kernel
theorem dX7_hasSetting_4 : decode cX7_hasSetting 4 = .ok (.iload_n 1, 1) := by decide +kernel
theorem dX7_hasSetting_5 : decode cX7_hasSetting 5 = .ok (.iconst 1, 1) := by decide +kernel
theorem dX7_hasSetting_6 : decode cX7_hasSetting 6 = .ok (.aload_n 0, 1) := by decide +kernel
theorem dX7_hasSetting_7 : decode cX7_hasSetting 7 = .ok (.getfield 26, 3) := by decide +kernel
theorem dX7_hasSetting_10 : decode cX7_hasSetting 10 = .ok (.ishl, 1) := by decide +kernel
theorem dX7_hasSetting_11 : decode cX7_hasSetting 11 = .ok (.if_icmp .ge 7, 3) := by decide +kernel
theorem dX7_hasSetting_14 : decode cX7_hasSetting 14 = .ok (.iconst 1, 1) := by decide +kernel
theorem dX7_hasSetting_15 : decode cX7_hasSetting 15 = .ok (.goto 4, 3) := by decide +kernel
theorem dX7_hasSetting_18 : decode cX7_hasSetting 18 = .ok (.iconst 0, 1) := by decide +kernel
theorem dX7_hasSetting_19 : decode cX7_hasSetting 19 = .ok (.ireturn, 1) := by decide +kernel
theorem dX7_filesTold_0 : decode cX7_filesTold 0 = .ok (.iconst 0, 1) := by decide +kernel
theorem dX7_filesTold_1 : decode cX7_filesTold 1 = .ok (.istore_n 1, 1) := by decide +kernel
theorem dX7_filesTold_2 : decode cX7_filesTold 2 = .ok (.iconst 0, 1) := by decide +kernel
theorem dX7_filesTold_3 : decode cX7_filesTold 3 = .ok (.istore_n 2, 1) := by decide +kernel
theorem dX7_filesTold_4 : decode cX7_filesTold 4 = .ok (.iload_n 2, 1) := by decide +kernel
theorem dX7_filesTold_5 : decode cX7_filesTold 5 = .ok (.iconst 4, 1) := by decide +kernel
theorem dX7_filesTold_6 : decode cX7_filesTold 6 = .ok (.if_icmp .ge 29, 3) := by decide +kernel
theorem dX7_filesTold_9 : decode cX7_filesTold 9 = .ok (.iload_n 1, 1) := by decide +kernel
theorem dX7_filesTold_10 : decode cX7_filesTold 10 = .ok (.aload_n 0, 1) := by decide +kernel
theorem dX7_filesTold_11 : decode cX7_filesTold 11 = .ok (.getfield 11, 3) := by decide +kernel
theorem dX7_filesTold_14 : decode cX7_filesTold 14 = .ok (.iload_n 2, 1) := by decide +kernel
theorem dX7_filesTold_15 : decode cX7_filesTold 15 = .ok (.aaload, 1) := by decide +kernel
theorem dX7_filesTold_16 : decode cX7_filesTold 16 = .ok (.getfield 40, 3) := by decide +kernel
theorem dX7_filesTold_19 : decode cX7_filesTold 19 = .ok (.ifCond .eq 7, 3) := by decide +kernel
theorem dX7_filesTold_22 : decode cX7_filesTold 22 = .ok (.iconst 1, 1) := by decide +kernel
theorem dX7_filesTold_23 : decode cX7_filesTold 23 = .ok (.goto 4, 3) := by decide +kernel
theorem dX7_filesTold_26 : decode cX7_filesTold 26 = .ok (.iconst 0, 1) := by decide +kernel
theorem dX7_filesTold_27 : decode cX7_filesTold 27 = .ok (.iadd, 1) := by decide +kernel
theorem dX7_filesTold_28 : decode cX7_filesTold 28 = .ok (.istore_n 1, 1) := by decide +kernel
theorem dX7_filesTold_29 : decode cX7_filesTold 29 = .ok (.iinc 2 1, 3) := by decide +kernel
theorem dX7_filesTold_32 : decode cX7_filesTold 32 = .ok (.goto (-28), 3) := by decide +kernel
theorem dX7_filesTold_35 : decode cX7_filesTold 35 = .ok (.iload_n 1, 1) := by decide +kernel
theorem dX7_filesTold_36 : decode cX7_filesTold 36 = .ok (.ireturn, 1) := by decide +kernel
theorem dX7_readSwitches_0 : decode cX7_readSwitches 0 = .ok (.aload_n 0, 1) := by decide +kernel
theorem dX7_readSwitches_1 : decode cX7_readSwitches 1 = .ok (.aload_n 1, 1) := by decide +kernel
theorem dX7_readSwitches_2 : decode cX7_readSwitches 2 = .ok (.iload_n 2, 1) := by decide +kernel
theorem dX7_readSwitches_3 : decode cX7_readSwitches 3 = .ok (.invokevirtual 51, 3) := by decide +kernel
theorem dX7_readSwitches_6 : decode cX7_readSwitches 6 = .ok (.istore_n 3, 1) := by decide +kernel
theorem dX7_readSwitches_7 : decode cX7_readSwitches 7 = .ok (.iload_n 3, 1) := by decide +kernel
theorem dX7_readSwitches_8 : decode cX7_readSwitches 8 = .ok (.iconst (-1), 1) := by decide +kernel
theorem dX7_readSwitches_9 : decode cX7_readSwitches 9 = .ok (.if_icmp .ne 5, 3) := by decide +kernel
theorem dX7_readSwitches_12 : decode cX7_readSwitches 12 = .ok (.iconst (-1), 1) := by decide +kernel
theorem dX7_readSwitches_13 : decode cX7_readSwitches 13 = .ok (.ireturn, 1) := by decide +kernel
theorem dX7_readSwitches_14 : decode cX7_readSwitches 14 = .ok (.iconst 0, 1) := by decide +kernel
theorem dX7_readSwitches_15 : decode cX7_readSwitches 15 = .ok (.istore 4, 2) := by decide +kernel
theorem dX7_readSwitches_17 : decode cX7_readSwitches 17 = .ok (.iload 4, 2) := by decide +kernel
theorem dX7_readSwitches_19 : decode cX7_readSwitches 19 = .ok (.iload_n 3, 1) := by decide +kernel
theorem dX7_readSwitches_20 : decode cX7_readSwitches 20 = .ok (.if_icmp .ge 57, 3) := by decide +kernel
theorem dX7_readSwitches_23 : decode cX7_readSwitches 23 = .ok (.aload_n 0, 1) := by decide +kernel
theorem dX7_readSwitches_24 : decode cX7_readSwitches 24 = .ok (.getfield 22, 3) := by decide +kernel
theorem dX7_readSwitches_27 : decode cX7_readSwitches 27 = .ok (.iload 4, 2) := by decide +kernel
theorem dX7_readSwitches_29 : decode cX7_readSwitches 29 = .ok (.aload_n 0, 1) := by decide +kernel
theorem dX7_readSwitches_30 : decode cX7_readSwitches 30 = .ok (.getfield 36, 3) := by decide +kernel
theorem dX7_readSwitches_33 : decode cX7_readSwitches 33 = .ok (.iload 4, 2) := by decide +kernel
theorem dX7_readSwitches_35 : decode cX7_readSwitches 35 = .ok (.iaload, 1) := by decide +kernel
theorem dX7_readSwitches_36 : decode cX7_readSwitches 36 = .ok (.aload_n 0, 1) := by decide +kernel
theorem dX7_readSwitches_37 : decode cX7_readSwitches 37 = .ok (.getfield 33, 3) := by decide +kernel
theorem dX7_readSwitches_40 : decode cX7_readSwitches 40 = .ok (.iload 4, 2) := by decide +kernel
theorem dX7_readSwitches_42 : decode cX7_readSwitches 42 = .ok (.iaload, 1) := by decide +kernel
theorem dX7_readSwitches_43 : decode cX7_readSwitches 43 = .ok (.isub, 1) := by decide +kernel
theorem dX7_readSwitches_44 : decode cX7_readSwitches 44 = .ok (.iastore, 1) := by decide +kernel
theorem dX7_readSwitches_45 : decode cX7_readSwitches 45 = .ok (.aload_n 1, 1) := by decide +kernel
theorem dX7_readSwitches_46 : decode cX7_readSwitches 46 = .ok (.aload_n 0, 1) := by decide +kernel
theorem dX7_readSwitches_47 : decode cX7_readSwitches 47 = .ok (.getfield 33, 3) := by decide +kernel
theorem dX7_readSwitches_50 : decode cX7_readSwitches 50 = .ok (.iload 4, 2) := by decide +kernel
theorem dX7_readSwitches_52 : decode cX7_readSwitches 52 = .ok (.iaload, 1) := by decide +kernel
theorem dX7_readSwitches_53 : decode cX7_readSwitches 53 = .ok (.aload_n 0, 1) := by decide +kernel
theorem dX7_readSwitches_54 : decode cX7_readSwitches 54 = .ok (.getfield 19, 3) := by decide +kernel
theorem dX7_readSwitches_57 : decode cX7_readSwitches 57 = .ok (.iload 4, 2) := by decide +kernel
theorem dX7_readSwitches_59 : decode cX7_readSwitches 59 = .ok (.aaload, 1) := by decide +kernel
theorem dX7_readSwitches_60 : decode cX7_readSwitches 60 = .ok (.iconst 0, 1) := by decide +kernel
theorem dX7_readSwitches_61 : decode cX7_readSwitches 61 = .ok (.aload_n 0, 1) := by decide +kernel
theorem dX7_readSwitches_62 : decode cX7_readSwitches 62 = .ok (.getfield 22, 3) := by decide +kernel
theorem dX7_readSwitches_65 : decode cX7_readSwitches 65 = .ok (.iload 4, 2) := by decide +kernel
theorem dX7_readSwitches_67 : decode cX7_readSwitches 67 = .ok (.iaload, 1) := by decide +kernel
theorem dX7_readSwitches_68 : decode cX7_readSwitches 68 = .ok (.invokestatic 55, 3) := by decide +kernel
theorem dX7_readSwitches_71 : decode cX7_readSwitches 71 = .ok (.iinc 4 1, 3) := by decide +kernel
theorem dX7_readSwitches_74 : decode cX7_readSwitches 74 = .ok (.goto (-57), 3) := by decide +kernel
theorem dX7_readSwitches_77 : decode cX7_readSwitches 77 = .ok (.aload_n 0, 1) := by decide +kernel
theorem dX7_readSwitches_78 : decode cX7_readSwitches 78 = .ok (.iload_n 3, 1) := by decide +kernel
theorem dX7_readSwitches_79 : decode cX7_readSwitches 79 = .ok (.putfield 26, 3) := by decide +kernel
theorem dX7_readSwitches_82 : decode cX7_readSwitches 82 = .ok (.aload_n 0, 1) := by decide +kernel
theorem dX7_readSwitches_83 : decode cX7_readSwitches 83 = .ok (.iconst 0, 1) := by decide +kernel
theorem dX7_readSwitches_84 : decode cX7_readSwitches 84 = .ok (.putfield 30, 3) := by decide +kernel
theorem dX7_readSwitches_87 : decode cX7_readSwitches 87 = .ok (.iload_n 3, 1) := by decide +kernel
theorem dX7_readSwitches_88 : decode cX7_readSwitches 88 = .ok (.ireturn, 1) := by decide +kernel
theorem dX7_findNames_0 : decode cX7_findNames 0 = .ok (.iconst 0, 1) := by decide +kernel
theorem dX7_findNames_1 : decode cX7_findNames 1 = .ok (.istore_n 3, 1) := by decide +kernel
theorem dX7_findNames_2 : decode cX7_findNames 2 = .ok (.iconst 0, 1) := by decide +kernel
theorem dX7_findNames_3 : decode cX7_findNames 3 = .ok (.istore 4, 2) := by decide +kernel
theorem dX7_findNames_5 : decode cX7_findNames 5 = .ok (.iload 4, 2) := by decide +kernel
theorem dX7_findNames_7 : decode cX7_findNames 7 = .ok (.iload_n 2, 1) := by decide +kernel
theorem dX7_findNames_8 : decode cX7_findNames 8 = .ok (.if_icmp .ge 112, 3) := by decide +kernel
theorem dX7_findNames_11 : decode cX7_findNames 11 = .ok (.iload 4, 2) := by decide +kernel
theorem dX7_findNames_13 : decode cX7_findNames 13 = .ok (.aload_n 1, 1) := by decide +kernel
theorem dX7_findNames_14 : decode cX7_findNames 14 = .ok (.arraylength, 1) := by decide +kernel
theorem dX7_findNames_15 : decode cX7_findNames 15 = .ok (.if_icmp .ge 105, 3) := by decide +kernel
theorem dX7_findNames_18 : decode cX7_findNames 18 = .ok (.iload 4, 2) := by decide +kernel
theorem dX7_findNames_20 : decode cX7_findNames 20 = .ok (.istore 5, 2) := by decide +kernel
theorem dX7_findNames_22 : decode cX7_findNames 22 = .ok (.iload 4, 2) := by decide +kernel
theorem dX7_findNames_24 : decode cX7_findNames 24 = .ok (.iload_n 2, 1) := by decide +kernel
theorem dX7_findNames_25 : decode cX7_findNames 25 = .ok (.if_icmp .ge 19, 3) := by decide +kernel
theorem dX7_findNames_28 : decode cX7_findNames 28 = .ok (.aload_n 1, 1) := by decide +kernel
theorem dX7_findNames_29 : decode cX7_findNames 29 = .ok (.iload 4, 2) := by decide +kernel
theorem dX7_findNames_31 : decode cX7_findNames 31 = .ok (.baload, 1) := by decide +kernel
theorem dX7_findNames_32 : decode cX7_findNames 32 = .ok (.invokestatic 61, 3) := by decide +kernel
theorem dX7_findNames_35 : decode cX7_findNames 35 = .ok (.ifCond .eq 9, 3) := by decide +kernel
theorem dX7_findNames_38 : decode cX7_findNames 38 = .ok (.iinc 4 1, 3) := by decide +kernel
theorem dX7_findNames_41 : decode cX7_findNames 41 = .ok (.goto (-19), 3) := by decide +kernel
theorem dX7_findNames_44 : decode cX7_findNames 44 = .ok (.iload 4, 2) := by decide +kernel
theorem dX7_findNames_46 : decode cX7_findNames 46 = .ok (.iload 5, 2) := by decide +kernel
theorem dX7_findNames_48 : decode cX7_findNames 48 = .ok (.if_icmp .ne 14, 3) := by decide +kernel
theorem dX7_findNames_51 : decode cX7_findNames 51 = .ok (.aload_n 1, 1) := by decide +kernel
theorem dX7_findNames_52 : decode cX7_findNames 52 = .ok (.iload 4, 2) := by decide +kernel
theorem dX7_findNames_54 : decode cX7_findNames 54 = .ok (.baload, 1) := by decide +kernel
theorem dX7_findNames_55 : decode cX7_findNames 55 = .ok (.bipush 32, 2) := by decide +kernel
theorem dX7_findNames_57 : decode cX7_findNames 57 = .ok (.if_icmp .eq 5, 3) := by decide +kernel
theorem dX7_findNames_60 : decode cX7_findNames 60 = .ok (.iconst (-1), 1) := by decide +kernel
theorem dX7_findNames_61 : decode cX7_findNames 61 = .ok (.ireturn, 1) := by decide +kernel
theorem dX7_findNames_62 : decode cX7_findNames 62 = .ok (.iload 4, 2) := by decide +kernel
theorem dX7_findNames_64 : decode cX7_findNames 64 = .ok (.iload 5, 2) := by decide +kernel
theorem dX7_findNames_66 : decode cX7_findNames 66 = .ok (.if_icmp .ne 9, 3) := by decide +kernel
theorem dX7_findNames_69 : decode cX7_findNames 69 = .ok (.iinc 4 1, 3) := by decide +kernel
theorem dX7_findNames_72 : decode cX7_findNames 72 = .ok (.goto 45, 3) := by decide +kernel
theorem dX7_findNames_75 : decode cX7_findNames 75 = .ok (.iload_n 3, 1) := by decide +kernel
theorem dX7_findNames_76 : decode cX7_findNames 76 = .ok (.iconst 3, 1) := by decide +kernel
theorem dX7_findNames_77 : decode cX7_findNames 77 = .ok (.if_icmp .ge 38, 3) := by decide +kernel
theorem dX7_findNames_80 : decode cX7_findNames 80 = .ok (.aload_n 0, 1) := by decide +kernel
theorem dX7_findNames_81 : decode cX7_findNames 81 = .ok (.aload_n 1, 1) := by decide +kernel
theorem dX7_findNames_82 : decode cX7_findNames 82 = .ok (.iload 5, 2) := by decide +kernel
theorem dX7_findNames_84 : decode cX7_findNames 84 = .ok (.iload 4, 2) := by decide +kernel
theorem dX7_findNames_86 : decode cX7_findNames 86 = .ok (.iload_n 3, 1) := by decide +kernel
theorem dX7_findNames_87 : decode cX7_findNames 87 = .ok (.invokevirtual 66, 3) := by decide +kernel
theorem dX7_findNames_90 : decode cX7_findNames 90 = .ok (.ifCond .eq 25, 3) := by decide +kernel
theorem dX7_findNames_93 : decode cX7_findNames 93 = .ok (.aload_n 0, 1) := by decide +kernel
theorem dX7_findNames_94 : decode cX7_findNames 94 = .ok (.getfield 33, 3) := by decide +kernel
theorem dX7_findNames_97 : decode cX7_findNames 97 = .ok (.iload_n 3, 1) := by decide +kernel
theorem dX7_findNames_98 : decode cX7_findNames 98 = .ok (.iload 5, 2) := by decide +kernel
theorem dX7_findNames_100 : decode cX7_findNames 100 = .ok (.iastore, 1) := by decide +kernel
theorem dX7_findNames_101 : decode cX7_findNames 101 = .ok (.aload_n 0, 1) := by decide +kernel
theorem dX7_findNames_102 : decode cX7_findNames 102 = .ok (.getfield 36, 3) := by decide +kernel
theorem dX7_findNames_105 : decode cX7_findNames 105 = .ok (.iload_n 3, 1) := by decide +kernel
theorem dX7_findNames_106 : decode cX7_findNames 106 = .ok (.iload 4, 2) := by decide +kernel
theorem dX7_findNames_108 : decode cX7_findNames 108 = .ok (.iastore, 1) := by decide +kernel
theorem dX7_findNames_109 : decode cX7_findNames 109 = .ok (.iinc 3 1, 3) := by decide +kernel
theorem dX7_findNames_112 : decode cX7_findNames 112 = .ok (.goto 5, 3) := by decide +kernel
theorem dX7_findNames_115 : decode cX7_findNames 115 = .ok (.iconst (-1), 1) := by decide +kernel
theorem dX7_findNames_116 : decode cX7_findNames 116 = .ok (.ireturn, 1) := by decide +kernel
theorem dX7_findNames_117 : decode cX7_findNames 117 = .ok (.goto (-112), 3) := by decide +kernel
theorem dX7_findNames_120 : decode cX7_findNames 120 = .ok (.iload_n 3, 1) := by decide +kernel
theorem dX7_findNames_121 : decode cX7_findNames 121 = .ok (.ireturn, 1) := by decide +kernel
theorem dX7_isNewName_0 : decode cX7_isNewName 0 = .ok (.iload_n 3, 1) := by decide +kernel
theorem dX7_isNewName_1 : decode cX7_isNewName 1 = .ok (.iload_n 2, 1) := by decide +kernel
theorem dX7_isNewName_2 : decode cX7_isNewName 2 = .ok (.isub, 1) := by decide +kernel
theorem dX7_isNewName_3 : decode cX7_isNewName 3 = .ok (.bipush 30, 2) := by decide +kernel
theorem dX7_isNewName_5 : decode cX7_isNewName 5 = .ok (.if_icmp .gt 23, 3) := by decide +kernel
theorem dX7_isNewName_8 : decode cX7_isNewName 8 = .ok (.aload_n 1, 1) := by decide +kernel
theorem dX7_isNewName_9 : decode cX7_isNewName 9 = .ok (.iload_n 2, 1) := by decide +kernel
theorem dX7_isNewName_10 : decode cX7_isNewName 10 = .ok (.baload, 1) := by decide +kernel
theorem dX7_isNewName_11 : decode cX7_isNewName 11 = .ok (.invokestatic 70, 3) := by decide +kernel
theorem dX7_isNewName_14 : decode cX7_isNewName 14 = .ok (.ifCond .ne 14, 3) := by decide +kernel
theorem dX7_isNewName_17 : decode cX7_isNewName 17 = .ok (.aload_n 1, 1) := by decide +kernel
theorem dX7_isNewName_18 : decode cX7_isNewName 18 = .ok (.iload_n 2, 1) := by decide +kernel
theorem dX7_isNewName_19 : decode cX7_isNewName 19 = .ok (.iload_n 3, 1) := by decide +kernel
theorem dX7_isNewName_20 : decode cX7_isNewName 20 = .ok (.ldc 73, 2) := by decide +kernel
theorem dX7_isNewName_22 : decode cX7_isNewName 22 = .ok (.invokestatic 75, 3) := by decide +kernel
theorem dX7_isNewName_25 : decode cX7_isNewName 25 = .ok (.ifCond .eq 5, 3) := by decide +kernel
theorem dX7_isNewName_28 : decode cX7_isNewName 28 = .ok (.iconst 0, 1) := by decide +kernel
theorem dX7_isNewName_29 : decode cX7_isNewName 29 = .ok (.ireturn, 1) := by decide +kernel
theorem dX7_isNewName_30 : decode cX7_isNewName 30 = .ok (.iconst 0, 1) := by decide +kernel
theorem dX7_isNewName_31 : decode cX7_isNewName 31 = .ok (.istore 5, 2) := by decide +kernel
theorem dX7_isNewName_33 : decode cX7_isNewName 33 = .ok (.iload 5, 2) := by decide +kernel
theorem dX7_isNewName_35 : decode cX7_isNewName 35 = .ok (.iload 4, 2) := by decide +kernel
theorem dX7_isNewName_37 : decode cX7_isNewName 37 = .ok (.if_icmp .ge 53, 3) := by decide +kernel
theorem dX7_isNewName_40 : decode cX7_isNewName 40 = .ok (.aload_n 0, 1) := by decide +kernel
theorem dX7_isNewName_41 : decode cX7_isNewName 41 = .ok (.getfield 36, 3) := by decide +kernel
theorem dX7_isNewName_44 : decode cX7_isNewName 44 = .ok (.iload 5, 2) := by decide +kernel
theorem dX7_isNewName_46 : decode cX7_isNewName 46 = .ok (.iaload, 1) := by decide +kernel
theorem dX7_isNewName_47 : decode cX7_isNewName 47 = .ok (.aload_n 0, 1) := by decide +kernel
theorem dX7_isNewName_48 : decode cX7_isNewName 48 = .ok (.getfield 33, 3) := by decide +kernel
theorem dX7_isNewName_51 : decode cX7_isNewName 51 = .ok (.iload 5, 2) := by decide +kernel
theorem dX7_isNewName_53 : decode cX7_isNewName 53 = .ok (.iaload, 1) := by decide +kernel
theorem dX7_isNewName_54 : decode cX7_isNewName 54 = .ok (.isub, 1) := by decide +kernel
theorem dX7_isNewName_55 : decode cX7_isNewName 55 = .ok (.istore 6, 2) := by decide +kernel
theorem dX7_isNewName_57 : decode cX7_isNewName 57 = .ok (.iload 6, 2) := by decide +kernel
theorem dX7_isNewName_59 : decode cX7_isNewName 59 = .ok (.iload_n 3, 1) := by decide +kernel
theorem dX7_isNewName_60 : decode cX7_isNewName 60 = .ok (.iload_n 2, 1) := by decide +kernel
theorem dX7_isNewName_61 : decode cX7_isNewName 61 = .ok (.isub, 1) := by decide +kernel
theorem dX7_isNewName_62 : decode cX7_isNewName 62 = .ok (.if_icmp .ne 22, 3) := by decide +kernel
theorem dX7_isNewName_65 : decode cX7_isNewName 65 = .ok (.aload_n 1, 1) := by decide +kernel
theorem dX7_isNewName_66 : decode cX7_isNewName 66 = .ok (.iload_n 2, 1) := by decide +kernel
theorem dX7_isNewName_67 : decode cX7_isNewName 67 = .ok (.aload_n 0, 1) := by decide +kernel
theorem dX7_isNewName_68 : decode cX7_isNewName 68 = .ok (.getfield 33, 3) := by decide +kernel
theorem dX7_isNewName_71 : decode cX7_isNewName 71 = .ok (.iload 5, 2) := by decide +kernel
theorem dX7_isNewName_73 : decode cX7_isNewName 73 = .ok (.iaload, 1) := by decide +kernel
theorem dX7_isNewName_74 : decode cX7_isNewName 74 = .ok (.iload 6, 2) := by decide +kernel
theorem dX7_isNewName_76 : decode cX7_isNewName 76 = .ok (.invokestatic 79, 3) := by decide +kernel
theorem dX7_isNewName_79 : decode cX7_isNewName 79 = .ok (.ifCond .eq 5, 3) := by decide +kernel
theorem dX7_isNewName_82 : decode cX7_isNewName 82 = .ok (.iconst 0, 1) := by decide +kernel
theorem dX7_isNewName_83 : decode cX7_isNewName 83 = .ok (.ireturn, 1) := by decide +kernel
theorem dX7_isNewName_84 : decode cX7_isNewName 84 = .ok (.iinc 5 1, 3) := by decide +kernel
theorem dX7_isNewName_87 : decode cX7_isNewName 87 = .ok (.goto (-54), 3) := by decide +kernel
theorem dX7_isNewName_90 : decode cX7_isNewName 90 = .ok (.iconst 1, 1) := by decide +kernel
theorem dX7_isNewName_91 : decode cX7_isNewName 91 = .ok (.ireturn, 1) := by decide +kernel
theorem dX7_copy_0 : decode cX7_copy 0 = .ok (.iconst 0, 1) := by decide +kernel
theorem dX7_copy_1 : decode cX7_copy 1 = .ok (.istore_n 2, 1) := by decide +kernel
theorem dX7_copy_2 : decode cX7_copy 2 = .ok (.iload_n 2, 1) := by decide +kernel
theorem dX7_copy_3 : decode cX7_copy 3 = .ok (.iconst 4, 1) := by decide +kernel
theorem dX7_copy_4 : decode cX7_copy 4 = .ok (.if_icmp .ge 24, 3) := by decide +kernel
theorem dX7_copy_7 : decode cX7_copy 7 = .ok (.aload_n 0, 1) := by decide +kernel
theorem dX7_copy_8 : decode cX7_copy 8 = .ok (.getfield 11, 3) := by decide +kernel
theorem dX7_copy_11 : decode cX7_copy 11 = .ok (.iload_n 2, 1) := by decide +kernel
theorem dX7_copy_12 : decode cX7_copy 12 = .ok (.aaload, 1) := by decide +kernel
theorem dX7_copy_13 : decode cX7_copy 13 = .ok (.aload_n 1, 1) := by decide +kernel
theorem dX7_copy_14 : decode cX7_copy 14 = .ok (.getfield 11, 3) := by decide +kernel
theorem dX7_copy_17 : decode cX7_copy 17 = .ok (.iload_n 2, 1) := by decide +kernel
theorem dX7_copy_18 : decode cX7_copy 18 = .ok (.aaload, 1) := by decide +kernel
theorem dX7_copy_19 : decode cX7_copy 19 = .ok (.invokevirtual 82, 3) := by decide +kernel
theorem dX7_copy_22 : decode cX7_copy 22 = .ok (.iinc 2 1, 3) := by decide +kernel
theorem dX7_copy_25 : decode cX7_copy 25 = .ok (.goto (-23), 3) := by decide +kernel
theorem dX7_copy_28 : decode cX7_copy 28 = .ok (.iconst 0, 1) := by decide +kernel
theorem dX7_copy_29 : decode cX7_copy 29 = .ok (.istore_n 2, 1) := by decide +kernel
theorem dX7_copy_30 : decode cX7_copy 30 = .ok (.iload_n 2, 1) := by decide +kernel
theorem dX7_copy_31 : decode cX7_copy 31 = .ok (.iconst 3, 1) := by decide +kernel
theorem dX7_copy_32 : decode cX7_copy 32 = .ok (.if_icmp .ge 40, 3) := by decide +kernel
theorem dX7_copy_35 : decode cX7_copy 35 = .ok (.aload_n 1, 1) := by decide +kernel
theorem dX7_copy_36 : decode cX7_copy 36 = .ok (.getfield 19, 3) := by decide +kernel
theorem dX7_copy_39 : decode cX7_copy 39 = .ok (.iload_n 2, 1) := by decide +kernel
theorem dX7_copy_40 : decode cX7_copy 40 = .ok (.aaload, 1) := by decide +kernel
theorem dX7_copy_41 : decode cX7_copy 41 = .ok (.iconst 0, 1) := by decide +kernel
theorem dX7_copy_42 : decode cX7_copy 42 = .ok (.aload_n 0, 1) := by decide +kernel
theorem dX7_copy_43 : decode cX7_copy 43 = .ok (.getfield 19, 3) := by decide +kernel
theorem dX7_copy_46 : decode cX7_copy 46 = .ok (.iload_n 2, 1) := by decide +kernel
theorem dX7_copy_47 : decode cX7_copy 47 = .ok (.aaload, 1) := by decide +kernel
theorem dX7_copy_48 : decode cX7_copy 48 = .ok (.iconst 0, 1) := by decide +kernel
theorem dX7_copy_49 : decode cX7_copy 49 = .ok (.bipush 30, 2) := by decide +kernel
theorem dX7_copy_51 : decode cX7_copy 51 = .ok (.invokestatic 55, 3) := by decide +kernel
theorem dX7_copy_54 : decode cX7_copy 54 = .ok (.aload_n 0, 1) := by decide +kernel
theorem dX7_copy_55 : decode cX7_copy 55 = .ok (.getfield 22, 3) := by decide +kernel
theorem dX7_copy_58 : decode cX7_copy 58 = .ok (.iload_n 2, 1) := by decide +kernel
theorem dX7_copy_59 : decode cX7_copy 59 = .ok (.aload_n 1, 1) := by decide +kernel
theorem dX7_copy_60 : decode cX7_copy 60 = .ok (.getfield 22, 3) := by decide +kernel
theorem dX7_copy_63 : decode cX7_copy 63 = .ok (.iload_n 2, 1) := by decide +kernel
theorem dX7_copy_64 : decode cX7_copy 64 = .ok (.iaload, 1) := by decide +kernel
theorem dX7_copy_65 : decode cX7_copy 65 = .ok (.iastore, 1) := by decide +kernel
theorem dX7_copy_66 : decode cX7_copy 66 = .ok (.iinc 2 1, 3) := by decide +kernel
theorem dX7_copy_69 : decode cX7_copy 69 = .ok (.goto (-39), 3) := by decide +kernel
theorem dX7_copy_72 : decode cX7_copy 72 = .ok (.aload_n 0, 1) := by decide +kernel
theorem dX7_copy_73 : decode cX7_copy 73 = .ok (.aload_n 1, 1) := by decide +kernel
theorem dX7_copy_74 : decode cX7_copy 74 = .ok (.getfield 26, 3) := by decide +kernel
theorem dX7_copy_77 : decode cX7_copy 77 = .ok (.putfield 26, 3) := by decide +kernel
theorem dX7_copy_80 : decode cX7_copy 80 = .ok (.aload_n 0, 1) := by decide +kernel
theorem dX7_copy_81 : decode cX7_copy 81 = .ok (.aload_n 1, 1) := by decide +kernel
theorem dX7_copy_82 : decode cX7_copy 82 = .ok (.getfield 30, 3) := by decide +kernel
theorem dX7_copy_85 : decode cX7_copy 85 = .ok (.putfield 30, 3) := by decide +kernel
theorem dX7_copy_88 : decode cX7_copy 88 = .ok (.return_, 1) := by decide +kernel
