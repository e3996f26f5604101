theorem dX5_init_0 : decode cX5_init 0 = .ok (.aload_n 0, 1) := by decide +kernel
theorem dX5_init_1 : decode cX5_init 1 = .ok (.invokespecial 3, 3) := by decide +kernel
theorem dX5_init_4 : decode cX5_init 4 = .ok (.aload_n 0, 1) := by decide +kernel
theorem dX5_init_5 : decode cX5_init 5 = .ok (.iconst 0, 1) := by decide +kernel
theorem dX5_init_6 : decode cX5_init 6 = .ok (.putfield 9, 3) := by decide +kernel
theorem dX5_init_9 : decode cX5_init 9 = .ok (.aload_n 0, 1) := by decide +kernel
theorem dX5_init_10 : decode cX5_init 10 = .ok (.iload_n 1, 1) := by decide +kernel
theorem dX5_init_11 : decode cX5_init 11 = .ok (.newarray .int, 2) := by decide +kernel
theorem dX5_init_13 : decode cX5_init 13 = .ok (.putfield 15, 3) := by decide +kernel
theorem dX5_init_16 : decode cX5_init 16 = .ok (.aload_n 0, 1) := by decide +kernel
theorem dX5_init_17 : decode cX5_init 17 = .ok (.iload_n 1, 1) := by decide +kernel
theorem dX5_init_18 : decode cX5_init 18 = .ok (.newarray .int, 2) := by decide +kernel
theorem dX5_init_20 : decode cX5_init 20 = .ok (.putfield 19, 3) := by decide +kernel
theorem dX5_init_23 : decode cX5_init 23 = .ok (.aload_n 0, 1) := by decide +kernel
theorem dX5_init_24 : decode cX5_init 24 = .ok (.iload_n 1, 1) := by decide +kernel
theorem dX5_init_25 : decode cX5_init 25 = .ok (.newarray .int, 2) := by decide +kernel
theorem dX5_init_27 : decode cX5_init 27 = .ok (.putfield 22, 3) := by decide +kernel
theorem dX5_init_30 : decode cX5_init 30 = .ok (.return_, 1) := by decide +kernel
theorem dX5_add_0 : decode cX5_add 0 = .ok (.aload_n 0, 1) := by decide +kernel
theorem dX5_add_1 : decode cX5_add 1 = .ok (.getfield 9, 3) := by decide +kernel
theorem dX5_add_4 : decode cX5_add 4 = .ok (.aload_n 0, 1) := by decide +kernel
theorem dX5_add_5 : decode cX5_add 5 = .ok (.getfield 15, 3) := by decide +kernel
theorem dX5_add_8 : decode cX5_add 8 = .ok (.arraylength, 1) := by decide +kernel
theorem dX5_add_9 : decode cX5_add 9 = .ok (.if_icmp .lt 5, 3) := by decide +kernel
theorem dX5_add_12 : decode cX5_add 12 = .ok (.iconst 0, 1) := by decide +kernel
theorem dX5_add_13 : decode cX5_add 13 = .ok (.ireturn, 1) := by decide +kernel
theorem dX5_add_14 : decode cX5_add 14 = .ok (.aload_n 0, 1) := by decide +kernel
theorem dX5_add_15 : decode cX5_add 15 = .ok (.getfield 15, 3) := by decide +kernel
theorem dX5_add_18 : decode cX5_add 18 = .ok (.aload_n 0, 1) := by decide +kernel
theorem dX5_add_19 : decode cX5_add 19 = .ok (.getfield 9, 3) := by decide +kernel
theorem dX5_add_22 : decode cX5_add 22 = .ok (.iload_n 1, 1) := by decide +kernel
theorem dX5_add_23 : decode cX5_add 23 = .ok (.iastore, 1) := by decide +kernel
theorem dX5_add_24 : decode cX5_add 24 = .ok (.aload_n 0, 1) := by decide +kernel
theorem dX5_add_25 : decode cX5_add 25 = .ok (.getfield 19, 3) := by decide +kernel
theorem dX5_add_28 : decode cX5_add 28 = .ok (.aload_n 0, 1) := by decide +kernel
theorem dX5_add_29 : decode cX5_add 29 = .ok (.getfield 9, 3) := by decide +kernel
theorem dX5_add_32 : decode cX5_add 32 = .ok (.iload_n 2, 1) := by decide +kernel
theorem dX5_add_33 : decode cX5_add 33 = .ok (.iastore, 1) := by decide +kernel
theorem dX5_add_34 : decode cX5_add 34 = .ok (.aload_n 0, 1) := by decide +kernel
theorem dX5_add_35 : decode cX5_add 35 = .ok (.getfield 22, 3) := by decide +kernel
theorem dX5_add_38 : decode cX5_add 38 = .ok (.aload_n 0, 1) := by decide +kernel
theorem dX5_add_39 : decode cX5_add 39 = .ok (.getfield 9, 3) := by decide +kernel
theorem dX5_add_42 : decode cX5_add 42 = .ok (.iload_n 3, 1) := by decide +kernel
theorem dX5_add_43 : decode cX5_add 43 = .ok (.iastore, 1) := by decide +kernel
theorem dX5_add_44 : decode cX5_add 44 = .ok (.aload_n 0, 1) := by decide +kernel
theorem dX5_add_45 : decode cX5_add 45 = .ok (.dup, 1) := by decide +kernel
theorem dX5_add_46 : decode cX5_add 46 = .ok (.getfield 9, 3) := by decide +kernel
theorem dX5_add_49 : decode cX5_add 49 = .ok (.iconst 1, 1) := by decide +kernel
theorem dX5_add_50 : decode cX5_add 50 = .ok (.iadd, 1) := by decide +kernel
theorem dX5_add_51 : decode cX5_add 51 = .ok (.putfield 9, 3) := by decide +kernel
theorem dX5_add_54 : decode cX5_add 54 = .ok (.iconst 1, 1) := by decide +kernel
theorem dX5_add_55 : decode cX5_add 55 = .ok (.ireturn, 1) := by decide +kernel
theorem dX5_lengthOf_0 : decode cX5_lengthOf 0 = .ok (.iload_n 0, 1) := by decide +kernel
theorem dX5_lengthOf_1 : decode cX5_lengthOf 1 = .ok (.bipush 31, 2) := by decide +kernel
theorem dX5_lengthOf_3 : decode cX5_lengthOf 3 = .ok (.iand, 1) := by decide +kernel
theorem dX5_lengthOf_4 : decode cX5_lengthOf 4 = .ok (.ireturn, 1) := by decide +kernel
theorem dX5_kindOf_0 : decode cX5_kindOf 0 = .ok (.iload_n 0, 1) := by decide +kernel
theorem dX5_kindOf_1 : decode cX5_kindOf 1 = .ok (.iconst 5, 1) := by decide +kernel
theorem dX5_kindOf_2 : decode cX5_kindOf 2 = .ok (.ishr, 1) := by decide +kernel
theorem dX5_kindOf_3 : decode cX5_kindOf 3 = .ok (.iconst 3, 1) := by decide +kernel
theorem dX5_kindOf_4 : decode cX5_kindOf 4 = .ok (.iand, 1) := by decide +kernel
theorem dX5_kindOf_5 : decode cX5_kindOf 5 = .ok (.ireturn, 1) := by decide +kernel
theorem dX5_blankOf_0 : decode cX5_blankOf 0 = .ok (.iload_n 0, 1) := by decide +kernel
theorem dX5_blankOf_1 : decode cX5_blankOf 1 = .ok (.bipush 7, 2) := by decide +kernel
theorem dX5_blankOf_3 : decode cX5_blankOf 3 = .ok (.ishr, 1) := by decide +kernel
theorem dX5_blankOf_4 : decode cX5_blankOf 4 = .ok (.iconst 1, 1) := by decide +kernel
theorem dX5_blankOf_5 : decode cX5_blankOf 5 = .ok (.iand, 1) := by decide +kernel
theorem dX5_blankOf_6 : decode cX5_blankOf 6 = .ok (.ireturn, 1) := by decide +kernel
theorem dX5_placeOf_0 : decode cX5_placeOf 0 = .ok (.iload_n 0, 1) := by decide +kernel
theorem dX5_placeOf_1 : decode cX5_placeOf 1 = .ok (.bipush 8, 2) := by decide +kernel
theorem dX5_placeOf_3 : decode cX5_placeOf 3 = .ok (.ishr, 1) := by decide +kernel
theorem dX5_placeOf_4 : decode cX5_placeOf 4 = .ok (.sipush 511, 3) := by decide +kernel
theorem dX5_placeOf_7 : decode cX5_placeOf 7 = .ok (.iand, 1) := by decide +kernel
theorem dX5_placeOf_8 : decode cX5_placeOf 8 = .ok (.ireturn, 1) := by decide +kernel
theorem dX5_fileOf_0 : decode cX5_fileOf 0 = .ok (.iload_n 0, 1) := by decide +kernel
theorem dX5_fileOf_1 : decode cX5_fileOf 1 = .ok (.bipush 17, 2) := by decide +kernel
theorem dX5_fileOf_3 : decode cX5_fileOf 3 = .ok (.ishr, 1) := by decide +kernel
theorem dX5_fileOf_4 : decode cX5_fileOf 4 = .ok (.bipush 7, 2) := by decide +kernel
theorem dX5_fileOf_6 : decode cX5_fileOf 6 = .ok (.iand, 1) := by decide +kernel
theorem dX5_fileOf_7 : decode cX5_fileOf 7 = .ok (.iconst 1, 1) := by decide +kernel
theorem dX5_fileOf_8 : decode cX5_fileOf 8 = .ok (.isub, 1) := by decide +kernel
theorem dX5_fileOf_9 : decode cX5_fileOf 9 = .ok (.ireturn, 1) := by decide +kernel
theorem dX5_lineOf_0 : decode cX5_lineOf 0 = .ok (.iload_n 0, 1) := by decide +kernel
theorem dX5_lineOf_1 : decode cX5_lineOf 1 = .ok (.bipush 20, 2) := by decide +kernel
theorem dX5_lineOf_3 : decode cX5_lineOf 3 = .ok (.ishr, 1) := by decide +kernel
theorem dX5_lineOf_4 : decode cX5_lineOf 4 = .ok (.bipush 63, 2) := by decide +kernel
theorem dX5_lineOf_6 : decode cX5_lineOf 6 = .ok (.iand, 1) := by decide +kernel
theorem dX5_lineOf_7 : decode cX5_lineOf 7 = .ok (.iconst 1, 1) := by decide +kernel
theorem dX5_lineOf_8 : decode cX5_lineOf 8 = .ok (.isub, 1) := by decide +kernel
theorem dX5_lineOf_9 : decode cX5_lineOf 9 = .ok (.ireturn, 1) := by decide +kernel
theorem dX5_origin_0 : decode cX5_origin 0 = .ok (.iload_n 2, 1) := by decide +kernel
theorem dX5_origin_1 : decode cX5_origin 1 = .ok (.bipush 8, 2) := by decide +kernel
theorem dX5_origin_3 : decode cX5_origin 3 = .ok (.ishl, 1) := by decide +kernel
theorem dX5_origin_4 : decode cX5_origin 4 = .ok (.iload_n 0, 1) := by decide +kernel
theorem dX5_origin_5 : decode cX5_origin 5 = .ok (.iconst 1, 1) := by decide +kernel
theorem dX5_origin_6 : decode cX5_origin 6 = .ok (.iadd, 1) := by decide +kernel
theorem dX5_origin_7 : decode cX5_origin 7 = .ok (.bipush 17, 2) := by decide +kernel
theorem dX5_origin_9 : decode cX5_origin 9 = .ok (.ishl, 1) := by decide +kernel
theorem dX5_origin_10 : decode cX5_origin 10 = .ok (.ior, 1) := by decide +kernel
theorem dX5_origin_11 : decode cX5_origin 11 = .ok (.iload_n 1, 1) := by decide +kernel
theorem dX5_origin_12 : decode cX5_origin 12 = .ok (.iconst 1, 1) := by decide +kernel
theorem dX5_origin_13 : decode cX5_origin 13 = .ok (.iadd, 1) := by decide +kernel
theorem dX5_origin_14 : decode cX5_origin 14 = .ok (.bipush 20, 2) := by decide +kernel
theorem dX5_origin_16 : decode cX5_origin 16 = .ok (.ishl, 1) := by decide +kernel
theorem dX5_origin_17 : decode cX5_origin 17 = .ok (.ior, 1) := by decide +kernel
theorem dX5_origin_18 : decode cX5_origin 18 = .ok (.ireturn, 1) := by decide +kernel
theorem dX5_shape_0 : decode cX5_shape 0 = .ok (.iload_n 0, 1) := by decide +kernel
theorem dX5_shape_1 : decode cX5_shape 1 = .ok (.iconst 5, 1) := by decide +kernel
theorem dX5_shape_2 : decode cX5_shape 2 = .ok (.ishl, 1) := by decide +kernel
theorem dX5_shape_3 : decode cX5_shape 3 = .ok (.iload_n 1, 1) := by decide +kernel
theorem dX5_shape_4 : decode cX5_shape 4 = .ok (.ior, 1) := by decide +kernel
theorem dX5_shape_5 : decode cX5_shape 5 = .ok (.ireturn, 1) := by decide +kernel
theorem dX5_from_0 : decode cX5_from 0 = .ok (.iload_n 0, 1) := by decide +kernel
theorem dX5_from_1 : decode cX5_from 1 = .ok (.sipush 255, 3) := by decide +kernel
theorem dX5_from_4 : decode cX5_from 4 = .ok (.iand, 1) := by decide +kernel
theorem dX5_from_5 : decode cX5_from 5 = .ok (.iload_n 1, 1) := by decide +kernel
theorem dX5_from_6 : decode cX5_from 6 = .ok (.sipush (-256), 3) := by decide +kernel
theorem dX5_from_9 : decode cX5_from 9 = .ok (.iand, 1) := by decide +kernel
theorem dX5_from_10 : decode cX5_from 10 = .ok (.ior, 1) := by decide +kernel
theorem dX5_from_11 : decode cX5_from 11 = .ok (.ireturn, 1) := by decide +kernel
theorem dX5_blankAs_0 : decode cX5_blankAs 0 = .ok (.iload_n 0, 1) := by decide +kernel
theorem dX5_blankAs_1 : decode cX5_blankAs 1 = .ok (.sipush (-129), 3) := by decide +kernel
theorem dX5_blankAs_4 : decode cX5_blankAs 4 = .ok (.iand, 1) := by decide +kernel
theorem dX5_blankAs_5 : decode cX5_blankAs 5 = .ok (.iload_n 1, 1) := by decide +kernel
theorem dX5_blankAs_6 : decode cX5_blankAs 6 = .ok (.sipush 128, 3) := by decide +kernel
theorem dX5_blankAs_9 : decode cX5_blankAs 9 = .ok (.iand, 1) := by decide +kernel
theorem dX5_blankAs_10 : decode cX5_blankAs 10 = .ok (.ior, 1) := by decide +kernel
theorem dX5_blankAs_11 : decode cX5_blankAs 11 = .ok (.ireturn, 1) := by decide +kernel
