theorem dX9_init_0 : decode cX9_init 0 = .ok (.aload_n 0, 1) := by decide +kernel
theorem dX9_init_1 : decode cX9_init 1 = .ok (.invokespecial 1, 3) := by decide +kernel
theorem dX9_init_4 : decode cX9_init 4 = .ok (.aload_n 0, 1) := by decide +kernel
theorem dX9_init_5 : decode cX9_init 5 = .ok (.bipush 16, 2) := by decide +kernel
theorem dX9_init_7 : decode cX9_init 7 = .ok (.newarray .int, 2) := by decide +kernel
theorem dX9_init_9 : decode cX9_init 9 = .ok (.putfield 7, 3) := by decide +kernel
theorem dX9_init_12 : decode cX9_init 12 = .ok (.aload_n 0, 1) := by decide +kernel
theorem dX9_init_13 : decode cX9_init 13 = .ok (.bipush 16, 2) := by decide +kernel
theorem dX9_init_15 : decode cX9_init 15 = .ok (.newarray .int, 2) := by decide +kernel
theorem dX9_init_17 : decode cX9_init 17 = .ok (.putfield 13, 3) := by decide +kernel
theorem dX9_init_20 : decode cX9_init 20 = .ok (.aload_n 0, 1) := by decide +kernel
theorem dX9_init_21 : decode cX9_init 21 = .ok (.bipush 16, 2) := by decide +kernel
theorem dX9_init_23 : decode cX9_init 23 = .ok (.newarray .int, 2) := by decide +kernel
theorem dX9_init_25 : decode cX9_init 25 = .ok (.putfield 16, 3) := by decide +kernel
theorem dX9_init_28 : decode cX9_init 28 = .ok (.aload_n 0, 1) := by decide +kernel
theorem dX9_init_29 : decode cX9_init 29 = .ok (.bipush 16, 2) := by decide +kernel
theorem dX9_init_31 : decode cX9_init 31 = .ok (.newarray .boolean, 2) := by decide +kernel
theorem dX9_init_33 : decode cX9_init 33 = .ok (.putfield 19, 3) := by decide +kernel
theorem dX9_init_36 : decode cX9_init 36 = .ok (.aload_n 0, 1) := by decide +kernel
theorem dX9_init_37 : decode cX9_init 37 = .ok (.sipush 576, 3) := by decide +kernel
theorem dX9_init_40 : decode cX9_init 40 = .ok (.newarray .int, 2) := by decide +kernel
theorem dX9_init_42 : decode cX9_init 42 = .ok (.putfield 23, 3) := by decide +kernel
theorem dX9_init_45 : decode cX9_init 45 = .ok (.aload_n 0, 1) := by decide +kernel
theorem dX9_init_46 : decode cX9_init 46 = .ok (.bipush 50, 2) := by decide +kernel
theorem dX9_init_48 : decode cX9_init 48 = .ok (.putfield 26, 3) := by decide +kernel
theorem dX9_init_51 : decode cX9_init 51 = .ok (.aload_n 0, 1) := by decide +kernel
theorem dX9_init_52 : decode cX9_init 52 = .ok (.bipush 20, 2) := by decide +kernel
theorem dX9_init_54 : decode cX9_init 54 = .ok (.putfield 30, 3) := by decide +kernel
theorem dX9_init_57 : decode cX9_init 57 = .ok (.aload_n 0, 1) := by decide +kernel
theorem dX9_init_58 : decode cX9_init 58 = .ok (.bipush 40, 2) := by decide +kernel
theorem dX9_init_60 : decode cX9_init 60 = .ok (.newarray .int, 2) := by decide +kernel
theorem dX9_init_62 : decode cX9_init 62 = .ok (.putfield 33, 3) := by decide +kernel
theorem dX9_init_65 : decode cX9_init 65 = .ok (.aload_n 0, 1) := by decide +kernel
theorem dX9_init_66 : decode cX9_init 66 = .ok (.bipush 120, 2) := by decide +kernel
theorem dX9_init_68 : decode cX9_init 68 = .ok (.newarray .int, 2) := by decide +kernel
theorem dX9_init_70 : decode cX9_init 70 = .ok (.putfield 36, 3) := by decide +kernel
theorem dX9_init_73 : decode cX9_init 73 = .ok (.aload_n 0, 1) := by decide +kernel
theorem dX9_init_74 : decode cX9_init 74 = .ok (.sipush 320, 3) := by decide +kernel
theorem dX9_init_77 : decode cX9_init 77 = .ok (.newarray .int, 2) := by decide +kernel
theorem dX9_init_79 : decode cX9_init 79 = .ok (.putfield 39, 3) := by decide +kernel
theorem dX9_init_82 : decode cX9_init 82 = .ok (.aload_n 0, 1) := by decide +kernel
theorem dX9_init_83 : decode cX9_init 83 = .ok (.iconst 2, 1) := by decide +kernel
theorem dX9_init_84 : decode cX9_init 84 = .ok (.newarray .int, 2) := by decide +kernel
theorem dX9_init_86 : decode cX9_init 86 = .ok (.putfield 42, 3) := by decide +kernel
theorem dX9_init_89 : decode cX9_init 89 = .ok (.aload_n 0, 1) := by decide +kernel
theorem dX9_init_90 : decode cX9_init 90 = .ok (.sipush 1280, 3) := by decide +kernel
theorem dX9_init_93 : decode cX9_init 93 = .ok (.newarray .int, 2) := by decide +kernel
theorem dX9_init_95 : decode cX9_init 95 = .ok (.putfield 45, 3) := by decide +kernel
theorem dX9_init_98 : decode cX9_init 98 = .ok (.aload_n 0, 1) := by decide +kernel
theorem dX9_init_99 : decode cX9_init 99 = .ok (.iconst 5, 1) := by decide +kernel
theorem dX9_init_100 : decode cX9_init 100 = .ok (.newarray .int, 2) := by decide +kernel
theorem dX9_init_102 : decode cX9_init 102 = .ok (.putfield 48, 3) := by decide +kernel
theorem dX9_init_105 : decode cX9_init 105 = .ok (.aload_n 0, 1) := by decide +kernel
theorem dX9_init_106 : decode cX9_init 106 = .ok (.getfield 42, 3) := by decide +kernel
theorem dX9_init_109 : decode cX9_init 109 = .ok (.iconst 0, 1) := by decide +kernel
theorem dX9_init_110 : decode cX9_init 110 = .ok (.iconst (-1), 1) := by decide +kernel
theorem dX9_init_111 : decode cX9_init 111 = .ok (.iastore, 1) := by decide +kernel
theorem dX9_init_112 : decode cX9_init 112 = .ok (.aload_n 0, 1) := by decide +kernel
theorem dX9_init_113 : decode cX9_init 113 = .ok (.getfield 42, 3) := by decide +kernel
theorem dX9_init_116 : decode cX9_init 116 = .ok (.iconst 1, 1) := by decide +kernel
theorem dX9_init_117 : decode cX9_init 117 = .ok (.iconst (-1), 1) := by decide +kernel
theorem dX9_init_118 : decode cX9_init 118 = .ok (.iastore, 1) := by decide +kernel
theorem dX9_init_119 : decode cX9_init 119 = .ok (.return_, 1) := by decide +kernel
theorem dX9_in_0 : decode cX9_in 0 = .ok (.lload_n 0, 1) := by decide +kernel
theorem dX9_in_1 : decode cX9_in 1 = .ok (.lload_n 2, 1) := by decide +kernel
theorem dX9_in_2 : decode cX9_in 2 = .ok (.lcmp, 1) := by decide +kernel
theorem dX9_in_3 : decode cX9_in 3 = .ok (.ifCond .lt 14, 3) := by decide +kernel
theorem dX9_in_6 : decode cX9_in 6 = .ok (.lload_n 0, 1) := by decide +kernel
theorem dX9_in_7 : decode cX9_in 7 = .ok (.lload 4, 2) := by decide +kernel
theorem dX9_in_9 : decode cX9_in 9 = .ok (.lcmp, 1) := by decide +kernel
theorem dX9_in_10 : decode cX9_in 10 = .ok (.ifCond .gt 7, 3) := by decide +kernel
theorem dX9_in_13 : decode cX9_in 13 = .ok (.iconst 1, 1) := by decide +kernel
theorem dX9_in_14 : decode cX9_in 14 = .ok (.goto 4, 3) := by decide +kernel
theorem dX9_in_17 : decode cX9_in 17 = .ok (.iconst 0, 1) := by decide +kernel
theorem dX9_in_18 : decode cX9_in 18 = .ok (.ireturn, 1) := by decide +kernel
theorem dX9_isPlace_0 : decode cX9_isPlace 0 = .ok (.iload_n 0, 1) := by decide +kernel
theorem dX9_isPlace_1 : decode cX9_isPlace 1 = .ok (.i2l, 1) := by decide +kernel
theorem dX9_isPlace_2 : decode cX9_isPlace 2 = .ok (.ldc2_w 51, 3) := by decide +kernel
theorem dX9_isPlace_5 : decode cX9_isPlace 5 = .ok (.ldc2_w 53, 3) := by decide +kernel
theorem dX9_isPlace_8 : decode cX9_isPlace 8 = .ok (.invokestatic 55, 3) := by decide +kernel
theorem dX9_isPlace_11 : decode cX9_isPlace 11 = .ok (.ifCond .eq 35, 3) := by decide +kernel
theorem dX9_isPlace_14 : decode cX9_isPlace 14 = .ok (.iload_n 1, 1) := by decide +kernel
theorem dX9_isPlace_15 : decode cX9_isPlace 15 = .ok (.i2l, 1) := by decide +kernel
theorem dX9_isPlace_16 : decode cX9_isPlace 16 = .ok (.ldc2_w 51, 3) := by decide +kernel
theorem dX9_isPlace_19 : decode cX9_isPlace 19 = .ok (.ldc2_w 53, 3) := by decide +kernel
theorem dX9_isPlace_22 : decode cX9_isPlace 22 = .ok (.invokestatic 55, 3) := by decide +kernel
theorem dX9_isPlace_25 : decode cX9_isPlace 25 = .ok (.ifCond .eq 21, 3) := by decide +kernel
theorem dX9_isPlace_28 : decode cX9_isPlace 28 = .ok (.iload_n 2, 1) := by decide +kernel
theorem dX9_isPlace_29 : decode cX9_isPlace 29 = .ok (.i2l, 1) := by decide +kernel
theorem dX9_isPlace_30 : decode cX9_isPlace 30 = .ok (.ldc2_w 51, 3) := by decide +kernel
theorem dX9_isPlace_33 : decode cX9_isPlace 33 = .ok (.ldc2_w 53, 3) := by decide +kernel
theorem dX9_isPlace_36 : decode cX9_isPlace 36 = .ok (.invokestatic 55, 3) := by decide +kernel
theorem dX9_isPlace_39 : decode cX9_isPlace 39 = .ok (.ifCond .eq 7, 3) := by decide +kernel
theorem dX9_isPlace_42 : decode cX9_isPlace 42 = .ok (.iconst 1, 1) := by decide +kernel
theorem dX9_isPlace_43 : decode cX9_isPlace 43 = .ok (.goto 4, 3) := by decide +kernel
theorem dX9_isPlace_46 : decode cX9_isPlace 46 = .ok (.iconst 0, 1) := by decide +kernel
theorem dX9_isPlace_47 : decode cX9_isPlace 47 = .ok (.ireturn, 1) := by decide +kernel
theorem dX9_isThing_0 : decode cX9_isThing 0 = .ok (.iload_n 1, 1) := by decide +kernel
theorem dX9_isThing_1 : decode cX9_isThing 1 = .ok (.i2l, 1) := by decide +kernel
theorem dX9_isThing_2 : decode cX9_isThing 2 = .ok (.lconst 0, 1) := by decide +kernel
theorem dX9_isThing_3 : decode cX9_isThing 3 = .ok (.aload_n 0, 1) := by decide +kernel
theorem dX9_isThing_4 : decode cX9_isThing 4 = .ok (.getfield 59, 3) := by decide +kernel
theorem dX9_isThing_7 : decode cX9_isThing 7 = .ok (.iconst 1, 1) := by decide +kernel
theorem dX9_isThing_8 : decode cX9_isThing 8 = .ok (.isub, 1) := by decide +kernel
theorem dX9_isThing_9 : decode cX9_isThing 9 = .ok (.i2l, 1) := by decide +kernel
theorem dX9_isThing_10 : decode cX9_isThing 10 = .ok (.invokestatic 55, 3) := by decide +kernel
theorem dX9_isThing_13 : decode cX9_isThing 13 = .ok (.ireturn, 1) := by decide +kernel
theorem dX9_hasPlace_0 : decode cX9_hasPlace 0 = .ok (.iload_n 2, 1) := by decide +kernel
theorem dX9_hasPlace_1 : decode cX9_hasPlace 1 = .ok (.i2l, 1) := by decide +kernel
theorem dX9_hasPlace_2 : decode cX9_hasPlace 2 = .ok (.aload_n 0, 1) := by decide +kernel
theorem dX9_hasPlace_3 : decode cX9_hasPlace 3 = .ok (.getfield 7, 3) := by decide +kernel
theorem dX9_hasPlace_6 : decode cX9_hasPlace 6 = .ok (.iload_n 1, 1) := by decide +kernel
theorem dX9_hasPlace_7 : decode cX9_hasPlace 7 = .ok (.iaload, 1) := by decide +kernel
theorem dX9_hasPlace_8 : decode cX9_hasPlace 8 = .ok (.i2l, 1) := by decide +kernel
theorem dX9_hasPlace_9 : decode cX9_hasPlace 9 = .ok (.aload_n 0, 1) := by decide +kernel
theorem dX9_hasPlace_10 : decode cX9_hasPlace 10 = .ok (.getfield 7, 3) := by decide +kernel
theorem dX9_hasPlace_13 : decode cX9_hasPlace 13 = .ok (.iload_n 1, 1) := by decide +kernel
theorem dX9_hasPlace_14 : decode cX9_hasPlace 14 = .ok (.iaload, 1) := by decide +kernel
theorem dX9_hasPlace_15 : decode cX9_hasPlace 15 = .ok (.aload_n 0, 1) := by decide +kernel
theorem dX9_hasPlace_16 : decode cX9_hasPlace 16 = .ok (.getfield 13, 3) := by decide +kernel
theorem dX9_hasPlace_19 : decode cX9_hasPlace 19 = .ok (.iload_n 1, 1) := by decide +kernel
theorem dX9_hasPlace_20 : decode cX9_hasPlace 20 = .ok (.iaload, 1) := by decide +kernel
theorem dX9_hasPlace_21 : decode cX9_hasPlace 21 = .ok (.iadd, 1) := by decide +kernel
theorem dX9_hasPlace_22 : decode cX9_hasPlace 22 = .ok (.iconst 1, 1) := by decide +kernel
theorem dX9_hasPlace_23 : decode cX9_hasPlace 23 = .ok (.isub, 1) := by decide +kernel
theorem dX9_hasPlace_24 : decode cX9_hasPlace 24 = .ok (.i2l, 1) := by decide +kernel
theorem dX9_hasPlace_25 : decode cX9_hasPlace 25 = .ok (.invokestatic 55, 3) := by decide +kernel
theorem dX9_hasPlace_28 : decode cX9_hasPlace 28 = .ok (.ireturn, 1) := by decide +kernel
theorem dX9_spot_0 : decode cX9_spot 0 = .ok (.aload_n 0, 1) := by decide +kernel
theorem dX9_spot_1 : decode cX9_spot 1 = .ok (.getfield 23, 3) := by decide +kernel
theorem dX9_spot_4 : decode cX9_spot 4 = .ok (.bipush 36, 2) := by decide +kernel
theorem dX9_spot_6 : decode cX9_spot 6 = .ok (.iload_n 1, 1) := by decide +kernel
theorem dX9_spot_7 : decode cX9_spot 7 = .ok (.imul, 1) := by decide +kernel
theorem dX9_spot_8 : decode cX9_spot 8 = .ok (.iconst 3, 1) := by decide +kernel
theorem dX9_spot_9 : decode cX9_spot 9 = .ok (.iload_n 2, 1) := by decide +kernel
theorem dX9_spot_10 : decode cX9_spot 10 = .ok (.aload_n 0, 1) := by decide +kernel
theorem dX9_spot_11 : decode cX9_spot 11 = .ok (.getfield 7, 3) := by decide +kernel
theorem dX9_spot_14 : decode cX9_spot 14 = .ok (.iload_n 1, 1) := by decide +kernel
theorem dX9_spot_15 : decode cX9_spot 15 = .ok (.iaload, 1) := by decide +kernel
theorem dX9_spot_16 : decode cX9_spot 16 = .ok (.isub, 1) := by decide +kernel
theorem dX9_spot_17 : decode cX9_spot 17 = .ok (.imul, 1) := by decide +kernel
theorem dX9_spot_18 : decode cX9_spot 18 = .ok (.iadd, 1) := by decide +kernel
theorem dX9_spot_19 : decode cX9_spot 19 = .ok (.iload_n 3, 1) := by decide +kernel
theorem dX9_spot_20 : decode cX9_spot 20 = .ok (.iadd, 1) := by decide +kernel
theorem dX9_spot_21 : decode cX9_spot 21 = .ok (.iaload, 1) := by decide +kernel
theorem dX9_spot_22 : decode cX9_spot 22 = .ok (.ireturn, 1) := by decide +kernel
theorem dX9_setSpot_0 : decode cX9_setSpot 0 = .ok (.aload_n 0, 1) := by decide +kernel
theorem dX9_setSpot_1 : decode cX9_setSpot 1 = .ok (.getfield 23, 3) := by decide +kernel
theorem dX9_setSpot_4 : decode cX9_setSpot 4 = .ok (.bipush 36, 2) := by decide +kernel
theorem dX9_setSpot_6 : decode cX9_setSpot 6 = .ok (.iload_n 1, 1) := by decide +kernel
theorem dX9_setSpot_7 : decode cX9_setSpot 7 = .ok (.imul, 1) := by decide +kernel
theorem dX9_setSpot_8 : decode cX9_setSpot 8 = .ok (.iconst 3, 1) := by decide +kernel
theorem dX9_setSpot_9 : decode cX9_setSpot 9 = .ok (.iload_n 2, 1) := by decide +kernel
theorem dX9_setSpot_10 : decode cX9_setSpot 10 = .ok (.imul, 1) := by decide +kernel
theorem dX9_setSpot_11 : decode cX9_setSpot 11 = .ok (.iadd, 1) := by decide +kernel
theorem dX9_setSpot_12 : decode cX9_setSpot 12 = .ok (.iload_n 3, 1) := by decide +kernel
theorem dX9_setSpot_13 : decode cX9_setSpot 13 = .ok (.iastore, 1) := by decide +kernel
theorem dX9_setSpot_14 : decode cX9_setSpot 14 = .ok (.aload_n 0, 1) := by decide +kernel
theorem dX9_setSpot_15 : decode cX9_setSpot 15 = .ok (.getfield 23, 3) := by decide +kernel
theorem dX9_setSpot_18 : decode cX9_setSpot 18 = .ok (.bipush 36, 2) := by decide +kernel
theorem dX9_setSpot_20 : decode cX9_setSpot 20 = .ok (.iload_n 1, 1) := by decide +kernel
theorem dX9_setSpot_21 : decode cX9_setSpot 21 = .ok (.imul, 1) := by decide +kernel
theorem dX9_setSpot_22 : decode cX9_setSpot 22 = .ok (.iconst 3, 1) := by decide +kernel
theorem dX9_setSpot_23 : decode cX9_setSpot 23 = .ok (.iload_n 2, 1) := by decide +kernel
theorem dX9_setSpot_24 : decode cX9_setSpot 24 = .ok (.imul, 1) := by decide +kernel
theorem dX9_setSpot_25 : decode cX9_setSpot 25 = .ok (.iadd, 1) := by decide +kernel
theorem dX9_setSpot_26 : decode cX9_setSpot 26 = .ok (.iconst 1, 1) := by decide +kernel
theorem dX9_setSpot_27 : decode cX9_setSpot 27 = .ok (.iadd, 1) := by decide +kernel
theorem dX9_setSpot_28 : decode cX9_setSpot 28 = .ok (.iload 4, 2) := by decide +kernel
theorem dX9_setSpot_30 : decode cX9_setSpot 30 = .ok (.iastore, 1) := by decide +kernel
theorem dX9_setSpot_31 : decode cX9_setSpot 31 = .ok (.aload_n 0, 1) := by decide +kernel
theorem dX9_setSpot_32 : decode cX9_setSpot 32 = .ok (.getfield 23, 3) := by decide +kernel
theorem dX9_setSpot_35 : decode cX9_setSpot 35 = .ok (.bipush 36, 2) := by decide +kernel
theorem dX9_setSpot_37 : decode cX9_setSpot 37 = .ok (.iload_n 1, 1) := by decide +kernel
theorem dX9_setSpot_38 : decode cX9_setSpot 38 = .ok (.imul, 1) := by decide +kernel
theorem dX9_setSpot_39 : decode cX9_setSpot 39 = .ok (.iconst 3, 1) := by decide +kernel
theorem dX9_setSpot_40 : decode cX9_setSpot 40 = .ok (.iload_n 2, 1) := by decide +kernel
theorem dX9_setSpot_41 : decode cX9_setSpot 41 = .ok (.imul, 1) := by decide +kernel
theorem dX9_setSpot_42 : decode cX9_setSpot 42 = .ok (.iadd, 1) := by decide +kernel
theorem dX9_setSpot_43 : decode cX9_setSpot 43 = .ok (.iconst 2, 1) := by decide +kernel
theorem dX9_setSpot_44 : decode cX9_setSpot 44 = .ok (.iadd, 1) := by decide +kernel
theorem dX9_setSpot_45 : decode cX9_setSpot 45 = .ok (.iload 5, 2) := by decide +kernel
theorem dX9_setSpot_47 : decode cX9_setSpot 47 = .ok (.iastore, 1) := by decide +kernel
theorem dX9_setSpot_48 : decode cX9_setSpot 48 = .ok (.return_, 1) := by decide +kernel
theorem dX9_fresh_0 : decode cX9_fresh 0 = .ok (.aload_n 0, 1) := by decide +kernel
theorem dX9_fresh_1 : decode cX9_fresh 1 = .ok (.getfield 7, 3) := by decide +kernel
theorem dX9_fresh_4 : decode cX9_fresh 4 = .ok (.aload_n 0, 1) := by decide +kernel
theorem dX9_fresh_5 : decode cX9_fresh 5 = .ok (.getfield 59, 3) := by decide +kernel
theorem dX9_fresh_8 : decode cX9_fresh 8 = .ok (.iload_n 1, 1) := by decide +kernel
theorem dX9_fresh_9 : decode cX9_fresh 9 = .ok (.iastore, 1) := by decide +kernel
theorem dX9_fresh_10 : decode cX9_fresh 10 = .ok (.aload_n 0, 1) := by decide +kernel
theorem dX9_fresh_11 : decode cX9_fresh 11 = .ok (.getfield 13, 3) := by decide +kernel
theorem dX9_fresh_14 : decode cX9_fresh 14 = .ok (.aload_n 0, 1) := by decide +kernel
theorem dX9_fresh_15 : decode cX9_fresh 15 = .ok (.getfield 59, 3) := by decide +kernel
theorem dX9_fresh_18 : decode cX9_fresh 18 = .ok (.iconst 0, 1) := by decide +kernel
theorem dX9_fresh_19 : decode cX9_fresh 19 = .ok (.iastore, 1) := by decide +kernel
theorem dX9_fresh_20 : decode cX9_fresh 20 = .ok (.aload_n 0, 1) := by decide +kernel
theorem dX9_fresh_21 : decode cX9_fresh 21 = .ok (.getfield 16, 3) := by decide +kernel
theorem dX9_fresh_24 : decode cX9_fresh 24 = .ok (.aload_n 0, 1) := by decide +kernel
theorem dX9_fresh_25 : decode cX9_fresh 25 = .ok (.getfield 59, 3) := by decide +kernel
theorem dX9_fresh_28 : decode cX9_fresh 28 = .ok (.iload_n 2, 1) := by decide +kernel
theorem dX9_fresh_29 : decode cX9_fresh 29 = .ok (.iastore, 1) := by decide +kernel
theorem dX9_fresh_30 : decode cX9_fresh 30 = .ok (.aload_n 0, 1) := by decide +kernel
theorem dX9_fresh_31 : decode cX9_fresh 31 = .ok (.getfield 19, 3) := by decide +kernel
theorem dX9_fresh_34 : decode cX9_fresh 34 = .ok (.aload_n 0, 1) := by decide +kernel
theorem dX9_fresh_35 : decode cX9_fresh 35 = .ok (.getfield 59, 3) := by decide +kernel
theorem dX9_fresh_38 : decode cX9_fresh 38 = .ok (.iconst 0, 1) := by decide +kernel
theorem dX9_fresh_39 : decode cX9_fresh 39 = .ok (.bastore, 1) := by decide +kernel
theorem dX9_fresh_40 : decode cX9_fresh 40 = .ok (.aload_n 0, 1) := by decide +kernel
theorem dX9_fresh_41 : decode cX9_fresh 41 = .ok (.dup, 1) := by decide +kernel
theorem dX9_fresh_42 : decode cX9_fresh 42 = .ok (.getfield 59, 3) := by decide +kernel
theorem dX9_fresh_45 : decode cX9_fresh 45 = .ok (.iconst 1, 1) := by decide +kernel
theorem dX9_fresh_46 : decode cX9_fresh 46 = .ok (.iadd, 1) := by decide +kernel
theorem dX9_fresh_47 : decode cX9_fresh 47 = .ok (.putfield 59, 3) := by decide +kernel
theorem dX9_fresh_50 : decode cX9_fresh 50 = .ok (.aload_n 0, 1) := by decide +kernel
theorem dX9_fresh_51 : decode cX9_fresh 51 = .ok (.getfield 59, 3) := by decide +kernel
theorem dX9_fresh_54 : decode cX9_fresh 54 = .ok (.iconst 1, 1) := by decide +kernel
theorem dX9_fresh_55 : decode cX9_fresh 55 = .ok (.isub, 1) := by decide +kernel
theorem dX9_fresh_56 : decode cX9_fresh 56 = .ok (.ireturn, 1) := by decide +kernel
theorem dX9_thing_0 : decode cX9_thing 0 = .ok (.iload_n 1, 1) := by decide +kernel
theorem dX9_thing_1 : decode cX9_thing 1 = .ok (.i2l, 1) := by decide +kernel
theorem dX9_thing_2 : decode cX9_thing 2 = .ok (.lconst 0, 1) := by decide +kernel
theorem dX9_thing_3 : decode cX9_thing 3 = .ok (.ldc2_w 62, 3) := by decide +kernel
theorem dX9_thing_6 : decode cX9_thing 6 = .ok (.invokestatic 55, 3) := by decide +kernel
theorem dX9_thing_9 : decode cX9_thing 9 = .ok (.ifCond .eq 26, 3) := by decide +kernel
theorem dX9_thing_12 : decode cX9_thing 12 = .ok (.iload_n 2, 1) := by decide +kernel
theorem dX9_thing_13 : decode cX9_thing 13 = .ok (.iload_n 3, 1) := by decide +kernel
theorem dX9_thing_14 : decode cX9_thing 14 = .ok (.iload 4, 2) := by decide +kernel
theorem dX9_thing_16 : decode cX9_thing 16 = .ok (.invokestatic 64, 3) := by decide +kernel
theorem dX9_thing_19 : decode cX9_thing 19 = .ok (.ifCond .eq 16, 3) := by decide +kernel
theorem dX9_thing_22 : decode cX9_thing 22 = .ok (.iload 5, 2) := by decide +kernel
theorem dX9_thing_24 : decode cX9_thing 24 = .ok (.i2l, 1) := by decide +kernel
theorem dX9_thing_25 : decode cX9_thing 25 = .ok (.lconst 0, 1) := by decide +kernel
theorem dX9_thing_26 : decode cX9_thing 26 = .ok (.ldc2_w 68, 3) := by decide +kernel
theorem dX9_thing_29 : decode cX9_thing 29 = .ok (.invokestatic 55, 3) := by decide +kernel
theorem dX9_thing_32 : decode cX9_thing 32 = .ok (.ifCond .ne 6, 3) := by decide +kernel
theorem dX9_thing_35 : decode cX9_thing 35 = .ok (.ldc 70, 2) := by decide +kernel
theorem dX9_thing_37 : decode cX9_thing 37 = .ok (.ireturn, 1) := by decide +kernel
theorem dX9_thing_38 : decode cX9_thing 38 = .ok (.aload_n 0, 1) := by decide +kernel
theorem dX9_thing_39 : decode cX9_thing 39 = .ok (.getfield 59, 3) := by decide +kernel
theorem dX9_thing_42 : decode cX9_thing 42 = .ok (.bipush 16, 2) := by decide +kernel
theorem dX9_thing_44 : decode cX9_thing 44 = .ok (.if_icmp .ne 6, 3) := by decide +kernel
theorem dX9_thing_47 : decode cX9_thing 47 = .ok (.ldc 71, 2) := by decide +kernel
theorem dX9_thing_49 : decode cX9_thing 49 = .ok (.ireturn, 1) := by decide +kernel
theorem dX9_thing_50 : decode cX9_thing 50 = .ok (.aload_n 0, 1) := by decide +kernel
theorem dX9_thing_51 : decode cX9_thing 51 = .ok (.iload_n 1, 1) := by decide +kernel
theorem dX9_thing_52 : decode cX9_thing 52 = .ok (.iload 5, 2) := by decide +kernel
theorem dX9_thing_54 : decode cX9_thing 54 = .ok (.invokevirtual 72, 3) := by decide +kernel
theorem dX9_thing_57 : decode cX9_thing 57 = .ok (.istore 6, 2) := by decide +kernel
theorem dX9_thing_59 : decode cX9_thing 59 = .ok (.aload_n 0, 1) := by decide +kernel
theorem dX9_thing_60 : decode cX9_thing 60 = .ok (.iload 6, 2) := by decide +kernel
theorem dX9_thing_62 : decode cX9_thing 62 = .ok (.iconst 0, 1) := by decide +kernel
theorem dX9_thing_63 : decode cX9_thing 63 = .ok (.iload_n 2, 1) := by decide +kernel
theorem dX9_thing_64 : decode cX9_thing 64 = .ok (.iload_n 3, 1) := by decide +kernel
theorem dX9_thing_65 : decode cX9_thing 65 = .ok (.iload 4, 2) := by decide +kernel
theorem dX9_thing_67 : decode cX9_thing 67 = .ok (.invokevirtual 76, 3) := by decide +kernel
theorem dX9_thing_70 : decode cX9_thing 70 = .ok (.aload_n 0, 1) := by decide +kernel
theorem dX9_thing_71 : decode cX9_thing 71 = .ok (.getfield 13, 3) := by decide +kernel
theorem dX9_thing_74 : decode cX9_thing 74 = .ok (.iload 6, 2) := by decide +kernel
theorem dX9_thing_76 : decode cX9_thing 76 = .ok (.iconst 1, 1) := by decide +kernel
theorem dX9_thing_77 : decode cX9_thing 77 = .ok (.iastore, 1) := by decide +kernel
theorem dX9_thing_78 : decode cX9_thing 78 = .ok (.iload 6, 2) := by decide +kernel
theorem dX9_thing_80 : decode cX9_thing 80 = .ok (.ireturn, 1) := by decide +kernel
theorem dX9_place_0 : decode cX9_place 0 = .ok (.aload_n 0, 1) := by decide +kernel
theorem dX9_place_1 : decode cX9_place 1 = .ok (.iload_n 1, 1) := by decide +kernel
theorem dX9_place_2 : decode cX9_place 2 = .ok (.invokevirtual 80, 3) := by decide +kernel
theorem dX9_place_5 : decode cX9_place 5 = .ok (.ifCond .ne 6, 3) := by decide +kernel
theorem dX9_place_8 : decode cX9_place 8 = .ok (.ldc 84, 2) := by decide +kernel
theorem dX9_place_10 : decode cX9_place 10 = .ok (.ireturn, 1) := by decide +kernel
theorem dX9_place_11 : decode cX9_place 11 = .ok (.iload_n 2, 1) := by decide +kernel
theorem dX9_place_12 : decode cX9_place 12 = .ok (.iload_n 3, 1) := by decide +kernel
theorem dX9_place_13 : decode cX9_place 13 = .ok (.iload 4, 2) := by decide +kernel
theorem dX9_place_15 : decode cX9_place 15 = .ok (.invokestatic 64, 3) := by decide +kernel
theorem dX9_place_18 : decode cX9_place 18 = .ok (.ifCond .ne 6, 3) := by decide +kernel
theorem dX9_place_21 : decode cX9_place 21 = .ok (.ldc 70, 2) := by decide +kernel
theorem dX9_place_23 : decode cX9_place 23 = .ok (.ireturn, 1) := by decide +kernel
theorem dX9_place_24 : decode cX9_place 24 = .ok (.aload_n 0, 1) := by decide +kernel
theorem dX9_place_25 : decode cX9_place 25 = .ok (.getfield 19, 3) := by decide +kernel
theorem dX9_place_28 : decode cX9_place 28 = .ok (.iload_n 1, 1) := by decide +kernel
theorem dX9_place_29 : decode cX9_place 29 = .ok (.baload, 1) := by decide +kernel
theorem dX9_place_30 : decode cX9_place 30 = .ok (.ifCond .ne 21, 3) := by decide +kernel
theorem dX9_place_33 : decode cX9_place 33 = .ok (.aload_n 0, 1) := by decide +kernel
theorem dX9_place_34 : decode cX9_place 34 = .ok (.getfield 7, 3) := by decide +kernel
theorem dX9_place_37 : decode cX9_place 37 = .ok (.iload_n 1, 1) := by decide +kernel
theorem dX9_place_38 : decode cX9_place 38 = .ok (.iaload, 1) := by decide +kernel
theorem dX9_place_39 : decode cX9_place 39 = .ok (.aload_n 0, 1) := by decide +kernel
theorem dX9_place_40 : decode cX9_place 40 = .ok (.getfield 13, 3) := by decide +kernel
theorem dX9_place_43 : decode cX9_place 43 = .ok (.iload_n 1, 1) := by decide +kernel
theorem dX9_place_44 : decode cX9_place 44 = .ok (.iaload, 1) := by decide +kernel
theorem dX9_place_45 : decode cX9_place 45 = .ok (.iadd, 1) := by decide +kernel
theorem dX9_place_46 : decode cX9_place 46 = .ok (.bipush 39, 2) := by decide +kernel
theorem dX9_place_48 : decode cX9_place 48 = .ok (.if_icmp .le 6, 3) := by decide +kernel
theorem dX9_place_51 : decode cX9_place 51 = .ok (.ldc 85, 2) := by decide +kernel
theorem dX9_place_53 : decode cX9_place 53 = .ok (.ireturn, 1) := by decide +kernel
theorem dX9_place_54 : decode cX9_place 54 = .ok (.aload_n 0, 1) := by decide +kernel
theorem dX9_place_55 : decode cX9_place 55 = .ok (.getfield 13, 3) := by decide +kernel
theorem dX9_place_58 : decode cX9_place 58 = .ok (.iload_n 1, 1) := by decide +kernel
theorem dX9_place_59 : decode cX9_place 59 = .ok (.iaload, 1) := by decide +kernel
theorem dX9_place_60 : decode cX9_place 60 = .ok (.bipush 12, 2) := by decide +kernel
theorem dX9_place_62 : decode cX9_place 62 = .ok (.if_icmp .ne 6, 3) := by decide +kernel
theorem dX9_place_65 : decode cX9_place 65 = .ok (.ldc 71, 2) := by decide +kernel
theorem dX9_place_67 : decode cX9_place 67 = .ok (.ireturn, 1) := by decide +kernel
theorem dX9_place_68 : decode cX9_place 68 = .ok (.aload_n 0, 1) := by decide +kernel
theorem dX9_place_69 : decode cX9_place 69 = .ok (.iload_n 1, 1) := by decide +kernel
theorem dX9_place_70 : decode cX9_place 70 = .ok (.aload_n 0, 1) := by decide +kernel
theorem dX9_place_71 : decode cX9_place 71 = .ok (.getfield 13, 3) := by decide +kernel
theorem dX9_place_74 : decode cX9_place 74 = .ok (.iload_n 1, 1) := by decide +kernel
theorem dX9_place_75 : decode cX9_place 75 = .ok (.iaload, 1) := by decide +kernel
theorem dX9_place_76 : decode cX9_place 76 = .ok (.iload_n 2, 1) := by decide +kernel
theorem dX9_place_77 : decode cX9_place 77 = .ok (.iload_n 3, 1) := by decide +kernel
theorem dX9_place_78 : decode cX9_place 78 = .ok (.iload 4, 2) := by decide +kernel
theorem dX9_place_80 : decode cX9_place 80 = .ok (.invokevirtual 76, 3) := by decide +kernel
theorem dX9_place_83 : decode cX9_place 83 = .ok (.aload_n 0, 1) := by decide +kernel
theorem dX9_place_84 : decode cX9_place 84 = .ok (.getfield 13, 3) := by decide +kernel
theorem dX9_place_87 : decode cX9_place 87 = .ok (.iload_n 1, 1) := by decide +kernel
theorem dX9_place_88 : decode cX9_place 88 = .ok (.dup2, 1) := by decide +kernel
theorem dX9_place_89 : decode cX9_place 89 = .ok (.iaload, 1) := by decide +kernel
theorem dX9_place_90 : decode cX9_place 90 = .ok (.iconst 1, 1) := by decide +kernel
theorem dX9_place_91 : decode cX9_place 91 = .ok (.iadd, 1) := by decide +kernel
theorem dX9_place_92 : decode cX9_place 92 = .ok (.iastore, 1) := by decide +kernel
theorem dX9_place_93 : decode cX9_place 93 = .ok (.aload_n 0, 1) := by decide +kernel
theorem dX9_place_94 : decode cX9_place 94 = .ok (.getfield 13, 3) := by decide +kernel
theorem dX9_place_97 : decode cX9_place 97 = .ok (.iload_n 1, 1) := by decide +kernel
theorem dX9_place_98 : decode cX9_place 98 = .ok (.iaload, 1) := by decide +kernel
theorem dX9_place_99 : decode cX9_place 99 = .ok (.ireturn, 1) := by decide +kernel
theorem dX9_gone_0 : decode cX9_gone 0 = .ok (.aload_n 0, 1) := by decide +kernel
theorem dX9_gone_1 : decode cX9_gone 1 = .ok (.iload_n 1, 1) := by decide +kernel
theorem dX9_gone_2 : decode cX9_gone 2 = .ok (.invokevirtual 80, 3) := by decide +kernel
theorem dX9_gone_5 : decode cX9_gone 5 = .ok (.ifCond .ne 6, 3) := by decide +kernel
theorem dX9_gone_8 : decode cX9_gone 8 = .ok (.ldc 84, 2) := by decide +kernel
theorem dX9_gone_10 : decode cX9_gone 10 = .ok (.ireturn, 1) := by decide +kernel
theorem dX9_gone_11 : decode cX9_gone 11 = .ok (.aload_n 0, 1) := by decide +kernel
theorem dX9_gone_12 : decode cX9_gone 12 = .ok (.getfield 19, 3) := by decide +kernel
theorem dX9_gone_15 : decode cX9_gone 15 = .ok (.iload_n 1, 1) := by decide +kernel
theorem dX9_gone_16 : decode cX9_gone 16 = .ok (.baload, 1) := by decide +kernel
theorem dX9_gone_17 : decode cX9_gone 17 = .ok (.ifCond .eq 6, 3) := by decide +kernel
theorem dX9_gone_20 : decode cX9_gone 20 = .ok (.ldc 85, 2) := by decide +kernel
theorem dX9_gone_22 : decode cX9_gone 22 = .ok (.ireturn, 1) := by decide +kernel
theorem dX9_gone_23 : decode cX9_gone 23 = .ok (.aload_n 0, 1) := by decide +kernel
theorem dX9_gone_24 : decode cX9_gone 24 = .ok (.getfield 19, 3) := by decide +kernel
theorem dX9_gone_27 : decode cX9_gone 27 = .ok (.iload_n 1, 1) := by decide +kernel
theorem dX9_gone_28 : decode cX9_gone 28 = .ok (.iconst 1, 1) := by decide +kernel
theorem dX9_gone_29 : decode cX9_gone 29 = .ok (.bastore, 1) := by decide +kernel
theorem dX9_gone_30 : decode cX9_gone 30 = .ok (.iconst 1, 1) := by decide +kernel
theorem dX9_gone_31 : decode cX9_gone 31 = .ok (.ireturn, 1) := by decide +kernel
theorem dX9_breaks_0 : decode cX9_breaks 0 = .ok (.aload_n 0, 1) := by decide +kernel
theorem dX9_breaks_1 : decode cX9_breaks 1 = .ok (.iload_n 1, 1) := by decide +kernel
theorem dX9_breaks_2 : decode cX9_breaks 2 = .ok (.invokevirtual 80, 3) := by decide +kernel
theorem dX9_breaks_5 : decode cX9_breaks 5 = .ok (.ifCond .ne 6, 3) := by decide +kernel
theorem dX9_breaks_8 : decode cX9_breaks 8 = .ok (.ldc 84, 2) := by decide +kernel
theorem dX9_breaks_10 : decode cX9_breaks 10 = .ok (.ireturn, 1) := by decide +kernel
theorem dX9_breaks_11 : decode cX9_breaks 11 = .ok (.iload_n 3, 1) := by decide +kernel
theorem dX9_breaks_12 : decode cX9_breaks 12 = .ok (.i2l, 1) := by decide +kernel
theorem dX9_breaks_13 : decode cX9_breaks 13 = .ok (.ldc2_w 86, 3) := by decide +kernel
theorem dX9_breaks_16 : decode cX9_breaks 16 = .ok (.ldc2_w 88, 3) := by decide +kernel
theorem dX9_breaks_19 : decode cX9_breaks 19 = .ok (.invokestatic 55, 3) := by decide +kernel
theorem dX9_breaks_22 : decode cX9_breaks 22 = .ok (.ifCond .eq 12, 3) := by decide +kernel
theorem dX9_breaks_25 : decode cX9_breaks 25 = .ok (.aload_n 0, 1) := by decide +kernel
theorem dX9_breaks_26 : decode cX9_breaks 26 = .ok (.iload_n 1, 1) := by decide +kernel
theorem dX9_breaks_27 : decode cX9_breaks 27 = .ok (.iload_n 2, 1) := by decide +kernel
theorem dX9_breaks_28 : decode cX9_breaks 28 = .ok (.invokevirtual 90, 3) := by decide +kernel
theorem dX9_breaks_31 : decode cX9_breaks 31 = .ok (.ifCond .ne 6, 3) := by decide +kernel
theorem dX9_breaks_34 : decode cX9_breaks 34 = .ok (.ldc 70, 2) := by decide +kernel
theorem dX9_breaks_36 : decode cX9_breaks 36 = .ok (.ireturn, 1) := by decide +kernel
theorem dX9_breaks_37 : decode cX9_breaks 37 = .ok (.aload_n 0, 1) := by decide +kernel
theorem dX9_breaks_38 : decode cX9_breaks 38 = .ok (.getfield 7, 3) := by decide +kernel
theorem dX9_breaks_41 : decode cX9_breaks 41 = .ok (.iload_n 1, 1) := by decide +kernel
theorem dX9_breaks_42 : decode cX9_breaks 42 = .ok (.iaload, 1) := by decide +kernel
theorem dX9_breaks_43 : decode cX9_breaks 43 = .ok (.aload_n 0, 1) := by decide +kernel
theorem dX9_breaks_44 : decode cX9_breaks 44 = .ok (.getfield 13, 3) := by decide +kernel
theorem dX9_breaks_47 : decode cX9_breaks 47 = .ok (.iload_n 1, 1) := by decide +kernel
theorem dX9_breaks_48 : decode cX9_breaks 48 = .ok (.iaload, 1) := by decide +kernel
theorem dX9_breaks_49 : decode cX9_breaks 49 = .ok (.iadd, 1) := by decide +kernel
theorem dX9_breaks_50 : decode cX9_breaks 50 = .ok (.iload_n 2, 1) := by decide +kernel
theorem dX9_breaks_51 : decode cX9_breaks 51 = .ok (.isub, 1) := by decide +kernel
theorem dX9_breaks_52 : decode cX9_breaks 52 = .ok (.istore 4, 2) := by decide +kernel
theorem dX9_breaks_54 : decode cX9_breaks 54 = .ok (.aload_n 0, 1) := by decide +kernel
theorem dX9_breaks_55 : decode cX9_breaks 55 = .ok (.getfield 19, 3) := by decide +kernel
theorem dX9_breaks_58 : decode cX9_breaks 58 = .ok (.iload_n 1, 1) := by decide +kernel
theorem dX9_breaks_59 : decode cX9_breaks 59 = .ok (.baload, 1) := by decide +kernel
theorem dX9_breaks_60 : decode cX9_breaks 60 = .ok (.ifCond .ne 7, 3) := by decide +kernel
theorem dX9_breaks_63 : decode cX9_breaks 63 = .ok (.iconst 1, 1) := by decide +kernel
theorem dX9_breaks_64 : decode cX9_breaks 64 = .ok (.goto 4, 3) := by decide +kernel
theorem dX9_breaks_67 : decode cX9_breaks 67 = .ok (.iconst 0, 1) := by decide +kernel
theorem dX9_breaks_68 : decode cX9_breaks 68 = .ok (.istore 5, 2) := by decide +kernel
theorem dX9_breaks_70 : decode cX9_breaks 70 = .ok (.iconst 0, 1) := by decide +kernel
theorem dX9_breaks_71 : decode cX9_breaks 71 = .ok (.istore 6, 2) := by decide +kernel
theorem dX9_breaks_73 : decode cX9_breaks 73 = .ok (.iload 6, 2) := by decide +kernel
theorem dX9_breaks_75 : decode cX9_breaks 75 = .ok (.iload_n 3, 1) := by decide +kernel
theorem dX9_breaks_76 : decode cX9_breaks 76 = .ok (.if_icmp .ge 94, 3) := by decide +kernel
theorem dX9_breaks_79 : decode cX9_breaks 79 = .ok (.iconst 0, 1) := by decide +kernel
theorem dX9_breaks_80 : decode cX9_breaks 80 = .ok (.istore 7, 2) := by decide +kernel
theorem dX9_breaks_82 : decode cX9_breaks 82 = .ok (.iload 7, 2) := by decide +kernel
theorem dX9_breaks_84 : decode cX9_breaks 84 = .ok (.iload 4, 2) := by decide +kernel
theorem dX9_breaks_86 : decode cX9_breaks 86 = .ok (.if_icmp .ge 78, 3) := by decide +kernel
theorem dX9_breaks_89 : decode cX9_breaks 89 = .ok (.aload_n 0, 1) := by decide +kernel
theorem dX9_breaks_90 : decode cX9_breaks 90 = .ok (.iload_n 1, 1) := by decide +kernel
theorem dX9_breaks_91 : decode cX9_breaks 91 = .ok (.iload_n 2, 1) := by decide +kernel
theorem dX9_breaks_92 : decode cX9_breaks 92 = .ok (.iload 7, 2) := by decide +kernel
theorem dX9_breaks_94 : decode cX9_breaks 94 = .ok (.iadd, 1) := by decide +kernel
theorem dX9_breaks_95 : decode cX9_breaks 95 = .ok (.iconst 0, 1) := by decide +kernel
theorem dX9_breaks_96 : decode cX9_breaks 96 = .ok (.invokevirtual 94, 3) := by decide +kernel
theorem dX9_breaks_99 : decode cX9_breaks 99 = .ok (.iload 7, 2) := by decide +kernel
theorem dX9_breaks_101 : decode cX9_breaks 101 = .ok (.iload 6, 2) := by decide +kernel
theorem dX9_breaks_103 : decode cX9_breaks 103 = .ok (.iload_n 3, 1) := by decide +kernel
theorem dX9_breaks_104 : decode cX9_breaks 104 = .ok (.iconst 2, 1) := by decide +kernel
theorem dX9_breaks_105 : decode cX9_breaks 105 = .ok (.idiv, 1) := by decide +kernel
theorem dX9_breaks_106 : decode cX9_breaks 106 = .ok (.isub, 1) := by decide +kernel
theorem dX9_breaks_107 : decode cX9_breaks 107 = .ok (.imul, 1) := by decide +kernel
theorem dX9_breaks_108 : decode cX9_breaks 108 = .ok (.iadd, 1) := by decide +kernel
theorem dX9_breaks_109 : decode cX9_breaks 109 = .ok (.istore 8, 2) := by decide +kernel
theorem dX9_breaks_111 : decode cX9_breaks 111 = .ok (.aload_n 0, 1) := by decide +kernel
theorem dX9_breaks_112 : decode cX9_breaks 112 = .ok (.iload_n 1, 1) := by decide +kernel
theorem dX9_breaks_113 : decode cX9_breaks 113 = .ok (.iload_n 2, 1) := by decide +kernel
theorem dX9_breaks_114 : decode cX9_breaks 114 = .ok (.iload 7, 2) := by decide +kernel
theorem dX9_breaks_116 : decode cX9_breaks 116 = .ok (.iadd, 1) := by decide +kernel
theorem dX9_breaks_117 : decode cX9_breaks 117 = .ok (.iconst 1, 1) := by decide +kernel
theorem dX9_breaks_118 : decode cX9_breaks 118 = .ok (.invokevirtual 94, 3) := by decide +kernel
theorem dX9_breaks_121 : decode cX9_breaks 121 = .ok (.iload 7, 2) := by decide +kernel
theorem dX9_breaks_123 : decode cX9_breaks 123 = .ok (.iload 6, 2) := by decide +kernel
theorem dX9_breaks_125 : decode cX9_breaks 125 = .ok (.iconst 2, 1) := by decide +kernel
theorem dX9_breaks_126 : decode cX9_breaks 126 = .ok (.irem, 1) := by decide +kernel
theorem dX9_breaks_127 : decode cX9_breaks 127 = .ok (.iconst 2, 1) := by decide +kernel
theorem dX9_breaks_128 : decode cX9_breaks 128 = .ok (.imul, 1) := by decide +kernel
theorem dX9_breaks_129 : decode cX9_breaks 129 = .ok (.iconst 1, 1) := by decide +kernel
theorem dX9_breaks_130 : decode cX9_breaks 130 = .ok (.isub, 1) := by decide +kernel
theorem dX9_breaks_131 : decode cX9_breaks 131 = .ok (.imul, 1) := by decide +kernel
theorem dX9_breaks_132 : decode cX9_breaks 132 = .ok (.iadd, 1) := by decide +kernel
theorem dX9_breaks_133 : decode cX9_breaks 133 = .ok (.istore 9, 2) := by decide +kernel
theorem dX9_breaks_135 : decode cX9_breaks 135 = .ok (.iload 5, 2) := by decide +kernel
theorem dX9_breaks_137 : decode cX9_breaks 137 = .ok (.ifCond .eq 18, 3) := by decide +kernel
theorem dX9_breaks_140 : decode cX9_breaks 140 = .ok (.iload 8, 2) := by decide +kernel
theorem dX9_breaks_142 : decode cX9_breaks 142 = .ok (.iload 9, 2) := by decide +kernel
theorem dX9_breaks_144 : decode cX9_breaks 144 = .ok (.iconst 0, 1) := by decide +kernel
theorem dX9_breaks_145 : decode cX9_breaks 145 = .ok (.invokestatic 64, 3) := by decide +kernel
theorem dX9_breaks_148 : decode cX9_breaks 148 = .ok (.ifCond .eq 7, 3) := by decide +kernel
theorem dX9_breaks_151 : decode cX9_breaks 151 = .ok (.iconst 1, 1) := by decide +kernel
theorem dX9_breaks_152 : decode cX9_breaks 152 = .ok (.goto 4, 3) := by decide +kernel
theorem dX9_breaks_155 : decode cX9_breaks 155 = .ok (.iconst 0, 1) := by decide +kernel
theorem dX9_breaks_156 : decode cX9_breaks 156 = .ok (.istore 5, 2) := by decide +kernel
theorem dX9_breaks_158 : decode cX9_breaks 158 = .ok (.iinc 7 1, 3) := by decide +kernel
theorem dX9_breaks_161 : decode cX9_breaks 161 = .ok (.goto (-79), 3) := by decide +kernel
theorem dX9_breaks_164 : decode cX9_breaks 164 = .ok (.iinc 6 1, 3) := by decide +kernel
theorem dX9_breaks_167 : decode cX9_breaks 167 = .ok (.goto (-94), 3) := by decide +kernel
theorem dX9_breaks_170 : decode cX9_breaks 170 = .ok (.iload 5, 2) := by decide +kernel
theorem dX9_breaks_172 : decode cX9_breaks 172 = .ok (.ifCond .ne 6, 3) := by decide +kernel
theorem dX9_breaks_175 : decode cX9_breaks 175 = .ok (.ldc 85, 2) := by decide +kernel
theorem dX9_breaks_177 : decode cX9_breaks 177 = .ok (.ireturn, 1) := by decide +kernel
theorem dX9_breaks_178 : decode cX9_breaks 178 = .ok (.aload_n 0, 1) := by decide +kernel
theorem dX9_breaks_179 : decode cX9_breaks 179 = .ok (.getfield 59, 3) := by decide +kernel
theorem dX9_breaks_182 : decode cX9_breaks 182 = .ok (.iload_n 3, 1) := by decide +kernel
theorem dX9_breaks_183 : decode cX9_breaks 183 = .ok (.iadd, 1) := by decide +kernel
theorem dX9_breaks_184 : decode cX9_breaks 184 = .ok (.bipush 16, 2) := by decide +kernel
theorem dX9_breaks_186 : decode cX9_breaks 186 = .ok (.if_icmp .le 6, 3) := by decide +kernel
theorem dX9_breaks_189 : decode cX9_breaks 189 = .ok (.ldc 71, 2) := by decide +kernel
theorem dX9_breaks_191 : decode cX9_breaks 191 = .ok (.ireturn, 1) := by decide +kernel
theorem dX9_breaks_192 : decode cX9_breaks 192 = .ok (.aload_n 0, 1) := by decide +kernel
theorem dX9_breaks_193 : decode cX9_breaks 193 = .ok (.getfield 59, 3) := by decide +kernel
theorem dX9_breaks_196 : decode cX9_breaks 196 = .ok (.istore 6, 2) := by decide +kernel
theorem dX9_breaks_198 : decode cX9_breaks 198 = .ok (.iconst 0, 1) := by decide +kernel
theorem dX9_breaks_199 : decode cX9_breaks 199 = .ok (.istore 7, 2) := by decide +kernel
theorem dX9_breaks_201 : decode cX9_breaks 201 = .ok (.iload 7, 2) := by decide +kernel
theorem dX9_breaks_203 : decode cX9_breaks 203 = .ok (.iload_n 3, 1) := by decide +kernel
theorem dX9_breaks_204 : decode cX9_breaks 204 = .ok (.if_icmp .ge 107, 3) := by decide +kernel
theorem dX9_breaks_207 : decode cX9_breaks 207 = .ok (.aload_n 0, 1) := by decide +kernel
theorem dX9_breaks_208 : decode cX9_breaks 208 = .ok (.iload_n 2, 1) := by decide +kernel
theorem dX9_breaks_209 : decode cX9_breaks 209 = .ok (.aload_n 0, 1) := by decide +kernel
theorem dX9_breaks_210 : decode cX9_breaks 210 = .ok (.getfield 16, 3) := by decide +kernel
theorem dX9_breaks_213 : decode cX9_breaks 213 = .ok (.iload_n 1, 1) := by decide +kernel
theorem dX9_breaks_214 : decode cX9_breaks 214 = .ok (.iaload, 1) := by decide +kernel
theorem dX9_breaks_215 : decode cX9_breaks 215 = .ok (.invokevirtual 72, 3) := by decide +kernel
theorem dX9_breaks_218 : decode cX9_breaks 218 = .ok (.istore 8, 2) := by decide +kernel
theorem dX9_breaks_220 : decode cX9_breaks 220 = .ok (.iconst 0, 1) := by decide +kernel
theorem dX9_breaks_221 : decode cX9_breaks 221 = .ok (.istore 9, 2) := by decide +kernel
theorem dX9_breaks_223 : decode cX9_breaks 223 = .ok (.iload 9, 2) := by decide +kernel
theorem dX9_breaks_225 : decode cX9_breaks 225 = .ok (.iload 4, 2) := by decide +kernel
theorem dX9_breaks_227 : decode cX9_breaks 227 = .ok (.if_icmp .ge 69, 3) := by decide +kernel
theorem dX9_breaks_230 : decode cX9_breaks 230 = .ok (.aload_n 0, 1) := by decide +kernel
theorem dX9_breaks_231 : decode cX9_breaks 231 = .ok (.iload 8, 2) := by decide +kernel
theorem dX9_breaks_233 : decode cX9_breaks 233 = .ok (.iload 9, 2) := by decide +kernel
theorem dX9_breaks_235 : decode cX9_breaks 235 = .ok (.aload_n 0, 1) := by decide +kernel
theorem dX9_breaks_236 : decode cX9_breaks 236 = .ok (.iload_n 1, 1) := by decide +kernel
theorem dX9_breaks_237 : decode cX9_breaks 237 = .ok (.iload_n 2, 1) := by decide +kernel
theorem dX9_breaks_238 : decode cX9_breaks 238 = .ok (.iload 9, 2) := by decide +kernel
theorem dX9_breaks_240 : decode cX9_breaks 240 = .ok (.iadd, 1) := by decide +kernel
theorem dX9_breaks_241 : decode cX9_breaks 241 = .ok (.iconst 0, 1) := by decide +kernel
theorem dX9_breaks_242 : decode cX9_breaks 242 = .ok (.invokevirtual 94, 3) := by decide +kernel
theorem dX9_breaks_245 : decode cX9_breaks 245 = .ok (.iload 9, 2) := by decide +kernel
theorem dX9_breaks_247 : decode cX9_breaks 247 = .ok (.iload 7, 2) := by decide +kernel
theorem dX9_breaks_249 : decode cX9_breaks 249 = .ok (.iload_n 3, 1) := by decide +kernel
theorem dX9_breaks_250 : decode cX9_breaks 250 = .ok (.iconst 2, 1) := by decide +kernel
theorem dX9_breaks_251 : decode cX9_breaks 251 = .ok (.idiv, 1) := by decide +kernel
theorem dX9_breaks_252 : decode cX9_breaks 252 = .ok (.isub, 1) := by decide +kernel
theorem dX9_breaks_253 : decode cX9_breaks 253 = .ok (.imul, 1) := by decide +kernel
theorem dX9_breaks_254 : decode cX9_breaks 254 = .ok (.iadd, 1) := by decide +kernel
theorem dX9_breaks_255 : decode cX9_breaks 255 = .ok (.aload_n 0, 1) := by decide +kernel
theorem dX9_breaks_256 : decode cX9_breaks 256 = .ok (.iload_n 1, 1) := by decide +kernel
theorem dX9_breaks_257 : decode cX9_breaks 257 = .ok (.iload_n 2, 1) := by decide +kernel
theorem dX9_breaks_258 : decode cX9_breaks 258 = .ok (.iload 9, 2) := by decide +kernel
theorem dX9_breaks_260 : decode cX9_breaks 260 = .ok (.iadd, 1) := by decide +kernel
theorem dX9_breaks_261 : decode cX9_breaks 261 = .ok (.iconst 1, 1) := by decide +kernel
theorem dX9_breaks_262 : decode cX9_breaks 262 = .ok (.invokevirtual 94, 3) := by decide +kernel
theorem dX9_breaks_265 : decode cX9_breaks 265 = .ok (.iload 9, 2) := by decide +kernel
theorem dX9_breaks_267 : decode cX9_breaks 267 = .ok (.iload 7, 2) := by decide +kernel
theorem dX9_breaks_269 : decode cX9_breaks 269 = .ok (.iconst 2, 1) := by decide +kernel
theorem dX9_breaks_270 : decode cX9_breaks 270 = .ok (.irem, 1) := by decide +kernel
theorem dX9_breaks_271 : decode cX9_breaks 271 = .ok (.iconst 2, 1) := by decide +kernel
theorem dX9_breaks_272 : decode cX9_breaks 272 = .ok (.imul, 1) := by decide +kernel
theorem dX9_breaks_273 : decode cX9_breaks 273 = .ok (.iconst 1, 1) := by decide +kernel
theorem dX9_breaks_274 : decode cX9_breaks 274 = .ok (.isub, 1) := by decide +kernel
theorem dX9_breaks_275 : decode cX9_breaks 275 = .ok (.imul, 1) := by decide +kernel
theorem dX9_breaks_276 : decode cX9_breaks 276 = .ok (.iadd, 1) := by decide +kernel
theorem dX9_breaks_277 : decode cX9_breaks 277 = .ok (.aload_n 0, 1) := by decide +kernel
theorem dX9_breaks_278 : decode cX9_breaks 278 = .ok (.iload_n 1, 1) := by decide +kernel
theorem dX9_breaks_279 : decode cX9_breaks 279 = .ok (.iload_n 2, 1) := by decide +kernel
theorem dX9_breaks_280 : decode cX9_breaks 280 = .ok (.iload 9, 2) := by decide +kernel
theorem dX9_breaks_282 : decode cX9_breaks 282 = .ok (.iadd, 1) := by decide +kernel
theorem dX9_breaks_283 : decode cX9_breaks 283 = .ok (.iconst 2, 1) := by decide +kernel
theorem dX9_breaks_284 : decode cX9_breaks 284 = .ok (.invokevirtual 94, 3) := by decide +kernel
theorem dX9_breaks_287 : decode cX9_breaks 287 = .ok (.invokevirtual 76, 3) := by decide +kernel
theorem dX9_breaks_290 : decode cX9_breaks 290 = .ok (.iinc 9 1, 3) := by decide +kernel
theorem dX9_breaks_293 : decode cX9_breaks 293 = .ok (.goto (-70), 3) := by decide +kernel
theorem dX9_breaks_296 : decode cX9_breaks 296 = .ok (.aload_n 0, 1) := by decide +kernel
theorem dX9_breaks_297 : decode cX9_breaks 297 = .ok (.getfield 13, 3) := by decide +kernel
theorem dX9_breaks_300 : decode cX9_breaks 300 = .ok (.iload 8, 2) := by decide +kernel
theorem dX9_breaks_302 : decode cX9_breaks 302 = .ok (.iload 4, 2) := by decide +kernel
theorem dX9_breaks_304 : decode cX9_breaks 304 = .ok (.iastore, 1) := by decide +kernel
theorem dX9_breaks_305 : decode cX9_breaks 305 = .ok (.iinc 7 1, 3) := by decide +kernel
theorem dX9_breaks_308 : decode cX9_breaks 308 = .ok (.goto (-107), 3) := by decide +kernel
theorem dX9_breaks_311 : decode cX9_breaks 311 = .ok (.aload_n 0, 1) := by decide +kernel
theorem dX9_breaks_312 : decode cX9_breaks 312 = .ok (.getfield 19, 3) := by decide +kernel
theorem dX9_breaks_315 : decode cX9_breaks 315 = .ok (.iload_n 1, 1) := by decide +kernel
theorem dX9_breaks_316 : decode cX9_breaks 316 = .ok (.iconst 1, 1) := by decide +kernel
theorem dX9_breaks_317 : decode cX9_breaks 317 = .ok (.bastore, 1) := by decide +kernel
theorem dX9_breaks_318 : decode cX9_breaks 318 = .ok (.iload 6, 2) := by decide +kernel
theorem dX9_breaks_320 : decode cX9_breaks 320 = .ok (.ireturn, 1) := by decide +kernel
theorem dX9_rule_0 : decode cX9_rule 0 = .ok (.iload_n 1, 1) := by decide +kernel
theorem dX9_rule_1 : decode cX9_rule 1 = .ok (.i2l, 1) := by decide +kernel
theorem dX9_rule_2 : decode cX9_rule 2 = .ok (.lconst 0, 1) := by decide +kernel
theorem dX9_rule_3 : decode cX9_rule 3 = .ok (.lconst 1, 1) := by decide +kernel
theorem dX9_rule_4 : decode cX9_rule 4 = .ok (.invokestatic 55, 3) := by decide +kernel
theorem dX9_rule_7 : decode cX9_rule 7 = .ok (.ifCond .eq 33, 3) := by decide +kernel
theorem dX9_rule_10 : decode cX9_rule 10 = .ok (.iload_n 2, 1) := by decide +kernel
theorem dX9_rule_11 : decode cX9_rule 11 = .ok (.i2l, 1) := by decide +kernel
theorem dX9_rule_12 : decode cX9_rule 12 = .ok (.iload_n 1, 1) := by decide +kernel
theorem dX9_rule_13 : decode cX9_rule 13 = .ok (.ifCond .ne 7, 3) := by decide +kernel
theorem dX9_rule_16 : decode cX9_rule 16 = .ok (.lconst 1, 1) := by decide +kernel
theorem dX9_rule_17 : decode cX9_rule 17 = .ok (.goto 4, 3) := by decide +kernel
theorem dX9_rule_20 : decode cX9_rule 20 = .ok (.lconst 0, 1) := by decide +kernel
theorem dX9_rule_21 : decode cX9_rule 21 = .ok (.iload_n 1, 1) := by decide +kernel
theorem dX9_rule_22 : decode cX9_rule 22 = .ok (.ifCond .ne 9, 3) := by decide +kernel
theorem dX9_rule_25 : decode cX9_rule 25 = .ok (.ldc2_w 98, 3) := by decide +kernel
theorem dX9_rule_28 : decode cX9_rule 28 = .ok (.goto 6, 3) := by decide +kernel
theorem dX9_rule_31 : decode cX9_rule 31 = .ok (.ldc2_w 100, 3) := by decide +kernel
theorem dX9_rule_34 : decode cX9_rule 34 = .ok (.invokestatic 55, 3) := by decide +kernel
theorem dX9_rule_37 : decode cX9_rule 37 = .ok (.ifCond .ne 6, 3) := by decide +kernel
theorem dX9_rule_40 : decode cX9_rule 40 = .ok (.ldc 70, 2) := by decide +kernel
theorem dX9_rule_42 : decode cX9_rule 42 = .ok (.ireturn, 1) := by decide +kernel
theorem dX9_rule_43 : decode cX9_rule 43 = .ok (.iload_n 1, 1) := by decide +kernel
theorem dX9_rule_44 : decode cX9_rule 44 = .ok (.ifCond .ne 10, 3) := by decide +kernel
theorem dX9_rule_47 : decode cX9_rule 47 = .ok (.aload_n 0, 1) := by decide +kernel
theorem dX9_rule_48 : decode cX9_rule 48 = .ok (.getfield 26, 3) := by decide +kernel
theorem dX9_rule_51 : decode cX9_rule 51 = .ok (.goto 7, 3) := by decide +kernel
theorem dX9_rule_54 : decode cX9_rule 54 = .ok (.aload_n 0, 1) := by decide +kernel
theorem dX9_rule_55 : decode cX9_rule 55 = .ok (.getfield 30, 3) := by decide +kernel
theorem dX9_rule_58 : decode cX9_rule 58 = .ok (.istore_n 3, 1) := by decide +kernel
theorem dX9_rule_59 : decode cX9_rule 59 = .ok (.aload_n 0, 1) := by decide +kernel
theorem dX9_rule_60 : decode cX9_rule 60 = .ok (.iload_n 1, 1) := by decide +kernel
theorem dX9_rule_61 : decode cX9_rule 61 = .ok (.ifCond .ne 7, 3) := by decide +kernel
theorem dX9_rule_64 : decode cX9_rule 64 = .ok (.iload_n 2, 1) := by decide +kernel
theorem dX9_rule_65 : decode cX9_rule 65 = .ok (.goto 7, 3) := by decide +kernel
theorem dX9_rule_68 : decode cX9_rule 68 = .ok (.aload_n 0, 1) := by decide +kernel
theorem dX9_rule_69 : decode cX9_rule 69 = .ok (.getfield 26, 3) := by decide +kernel
theorem dX9_rule_72 : decode cX9_rule 72 = .ok (.putfield 26, 3) := by decide +kernel
theorem dX9_rule_75 : decode cX9_rule 75 = .ok (.aload_n 0, 1) := by decide +kernel
theorem dX9_rule_76 : decode cX9_rule 76 = .ok (.iload_n 1, 1) := by decide +kernel
theorem dX9_rule_77 : decode cX9_rule 77 = .ok (.iconst 1, 1) := by decide +kernel
theorem dX9_rule_78 : decode cX9_rule 78 = .ok (.if_icmp .ne 7, 3) := by decide +kernel
theorem dX9_rule_81 : decode cX9_rule 81 = .ok (.iload_n 2, 1) := by decide +kernel
theorem dX9_rule_82 : decode cX9_rule 82 = .ok (.goto 7, 3) := by decide +kernel
theorem dX9_rule_85 : decode cX9_rule 85 = .ok (.aload_n 0, 1) := by decide +kernel
theorem dX9_rule_86 : decode cX9_rule 86 = .ok (.getfield 30, 3) := by decide +kernel
theorem dX9_rule_89 : decode cX9_rule 89 = .ok (.putfield 30, 3) := by decide +kernel
theorem dX9_rule_92 : decode cX9_rule 92 = .ok (.iload_n 3, 1) := by decide +kernel
theorem dX9_rule_93 : decode cX9_rule 93 = .ok (.ireturn, 1) := by decide +kernel
theorem dX9_told_0 : decode cX9_told 0 = .ok (.aload_n 0, 1) := by decide +kernel
theorem dX9_told_1 : decode cX9_told 1 = .ok (.iload_n 1, 1) := by decide +kernel
theorem dX9_told_2 : decode cX9_told 2 = .ok (.invokevirtual 80, 3) := by decide +kernel
theorem dX9_told_5 : decode cX9_told 5 = .ok (.ifCond .ne 6, 3) := by decide +kernel
theorem dX9_told_8 : decode cX9_told 8 = .ok (.ldc 84, 2) := by decide +kernel
theorem dX9_told_10 : decode cX9_told 10 = .ok (.ireturn, 1) := by decide +kernel
theorem dX9_told_11 : decode cX9_told 11 = .ok (.iload_n 2, 1) := by decide +kernel
theorem dX9_told_12 : decode cX9_told 12 = .ok (.tableswitch 78 0 4 #[36, 43, 50, 57, 72], 36) := by decide +kernel
theorem dX9_told_48 : decode cX9_told 48 = .ok (.aload_n 0, 1) := by decide +kernel
theorem dX9_told_49 : decode cX9_told 49 = .ok (.getfield 7, 3) := by decide +kernel
theorem dX9_told_52 : decode cX9_told 52 = .ok (.iload_n 1, 1) := by decide +kernel
theorem dX9_told_53 : decode cX9_told 53 = .ok (.iaload, 1) := by decide +kernel
theorem dX9_told_54 : decode cX9_told 54 = .ok (.ireturn, 1) := by decide +kernel
theorem dX9_told_55 : decode cX9_told 55 = .ok (.aload_n 0, 1) := by decide +kernel
theorem dX9_told_56 : decode cX9_told 56 = .ok (.getfield 13, 3) := by decide +kernel
theorem dX9_told_59 : decode cX9_told 59 = .ok (.iload_n 1, 1) := by decide +kernel
theorem dX9_told_60 : decode cX9_told 60 = .ok (.iaload, 1) := by decide +kernel
theorem dX9_told_61 : decode cX9_told 61 = .ok (.ireturn, 1) := by decide +kernel
theorem dX9_told_62 : decode cX9_told 62 = .ok (.aload_n 0, 1) := by decide +kernel
theorem dX9_told_63 : decode cX9_told 63 = .ok (.getfield 16, 3) := by decide +kernel
theorem dX9_told_66 : decode cX9_told 66 = .ok (.iload_n 1, 1) := by decide +kernel
theorem dX9_told_67 : decode cX9_told 67 = .ok (.iaload, 1) := by decide +kernel
theorem dX9_told_68 : decode cX9_told 68 = .ok (.ireturn, 1) := by decide +kernel
theorem dX9_told_69 : decode cX9_told 69 = .ok (.aload_n 0, 1) := by decide +kernel
theorem dX9_told_70 : decode cX9_told 70 = .ok (.getfield 19, 3) := by decide +kernel
theorem dX9_told_73 : decode cX9_told 73 = .ok (.iload_n 1, 1) := by decide +kernel
theorem dX9_told_74 : decode cX9_told 74 = .ok (.baload, 1) := by decide +kernel
theorem dX9_told_75 : decode cX9_told 75 = .ok (.ifCond .eq 7, 3) := by decide +kernel
theorem dX9_told_78 : decode cX9_told 78 = .ok (.iconst 1, 1) := by decide +kernel
theorem dX9_told_79 : decode cX9_told 79 = .ok (.goto 4, 3) := by decide +kernel
theorem dX9_told_82 : decode cX9_told 82 = .ok (.iconst 0, 1) := by decide +kernel
theorem dX9_told_83 : decode cX9_told 83 = .ok (.ireturn, 1) := by decide +kernel
theorem dX9_told_84 : decode cX9_told 84 = .ok (.aload_n 0, 1) := by decide +kernel
theorem dX9_told_85 : decode cX9_told 85 = .ok (.iload_n 1, 1) := by decide +kernel
theorem dX9_told_86 : decode cX9_told 86 = .ok (.invokevirtual 102, 3) := by decide +kernel
theorem dX9_told_89 : decode cX9_told 89 = .ok (.ireturn, 1) := by decide +kernel
theorem dX9_told_90 : decode cX9_told 90 = .ok (.ldc 70, 2) := by decide +kernel
theorem dX9_told_92 : decode cX9_told 92 = .ok (.ireturn, 1) := by decide +kernel
theorem dX9_at_0 : decode cX9_at 0 = .ok (.aload_n 0, 1) := by decide +kernel
theorem dX9_at_1 : decode cX9_at 1 = .ok (.iload_n 1, 1) := by decide +kernel
theorem dX9_at_2 : decode cX9_at 2 = .ok (.invokevirtual 80, 3) := by decide +kernel
theorem dX9_at_5 : decode cX9_at 5 = .ok (.ifCond .ne 6, 3) := by decide +kernel
theorem dX9_at_8 : decode cX9_at 8 = .ok (.ldc 84, 2) := by decide +kernel
theorem dX9_at_10 : decode cX9_at 10 = .ok (.ireturn, 1) := by decide +kernel
theorem dX9_at_11 : decode cX9_at 11 = .ok (.iload_n 2, 1) := by decide +kernel
theorem dX9_at_12 : decode cX9_at 12 = .ok (.i2l, 1) := by decide +kernel
theorem dX9_at_13 : decode cX9_at 13 = .ok (.lconst 0, 1) := by decide +kernel
theorem dX9_at_14 : decode cX9_at 14 = .ok (.ldc2_w 62, 3) := by decide +kernel
theorem dX9_at_17 : decode cX9_at 17 = .ok (.invokestatic 55, 3) := by decide +kernel
theorem dX9_at_20 : decode cX9_at 20 = .ok (.ifCond .eq 15, 3) := by decide +kernel
theorem dX9_at_23 : decode cX9_at 23 = .ok (.iload_n 3, 1) := by decide +kernel
theorem dX9_at_24 : decode cX9_at 24 = .ok (.i2l, 1) := by decide +kernel
theorem dX9_at_25 : decode cX9_at 25 = .ok (.lconst 0, 1) := by decide +kernel
theorem dX9_at_26 : decode cX9_at 26 = .ok (.ldc2_w 86, 3) := by decide +kernel
theorem dX9_at_29 : decode cX9_at 29 = .ok (.invokestatic 55, 3) := by decide +kernel
theorem dX9_at_32 : decode cX9_at 32 = .ok (.ifCond .ne 6, 3) := by decide +kernel
theorem dX9_at_35 : decode cX9_at 35 = .ok (.ldc 70, 2) := by decide +kernel
theorem dX9_at_37 : decode cX9_at 37 = .ok (.ireturn, 1) := by decide +kernel
theorem dX9_at_38 : decode cX9_at 38 = .ok (.aload_n 0, 1) := by decide +kernel
theorem dX9_at_39 : decode cX9_at 39 = .ok (.iload_n 1, 1) := by decide +kernel
theorem dX9_at_40 : decode cX9_at 40 = .ok (.iload_n 2, 1) := by decide +kernel
theorem dX9_at_41 : decode cX9_at 41 = .ok (.invokevirtual 90, 3) := by decide +kernel
theorem dX9_at_44 : decode cX9_at 44 = .ok (.ifCond .eq 13, 3) := by decide +kernel
theorem dX9_at_47 : decode cX9_at 47 = .ok (.aload_n 0, 1) := by decide +kernel
theorem dX9_at_48 : decode cX9_at 48 = .ok (.iload_n 1, 1) := by decide +kernel
theorem dX9_at_49 : decode cX9_at 49 = .ok (.iload_n 2, 1) := by decide +kernel
theorem dX9_at_50 : decode cX9_at 50 = .ok (.iload_n 3, 1) := by decide +kernel
theorem dX9_at_51 : decode cX9_at 51 = .ok (.invokevirtual 94, 3) := by decide +kernel
theorem dX9_at_54 : decode cX9_at 54 = .ok (.goto 5, 3) := by decide +kernel
theorem dX9_at_57 : decode cX9_at 57 = .ok (.ldc 85, 2) := by decide +kernel
theorem dX9_at_59 : decode cX9_at 59 = .ok (.ireturn, 1) := by decide +kernel
theorem dX9_count_0 : decode cX9_count 0 = .ok (.iconst 0, 1) := by decide +kernel
theorem dX9_count_1 : decode cX9_count 1 = .ok (.istore_n 2, 1) := by decide +kernel
theorem dX9_count_2 : decode cX9_count 2 = .ok (.iconst 0, 1) := by decide +kernel
theorem dX9_count_3 : decode cX9_count 3 = .ok (.istore_n 3, 1) := by decide +kernel
theorem dX9_count_4 : decode cX9_count 4 = .ok (.iload_n 3, 1) := by decide +kernel
theorem dX9_count_5 : decode cX9_count 5 = .ok (.aload_n 0, 1) := by decide +kernel
theorem dX9_count_6 : decode cX9_count 6 = .ok (.getfield 59, 3) := by decide +kernel
theorem dX9_count_9 : decode cX9_count 9 = .ok (.if_icmp .ge 74, 3) := by decide +kernel
theorem dX9_count_12 : decode cX9_count 12 = .ok (.iload_n 2, 1) := by decide +kernel
theorem dX9_count_13 : decode cX9_count 13 = .ok (.iload_n 1, 1) := by decide +kernel
theorem dX9_count_14 : decode cX9_count 14 = .ok (.iconst 1, 1) := by decide +kernel
theorem dX9_count_15 : decode cX9_count 15 = .ok (.if_icmp .ne 16, 3) := by decide +kernel
theorem dX9_count_18 : decode cX9_count 18 = .ok (.aload_n 0, 1) := by decide +kernel
theorem dX9_count_19 : decode cX9_count 19 = .ok (.getfield 19, 3) := by decide +kernel
theorem dX9_count_22 : decode cX9_count 22 = .ok (.iload_n 3, 1) := by decide +kernel
theorem dX9_count_23 : decode cX9_count 23 = .ok (.baload, 1) := by decide +kernel
theorem dX9_count_24 : decode cX9_count 24 = .ok (.ifCond .ne 7, 3) := by decide +kernel
theorem dX9_count_27 : decode cX9_count 27 = .ok (.iconst 1, 1) := by decide +kernel
theorem dX9_count_28 : decode cX9_count 28 = .ok (.goto 4, 3) := by decide +kernel
theorem dX9_count_31 : decode cX9_count 31 = .ok (.iconst 0, 1) := by decide +kernel
theorem dX9_count_32 : decode cX9_count 32 = .ok (.iadd, 1) := by decide +kernel
theorem dX9_count_33 : decode cX9_count 33 = .ok (.istore_n 2, 1) := by decide +kernel
theorem dX9_count_34 : decode cX9_count 34 = .ok (.iload_n 3, 1) := by decide +kernel
theorem dX9_count_35 : decode cX9_count 35 = .ok (.iconst 1, 1) := by decide +kernel
theorem dX9_count_36 : decode cX9_count 36 = .ok (.iadd, 1) := by decide +kernel
theorem dX9_count_37 : decode cX9_count 37 = .ok (.istore 4, 2) := by decide +kernel
theorem dX9_count_39 : decode cX9_count 39 = .ok (.iload 4, 2) := by decide +kernel
theorem dX9_count_41 : decode cX9_count 41 = .ok (.aload_n 0, 1) := by decide +kernel
theorem dX9_count_42 : decode cX9_count 42 = .ok (.getfield 59, 3) := by decide +kernel
theorem dX9_count_45 : decode cX9_count 45 = .ok (.if_icmp .ge 32, 3) := by decide +kernel
theorem dX9_count_48 : decode cX9_count 48 = .ok (.iload_n 1, 1) := by decide +kernel
theorem dX9_count_49 : decode cX9_count 49 = .ok (.iconst 2, 1) := by decide +kernel
theorem dX9_count_50 : decode cX9_count 50 = .ok (.if_icmp .ne 27, 3) := by decide +kernel
theorem dX9_count_53 : decode cX9_count 53 = .ok (.iload_n 2, 1) := by decide +kernel
theorem dX9_count_54 : decode cX9_count 54 = .ok (.aload_n 0, 1) := by decide +kernel
theorem dX9_count_55 : decode cX9_count 55 = .ok (.iload_n 3, 1) := by decide +kernel
theorem dX9_count_56 : decode cX9_count 56 = .ok (.iload 4, 2) := by decide +kernel
theorem dX9_count_58 : decode cX9_count 58 = .ok (.invokevirtual 106, 3) := by decide +kernel
theorem dX9_count_61 : decode cX9_count 61 = .ok (.ifCond .eq 7, 3) := by decide +kernel
theorem dX9_count_64 : decode cX9_count 64 = .ok (.iconst 1, 1) := by decide +kernel
theorem dX9_count_65 : decode cX9_count 65 = .ok (.goto 4, 3) := by decide +kernel
theorem dX9_count_68 : decode cX9_count 68 = .ok (.iconst 0, 1) := by decide +kernel
theorem dX9_count_69 : decode cX9_count 69 = .ok (.iadd, 1) := by decide +kernel
theorem dX9_count_70 : decode cX9_count 70 = .ok (.istore_n 2, 1) := by decide +kernel
