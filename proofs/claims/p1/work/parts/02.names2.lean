theorem dX8_findDot_31 : decode cX8_findDot 31 = .ok (.areturn, 1) := by decide +kernel
theorem dX8_countDotsOf_0 : decode cX8_countDotsOf 0 = .ok (.iconst 0, 1) := by decide +kernel
theorem dX8_countDotsOf_1 : decode cX8_countDotsOf 1 = .ok (.istore_n 3, 1) := by decide +kernel
theorem dX8_countDotsOf_2 : decode cX8_countDotsOf 2 = .ok (.iconst 0, 1) := by decide +kernel
theorem dX8_countDotsOf_3 : decode cX8_countDotsOf 3 = .ok (.istore 4, 2) := by decide +kernel
theorem dX8_countDotsOf_5 : decode cX8_countDotsOf 5 = .ok (.iload 4, 2) := by decide +kernel
theorem dX8_countDotsOf_7 : decode cX8_countDotsOf 7 = .ok (.aload_n 0, 1) := by decide +kernel
theorem dX8_countDotsOf_8 : decode cX8_countDotsOf 8 = .ok (.getfield 158, 3) := by decide +kernel
theorem dX8_countDotsOf_11 : decode cX8_countDotsOf 11 = .ok (.if_icmp .ge 42, 3) := by decide +kernel
theorem dX8_countDotsOf_53 : decode cX8_countDotsOf 53 = .ok (.iload_n 3, 1) := by decide +kernel
theorem dX8_countDotsOf_54 : decode cX8_countDotsOf 54 = .ok (.ireturn, 1) := by decide +kernel
theorem dX8_findNotice_0 : decode cX8_findNotice 0 = .ok (.iload_n 1, 1) := by decide +kernel
theorem dX8_findNotice_1 : decode cX8_findNotice 1 = .ok (.ifCond .lt 29, 3) := by decide +kernel
theorem dX8_findNotice_4 : decode cX8_findNotice 4 = .ok (.iload_n 1, 1) := by decide +kernel
theorem dX8_findNotice_5 : decode cX8_findNotice 5 = .ok (.aload_n 0, 1) := by decide +kernel
theorem dX8_findNotice_6 : decode cX8_findNotice 6 = .ok (.getfield 164, 3) := by decide +kernel
theorem dX8_findNotice_9 : decode cX8_findNotice 9 = .ok (.if_icmp .ge 21, 3) := by decide +kernel
theorem dX8_findNotice_30 : decode cX8_findNotice 30 = .ok (.aconst_null, 1) := by decide +kernel
theorem dX8_findNotice_31 : decode cX8_findNotice 31 = .ok (.areturn, 1) := by decide +kernel
theorem dX8_countHolding_0 : decode cX8_countHolding 0 = .ok (.iconst 0, 1) := by decide +kernel
theorem dX8_countHolding_1 : decode cX8_countHolding 1 = .ok (.istore_n 1, 1) := by decide +kernel
theorem dX8_countHolding_2 : decode cX8_countHolding 2 = .ok (.iconst 0, 1) := by decide +kernel
theorem dX8_countHolding_3 : decode cX8_countHolding 3 = .ok (.istore_n 2, 1) := by decide +kernel
theorem dX8_countHolding_4 : decode cX8_countHolding 4 = .ok (.iload_n 2, 1) := by decide +kernel
theorem dX8_countHolding_5 : decode cX8_countHolding 5 = .ok (.aload_n 0, 1) := by decide +kernel
theorem dX8_countHolding_6 : decode cX8_countHolding 6 = .ok (.getfield 164, 3) := by decide +kernel
theorem dX8_countHolding_9 : decode cX8_countHolding 9 = .ok (.if_icmp .ge 29, 3) := by decide +kernel
theorem dX8_countHolding_38 : decode cX8_countHolding 38 = .ok (.iload_n 1, 1) := by decide +kernel
theorem dX8_countHolding_39 : decode cX8_countHolding 39 = .ok (.ireturn, 1) := by decide +kernel
theorem dX8_findShelf_0 : decode cX8_findShelf 0 = .ok (.iload_n 1, 1) := by decide +kernel
theorem dX8_findShelf_1 : decode cX8_findShelf 1 = .ok (.lookupswitch 37 #[(0, 27), (1, 32)], 27) := by decide +kernel
theorem dX8_findShelf_28 : decode cX8_findShelf 28 = .ok (.aload_n 0, 1) := by decide +kernel
theorem dX8_findShelf_29 : decode cX8_findShelf 29 = .ok (.getfield 16, 3) := by decide +kernel
theorem dX8_findShelf_32 : decode cX8_findShelf 32 = .ok (.areturn, 1) := by decide +kernel
theorem dX8_findShelf_33 : decode cX8_findShelf 33 = .ok (.aload_n 0, 1) := by decide +kernel
theorem dX8_findShelf_34 : decode cX8_findShelf 34 = .ok (.getfield 19, 3) := by decide +kernel
theorem dX8_findShelf_37 : decode cX8_findShelf 37 = .ok (.areturn, 1) := by decide +kernel
theorem dX8_findShelf_38 : decode cX8_findShelf 38 = .ok (.aconst_null, 1) := by decide +kernel
theorem dX8_findShelf_39 : decode cX8_findShelf 39 = .ok (.areturn, 1) := by decide +kernel
theorem dX9_init_0 : decode cX9_init 0 = .ok (.aload_n 0, 1) := by decide +kernel
theorem dX9_init_1 : decode cX9_init 1 = .ok (.invokespecial 1, 3) := by decide +kernel
theorem dX9_init_4 : decode cX9_init 4 = .ok (.aload_n 0, 1) := by decide +kernel
theorem dX9_init_5 : decode cX9_init 5 = .ok (.bipush 16, 2) := by decide +kernel
theorem dX9_init_7 : decode cX9_init 7 = .ok (.newarray .int, 2) := by decide +kernel
theorem dX9_init_9 : decode cX9_init 9 = .ok (.putfield 7, 3) := by decide +kernel
theorem dX9_init_12 : decode cX9_init 12 = .ok (.aload_n 0, 1) := by decide +kernel
theorem dX9_init_13 : decode cX9_init 13 = .ok (.bipush 16, 2) := by decide +kernel
theorem dX9_init_15 : decode cX9_init 15 = .ok (.newarray .int, 2) := by decide +kernel
theorem dX9_init_17 : decode cX9_init 17 = .ok (.putfield 13, 3) := by decide +kernel
theorem dX9_init_20 : decode cX9_init 20 = .ok (.aload_n 0, 1) := by decide +kernel
theorem dX9_init_21 : decode cX9_init 21 = .ok (.bipush 16, 2) := by decide +kernel
theorem dX9_init_23 : decode cX9_init 23 = .ok (.newarray .int, 2) := by decide +kernel
theorem dX9_init_25 : decode cX9_init 25 = .ok (.putfield 16, 3) := by decide +kernel
theorem dX9_init_28 : decode cX9_init 28 = .ok (.aload_n 0, 1) := by decide +kernel
theorem dX9_init_29 : decode cX9_init 29 = .ok (.bipush 16, 2) := by decide +kernel
theorem dX9_init_31 : decode cX9_init 31 = .ok (.newarray .boolean, 2) := by decide +kernel
theorem dX9_init_33 : decode cX9_init 33 = .ok (.putfield 19, 3) := by decide +kernel
theorem dX9_init_36 : decode cX9_init 36 = .ok (.aload_n 0, 1) := by decide +kernel
theorem dX9_init_37 : decode cX9_init 37 = .ok (.sipush 576, 3) := by decide +kernel
theorem dX9_init_40 : decode cX9_init 40 = .ok (.newarray .int, 2) := by decide +kernel
theorem dX9_init_42 : decode cX9_init 42 = .ok (.putfield 23, 3) := by decide +kernel
theorem dX9_init_45 : decode cX9_init 45 = .ok (.aload_n 0, 1) := by decide +kernel
theorem dX9_init_46 : decode cX9_init 46 = .ok (.bipush 50, 2) := by decide +kernel
theorem dX9_init_48 : decode cX9_init 48 = .ok (.putfield 26, 3) := by decide +kernel
theorem dX9_init_51 : decode cX9_init 51 = .ok (.aload_n 0, 1) := by decide +kernel
theorem dX9_init_52 : decode cX9_init 52 = .ok (.bipush 20, 2) := by decide +kernel
theorem dX9_init_54 : decode cX9_init 54 = .ok (.putfield 30, 3) := by decide +kernel
theorem dX9_init_57 : decode cX9_init 57 = .ok (.aload_n 0, 1) := by decide +kernel
theorem dX9_init_58 : decode cX9_init 58 = .ok (.bipush 40, 2) := by decide +kernel
theorem dX9_init_60 : decode cX9_init 60 = .ok (.newarray .int, 2) := by decide +kernel
theorem dX9_init_62 : decode cX9_init 62 = .ok (.putfield 33, 3) := by decide +kernel
theorem dX9_init_65 : decode cX9_init 65 = .ok (.aload_n 0, 1) := by decide +kernel
theorem dX9_init_66 : decode cX9_init 66 = .ok (.bipush 120, 2) := by decide +kernel
theorem dX9_init_68 : decode cX9_init 68 = .ok (.newarray .int, 2) := by decide +kernel
theorem dX9_init_70 : decode cX9_init 70 = .ok (.putfield 36, 3) := by decide +kernel
theorem dX9_init_73 : decode cX9_init 73 = .ok (.aload_n 0, 1) := by decide +kernel
theorem dX9_init_74 : decode cX9_init 74 = .ok (.sipush 320, 3) := by decide +kernel
theorem dX9_init_77 : decode cX9_init 77 = .ok (.newarray .int, 2) := by decide +kernel
theorem dX9_init_79 : decode cX9_init 79 = .ok (.putfield 39, 3) := by decide +kernel
theorem dX9_init_82 : decode cX9_init 82 = .ok (.aload_n 0, 1) := by decide +kernel
theorem dX9_init_83 : decode cX9_init 83 = .ok (.iconst 2, 1) := by decide +kernel
theorem dX9_init_84 : decode cX9_init 84 = .ok (.newarray .int, 2) := by decide +kernel
theorem dX9_init_86 : decode cX9_init 86 = .ok (.putfield 42, 3) := by decide +kernel
theorem dX9_init_89 : decode cX9_init 89 = .ok (.aload_n 0, 1) := by decide +kernel
theorem dX9_init_90 : decode cX9_init 90 = .ok (.sipush 1280, 3) := by decide +kernel
theorem dX9_init_93 : decode cX9_init 93 = .ok (.newarray .int, 2) := by decide +kernel
theorem dX9_init_95 : decode cX9_init 95 = .ok (.putfield 45, 3) := by decide +kernel
theorem dX9_init_98 : decode cX9_init 98 = .ok (.aload_n 0, 1) := by decide +kernel
theorem dX9_init_99 : decode cX9_init 99 = .ok (.iconst 5, 1) := by decide +kernel
theorem dX9_init_100 : decode cX9_init 100 = .ok (.newarray .int, 2) := by decide +kernel
theorem dX9_init_102 : decode cX9_init 102 = .ok (.putfield 48, 3) := by decide +kernel
theorem dX9_init_105 : decode cX9_init 105 = .ok (.aload_n 0, 1) := by decide +kernel
theorem dX9_init_106 : decode cX9_init 106 = .ok (.getfield 42, 3) := by decide +kernel
theorem dX9_init_109 : decode cX9_init 109 = .ok (.iconst 0, 1) := by decide +kernel
theorem dX9_init_110 : decode cX9_init 110 = .ok (.iconst (-1), 1) := by decide +kernel
theorem dX9_init_111 : decode cX9_init 111 = .ok (.iastore, 1) := by decide +kernel
theorem dX9_init_112 : decode cX9_init 112 = .ok (.aload_n 0, 1) := by decide +kernel
theorem dX9_init_113 : decode cX9_init 113 = .ok (.getfield 42, 3) := by decide +kernel
theorem dX9_init_116 : decode cX9_init 116 = .ok (.iconst 1, 1) := by decide +kernel
theorem dX9_init_117 : decode cX9_init 117 = .ok (.iconst (-1), 1) := by decide +kernel
theorem dX9_init_118 : decode cX9_init 118 = .ok (.iastore, 1) := by decide +kernel
theorem dX9_init_119 : decode cX9_init 119 = .ok (.return_, 1) := by decide +kernel
theorem dX9_in_0 : decode cX9_in 0 = .ok (.lload_n 0, 1) := by decide +kernel
theorem dX9_in_1 : decode cX9_in 1 = .ok (.lload_n 2, 1) := by decide +kernel
theorem dX9_in_2 : decode cX9_in 2 = .ok (.lcmp, 1) := by decide +kernel
theorem dX9_in_3 : decode cX9_in 3 = .ok (.ifCond .lt 14, 3) := by decide +kernel
theorem dX9_in_6 : decode cX9_in 6 = .ok (.lload_n 0, 1) := by decide +kernel
theorem dX9_in_7 : decode cX9_in 7 = .ok (.lload 4, 2) := by decide +kernel
theorem dX9_in_9 : decode cX9_in 9 = .ok (.lcmp, 1) := by decide +kernel
theorem dX9_in_10 : decode cX9_in 10 = .ok (.ifCond .gt 7, 3) := by decide +kernel
theorem dX9_in_13 : decode cX9_in 13 = .ok (.iconst 1, 1) := by decide +kernel
theorem dX9_in_14 : decode cX9_in 14 = .ok (.goto 4, 3) := by decide +kernel
theorem dX9_in_17 : decode cX9_in 17 = .ok (.iconst 0, 1) := by decide +kernel
theorem dX9_in_18 : decode cX9_in 18 = .ok (.ireturn, 1) := by decide +kernel
theorem dX9_isPlace_0 : decode cX9_isPlace 0 = .ok (.iload_n 0, 1) := by decide +kernel
theorem dX9_isPlace_1 : decode cX9_isPlace 1 = .ok (.i2l, 1) := by decide +kernel
theorem dX9_isPlace_2 : decode cX9_isPlace 2 = .ok (.ldc2_w 51, 3) := by decide +kernel
theorem dX9_isPlace_5 : decode cX9_isPlace 5 = .ok (.ldc2_w 53, 3) := by decide +kernel
theorem dX9_isPlace_8 : decode cX9_isPlace 8 = .ok (.invokestatic 55, 3) := by decide +kernel
theorem dX9_isPlace_11 : decode cX9_isPlace 11 = .ok (.ifCond .eq 35, 3) := by decide +kernel
theorem dX9_isPlace_14 : decode cX9_isPlace 14 = .ok (.iload_n 1, 1) := by decide +kernel
theorem dX9_isPlace_15 : decode cX9_isPlace 15 = .ok (.i2l, 1) := by decide +kernel
theorem dX9_isPlace_16 : decode cX9_isPlace 16 = .ok (.ldc2_w 51, 3) := by decide +kernel
theorem dX9_isPlace_19 : decode cX9_isPlace 19 = .ok (.ldc2_w 53, 3) := by decide +kernel
theorem dX9_isPlace_22 : decode cX9_isPlace 22 = .ok (.invokestatic 55, 3) := by decide +kernel
theorem dX9_isPlace_25 : decode cX9_isPlace 25 = .ok (.ifCond .eq 21, 3) := by decide +kernel
theorem dX9_isPlace_28 : decode cX9_isPlace 28 = .ok (.iload_n 2, 1) := by decide +kernel
theorem dX9_isPlace_29 : decode cX9_isPlace 29 = .ok (.i2l, 1) := by decide +kernel
theorem dX9_isPlace_30 : decode cX9_isPlace 30 = .ok (.ldc2_w 51, 3) := by decide +kernel
theorem dX9_isPlace_33 : decode cX9_isPlace 33 = .ok (.ldc2_w 53, 3) := by decide +kernel
theorem dX9_isPlace_36 : decode cX9_isPlace 36 = .ok (.invokestatic 55, 3) := by decide +kernel
theorem dX9_isPlace_39 : decode cX9_isPlace 39 = .ok (.ifCond .eq 7, 3) := by decide +kernel
theorem dX9_isPlace_42 : decode cX9_isPlace 42 = .ok (.iconst 1, 1) := by decide +kernel
theorem dX9_isPlace_43 : decode cX9_isPlace 43 = .ok (.goto 4, 3) := by decide +kernel
theorem dX9_isPlace_46 : decode cX9_isPlace 46 = .ok (.iconst 0, 1) := by decide +kernel
theorem dX9_isPlace_47 : decode cX9_isPlace 47 = .ok (.ireturn, 1) := by decide +kernel
theorem dX9_isThing_0 : decode cX9_isThing 0 = .ok (.iload_n 1, 1) := by decide +kernel
theorem dX9_isThing_1 : decode cX9_isThing 1 = .ok (.i2l, 1) := by decide +kernel
theorem dX9_isThing_2 : decode cX9_isThing 2 = .ok (.lconst 0, 1) := by decide +kernel
theorem dX9_isThing_3 : decode cX9_isThing 3 = .ok (.aload_n 0, 1) := by decide +kernel
theorem dX9_isThing_4 : decode cX9_isThing 4 = .ok (.getfield 59, 3) := by decide +kernel
theorem dX9_isThing_7 : decode cX9_isThing 7 = .ok (.iconst 1, 1) := by decide +kernel
theorem dX9_isThing_8 : decode cX9_isThing 8 = .ok (.isub, 1) := by decide +kernel
theorem dX9_isThing_9 : decode cX9_isThing 9 = .ok (.i2l, 1) := by decide +kernel
theorem dX9_isThing_10 : decode cX9_isThing 10 = .ok (.invokestatic 55, 3) := by decide +kernel
theorem dX9_isThing_13 : decode cX9_isThing 13 = .ok (.ireturn, 1) := by decide +kernel
theorem dX9_setSpot_0 : decode cX9_setSpot 0 = .ok (.aload_n 0, 1) := by decide +kernel
theorem dX9_setSpot_1 : decode cX9_setSpot 1 = .ok (.getfield 23, 3) := by decide +kernel
theorem dX9_setSpot_4 : decode cX9_setSpot 4 = .ok (.bipush 36, 2) := by decide +kernel
theorem dX9_setSpot_6 : decode cX9_setSpot 6 = .ok (.iload_n 1, 1) := by decide +kernel
theorem dX9_setSpot_7 : decode cX9_setSpot 7 = .ok (.imul, 1) := by decide +kernel
theorem dX9_setSpot_8 : decode cX9_setSpot 8 = .ok (.iconst 3, 1) := by decide +kernel
theorem dX9_setSpot_9 : decode cX9_setSpot 9 = .ok (.iload_n 2, 1) := by decide +kernel
theorem dX9_setSpot_10 : decode cX9_setSpot 10 = .ok (.imul, 1) := by decide +kernel
theorem dX9_setSpot_11 : decode cX9_setSpot 11 = .ok (.iadd, 1) := by decide +kernel
theorem dX9_setSpot_12 : decode cX9_setSpot 12 = .ok (.iload_n 3, 1) := by decide +kernel
theorem dX9_setSpot_13 : decode cX9_setSpot 13 = .ok (.iastore, 1) := by decide +kernel
theorem dX9_setSpot_14 : decode cX9_setSpot 14 = .ok (.aload_n 0, 1) := by decide +kernel
theorem dX9_setSpot_15 : decode cX9_setSpot 15 = .ok (.getfield 23, 3) := by decide +kernel
theorem dX9_setSpot_18 : decode cX9_setSpot 18 = .ok (.bipush 36, 2) := by decide +kernel
theorem dX9_setSpot_20 : decode cX9_setSpot 20 = .ok (.iload_n 1, 1) := by decide +kernel
theorem dX9_setSpot_21 : decode cX9_setSpot 21 = .ok (.imul, 1) := by decide +kernel
theorem dX9_setSpot_22 : decode cX9_setSpot 22 = .ok (.iconst 3, 1) := by decide +kernel
theorem dX9_setSpot_23 : decode cX9_setSpot 23 = .ok (.iload_n 2, 1) := by decide +kernel
theorem dX9_setSpot_24 : decode cX9_setSpot 24 = .ok (.imul, 1) := by decide +kernel
theorem dX9_setSpot_25 : decode cX9_setSpot 25 = .ok (.iadd, 1) := by decide +kernel
theorem dX9_setSpot_26 : decode cX9_setSpot 26 = .ok (.iconst 1, 1) := by decide +kernel
theorem dX9_setSpot_27 : decode cX9_setSpot 27 = .ok (.iadd, 1) := by decide +kernel
theorem dX9_setSpot_28 : decode cX9_setSpot 28 = .ok (.iload 4, 2) := by decide +kernel
theorem dX9_setSpot_30 : decode cX9_setSpot 30 = .ok (.iastore, 1) := by decide +kernel
theorem dX9_setSpot_31 : decode cX9_setSpot 31 = .ok (.aload_n 0, 1) := by decide +kernel
theorem dX9_setSpot_32 : decode cX9_setSpot 32 = .ok (.getfield 23, 3) := by decide +kernel
theorem dX9_setSpot_35 : decode cX9_setSpot 35 = .ok (.bipush 36, 2) := by decide +kernel
theorem dX9_setSpot_37 : decode cX9_setSpot 37 = .ok (.iload_n 1, 1) := by decide +kernel
theorem dX9_setSpot_38 : decode cX9_setSpot 38 = .ok (.imul, 1) := by decide +kernel
theorem dX9_setSpot_39 : decode cX9_setSpot 39 = .ok (.iconst 3, 1) := by decide +kernel
theorem dX9_setSpot_40 : decode cX9_setSpot 40 = .ok (.iload_n 2, 1) := by decide +kernel
theorem dX9_setSpot_41 : decode cX9_setSpot 41 = .ok (.imul, 1) := by decide +kernel
theorem dX9_setSpot_42 : decode cX9_setSpot 42 = .ok (.iadd, 1) := by decide +kernel
theorem dX9_setSpot_43 : decode cX9_setSpot 43 = .ok (.iconst 2, 1) := by decide +kernel
theorem dX9_setSpot_44 : decode cX9_setSpot 44 = .ok (.iadd, 1) := by decide +kernel
theorem dX9_setSpot_45 : decode cX9_setSpot 45 = .ok (.iload 5, 2) := by decide +kernel
theorem dX9_setSpot_47 : decode cX9_setSpot 47 = .ok (.iastore, 1) := by decide +kernel
theorem dX9_setSpot_48 : decode cX9_setSpot 48 = .ok (.return_, 1) := by decide +kernel
theorem dX9_fresh_0 : decode cX9_fresh 0 = .ok (.aload_n 0, 1) := by decide +kernel
theorem dX9_fresh_1 : decode cX9_fresh 1 = .ok (.getfield 7, 3) := by decide +kernel
theorem dX9_fresh_4 : decode cX9_fresh 4 = .ok (.aload_n 0, 1) := by decide +kernel
theorem dX9_fresh_5 : decode cX9_fresh 5 = .ok (.getfield 59, 3) := by decide +kernel
theorem dX9_fresh_8 : decode cX9_fresh 8 = .ok (.iload_n 1, 1) := by decide +kernel
theorem dX9_fresh_9 : decode cX9_fresh 9 = .ok (.iastore, 1) := by decide +kernel
theorem dX9_fresh_10 : decode cX9_fresh 10 = .ok (.aload_n 0, 1) := by decide +kernel
theorem dX9_fresh_11 : decode cX9_fresh 11 = .ok (.getfield 13, 3) := by decide +kernel
theorem dX9_fresh_14 : decode cX9_fresh 14 = .ok (.aload_n 0, 1) := by decide +kernel
theorem dX9_fresh_15 : decode cX9_fresh 15 = .ok (.getfield 59, 3) := by decide +kernel
theorem dX9_fresh_18 : decode cX9_fresh 18 = .ok (.iconst 0, 1) := by decide +kernel
theorem dX9_fresh_19 : decode cX9_fresh 19 = .ok (.iastore, 1) := by decide +kernel
theorem dX9_fresh_20 : decode cX9_fresh 20 = .ok (.aload_n 0, 1) := by decide +kernel
theorem dX9_fresh_21 : decode cX9_fresh 21 = .ok (.getfield 16, 3) := by decide +kernel
theorem dX9_fresh_24 : decode cX9_fresh 24 = .ok (.aload_n 0, 1) := by decide +kernel
theorem dX9_fresh_25 : decode cX9_fresh 25 = .ok (.getfield 59, 3) := by decide +kernel
theorem dX9_fresh_28 : decode cX9_fresh 28 = .ok (.iload_n 2, 1) := by decide +kernel
theorem dX9_fresh_29 : decode cX9_fresh 29 = .ok (.iastore, 1) := by decide +kernel
theorem dX9_fresh_30 : decode cX9_fresh 30 = .ok (.aload_n 0, 1) := by decide +kernel
theorem dX9_fresh_31 : decode cX9_fresh 31 = .ok (.getfield 19, 3) := by decide +kernel
theorem dX9_fresh_34 : decode cX9_fresh 34 = .ok (.aload_n 0, 1) := by decide +kernel
theorem dX9_fresh_35 : decode cX9_fresh 35 = .ok (.getfield 59, 3) := by decide +kernel
theorem dX9_fresh_38 : decode cX9_fresh 38 = .ok (.iconst 0, 1) := by decide +kernel
theorem dX9_fresh_39 : decode cX9_fresh 39 = .ok (.bastore, 1) := by decide +kernel
theorem dX9_fresh_40 : decode cX9_fresh 40 = .ok (.aload_n 0, 1) := by decide +kernel
theorem dX9_fresh_41 : decode cX9_fresh 41 = .ok (.dup, 1) := by decide +kernel
theorem dX9_fresh_42 : decode cX9_fresh 42 = .ok (.getfield 59, 3) := by decide +kernel
theorem dX9_fresh_45 : decode cX9_fresh 45 = .ok (.iconst 1, 1) := by decide +kernel
theorem dX9_fresh_46 : decode cX9_fresh 46 = .ok (.iadd, 1) := by decide +kernel
theorem dX9_fresh_47 : decode cX9_fresh 47 = .ok (.putfield 59, 3) := by decide +kernel
theorem dX9_fresh_50 : decode cX9_fresh 50 = .ok (.aload_n 0, 1) := by decide +kernel
theorem dX9_fresh_51 : decode cX9_fresh 51 = .ok (.getfield 59, 3) := by decide +kernel
theorem dX9_fresh_54 : decode cX9_fresh 54 = .ok (.iconst 1, 1) := by decide +kernel
theorem dX9_fresh_55 : decode cX9_fresh 55 = .ok (.isub, 1) := by decide +kernel
theorem dX9_fresh_56 : decode cX9_fresh 56 = .ok (.ireturn, 1) := by decide +kernel
theorem dX9_thing_0 : decode cX9_thing 0 = .ok (.iload_n 1, 1) := by decide +kernel
theorem dX9_thing_1 : decode cX9_thing 1 = .ok (.i2l, 1) := by decide +kernel
theorem dX9_thing_2 : decode cX9_thing 2 = .ok (.lconst 0, 1) := by decide +kernel
theorem dX9_thing_3 : decode cX9_thing 3 = .ok (.ldc2_w 62, 3) := by decide +kernel
theorem dX9_thing_6 : decode cX9_thing 6 = .ok (.invokestatic 55, 3) := by decide +kernel
theorem dX9_thing_9 : decode cX9_thing 9 = .ok (.ifCond .eq 26, 3) := by decide +kernel
theorem dX9_thing_12 : decode cX9_thing 12 = .ok (.iload_n 2, 1) := by decide +kernel
theorem dX9_thing_13 : decode cX9_thing 13 = .ok (.iload_n 3, 1) := by decide +kernel
theorem dX9_thing_14 : decode cX9_thing 14 = .ok (.iload 4, 2) := by decide +kernel
theorem dX9_thing_16 : decode cX9_thing 16 = .ok (.invokestatic 64, 3) := by decide +kernel
theorem dX9_thing_19 : decode cX9_thing 19 = .ok (.ifCond .eq 16, 3) := by decide +kernel
theorem dX9_thing_22 : decode cX9_thing 22 = .ok (.iload 5, 2) := by decide +kernel
theorem dX9_thing_24 : decode cX9_thing 24 = .ok (.i2l, 1) := by decide +kernel
theorem dX9_thing_25 : decode cX9_thing 25 = .ok (.lconst 0, 1) := by decide +kernel
theorem dX9_thing_26 : decode cX9_thing 26 = .ok (.ldc2_w 68, 3) := by decide +kernel
theorem dX9_thing_29 : decode cX9_thing 29 = .ok (.invokestatic 55, 3) := by decide +kernel
theorem dX9_thing_32 : decode cX9_thing 32 = .ok (.ifCond .ne 6, 3) := by decide +kernel
theorem dX9_thing_35 : decode cX9_thing 35 = .ok (.ldc 70, 2) := by decide +kernel
theorem dX9_thing_37 : decode cX9_thing 37 = .ok (.ireturn, 1) := by decide +kernel
theorem dX9_thing_38 : decode cX9_thing 38 = .ok (.aload_n 0, 1) := by decide +kernel
theorem dX9_thing_39 : decode cX9_thing 39 = .ok (.getfield 59, 3) := by decide +kernel
theorem dX9_thing_42 : decode cX9_thing 42 = .ok (.bipush 16, 2) := by decide +kernel
theorem dX9_thing_44 : decode cX9_thing 44 = .ok (.if_icmp .ne 6, 3) := by decide +kernel
theorem dX9_thing_50 : decode cX9_thing 50 = .ok (.aload_n 0, 1) := by decide +kernel
theorem dX9_thing_51 : decode cX9_thing 51 = .ok (.iload_n 1, 1) := by decide +kernel
theorem dX9_thing_52 : decode cX9_thing 52 = .ok (.iload 5, 2) := by decide +kernel
theorem dX9_thing_54 : decode cX9_thing 54 = .ok (.invokevirtual 72, 3) := by decide +kernel
theorem dX9_thing_57 : decode cX9_thing 57 = .ok (.istore 6, 2) := by decide +kernel
theorem dX9_thing_59 : decode cX9_thing 59 = .ok (.aload_n 0, 1) := by decide +kernel
theorem dX9_thing_60 : decode cX9_thing 60 = .ok (.iload 6, 2) := by decide +kernel
theorem dX9_thing_62 : decode cX9_thing 62 = .ok (.iconst 0, 1) := by decide +kernel
theorem dX9_thing_63 : decode cX9_thing 63 = .ok (.iload_n 2, 1) := by decide +kernel
theorem dX9_thing_64 : decode cX9_thing 64 = .ok (.iload_n 3, 1) := by decide +kernel
theorem dX9_thing_65 : decode cX9_thing 65 = .ok (.iload 4, 2) := by decide +kernel
theorem dX9_thing_67 : decode cX9_thing 67 = .ok (.invokevirtual 76, 3) := by decide +kernel
theorem dX9_thing_70 : decode cX9_thing 70 = .ok (.aload_n 0, 1) := by decide +kernel
theorem dX9_thing_71 : decode cX9_thing 71 = .ok (.getfield 13, 3) := by decide +kernel
theorem dX9_thing_74 : decode cX9_thing 74 = .ok (.iload 6, 2) := by decide +kernel
theorem dX9_thing_76 : decode cX9_thing 76 = .ok (.iconst 1, 1) := by decide +kernel
theorem dX9_thing_77 : decode cX9_thing 77 = .ok (.iastore, 1) := by decide +kernel
theorem dX9_thing_78 : decode cX9_thing 78 = .ok (.iload 6, 2) := by decide +kernel
theorem dX9_thing_80 : decode cX9_thing 80 = .ok (.ireturn, 1) := by decide +kernel
theorem dX9_place_0 : decode cX9_place 0 = .ok (.aload_n 0, 1) := by decide +kernel
theorem dX9_place_1 : decode cX9_place 1 = .ok (.iload_n 1, 1) := by decide +kernel
theorem dX9_place_2 : decode cX9_place 2 = .ok (.invokevirtual 80, 3) := by decide +kernel
theorem dX9_place_5 : decode cX9_place 5 = .ok (.ifCond .ne 6, 3) := by decide +kernel
theorem dX9_place_8 : decode cX9_place 8 = .ok (.ldc 84, 2) := by decide +kernel
theorem dX9_place_10 : decode cX9_place 10 = .ok (.ireturn, 1) := by decide +kernel
theorem dX9_gone_0 : decode cX9_gone 0 = .ok (.aload_n 0, 1) := by decide +kernel
theorem dX9_gone_1 : decode cX9_gone 1 = .ok (.iload_n 1, 1) := by decide +kernel
theorem dX9_gone_2 : decode cX9_gone 2 = .ok (.invokevirtual 80, 3) := by decide +kernel
theorem dX9_gone_5 : decode cX9_gone 5 = .ok (.ifCond .ne 6, 3) := by decide +kernel
theorem dX9_gone_8 : decode cX9_gone 8 = .ok (.ldc 84, 2) := by decide +kernel
theorem dX9_gone_10 : decode cX9_gone 10 = .ok (.ireturn, 1) := by decide +kernel
theorem dX9_breaks_0 : decode cX9_breaks 0 = .ok (.aload_n 0, 1) := by decide +kernel
theorem dX9_breaks_1 : decode cX9_breaks 1 = .ok (.iload_n 1, 1) := by decide +kernel
theorem dX9_breaks_2 : decode cX9_breaks 2 = .ok (.invokevirtual 80, 3) := by decide +kernel
theorem dX9_breaks_5 : decode cX9_breaks 5 = .ok (.ifCond .ne 6, 3) := by decide +kernel
theorem dX9_breaks_8 : decode cX9_breaks 8 = .ok (.ldc 84, 2) := by decide +kernel
theorem dX9_breaks_10 : decode cX9_breaks 10 = .ok (.ireturn, 1) := by decide +kernel
theorem dX9_rule_0 : decode cX9_rule 0 = .ok (.iload_n 1, 1) := by decide +kernel
theorem dX9_rule_1 : decode cX9_rule 1 = .ok (.i2l, 1) := by decide +kernel
theorem dX9_rule_2 : decode cX9_rule 2 = .ok (.lconst 0, 1) := by decide +kernel
theorem dX9_rule_3 : decode cX9_rule 3 = .ok (.lconst 1, 1) := by decide +kernel
theorem dX9_rule_4 : decode cX9_rule 4 = .ok (.invokestatic 55, 3) := by decide +kernel
theorem dX9_rule_7 : decode cX9_rule 7 = .ok (.ifCond .eq 33, 3) := by decide +kernel
theorem dX9_rule_10 : decode cX9_rule 10 = .ok (.iload_n 2, 1) := by decide +kernel
theorem dX9_rule_11 : decode cX9_rule 11 = .ok (.i2l, 1) := by decide +kernel
theorem dX9_rule_12 : decode cX9_rule 12 = .ok (.iload_n 1, 1) := by decide +kernel
theorem dX9_rule_13 : decode cX9_rule 13 = .ok (.ifCond .ne 7, 3) := by decide +kernel
theorem dX9_rule_16 : decode cX9_rule 16 = .ok (.lconst 1, 1) := by decide +kernel
theorem dX9_rule_17 : decode cX9_rule 17 = .ok (.goto 4, 3) := by decide +kernel
theorem dX9_rule_20 : decode cX9_rule 20 = .ok (.lconst 0, 1) := by decide +kernel
theorem dX9_rule_21 : decode cX9_rule 21 = .ok (.iload_n 1, 1) := by decide +kernel
theorem dX9_rule_22 : decode cX9_rule 22 = .ok (.ifCond .ne 9, 3) := by decide +kernel
theorem dX9_rule_25 : decode cX9_rule 25 = .ok (.ldc2_w 98, 3) := by decide +kernel
theorem dX9_rule_28 : decode cX9_rule 28 = .ok (.goto 6, 3) := by decide +kernel
theorem dX9_rule_31 : decode cX9_rule 31 = .ok (.ldc2_w 100, 3) := by decide +kernel
theorem dX9_rule_34 : decode cX9_rule 34 = .ok (.invokestatic 55, 3) := by decide +kernel
theorem dX9_rule_37 : decode cX9_rule 37 = .ok (.ifCond .ne 6, 3) := by decide +kernel
theorem dX9_rule_40 : decode cX9_rule 40 = .ok (.ldc 70, 2) := by decide +kernel
theorem dX9_rule_42 : decode cX9_rule 42 = .ok (.ireturn, 1) := by decide +kernel
theorem dX9_rule_43 : decode cX9_rule 43 = .ok (.iload_n 1, 1) := by decide +kernel
theorem dX9_rule_44 : decode cX9_rule 44 = .ok (.ifCond .ne 10, 3) := by decide +kernel
theorem dX9_rule_47 : decode cX9_rule 47 = .ok (.aload_n 0, 1) := by decide +kernel
theorem dX9_rule_48 : decode cX9_rule 48 = .ok (.getfield 26, 3) := by decide +kernel
theorem dX9_rule_51 : decode cX9_rule 51 = .ok (.goto 7, 3) := by decide +kernel
theorem dX9_rule_54 : decode cX9_rule 54 = .ok (.aload_n 0, 1) := by decide +kernel
theorem dX9_rule_55 : decode cX9_rule 55 = .ok (.getfield 30, 3) := by decide +kernel
theorem dX9_rule_58 : decode cX9_rule 58 = .ok (.istore_n 3, 1) := by decide +kernel
theorem dX9_rule_59 : decode cX9_rule 59 = .ok (.aload_n 0, 1) := by decide +kernel
theorem dX9_rule_60 : decode cX9_rule 60 = .ok (.iload_n 1, 1) := by decide +kernel
theorem dX9_rule_61 : decode cX9_rule 61 = .ok (.ifCond .ne 7, 3) := by decide +kernel
theorem dX9_rule_64 : decode cX9_rule 64 = .ok (.iload_n 2, 1) := by decide +kernel
theorem dX9_rule_65 : decode cX9_rule 65 = .ok (.goto 7, 3) := by decide +kernel
theorem dX9_rule_68 : decode cX9_rule 68 = .ok (.aload_n 0, 1) := by decide +kernel
theorem dX9_rule_69 : decode cX9_rule 69 = .ok (.getfield 26, 3) := by decide +kernel
theorem dX9_rule_72 : decode cX9_rule 72 = .ok (.putfield 26, 3) := by decide +kernel
theorem dX9_rule_75 : decode cX9_rule 75 = .ok (.aload_n 0, 1) := by decide +kernel
theorem dX9_rule_76 : decode cX9_rule 76 = .ok (.iload_n 1, 1) := by decide +kernel
theorem dX9_rule_77 : decode cX9_rule 77 = .ok (.iconst 1, 1) := by decide +kernel
theorem dX9_rule_78 : decode cX9_rule 78 = .ok (.if_icmp .ne 7, 3) := by decide +kernel
theorem dX9_rule_81 : decode cX9_rule 81 = .ok (.iload_n 2, 1) := by decide +kernel
theorem dX9_rule_82 : decode cX9_rule 82 = .ok (.goto 7, 3) := by decide +kernel
theorem dX9_rule_85 : decode cX9_rule 85 = .ok (.aload_n 0, 1) := by decide +kernel
theorem dX9_rule_86 : decode cX9_rule 86 = .ok (.getfield 30, 3) := by decide +kernel
theorem dX9_rule_89 : decode cX9_rule 89 = .ok (.putfield 30, 3) := by decide +kernel
theorem dX9_rule_92 : decode cX9_rule 92 = .ok (.iload_n 3, 1) := by decide +kernel
theorem dX9_rule_93 : decode cX9_rule 93 = .ok (.ireturn, 1) := by decide +kernel
theorem dX9_told_0 : decode cX9_told 0 = .ok (.aload_n 0, 1) := by decide +kernel
theorem dX9_told_1 : decode cX9_told 1 = .ok (.iload_n 1, 1) := by decide +kernel
theorem dX9_told_2 : decode cX9_told 2 = .ok (.invokevirtual 80, 3) := by decide +kernel
theorem dX9_told_5 : decode cX9_told 5 = .ok (.ifCond .ne 6, 3) := by decide +kernel
theorem dX9_told_8 : decode cX9_told 8 = .ok (.ldc 84, 2) := by decide +kernel
theorem dX9_told_10 : decode cX9_told 10 = .ok (.ireturn, 1) := by decide +kernel
theorem dX9_at_0 : decode cX9_at 0 = .ok (.aload_n 0, 1) := by decide +kernel
theorem dX9_at_1 : decode cX9_at 1 = .ok (.iload_n 1, 1) := by decide +kernel
theorem dX9_at_2 : decode cX9_at 2 = .ok (.invokevirtual 80, 3) := by decide +kernel
theorem dX9_at_5 : decode cX9_at 5 = .ok (.ifCond .ne 6, 3) := by decide +kernel
theorem dX9_at_8 : decode cX9_at 8 = .ok (.ldc 84, 2) := by decide +kernel
theorem dX9_at_10 : decode cX9_at 10 = .ok (.ireturn, 1) := by decide +kernel
theorem dX9_count_0 : decode cX9_count 0 = .ok (.iconst 0, 1) := by decide +kernel
theorem dX9_count_1 : decode cX9_count 1 = .ok (.istore_n 2, 1) := by decide +kernel
theorem dX9_count_2 : decode cX9_count 2 = .ok (.iconst 0, 1) := by decide +kernel
theorem dX9_count_3 : decode cX9_count 3 = .ok (.istore_n 3, 1) := by decide +kernel
theorem dX9_count_4 : decode cX9_count 4 = .ok (.iload_n 3, 1) := by decide +kernel
theorem dX9_count_5 : decode cX9_count 5 = .ok (.aload_n 0, 1) := by decide +kernel
theorem dX9_count_6 : decode cX9_count 6 = .ok (.getfield 59, 3) := by decide +kernel
theorem dX9_count_9 : decode cX9_count 9 = .ok (.if_icmp .ge 74, 3) := by decide +kernel
theorem dX9_count_83 : decode cX9_count 83 = .ok (.iconst 0, 1) := by decide +kernel
theorem dX9_count_84 : decode cX9_count 84 = .ok (.istore_n 3, 1) := by decide +kernel
theorem dX9_count_85 : decode cX9_count 85 = .ok (.iload_n 3, 1) := by decide +kernel
theorem dX9_count_86 : decode cX9_count 86 = .ok (.aload_n 0, 1) := by decide +kernel
theorem dX9_count_87 : decode cX9_count 87 = .ok (.getfield 109, 3) := by decide +kernel
theorem dX9_count_90 : decode cX9_count 90 = .ok (.if_icmp .ge 57, 3) := by decide +kernel
theorem dX9_count_147 : decode cX9_count 147 = .ok (.iconst 0, 1) := by decide +kernel
theorem dX9_count_148 : decode cX9_count 148 = .ok (.istore_n 3, 1) := by decide +kernel
theorem dX9_count_149 : decode cX9_count 149 = .ok (.iload_n 3, 1) := by decide +kernel
theorem dX9_count_150 : decode cX9_count 150 = .ok (.aload_n 0, 1) := by decide +kernel
theorem dX9_count_151 : decode cX9_count 151 = .ok (.getfield 115, 3) := by decide +kernel
theorem dX9_count_154 : decode cX9_count 154 = .ok (.if_icmp .ge 38, 3) := by decide +kernel
theorem dX9_count_192 : decode cX9_count 192 = .ok (.iload_n 1, 1) := by decide +kernel
theorem dX9_count_193 : decode cX9_count 193 = .ok (.tableswitch 77 0 9 #[55, 75, 75, 60, 75, 75, 75, 65, 75, 70], 55) := by decide +kernel
theorem dX9_count_248 : decode cX9_count 248 = .ok (.aload_n 0, 1) := by decide +kernel
theorem dX9_count_249 : decode cX9_count 249 = .ok (.getfield 59, 3) := by decide +kernel
theorem dX9_count_252 : decode cX9_count 252 = .ok (.ireturn, 1) := by decide +kernel
theorem dX9_count_253 : decode cX9_count 253 = .ok (.aload_n 0, 1) := by decide +kernel
theorem dX9_count_254 : decode cX9_count 254 = .ok (.getfield 109, 3) := by decide +kernel
theorem dX9_count_257 : decode cX9_count 257 = .ok (.ireturn, 1) := by decide +kernel
theorem dX9_count_258 : decode cX9_count 258 = .ok (.aload_n 0, 1) := by decide +kernel
theorem dX9_count_259 : decode cX9_count 259 = .ok (.getfield 115, 3) := by decide +kernel
theorem dX9_count_262 : decode cX9_count 262 = .ok (.ireturn, 1) := by decide +kernel
theorem dX9_count_263 : decode cX9_count 263 = .ok (.aload_n 0, 1) := by decide +kernel
theorem dX9_count_264 : decode cX9_count 264 = .ok (.getfield 118, 3) := by decide +kernel
theorem dX9_count_267 : decode cX9_count 267 = .ok (.ireturn, 1) := by decide +kernel
theorem dX9_count_268 : decode cX9_count 268 = .ok (.iload_n 2, 1) := by decide +kernel
theorem dX9_count_269 : decode cX9_count 269 = .ok (.ireturn, 1) := by decide +kernel
theorem dX9_count_270 : decode cX9_count 270 = .ok (.ldc 70, 2) := by decide +kernel
theorem dX9_count_272 : decode cX9_count 272 = .ok (.ireturn, 1) := by decide +kernel
theorem dX9_least_0 : decode cX9_least 0 = .ok (.aload_n 0, 1) := by decide +kernel
theorem dX9_least_1 : decode cX9_least 1 = .ok (.iload_n 1, 1) := by decide +kernel
theorem dX9_least_2 : decode cX9_least 2 = .ok (.invokevirtual 80, 3) := by decide +kernel
theorem dX9_least_5 : decode cX9_least 5 = .ok (.ifCond .eq 11, 3) := by decide +kernel
theorem dX9_least_16 : decode cX9_least 16 = .ok (.ldc2_w 158, 3) := by decide +kernel
theorem dX9_least_19 : decode cX9_least 19 = .ok (.lreturn, 1) := by decide +kernel
theorem dX9_sieve_0 : decode cX9_sieve 0 = .ok (.aload_n 0, 1) := by decide +kernel
theorem dX9_sieve_1 : decode cX9_sieve 1 = .ok (.iload_n 1, 1) := by decide +kernel
theorem dX9_sieve_2 : decode cX9_sieve 2 = .ok (.invokevirtual 80, 3) := by decide +kernel
theorem dX9_sieve_5 : decode cX9_sieve 5 = .ok (.ifCond .eq 11, 3) := by decide +kernel
theorem dX9_sieve_16 : decode cX9_sieve 16 = .ok (.ldc 84, 2) := by decide +kernel
theorem dX9_sieve_18 : decode cX9_sieve 18 = .ok (.ireturn, 1) := by decide +kernel
theorem dX9_meeting_0 : decode cX9_meeting 0 = .ok (.iload_n 2, 1) := by decide +kernel
theorem dX9_meeting_1 : decode cX9_meeting 1 = .ok (.i2l, 1) := by decide +kernel
theorem dX9_meeting_2 : decode cX9_meeting 2 = .ok (.lconst 0, 1) := by decide +kernel
theorem dX9_meeting_3 : decode cX9_meeting 3 = .ok (.lconst 1, 1) := by decide +kernel
theorem dX9_meeting_4 : decode cX9_meeting 4 = .ok (.invokestatic 55, 3) := by decide +kernel
theorem dX9_meeting_7 : decode cX9_meeting 7 = .ok (.ifCond .ne 6, 3) := by decide +kernel
theorem dX9_meeting_10 : decode cX9_meeting 10 = .ok (.ldc 70, 2) := by decide +kernel
theorem dX9_meeting_12 : decode cX9_meeting 12 = .ok (.ireturn, 1) := by decide +kernel
theorem dX9_meeting_13 : decode cX9_meeting 13 = .ok (.iconst 0, 1) := by decide +kernel
theorem dX9_meeting_14 : decode cX9_meeting 14 = .ok (.istore_n 3, 1) := by decide +kernel
theorem dX9_meeting_15 : decode cX9_meeting 15 = .ok (.iconst 0, 1) := by decide +kernel
theorem dX9_meeting_16 : decode cX9_meeting 16 = .ok (.istore 4, 2) := by decide +kernel
theorem dX9_meeting_18 : decode cX9_meeting 18 = .ok (.iload 4, 2) := by decide +kernel
theorem dX9_meeting_20 : decode cX9_meeting 20 = .ok (.aload_n 0, 1) := by decide +kernel
theorem dX9_meeting_21 : decode cX9_meeting 21 = .ok (.getfield 59, 3) := by decide +kernel
theorem dX9_meeting_24 : decode cX9_meeting 24 = .ok (.if_icmp .ge 61, 3) := by decide +kernel
theorem dX9_meeting_85 : decode cX9_meeting 85 = .ok (.iconst (-1), 1) := by decide +kernel
theorem dX9_meeting_86 : decode cX9_meeting 86 = .ok (.ireturn, 1) := by decide +kernel
theorem dX9_share_0 : decode cX9_share 0 = .ok (.aload_n 0, 1) := by decide +kernel
theorem dX9_share_1 : decode cX9_share 1 = .ok (.iload_n 1, 1) := by decide +kernel
theorem dX9_share_2 : decode cX9_share 2 = .ok (.invokevirtual 80, 3) := by decide +kernel
theorem dX9_share_5 : decode cX9_share 5 = .ok (.ifCond .eq 11, 3) := by decide +kernel
theorem dX9_share_16 : decode cX9_share 16 = .ok (.ldc2_w 158, 3) := by decide +kernel
theorem dX9_share_19 : decode cX9_share 19 = .ok (.lreturn, 1) := by decide +kernel
theorem dX9_best_0 : decode cX9_best 0 = .ok (.aload_n 0, 1) := by decide +kernel
theorem dX9_best_1 : decode cX9_best 1 = .ok (.iload_n 1, 1) := by decide +kernel
theorem dX9_best_2 : decode cX9_best 2 = .ok (.invokevirtual 80, 3) := by decide +kernel
theorem dX9_best_5 : decode cX9_best 5 = .ok (.ifCond .ne 6, 3) := by decide +kernel
theorem dX9_best_8 : decode cX9_best 8 = .ok (.ldc 84, 2) := by decide +kernel
theorem dX9_best_10 : decode cX9_best 10 = .ok (.ireturn, 1) := by decide +kernel
theorem dX9_burn_0 : decode cX9_burn 0 = .ok (.aload_n 0, 1) := by decide +kernel
theorem dX9_burn_1 : decode cX9_burn 1 = .ok (.iload_n 1, 1) := by decide +kernel
theorem dX9_burn_2 : decode cX9_burn 2 = .ok (.invokevirtual 80, 3) := by decide +kernel
theorem dX9_burn_5 : decode cX9_burn 5 = .ok (.ifCond .ne 6, 3) := by decide +kernel
theorem dX9_burn_8 : decode cX9_burn 8 = .ok (.ldc 84, 2) := by decide +kernel
theorem dX9_burn_10 : decode cX9_burn 10 = .ok (.ireturn, 1) := by decide +kernel
theorem dX9_dot_0 : decode cX9_dot 0 = .ok (.iload_n 1, 1) := by decide +kernel
theorem dX9_dot_1 : decode cX9_dot 1 = .ok (.i2l, 1) := by decide +kernel
theorem dX9_dot_2 : decode cX9_dot 2 = .ok (.lconst 0, 1) := by decide +kernel
theorem dX9_dot_3 : decode cX9_dot 3 = .ok (.ldc2_w 62, 3) := by decide +kernel
theorem dX9_dot_6 : decode cX9_dot 6 = .ok (.invokestatic 55, 3) := by decide +kernel
theorem dX9_dot_9 : decode cX9_dot 9 = .ok (.ifCond .eq 13, 3) := by decide +kernel
theorem dX9_dot_12 : decode cX9_dot 12 = .ok (.iload_n 2, 1) := by decide +kernel
theorem dX9_dot_13 : decode cX9_dot 13 = .ok (.iload_n 3, 1) := by decide +kernel
theorem dX9_dot_14 : decode cX9_dot 14 = .ok (.iload 4, 2) := by decide +kernel
theorem dX9_dot_16 : decode cX9_dot 16 = .ok (.invokestatic 64, 3) := by decide +kernel
theorem dX9_dot_19 : decode cX9_dot 19 = .ok (.ifCond .ne 6, 3) := by decide +kernel
theorem dX9_dot_22 : decode cX9_dot 22 = .ok (.ldc 70, 2) := by decide +kernel
theorem dX9_dot_24 : decode cX9_dot 24 = .ok (.ireturn, 1) := by decide +kernel
theorem dX9_dot_25 : decode cX9_dot 25 = .ok (.aload_n 0, 1) := by decide +kernel
theorem dX9_dot_26 : decode cX9_dot 26 = .ok (.getfield 109, 3) := by decide +kernel
theorem dX9_dot_29 : decode cX9_dot 29 = .ok (.bipush 40, 2) := by decide +kernel
theorem dX9_dot_31 : decode cX9_dot 31 = .ok (.if_icmp .ne 6, 3) := by decide +kernel
theorem dX9_dot_37 : decode cX9_dot 37 = .ok (.aload_n 0, 1) := by decide +kernel
theorem dX9_dot_38 : decode cX9_dot 38 = .ok (.getfield 33, 3) := by decide +kernel
theorem dX9_dot_41 : decode cX9_dot 41 = .ok (.aload_n 0, 1) := by decide +kernel
theorem dX9_dot_42 : decode cX9_dot 42 = .ok (.getfield 109, 3) := by decide +kernel
theorem dX9_dot_45 : decode cX9_dot 45 = .ok (.iload_n 1, 1) := by decide +kernel
theorem dX9_dot_46 : decode cX9_dot 46 = .ok (.iastore, 1) := by decide +kernel
theorem dX9_dot_47 : decode cX9_dot 47 = .ok (.aload_n 0, 1) := by decide +kernel
theorem dX9_dot_48 : decode cX9_dot 48 = .ok (.getfield 36, 3) := by decide +kernel
theorem dX9_dot_51 : decode cX9_dot 51 = .ok (.iconst 3, 1) := by decide +kernel
theorem dX9_dot_52 : decode cX9_dot 52 = .ok (.aload_n 0, 1) := by decide +kernel
theorem dX9_dot_53 : decode cX9_dot 53 = .ok (.getfield 109, 3) := by decide +kernel
theorem dX9_dot_56 : decode cX9_dot 56 = .ok (.imul, 1) := by decide +kernel
theorem dX9_dot_57 : decode cX9_dot 57 = .ok (.iload_n 2, 1) := by decide +kernel
theorem dX9_dot_58 : decode cX9_dot 58 = .ok (.iastore, 1) := by decide +kernel
theorem dX9_dot_59 : decode cX9_dot 59 = .ok (.aload_n 0, 1) := by decide +kernel
theorem dX9_dot_60 : decode cX9_dot 60 = .ok (.getfield 36, 3) := by decide +kernel
theorem dX9_dot_63 : decode cX9_dot 63 = .ok (.iconst 3, 1) := by decide +kernel
theorem dX9_dot_64 : decode cX9_dot 64 = .ok (.aload_n 0, 1) := by decide +kernel
theorem dX9_dot_65 : decode cX9_dot 65 = .ok (.getfield 109, 3) := by decide +kernel
theorem dX9_dot_68 : decode cX9_dot 68 = .ok (.imul, 1) := by decide +kernel
theorem dX9_dot_69 : decode cX9_dot 69 = .ok (.iconst 1, 1) := by decide +kernel
theorem dX9_dot_70 : decode cX9_dot 70 = .ok (.iadd, 1) := by decide +kernel
theorem dX9_dot_71 : decode cX9_dot 71 = .ok (.iload_n 3, 1) := by decide +kernel
theorem dX9_dot_72 : decode cX9_dot 72 = .ok (.iastore, 1) := by decide +kernel
theorem dX9_dot_73 : decode cX9_dot 73 = .ok (.aload_n 0, 1) := by decide +kernel
theorem dX9_dot_74 : decode cX9_dot 74 = .ok (.getfield 36, 3) := by decide +kernel
theorem dX9_dot_77 : decode cX9_dot 77 = .ok (.iconst 3, 1) := by decide +kernel
theorem dX9_dot_78 : decode cX9_dot 78 = .ok (.aload_n 0, 1) := by decide +kernel
theorem dX9_dot_79 : decode cX9_dot 79 = .ok (.getfield 109, 3) := by decide +kernel
theorem dX9_dot_82 : decode cX9_dot 82 = .ok (.imul, 1) := by decide +kernel
theorem dX9_dot_83 : decode cX9_dot 83 = .ok (.iconst 2, 1) := by decide +kernel
theorem dX9_dot_84 : decode cX9_dot 84 = .ok (.iadd, 1) := by decide +kernel
theorem dX9_dot_85 : decode cX9_dot 85 = .ok (.iload 4, 2) := by decide +kernel
theorem dX9_dot_87 : decode cX9_dot 87 = .ok (.iastore, 1) := by decide +kernel
theorem dX9_dot_88 : decode cX9_dot 88 = .ok (.aload_n 0, 1) := by decide +kernel
theorem dX9_dot_89 : decode cX9_dot 89 = .ok (.dup, 1) := by decide +kernel
theorem dX9_dot_90 : decode cX9_dot 90 = .ok (.getfield 109, 3) := by decide +kernel
theorem dX9_dot_93 : decode cX9_dot 93 = .ok (.iconst 1, 1) := by decide +kernel
theorem dX9_dot_94 : decode cX9_dot 94 = .ok (.iadd, 1) := by decide +kernel
theorem dX9_dot_95 : decode cX9_dot 95 = .ok (.putfield 109, 3) := by decide +kernel
theorem dX9_dot_98 : decode cX9_dot 98 = .ok (.aload_n 0, 1) := by decide +kernel
theorem dX9_dot_99 : decode cX9_dot 99 = .ok (.getfield 109, 3) := by decide +kernel
theorem dX9_dot_102 : decode cX9_dot 102 = .ok (.iconst 1, 1) := by decide +kernel
theorem dX9_dot_103 : decode cX9_dot 103 = .ok (.isub, 1) := by decide +kernel
theorem dX9_dot_104 : decode cX9_dot 104 = .ok (.ireturn, 1) := by decide +kernel
theorem dX9_dotted_0 : decode cX9_dotted 0 = .ok (.iload_n 1, 1) := by decide +kernel
theorem dX9_dotted_1 : decode cX9_dotted 1 = .ok (.i2l, 1) := by decide +kernel
theorem dX9_dotted_2 : decode cX9_dotted 2 = .ok (.lconst 0, 1) := by decide +kernel
theorem dX9_dotted_3 : decode cX9_dotted 3 = .ok (.aload_n 0, 1) := by decide +kernel
theorem dX9_dotted_4 : decode cX9_dotted 4 = .ok (.getfield 109, 3) := by decide +kernel
theorem dX9_dotted_7 : decode cX9_dotted 7 = .ok (.iconst 1, 1) := by decide +kernel
theorem dX9_dotted_8 : decode cX9_dotted 8 = .ok (.isub, 1) := by decide +kernel
theorem dX9_dotted_9 : decode cX9_dotted 9 = .ok (.i2l, 1) := by decide +kernel
theorem dX9_dotted_10 : decode cX9_dotted 10 = .ok (.invokestatic 55, 3) := by decide +kernel
theorem dX9_dotted_13 : decode cX9_dotted 13 = .ok (.ifCond .ne 6, 3) := by decide +kernel
theorem dX9_dotted_16 : decode cX9_dotted 16 = .ok (.ldc 84, 2) := by decide +kernel
theorem dX9_dotted_18 : decode cX9_dotted 18 = .ok (.ireturn, 1) := by decide +kernel
theorem dX9_notice_0 : decode cX9_notice 0 = .ok (.aload_n 0, 1) := by decide +kernel
theorem dX9_notice_1 : decode cX9_notice 1 = .ok (.iload_n 1, 1) := by decide +kernel
theorem dX9_notice_2 : decode cX9_notice 2 = .ok (.invokevirtual 80, 3) := by decide +kernel
theorem dX9_notice_5 : decode cX9_notice 5 = .ok (.ifCond .eq 11, 3) := by decide +kernel
theorem dX9_notice_16 : decode cX9_notice 16 = .ok (.ldc 84, 2) := by decide +kernel
theorem dX9_notice_18 : decode cX9_notice 18 = .ok (.ireturn, 1) := by decide +kernel
theorem dX9_answer_0 : decode cX9_answer 0 = .ok (.iload_n 1, 1) := by decide +kernel
theorem dX9_answer_1 : decode cX9_answer 1 = .ok (.i2l, 1) := by decide +kernel
theorem dX9_answer_2 : decode cX9_answer 2 = .ok (.lconst 0, 1) := by decide +kernel
theorem dX9_answer_3 : decode cX9_answer 3 = .ok (.aload_n 0, 1) := by decide +kernel
theorem dX9_answer_4 : decode cX9_answer 4 = .ok (.getfield 115, 3) := by decide +kernel
theorem dX9_answer_7 : decode cX9_answer 7 = .ok (.iconst 1, 1) := by decide +kernel
theorem dX9_answer_8 : decode cX9_answer 8 = .ok (.isub, 1) := by decide +kernel
theorem dX9_answer_9 : decode cX9_answer 9 = .ok (.i2l, 1) := by decide +kernel
theorem dX9_answer_10 : decode cX9_answer 10 = .ok (.invokestatic 55, 3) := by decide +kernel
theorem dX9_answer_13 : decode cX9_answer 13 = .ok (.ifCond .eq 11, 3) := by decide +kernel
theorem dX9_answer_24 : decode cX9_answer 24 = .ok (.ldc 84, 2) := by decide +kernel
theorem dX9_answer_26 : decode cX9_answer 26 = .ok (.ireturn, 1) := by decide +kernel
theorem dX9_noticed_0 : decode cX9_noticed 0 = .ok (.iload_n 1, 1) := by decide +kernel
theorem dX9_noticed_1 : decode cX9_noticed 1 = .ok (.i2l, 1) := by decide +kernel
theorem dX9_noticed_2 : decode cX9_noticed 2 = .ok (.lconst 0, 1) := by decide +kernel
theorem dX9_noticed_3 : decode cX9_noticed 3 = .ok (.aload_n 0, 1) := by decide +kernel
theorem dX9_noticed_4 : decode cX9_noticed 4 = .ok (.getfield 115, 3) := by decide +kernel
theorem dX9_noticed_7 : decode cX9_noticed 7 = .ok (.iconst 1, 1) := by decide +kernel
theorem dX9_noticed_8 : decode cX9_noticed 8 = .ok (.isub, 1) := by decide +kernel
theorem dX9_noticed_9 : decode cX9_noticed 9 = .ok (.i2l, 1) := by decide +kernel
theorem dX9_noticed_10 : decode cX9_noticed 10 = .ok (.invokestatic 55, 3) := by decide +kernel
theorem dX9_noticed_13 : decode cX9_noticed 13 = .ok (.ifCond .ne 6, 3) := by decide +kernel
theorem dX9_noticed_16 : decode cX9_noticed 16 = .ok (.ldc 84, 2) := by decide +kernel
theorem dX9_noticed_18 : decode cX9_noticed 18 = .ok (.ireturn, 1) := by decide +kernel
theorem dX9_keep_0 : decode cX9_keep 0 = .ok (.iload_n 1, 1) := by decide +kernel
theorem dX9_keep_1 : decode cX9_keep 1 = .ok (.i2l, 1) := by decide +kernel
theorem dX9_keep_2 : decode cX9_keep 2 = .ok (.lconst 0, 1) := by decide +kernel
theorem dX9_keep_3 : decode cX9_keep 3 = .ok (.lconst 1, 1) := by decide +kernel
theorem dX9_keep_4 : decode cX9_keep 4 = .ok (.invokestatic 55, 3) := by decide +kernel
theorem dX9_keep_7 : decode cX9_keep 7 = .ok (.ifCond .ne 6, 3) := by decide +kernel
theorem dX9_keep_10 : decode cX9_keep 10 = .ok (.ldc 84, 2) := by decide +kernel
theorem dX9_keep_12 : decode cX9_keep 12 = .ok (.ireturn, 1) := by decide +kernel
theorem dX9_keep_13 : decode cX9_keep 13 = .ok (.aload_n 0, 1) := by decide +kernel
theorem dX9_keep_14 : decode cX9_keep 14 = .ok (.getfield 42, 3) := by decide +kernel
theorem dX9_keep_17 : decode cX9_keep 17 = .ok (.iload_n 1, 1) := by decide +kernel
theorem dX9_keep_18 : decode cX9_keep 18 = .ok (.aload_n 0, 1) := by decide +kernel
theorem dX9_keep_19 : decode cX9_keep 19 = .ok (.getfield 59, 3) := by decide +kernel
theorem dX9_keep_22 : decode cX9_keep 22 = .ok (.iastore, 1) := by decide +kernel
theorem dX9_keep_23 : decode cX9_keep 23 = .ok (.iconst 0, 1) := by decide +kernel
theorem dX9_keep_24 : decode cX9_keep 24 = .ok (.istore_n 2, 1) := by decide +kernel
theorem dX9_keep_25 : decode cX9_keep 25 = .ok (.iload_n 2, 1) := by decide +kernel
theorem dX9_keep_26 : decode cX9_keep 26 = .ok (.aload_n 0, 1) := by decide +kernel
theorem dX9_keep_27 : decode cX9_keep 27 = .ok (.getfield 59, 3) := by decide +kernel
theorem dX9_keep_30 : decode cX9_keep 30 = .ok (.if_icmp .ge 46, 3) := by decide +kernel
theorem dX9_keep_76 : decode cX9_keep 76 = .ok (.aload_n 0, 1) := by decide +kernel
theorem dX9_keep_77 : decode cX9_keep 77 = .ok (.getfield 59, 3) := by decide +kernel
theorem dX9_keep_80 : decode cX9_keep 80 = .ok (.ireturn, 1) := by decide +kernel
theorem dX9_differs_0 : decode cX9_differs 0 = .ok (.iload_n 1, 1) := by decide +kernel
theorem dX9_differs_1 : decode cX9_differs 1 = .ok (.i2l, 1) := by decide +kernel
theorem dX9_differs_2 : decode cX9_differs 2 = .ok (.lconst 0, 1) := by decide +kernel
theorem dX9_differs_3 : decode cX9_differs 3 = .ok (.lconst 1, 1) := by decide +kernel
theorem dX9_differs_4 : decode cX9_differs 4 = .ok (.invokestatic 55, 3) := by decide +kernel
theorem dX9_differs_7 : decode cX9_differs 7 = .ok (.ifCond .ne 6, 3) := by decide +kernel
theorem dX9_differs_10 : decode cX9_differs 10 = .ok (.ldc 84, 2) := by decide +kernel
theorem dX9_differs_12 : decode cX9_differs 12 = .ok (.ireturn, 1) := by decide +kernel
theorem dX9_differs_13 : decode cX9_differs 13 = .ok (.aload_n 0, 1) := by decide +kernel
theorem dX9_differs_14 : decode cX9_differs 14 = .ok (.getfield 42, 3) := by decide +kernel
theorem dX9_differs_17 : decode cX9_differs 17 = .ok (.iload_n 1, 1) := by decide +kernel
theorem dX9_differs_18 : decode cX9_differs 18 = .ok (.iaload, 1) := by decide +kernel
theorem dX9_differs_19 : decode cX9_differs 19 = .ok (.ifCond .ge 6, 3) := by decide +kernel
theorem dX9_differs_22 : decode cX9_differs 22 = .ok (.ldc 85, 2) := by decide +kernel
theorem dX9_differs_24 : decode cX9_differs 24 = .ok (.ireturn, 1) := by decide +kernel
theorem dL_law_0 : decode cL_law 0 = .ok (.new 7, 3) := by decide +kernel
theorem dL_law_3 : decode cL_law 3 = .ok (.dup, 1) := by decide +kernel
theorem dL_law_4 : decode cL_law 4 = .ok (.invokespecial 9, 3) := by decide +kernel
theorem dL_law_7 : decode cL_law 7 = .ok (.astore_n 1, 1) := by decide +kernel
theorem dL_law_8 : decode cL_law 8 = .ok (.new 10, 3) := by decide +kernel
theorem dL_law_11 : decode cL_law 11 = .ok (.dup, 1) := by decide +kernel
theorem dL_law_12 : decode cL_law 12 = .ok (.invokespecial 12, 3) := by decide +kernel
theorem dL_law_15 : decode cL_law 15 = .ok (.astore_n 2, 1) := by decide +kernel
theorem dL_law_16 : decode cL_law 16 = .ok (.iconst 0, 1) := by decide +kernel
theorem dL_law_17 : decode cL_law 17 = .ok (.istore_n 3, 1) := by decide +kernel
theorem dL_law_18 : decode cL_law 18 = .ok (.iload_n 3, 1) := by decide +kernel
theorem dL_law_19 : decode cL_law 19 = .ok (.aload_n 0, 1) := by decide +kernel
theorem dL_law_20 : decode cL_law 20 = .ok (.arraylength, 1) := by decide +kernel
theorem dL_law_21 : decode cL_law 21 = .ok (.bipush 6, 2) := by decide +kernel
theorem dL_law_23 : decode cL_law 23 = .ok (.isub, 1) := by decide +kernel
theorem dL_law_24 : decode cL_law 24 = .ok (.if_icmp .gt 939, 3) := by decide +kernel
theorem dL_law_27 : decode cL_law 27 = .ok (.aload_n 0, 1) := by decide +kernel
theorem dL_law_28 : decode cL_law 28 = .ok (.iload_n 3, 1) := by decide +kernel
theorem dL_law_29 : decode cL_law 29 = .ok (.iaload, 1) := by decide +kernel
theorem dL_law_30 : decode cL_law 30 = .ok (.bipush 31, 2) := by decide +kernel
theorem dL_law_32 : decode cL_law 32 = .ok (.iand, 1) := by decide +kernel
theorem dL_law_33 : decode cL_law 33 = .ok (.tableswitch 924 0 20 #[99, 162, 215, 238, 281, 314, 347, 390, 413, 446, 490, 523, 577, 620, 683, 736, 769, 802, 845, 878, 901], 99) := by decide +kernel
theorem dL_law_132 : decode cL_law 132 = .ok (.aload_n 1, 1) := by decide +kernel
theorem dL_law_133 : decode cL_law 133 = .ok (.aload_n 0, 1) := by decide +kernel
theorem dL_law_134 : decode cL_law 134 = .ok (.iload_n 3, 1) := by decide +kernel
theorem dL_law_135 : decode cL_law 135 = .ok (.iconst 1, 1) := by decide +kernel
theorem dL_law_136 : decode cL_law 136 = .ok (.iadd, 1) := by decide +kernel
theorem dL_law_137 : decode cL_law 137 = .ok (.iaload, 1) := by decide +kernel
theorem dL_law_138 : decode cL_law 138 = .ok (.aload_n 0, 1) := by decide +kernel
theorem dL_law_139 : decode cL_law 139 = .ok (.iload_n 3, 1) := by decide +kernel
theorem dL_law_140 : decode cL_law 140 = .ok (.iconst 2, 1) := by decide +kernel
theorem dL_law_141 : decode cL_law 141 = .ok (.iadd, 1) := by decide +kernel
theorem dL_law_142 : decode cL_law 142 = .ok (.iaload, 1) := by decide +kernel
theorem dL_law_143 : decode cL_law 143 = .ok (.aload_n 0, 1) := by decide +kernel
theorem dL_law_144 : decode cL_law 144 = .ok (.iload_n 3, 1) := by decide +kernel
theorem dL_law_145 : decode cL_law 145 = .ok (.iconst 3, 1) := by decide +kernel
theorem dL_law_146 : decode cL_law 146 = .ok (.iadd, 1) := by decide +kernel
theorem dL_law_147 : decode cL_law 147 = .ok (.iaload, 1) := by decide +kernel
theorem dL_law_148 : decode cL_law 148 = .ok (.aload_n 0, 1) := by decide +kernel
theorem dL_law_149 : decode cL_law 149 = .ok (.iload_n 3, 1) := by decide +kernel
theorem dL_law_150 : decode cL_law 150 = .ok (.iconst 4, 1) := by decide +kernel
theorem dL_law_151 : decode cL_law 151 = .ok (.iadd, 1) := by decide +kernel
theorem dL_law_152 : decode cL_law 152 = .ok (.iaload, 1) := by decide +kernel
theorem dL_law_153 : decode cL_law 153 = .ok (.aload_n 0, 1) := by decide +kernel
theorem dL_law_154 : decode cL_law 154 = .ok (.iload_n 3, 1) := by decide +kernel
theorem dL_law_155 : decode cL_law 155 = .ok (.iconst 5, 1) := by decide +kernel
theorem dL_law_156 : decode cL_law 156 = .ok (.iadd, 1) := by decide +kernel
theorem dL_law_157 : decode cL_law 157 = .ok (.iaload, 1) := by decide +kernel
theorem dL_law_158 : decode cL_law 158 = .ok (.invokevirtual 13, 3) := by decide +kernel
theorem dL_law_161 : decode cL_law 161 = .ok (.aload_n 2, 1) := by decide +kernel
theorem dL_law_162 : decode cL_law 162 = .ok (.aload_n 0, 1) := by decide +kernel
theorem dL_law_163 : decode cL_law 163 = .ok (.iload_n 3, 1) := by decide +kernel
theorem dL_law_164 : decode cL_law 164 = .ok (.iconst 1, 1) := by decide +kernel
theorem dL_law_165 : decode cL_law 165 = .ok (.iadd, 1) := by decide +kernel
theorem dL_law_166 : decode cL_law 166 = .ok (.iaload, 1) := by decide +kernel
theorem dL_law_167 : decode cL_law 167 = .ok (.aload_n 0, 1) := by decide +kernel
theorem dL_law_168 : decode cL_law 168 = .ok (.iload_n 3, 1) := by decide +kernel
theorem dL_law_169 : decode cL_law 169 = .ok (.iconst 2, 1) := by decide +kernel
