theorem dX8_init_0 : decode cX8_init 0 = .ok (.aload_n 0, 1) := by decide +kernel
theorem dX8_init_1 : decode cX8_init 1 = .ok (.invokespecial 3, 3) := by decide +kernel
theorem dX8_init_4 : decode cX8_init 4 = .ok (.aload_n 0, 1) := by decide +kernel
theorem dX8_init_5 : decode cX8_init 5 = .ok (.new 9, 3) := by decide +kernel
theorem dX8_init_8 : decode cX8_init 8 = .ok (.dup, 1) := by decide +kernel
theorem dX8_init_9 : decode cX8_init 9 = .ok (.invokespecial 11, 3) := by decide +kernel
theorem dX8_init_12 : decode cX8_init 12 = .ok (.putfield 12, 3) := by decide +kernel
theorem dX8_init_15 : decode cX8_init 15 = .ok (.aload_n 0, 1) := by decide +kernel
theorem dX8_init_16 : decode cX8_init 16 = .ok (.new 9, 3) := by decide +kernel
theorem dX8_init_19 : decode cX8_init 19 = .ok (.dup, 1) := by decide +kernel
theorem dX8_init_20 : decode cX8_init 20 = .ok (.invokespecial 11, 3) := by decide +kernel
theorem dX8_init_23 : decode cX8_init 23 = .ok (.putfield 16, 3) := by decide +kernel
theorem dX8_init_26 : decode cX8_init 26 = .ok (.aload_n 0, 1) := by decide +kernel
theorem dX8_init_27 : decode cX8_init 27 = .ok (.new 9, 3) := by decide +kernel
theorem dX8_init_30 : decode cX8_init 30 = .ok (.dup, 1) := by decide +kernel
theorem dX8_init_31 : decode cX8_init 31 = .ok (.invokespecial 11, 3) := by decide +kernel
theorem dX8_init_34 : decode cX8_init 34 = .ok (.putfield 19, 3) := by decide +kernel
theorem dX8_init_37 : decode cX8_init 37 = .ok (.aload_n 0, 1) := by decide +kernel
theorem dX8_init_38 : decode cX8_init 38 = .ok (.bipush 40, 2) := by decide +kernel
theorem dX8_init_40 : decode cX8_init 40 = .ok (.anewarray 22, 3) := by decide +kernel
theorem dX8_init_43 : decode cX8_init 43 = .ok (.putfield 24, 3) := by decide +kernel
theorem dX8_init_46 : decode cX8_init 46 = .ok (.aload_n 0, 1) := by decide +kernel
theorem dX8_init_47 : decode cX8_init 47 = .ok (.bipush 40, 2) := by decide +kernel
theorem dX8_init_49 : decode cX8_init 49 = .ok (.anewarray 28, 3) := by decide +kernel
theorem dX8_init_52 : decode cX8_init 52 = .ok (.putfield 30, 3) := by decide +kernel
theorem dX8_init_55 : decode cX8_init 55 = .ok (.aload_n 0, 1) := by decide +kernel
theorem dX8_init_56 : decode cX8_init 56 = .ok (.bipush 50, 2) := by decide +kernel
theorem dX8_init_58 : decode cX8_init 58 = .ok (.putfield 34, 3) := by decide +kernel
theorem dX8_init_61 : decode cX8_init 61 = .ok (.aload_n 0, 1) := by decide +kernel
theorem dX8_init_62 : decode cX8_init 62 = .ok (.bipush 20, 2) := by decide +kernel
theorem dX8_init_64 : decode cX8_init 64 = .ok (.putfield 38, 3) := by decide +kernel
theorem dX8_init_67 : decode cX8_init 67 = .ok (.aload_n 0, 1) := by decide +kernel
theorem dX8_init_68 : decode cX8_init 68 = .ok (.new 41, 3) := by decide +kernel
theorem dX8_init_71 : decode cX8_init 71 = .ok (.dup, 1) := by decide +kernel
theorem dX8_init_72 : decode cX8_init 72 = .ok (.invokespecial 43, 3) := by decide +kernel
theorem dX8_init_75 : decode cX8_init 75 = .ok (.putfield 44, 3) := by decide +kernel
theorem dX8_init_78 : decode cX8_init 78 = .ok (.aload_n 0, 1) := by decide +kernel
theorem dX8_init_79 : decode cX8_init 79 = .ok (.new 48, 3) := by decide +kernel
theorem dX8_init_82 : decode cX8_init 82 = .ok (.dup, 1) := by decide +kernel
theorem dX8_init_83 : decode cX8_init 83 = .ok (.invokespecial 50, 3) := by decide +kernel
theorem dX8_init_86 : decode cX8_init 86 = .ok (.putfield 51, 3) := by decide +kernel
theorem dX8_init_89 : decode cX8_init 89 = .ok (.aload_n 0, 1) := by decide +kernel
theorem dX8_init_90 : decode cX8_init 90 = .ok (.new 55, 3) := by decide +kernel
theorem dX8_init_93 : decode cX8_init 93 = .ok (.dup, 1) := by decide +kernel
theorem dX8_init_94 : decode cX8_init 94 = .ok (.invokespecial 57, 3) := by decide +kernel
theorem dX8_init_97 : decode cX8_init 97 = .ok (.putfield 58, 3) := by decide +kernel
theorem dX8_init_100 : decode cX8_init 100 = .ok (.aload_n 0, 1) := by decide +kernel
theorem dX8_init_101 : decode cX8_init 101 = .ok (.new 62, 3) := by decide +kernel
theorem dX8_init_104 : decode cX8_init 104 = .ok (.dup, 1) := by decide +kernel
theorem dX8_init_105 : decode cX8_init 105 = .ok (.invokespecial 64, 3) := by decide +kernel
theorem dX8_init_108 : decode cX8_init 108 = .ok (.putfield 65, 3) := by decide +kernel
theorem dX8_init_111 : decode cX8_init 111 = .ok (.aload_n 0, 1) := by decide +kernel
theorem dX8_init_112 : decode cX8_init 112 = .ok (.new 69, 3) := by decide +kernel
theorem dX8_init_115 : decode cX8_init 115 = .ok (.dup, 1) := by decide +kernel
theorem dX8_init_116 : decode cX8_init 116 = .ok (.invokespecial 71, 3) := by decide +kernel
theorem dX8_init_119 : decode cX8_init 119 = .ok (.putfield 72, 3) := by decide +kernel
theorem dX8_init_122 : decode cX8_init 122 = .ok (.return_, 1) := by decide +kernel
theorem dX8_thing_0 : decode cX8_thing 0 = .ok (.iload_n 1, 1) := by decide +kernel
theorem dX8_thing_1 : decode cX8_thing 1 = .ok (.invokestatic 76, 3) := by decide +kernel
theorem dX8_thing_4 : decode cX8_thing 4 = .ok (.ifCond .eq 25, 3) := by decide +kernel
theorem dX8_thing_7 : decode cX8_thing 7 = .ok (.iload_n 2, 1) := by decide +kernel
theorem dX8_thing_8 : decode cX8_thing 8 = .ok (.iload_n 3, 1) := by decide +kernel
theorem dX8_thing_9 : decode cX8_thing 9 = .ok (.iload 4, 2) := by decide +kernel
theorem dX8_thing_11 : decode cX8_thing 11 = .ok (.invokestatic 80, 3) := by decide +kernel
theorem dX8_thing_14 : decode cX8_thing 14 = .ok (.ifCond .eq 15, 3) := by decide +kernel
theorem dX8_thing_17 : decode cX8_thing 17 = .ok (.iload 5, 2) := by decide +kernel
theorem dX8_thing_19 : decode cX8_thing 19 = .ok (.iconst 0, 1) := by decide +kernel
theorem dX8_thing_20 : decode cX8_thing 20 = .ok (.sipush 200, 3) := by decide +kernel
theorem dX8_thing_23 : decode cX8_thing 23 = .ok (.invokestatic 84, 3) := by decide +kernel
theorem dX8_thing_26 : decode cX8_thing 26 = .ok (.ifCond .ne 6, 3) := by decide +kernel
theorem dX8_thing_29 : decode cX8_thing 29 = .ok (.ldc 87, 2) := by decide +kernel
theorem dX8_thing_31 : decode cX8_thing 31 = .ok (.ireturn, 1) := by decide +kernel
theorem dX8_thing_32 : decode cX8_thing 32 = .ok (.aload_n 0, 1) := by decide +kernel
theorem dX8_thing_33 : decode cX8_thing 33 = .ok (.getfield 12, 3) := by decide +kernel
theorem dX8_thing_36 : decode cX8_thing 36 = .ok (.getfield 88, 3) := by decide +kernel
theorem dX8_thing_39 : decode cX8_thing 39 = .ok (.istore 6, 2) := by decide +kernel
theorem dX8_thing_41 : decode cX8_thing 41 = .ok (.aload_n 0, 1) := by decide +kernel
theorem dX8_thing_42 : decode cX8_thing 42 = .ok (.getfield 12, 3) := by decide +kernel
theorem dX8_thing_45 : decode cX8_thing 45 = .ok (.invokevirtual 91, 3) := by decide +kernel
theorem dX8_thing_48 : decode cX8_thing 48 = .ok (.astore 7, 2) := by decide +kernel
theorem dX8_thing_50 : decode cX8_thing 50 = .ok (.aload 7, 2) := by decide +kernel
theorem dX8_thing_52 : decode cX8_thing 52 = .ok (.ifnonnull 6, 3) := by decide +kernel
theorem dX8_thing_55 : decode cX8_thing 55 = .ok (.ldc 95, 2) := by decide +kernel
theorem dX8_thing_57 : decode cX8_thing 57 = .ok (.ireturn, 1) := by decide +kernel
theorem dX8_thing_58 : decode cX8_thing 58 = .ok (.aload 7, 2) := by decide +kernel
theorem dX8_thing_60 : decode cX8_thing 60 = .ok (.iload_n 1, 1) := by decide +kernel
theorem dX8_thing_61 : decode cX8_thing 61 = .ok (.iload 5, 2) := by decide +kernel
theorem dX8_thing_63 : decode cX8_thing 63 = .ok (.invokevirtual 96, 3) := by decide +kernel
theorem dX8_thing_66 : decode cX8_thing 66 = .ok (.aload 7, 2) := by decide +kernel
theorem dX8_thing_68 : decode cX8_thing 68 = .ok (.iload_n 2, 1) := by decide +kernel
theorem dX8_thing_69 : decode cX8_thing 69 = .ok (.iload_n 3, 1) := by decide +kernel
theorem dX8_thing_70 : decode cX8_thing 70 = .ok (.iload 4, 2) := by decide +kernel
theorem dX8_thing_72 : decode cX8_thing 72 = .ok (.invokevirtual 100, 3) := by decide +kernel
theorem dX8_thing_75 : decode cX8_thing 75 = .ok (.pop, 1) := by decide +kernel
theorem dX8_thing_76 : decode cX8_thing 76 = .ok (.iload 6, 2) := by decide +kernel
theorem dX8_thing_78 : decode cX8_thing 78 = .ok (.ireturn, 1) := by decide +kernel
theorem dX8_place_0 : decode cX8_place 0 = .ok (.aload_n 0, 1) := by decide +kernel
theorem dX8_place_1 : decode cX8_place 1 = .ok (.getfield 12, 3) := by decide +kernel
theorem dX8_place_4 : decode cX8_place 4 = .ok (.iload_n 1, 1) := by decide +kernel
theorem dX8_place_5 : decode cX8_place 5 = .ok (.invokevirtual 103, 3) := by decide +kernel
theorem dX8_place_8 : decode cX8_place 8 = .ok (.astore 5, 2) := by decide +kernel
theorem dX8_place_10 : decode cX8_place 10 = .ok (.aload 5, 2) := by decide +kernel
theorem dX8_place_12 : decode cX8_place 12 = .ok (.ifnonnull 6, 3) := by decide +kernel
theorem dX8_place_15 : decode cX8_place 15 = .ok (.ldc 107, 2) := by decide +kernel
theorem dX8_place_17 : decode cX8_place 17 = .ok (.ireturn, 1) := by decide +kernel
theorem dX8_place_18 : decode cX8_place 18 = .ok (.iload_n 2, 1) := by decide +kernel
theorem dX8_place_19 : decode cX8_place 19 = .ok (.iload_n 3, 1) := by decide +kernel
theorem dX8_place_20 : decode cX8_place 20 = .ok (.iload 4, 2) := by decide +kernel
theorem dX8_place_22 : decode cX8_place 22 = .ok (.invokestatic 80, 3) := by decide +kernel
theorem dX8_place_25 : decode cX8_place 25 = .ok (.ifCond .ne 6, 3) := by decide +kernel
theorem dX8_place_28 : decode cX8_place 28 = .ok (.ldc 87, 2) := by decide +kernel
theorem dX8_place_30 : decode cX8_place 30 = .ok (.ireturn, 1) := by decide +kernel
theorem dX8_place_31 : decode cX8_place 31 = .ok (.aload 5, 2) := by decide +kernel
theorem dX8_place_33 : decode cX8_place 33 = .ok (.getfield 108, 3) := by decide +kernel
theorem dX8_place_36 : decode cX8_place 36 = .ok (.ifCond .ne 13, 3) := by decide +kernel
theorem dX8_place_39 : decode cX8_place 39 = .ok (.aload 5, 2) := by decide +kernel
theorem dX8_place_41 : decode cX8_place 41 = .ok (.invokevirtual 112, 3) := by decide +kernel
theorem dX8_place_44 : decode cX8_place 44 = .ok (.bipush 39, 2) := by decide +kernel
theorem dX8_place_46 : decode cX8_place 46 = .ok (.if_icmp .lt 6, 3) := by decide +kernel
theorem dX8_place_49 : decode cX8_place 49 = .ok (.ldc 116, 2) := by decide +kernel
theorem dX8_place_51 : decode cX8_place 51 = .ok (.ireturn, 1) := by decide +kernel
theorem dX8_place_52 : decode cX8_place 52 = .ok (.aload 5, 2) := by decide +kernel
theorem dX8_place_54 : decode cX8_place 54 = .ok (.iload_n 2, 1) := by decide +kernel
theorem dX8_place_55 : decode cX8_place 55 = .ok (.iload_n 3, 1) := by decide +kernel
theorem dX8_place_56 : decode cX8_place 56 = .ok (.iload 4, 2) := by decide +kernel
theorem dX8_place_58 : decode cX8_place 58 = .ok (.invokevirtual 100, 3) := by decide +kernel
theorem dX8_place_61 : decode cX8_place 61 = .ok (.ifCond .eq 11, 3) := by decide +kernel
theorem dX8_place_64 : decode cX8_place 64 = .ok (.aload 5, 2) := by decide +kernel
theorem dX8_place_66 : decode cX8_place 66 = .ok (.getfield 117, 3) := by decide +kernel
theorem dX8_place_69 : decode cX8_place 69 = .ok (.goto 5, 3) := by decide +kernel
theorem dX8_place_72 : decode cX8_place 72 = .ok (.ldc 95, 2) := by decide +kernel
theorem dX8_place_74 : decode cX8_place 74 = .ok (.ireturn, 1) := by decide +kernel
theorem dX8_gone_0 : decode cX8_gone 0 = .ok (.aload_n 0, 1) := by decide +kernel
theorem dX8_gone_1 : decode cX8_gone 1 = .ok (.getfield 12, 3) := by decide +kernel
theorem dX8_gone_4 : decode cX8_gone 4 = .ok (.iload_n 1, 1) := by decide +kernel
theorem dX8_gone_5 : decode cX8_gone 5 = .ok (.invokevirtual 103, 3) := by decide +kernel
theorem dX8_gone_8 : decode cX8_gone 8 = .ok (.astore_n 2, 1) := by decide +kernel
theorem dX8_gone_9 : decode cX8_gone 9 = .ok (.aload_n 2, 1) := by decide +kernel
theorem dX8_gone_10 : decode cX8_gone 10 = .ok (.ifnonnull 6, 3) := by decide +kernel
theorem dX8_gone_13 : decode cX8_gone 13 = .ok (.ldc 107, 2) := by decide +kernel
theorem dX8_gone_15 : decode cX8_gone 15 = .ok (.ireturn, 1) := by decide +kernel
theorem dX8_gone_16 : decode cX8_gone 16 = .ok (.aload_n 2, 1) := by decide +kernel
theorem dX8_gone_17 : decode cX8_gone 17 = .ok (.getfield 108, 3) := by decide +kernel
theorem dX8_gone_20 : decode cX8_gone 20 = .ok (.ifCond .eq 6, 3) := by decide +kernel
theorem dX8_gone_23 : decode cX8_gone 23 = .ok (.ldc 116, 2) := by decide +kernel
theorem dX8_gone_25 : decode cX8_gone 25 = .ok (.ireturn, 1) := by decide +kernel
theorem dX8_gone_26 : decode cX8_gone 26 = .ok (.aload_n 2, 1) := by decide +kernel
theorem dX8_gone_27 : decode cX8_gone 27 = .ok (.iconst 1, 1) := by decide +kernel
theorem dX8_gone_28 : decode cX8_gone 28 = .ok (.putfield 108, 3) := by decide +kernel
theorem dX8_gone_31 : decode cX8_gone 31 = .ok (.iconst 1, 1) := by decide +kernel
theorem dX8_gone_32 : decode cX8_gone 32 = .ok (.ireturn, 1) := by decide +kernel
theorem dX8_breaks_0 : decode cX8_breaks 0 = .ok (.aload_n 0, 1) := by decide +kernel
theorem dX8_breaks_1 : decode cX8_breaks 1 = .ok (.getfield 12, 3) := by decide +kernel
theorem dX8_breaks_4 : decode cX8_breaks 4 = .ok (.iload_n 1, 1) := by decide +kernel
theorem dX8_breaks_5 : decode cX8_breaks 5 = .ok (.invokevirtual 103, 3) := by decide +kernel
theorem dX8_breaks_8 : decode cX8_breaks 8 = .ok (.astore 4, 2) := by decide +kernel
theorem dX8_breaks_10 : decode cX8_breaks 10 = .ok (.aload 4, 2) := by decide +kernel
theorem dX8_breaks_12 : decode cX8_breaks 12 = .ok (.ifnonnull 6, 3) := by decide +kernel
theorem dX8_breaks_15 : decode cX8_breaks 15 = .ok (.ldc 107, 2) := by decide +kernel
theorem dX8_breaks_17 : decode cX8_breaks 17 = .ok (.ireturn, 1) := by decide +kernel
theorem dX8_breaks_18 : decode cX8_breaks 18 = .ok (.iload_n 3, 1) := by decide +kernel
theorem dX8_breaks_19 : decode cX8_breaks 19 = .ok (.iconst 2, 1) := by decide +kernel
theorem dX8_breaks_20 : decode cX8_breaks 20 = .ok (.bipush 6, 2) := by decide +kernel
theorem dX8_breaks_22 : decode cX8_breaks 22 = .ok (.invokestatic 84, 3) := by decide +kernel
theorem dX8_breaks_25 : decode cX8_breaks 25 = .ok (.ifCond .eq 12, 3) := by decide +kernel
theorem dX8_breaks_28 : decode cX8_breaks 28 = .ok (.aload 4, 2) := by decide +kernel
theorem dX8_breaks_30 : decode cX8_breaks 30 = .ok (.iload_n 2, 1) := by decide +kernel
theorem dX8_breaks_31 : decode cX8_breaks 31 = .ok (.invokevirtual 120, 3) := by decide +kernel
theorem dX8_breaks_34 : decode cX8_breaks 34 = .ok (.ifCond .ne 6, 3) := by decide +kernel
theorem dX8_breaks_37 : decode cX8_breaks 37 = .ok (.ldc 87, 2) := by decide +kernel
theorem dX8_breaks_39 : decode cX8_breaks 39 = .ok (.ireturn, 1) := by decide +kernel
theorem dX8_breaks_40 : decode cX8_breaks 40 = .ok (.aload 4, 2) := by decide +kernel
theorem dX8_breaks_42 : decode cX8_breaks 42 = .ok (.getfield 108, 3) := by decide +kernel
theorem dX8_breaks_45 : decode cX8_breaks 45 = .ok (.ifCond .ne 13, 3) := by decide +kernel
theorem dX8_breaks_48 : decode cX8_breaks 48 = .ok (.aload 4, 2) := by decide +kernel
theorem dX8_breaks_50 : decode cX8_breaks 50 = .ok (.iload_n 2, 1) := by decide +kernel
theorem dX8_breaks_51 : decode cX8_breaks 51 = .ok (.iload_n 3, 1) := by decide +kernel
theorem dX8_breaks_52 : decode cX8_breaks 52 = .ok (.invokestatic 123, 3) := by decide +kernel
theorem dX8_breaks_55 : decode cX8_breaks 55 = .ok (.ifCond .ne 6, 3) := by decide +kernel
theorem dX8_breaks_58 : decode cX8_breaks 58 = .ok (.ldc 116, 2) := by decide +kernel
theorem dX8_breaks_60 : decode cX8_breaks 60 = .ok (.ireturn, 1) := by decide +kernel
theorem dX8_breaks_61 : decode cX8_breaks 61 = .ok (.aload_n 0, 1) := by decide +kernel
theorem dX8_breaks_62 : decode cX8_breaks 62 = .ok (.getfield 12, 3) := by decide +kernel
theorem dX8_breaks_65 : decode cX8_breaks 65 = .ok (.getfield 88, 3) := by decide +kernel
theorem dX8_breaks_68 : decode cX8_breaks 68 = .ok (.iload_n 3, 1) := by decide +kernel
theorem dX8_breaks_69 : decode cX8_breaks 69 = .ok (.iadd, 1) := by decide +kernel
theorem dX8_breaks_70 : decode cX8_breaks 70 = .ok (.bipush 16, 2) := by decide +kernel
theorem dX8_breaks_72 : decode cX8_breaks 72 = .ok (.if_icmp .le 6, 3) := by decide +kernel
theorem dX8_breaks_75 : decode cX8_breaks 75 = .ok (.ldc 95, 2) := by decide +kernel
theorem dX8_breaks_77 : decode cX8_breaks 77 = .ok (.ireturn, 1) := by decide +kernel
theorem dX8_breaks_78 : decode cX8_breaks 78 = .ok (.aload_n 0, 1) := by decide +kernel
theorem dX8_breaks_79 : decode cX8_breaks 79 = .ok (.getfield 12, 3) := by decide +kernel
theorem dX8_breaks_82 : decode cX8_breaks 82 = .ok (.getfield 88, 3) := by decide +kernel
theorem dX8_breaks_85 : decode cX8_breaks 85 = .ok (.istore 5, 2) := by decide +kernel
theorem dX8_breaks_87 : decode cX8_breaks 87 = .ok (.iconst 0, 1) := by decide +kernel
theorem dX8_breaks_88 : decode cX8_breaks 88 = .ok (.istore 6, 2) := by decide +kernel
theorem dX8_breaks_90 : decode cX8_breaks 90 = .ok (.iload 6, 2) := by decide +kernel
theorem dX8_breaks_92 : decode cX8_breaks 92 = .ok (.iload_n 3, 1) := by decide +kernel
theorem dX8_breaks_93 : decode cX8_breaks 93 = .ok (.if_icmp .ge 27, 3) := by decide +kernel
theorem dX8_breaks_96 : decode cX8_breaks 96 = .ok (.aload_n 0, 1) := by decide +kernel
theorem dX8_breaks_97 : decode cX8_breaks 97 = .ok (.aload 4, 2) := by decide +kernel
theorem dX8_breaks_99 : decode cX8_breaks 99 = .ok (.iload_n 2, 1) := by decide +kernel
theorem dX8_breaks_100 : decode cX8_breaks 100 = .ok (.iload 6, 2) := by decide +kernel
theorem dX8_breaks_102 : decode cX8_breaks 102 = .ok (.iload_n 3, 1) := by decide +kernel
theorem dX8_breaks_103 : decode cX8_breaks 103 = .ok (.invokestatic 127, 3) := by decide +kernel
theorem dX8_breaks_106 : decode cX8_breaks 106 = .ok (.iload 6, 2) := by decide +kernel
theorem dX8_breaks_108 : decode cX8_breaks 108 = .ok (.invokestatic 131, 3) := by decide +kernel
theorem dX8_breaks_111 : decode cX8_breaks 111 = .ok (.invokevirtual 135, 3) := by decide +kernel
theorem dX8_breaks_114 : decode cX8_breaks 114 = .ok (.iinc 6 1, 3) := by decide +kernel
theorem dX8_breaks_117 : decode cX8_breaks 117 = .ok (.goto (-27), 3) := by decide +kernel
theorem dX8_breaks_120 : decode cX8_breaks 120 = .ok (.aload 4, 2) := by decide +kernel
theorem dX8_breaks_122 : decode cX8_breaks 122 = .ok (.iconst 1, 1) := by decide +kernel
theorem dX8_breaks_123 : decode cX8_breaks 123 = .ok (.putfield 108, 3) := by decide +kernel
theorem dX8_breaks_126 : decode cX8_breaks 126 = .ok (.iload 5, 2) := by decide +kernel
theorem dX8_breaks_128 : decode cX8_breaks 128 = .ok (.ireturn, 1) := by decide +kernel
theorem dX8_rule_0 : decode cX8_rule 0 = .ok (.iload_n 1, 1) := by decide +kernel
theorem dX8_rule_1 : decode cX8_rule 1 = .ok (.ifCond .ne 26, 3) := by decide +kernel
theorem dX8_rule_4 : decode cX8_rule 4 = .ok (.iload_n 2, 1) := by decide +kernel
theorem dX8_rule_5 : decode cX8_rule 5 = .ok (.iconst 1, 1) := by decide +kernel
theorem dX8_rule_6 : decode cX8_rule 6 = .ok (.sipush 3000, 3) := by decide +kernel
theorem dX8_rule_9 : decode cX8_rule 9 = .ok (.invokestatic 84, 3) := by decide +kernel
theorem dX8_rule_12 : decode cX8_rule 12 = .ok (.ifCond .eq 15, 3) := by decide +kernel
theorem dX8_rule_15 : decode cX8_rule 15 = .ok (.aload_n 0, 1) := by decide +kernel
theorem dX8_rule_16 : decode cX8_rule 16 = .ok (.getfield 34, 3) := by decide +kernel
theorem dX8_rule_19 : decode cX8_rule 19 = .ok (.istore_n 3, 1) := by decide +kernel
theorem dX8_rule_20 : decode cX8_rule 20 = .ok (.aload_n 0, 1) := by decide +kernel
theorem dX8_rule_21 : decode cX8_rule 21 = .ok (.iload_n 2, 1) := by decide +kernel
theorem dX8_rule_22 : decode cX8_rule 22 = .ok (.putfield 34, 3) := by decide +kernel
theorem dX8_rule_25 : decode cX8_rule 25 = .ok (.iload_n 3, 1) := by decide +kernel
theorem dX8_rule_26 : decode cX8_rule 26 = .ok (.ireturn, 1) := by decide +kernel
theorem dX8_rule_27 : decode cX8_rule 27 = .ok (.iload_n 1, 1) := by decide +kernel
theorem dX8_rule_28 : decode cX8_rule 28 = .ok (.iconst 1, 1) := by decide +kernel
theorem dX8_rule_29 : decode cX8_rule 29 = .ok (.if_icmp .ne 26, 3) := by decide +kernel
theorem dX8_rule_32 : decode cX8_rule 32 = .ok (.iload_n 2, 1) := by decide +kernel
theorem dX8_rule_33 : decode cX8_rule 33 = .ok (.iconst 0, 1) := by decide +kernel
theorem dX8_rule_34 : decode cX8_rule 34 = .ok (.sipush 400, 3) := by decide +kernel
theorem dX8_rule_37 : decode cX8_rule 37 = .ok (.invokestatic 84, 3) := by decide +kernel
theorem dX8_rule_40 : decode cX8_rule 40 = .ok (.ifCond .eq 15, 3) := by decide +kernel
theorem dX8_rule_43 : decode cX8_rule 43 = .ok (.aload_n 0, 1) := by decide +kernel
theorem dX8_rule_44 : decode cX8_rule 44 = .ok (.getfield 38, 3) := by decide +kernel
theorem dX8_rule_47 : decode cX8_rule 47 = .ok (.istore_n 3, 1) := by decide +kernel
theorem dX8_rule_48 : decode cX8_rule 48 = .ok (.aload_n 0, 1) := by decide +kernel
theorem dX8_rule_49 : decode cX8_rule 49 = .ok (.iload_n 2, 1) := by decide +kernel
theorem dX8_rule_50 : decode cX8_rule 50 = .ok (.putfield 38, 3) := by decide +kernel
theorem dX8_rule_53 : decode cX8_rule 53 = .ok (.iload_n 3, 1) := by decide +kernel
theorem dX8_rule_54 : decode cX8_rule 54 = .ok (.ireturn, 1) := by decide +kernel
theorem dX8_rule_55 : decode cX8_rule 55 = .ok (.ldc 87, 2) := by decide +kernel
theorem dX8_rule_57 : decode cX8_rule 57 = .ok (.ireturn, 1) := by decide +kernel
theorem dX8_told_0 : decode cX8_told 0 = .ok (.aload_n 0, 1) := by decide +kernel
theorem dX8_told_1 : decode cX8_told 1 = .ok (.getfield 12, 3) := by decide +kernel
theorem dX8_told_4 : decode cX8_told 4 = .ok (.iload_n 1, 1) := by decide +kernel
theorem dX8_told_5 : decode cX8_told 5 = .ok (.invokevirtual 103, 3) := by decide +kernel
theorem dX8_told_8 : decode cX8_told 8 = .ok (.astore_n 3, 1) := by decide +kernel
theorem dX8_told_9 : decode cX8_told 9 = .ok (.aload_n 3, 1) := by decide +kernel
theorem dX8_told_10 : decode cX8_told 10 = .ok (.ifnonnull 6, 3) := by decide +kernel
theorem dX8_told_13 : decode cX8_told 13 = .ok (.ldc 107, 2) := by decide +kernel
theorem dX8_told_15 : decode cX8_told 15 = .ok (.ireturn, 1) := by decide +kernel
theorem dX8_told_16 : decode cX8_told 16 = .ok (.iload_n 2, 1) := by decide +kernel
theorem dX8_told_17 : decode cX8_told 17 = .ok (.tableswitch 70 0 4 #[35, 40, 45, 50, 63], 35) := by decide +kernel
theorem dX8_told_52 : decode cX8_told 52 = .ok (.aload_n 3, 1) := by decide +kernel
theorem dX8_told_53 : decode cX8_told 53 = .ok (.getfield 139, 3) := by decide +kernel
theorem dX8_told_56 : decode cX8_told 56 = .ok (.ireturn, 1) := by decide +kernel
theorem dX8_told_57 : decode cX8_told 57 = .ok (.aload_n 3, 1) := by decide +kernel
theorem dX8_told_58 : decode cX8_told 58 = .ok (.getfield 117, 3) := by decide +kernel
theorem dX8_told_61 : decode cX8_told 61 = .ok (.ireturn, 1) := by decide +kernel
theorem dX8_told_62 : decode cX8_told 62 = .ok (.aload_n 3, 1) := by decide +kernel
theorem dX8_told_63 : decode cX8_told 63 = .ok (.getfield 142, 3) := by decide +kernel
theorem dX8_told_66 : decode cX8_told 66 = .ok (.ireturn, 1) := by decide +kernel
theorem dX8_told_67 : decode cX8_told 67 = .ok (.aload_n 3, 1) := by decide +kernel
theorem dX8_told_68 : decode cX8_told 68 = .ok (.getfield 108, 3) := by decide +kernel
theorem dX8_told_71 : decode cX8_told 71 = .ok (.ifCond .eq 7, 3) := by decide +kernel
theorem dX8_told_74 : decode cX8_told 74 = .ok (.iconst 1, 1) := by decide +kernel
theorem dX8_told_75 : decode cX8_told 75 = .ok (.goto 4, 3) := by decide +kernel
theorem dX8_told_78 : decode cX8_told 78 = .ok (.iconst 0, 1) := by decide +kernel
theorem dX8_told_79 : decode cX8_told 79 = .ok (.ireturn, 1) := by decide +kernel
theorem dX8_told_80 : decode cX8_told 80 = .ok (.aload_n 0, 1) := by decide +kernel
theorem dX8_told_81 : decode cX8_told 81 = .ok (.iload_n 1, 1) := by decide +kernel
theorem dX8_told_82 : decode cX8_told 82 = .ok (.aload_n 3, 1) := by decide +kernel
theorem dX8_told_83 : decode cX8_told 83 = .ok (.invokevirtual 145, 3) := by decide +kernel
theorem dX8_told_86 : decode cX8_told 86 = .ok (.ireturn, 1) := by decide +kernel
theorem dX8_told_87 : decode cX8_told 87 = .ok (.ldc 87, 2) := by decide +kernel
theorem dX8_told_89 : decode cX8_told 89 = .ok (.ireturn, 1) := by decide +kernel
theorem dX8_at_0 : decode cX8_at 0 = .ok (.aload_n 0, 1) := by decide +kernel
theorem dX8_at_1 : decode cX8_at 1 = .ok (.getfield 12, 3) := by decide +kernel
theorem dX8_at_4 : decode cX8_at 4 = .ok (.iload_n 1, 1) := by decide +kernel
theorem dX8_at_5 : decode cX8_at 5 = .ok (.invokevirtual 103, 3) := by decide +kernel
theorem dX8_at_8 : decode cX8_at 8 = .ok (.astore 4, 2) := by decide +kernel
theorem dX8_at_10 : decode cX8_at 10 = .ok (.aload 4, 2) := by decide +kernel
theorem dX8_at_12 : decode cX8_at 12 = .ok (.ifnonnull 6, 3) := by decide +kernel
theorem dX8_at_15 : decode cX8_at 15 = .ok (.ldc 107, 2) := by decide +kernel
theorem dX8_at_17 : decode cX8_at 17 = .ok (.ireturn, 1) := by decide +kernel
theorem dX8_at_18 : decode cX8_at 18 = .ok (.iload_n 2, 1) := by decide +kernel
theorem dX8_at_19 : decode cX8_at 19 = .ok (.invokestatic 76, 3) := by decide +kernel
theorem dX8_at_22 : decode cX8_at 22 = .ok (.ifCond .eq 12, 3) := by decide +kernel
theorem dX8_at_25 : decode cX8_at 25 = .ok (.iload_n 3, 1) := by decide +kernel
theorem dX8_at_26 : decode cX8_at 26 = .ok (.iconst 0, 1) := by decide +kernel
theorem dX8_at_27 : decode cX8_at 27 = .ok (.iconst 2, 1) := by decide +kernel
theorem dX8_at_28 : decode cX8_at 28 = .ok (.invokestatic 84, 3) := by decide +kernel
theorem dX8_at_31 : decode cX8_at 31 = .ok (.ifCond .ne 6, 3) := by decide +kernel
theorem dX8_at_34 : decode cX8_at 34 = .ok (.ldc 87, 2) := by decide +kernel
theorem dX8_at_36 : decode cX8_at 36 = .ok (.ireturn, 1) := by decide +kernel
theorem dX8_at_37 : decode cX8_at 37 = .ok (.aload 4, 2) := by decide +kernel
theorem dX8_at_39 : decode cX8_at 39 = .ok (.iload_n 2, 1) := by decide +kernel
theorem dX8_at_40 : decode cX8_at 40 = .ok (.invokevirtual 120, 3) := by decide +kernel
theorem dX8_at_43 : decode cX8_at 43 = .ok (.ifCond .eq 13, 3) := by decide +kernel
theorem dX8_at_46 : decode cX8_at 46 = .ok (.aload 4, 2) := by decide +kernel
theorem dX8_at_48 : decode cX8_at 48 = .ok (.iload_n 2, 1) := by decide +kernel
theorem dX8_at_49 : decode cX8_at 49 = .ok (.iload_n 3, 1) := by decide +kernel
theorem dX8_at_50 : decode cX8_at 50 = .ok (.invokevirtual 149, 3) := by decide +kernel
theorem dX8_at_53 : decode cX8_at 53 = .ok (.goto 5, 3) := by decide +kernel
theorem dX8_at_56 : decode cX8_at 56 = .ok (.ldc 116, 2) := by decide +kernel
theorem dX8_at_58 : decode cX8_at 58 = .ok (.ireturn, 1) := by decide +kernel
theorem dX8_count_0 : decode cX8_count 0 = .ok (.iload_n 1, 1) := by decide +kernel
theorem dX8_count_1 : decode cX8_count 1 = .ok (.tableswitch 118 0 9 #[55, 63, 71, 76, 81, 88, 96, 103, 108, 113], 55) := by decide +kernel
theorem dX8_count_56 : decode cX8_count 56 = .ok (.aload_n 0, 1) := by decide +kernel
theorem dX8_count_57 : decode cX8_count 57 = .ok (.getfield 12, 3) := by decide +kernel
theorem dX8_count_60 : decode cX8_count 60 = .ok (.getfield 88, 3) := by decide +kernel
theorem dX8_count_63 : decode cX8_count 63 = .ok (.ireturn, 1) := by decide +kernel
theorem dX8_count_64 : decode cX8_count 64 = .ok (.aload_n 0, 1) := by decide +kernel
theorem dX8_count_65 : decode cX8_count 65 = .ok (.getfield 12, 3) := by decide +kernel
theorem dX8_count_68 : decode cX8_count 68 = .ok (.invokevirtual 152, 3) := by decide +kernel
theorem dX8_count_71 : decode cX8_count 71 = .ok (.ireturn, 1) := by decide +kernel
theorem dX8_count_72 : decode cX8_count 72 = .ok (.aload_n 0, 1) := by decide +kernel
theorem dX8_count_73 : decode cX8_count 73 = .ok (.invokevirtual 155, 3) := by decide +kernel
theorem dX8_count_76 : decode cX8_count 76 = .ok (.ireturn, 1) := by decide +kernel
theorem dX8_count_77 : decode cX8_count 77 = .ok (.aload_n 0, 1) := by decide +kernel
theorem dX8_count_78 : decode cX8_count 78 = .ok (.getfield 158, 3) := by decide +kernel
theorem dX8_count_81 : decode cX8_count 81 = .ok (.ireturn, 1) := by decide +kernel
theorem dX8_count_82 : decode cX8_count 82 = .ok (.aload_n 0, 1) := by decide +kernel
theorem dX8_count_83 : decode cX8_count 83 = .ok (.iconst 1, 1) := by decide +kernel
theorem dX8_count_84 : decode cX8_count 84 = .ok (.iconst 1, 1) := by decide +kernel
theorem dX8_count_85 : decode cX8_count 85 = .ok (.invokevirtual 161, 3) := by decide +kernel
theorem dX8_count_88 : decode cX8_count 88 = .ok (.ireturn, 1) := by decide +kernel
theorem dX8_count_89 : decode cX8_count 89 = .ok (.aload_n 0, 1) := by decide +kernel
theorem dX8_count_90 : decode cX8_count 90 = .ok (.iconst 2, 1) := by decide +kernel
theorem dX8_count_91 : decode cX8_count 91 = .ok (.bipush 16, 2) := by decide +kernel
theorem dX8_count_93 : decode cX8_count 93 = .ok (.invokevirtual 161, 3) := by decide +kernel
theorem dX8_count_96 : decode cX8_count 96 = .ok (.ireturn, 1) := by decide +kernel
theorem dX8_count_97 : decode cX8_count 97 = .ok (.aload_n 0, 1) := by decide +kernel
theorem dX8_count_98 : decode cX8_count 98 = .ok (.iconst 0, 1) := by decide +kernel
theorem dX8_count_99 : decode cX8_count 99 = .ok (.iconst 0, 1) := by decide +kernel
theorem dX8_count_100 : decode cX8_count 100 = .ok (.invokevirtual 161, 3) := by decide +kernel
theorem dX8_count_103 : decode cX8_count 103 = .ok (.ireturn, 1) := by decide +kernel
theorem dX8_count_104 : decode cX8_count 104 = .ok (.aload_n 0, 1) := by decide +kernel
theorem dX8_count_105 : decode cX8_count 105 = .ok (.getfield 164, 3) := by decide +kernel
theorem dX8_count_108 : decode cX8_count 108 = .ok (.ireturn, 1) := by decide +kernel
theorem dX8_count_109 : decode cX8_count 109 = .ok (.aload_n 0, 1) := by decide +kernel
theorem dX8_count_110 : decode cX8_count 110 = .ok (.invokevirtual 167, 3) := by decide +kernel
theorem dX8_count_113 : decode cX8_count 113 = .ok (.ireturn, 1) := by decide +kernel
theorem dX8_count_114 : decode cX8_count 114 = .ok (.aload_n 0, 1) := by decide +kernel
theorem dX8_count_115 : decode cX8_count 115 = .ok (.getfield 170, 3) := by decide +kernel
theorem dX8_count_118 : decode cX8_count 118 = .ok (.ireturn, 1) := by decide +kernel
theorem dX8_count_119 : decode cX8_count 119 = .ok (.ldc 87, 2) := by decide +kernel
theorem dX8_count_121 : decode cX8_count 121 = .ok (.ireturn, 1) := by decide +kernel
theorem dX8_sieve_0 : decode cX8_sieve 0 = .ok (.aload_n 0, 1) := by decide +kernel
theorem dX8_sieve_1 : decode cX8_sieve 1 = .ok (.getfield 12, 3) := by decide +kernel
theorem dX8_sieve_4 : decode cX8_sieve 4 = .ok (.iload_n 1, 1) := by decide +kernel
theorem dX8_sieve_5 : decode cX8_sieve 5 = .ok (.invokevirtual 103, 3) := by decide +kernel
theorem dX8_sieve_8 : decode cX8_sieve 8 = .ok (.astore_n 3, 1) := by decide +kernel
theorem dX8_sieve_9 : decode cX8_sieve 9 = .ok (.aload_n 0, 1) := by decide +kernel
theorem dX8_sieve_10 : decode cX8_sieve 10 = .ok (.getfield 12, 3) := by decide +kernel
theorem dX8_sieve_13 : decode cX8_sieve 13 = .ok (.iload_n 2, 1) := by decide +kernel
theorem dX8_sieve_14 : decode cX8_sieve 14 = .ok (.invokevirtual 103, 3) := by decide +kernel
theorem dX8_sieve_17 : decode cX8_sieve 17 = .ok (.astore 4, 2) := by decide +kernel
theorem dX8_sieve_19 : decode cX8_sieve 19 = .ok (.aload_n 3, 1) := by decide +kernel
theorem dX8_sieve_20 : decode cX8_sieve 20 = .ok (.ifnull 8, 3) := by decide +kernel
theorem dX8_sieve_23 : decode cX8_sieve 23 = .ok (.aload 4, 2) := by decide +kernel
theorem dX8_sieve_25 : decode cX8_sieve 25 = .ok (.ifnonnull 6, 3) := by decide +kernel
theorem dX8_sieve_28 : decode cX8_sieve 28 = .ok (.ldc 107, 2) := by decide +kernel
theorem dX8_sieve_30 : decode cX8_sieve 30 = .ok (.ireturn, 1) := by decide +kernel
theorem dX8_sieve_31 : decode cX8_sieve 31 = .ok (.iload_n 1, 1) := by decide +kernel
theorem dX8_sieve_32 : decode cX8_sieve 32 = .ok (.iload_n 2, 1) := by decide +kernel
theorem dX8_sieve_33 : decode cX8_sieve 33 = .ok (.if_icmp .ne 6, 3) := by decide +kernel
theorem dX8_sieve_36 : decode cX8_sieve 36 = .ok (.ldc 116, 2) := by decide +kernel
theorem dX8_sieve_38 : decode cX8_sieve 38 = .ok (.ireturn, 1) := by decide +kernel
theorem dX8_sieve_39 : decode cX8_sieve 39 = .ok (.aload_n 3, 1) := by decide +kernel
theorem dX8_sieve_40 : decode cX8_sieve 40 = .ok (.aload 4, 2) := by decide +kernel
theorem dX8_sieve_42 : decode cX8_sieve 42 = .ok (.invokestatic 173, 3) := by decide +kernel
theorem dX8_sieve_45 : decode cX8_sieve 45 = .ok (.istore 5, 2) := by decide +kernel
theorem dX8_sieve_47 : decode cX8_sieve 47 = .ok (.aload_n 3, 1) := by decide +kernel
theorem dX8_sieve_48 : decode cX8_sieve 48 = .ok (.aload 4, 2) := by decide +kernel
theorem dX8_sieve_50 : decode cX8_sieve 50 = .ok (.invokestatic 177, 3) := by decide +kernel
theorem dX8_sieve_53 : decode cX8_sieve 53 = .ok (.istore 6, 2) := by decide +kernel
theorem dX8_sieve_55 : decode cX8_sieve 55 = .ok (.aload_n 3, 1) := by decide +kernel
theorem dX8_sieve_56 : decode cX8_sieve 56 = .ok (.getfield 108, 3) := by decide +kernel
theorem dX8_sieve_59 : decode cX8_sieve 59 = .ok (.ifCond .ne 18, 3) := by decide +kernel
theorem dX8_sieve_62 : decode cX8_sieve 62 = .ok (.aload 4, 2) := by decide +kernel
theorem dX8_sieve_64 : decode cX8_sieve 64 = .ok (.getfield 108, 3) := by decide +kernel
theorem dX8_sieve_67 : decode cX8_sieve 67 = .ok (.ifCond .ne 10, 3) := by decide +kernel
theorem dX8_sieve_70 : decode cX8_sieve 70 = .ok (.iload 5, 2) := by decide +kernel
theorem dX8_sieve_72 : decode cX8_sieve 72 = .ok (.iload 6, 2) := by decide +kernel
theorem dX8_sieve_74 : decode cX8_sieve 74 = .ok (.if_icmp .le 5, 3) := by decide +kernel
theorem dX8_sieve_77 : decode cX8_sieve 77 = .ok (.iconst 0, 1) := by decide +kernel
theorem dX8_sieve_78 : decode cX8_sieve 78 = .ok (.ireturn, 1) := by decide +kernel
theorem dX8_sieve_79 : decode cX8_sieve 79 = .ok (.aload_n 0, 1) := by decide +kernel
theorem dX8_sieve_80 : decode cX8_sieve 80 = .ok (.aload_n 3, 1) := by decide +kernel
theorem dX8_sieve_81 : decode cX8_sieve 81 = .ok (.aload 4, 2) := by decide +kernel
theorem dX8_sieve_83 : decode cX8_sieve 83 = .ok (.iload 5, 2) := by decide +kernel
theorem dX8_sieve_85 : decode cX8_sieve 85 = .ok (.iload 6, 2) := by decide +kernel
theorem dX8_sieve_87 : decode cX8_sieve 87 = .ok (.invokevirtual 180, 3) := by decide +kernel
theorem dX8_sieve_90 : decode cX8_sieve 90 = .ok (.ifCond .eq 5, 3) := by decide +kernel
theorem dX8_sieve_93 : decode cX8_sieve 93 = .ok (.iconst 1, 1) := by decide +kernel
theorem dX8_sieve_94 : decode cX8_sieve 94 = .ok (.ireturn, 1) := by decide +kernel
theorem dX8_sieve_95 : decode cX8_sieve 95 = .ok (.aload_n 0, 1) := by decide +kernel
theorem dX8_sieve_96 : decode cX8_sieve 96 = .ok (.aload_n 3, 1) := by decide +kernel
theorem dX8_sieve_97 : decode cX8_sieve 97 = .ok (.aload 4, 2) := by decide +kernel
theorem dX8_sieve_99 : decode cX8_sieve 99 = .ok (.iload 5, 2) := by decide +kernel
theorem dX8_sieve_101 : decode cX8_sieve 101 = .ok (.iload 6, 2) := by decide +kernel
theorem dX8_sieve_103 : decode cX8_sieve 103 = .ok (.invokevirtual 184, 3) := by decide +kernel
theorem dX8_sieve_106 : decode cX8_sieve 106 = .ok (.ifCond .eq 7, 3) := by decide +kernel
theorem dX8_sieve_109 : decode cX8_sieve 109 = .ok (.iconst 2, 1) := by decide +kernel
theorem dX8_sieve_110 : decode cX8_sieve 110 = .ok (.goto 4, 3) := by decide +kernel
theorem dX8_sieve_113 : decode cX8_sieve 113 = .ok (.iconst 3, 1) := by decide +kernel
theorem dX8_sieve_114 : decode cX8_sieve 114 = .ok (.ireturn, 1) := by decide +kernel
theorem dX8_least_0 : decode cX8_least 0 = .ok (.aload_n 0, 1) := by decide +kernel
theorem dX8_least_1 : decode cX8_least 1 = .ok (.getfield 12, 3) := by decide +kernel
theorem dX8_least_4 : decode cX8_least 4 = .ok (.iload_n 1, 1) := by decide +kernel
theorem dX8_least_5 : decode cX8_least 5 = .ok (.invokevirtual 103, 3) := by decide +kernel
theorem dX8_least_8 : decode cX8_least 8 = .ok (.astore 4, 2) := by decide +kernel
theorem dX8_least_10 : decode cX8_least 10 = .ok (.aload_n 0, 1) := by decide +kernel
theorem dX8_least_11 : decode cX8_least 11 = .ok (.getfield 12, 3) := by decide +kernel
theorem dX8_least_14 : decode cX8_least 14 = .ok (.iload_n 2, 1) := by decide +kernel
theorem dX8_least_15 : decode cX8_least 15 = .ok (.invokevirtual 103, 3) := by decide +kernel
theorem dX8_least_18 : decode cX8_least 18 = .ok (.astore 5, 2) := by decide +kernel
theorem dX8_least_20 : decode cX8_least 20 = .ok (.aload 4, 2) := by decide +kernel
theorem dX8_least_22 : decode cX8_least 22 = .ok (.ifnull 8, 3) := by decide +kernel
theorem dX8_least_25 : decode cX8_least 25 = .ok (.aload 5, 2) := by decide +kernel
theorem dX8_least_27 : decode cX8_least 27 = .ok (.ifnonnull 7, 3) := by decide +kernel
theorem dX8_least_30 : decode cX8_least 30 = .ok (.ldc2_w 187, 3) := by decide +kernel
theorem dX8_least_33 : decode cX8_least 33 = .ok (.lreturn, 1) := by decide +kernel
theorem dX8_least_34 : decode cX8_least 34 = .ok (.iload_n 3, 1) := by decide +kernel
theorem dX8_least_35 : decode cX8_least 35 = .ok (.iconst 0, 1) := by decide +kernel
theorem dX8_least_36 : decode cX8_least 36 = .ok (.iconst 4, 1) := by decide +kernel
theorem dX8_least_37 : decode cX8_least 37 = .ok (.invokestatic 84, 3) := by decide +kernel
theorem dX8_least_40 : decode cX8_least 40 = .ok (.ifCond .ne 7, 3) := by decide +kernel
theorem dX8_least_43 : decode cX8_least 43 = .ok (.ldc2_w 189, 3) := by decide +kernel
theorem dX8_least_46 : decode cX8_least 46 = .ok (.lreturn, 1) := by decide +kernel
theorem dX8_least_47 : decode cX8_least 47 = .ok (.iload_n 1, 1) := by decide +kernel
theorem dX8_least_48 : decode cX8_least 48 = .ok (.iload_n 2, 1) := by decide +kernel
theorem dX8_least_49 : decode cX8_least 49 = .ok (.if_icmp .eq 14, 3) := by decide +kernel
theorem dX8_least_52 : decode cX8_least 52 = .ok (.aload_n 0, 1) := by decide +kernel
theorem dX8_least_53 : decode cX8_least 53 = .ok (.aload 4, 2) := by decide +kernel
theorem dX8_least_55 : decode cX8_least 55 = .ok (.aload 5, 2) := by decide +kernel
theorem dX8_least_57 : decode cX8_least 57 = .ok (.invokevirtual 191, 3) := by decide +kernel
theorem dX8_least_60 : decode cX8_least 60 = .ok (.ifCond .ne 7, 3) := by decide +kernel
theorem dX8_least_63 : decode cX8_least 63 = .ok (.ldc2_w 195, 3) := by decide +kernel
theorem dX8_least_66 : decode cX8_least 66 = .ok (.lreturn, 1) := by decide +kernel
theorem dX8_least_67 : decode cX8_least 67 = .ok (.iload_n 3, 1) := by decide +kernel
theorem dX8_least_68 : decode cX8_least 68 = .ok (.tableswitch 74 0 3 #[32, 43, 54, 63], 32) := by decide +kernel
theorem dX8_least_100 : decode cX8_least 100 = .ok (.aload_n 0, 1) := by decide +kernel
theorem dX8_least_101 : decode cX8_least 101 = .ok (.getfield 51, 3) := by decide +kernel
theorem dX8_least_104 : decode cX8_least 104 = .ok (.getfield 197, 3) := by decide +kernel
theorem dX8_least_107 : decode cX8_least 107 = .ok (.getfield 200, 3) := by decide +kernel
theorem dX8_least_110 : decode cX8_least 110 = .ok (.lreturn, 1) := by decide +kernel
theorem dX8_least_111 : decode cX8_least 111 = .ok (.aload_n 0, 1) := by decide +kernel
theorem dX8_least_112 : decode cX8_least 112 = .ok (.getfield 51, 3) := by decide +kernel
theorem dX8_least_115 : decode cX8_least 115 = .ok (.getfield 197, 3) := by decide +kernel
theorem dX8_least_118 : decode cX8_least 118 = .ok (.getfield 204, 3) := by decide +kernel
theorem dX8_least_121 : decode cX8_least 121 = .ok (.lreturn, 1) := by decide +kernel
theorem dX8_least_122 : decode cX8_least 122 = .ok (.aload_n 0, 1) := by decide +kernel
theorem dX8_least_123 : decode cX8_least 123 = .ok (.getfield 51, 3) := by decide +kernel
theorem dX8_least_126 : decode cX8_least 126 = .ok (.getfield 207, 3) := by decide +kernel
theorem dX8_least_129 : decode cX8_least 129 = .ok (.i2l, 1) := by decide +kernel
theorem dX8_least_130 : decode cX8_least 130 = .ok (.lreturn, 1) := by decide +kernel
theorem dX8_least_131 : decode cX8_least 131 = .ok (.aload_n 0, 1) := by decide +kernel
theorem dX8_least_132 : decode cX8_least 132 = .ok (.getfield 51, 3) := by decide +kernel
theorem dX8_least_135 : decode cX8_least 135 = .ok (.getfield 210, 3) := by decide +kernel
theorem dX8_least_138 : decode cX8_least 138 = .ok (.getfield 200, 3) := by decide +kernel
theorem dX8_least_141 : decode cX8_least 141 = .ok (.lreturn, 1) := by decide +kernel
theorem dX8_least_142 : decode cX8_least 142 = .ok (.aload_n 0, 1) := by decide +kernel
theorem dX8_least_143 : decode cX8_least 143 = .ok (.getfield 51, 3) := by decide +kernel
theorem dX8_least_146 : decode cX8_least 146 = .ok (.getfield 210, 3) := by decide +kernel
theorem dX8_least_149 : decode cX8_least 149 = .ok (.getfield 204, 3) := by decide +kernel
theorem dX8_least_152 : decode cX8_least 152 = .ok (.lreturn, 1) := by decide +kernel
theorem dX8_meeting_0 : decode cX8_meeting 0 = .ok (.iload_n 2, 1) := by decide +kernel
theorem dX8_meeting_1 : decode cX8_meeting 1 = .ok (.iconst 0, 1) := by decide +kernel
theorem dX8_meeting_2 : decode cX8_meeting 2 = .ok (.iconst 1, 1) := by decide +kernel
theorem dX8_meeting_3 : decode cX8_meeting 3 = .ok (.invokestatic 84, 3) := by decide +kernel
theorem dX8_meeting_6 : decode cX8_meeting 6 = .ok (.ifCond .ne 6, 3) := by decide +kernel
theorem dX8_meeting_9 : decode cX8_meeting 9 = .ok (.ldc 87, 2) := by decide +kernel
theorem dX8_meeting_11 : decode cX8_meeting 11 = .ok (.ireturn, 1) := by decide +kernel
theorem dX8_meeting_12 : decode cX8_meeting 12 = .ok (.iconst 0, 1) := by decide +kernel
theorem dX8_meeting_13 : decode cX8_meeting 13 = .ok (.istore_n 3, 1) := by decide +kernel
theorem dX8_meeting_14 : decode cX8_meeting 14 = .ok (.iconst 0, 1) := by decide +kernel
theorem dX8_meeting_15 : decode cX8_meeting 15 = .ok (.istore 4, 2) := by decide +kernel
theorem dX8_meeting_17 : decode cX8_meeting 17 = .ok (.iload 4, 2) := by decide +kernel
theorem dX8_meeting_19 : decode cX8_meeting 19 = .ok (.aload_n 0, 1) := by decide +kernel
theorem dX8_meeting_20 : decode cX8_meeting 20 = .ok (.getfield 12, 3) := by decide +kernel
theorem dX8_meeting_23 : decode cX8_meeting 23 = .ok (.getfield 88, 3) := by decide +kernel
theorem dX8_meeting_26 : decode cX8_meeting 26 = .ok (.if_icmp .ge 64, 3) := by decide +kernel
theorem dX8_meeting_29 : decode cX8_meeting 29 = .ok (.iload 4, 2) := by decide +kernel
theorem dX8_meeting_31 : decode cX8_meeting 31 = .ok (.iconst 1, 1) := by decide +kernel
theorem dX8_meeting_32 : decode cX8_meeting 32 = .ok (.iadd, 1) := by decide +kernel
theorem dX8_meeting_33 : decode cX8_meeting 33 = .ok (.istore 5, 2) := by decide +kernel
theorem dX8_meeting_35 : decode cX8_meeting 35 = .ok (.iload 5, 2) := by decide +kernel
theorem dX8_meeting_37 : decode cX8_meeting 37 = .ok (.aload_n 0, 1) := by decide +kernel
theorem dX8_meeting_38 : decode cX8_meeting 38 = .ok (.getfield 12, 3) := by decide +kernel
theorem dX8_meeting_41 : decode cX8_meeting 41 = .ok (.getfield 88, 3) := by decide +kernel
theorem dX8_meeting_44 : decode cX8_meeting 44 = .ok (.if_icmp .ge 40, 3) := by decide +kernel
theorem dX8_meeting_47 : decode cX8_meeting 47 = .ok (.aload_n 0, 1) := by decide +kernel
theorem dX8_meeting_48 : decode cX8_meeting 48 = .ok (.iload 4, 2) := by decide +kernel
theorem dX8_meeting_50 : decode cX8_meeting 50 = .ok (.iload 5, 2) := by decide +kernel
theorem dX8_meeting_52 : decode cX8_meeting 52 = .ok (.invokevirtual 213, 3) := by decide +kernel
theorem dX8_meeting_55 : decode cX8_meeting 55 = .ok (.ifCond .eq 23, 3) := by decide +kernel
theorem dX8_meeting_58 : decode cX8_meeting 58 = .ok (.iload_n 3, 1) := by decide +kernel
theorem dX8_meeting_59 : decode cX8_meeting 59 = .ok (.iload_n 1, 1) := by decide +kernel
theorem dX8_meeting_60 : decode cX8_meeting 60 = .ok (.if_icmp .ne 15, 3) := by decide +kernel
theorem dX8_meeting_63 : decode cX8_meeting 63 = .ok (.iload_n 2, 1) := by decide +kernel
theorem dX8_meeting_64 : decode cX8_meeting 64 = .ok (.ifCond .ne 8, 3) := by decide +kernel
theorem dX8_meeting_67 : decode cX8_meeting 67 = .ok (.iload 4, 2) := by decide +kernel
theorem dX8_meeting_69 : decode cX8_meeting 69 = .ok (.goto 5, 3) := by decide +kernel
theorem dX8_meeting_72 : decode cX8_meeting 72 = .ok (.iload 5, 2) := by decide +kernel
theorem dX8_meeting_74 : decode cX8_meeting 74 = .ok (.ireturn, 1) := by decide +kernel
theorem dX8_meeting_75 : decode cX8_meeting 75 = .ok (.iinc 3 1, 3) := by decide +kernel
theorem dX8_meeting_78 : decode cX8_meeting 78 = .ok (.iinc 5 1, 3) := by decide +kernel
theorem dX8_meeting_81 : decode cX8_meeting 81 = .ok (.goto (-46), 3) := by decide +kernel
theorem dX8_meeting_84 : decode cX8_meeting 84 = .ok (.iinc 4 1, 3) := by decide +kernel
theorem dX8_meeting_87 : decode cX8_meeting 87 = .ok (.goto (-70), 3) := by decide +kernel
theorem dX8_meeting_90 : decode cX8_meeting 90 = .ok (.iconst (-1), 1) := by decide +kernel
theorem dX8_meeting_91 : decode cX8_meeting 91 = .ok (.ireturn, 1) := by decide +kernel
theorem dX8_share_0 : decode cX8_share 0 = .ok (.aload_n 0, 1) := by decide +kernel
theorem dX8_share_1 : decode cX8_share 1 = .ok (.getfield 12, 3) := by decide +kernel
theorem dX8_share_4 : decode cX8_share 4 = .ok (.iload_n 1, 1) := by decide +kernel
theorem dX8_share_5 : decode cX8_share 5 = .ok (.invokevirtual 103, 3) := by decide +kernel
theorem dX8_share_8 : decode cX8_share 8 = .ok (.astore 5, 2) := by decide +kernel
theorem dX8_share_10 : decode cX8_share 10 = .ok (.aload_n 0, 1) := by decide +kernel
theorem dX8_share_11 : decode cX8_share 11 = .ok (.getfield 12, 3) := by decide +kernel
theorem dX8_share_14 : decode cX8_share 14 = .ok (.iload_n 2, 1) := by decide +kernel
theorem dX8_share_15 : decode cX8_share 15 = .ok (.invokevirtual 103, 3) := by decide +kernel
theorem dX8_share_18 : decode cX8_share 18 = .ok (.astore 6, 2) := by decide +kernel
theorem dX8_share_20 : decode cX8_share 20 = .ok (.aload 5, 2) := by decide +kernel
theorem dX8_share_22 : decode cX8_share 22 = .ok (.ifnull 8, 3) := by decide +kernel
theorem dX8_share_25 : decode cX8_share 25 = .ok (.aload 6, 2) := by decide +kernel
theorem dX8_share_27 : decode cX8_share 27 = .ok (.ifnonnull 7, 3) := by decide +kernel
theorem dX8_share_30 : decode cX8_share 30 = .ok (.ldc2_w 187, 3) := by decide +kernel
theorem dX8_share_33 : decode cX8_share 33 = .ok (.lreturn, 1) := by decide +kernel
theorem dX8_share_34 : decode cX8_share 34 = .ok (.iload_n 3, 1) := by decide +kernel
theorem dX8_share_35 : decode cX8_share 35 = .ok (.invokestatic 76, 3) := by decide +kernel
theorem dX8_share_38 : decode cX8_share 38 = .ok (.ifCond .eq 13, 3) := by decide +kernel
theorem dX8_share_41 : decode cX8_share 41 = .ok (.iload 4, 2) := by decide +kernel
theorem dX8_share_43 : decode cX8_share 43 = .ok (.iconst 0, 1) := by decide +kernel
theorem dX8_share_44 : decode cX8_share 44 = .ok (.iconst 1, 1) := by decide +kernel
theorem dX8_share_45 : decode cX8_share 45 = .ok (.invokestatic 84, 3) := by decide +kernel
theorem dX8_share_48 : decode cX8_share 48 = .ok (.ifCond .ne 7, 3) := by decide +kernel
theorem dX8_share_51 : decode cX8_share 51 = .ok (.ldc2_w 189, 3) := by decide +kernel
theorem dX8_share_54 : decode cX8_share 54 = .ok (.lreturn, 1) := by decide +kernel
theorem dX8_share_55 : decode cX8_share 55 = .ok (.iload_n 1, 1) := by decide +kernel
theorem dX8_share_56 : decode cX8_share 56 = .ok (.iload_n 2, 1) := by decide +kernel
theorem dX8_share_57 : decode cX8_share 57 = .ok (.if_icmp .eq 21, 3) := by decide +kernel
theorem dX8_share_60 : decode cX8_share 60 = .ok (.aload 5, 2) := by decide +kernel
theorem dX8_share_62 : decode cX8_share 62 = .ok (.iload_n 3, 1) := by decide +kernel
theorem dX8_share_63 : decode cX8_share 63 = .ok (.invokevirtual 120, 3) := by decide +kernel
theorem dX8_share_66 : decode cX8_share 66 = .ok (.ifCond .eq 12, 3) := by decide +kernel
theorem dX8_share_69 : decode cX8_share 69 = .ok (.aload 6, 2) := by decide +kernel
theorem dX8_share_71 : decode cX8_share 71 = .ok (.iload_n 3, 1) := by decide +kernel
theorem dX8_share_72 : decode cX8_share 72 = .ok (.invokevirtual 120, 3) := by decide +kernel
theorem dX8_share_75 : decode cX8_share 75 = .ok (.ifCond .ne 7, 3) := by decide +kernel
theorem dX8_share_78 : decode cX8_share 78 = .ok (.ldc2_w 195, 3) := by decide +kernel
theorem dX8_share_81 : decode cX8_share 81 = .ok (.lreturn, 1) := by decide +kernel
theorem dX8_share_82 : decode cX8_share 82 = .ok (.lconst 1, 1) := by decide +kernel
theorem dX8_share_83 : decode cX8_share 83 = .ok (.lstore 7, 2) := by decide +kernel
theorem dX8_share_85 : decode cX8_share 85 = .ok (.lconst 1, 1) := by decide +kernel
theorem dX8_share_86 : decode cX8_share 86 = .ok (.lstore 9, 2) := by decide +kernel
theorem dX8_share_88 : decode cX8_share 88 = .ok (.iconst 0, 1) := by decide +kernel
theorem dX8_share_89 : decode cX8_share 89 = .ok (.istore 11, 2) := by decide +kernel
theorem dX8_share_91 : decode cX8_share 91 = .ok (.iload 11, 2) := by decide +kernel
theorem dX8_share_93 : decode cX8_share 93 = .ok (.iconst 3, 1) := by decide +kernel
theorem dX8_share_94 : decode cX8_share 94 = .ok (.if_icmp .ge 43, 3) := by decide +kernel
theorem dX8_share_97 : decode cX8_share 97 = .ok (.lload 7, 2) := by decide +kernel
theorem dX8_share_99 : decode cX8_share 99 = .ok (.aload_n 0, 1) := by decide +kernel
theorem dX8_share_100 : decode cX8_share 100 = .ok (.aload 5, 2) := by decide +kernel
theorem dX8_share_102 : decode cX8_share 102 = .ok (.aload 6, 2) := by decide +kernel
theorem dX8_share_104 : decode cX8_share 104 = .ok (.iload_n 3, 1) := by decide +kernel
theorem dX8_share_105 : decode cX8_share 105 = .ok (.iload 11, 2) := by decide +kernel
theorem dX8_share_107 : decode cX8_share 107 = .ok (.invokevirtual 217, 3) := by decide +kernel
theorem dX8_share_110 : decode cX8_share 110 = .ok (.lmul, 1) := by decide +kernel
theorem dX8_share_111 : decode cX8_share 111 = .ok (.lstore 7, 2) := by decide +kernel
theorem dX8_share_113 : decode cX8_share 113 = .ok (.lload 9, 2) := by decide +kernel
theorem dX8_share_115 : decode cX8_share 115 = .ok (.aload 5, 2) := by decide +kernel
theorem dX8_share_117 : decode cX8_share 117 = .ok (.invokevirtual 221, 3) := by decide +kernel
theorem dX8_share_120 : decode cX8_share 120 = .ok (.i2l, 1) := by decide +kernel
theorem dX8_share_121 : decode cX8_share 121 = .ok (.aload 6, 2) := by decide +kernel
theorem dX8_share_123 : decode cX8_share 123 = .ok (.invokevirtual 221, 3) := by decide +kernel
theorem dX8_share_126 : decode cX8_share 126 = .ok (.i2l, 1) := by decide +kernel
theorem dX8_share_127 : decode cX8_share 127 = .ok (.lmul, 1) := by decide +kernel
theorem dX8_share_128 : decode cX8_share 128 = .ok (.lmul, 1) := by decide +kernel
theorem dX8_share_129 : decode cX8_share 129 = .ok (.lstore 9, 2) := by decide +kernel
theorem dX8_share_131 : decode cX8_share 131 = .ok (.iinc 11 1, 3) := by decide +kernel
theorem dX8_share_134 : decode cX8_share 134 = .ok (.goto (-43), 3) := by decide +kernel
theorem dX8_share_137 : decode cX8_share 137 = .ok (.aload_n 0, 1) := by decide +kernel
theorem dX8_share_138 : decode cX8_share 138 = .ok (.getfield 58, 3) := by decide +kernel
theorem dX8_share_141 : decode cX8_share 141 = .ok (.lload 7, 2) := by decide +kernel
theorem dX8_share_143 : decode cX8_share 143 = .ok (.lload 9, 2) := by decide +kernel
theorem dX8_share_145 : decode cX8_share 145 = .ok (.invokevirtual 224, 3) := by decide +kernel
theorem dX8_share_148 : decode cX8_share 148 = .ok (.iload 4, 2) := by decide +kernel
theorem dX8_share_150 : decode cX8_share 150 = .ok (.ifCond .ne 13, 3) := by decide +kernel
theorem dX8_share_153 : decode cX8_share 153 = .ok (.aload_n 0, 1) := by decide +kernel
theorem dX8_share_154 : decode cX8_share 154 = .ok (.getfield 58, 3) := by decide +kernel
theorem dX8_share_157 : decode cX8_share 157 = .ok (.getfield 200, 3) := by decide +kernel
theorem dX8_share_160 : decode cX8_share 160 = .ok (.goto 10, 3) := by decide +kernel
theorem dX8_share_163 : decode cX8_share 163 = .ok (.aload_n 0, 1) := by decide +kernel
theorem dX8_share_164 : decode cX8_share 164 = .ok (.getfield 58, 3) := by decide +kernel
theorem dX8_share_167 : decode cX8_share 167 = .ok (.getfield 204, 3) := by decide +kernel
theorem dX8_share_170 : decode cX8_share 170 = .ok (.lreturn, 1) := by decide +kernel
theorem dX8_best_0 : decode cX8_best 0 = .ok (.aload_n 0, 1) := by decide +kernel
theorem dX8_best_1 : decode cX8_best 1 = .ok (.getfield 12, 3) := by decide +kernel
theorem dX8_best_4 : decode cX8_best 4 = .ok (.iload_n 1, 1) := by decide +kernel
theorem dX8_best_5 : decode cX8_best 5 = .ok (.invokevirtual 103, 3) := by decide +kernel
theorem dX8_best_8 : decode cX8_best 8 = .ok (.astore 4, 2) := by decide +kernel
theorem dX8_best_10 : decode cX8_best 10 = .ok (.aload 4, 2) := by decide +kernel
theorem dX8_best_12 : decode cX8_best 12 = .ok (.ifnonnull 6, 3) := by decide +kernel
theorem dX8_best_15 : decode cX8_best 15 = .ok (.ldc 107, 2) := by decide +kernel
theorem dX8_best_17 : decode cX8_best 17 = .ok (.ireturn, 1) := by decide +kernel
theorem dX8_best_18 : decode cX8_best 18 = .ok (.aload 4, 2) := by decide +kernel
theorem dX8_best_20 : decode cX8_best 20 = .ok (.iload_n 2, 1) := by decide +kernel
theorem dX8_best_21 : decode cX8_best 21 = .ok (.invokevirtual 120, 3) := by decide +kernel
theorem dX8_best_24 : decode cX8_best 24 = .ok (.ifCond .eq 12, 3) := by decide +kernel
theorem dX8_best_27 : decode cX8_best 27 = .ok (.iload_n 3, 1) := by decide +kernel
theorem dX8_best_28 : decode cX8_best 28 = .ok (.iconst 0, 1) := by decide +kernel
theorem dX8_best_29 : decode cX8_best 29 = .ok (.iconst 4, 1) := by decide +kernel
theorem dX8_best_30 : decode cX8_best 30 = .ok (.invokestatic 84, 3) := by decide +kernel
theorem dX8_best_33 : decode cX8_best 33 = .ok (.ifCond .ne 6, 3) := by decide +kernel
theorem dX8_best_36 : decode cX8_best 36 = .ok (.ldc 87, 2) := by decide +kernel
theorem dX8_best_38 : decode cX8_best 38 = .ok (.ireturn, 1) := by decide +kernel
theorem dX8_best_39 : decode cX8_best 39 = .ok (.aload 4, 2) := by decide +kernel
theorem dX8_best_41 : decode cX8_best 41 = .ok (.getfield 108, 3) := by decide +kernel
theorem dX8_best_44 : decode cX8_best 44 = .ok (.ifCond .eq 6, 3) := by decide +kernel
theorem dX8_best_47 : decode cX8_best 47 = .ok (.ldc 116, 2) := by decide +kernel
theorem dX8_best_49 : decode cX8_best 49 = .ok (.ireturn, 1) := by decide +kernel
theorem dX8_best_50 : decode cX8_best 50 = .ok (.aload_n 0, 1) := by decide +kernel
theorem dX8_best_51 : decode cX8_best 51 = .ok (.iload_n 1, 1) := by decide +kernel
theorem dX8_best_52 : decode cX8_best 52 = .ok (.aload 4, 2) := by decide +kernel
theorem dX8_best_54 : decode cX8_best 54 = .ok (.iload_n 2, 1) := by decide +kernel
theorem dX8_best_55 : decode cX8_best 55 = .ok (.invokevirtual 228, 3) := by decide +kernel
theorem dX8_best_58 : decode cX8_best 58 = .ok (.iload_n 3, 1) := by decide +kernel
theorem dX8_best_59 : decode cX8_best 59 = .ok (.tableswitch 61 0 3 #[29, 37, 45, 53], 29) := by decide +kernel
theorem dX8_best_88 : decode cX8_best 88 = .ok (.aload_n 0, 1) := by decide +kernel
theorem dX8_best_89 : decode cX8_best 89 = .ok (.getfield 72, 3) := by decide +kernel
theorem dX8_best_92 : decode cX8_best 92 = .ok (.getfield 232, 3) := by decide +kernel
theorem dX8_best_95 : decode cX8_best 95 = .ok (.ireturn, 1) := by decide +kernel
theorem dX8_best_96 : decode cX8_best 96 = .ok (.aload_n 0, 1) := by decide +kernel
theorem dX8_best_97 : decode cX8_best 97 = .ok (.getfield 72, 3) := by decide +kernel
theorem dX8_best_100 : decode cX8_best 100 = .ok (.getfield 235, 3) := by decide +kernel
theorem dX8_best_103 : decode cX8_best 103 = .ok (.ireturn, 1) := by decide +kernel
theorem dX8_best_104 : decode cX8_best 104 = .ok (.aload_n 0, 1) := by decide +kernel
theorem dX8_best_105 : decode cX8_best 105 = .ok (.getfield 72, 3) := by decide +kernel
theorem dX8_best_108 : decode cX8_best 108 = .ok (.getfield 236, 3) := by decide +kernel
theorem dX8_best_111 : decode cX8_best 111 = .ok (.ireturn, 1) := by decide +kernel
theorem dX8_best_112 : decode cX8_best 112 = .ok (.aload_n 0, 1) := by decide +kernel
theorem dX8_best_113 : decode cX8_best 113 = .ok (.getfield 72, 3) := by decide +kernel
theorem dX8_best_116 : decode cX8_best 116 = .ok (.getfield 239, 3) := by decide +kernel
theorem dX8_best_119 : decode cX8_best 119 = .ok (.ireturn, 1) := by decide +kernel
theorem dX8_best_120 : decode cX8_best 120 = .ok (.aload_n 0, 1) := by decide +kernel
theorem dX8_best_121 : decode cX8_best 121 = .ok (.getfield 72, 3) := by decide +kernel
theorem dX8_best_124 : decode cX8_best 124 = .ok (.getfield 242, 3) := by decide +kernel
theorem dX8_best_127 : decode cX8_best 127 = .ok (.ireturn, 1) := by decide +kernel
theorem dX8_burn_0 : decode cX8_burn 0 = .ok (.aload_n 0, 1) := by decide +kernel
theorem dX8_burn_1 : decode cX8_burn 1 = .ok (.getfield 12, 3) := by decide +kernel
theorem dX8_burn_4 : decode cX8_burn 4 = .ok (.iload_n 1, 1) := by decide +kernel
theorem dX8_burn_5 : decode cX8_burn 5 = .ok (.invokevirtual 103, 3) := by decide +kernel
theorem dX8_burn_8 : decode cX8_burn 8 = .ok (.astore 6, 2) := by decide +kernel
theorem dX8_burn_10 : decode cX8_burn 10 = .ok (.aload 6, 2) := by decide +kernel
theorem dX8_burn_12 : decode cX8_burn 12 = .ok (.ifnonnull 6, 3) := by decide +kernel
theorem dX8_burn_15 : decode cX8_burn 15 = .ok (.ldc 107, 2) := by decide +kernel
theorem dX8_burn_17 : decode cX8_burn 17 = .ok (.ireturn, 1) := by decide +kernel
theorem dX8_burn_18 : decode cX8_burn 18 = .ok (.aload 6, 2) := by decide +kernel
theorem dX8_burn_20 : decode cX8_burn 20 = .ok (.iload_n 2, 1) := by decide +kernel
theorem dX8_burn_21 : decode cX8_burn 21 = .ok (.invokevirtual 120, 3) := by decide +kernel
theorem dX8_burn_24 : decode cX8_burn 24 = .ok (.ifCond .eq 14, 3) := by decide +kernel
theorem dX8_burn_27 : decode cX8_burn 27 = .ok (.iload_n 3, 1) := by decide +kernel
theorem dX8_burn_28 : decode cX8_burn 28 = .ok (.iload 4, 2) := by decide +kernel
theorem dX8_burn_30 : decode cX8_burn 30 = .ok (.iload 5, 2) := by decide +kernel
theorem dX8_burn_32 : decode cX8_burn 32 = .ok (.invokestatic 245, 3) := by decide +kernel
theorem dX8_burn_35 : decode cX8_burn 35 = .ok (.ifCond .ne 6, 3) := by decide +kernel
theorem dX8_burn_38 : decode cX8_burn 38 = .ok (.ldc 87, 2) := by decide +kernel
theorem dX8_burn_40 : decode cX8_burn 40 = .ok (.ireturn, 1) := by decide +kernel
theorem dX8_burn_41 : decode cX8_burn 41 = .ok (.aload 6, 2) := by decide +kernel
theorem dX8_burn_43 : decode cX8_burn 43 = .ok (.getfield 108, 3) := by decide +kernel
theorem dX8_burn_46 : decode cX8_burn 46 = .ok (.ifCond .ne 17, 3) := by decide +kernel
theorem dX8_burn_49 : decode cX8_burn 49 = .ok (.aload 6, 2) := by decide +kernel
theorem dX8_burn_51 : decode cX8_burn 51 = .ok (.iload_n 2, 1) := by decide +kernel
theorem dX8_burn_52 : decode cX8_burn 52 = .ok (.iload_n 3, 1) := by decide +kernel
theorem dX8_burn_53 : decode cX8_burn 53 = .ok (.iload 4, 2) := by decide +kernel
theorem dX8_burn_55 : decode cX8_burn 55 = .ok (.iload 5, 2) := by decide +kernel
theorem dX8_burn_57 : decode cX8_burn 57 = .ok (.invokevirtual 248, 3) := by decide +kernel
theorem dX8_burn_60 : decode cX8_burn 60 = .ok (.ifCond .ne 6, 3) := by decide +kernel
theorem dX8_burn_63 : decode cX8_burn 63 = .ok (.ldc 116, 2) := by decide +kernel
theorem dX8_burn_65 : decode cX8_burn 65 = .ok (.ireturn, 1) := by decide +kernel
theorem dX8_burn_66 : decode cX8_burn 66 = .ok (.aload 6, 2) := by decide +kernel
theorem dX8_burn_68 : decode cX8_burn 68 = .ok (.iload_n 2, 1) := by decide +kernel
theorem dX8_burn_69 : decode cX8_burn 69 = .ok (.iload_n 3, 1) := by decide +kernel
theorem dX8_burn_70 : decode cX8_burn 70 = .ok (.iload 4, 2) := by decide +kernel
theorem dX8_burn_72 : decode cX8_burn 72 = .ok (.iload 5, 2) := by decide +kernel
theorem dX8_burn_74 : decode cX8_burn 74 = .ok (.invokevirtual 252, 3) := by decide +kernel
theorem dX8_burn_77 : decode cX8_burn 77 = .ok (.aload_n 0, 1) := by decide +kernel
theorem dX8_burn_78 : decode cX8_burn 78 = .ok (.iload_n 1, 1) := by decide +kernel
theorem dX8_burn_79 : decode cX8_burn 79 = .ok (.aload 6, 2) := by decide +kernel
theorem dX8_burn_81 : decode cX8_burn 81 = .ok (.invokevirtual 145, 3) := by decide +kernel
theorem dX8_burn_84 : decode cX8_burn 84 = .ok (.ireturn, 1) := by decide +kernel
theorem dX8_dot_0 : decode cX8_dot 0 = .ok (.iload_n 1, 1) := by decide +kernel
