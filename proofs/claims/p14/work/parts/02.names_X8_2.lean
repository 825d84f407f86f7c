theorem dX8_closePairs_37 : decode cX8_closePairs 37 = .ok (.lconst 0, 1) := by decide +kernel
theorem dX8_closePairs_38 : decode cX8_closePairs 38 = .ok (.lstore 8, 2) := by decide +kernel
theorem dX8_closePairs_40 : decode cX8_closePairs 40 = .ok (.iload 5, 2) := by decide +kernel
theorem dX8_closePairs_42 : decode cX8_closePairs 42 = .ok (.aload_n 1, 1) := by decide +kernel
theorem dX8_closePairs_43 : decode cX8_closePairs 43 = .ok (.getfield 142, 3) := by decide +kernel
theorem dX8_closePairs_46 : decode cX8_closePairs 46 = .ok (.isub, 1) := by decide +kernel
theorem dX8_closePairs_47 : decode cX8_closePairs 47 = .ok (.istore 10, 2) := by decide +kernel
theorem dX8_closePairs_49 : decode cX8_closePairs 49 = .ok (.iload 10, 2) := by decide +kernel
theorem dX8_closePairs_51 : decode cX8_closePairs 51 = .ok (.iload 5, 2) := by decide +kernel
theorem dX8_closePairs_53 : decode cX8_closePairs 53 = .ok (.aload_n 1, 1) := by decide +kernel
theorem dX8_closePairs_54 : decode cX8_closePairs 54 = .ok (.getfield 142, 3) := by decide +kernel
theorem dX8_closePairs_57 : decode cX8_closePairs 57 = .ok (.iadd, 1) := by decide +kernel
theorem dX8_closePairs_58 : decode cX8_closePairs 58 = .ok (.if_icmp .gt 46, 3) := by decide +kernel
theorem dX8_closePairs_61 : decode cX8_closePairs 61 = .ok (.lload 8, 2) := by decide +kernel
theorem dX8_closePairs_63 : decode cX8_closePairs 63 = .ok (.iconst 0, 1) := by decide +kernel
theorem dX8_closePairs_64 : decode cX8_closePairs 64 = .ok (.iload 7, 2) := by decide +kernel
theorem dX8_closePairs_66 : decode cX8_closePairs 66 = .ok (.iload 10, 2) := by decide +kernel
theorem dX8_closePairs_68 : decode cX8_closePairs 68 = .ok (.aload_n 0, 1) := by decide +kernel
theorem dX8_closePairs_69 : decode cX8_closePairs 69 = .ok (.getfield 38, 3) := by decide +kernel
theorem dX8_closePairs_72 : decode cX8_closePairs 72 = .ok (.iadd, 1) := by decide +kernel
theorem dX8_closePairs_73 : decode cX8_closePairs 73 = .ok (.invokestatic 269, 3) := by decide +kernel
theorem dX8_closePairs_76 : decode cX8_closePairs 76 = .ok (.iload 6, 2) := by decide +kernel
theorem dX8_closePairs_78 : decode cX8_closePairs 78 = .ok (.iload 10, 2) := by decide +kernel
theorem dX8_closePairs_80 : decode cX8_closePairs 80 = .ok (.aload_n 0, 1) := by decide +kernel
theorem dX8_closePairs_81 : decode cX8_closePairs 81 = .ok (.getfield 38, 3) := by decide +kernel
theorem dX8_closePairs_84 : decode cX8_closePairs 84 = .ok (.isub, 1) := by decide +kernel
theorem dX8_closePairs_85 : decode cX8_closePairs 85 = .ok (.invokestatic 274, 3) := by decide +kernel
theorem dX8_closePairs_88 : decode cX8_closePairs 88 = .ok (.isub, 1) := by decide +kernel
theorem dX8_closePairs_89 : decode cX8_closePairs 89 = .ok (.iconst 1, 1) := by decide +kernel
theorem dX8_closePairs_90 : decode cX8_closePairs 90 = .ok (.iadd, 1) := by decide +kernel
theorem dX8_closePairs_91 : decode cX8_closePairs 91 = .ok (.invokestatic 274, 3) := by decide +kernel
theorem dX8_closePairs_94 : decode cX8_closePairs 94 = .ok (.i2l, 1) := by decide +kernel
theorem dX8_closePairs_95 : decode cX8_closePairs 95 = .ok (.ladd, 1) := by decide +kernel
theorem dX8_closePairs_96 : decode cX8_closePairs 96 = .ok (.lstore 8, 2) := by decide +kernel
theorem dX8_closePairs_98 : decode cX8_closePairs 98 = .ok (.iinc 10 1, 3) := by decide +kernel
theorem dX8_closePairs_101 : decode cX8_closePairs 101 = .ok (.goto (-52), 3) := by decide +kernel
theorem dX8_closePairs_104 : decode cX8_closePairs 104 = .ok (.lload 8, 2) := by decide +kernel
theorem dX8_closePairs_106 : decode cX8_closePairs 106 = .ok (.lreturn, 1) := by decide +kernel
theorem dX8_fuelOf_0 : decode cX8_fuelOf 0 = .ok (.iload_n 0, 1) := by decide +kernel
theorem dX8_fuelOf_1 : decode cX8_fuelOf 1 = .ok (.invokestatic 354, 3) := by decide +kernel
theorem dX8_fuelOf_4 : decode cX8_fuelOf 4 = .ok (.iload_n 1, 1) := by decide +kernel
theorem dX8_fuelOf_5 : decode cX8_fuelOf 5 = .ok (.invokestatic 354, 3) := by decide +kernel
theorem dX8_fuelOf_8 : decode cX8_fuelOf 8 = .ok (.iadd, 1) := by decide +kernel
theorem dX8_fuelOf_9 : decode cX8_fuelOf 9 = .ok (.iload_n 2, 1) := by decide +kernel
theorem dX8_fuelOf_10 : decode cX8_fuelOf 10 = .ok (.invokestatic 354, 3) := by decide +kernel
theorem dX8_fuelOf_13 : decode cX8_fuelOf 13 = .ok (.iadd, 1) := by decide +kernel
theorem dX8_fuelOf_14 : decode cX8_fuelOf 14 = .ok (.ireturn, 1) := by decide +kernel
theorem dX8_chooseBurn_0 : decode cX8_chooseBurn 0 = .ok (.aload_n 2, 1) := by decide +kernel
theorem dX8_chooseBurn_1 : decode cX8_chooseBurn 1 = .ok (.invokevirtual 112, 3) := by decide +kernel
theorem dX8_chooseBurn_4 : decode cX8_chooseBurn 4 = .ok (.iconst 1, 1) := by decide +kernel
theorem dX8_chooseBurn_5 : decode cX8_chooseBurn 5 = .ok (.isub, 1) := by decide +kernel
theorem dX8_chooseBurn_6 : decode cX8_chooseBurn 6 = .ok (.aload_n 0, 1) := by decide +kernel
theorem dX8_chooseBurn_7 : decode cX8_chooseBurn 7 = .ok (.iload_n 1, 1) := by decide +kernel
theorem dX8_chooseBurn_8 : decode cX8_chooseBurn 8 = .ok (.aload_n 2, 1) := by decide +kernel
theorem dX8_chooseBurn_9 : decode cX8_chooseBurn 9 = .ok (.invokevirtual 357, 3) := by decide +kernel
theorem dX8_chooseBurn_12 : decode cX8_chooseBurn 12 = .ok (.invokestatic 269, 3) := by decide +kernel
theorem dX8_chooseBurn_15 : decode cX8_chooseBurn 15 = .ok (.istore 4, 2) := by decide +kernel
theorem dX8_chooseBurn_17 : decode cX8_chooseBurn 17 = .ok (.iconst 1, 1) := by decide +kernel
theorem dX8_chooseBurn_18 : decode cX8_chooseBurn 18 = .ok (.istore 5, 2) := by decide +kernel
theorem dX8_chooseBurn_20 : decode cX8_chooseBurn 20 = .ok (.iload 5, 2) := by decide +kernel
theorem dX8_chooseBurn_22 : decode cX8_chooseBurn 22 = .ok (.bipush 6, 2) := by decide +kernel
theorem dX8_chooseBurn_24 : decode cX8_chooseBurn 24 = .ok (.if_icmp .gt 78, 3) := by decide +kernel
theorem dX8_chooseBurn_27 : decode cX8_chooseBurn 27 = .ok (.iload 4, 2) := by decide +kernel
theorem dX8_chooseBurn_29 : decode cX8_chooseBurn 29 = .ok (.istore 6, 2) := by decide +kernel
theorem dX8_chooseBurn_31 : decode cX8_chooseBurn 31 = .ok (.iload 6, 2) := by decide +kernel
theorem dX8_chooseBurn_33 : decode cX8_chooseBurn 33 = .ok (.iload_n 3, 1) := by decide +kernel
theorem dX8_chooseBurn_34 : decode cX8_chooseBurn 34 = .ok (.if_icmp .lt 62, 3) := by decide +kernel
theorem dX8_chooseBurn_37 : decode cX8_chooseBurn 37 = .ok (.iconst 0, 1) := by decide +kernel
theorem dX8_chooseBurn_38 : decode cX8_chooseBurn 38 = .ok (.istore 7, 2) := by decide +kernel
theorem dX8_chooseBurn_40 : decode cX8_chooseBurn 40 = .ok (.iload 7, 2) := by decide +kernel
theorem dX8_chooseBurn_42 : decode cX8_chooseBurn 42 = .ok (.bipush 125, 2) := by decide +kernel
theorem dX8_chooseBurn_44 : decode cX8_chooseBurn 44 = .ok (.if_icmp .ge 46, 3) := by decide +kernel
theorem dX8_chooseBurn_47 : decode cX8_chooseBurn 47 = .ok (.aload_n 0, 1) := by decide +kernel
theorem dX8_chooseBurn_48 : decode cX8_chooseBurn 48 = .ok (.getfield 72, 3) := by decide +kernel
theorem dX8_chooseBurn_51 : decode cX8_chooseBurn 51 = .ok (.iload 6, 2) := by decide +kernel
theorem dX8_chooseBurn_53 : decode cX8_chooseBurn 53 = .ok (.iload 7, 2) := by decide +kernel
theorem dX8_chooseBurn_55 : decode cX8_chooseBurn 55 = .ok (.invokevirtual 360, 3) := by decide +kernel
theorem dX8_chooseBurn_58 : decode cX8_chooseBurn 58 = .ok (.aload_n 0, 1) := by decide +kernel
theorem dX8_chooseBurn_59 : decode cX8_chooseBurn 59 = .ok (.getfield 72, 3) := by decide +kernel
theorem dX8_chooseBurn_62 : decode cX8_chooseBurn 62 = .ok (.getfield 232, 3) := by decide +kernel
theorem dX8_chooseBurn_65 : decode cX8_chooseBurn 65 = .ok (.iload 5, 2) := by decide +kernel
theorem dX8_chooseBurn_67 : decode cX8_chooseBurn 67 = .ok (.if_icmp .ne 17, 3) := by decide +kernel
theorem dX8_chooseBurn_70 : decode cX8_chooseBurn 70 = .ok (.aload_n 0, 1) := by decide +kernel
theorem dX8_chooseBurn_71 : decode cX8_chooseBurn 71 = .ok (.iload_n 1, 1) := by decide +kernel
theorem dX8_chooseBurn_72 : decode cX8_chooseBurn 72 = .ok (.aload_n 2, 1) := by decide +kernel
theorem dX8_chooseBurn_73 : decode cX8_chooseBurn 73 = .ok (.aload_n 0, 1) := by decide +kernel
theorem dX8_chooseBurn_74 : decode cX8_chooseBurn 74 = .ok (.getfield 72, 3) := by decide +kernel
theorem dX8_chooseBurn_77 : decode cX8_chooseBurn 77 = .ok (.invokevirtual 362, 3) := by decide +kernel
theorem dX8_chooseBurn_80 : decode cX8_chooseBurn 80 = .ok (.ifCond .eq 4, 3) := by decide +kernel
theorem dX8_chooseBurn_83 : decode cX8_chooseBurn 83 = .ok (.return_, 1) := by decide +kernel
theorem dX8_chooseBurn_84 : decode cX8_chooseBurn 84 = .ok (.iinc 7 1, 3) := by decide +kernel
theorem dX8_chooseBurn_87 : decode cX8_chooseBurn 87 = .ok (.goto (-47), 3) := by decide +kernel
theorem dX8_chooseBurn_90 : decode cX8_chooseBurn 90 = .ok (.iinc 6 (-1), 3) := by decide +kernel
theorem dX8_chooseBurn_93 : decode cX8_chooseBurn 93 = .ok (.goto (-62), 3) := by decide +kernel
theorem dX8_chooseBurn_96 : decode cX8_chooseBurn 96 = .ok (.iinc 5 1, 3) := by decide +kernel
theorem dX8_chooseBurn_99 : decode cX8_chooseBurn 99 = .ok (.goto (-79), 3) := by decide +kernel
theorem dX8_chooseBurn_102 : decode cX8_chooseBurn 102 = .ok (.aload_n 0, 1) := by decide +kernel
theorem dX8_chooseBurn_103 : decode cX8_chooseBurn 103 = .ok (.getfield 72, 3) := by decide +kernel
theorem dX8_chooseBurn_106 : decode cX8_chooseBurn 106 = .ok (.invokevirtual 366, 3) := by decide +kernel
theorem dX8_chooseBurn_109 : decode cX8_chooseBurn 109 = .ok (.return_, 1) := by decide +kernel
theorem dX8_lastClearStep_0 : decode cX8_lastClearStep 0 = .ok (.aload_n 2, 1) := by decide +kernel
theorem dX8_lastClearStep_1 : decode cX8_lastClearStep 1 = .ok (.getfield 139, 3) := by decide +kernel
theorem dX8_lastClearStep_4 : decode cX8_lastClearStep 4 = .ok (.iconst 1, 1) := by decide +kernel
theorem dX8_lastClearStep_5 : decode cX8_lastClearStep 5 = .ok (.isub, 1) := by decide +kernel
theorem dX8_lastClearStep_6 : decode cX8_lastClearStep 6 = .ok (.istore_n 3, 1) := by decide +kernel
theorem dX8_lastClearStep_7 : decode cX8_lastClearStep 7 = .ok (.aload_n 2, 1) := by decide +kernel
theorem dX8_lastClearStep_8 : decode cX8_lastClearStep 8 = .ok (.getfield 139, 3) := by decide +kernel
theorem dX8_lastClearStep_11 : decode cX8_lastClearStep 11 = .ok (.istore 4, 2) := by decide +kernel
theorem dX8_lastClearStep_13 : decode cX8_lastClearStep 13 = .ok (.iload 4, 2) := by decide +kernel
theorem dX8_lastClearStep_15 : decode cX8_lastClearStep 15 = .ok (.aload_n 2, 1) := by decide +kernel
theorem dX8_lastClearStep_16 : decode cX8_lastClearStep 16 = .ok (.invokevirtual 112, 3) := by decide +kernel
theorem dX8_lastClearStep_19 : decode cX8_lastClearStep 19 = .ok (.if_icmp .gt 29, 3) := by decide +kernel
theorem dX8_lastClearStep_22 : decode cX8_lastClearStep 22 = .ok (.aload_n 0, 1) := by decide +kernel
theorem dX8_lastClearStep_23 : decode cX8_lastClearStep 23 = .ok (.iload_n 1, 1) := by decide +kernel
theorem dX8_lastClearStep_24 : decode cX8_lastClearStep 24 = .ok (.aload_n 2, 1) := by decide +kernel
theorem dX8_lastClearStep_25 : decode cX8_lastClearStep 25 = .ok (.iload 4, 2) := by decide +kernel
theorem dX8_lastClearStep_27 : decode cX8_lastClearStep 27 = .ok (.iconst 1, 1) := by decide +kernel
theorem dX8_lastClearStep_28 : decode cX8_lastClearStep 28 = .ok (.isub, 1) := by decide +kernel
theorem dX8_lastClearStep_29 : decode cX8_lastClearStep 29 = .ok (.iload 4, 2) := by decide +kernel
theorem dX8_lastClearStep_31 : decode cX8_lastClearStep 31 = .ok (.invokevirtual 369, 3) := by decide +kernel
theorem dX8_lastClearStep_34 : decode cX8_lastClearStep 34 = .ok (.ifCond .eq 5, 3) := by decide +kernel
theorem dX8_lastClearStep_37 : decode cX8_lastClearStep 37 = .ok (.iload_n 3, 1) := by decide +kernel
theorem dX8_lastClearStep_38 : decode cX8_lastClearStep 38 = .ok (.ireturn, 1) := by decide +kernel
theorem dX8_lastClearStep_39 : decode cX8_lastClearStep 39 = .ok (.iload 4, 2) := by decide +kernel
theorem dX8_lastClearStep_41 : decode cX8_lastClearStep 41 = .ok (.istore_n 3, 1) := by decide +kernel
theorem dX8_lastClearStep_42 : decode cX8_lastClearStep 42 = .ok (.iinc 4 1, 3) := by decide +kernel
theorem dX8_lastClearStep_45 : decode cX8_lastClearStep 45 = .ok (.goto (-32), 3) := by decide +kernel
theorem dX8_lastClearStep_48 : decode cX8_lastClearStep 48 = .ok (.iload_n 3, 1) := by decide +kernel
theorem dX8_lastClearStep_49 : decode cX8_lastClearStep 49 = .ok (.ireturn, 1) := by decide +kernel
theorem dX8_isFree_0 : decode cX8_isFree 0 = .ok (.aload_n 2, 1) := by decide +kernel
theorem dX8_isFree_1 : decode cX8_isFree 1 = .ok (.aload_n 3, 1) := by decide +kernel
theorem dX8_isFree_2 : decode cX8_isFree 2 = .ok (.getfield 235, 3) := by decide +kernel
theorem dX8_isFree_5 : decode cX8_isFree 5 = .ok (.aload_n 3, 1) := by decide +kernel
theorem dX8_isFree_6 : decode cX8_isFree 6 = .ok (.getfield 236, 3) := by decide +kernel
theorem dX8_isFree_9 : decode cX8_isFree 9 = .ok (.aload_n 3, 1) := by decide +kernel
theorem dX8_isFree_10 : decode cX8_isFree 10 = .ok (.getfield 239, 3) := by decide +kernel
theorem dX8_isFree_13 : decode cX8_isFree 13 = .ok (.aload_n 3, 1) := by decide +kernel
theorem dX8_isFree_14 : decode cX8_isFree 14 = .ok (.getfield 242, 3) := by decide +kernel
theorem dX8_isFree_17 : decode cX8_isFree 17 = .ok (.invokevirtual 248, 3) := by decide +kernel
theorem dX8_isFree_20 : decode cX8_isFree 20 = .ok (.ifCond .ne 5, 3) := by decide +kernel
theorem dX8_isFree_23 : decode cX8_isFree 23 = .ok (.iconst 0, 1) := by decide +kernel
theorem dX8_isFree_24 : decode cX8_isFree 24 = .ok (.ireturn, 1) := by decide +kernel
theorem dX8_isFree_25 : decode cX8_isFree 25 = .ok (.aload_n 0, 1) := by decide +kernel
theorem dX8_isFree_26 : decode cX8_isFree 26 = .ok (.getfield 65, 3) := by decide +kernel
theorem dX8_isFree_29 : decode cX8_isFree 29 = .ok (.aload_n 2, 1) := by decide +kernel
theorem dX8_isFree_30 : decode cX8_isFree 30 = .ok (.aload_n 2, 1) := by decide +kernel
theorem dX8_isFree_31 : decode cX8_isFree 31 = .ok (.getfield 139, 3) := by decide +kernel
theorem dX8_isFree_34 : decode cX8_isFree 34 = .ok (.invokevirtual 324, 3) := by decide +kernel
theorem dX8_isFree_37 : decode cX8_isFree 37 = .ok (.aload_n 0, 1) := by decide +kernel
theorem dX8_isFree_38 : decode cX8_isFree 38 = .ok (.getfield 65, 3) := by decide +kernel
theorem dX8_isFree_41 : decode cX8_isFree 41 = .ok (.aload_n 3, 1) := by decide +kernel
theorem dX8_isFree_42 : decode cX8_isFree 42 = .ok (.getfield 235, 3) := by decide +kernel
theorem dX8_isFree_45 : decode cX8_isFree 45 = .ok (.aload_n 3, 1) := by decide +kernel
theorem dX8_isFree_46 : decode cX8_isFree 46 = .ok (.getfield 236, 3) := by decide +kernel
theorem dX8_isFree_49 : decode cX8_isFree 49 = .ok (.aload_n 3, 1) := by decide +kernel
theorem dX8_isFree_50 : decode cX8_isFree 50 = .ok (.getfield 239, 3) := by decide +kernel
theorem dX8_isFree_53 : decode cX8_isFree 53 = .ok (.aload_n 3, 1) := by decide +kernel
theorem dX8_isFree_54 : decode cX8_isFree 54 = .ok (.getfield 242, 3) := by decide +kernel
theorem dX8_isFree_57 : decode cX8_isFree 57 = .ok (.invokevirtual 252, 3) := by decide +kernel
theorem dX8_isFree_60 : decode cX8_isFree 60 = .ok (.aload_n 0, 1) := by decide +kernel
theorem dX8_isFree_61 : decode cX8_isFree 61 = .ok (.iload_n 1, 1) := by decide +kernel
theorem dX8_isFree_62 : decode cX8_isFree 62 = .ok (.aload_n 0, 1) := by decide +kernel
theorem dX8_isFree_63 : decode cX8_isFree 63 = .ok (.getfield 65, 3) := by decide +kernel
theorem dX8_isFree_66 : decode cX8_isFree 66 = .ok (.aload_n 3, 1) := by decide +kernel
theorem dX8_isFree_67 : decode cX8_isFree 67 = .ok (.getfield 235, 3) := by decide +kernel
theorem dX8_isFree_70 : decode cX8_isFree 70 = .ok (.bipush 39, 2) := by decide +kernel
theorem dX8_isFree_72 : decode cX8_isFree 72 = .ok (.invokevirtual 369, 3) := by decide +kernel
theorem dX8_isFree_75 : decode cX8_isFree 75 = .ok (.ifCond .ne 7, 3) := by decide +kernel
theorem dX8_isFree_78 : decode cX8_isFree 78 = .ok (.iconst 1, 1) := by decide +kernel
theorem dX8_isFree_79 : decode cX8_isFree 79 = .ok (.goto 4, 3) := by decide +kernel
theorem dX8_isFree_82 : decode cX8_isFree 82 = .ok (.iconst 0, 1) := by decide +kernel
theorem dX8_isFree_83 : decode cX8_isFree 83 = .ok (.ireturn, 1) := by decide +kernel
theorem dX8_meetsAny_0 : decode cX8_meetsAny 0 = .ok (.iconst (-1), 1) := by decide +kernel
theorem dX8_meetsAny_1 : decode cX8_meetsAny 1 = .ok (.istore 5, 2) := by decide +kernel
theorem dX8_meetsAny_3 : decode cX8_meetsAny 3 = .ok (.iload 5, 2) := by decide +kernel
theorem dX8_meetsAny_5 : decode cX8_meetsAny 5 = .ok (.aload_n 0, 1) := by decide +kernel
theorem dX8_meetsAny_6 : decode cX8_meetsAny 6 = .ok (.getfield 12, 3) := by decide +kernel
theorem dX8_meetsAny_9 : decode cX8_meetsAny 9 = .ok (.getfield 88, 3) := by decide +kernel
theorem dX8_meetsAny_12 : decode cX8_meetsAny 12 = .ok (.if_icmp .ge 68, 3) := by decide +kernel
theorem dX8_meetsAny_15 : decode cX8_meetsAny 15 = .ok (.iload 5, 2) := by decide +kernel
theorem dX8_meetsAny_17 : decode cX8_meetsAny 17 = .ok (.ifCond .ge 10, 3) := by decide +kernel
theorem dX8_meetsAny_20 : decode cX8_meetsAny 20 = .ok (.aload_n 0, 1) := by decide +kernel
theorem dX8_meetsAny_21 : decode cX8_meetsAny 21 = .ok (.getfield 373, 3) := by decide +kernel
theorem dX8_meetsAny_24 : decode cX8_meetsAny 24 = .ok (.goto 5, 3) := by decide +kernel
theorem dX8_meetsAny_27 : decode cX8_meetsAny 27 = .ok (.iload 5, 2) := by decide +kernel
theorem dX8_meetsAny_29 : decode cX8_meetsAny 29 = .ok (.istore 6, 2) := by decide +kernel
theorem dX8_meetsAny_31 : decode cX8_meetsAny 31 = .ok (.aload_n 0, 1) := by decide +kernel
theorem dX8_meetsAny_32 : decode cX8_meetsAny 32 = .ok (.getfield 12, 3) := by decide +kernel
theorem dX8_meetsAny_35 : decode cX8_meetsAny 35 = .ok (.iload 6, 2) := by decide +kernel
theorem dX8_meetsAny_37 : decode cX8_meetsAny 37 = .ok (.invokevirtual 103, 3) := by decide +kernel
theorem dX8_meetsAny_40 : decode cX8_meetsAny 40 = .ok (.astore 7, 2) := by decide +kernel
theorem dX8_meetsAny_42 : decode cX8_meetsAny 42 = .ok (.iload_n 1, 1) := by decide +kernel
theorem dX8_meetsAny_43 : decode cX8_meetsAny 43 = .ok (.iload 6, 2) := by decide +kernel
theorem dX8_meetsAny_45 : decode cX8_meetsAny 45 = .ok (.aload 7, 2) := by decide +kernel
theorem dX8_meetsAny_47 : decode cX8_meetsAny 47 = .ok (.invokestatic 350, 3) := by decide +kernel
theorem dX8_meetsAny_50 : decode cX8_meetsAny 50 = .ok (.ifCond .eq 24, 3) := by decide +kernel
theorem dX8_meetsAny_53 : decode cX8_meetsAny 53 = .ok (.aload_n 0, 1) := by decide +kernel
theorem dX8_meetsAny_54 : decode cX8_meetsAny 54 = .ok (.aload_n 2, 1) := by decide +kernel
theorem dX8_meetsAny_55 : decode cX8_meetsAny 55 = .ok (.aload 7, 2) := by decide +kernel
theorem dX8_meetsAny_57 : decode cX8_meetsAny 57 = .ok (.iload_n 3, 1) := by decide +kernel
theorem dX8_meetsAny_58 : decode cX8_meetsAny 58 = .ok (.iload 4, 2) := by decide +kernel
theorem dX8_meetsAny_60 : decode cX8_meetsAny 60 = .ok (.invokevirtual 347, 3) := by decide +kernel
theorem dX8_meetsAny_63 : decode cX8_meetsAny 63 = .ok (.ifCond .eq 11, 3) := by decide +kernel
theorem dX8_meetsAny_66 : decode cX8_meetsAny 66 = .ok (.aload_n 0, 1) := by decide +kernel
theorem dX8_meetsAny_67 : decode cX8_meetsAny 67 = .ok (.iload 6, 2) := by decide +kernel
theorem dX8_meetsAny_69 : decode cX8_meetsAny 69 = .ok (.putfield 373, 3) := by decide +kernel
theorem dX8_meetsAny_72 : decode cX8_meetsAny 72 = .ok (.iconst 1, 1) := by decide +kernel
theorem dX8_meetsAny_73 : decode cX8_meetsAny 73 = .ok (.ireturn, 1) := by decide +kernel
theorem dX8_meetsAny_74 : decode cX8_meetsAny 74 = .ok (.iinc 5 1, 3) := by decide +kernel
theorem dX8_meetsAny_77 : decode cX8_meetsAny 77 = .ok (.goto (-74), 3) := by decide +kernel
theorem dX8_meetsAny_80 : decode cX8_meetsAny 80 = .ok (.iconst 0, 1) := by decide +kernel
theorem dX8_meetsAny_81 : decode cX8_meetsAny 81 = .ok (.ireturn, 1) := by decide +kernel
theorem dX8_findDot_0 : decode cX8_findDot 0 = .ok (.iload_n 1, 1) := by decide +kernel
theorem dX8_findDot_1 : decode cX8_findDot 1 = .ok (.ifCond .lt 29, 3) := by decide +kernel
theorem dX8_findDot_4 : decode cX8_findDot 4 = .ok (.iload_n 1, 1) := by decide +kernel
theorem dX8_findDot_5 : decode cX8_findDot 5 = .ok (.aload_n 0, 1) := by decide +kernel
theorem dX8_findDot_6 : decode cX8_findDot 6 = .ok (.getfield 158, 3) := by decide +kernel
theorem dX8_findDot_9 : decode cX8_findDot 9 = .ok (.if_icmp .ge 21, 3) := by decide +kernel
theorem dX8_findDot_12 : decode cX8_findDot 12 = .ok (.iload_n 1, 1) := by decide +kernel
theorem dX8_findDot_13 : decode cX8_findDot 13 = .ok (.aload_n 0, 1) := by decide +kernel
theorem dX8_findDot_14 : decode cX8_findDot 14 = .ok (.getfield 24, 3) := by decide +kernel
theorem dX8_findDot_17 : decode cX8_findDot 17 = .ok (.arraylength, 1) := by decide +kernel
theorem dX8_findDot_18 : decode cX8_findDot 18 = .ok (.if_icmp .ge 12, 3) := by decide +kernel
theorem dX8_findDot_21 : decode cX8_findDot 21 = .ok (.aload_n 0, 1) := by decide +kernel
theorem dX8_findDot_22 : decode cX8_findDot 22 = .ok (.getfield 24, 3) := by decide +kernel
theorem dX8_findDot_25 : decode cX8_findDot 25 = .ok (.iload_n 1, 1) := by decide +kernel
theorem dX8_findDot_26 : decode cX8_findDot 26 = .ok (.aaload, 1) := by decide +kernel
theorem dX8_findDot_27 : decode cX8_findDot 27 = .ok (.goto 4, 3) := by decide +kernel
theorem dX8_findDot_30 : decode cX8_findDot 30 = .ok (.aconst_null, 1) := by decide +kernel
theorem dX8_findDot_31 : decode cX8_findDot 31 = .ok (.areturn, 1) := by decide +kernel
theorem dX8_countDotsOf_0 : decode cX8_countDotsOf 0 = .ok (.iconst 0, 1) := by decide +kernel
theorem dX8_countDotsOf_1 : decode cX8_countDotsOf 1 = .ok (.istore_n 3, 1) := by decide +kernel
theorem dX8_countDotsOf_2 : decode cX8_countDotsOf 2 = .ok (.iconst 0, 1) := by decide +kernel
theorem dX8_countDotsOf_3 : decode cX8_countDotsOf 3 = .ok (.istore 4, 2) := by decide +kernel
theorem dX8_countDotsOf_5 : decode cX8_countDotsOf 5 = .ok (.iload 4, 2) := by decide +kernel
theorem dX8_countDotsOf_7 : decode cX8_countDotsOf 7 = .ok (.aload_n 0, 1) := by decide +kernel
theorem dX8_countDotsOf_8 : decode cX8_countDotsOf 8 = .ok (.getfield 158, 3) := by decide +kernel
theorem dX8_countDotsOf_11 : decode cX8_countDotsOf 11 = .ok (.if_icmp .ge 42, 3) := by decide +kernel
theorem dX8_countDotsOf_14 : decode cX8_countDotsOf 14 = .ok (.aload_n 0, 1) := by decide +kernel
theorem dX8_countDotsOf_15 : decode cX8_countDotsOf 15 = .ok (.iload 4, 2) := by decide +kernel
theorem dX8_countDotsOf_17 : decode cX8_countDotsOf 17 = .ok (.invokevirtual 258, 3) := by decide +kernel
theorem dX8_countDotsOf_20 : decode cX8_countDotsOf 20 = .ok (.astore 5, 2) := by decide +kernel
theorem dX8_countDotsOf_22 : decode cX8_countDotsOf 22 = .ok (.aload 5, 2) := by decide +kernel
theorem dX8_countDotsOf_24 : decode cX8_countDotsOf 24 = .ok (.ifnull 23, 3) := by decide +kernel
theorem dX8_countDotsOf_27 : decode cX8_countDotsOf 27 = .ok (.aload_n 0, 1) := by decide +kernel
theorem dX8_countDotsOf_28 : decode cX8_countDotsOf 28 = .ok (.getfield 12, 3) := by decide +kernel
theorem dX8_countDotsOf_31 : decode cX8_countDotsOf 31 = .ok (.aload 5, 2) := by decide +kernel
theorem dX8_countDotsOf_33 : decode cX8_countDotsOf 33 = .ok (.invokevirtual 262, 3) := by decide +kernel
theorem dX8_countDotsOf_36 : decode cX8_countDotsOf 36 = .ok (.iload_n 1, 1) := by decide +kernel
theorem dX8_countDotsOf_37 : decode cX8_countDotsOf 37 = .ok (.iload_n 2, 1) := by decide +kernel
theorem dX8_countDotsOf_38 : decode cX8_countDotsOf 38 = .ok (.invokestatic 84, 3) := by decide +kernel
theorem dX8_countDotsOf_41 : decode cX8_countDotsOf 41 = .ok (.ifCond .eq 6, 3) := by decide +kernel
theorem dX8_countDotsOf_44 : decode cX8_countDotsOf 44 = .ok (.iinc 3 1, 3) := by decide +kernel
theorem dX8_countDotsOf_47 : decode cX8_countDotsOf 47 = .ok (.iinc 4 1, 3) := by decide +kernel
theorem dX8_countDotsOf_50 : decode cX8_countDotsOf 50 = .ok (.goto (-45), 3) := by decide +kernel
theorem dX8_countDotsOf_53 : decode cX8_countDotsOf 53 = .ok (.iload_n 3, 1) := by decide +kernel
theorem dX8_countDotsOf_54 : decode cX8_countDotsOf 54 = .ok (.ireturn, 1) := by decide +kernel
theorem dX8_findNotice_0 : decode cX8_findNotice 0 = .ok (.iload_n 1, 1) := by decide +kernel
theorem dX8_findNotice_1 : decode cX8_findNotice 1 = .ok (.ifCond .lt 29, 3) := by decide +kernel
theorem dX8_findNotice_4 : decode cX8_findNotice 4 = .ok (.iload_n 1, 1) := by decide +kernel
theorem dX8_findNotice_5 : decode cX8_findNotice 5 = .ok (.aload_n 0, 1) := by decide +kernel
theorem dX8_findNotice_6 : decode cX8_findNotice 6 = .ok (.getfield 164, 3) := by decide +kernel
theorem dX8_findNotice_9 : decode cX8_findNotice 9 = .ok (.if_icmp .ge 21, 3) := by decide +kernel
theorem dX8_findNotice_12 : decode cX8_findNotice 12 = .ok (.iload_n 1, 1) := by decide +kernel
theorem dX8_findNotice_13 : decode cX8_findNotice 13 = .ok (.aload_n 0, 1) := by decide +kernel
theorem dX8_findNotice_14 : decode cX8_findNotice 14 = .ok (.getfield 30, 3) := by decide +kernel
theorem dX8_findNotice_17 : decode cX8_findNotice 17 = .ok (.arraylength, 1) := by decide +kernel
theorem dX8_findNotice_18 : decode cX8_findNotice 18 = .ok (.if_icmp .ge 12, 3) := by decide +kernel
theorem dX8_findNotice_21 : decode cX8_findNotice 21 = .ok (.aload_n 0, 1) := by decide +kernel
theorem dX8_findNotice_22 : decode cX8_findNotice 22 = .ok (.getfield 30, 3) := by decide +kernel
theorem dX8_findNotice_25 : decode cX8_findNotice 25 = .ok (.iload_n 1, 1) := by decide +kernel
theorem dX8_findNotice_26 : decode cX8_findNotice 26 = .ok (.aaload, 1) := by decide +kernel
theorem dX8_findNotice_27 : decode cX8_findNotice 27 = .ok (.goto 4, 3) := by decide +kernel
theorem dX8_findNotice_30 : decode cX8_findNotice 30 = .ok (.aconst_null, 1) := by decide +kernel
theorem dX8_findNotice_31 : decode cX8_findNotice 31 = .ok (.areturn, 1) := by decide +kernel
theorem dX8_lastNoticeOf_0 : decode cX8_lastNoticeOf 0 = .ok (.aload_n 0, 1) := by decide +kernel
theorem dX8_lastNoticeOf_1 : decode cX8_lastNoticeOf 1 = .ok (.getfield 164, 3) := by decide +kernel
theorem dX8_lastNoticeOf_4 : decode cX8_lastNoticeOf 4 = .ok (.iconst 1, 1) := by decide +kernel
theorem dX8_lastNoticeOf_5 : decode cX8_lastNoticeOf 5 = .ok (.isub, 1) := by decide +kernel
theorem dX8_lastNoticeOf_6 : decode cX8_lastNoticeOf 6 = .ok (.istore_n 3, 1) := by decide +kernel
theorem dX8_lastNoticeOf_7 : decode cX8_lastNoticeOf 7 = .ok (.iload_n 3, 1) := by decide +kernel
theorem dX8_lastNoticeOf_8 : decode cX8_lastNoticeOf 8 = .ok (.ifCond .lt 41, 3) := by decide +kernel
theorem dX8_lastNoticeOf_11 : decode cX8_lastNoticeOf 11 = .ok (.aload_n 0, 1) := by decide +kernel
theorem dX8_lastNoticeOf_12 : decode cX8_lastNoticeOf 12 = .ok (.iload_n 3, 1) := by decide +kernel
theorem dX8_lastNoticeOf_13 : decode cX8_lastNoticeOf 13 = .ok (.invokevirtual 292, 3) := by decide +kernel
theorem dX8_lastNoticeOf_16 : decode cX8_lastNoticeOf 16 = .ok (.astore 4, 2) := by decide +kernel
theorem dX8_lastNoticeOf_18 : decode cX8_lastNoticeOf 18 = .ok (.aload 4, 2) := by decide +kernel
theorem dX8_lastNoticeOf_20 : decode cX8_lastNoticeOf 20 = .ok (.ifnull 23, 3) := by decide +kernel
theorem dX8_lastNoticeOf_23 : decode cX8_lastNoticeOf 23 = .ok (.aload 4, 2) := by decide +kernel
theorem dX8_lastNoticeOf_25 : decode cX8_lastNoticeOf 25 = .ok (.getfield 280, 3) := by decide +kernel
theorem dX8_lastNoticeOf_28 : decode cX8_lastNoticeOf 28 = .ok (.iload_n 1, 1) := by decide +kernel
theorem dX8_lastNoticeOf_29 : decode cX8_lastNoticeOf 29 = .ok (.if_icmp .ne 14, 3) := by decide +kernel
theorem dX8_lastNoticeOf_32 : decode cX8_lastNoticeOf 32 = .ok (.aload 4, 2) := by decide +kernel
theorem dX8_lastNoticeOf_34 : decode cX8_lastNoticeOf 34 = .ok (.getfield 283, 3) := by decide +kernel
theorem dX8_lastNoticeOf_37 : decode cX8_lastNoticeOf 37 = .ok (.iload_n 2, 1) := by decide +kernel
theorem dX8_lastNoticeOf_38 : decode cX8_lastNoticeOf 38 = .ok (.if_icmp .ne 5, 3) := by decide +kernel
theorem dX8_lastNoticeOf_41 : decode cX8_lastNoticeOf 41 = .ok (.iload_n 3, 1) := by decide +kernel
theorem dX8_lastNoticeOf_42 : decode cX8_lastNoticeOf 42 = .ok (.ireturn, 1) := by decide +kernel
theorem dX8_lastNoticeOf_43 : decode cX8_lastNoticeOf 43 = .ok (.iinc 3 (-1), 3) := by decide +kernel
theorem dX8_lastNoticeOf_46 : decode cX8_lastNoticeOf 46 = .ok (.goto (-39), 3) := by decide +kernel
theorem dX8_lastNoticeOf_49 : decode cX8_lastNoticeOf 49 = .ok (.iconst (-1), 1) := by decide +kernel
theorem dX8_lastNoticeOf_50 : decode cX8_lastNoticeOf 50 = .ok (.ireturn, 1) := by decide +kernel
theorem dX8_countHolding_0 : decode cX8_countHolding 0 = .ok (.iconst 0, 1) := by decide +kernel
theorem dX8_countHolding_1 : decode cX8_countHolding 1 = .ok (.istore_n 1, 1) := by decide +kernel
theorem dX8_countHolding_2 : decode cX8_countHolding 2 = .ok (.iconst 0, 1) := by decide +kernel
theorem dX8_countHolding_3 : decode cX8_countHolding 3 = .ok (.istore_n 2, 1) := by decide +kernel
theorem dX8_countHolding_4 : decode cX8_countHolding 4 = .ok (.iload_n 2, 1) := by decide +kernel
theorem dX8_countHolding_5 : decode cX8_countHolding 5 = .ok (.aload_n 0, 1) := by decide +kernel
theorem dX8_countHolding_6 : decode cX8_countHolding 6 = .ok (.getfield 164, 3) := by decide +kernel
theorem dX8_countHolding_9 : decode cX8_countHolding 9 = .ok (.if_icmp .ge 29, 3) := by decide +kernel
theorem dX8_countHolding_12 : decode cX8_countHolding 12 = .ok (.aload_n 0, 1) := by decide +kernel
theorem dX8_countHolding_13 : decode cX8_countHolding 13 = .ok (.iload_n 2, 1) := by decide +kernel
theorem dX8_countHolding_14 : decode cX8_countHolding 14 = .ok (.invokevirtual 292, 3) := by decide +kernel
theorem dX8_countHolding_17 : decode cX8_countHolding 17 = .ok (.astore_n 3, 1) := by decide +kernel
theorem dX8_countHolding_18 : decode cX8_countHolding 18 = .ok (.aload_n 3, 1) := by decide +kernel
theorem dX8_countHolding_19 : decode cX8_countHolding 19 = .ok (.ifnull 13, 3) := by decide +kernel
theorem dX8_countHolding_22 : decode cX8_countHolding 22 = .ok (.aload_n 3, 1) := by decide +kernel
theorem dX8_countHolding_23 : decode cX8_countHolding 23 = .ok (.getfield 296, 3) := by decide +kernel
theorem dX8_countHolding_26 : decode cX8_countHolding 26 = .ok (.ifCond .eq 6, 3) := by decide +kernel
theorem dX8_countHolding_29 : decode cX8_countHolding 29 = .ok (.iinc 1 1, 3) := by decide +kernel
theorem dX8_countHolding_32 : decode cX8_countHolding 32 = .ok (.iinc 2 1, 3) := by decide +kernel
theorem dX8_countHolding_35 : decode cX8_countHolding 35 = .ok (.goto (-31), 3) := by decide +kernel
theorem dX8_countHolding_38 : decode cX8_countHolding 38 = .ok (.iload_n 1, 1) := by decide +kernel
theorem dX8_countHolding_39 : decode cX8_countHolding 39 = .ok (.ireturn, 1) := by decide +kernel
theorem dX8_findShelf_0 : decode cX8_findShelf 0 = .ok (.iload_n 1, 1) := by decide +kernel
theorem dX8_findShelf_1 : decode cX8_findShelf 1 = .ok (.lookupswitch 37 #[(0, 27), (1, 32)], 27) := by decide +kernel
theorem dX8_findShelf_28 : decode cX8_findShelf 28 = .ok (.aload_n 0, 1) := by decide +kernel
theorem dX8_findShelf_29 : decode cX8_findShelf 29 = .ok (.getfield 16, 3) := by decide +kernel
theorem dX8_findShelf_32 : decode cX8_findShelf 32 = .ok (.areturn, 1) := by decide +kernel
theorem dX8_findShelf_33 : decode cX8_findShelf 33 = .ok (.aload_n 0, 1) := by decide +kernel
theorem dX8_findShelf_34 : decode cX8_findShelf 34 = .ok (.getfield 19, 3) := by decide +kernel
theorem dX8_findShelf_37 : decode cX8_findShelf 37 = .ok (.areturn, 1) := by decide +kernel
theorem dX8_findShelf_38 : decode cX8_findShelf 38 = .ok (.aconst_null, 1) := by decide +kernel
theorem dX8_findShelf_39 : decode cX8_findShelf 39 = .ok (.areturn, 1) := by decide +kernel
