theorem dX3_init_0 : decode cX3_init 0 = .ok (.aload_n 0, 1) := by decide +kernel
theorem dX3_init_1 : decode cX3_init 1 = .ok (.invokespecial 1, 3) := by decide +kernel
theorem dX3_init_4 : decode cX3_init 4 = .ok (.aload_n 0, 1) := by decide +kernel
theorem dX3_init_5 : decode cX3_init 5 = .ok (.lconst 0, 1) := by decide +kernel
theorem dX3_init_6 : decode cX3_init 6 = .ok (.putfield 7, 3) := by decide +kernel
theorem dX3_init_9 : decode cX3_init 9 = .ok (.aload_n 0, 1) := by decide +kernel
theorem dX3_init_10 : decode cX3_init 10 = .ok (.lconst 1, 1) := by decide +kernel
theorem dX3_init_11 : decode cX3_init 11 = .ok (.putfield 13, 3) := by decide +kernel
theorem dX3_init_14 : decode cX3_init 14 = .ok (.return_, 1) := by decide +kernel
theorem dX3_become_0 : decode cX3_become 0 = .ok (.lload_n 1, 1) := by decide +kernel
theorem dX3_become_1 : decode cX3_become 1 = .ok (.lload_n 3, 1) := by decide +kernel
theorem dX3_become_2 : decode cX3_become 2 = .ok (.invokestatic 16, 3) := by decide +kernel
theorem dX3_become_5 : decode cX3_become 5 = .ok (.lstore 5, 2) := by decide +kernel
theorem dX3_become_7 : decode cX3_become 7 = .ok (.aload_n 0, 1) := by decide +kernel
theorem dX3_become_8 : decode cX3_become 8 = .ok (.lload 5, 2) := by decide +kernel
theorem dX3_become_10 : decode cX3_become 10 = .ok (.lconst 0, 1) := by decide +kernel
theorem dX3_become_11 : decode cX3_become 11 = .ok (.lcmp, 1) := by decide +kernel
theorem dX3_become_12 : decode cX3_become 12 = .ok (.ifCond .le 10, 3) := by decide +kernel
theorem dX3_become_15 : decode cX3_become 15 = .ok (.lload_n 1, 1) := by decide +kernel
theorem dX3_become_16 : decode cX3_become 16 = .ok (.lload 5, 2) := by decide +kernel
theorem dX3_become_18 : decode cX3_become 18 = .ok (.ldiv, 1) := by decide +kernel
theorem dX3_become_19 : decode cX3_become 19 = .ok (.goto 4, 3) := by decide +kernel
theorem dX3_become_22 : decode cX3_become 22 = .ok (.lload_n 1, 1) := by decide +kernel
theorem dX3_become_23 : decode cX3_become 23 = .ok (.putfield 7, 3) := by decide +kernel
theorem dX3_become_26 : decode cX3_become 26 = .ok (.aload_n 0, 1) := by decide +kernel
theorem dX3_become_27 : decode cX3_become 27 = .ok (.lload 5, 2) := by decide +kernel
theorem dX3_become_29 : decode cX3_become 29 = .ok (.lconst 0, 1) := by decide +kernel
theorem dX3_become_30 : decode cX3_become 30 = .ok (.lcmp, 1) := by decide +kernel
theorem dX3_become_31 : decode cX3_become 31 = .ok (.ifCond .le 10, 3) := by decide +kernel
theorem dX3_become_34 : decode cX3_become 34 = .ok (.lload_n 3, 1) := by decide +kernel
theorem dX3_become_35 : decode cX3_become 35 = .ok (.lload 5, 2) := by decide +kernel
theorem dX3_become_37 : decode cX3_become 37 = .ok (.ldiv, 1) := by decide +kernel
theorem dX3_become_38 : decode cX3_become 38 = .ok (.goto 4, 3) := by decide +kernel
theorem dX3_become_41 : decode cX3_become 41 = .ok (.lload_n 3, 1) := by decide +kernel
theorem dX3_become_42 : decode cX3_become 42 = .ok (.putfield 13, 3) := by decide +kernel
theorem dX3_become_45 : decode cX3_become 45 = .ok (.return_, 1) := by decide +kernel
theorem dX3_isAbove_0 : decode cX3_isAbove 0 = .ok (.aload_n 0, 1) := by decide +kernel
theorem dX3_isAbove_1 : decode cX3_isAbove 1 = .ok (.getfield 13, 3) := by decide +kernel
theorem dX3_isAbove_4 : decode cX3_isAbove 4 = .ok (.lconst 0, 1) := by decide +kernel
theorem dX3_isAbove_5 : decode cX3_isAbove 5 = .ok (.lcmp, 1) := by decide +kernel
theorem dX3_isAbove_6 : decode cX3_isAbove 6 = .ok (.ifCond .le 9, 3) := by decide +kernel
theorem dX3_isAbove_9 : decode cX3_isAbove 9 = .ok (.lload_n 3, 1) := by decide +kernel
theorem dX3_isAbove_10 : decode cX3_isAbove 10 = .ok (.lconst 0, 1) := by decide +kernel
theorem dX3_isAbove_11 : decode cX3_isAbove 11 = .ok (.lcmp, 1) := by decide +kernel
theorem dX3_isAbove_12 : decode cX3_isAbove 12 = .ok (.ifCond .gt 5, 3) := by decide +kernel
theorem dX3_isAbove_15 : decode cX3_isAbove 15 = .ok (.iconst 0, 1) := by decide +kernel
theorem dX3_isAbove_16 : decode cX3_isAbove 16 = .ok (.ireturn, 1) := by decide +kernel
theorem dX3_isAbove_17 : decode cX3_isAbove 17 = .ok (.aload_n 0, 1) := by decide +kernel
theorem dX3_isAbove_18 : decode cX3_isAbove 18 = .ok (.getfield 7, 3) := by decide +kernel
theorem dX3_isAbove_21 : decode cX3_isAbove 21 = .ok (.aload_n 0, 1) := by decide +kernel
theorem dX3_isAbove_22 : decode cX3_isAbove 22 = .ok (.getfield 13, 3) := by decide +kernel
theorem dX3_isAbove_25 : decode cX3_isAbove 25 = .ok (.ldiv, 1) := by decide +kernel
theorem dX3_isAbove_26 : decode cX3_isAbove 26 = .ok (.lstore 5, 2) := by decide +kernel
theorem dX3_isAbove_28 : decode cX3_isAbove 28 = .ok (.lload_n 1, 1) := by decide +kernel
theorem dX3_isAbove_29 : decode cX3_isAbove 29 = .ok (.lload_n 3, 1) := by decide +kernel
theorem dX3_isAbove_30 : decode cX3_isAbove 30 = .ok (.ldiv, 1) := by decide +kernel
theorem dX3_isAbove_31 : decode cX3_isAbove 31 = .ok (.lstore 7, 2) := by decide +kernel
theorem dX3_isAbove_33 : decode cX3_isAbove 33 = .ok (.lload 5, 2) := by decide +kernel
theorem dX3_isAbove_35 : decode cX3_isAbove 35 = .ok (.lload 7, 2) := by decide +kernel
theorem dX3_isAbove_37 : decode cX3_isAbove 37 = .ok (.lcmp, 1) := by decide +kernel
theorem dX3_isAbove_38 : decode cX3_isAbove 38 = .ok (.ifCond .eq 17, 3) := by decide +kernel
theorem dX3_isAbove_41 : decode cX3_isAbove 41 = .ok (.lload 5, 2) := by decide +kernel
theorem dX3_isAbove_43 : decode cX3_isAbove 43 = .ok (.lload 7, 2) := by decide +kernel
theorem dX3_isAbove_45 : decode cX3_isAbove 45 = .ok (.lcmp, 1) := by decide +kernel
theorem dX3_isAbove_46 : decode cX3_isAbove 46 = .ok (.ifCond .le 7, 3) := by decide +kernel
theorem dX3_isAbove_49 : decode cX3_isAbove 49 = .ok (.iconst 1, 1) := by decide +kernel
theorem dX3_isAbove_50 : decode cX3_isAbove 50 = .ok (.goto 4, 3) := by decide +kernel
theorem dX3_isAbove_53 : decode cX3_isAbove 53 = .ok (.iconst 0, 1) := by decide +kernel
theorem dX3_isAbove_54 : decode cX3_isAbove 54 = .ok (.ireturn, 1) := by decide +kernel
theorem dX3_isAbove_55 : decode cX3_isAbove 55 = .ok (.aload_n 0, 1) := by decide +kernel
theorem dX3_isAbove_56 : decode cX3_isAbove 56 = .ok (.getfield 7, 3) := by decide +kernel
theorem dX3_isAbove_59 : decode cX3_isAbove 59 = .ok (.aload_n 0, 1) := by decide +kernel
theorem dX3_isAbove_60 : decode cX3_isAbove 60 = .ok (.getfield 13, 3) := by decide +kernel
theorem dX3_isAbove_63 : decode cX3_isAbove 63 = .ok (.lrem, 1) := by decide +kernel
theorem dX3_isAbove_64 : decode cX3_isAbove 64 = .ok (.lload_n 3, 1) := by decide +kernel
theorem dX3_isAbove_65 : decode cX3_isAbove 65 = .ok (.lmul, 1) := by decide +kernel
theorem dX3_isAbove_66 : decode cX3_isAbove 66 = .ok (.lload_n 1, 1) := by decide +kernel
theorem dX3_isAbove_67 : decode cX3_isAbove 67 = .ok (.lload_n 3, 1) := by decide +kernel
theorem dX3_isAbove_68 : decode cX3_isAbove 68 = .ok (.lrem, 1) := by decide +kernel
theorem dX3_isAbove_69 : decode cX3_isAbove 69 = .ok (.aload_n 0, 1) := by decide +kernel
theorem dX3_isAbove_70 : decode cX3_isAbove 70 = .ok (.getfield 13, 3) := by decide +kernel
theorem dX3_isAbove_73 : decode cX3_isAbove 73 = .ok (.lmul, 1) := by decide +kernel
theorem dX3_isAbove_74 : decode cX3_isAbove 74 = .ok (.lcmp, 1) := by decide +kernel
theorem dX3_isAbove_75 : decode cX3_isAbove 75 = .ok (.ifCond .le 7, 3) := by decide +kernel
theorem dX3_isAbove_78 : decode cX3_isAbove 78 = .ok (.iconst 1, 1) := by decide +kernel
theorem dX3_isAbove_79 : decode cX3_isAbove 79 = .ok (.goto 4, 3) := by decide +kernel
theorem dX3_isAbove_82 : decode cX3_isAbove 82 = .ok (.iconst 0, 1) := by decide +kernel
theorem dX3_isAbove_83 : decode cX3_isAbove 83 = .ok (.ireturn, 1) := by decide +kernel
theorem dX3_cut_0 : decode cX3_cut 0 = .ok (.aload_n 0, 1) := by decide +kernel
theorem dX3_cut_1 : decode cX3_cut 1 = .ok (.getfield 13, 3) := by decide +kernel
theorem dX3_cut_4 : decode cX3_cut 4 = .ok (.lconst 0, 1) := by decide +kernel
theorem dX3_cut_5 : decode cX3_cut 5 = .ok (.lcmp, 1) := by decide +kernel
theorem dX3_cut_6 : decode cX3_cut 6 = .ok (.ifCond .le 16, 3) := by decide +kernel
theorem dX3_cut_9 : decode cX3_cut 9 = .ok (.aload_n 0, 1) := by decide +kernel
theorem dX3_cut_10 : decode cX3_cut 10 = .ok (.getfield 7, 3) := by decide +kernel
theorem dX3_cut_13 : decode cX3_cut 13 = .ok (.aload_n 0, 1) := by decide +kernel
theorem dX3_cut_14 : decode cX3_cut 14 = .ok (.getfield 13, 3) := by decide +kernel
theorem dX3_cut_17 : decode cX3_cut 17 = .ok (.ldiv, 1) := by decide +kernel
theorem dX3_cut_18 : decode cX3_cut 18 = .ok (.l2i, 1) := by decide +kernel
theorem dX3_cut_19 : decode cX3_cut 19 = .ok (.goto 4, 3) := by decide +kernel
theorem dX3_cut_22 : decode cX3_cut 22 = .ok (.iconst 0, 1) := by decide +kernel
theorem dX3_cut_23 : decode cX3_cut 23 = .ok (.ireturn, 1) := by decide +kernel
theorem dX3_commonDivisor_0 : decode cX3_commonDivisor 0 = .ok (.lload_n 0, 1) := by decide +kernel
theorem dX3_commonDivisor_1 : decode cX3_commonDivisor 1 = .ok (.lstore 4, 2) := by decide +kernel
theorem dX3_commonDivisor_3 : decode cX3_commonDivisor 3 = .ok (.lload_n 2, 1) := by decide +kernel
theorem dX3_commonDivisor_4 : decode cX3_commonDivisor 4 = .ok (.lstore 6, 2) := by decide +kernel
theorem dX3_commonDivisor_6 : decode cX3_commonDivisor 6 = .ok (.iconst 0, 1) := by decide +kernel
theorem dX3_commonDivisor_7 : decode cX3_commonDivisor 7 = .ok (.istore 8, 2) := by decide +kernel
theorem dX3_commonDivisor_9 : decode cX3_commonDivisor 9 = .ok (.iload 8, 2) := by decide +kernel
theorem dX3_commonDivisor_11 : decode cX3_commonDivisor 11 = .ok (.sipush 200, 3) := by decide +kernel
theorem dX3_commonDivisor_14 : decode cX3_commonDivisor 14 = .ok (.if_icmp .ge 31, 3) := by decide +kernel
theorem dX3_commonDivisor_17 : decode cX3_commonDivisor 17 = .ok (.lload 6, 2) := by decide +kernel
theorem dX3_commonDivisor_19 : decode cX3_commonDivisor 19 = .ok (.lconst 0, 1) := by decide +kernel
theorem dX3_commonDivisor_20 : decode cX3_commonDivisor 20 = .ok (.lcmp, 1) := by decide +kernel
theorem dX3_commonDivisor_21 : decode cX3_commonDivisor 21 = .ok (.ifCond .eq 24, 3) := by decide +kernel
theorem dX3_commonDivisor_24 : decode cX3_commonDivisor 24 = .ok (.lload 4, 2) := by decide +kernel
theorem dX3_commonDivisor_26 : decode cX3_commonDivisor 26 = .ok (.lload 6, 2) := by decide +kernel
theorem dX3_commonDivisor_28 : decode cX3_commonDivisor 28 = .ok (.lrem, 1) := by decide +kernel
theorem dX3_commonDivisor_29 : decode cX3_commonDivisor 29 = .ok (.lstore 9, 2) := by decide +kernel
theorem dX3_commonDivisor_31 : decode cX3_commonDivisor 31 = .ok (.lload 6, 2) := by decide +kernel
theorem dX3_commonDivisor_33 : decode cX3_commonDivisor 33 = .ok (.lstore 4, 2) := by decide +kernel
theorem dX3_commonDivisor_35 : decode cX3_commonDivisor 35 = .ok (.lload 9, 2) := by decide +kernel
theorem dX3_commonDivisor_37 : decode cX3_commonDivisor 37 = .ok (.lstore 6, 2) := by decide +kernel
theorem dX3_commonDivisor_39 : decode cX3_commonDivisor 39 = .ok (.iinc 8 1, 3) := by decide +kernel
theorem dX3_commonDivisor_42 : decode cX3_commonDivisor 42 = .ok (.goto (-33), 3) := by decide +kernel
theorem dX3_commonDivisor_45 : decode cX3_commonDivisor 45 = .ok (.lload 4, 2) := by decide +kernel
theorem dX3_commonDivisor_47 : decode cX3_commonDivisor 47 = .ok (.lreturn, 1) := by decide +kernel
