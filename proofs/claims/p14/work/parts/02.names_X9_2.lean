theorem dX9_meeting_29 : decode cX9_meeting 29 = .ok (.iconst 1, 1) := by decide +kernel
theorem dX9_meeting_30 : decode cX9_meeting 30 = .ok (.iadd, 1) := by decide +kernel
theorem dX9_meeting_31 : decode cX9_meeting 31 = .ok (.istore 5, 2) := by decide +kernel
theorem dX9_meeting_33 : decode cX9_meeting 33 = .ok (.iload 5, 2) := by decide +kernel
theorem dX9_meeting_35 : decode cX9_meeting 35 = .ok (.aload_n 0, 1) := by decide +kernel
theorem dX9_meeting_36 : decode cX9_meeting 36 = .ok (.getfield 59, 3) := by decide +kernel
theorem dX9_meeting_39 : decode cX9_meeting 39 = .ok (.if_icmp .ge 40, 3) := by decide +kernel
theorem dX9_meeting_42 : decode cX9_meeting 42 = .ok (.aload_n 0, 1) := by decide +kernel
theorem dX9_meeting_43 : decode cX9_meeting 43 = .ok (.iload 4, 2) := by decide +kernel
theorem dX9_meeting_45 : decode cX9_meeting 45 = .ok (.iload 5, 2) := by decide +kernel
theorem dX9_meeting_47 : decode cX9_meeting 47 = .ok (.invokevirtual 106, 3) := by decide +kernel
theorem dX9_meeting_50 : decode cX9_meeting 50 = .ok (.ifCond .eq 23, 3) := by decide +kernel
theorem dX9_meeting_53 : decode cX9_meeting 53 = .ok (.iload_n 3, 1) := by decide +kernel
theorem dX9_meeting_54 : decode cX9_meeting 54 = .ok (.iload_n 1, 1) := by decide +kernel
theorem dX9_meeting_55 : decode cX9_meeting 55 = .ok (.if_icmp .ne 15, 3) := by decide +kernel
theorem dX9_meeting_58 : decode cX9_meeting 58 = .ok (.iload_n 2, 1) := by decide +kernel
theorem dX9_meeting_59 : decode cX9_meeting 59 = .ok (.ifCond .ne 8, 3) := by decide +kernel
theorem dX9_meeting_62 : decode cX9_meeting 62 = .ok (.iload 4, 2) := by decide +kernel
theorem dX9_meeting_64 : decode cX9_meeting 64 = .ok (.goto 5, 3) := by decide +kernel
theorem dX9_meeting_67 : decode cX9_meeting 67 = .ok (.iload 5, 2) := by decide +kernel
theorem dX9_meeting_69 : decode cX9_meeting 69 = .ok (.ireturn, 1) := by decide +kernel
theorem dX9_meeting_70 : decode cX9_meeting 70 = .ok (.iinc 3 1, 3) := by decide +kernel
theorem dX9_meeting_73 : decode cX9_meeting 73 = .ok (.iinc 5 1, 3) := by decide +kernel
theorem dX9_meeting_76 : decode cX9_meeting 76 = .ok (.goto (-43), 3) := by decide +kernel
theorem dX9_meeting_79 : decode cX9_meeting 79 = .ok (.iinc 4 1, 3) := by decide +kernel
theorem dX9_meeting_82 : decode cX9_meeting 82 = .ok (.goto (-64), 3) := by decide +kernel
theorem dX9_meeting_85 : decode cX9_meeting 85 = .ok (.iconst (-1), 1) := by decide +kernel
theorem dX9_meeting_86 : decode cX9_meeting 86 = .ok (.ireturn, 1) := by decide +kernel
theorem dX9_pairsOf_0 : decode cX9_pairsOf 0 = .ok (.aload_n 0, 1) := by decide +kernel
theorem dX9_pairsOf_1 : decode cX9_pairsOf 1 = .ok (.iload_n 1, 1) := by decide +kernel
theorem dX9_pairsOf_2 : decode cX9_pairsOf 2 = .ok (.iload_n 3, 1) := by decide +kernel
theorem dX9_pairsOf_3 : decode cX9_pairsOf 3 = .ok (.iload 4, 2) := by decide +kernel
theorem dX9_pairsOf_5 : decode cX9_pairsOf 5 = .ok (.invokevirtual 94, 3) := by decide +kernel
theorem dX9_pairsOf_8 : decode cX9_pairsOf 8 = .ok (.aload_n 0, 1) := by decide +kernel
theorem dX9_pairsOf_9 : decode cX9_pairsOf 9 = .ok (.iload_n 2, 1) := by decide +kernel
theorem dX9_pairsOf_10 : decode cX9_pairsOf 10 = .ok (.iload_n 3, 1) := by decide +kernel
theorem dX9_pairsOf_11 : decode cX9_pairsOf 11 = .ok (.iload 4, 2) := by decide +kernel
theorem dX9_pairsOf_13 : decode cX9_pairsOf 13 = .ok (.invokevirtual 94, 3) := by decide +kernel
theorem dX9_pairsOf_16 : decode cX9_pairsOf 16 = .ok (.isub, 1) := by decide +kernel
theorem dX9_pairsOf_17 : decode cX9_pairsOf 17 = .ok (.istore 5, 2) := by decide +kernel
theorem dX9_pairsOf_19 : decode cX9_pairsOf 19 = .ok (.lconst 0, 1) := by decide +kernel
theorem dX9_pairsOf_20 : decode cX9_pairsOf 20 = .ok (.lstore 6, 2) := by decide +kernel
theorem dX9_pairsOf_22 : decode cX9_pairsOf 22 = .ok (.aload_n 0, 1) := by decide +kernel
theorem dX9_pairsOf_23 : decode cX9_pairsOf 23 = .ok (.getfield 16, 3) := by decide +kernel
theorem dX9_pairsOf_26 : decode cX9_pairsOf 26 = .ok (.iload_n 1, 1) := by decide +kernel
theorem dX9_pairsOf_27 : decode cX9_pairsOf 27 = .ok (.iaload, 1) := by decide +kernel
theorem dX9_pairsOf_28 : decode cX9_pairsOf 28 = .ok (.ineg, 1) := by decide +kernel
theorem dX9_pairsOf_29 : decode cX9_pairsOf 29 = .ok (.istore 8, 2) := by decide +kernel
theorem dX9_pairsOf_31 : decode cX9_pairsOf 31 = .ok (.iload 8, 2) := by decide +kernel
theorem dX9_pairsOf_33 : decode cX9_pairsOf 33 = .ok (.aload_n 0, 1) := by decide +kernel
theorem dX9_pairsOf_34 : decode cX9_pairsOf 34 = .ok (.getfield 16, 3) := by decide +kernel
theorem dX9_pairsOf_37 : decode cX9_pairsOf 37 = .ok (.iload_n 1, 1) := by decide +kernel
theorem dX9_pairsOf_38 : decode cX9_pairsOf 38 = .ok (.iaload, 1) := by decide +kernel
theorem dX9_pairsOf_39 : decode cX9_pairsOf 39 = .ok (.if_icmp .gt 107, 3) := by decide +kernel
theorem dX9_pairsOf_42 : decode cX9_pairsOf 42 = .ok (.iload 5, 2) := by decide +kernel
theorem dX9_pairsOf_44 : decode cX9_pairsOf 44 = .ok (.iload 8, 2) := by decide +kernel
theorem dX9_pairsOf_46 : decode cX9_pairsOf 46 = .ok (.iadd, 1) := by decide +kernel
theorem dX9_pairsOf_47 : decode cX9_pairsOf 47 = .ok (.aload_n 0, 1) := by decide +kernel
theorem dX9_pairsOf_48 : decode cX9_pairsOf 48 = .ok (.getfield 30, 3) := by decide +kernel
theorem dX9_pairsOf_51 : decode cX9_pairsOf 51 = .ok (.isub, 1) := by decide +kernel
theorem dX9_pairsOf_52 : decode cX9_pairsOf 52 = .ok (.istore 9, 2) := by decide +kernel
theorem dX9_pairsOf_54 : decode cX9_pairsOf 54 = .ok (.iload 5, 2) := by decide +kernel
theorem dX9_pairsOf_56 : decode cX9_pairsOf 56 = .ok (.iload 8, 2) := by decide +kernel
theorem dX9_pairsOf_58 : decode cX9_pairsOf 58 = .ok (.iadd, 1) := by decide +kernel
theorem dX9_pairsOf_59 : decode cX9_pairsOf 59 = .ok (.aload_n 0, 1) := by decide +kernel
theorem dX9_pairsOf_60 : decode cX9_pairsOf 60 = .ok (.getfield 30, 3) := by decide +kernel
theorem dX9_pairsOf_63 : decode cX9_pairsOf 63 = .ok (.iadd, 1) := by decide +kernel
theorem dX9_pairsOf_64 : decode cX9_pairsOf 64 = .ok (.istore 10, 2) := by decide +kernel
theorem dX9_pairsOf_66 : decode cX9_pairsOf 66 = .ok (.iload 9, 2) := by decide +kernel
theorem dX9_pairsOf_68 : decode cX9_pairsOf 68 = .ok (.aload_n 0, 1) := by decide +kernel
theorem dX9_pairsOf_69 : decode cX9_pairsOf 69 = .ok (.getfield 16, 3) := by decide +kernel
theorem dX9_pairsOf_72 : decode cX9_pairsOf 72 = .ok (.iload_n 2, 1) := by decide +kernel
theorem dX9_pairsOf_73 : decode cX9_pairsOf 73 = .ok (.iaload, 1) := by decide +kernel
theorem dX9_pairsOf_74 : decode cX9_pairsOf 74 = .ok (.ineg, 1) := by decide +kernel
theorem dX9_pairsOf_75 : decode cX9_pairsOf 75 = .ok (.if_icmp .ge 13, 3) := by decide +kernel
theorem dX9_pairsOf_78 : decode cX9_pairsOf 78 = .ok (.aload_n 0, 1) := by decide +kernel
theorem dX9_pairsOf_79 : decode cX9_pairsOf 79 = .ok (.getfield 16, 3) := by decide +kernel
theorem dX9_pairsOf_82 : decode cX9_pairsOf 82 = .ok (.iload_n 2, 1) := by decide +kernel
theorem dX9_pairsOf_83 : decode cX9_pairsOf 83 = .ok (.iaload, 1) := by decide +kernel
theorem dX9_pairsOf_84 : decode cX9_pairsOf 84 = .ok (.ineg, 1) := by decide +kernel
theorem dX9_pairsOf_85 : decode cX9_pairsOf 85 = .ok (.goto 5, 3) := by decide +kernel
theorem dX9_pairsOf_88 : decode cX9_pairsOf 88 = .ok (.iload 9, 2) := by decide +kernel
theorem dX9_pairsOf_90 : decode cX9_pairsOf 90 = .ok (.istore 9, 2) := by decide +kernel
theorem dX9_pairsOf_92 : decode cX9_pairsOf 92 = .ok (.iload 10, 2) := by decide +kernel
theorem dX9_pairsOf_94 : decode cX9_pairsOf 94 = .ok (.aload_n 0, 1) := by decide +kernel
theorem dX9_pairsOf_95 : decode cX9_pairsOf 95 = .ok (.getfield 16, 3) := by decide +kernel
theorem dX9_pairsOf_98 : decode cX9_pairsOf 98 = .ok (.iload_n 2, 1) := by decide +kernel
theorem dX9_pairsOf_99 : decode cX9_pairsOf 99 = .ok (.iaload, 1) := by decide +kernel
theorem dX9_pairsOf_100 : decode cX9_pairsOf 100 = .ok (.if_icmp .le 12, 3) := by decide +kernel
theorem dX9_pairsOf_103 : decode cX9_pairsOf 103 = .ok (.aload_n 0, 1) := by decide +kernel
theorem dX9_pairsOf_104 : decode cX9_pairsOf 104 = .ok (.getfield 16, 3) := by decide +kernel
theorem dX9_pairsOf_107 : decode cX9_pairsOf 107 = .ok (.iload_n 2, 1) := by decide +kernel
theorem dX9_pairsOf_108 : decode cX9_pairsOf 108 = .ok (.iaload, 1) := by decide +kernel
theorem dX9_pairsOf_109 : decode cX9_pairsOf 109 = .ok (.goto 5, 3) := by decide +kernel
theorem dX9_pairsOf_112 : decode cX9_pairsOf 112 = .ok (.iload 10, 2) := by decide +kernel
theorem dX9_pairsOf_114 : decode cX9_pairsOf 114 = .ok (.istore 10, 2) := by decide +kernel
theorem dX9_pairsOf_116 : decode cX9_pairsOf 116 = .ok (.lload 6, 2) := by decide +kernel
theorem dX9_pairsOf_118 : decode cX9_pairsOf 118 = .ok (.iload 10, 2) := by decide +kernel
theorem dX9_pairsOf_120 : decode cX9_pairsOf 120 = .ok (.iload 9, 2) := by decide +kernel
theorem dX9_pairsOf_122 : decode cX9_pairsOf 122 = .ok (.if_icmp .ge 7, 3) := by decide +kernel
theorem dX9_pairsOf_125 : decode cX9_pairsOf 125 = .ok (.lconst 0, 1) := by decide +kernel
theorem dX9_pairsOf_126 : decode cX9_pairsOf 126 = .ok (.goto 11, 3) := by decide +kernel
theorem dX9_pairsOf_129 : decode cX9_pairsOf 129 = .ok (.iload 10, 2) := by decide +kernel
theorem dX9_pairsOf_131 : decode cX9_pairsOf 131 = .ok (.iload 9, 2) := by decide +kernel
theorem dX9_pairsOf_133 : decode cX9_pairsOf 133 = .ok (.isub, 1) := by decide +kernel
theorem dX9_pairsOf_134 : decode cX9_pairsOf 134 = .ok (.iconst 1, 1) := by decide +kernel
theorem dX9_pairsOf_135 : decode cX9_pairsOf 135 = .ok (.iadd, 1) := by decide +kernel
theorem dX9_pairsOf_136 : decode cX9_pairsOf 136 = .ok (.i2l, 1) := by decide +kernel
theorem dX9_pairsOf_137 : decode cX9_pairsOf 137 = .ok (.ladd, 1) := by decide +kernel
theorem dX9_pairsOf_138 : decode cX9_pairsOf 138 = .ok (.lstore 6, 2) := by decide +kernel
theorem dX9_pairsOf_140 : decode cX9_pairsOf 140 = .ok (.iinc 8 1, 3) := by decide +kernel
theorem dX9_pairsOf_143 : decode cX9_pairsOf 143 = .ok (.goto (-112), 3) := by decide +kernel
theorem dX9_pairsOf_146 : decode cX9_pairsOf 146 = .ok (.lload 6, 2) := by decide +kernel
theorem dX9_pairsOf_148 : decode cX9_pairsOf 148 = .ok (.lreturn, 1) := by decide +kernel
theorem dX9_share_0 : decode cX9_share 0 = .ok (.aload_n 0, 1) := by decide +kernel
theorem dX9_share_1 : decode cX9_share 1 = .ok (.iload_n 1, 1) := by decide +kernel
theorem dX9_share_2 : decode cX9_share 2 = .ok (.invokevirtual 80, 3) := by decide +kernel
theorem dX9_share_5 : decode cX9_share 5 = .ok (.ifCond .eq 11, 3) := by decide +kernel
theorem dX9_share_8 : decode cX9_share 8 = .ok (.aload_n 0, 1) := by decide +kernel
theorem dX9_share_9 : decode cX9_share 9 = .ok (.iload_n 2, 1) := by decide +kernel
theorem dX9_share_10 : decode cX9_share 10 = .ok (.invokevirtual 80, 3) := by decide +kernel
theorem dX9_share_13 : decode cX9_share 13 = .ok (.ifCond .ne 7, 3) := by decide +kernel
theorem dX9_share_16 : decode cX9_share 16 = .ok (.ldc2_w 158, 3) := by decide +kernel
theorem dX9_share_19 : decode cX9_share 19 = .ok (.lreturn, 1) := by decide +kernel
theorem dX9_share_20 : decode cX9_share 20 = .ok (.iload_n 3, 1) := by decide +kernel
theorem dX9_share_21 : decode cX9_share 21 = .ok (.i2l, 1) := by decide +kernel
theorem dX9_share_22 : decode cX9_share 22 = .ok (.lconst 0, 1) := by decide +kernel
theorem dX9_share_23 : decode cX9_share 23 = .ok (.ldc2_w 62, 3) := by decide +kernel
theorem dX9_share_26 : decode cX9_share 26 = .ok (.invokestatic 55, 3) := by decide +kernel
theorem dX9_share_29 : decode cX9_share 29 = .ok (.ifCond .eq 14, 3) := by decide +kernel
theorem dX9_share_32 : decode cX9_share 32 = .ok (.iload 4, 2) := by decide +kernel
theorem dX9_share_34 : decode cX9_share 34 = .ok (.i2l, 1) := by decide +kernel
theorem dX9_share_35 : decode cX9_share 35 = .ok (.lconst 0, 1) := by decide +kernel
theorem dX9_share_36 : decode cX9_share 36 = .ok (.lconst 1, 1) := by decide +kernel
theorem dX9_share_37 : decode cX9_share 37 = .ok (.invokestatic 55, 3) := by decide +kernel
theorem dX9_share_40 : decode cX9_share 40 = .ok (.ifCond .ne 7, 3) := by decide +kernel
theorem dX9_share_43 : decode cX9_share 43 = .ok (.ldc2_w 162, 3) := by decide +kernel
theorem dX9_share_46 : decode cX9_share 46 = .ok (.lreturn, 1) := by decide +kernel
theorem dX9_share_47 : decode cX9_share 47 = .ok (.iload_n 1, 1) := by decide +kernel
theorem dX9_share_48 : decode cX9_share 48 = .ok (.iload_n 2, 1) := by decide +kernel
theorem dX9_share_49 : decode cX9_share 49 = .ok (.if_icmp .eq 21, 3) := by decide +kernel
theorem dX9_share_52 : decode cX9_share 52 = .ok (.aload_n 0, 1) := by decide +kernel
theorem dX9_share_53 : decode cX9_share 53 = .ok (.iload_n 1, 1) := by decide +kernel
theorem dX9_share_54 : decode cX9_share 54 = .ok (.iload_n 3, 1) := by decide +kernel
theorem dX9_share_55 : decode cX9_share 55 = .ok (.invokevirtual 90, 3) := by decide +kernel
theorem dX9_share_58 : decode cX9_share 58 = .ok (.ifCond .eq 12, 3) := by decide +kernel
theorem dX9_share_61 : decode cX9_share 61 = .ok (.aload_n 0, 1) := by decide +kernel
theorem dX9_share_62 : decode cX9_share 62 = .ok (.iload_n 2, 1) := by decide +kernel
theorem dX9_share_63 : decode cX9_share 63 = .ok (.iload_n 3, 1) := by decide +kernel
theorem dX9_share_64 : decode cX9_share 64 = .ok (.invokevirtual 90, 3) := by decide +kernel
theorem dX9_share_67 : decode cX9_share 67 = .ok (.ifCond .ne 7, 3) := by decide +kernel
theorem dX9_share_70 : decode cX9_share 70 = .ok (.ldc2_w 164, 3) := by decide +kernel
theorem dX9_share_73 : decode cX9_share 73 = .ok (.lreturn, 1) := by decide +kernel
theorem dX9_share_74 : decode cX9_share 74 = .ok (.ldc2_w 86, 3) := by decide +kernel
theorem dX9_share_77 : decode cX9_share 77 = .ok (.aload_n 0, 1) := by decide +kernel
theorem dX9_share_78 : decode cX9_share 78 = .ok (.getfield 16, 3) := by decide +kernel
theorem dX9_share_81 : decode cX9_share 81 = .ok (.iload_n 1, 1) := by decide +kernel
theorem dX9_share_82 : decode cX9_share 82 = .ok (.iaload, 1) := by decide +kernel
theorem dX9_share_83 : decode cX9_share 83 = .ok (.i2l, 1) := by decide +kernel
theorem dX9_share_84 : decode cX9_share 84 = .ok (.lmul, 1) := by decide +kernel
theorem dX9_share_85 : decode cX9_share 85 = .ok (.lconst 1, 1) := by decide +kernel
theorem dX9_share_86 : decode cX9_share 86 = .ok (.ladd, 1) := by decide +kernel
theorem dX9_share_87 : decode cX9_share 87 = .ok (.ldc2_w 86, 3) := by decide +kernel
theorem dX9_share_90 : decode cX9_share 90 = .ok (.aload_n 0, 1) := by decide +kernel
theorem dX9_share_91 : decode cX9_share 91 = .ok (.getfield 16, 3) := by decide +kernel
theorem dX9_share_94 : decode cX9_share 94 = .ok (.iload_n 2, 1) := by decide +kernel
theorem dX9_share_95 : decode cX9_share 95 = .ok (.iaload, 1) := by decide +kernel
theorem dX9_share_96 : decode cX9_share 96 = .ok (.i2l, 1) := by decide +kernel
theorem dX9_share_97 : decode cX9_share 97 = .ok (.lmul, 1) := by decide +kernel
theorem dX9_share_98 : decode cX9_share 98 = .ok (.lconst 1, 1) := by decide +kernel
theorem dX9_share_99 : decode cX9_share 99 = .ok (.ladd, 1) := by decide +kernel
theorem dX9_share_100 : decode cX9_share 100 = .ok (.lmul, 1) := by decide +kernel
theorem dX9_share_101 : decode cX9_share 101 = .ok (.lstore 5, 2) := by decide +kernel
theorem dX9_share_103 : decode cX9_share 103 = .ok (.lload 5, 2) := by decide +kernel
theorem dX9_share_105 : decode cX9_share 105 = .ok (.lload 5, 2) := by decide +kernel
theorem dX9_share_107 : decode cX9_share 107 = .ok (.lmul, 1) := by decide +kernel
theorem dX9_share_108 : decode cX9_share 108 = .ok (.lload 5, 2) := by decide +kernel
theorem dX9_share_110 : decode cX9_share 110 = .ok (.lmul, 1) := by decide +kernel
theorem dX9_share_111 : decode cX9_share 111 = .ok (.lstore 7, 2) := by decide +kernel
theorem dX9_share_113 : decode cX9_share 113 = .ok (.aload_n 0, 1) := by decide +kernel
theorem dX9_share_114 : decode cX9_share 114 = .ok (.iload_n 1, 1) := by decide +kernel
theorem dX9_share_115 : decode cX9_share 115 = .ok (.iload_n 2, 1) := by decide +kernel
theorem dX9_share_116 : decode cX9_share 116 = .ok (.iload_n 3, 1) := by decide +kernel
theorem dX9_share_117 : decode cX9_share 117 = .ok (.iconst 0, 1) := by decide +kernel
theorem dX9_share_118 : decode cX9_share 118 = .ok (.invokevirtual 178, 3) := by decide +kernel
theorem dX9_share_121 : decode cX9_share 121 = .ok (.aload_n 0, 1) := by decide +kernel
theorem dX9_share_122 : decode cX9_share 122 = .ok (.iload_n 1, 1) := by decide +kernel
theorem dX9_share_123 : decode cX9_share 123 = .ok (.iload_n 2, 1) := by decide +kernel
theorem dX9_share_124 : decode cX9_share 124 = .ok (.iload_n 3, 1) := by decide +kernel
theorem dX9_share_125 : decode cX9_share 125 = .ok (.iconst 1, 1) := by decide +kernel
theorem dX9_share_126 : decode cX9_share 126 = .ok (.invokevirtual 178, 3) := by decide +kernel
theorem dX9_share_129 : decode cX9_share 129 = .ok (.lmul, 1) := by decide +kernel
theorem dX9_share_130 : decode cX9_share 130 = .ok (.aload_n 0, 1) := by decide +kernel
theorem dX9_share_131 : decode cX9_share 131 = .ok (.iload_n 1, 1) := by decide +kernel
theorem dX9_share_132 : decode cX9_share 132 = .ok (.iload_n 2, 1) := by decide +kernel
theorem dX9_share_133 : decode cX9_share 133 = .ok (.iload_n 3, 1) := by decide +kernel
theorem dX9_share_134 : decode cX9_share 134 = .ok (.iconst 2, 1) := by decide +kernel
theorem dX9_share_135 : decode cX9_share 135 = .ok (.invokevirtual 178, 3) := by decide +kernel
theorem dX9_share_138 : decode cX9_share 138 = .ok (.lmul, 1) := by decide +kernel
theorem dX9_share_139 : decode cX9_share 139 = .ok (.lstore 9, 2) := by decide +kernel
theorem dX9_share_141 : decode cX9_share 141 = .ok (.lload 9, 2) := by decide +kernel
theorem dX9_share_143 : decode cX9_share 143 = .ok (.lload 7, 2) := by decide +kernel
theorem dX9_share_145 : decode cX9_share 145 = .ok (.invokestatic 166, 3) := by decide +kernel
theorem dX9_share_148 : decode cX9_share 148 = .ok (.lstore 11, 2) := by decide +kernel
theorem dX9_share_150 : decode cX9_share 150 = .ok (.iload 4, 2) := by decide +kernel
theorem dX9_share_152 : decode cX9_share 152 = .ok (.ifCond .ne 11, 3) := by decide +kernel
theorem dX9_share_155 : decode cX9_share 155 = .ok (.lload 9, 2) := by decide +kernel
theorem dX9_share_157 : decode cX9_share 157 = .ok (.lload 11, 2) := by decide +kernel
theorem dX9_share_159 : decode cX9_share 159 = .ok (.ldiv, 1) := by decide +kernel
theorem dX9_share_160 : decode cX9_share 160 = .ok (.goto 8, 3) := by decide +kernel
theorem dX9_share_163 : decode cX9_share 163 = .ok (.lload 7, 2) := by decide +kernel
theorem dX9_share_165 : decode cX9_share 165 = .ok (.lload 11, 2) := by decide +kernel
theorem dX9_share_167 : decode cX9_share 167 = .ok (.ldiv, 1) := by decide +kernel
theorem dX9_share_168 : decode cX9_share 168 = .ok (.lreturn, 1) := by decide +kernel
theorem dX9_shift_0 : decode cX9_shift 0 = .ok (.iconst 1, 1) := by decide +kernel
theorem dX9_shift_1 : decode cX9_shift 1 = .ok (.istore 6, 2) := by decide +kernel
theorem dX9_shift_3 : decode cX9_shift 3 = .ok (.iload_n 2, 1) := by decide +kernel
theorem dX9_shift_4 : decode cX9_shift 4 = .ok (.iconst 1, 1) := by decide +kernel
theorem dX9_shift_5 : decode cX9_shift 5 = .ok (.iadd, 1) := by decide +kernel
theorem dX9_shift_6 : decode cX9_shift 6 = .ok (.istore 7, 2) := by decide +kernel
theorem dX9_shift_8 : decode cX9_shift 8 = .ok (.iload 7, 2) := by decide +kernel
theorem dX9_shift_10 : decode cX9_shift 10 = .ok (.aload_n 0, 1) := by decide +kernel
theorem dX9_shift_11 : decode cX9_shift 11 = .ok (.getfield 7, 3) := by decide +kernel
theorem dX9_shift_14 : decode cX9_shift 14 = .ok (.iload_n 1, 1) := by decide +kernel
theorem dX9_shift_15 : decode cX9_shift 15 = .ok (.iaload, 1) := by decide +kernel
theorem dX9_shift_16 : decode cX9_shift 16 = .ok (.aload_n 0, 1) := by decide +kernel
theorem dX9_shift_17 : decode cX9_shift 17 = .ok (.getfield 13, 3) := by decide +kernel
theorem dX9_shift_20 : decode cX9_shift 20 = .ok (.iload_n 1, 1) := by decide +kernel
theorem dX9_shift_21 : decode cX9_shift 21 = .ok (.iaload, 1) := by decide +kernel
theorem dX9_shift_22 : decode cX9_shift 22 = .ok (.iadd, 1) := by decide +kernel
theorem dX9_shift_23 : decode cX9_shift 23 = .ok (.if_icmp .ge 124, 3) := by decide +kernel
theorem dX9_shift_26 : decode cX9_shift 26 = .ok (.iload 7, 2) := by decide +kernel
theorem dX9_shift_28 : decode cX9_shift 28 = .ok (.iload_n 2, 1) := by decide +kernel
theorem dX9_shift_29 : decode cX9_shift 29 = .ok (.isub, 1) := by decide +kernel
theorem dX9_shift_30 : decode cX9_shift 30 = .ok (.istore 8, 2) := by decide +kernel
theorem dX9_shift_32 : decode cX9_shift 32 = .ok (.bipush 36, 2) := by decide +kernel
theorem dX9_shift_34 : decode cX9_shift 34 = .ok (.iload_n 1, 1) := by decide +kernel
theorem dX9_shift_35 : decode cX9_shift 35 = .ok (.imul, 1) := by decide +kernel
theorem dX9_shift_36 : decode cX9_shift 36 = .ok (.iconst 3, 1) := by decide +kernel
theorem dX9_shift_37 : decode cX9_shift 37 = .ok (.iload 7, 2) := by decide +kernel
theorem dX9_shift_39 : decode cX9_shift 39 = .ok (.aload_n 0, 1) := by decide +kernel
theorem dX9_shift_40 : decode cX9_shift 40 = .ok (.getfield 7, 3) := by decide +kernel
theorem dX9_shift_43 : decode cX9_shift 43 = .ok (.iload_n 1, 1) := by decide +kernel
theorem dX9_shift_44 : decode cX9_shift 44 = .ok (.iaload, 1) := by decide +kernel
theorem dX9_shift_45 : decode cX9_shift 45 = .ok (.isub, 1) := by decide +kernel
theorem dX9_shift_46 : decode cX9_shift 46 = .ok (.imul, 1) := by decide +kernel
theorem dX9_shift_47 : decode cX9_shift 47 = .ok (.iadd, 1) := by decide +kernel
theorem dX9_shift_48 : decode cX9_shift 48 = .ok (.istore 9, 2) := by decide +kernel
theorem dX9_shift_50 : decode cX9_shift 50 = .ok (.aload_n 0, 1) := by decide +kernel
theorem dX9_shift_51 : decode cX9_shift 51 = .ok (.getfield 23, 3) := by decide +kernel
theorem dX9_shift_54 : decode cX9_shift 54 = .ok (.iload 9, 2) := by decide +kernel
theorem dX9_shift_56 : decode cX9_shift 56 = .ok (.dup2, 1) := by decide +kernel
theorem dX9_shift_57 : decode cX9_shift 57 = .ok (.iaload, 1) := by decide +kernel
theorem dX9_shift_58 : decode cX9_shift 58 = .ok (.iload 8, 2) := by decide +kernel
theorem dX9_shift_60 : decode cX9_shift 60 = .ok (.iload_n 3, 1) := by decide +kernel
theorem dX9_shift_61 : decode cX9_shift 61 = .ok (.imul, 1) := by decide +kernel
theorem dX9_shift_62 : decode cX9_shift 62 = .ok (.iadd, 1) := by decide +kernel
theorem dX9_shift_63 : decode cX9_shift 63 = .ok (.iastore, 1) := by decide +kernel
theorem dX9_shift_64 : decode cX9_shift 64 = .ok (.aload_n 0, 1) := by decide +kernel
theorem dX9_shift_65 : decode cX9_shift 65 = .ok (.getfield 23, 3) := by decide +kernel
theorem dX9_shift_68 : decode cX9_shift 68 = .ok (.iload 9, 2) := by decide +kernel
theorem dX9_shift_70 : decode cX9_shift 70 = .ok (.iconst 1, 1) := by decide +kernel
theorem dX9_shift_71 : decode cX9_shift 71 = .ok (.iadd, 1) := by decide +kernel
theorem dX9_shift_72 : decode cX9_shift 72 = .ok (.dup2, 1) := by decide +kernel
theorem dX9_shift_73 : decode cX9_shift 73 = .ok (.iaload, 1) := by decide +kernel
theorem dX9_shift_74 : decode cX9_shift 74 = .ok (.iload 8, 2) := by decide +kernel
theorem dX9_shift_76 : decode cX9_shift 76 = .ok (.iload 4, 2) := by decide +kernel
theorem dX9_shift_78 : decode cX9_shift 78 = .ok (.imul, 1) := by decide +kernel
theorem dX9_shift_79 : decode cX9_shift 79 = .ok (.iadd, 1) := by decide +kernel
theorem dX9_shift_80 : decode cX9_shift 80 = .ok (.iastore, 1) := by decide +kernel
theorem dX9_shift_81 : decode cX9_shift 81 = .ok (.aload_n 0, 1) := by decide +kernel
theorem dX9_shift_82 : decode cX9_shift 82 = .ok (.getfield 23, 3) := by decide +kernel
theorem dX9_shift_85 : decode cX9_shift 85 = .ok (.iload 9, 2) := by decide +kernel
theorem dX9_shift_87 : decode cX9_shift 87 = .ok (.iconst 2, 1) := by decide +kernel
theorem dX9_shift_88 : decode cX9_shift 88 = .ok (.iadd, 1) := by decide +kernel
theorem dX9_shift_89 : decode cX9_shift 89 = .ok (.dup2, 1) := by decide +kernel
theorem dX9_shift_90 : decode cX9_shift 90 = .ok (.iaload, 1) := by decide +kernel
theorem dX9_shift_91 : decode cX9_shift 91 = .ok (.iload 8, 2) := by decide +kernel
theorem dX9_shift_93 : decode cX9_shift 93 = .ok (.iload 5, 2) := by decide +kernel
theorem dX9_shift_95 : decode cX9_shift 95 = .ok (.imul, 1) := by decide +kernel
theorem dX9_shift_96 : decode cX9_shift 96 = .ok (.iadd, 1) := by decide +kernel
theorem dX9_shift_97 : decode cX9_shift 97 = .ok (.iastore, 1) := by decide +kernel
theorem dX9_shift_98 : decode cX9_shift 98 = .ok (.iload 6, 2) := by decide +kernel
theorem dX9_shift_100 : decode cX9_shift 100 = .ok (.ifCond .eq 38, 3) := by decide +kernel
theorem dX9_shift_103 : decode cX9_shift 103 = .ok (.aload_n 0, 1) := by decide +kernel
theorem dX9_shift_104 : decode cX9_shift 104 = .ok (.getfield 23, 3) := by decide +kernel
theorem dX9_shift_107 : decode cX9_shift 107 = .ok (.iload 9, 2) := by decide +kernel
theorem dX9_shift_109 : decode cX9_shift 109 = .ok (.iaload, 1) := by decide +kernel
theorem dX9_shift_110 : decode cX9_shift 110 = .ok (.aload_n 0, 1) := by decide +kernel
theorem dX9_shift_111 : decode cX9_shift 111 = .ok (.getfield 23, 3) := by decide +kernel
theorem dX9_shift_114 : decode cX9_shift 114 = .ok (.iload 9, 2) := by decide +kernel
theorem dX9_shift_116 : decode cX9_shift 116 = .ok (.iconst 1, 1) := by decide +kernel
theorem dX9_shift_117 : decode cX9_shift 117 = .ok (.iadd, 1) := by decide +kernel
theorem dX9_shift_118 : decode cX9_shift 118 = .ok (.iaload, 1) := by decide +kernel
theorem dX9_shift_119 : decode cX9_shift 119 = .ok (.aload_n 0, 1) := by decide +kernel
theorem dX9_shift_120 : decode cX9_shift 120 = .ok (.getfield 23, 3) := by decide +kernel
theorem dX9_shift_123 : decode cX9_shift 123 = .ok (.iload 9, 2) := by decide +kernel
theorem dX9_shift_125 : decode cX9_shift 125 = .ok (.iconst 2, 1) := by decide +kernel
theorem dX9_shift_126 : decode cX9_shift 126 = .ok (.iadd, 1) := by decide +kernel
theorem dX9_shift_127 : decode cX9_shift 127 = .ok (.iaload, 1) := by decide +kernel
theorem dX9_shift_128 : decode cX9_shift 128 = .ok (.invokestatic 64, 3) := by decide +kernel
theorem dX9_shift_131 : decode cX9_shift 131 = .ok (.ifCond .eq 7, 3) := by decide +kernel
theorem dX9_shift_134 : decode cX9_shift 134 = .ok (.iconst 1, 1) := by decide +kernel
theorem dX9_shift_135 : decode cX9_shift 135 = .ok (.goto 4, 3) := by decide +kernel
theorem dX9_shift_138 : decode cX9_shift 138 = .ok (.iconst 0, 1) := by decide +kernel
theorem dX9_shift_139 : decode cX9_shift 139 = .ok (.istore 6, 2) := by decide +kernel
theorem dX9_shift_141 : decode cX9_shift 141 = .ok (.iinc 7 1, 3) := by decide +kernel
theorem dX9_shift_144 : decode cX9_shift 144 = .ok (.goto (-136), 3) := by decide +kernel
theorem dX9_shift_147 : decode cX9_shift 147 = .ok (.iload 6, 2) := by decide +kernel
theorem dX9_shift_149 : decode cX9_shift 149 = .ok (.ireturn, 1) := by decide +kernel
theorem dX9_size_0 : decode cX9_size 0 = .ok (.iload_n 0, 1) := by decide +kernel
theorem dX9_size_1 : decode cX9_size 1 = .ok (.ifCond .ge 8, 3) := by decide +kernel
theorem dX9_size_4 : decode cX9_size 4 = .ok (.iload_n 0, 1) := by decide +kernel
theorem dX9_size_5 : decode cX9_size 5 = .ok (.ineg, 1) := by decide +kernel
theorem dX9_size_6 : decode cX9_size 6 = .ok (.goto 4, 3) := by decide +kernel
theorem dX9_size_9 : decode cX9_size 9 = .ok (.iload_n 0, 1) := by decide +kernel
theorem dX9_size_10 : decode cX9_size 10 = .ok (.ireturn, 1) := by decide +kernel
theorem dX9_isBetter_0 : decode cX9_isBetter 0 = .ok (.aload_n 0, 1) := by decide +kernel
theorem dX9_isBetter_1 : decode cX9_isBetter 1 = .ok (.getfield 48, 3) := by decide +kernel
theorem dX9_isBetter_4 : decode cX9_isBetter 4 = .ok (.iconst 0, 1) := by decide +kernel
theorem dX9_isBetter_5 : decode cX9_isBetter 5 = .ok (.iaload, 1) := by decide +kernel
theorem dX9_isBetter_6 : decode cX9_isBetter 6 = .ok (.ifCond .lt 33, 3) := by decide +kernel
theorem dX9_isBetter_9 : decode cX9_isBetter 9 = .ok (.iload_n 1, 1) := by decide +kernel
theorem dX9_isBetter_10 : decode cX9_isBetter 10 = .ok (.aload_n 0, 1) := by decide +kernel
theorem dX9_isBetter_11 : decode cX9_isBetter 11 = .ok (.getfield 48, 3) := by decide +kernel
theorem dX9_isBetter_14 : decode cX9_isBetter 14 = .ok (.iconst 0, 1) := by decide +kernel
theorem dX9_isBetter_15 : decode cX9_isBetter 15 = .ok (.iaload, 1) := by decide +kernel
theorem dX9_isBetter_16 : decode cX9_isBetter 16 = .ok (.if_icmp .lt 23, 3) := by decide +kernel
theorem dX9_isBetter_19 : decode cX9_isBetter 19 = .ok (.iload_n 1, 1) := by decide +kernel
theorem dX9_isBetter_20 : decode cX9_isBetter 20 = .ok (.aload_n 0, 1) := by decide +kernel
theorem dX9_isBetter_21 : decode cX9_isBetter 21 = .ok (.getfield 48, 3) := by decide +kernel
theorem dX9_isBetter_24 : decode cX9_isBetter 24 = .ok (.iconst 0, 1) := by decide +kernel
theorem dX9_isBetter_25 : decode cX9_isBetter 25 = .ok (.iaload, 1) := by decide +kernel
theorem dX9_isBetter_26 : decode cX9_isBetter 26 = .ok (.if_icmp .ne 17, 3) := by decide +kernel
theorem dX9_isBetter_29 : decode cX9_isBetter 29 = .ok (.iload_n 2, 1) := by decide +kernel
theorem dX9_isBetter_30 : decode cX9_isBetter 30 = .ok (.aload_n 0, 1) := by decide +kernel
theorem dX9_isBetter_31 : decode cX9_isBetter 31 = .ok (.getfield 48, 3) := by decide +kernel
theorem dX9_isBetter_34 : decode cX9_isBetter 34 = .ok (.iconst 1, 1) := by decide +kernel
theorem dX9_isBetter_35 : decode cX9_isBetter 35 = .ok (.iaload, 1) := by decide +kernel
theorem dX9_isBetter_36 : decode cX9_isBetter 36 = .ok (.if_icmp .le 7, 3) := by decide +kernel
theorem dX9_isBetter_39 : decode cX9_isBetter 39 = .ok (.iconst 1, 1) := by decide +kernel
theorem dX9_isBetter_40 : decode cX9_isBetter 40 = .ok (.goto 4, 3) := by decide +kernel
theorem dX9_isBetter_43 : decode cX9_isBetter 43 = .ok (.iconst 0, 1) := by decide +kernel
theorem dX9_isBetter_44 : decode cX9_isBetter 44 = .ok (.ireturn, 1) := by decide +kernel
theorem dX9_findBurn_0 : decode cX9_findBurn 0 = .ok (.iconst 0, 1) := by decide +kernel
theorem dX9_findBurn_1 : decode cX9_findBurn 1 = .ok (.istore_n 3, 1) := by decide +kernel
theorem dX9_findBurn_2 : decode cX9_findBurn 2 = .ok (.iload_n 3, 1) := by decide +kernel
theorem dX9_findBurn_3 : decode cX9_findBurn 3 = .ok (.iconst 5, 1) := by decide +kernel
theorem dX9_findBurn_4 : decode cX9_findBurn 4 = .ok (.if_icmp .ge 25, 3) := by decide +kernel
theorem dX9_findBurn_7 : decode cX9_findBurn 7 = .ok (.aload_n 0, 1) := by decide +kernel
theorem dX9_findBurn_8 : decode cX9_findBurn 8 = .ok (.getfield 48, 3) := by decide +kernel
theorem dX9_findBurn_11 : decode cX9_findBurn 11 = .ok (.iload_n 3, 1) := by decide +kernel
theorem dX9_findBurn_12 : decode cX9_findBurn 12 = .ok (.iload_n 3, 1) := by decide +kernel
theorem dX9_findBurn_13 : decode cX9_findBurn 13 = .ok (.iconst 2, 1) := by decide +kernel
theorem dX9_findBurn_14 : decode cX9_findBurn 14 = .ok (.if_icmp .ge 7, 3) := by decide +kernel
theorem dX9_findBurn_17 : decode cX9_findBurn 17 = .ok (.iconst (-1), 1) := by decide +kernel
theorem dX9_findBurn_18 : decode cX9_findBurn 18 = .ok (.goto 4, 3) := by decide +kernel
theorem dX9_findBurn_21 : decode cX9_findBurn 21 = .ok (.iconst 0, 1) := by decide +kernel
theorem dX9_findBurn_22 : decode cX9_findBurn 22 = .ok (.iastore, 1) := by decide +kernel
theorem dX9_findBurn_23 : decode cX9_findBurn 23 = .ok (.iinc 3 1, 3) := by decide +kernel
theorem dX9_findBurn_26 : decode cX9_findBurn 26 = .ok (.goto (-24), 3) := by decide +kernel
theorem dX9_findBurn_29 : decode cX9_findBurn 29 = .ok (.aload_n 0, 1) := by decide +kernel
theorem dX9_findBurn_30 : decode cX9_findBurn 30 = .ok (.getfield 7, 3) := by decide +kernel
theorem dX9_findBurn_33 : decode cX9_findBurn 33 = .ok (.iload_n 1, 1) := by decide +kernel
theorem dX9_findBurn_34 : decode cX9_findBurn 34 = .ok (.iaload, 1) := by decide +kernel
theorem dX9_findBurn_35 : decode cX9_findBurn 35 = .ok (.aload_n 0, 1) := by decide +kernel
theorem dX9_findBurn_36 : decode cX9_findBurn 36 = .ok (.getfield 13, 3) := by decide +kernel
theorem dX9_findBurn_39 : decode cX9_findBurn 39 = .ok (.iload_n 1, 1) := by decide +kernel
theorem dX9_findBurn_40 : decode cX9_findBurn 40 = .ok (.iaload, 1) := by decide +kernel
theorem dX9_findBurn_41 : decode cX9_findBurn 41 = .ok (.iadd, 1) := by decide +kernel
theorem dX9_findBurn_42 : decode cX9_findBurn 42 = .ok (.iconst 1, 1) := by decide +kernel
theorem dX9_findBurn_43 : decode cX9_findBurn 43 = .ok (.isub, 1) := by decide +kernel
theorem dX9_findBurn_44 : decode cX9_findBurn 44 = .ok (.istore_n 3, 1) := by decide +kernel
theorem dX9_findBurn_45 : decode cX9_findBurn 45 = .ok (.iload_n 2, 1) := by decide +kernel
theorem dX9_findBurn_46 : decode cX9_findBurn 46 = .ok (.istore 4, 2) := by decide +kernel
theorem dX9_findBurn_48 : decode cX9_findBurn 48 = .ok (.iload 4, 2) := by decide +kernel
theorem dX9_findBurn_50 : decode cX9_findBurn 50 = .ok (.iload_n 3, 1) := by decide +kernel
theorem dX9_findBurn_51 : decode cX9_findBurn 51 = .ok (.if_icmp .ge 181, 3) := by decide +kernel
theorem dX9_findBurn_54 : decode cX9_findBurn 54 = .ok (.iconst 0, 1) := by decide +kernel
theorem dX9_findBurn_55 : decode cX9_findBurn 55 = .ok (.istore 5, 2) := by decide +kernel
theorem dX9_findBurn_57 : decode cX9_findBurn 57 = .ok (.iload 5, 2) := by decide +kernel
theorem dX9_findBurn_59 : decode cX9_findBurn 59 = .ok (.bipush 125, 2) := by decide +kernel
theorem dX9_findBurn_61 : decode cX9_findBurn 61 = .ok (.if_icmp .ge 165, 3) := by decide +kernel
theorem dX9_findBurn_64 : decode cX9_findBurn 64 = .ok (.iload 5, 2) := by decide +kernel
theorem dX9_findBurn_66 : decode cX9_findBurn 66 = .ok (.bipush 25, 2) := by decide +kernel
theorem dX9_findBurn_68 : decode cX9_findBurn 68 = .ok (.idiv, 1) := by decide +kernel
theorem dX9_findBurn_69 : decode cX9_findBurn 69 = .ok (.iconst 2, 1) := by decide +kernel
theorem dX9_findBurn_70 : decode cX9_findBurn 70 = .ok (.isub, 1) := by decide +kernel
theorem dX9_findBurn_71 : decode cX9_findBurn 71 = .ok (.istore 6, 2) := by decide +kernel
theorem dX9_findBurn_73 : decode cX9_findBurn 73 = .ok (.iload 5, 2) := by decide +kernel
theorem dX9_findBurn_75 : decode cX9_findBurn 75 = .ok (.iconst 5, 1) := by decide +kernel
theorem dX9_findBurn_76 : decode cX9_findBurn 76 = .ok (.idiv, 1) := by decide +kernel
theorem dX9_findBurn_77 : decode cX9_findBurn 77 = .ok (.iconst 5, 1) := by decide +kernel
theorem dX9_findBurn_78 : decode cX9_findBurn 78 = .ok (.irem, 1) := by decide +kernel
theorem dX9_findBurn_79 : decode cX9_findBurn 79 = .ok (.iconst 2, 1) := by decide +kernel
theorem dX9_findBurn_80 : decode cX9_findBurn 80 = .ok (.isub, 1) := by decide +kernel
theorem dX9_findBurn_81 : decode cX9_findBurn 81 = .ok (.istore 7, 2) := by decide +kernel
theorem dX9_findBurn_83 : decode cX9_findBurn 83 = .ok (.iload 5, 2) := by decide +kernel
theorem dX9_findBurn_85 : decode cX9_findBurn 85 = .ok (.iconst 5, 1) := by decide +kernel
theorem dX9_findBurn_86 : decode cX9_findBurn 86 = .ok (.irem, 1) := by decide +kernel
theorem dX9_findBurn_87 : decode cX9_findBurn 87 = .ok (.iconst 2, 1) := by decide +kernel
theorem dX9_findBurn_88 : decode cX9_findBurn 88 = .ok (.isub, 1) := by decide +kernel
theorem dX9_findBurn_89 : decode cX9_findBurn 89 = .ok (.istore 8, 2) := by decide +kernel
theorem dX9_findBurn_91 : decode cX9_findBurn 91 = .ok (.iload 6, 2) := by decide +kernel
theorem dX9_findBurn_93 : decode cX9_findBurn 93 = .ok (.invokestatic 181, 3) := by decide +kernel
theorem dX9_findBurn_96 : decode cX9_findBurn 96 = .ok (.iload 7, 2) := by decide +kernel
theorem dX9_findBurn_98 : decode cX9_findBurn 98 = .ok (.invokestatic 181, 3) := by decide +kernel
theorem dX9_findBurn_101 : decode cX9_findBurn 101 = .ok (.iadd, 1) := by decide +kernel
theorem dX9_findBurn_102 : decode cX9_findBurn 102 = .ok (.iload 8, 2) := by decide +kernel
theorem dX9_findBurn_104 : decode cX9_findBurn 104 = .ok (.invokestatic 181, 3) := by decide +kernel
theorem dX9_findBurn_107 : decode cX9_findBurn 107 = .ok (.iadd, 1) := by decide +kernel
theorem dX9_findBurn_108 : decode cX9_findBurn 108 = .ok (.istore 9, 2) := by decide +kernel
theorem dX9_findBurn_110 : decode cX9_findBurn 110 = .ok (.iload 9, 2) := by decide +kernel
theorem dX9_findBurn_112 : decode cX9_findBurn 112 = .ok (.ifCond .le 108, 3) := by decide +kernel
theorem dX9_findBurn_115 : decode cX9_findBurn 115 = .ok (.aload_n 0, 1) := by decide +kernel
theorem dX9_findBurn_116 : decode cX9_findBurn 116 = .ok (.iload 9, 2) := by decide +kernel
theorem dX9_findBurn_118 : decode cX9_findBurn 118 = .ok (.iload 4, 2) := by decide +kernel
theorem dX9_findBurn_120 : decode cX9_findBurn 120 = .ok (.invokevirtual 184, 3) := by decide +kernel
theorem dX9_findBurn_123 : decode cX9_findBurn 123 = .ok (.ifCond .eq 97, 3) := by decide +kernel
theorem dX9_findBurn_126 : decode cX9_findBurn 126 = .ok (.aload_n 0, 1) := by decide +kernel
theorem dX9_findBurn_127 : decode cX9_findBurn 127 = .ok (.iload_n 1, 1) := by decide +kernel
theorem dX9_findBurn_128 : decode cX9_findBurn 128 = .ok (.iload 4, 2) := by decide +kernel
theorem dX9_findBurn_130 : decode cX9_findBurn 130 = .ok (.iload 6, 2) := by decide +kernel
theorem dX9_findBurn_132 : decode cX9_findBurn 132 = .ok (.iload 7, 2) := by decide +kernel
theorem dX9_findBurn_134 : decode cX9_findBurn 134 = .ok (.iload 8, 2) := by decide +kernel
theorem dX9_findBurn_136 : decode cX9_findBurn 136 = .ok (.invokevirtual 187, 3) := by decide +kernel
theorem dX9_findBurn_139 : decode cX9_findBurn 139 = .ok (.ifCond .eq 15, 3) := by decide +kernel
theorem dX9_findBurn_142 : decode cX9_findBurn 142 = .ok (.aload_n 0, 1) := by decide +kernel
theorem dX9_findBurn_143 : decode cX9_findBurn 143 = .ok (.iload_n 1, 1) := by decide +kernel
theorem dX9_findBurn_144 : decode cX9_findBurn 144 = .ok (.invokevirtual 102, 3) := by decide +kernel
theorem dX9_findBurn_147 : decode cX9_findBurn 147 = .ok (.ifCond .ne 7, 3) := by decide +kernel
theorem dX9_findBurn_150 : decode cX9_findBurn 150 = .ok (.iconst 1, 1) := by decide +kernel
theorem dX9_findBurn_151 : decode cX9_findBurn 151 = .ok (.goto 4, 3) := by decide +kernel
theorem dX9_findBurn_154 : decode cX9_findBurn 154 = .ok (.iconst 0, 1) := by decide +kernel
theorem dX9_findBurn_155 : decode cX9_findBurn 155 = .ok (.istore 10, 2) := by decide +kernel
theorem dX9_findBurn_157 : decode cX9_findBurn 157 = .ok (.aload_n 0, 1) := by decide +kernel
theorem dX9_findBurn_158 : decode cX9_findBurn 158 = .ok (.iload_n 1, 1) := by decide +kernel
theorem dX9_findBurn_159 : decode cX9_findBurn 159 = .ok (.iload 4, 2) := by decide +kernel
theorem dX9_findBurn_161 : decode cX9_findBurn 161 = .ok (.iload 6, 2) := by decide +kernel
theorem dX9_findBurn_163 : decode cX9_findBurn 163 = .ok (.ineg, 1) := by decide +kernel
theorem dX9_findBurn_164 : decode cX9_findBurn 164 = .ok (.iload 7, 2) := by decide +kernel
theorem dX9_findBurn_166 : decode cX9_findBurn 166 = .ok (.ineg, 1) := by decide +kernel
theorem dX9_findBurn_167 : decode cX9_findBurn 167 = .ok (.iload 8, 2) := by decide +kernel
theorem dX9_findBurn_169 : decode cX9_findBurn 169 = .ok (.ineg, 1) := by decide +kernel
theorem dX9_findBurn_170 : decode cX9_findBurn 170 = .ok (.invokevirtual 187, 3) := by decide +kernel
theorem dX9_findBurn_173 : decode cX9_findBurn 173 = .ok (.istore 11, 2) := by decide +kernel
theorem dX9_findBurn_175 : decode cX9_findBurn 175 = .ok (.iload 10, 2) := by decide +kernel
theorem dX9_findBurn_177 : decode cX9_findBurn 177 = .ok (.ifCond .eq 43, 3) := by decide +kernel
theorem dX9_findBurn_180 : decode cX9_findBurn 180 = .ok (.aload_n 0, 1) := by decide +kernel
theorem dX9_findBurn_181 : decode cX9_findBurn 181 = .ok (.getfield 48, 3) := by decide +kernel
theorem dX9_findBurn_184 : decode cX9_findBurn 184 = .ok (.iconst 0, 1) := by decide +kernel
theorem dX9_findBurn_185 : decode cX9_findBurn 185 = .ok (.iload 9, 2) := by decide +kernel
theorem dX9_findBurn_187 : decode cX9_findBurn 187 = .ok (.iastore, 1) := by decide +kernel
theorem dX9_findBurn_188 : decode cX9_findBurn 188 = .ok (.aload_n 0, 1) := by decide +kernel
theorem dX9_findBurn_189 : decode cX9_findBurn 189 = .ok (.getfield 48, 3) := by decide +kernel
theorem dX9_findBurn_192 : decode cX9_findBurn 192 = .ok (.iconst 1, 1) := by decide +kernel
theorem dX9_findBurn_193 : decode cX9_findBurn 193 = .ok (.iload 4, 2) := by decide +kernel
theorem dX9_findBurn_195 : decode cX9_findBurn 195 = .ok (.iastore, 1) := by decide +kernel
theorem dX9_findBurn_196 : decode cX9_findBurn 196 = .ok (.aload_n 0, 1) := by decide +kernel
theorem dX9_findBurn_197 : decode cX9_findBurn 197 = .ok (.getfield 48, 3) := by decide +kernel
theorem dX9_findBurn_200 : decode cX9_findBurn 200 = .ok (.iconst 2, 1) := by decide +kernel
theorem dX9_findBurn_201 : decode cX9_findBurn 201 = .ok (.iload 6, 2) := by decide +kernel
theorem dX9_findBurn_203 : decode cX9_findBurn 203 = .ok (.iastore, 1) := by decide +kernel
theorem dX9_findBurn_204 : decode cX9_findBurn 204 = .ok (.aload_n 0, 1) := by decide +kernel
theorem dX9_findBurn_205 : decode cX9_findBurn 205 = .ok (.getfield 48, 3) := by decide +kernel
theorem dX9_findBurn_208 : decode cX9_findBurn 208 = .ok (.iconst 3, 1) := by decide +kernel
theorem dX9_findBurn_209 : decode cX9_findBurn 209 = .ok (.iload 7, 2) := by decide +kernel
theorem dX9_findBurn_211 : decode cX9_findBurn 211 = .ok (.iastore, 1) := by decide +kernel
theorem dX9_findBurn_212 : decode cX9_findBurn 212 = .ok (.aload_n 0, 1) := by decide +kernel
theorem dX9_findBurn_213 : decode cX9_findBurn 213 = .ok (.getfield 48, 3) := by decide +kernel
theorem dX9_findBurn_216 : decode cX9_findBurn 216 = .ok (.iconst 4, 1) := by decide +kernel
theorem dX9_findBurn_217 : decode cX9_findBurn 217 = .ok (.iload 8, 2) := by decide +kernel
theorem dX9_findBurn_219 : decode cX9_findBurn 219 = .ok (.iastore, 1) := by decide +kernel
theorem dX9_findBurn_220 : decode cX9_findBurn 220 = .ok (.iinc 5 1, 3) := by decide +kernel
theorem dX9_findBurn_223 : decode cX9_findBurn 223 = .ok (.goto (-166), 3) := by decide +kernel
theorem dX9_findBurn_226 : decode cX9_findBurn 226 = .ok (.iinc 4 1, 3) := by decide +kernel
theorem dX9_findBurn_229 : decode cX9_findBurn 229 = .ok (.goto (-181), 3) := by decide +kernel
theorem dX9_findBurn_232 : decode cX9_findBurn 232 = .ok (.return_, 1) := by decide +kernel
theorem dX9_best_0 : decode cX9_best 0 = .ok (.aload_n 0, 1) := by decide +kernel
theorem dX9_best_1 : decode cX9_best 1 = .ok (.iload_n 1, 1) := by decide +kernel
theorem dX9_best_2 : decode cX9_best 2 = .ok (.invokevirtual 80, 3) := by decide +kernel
theorem dX9_best_5 : decode cX9_best 5 = .ok (.ifCond .ne 6, 3) := by decide +kernel
theorem dX9_best_8 : decode cX9_best 8 = .ok (.ldc 84, 2) := by decide +kernel
theorem dX9_best_10 : decode cX9_best 10 = .ok (.ireturn, 1) := by decide +kernel
theorem dX9_best_11 : decode cX9_best 11 = .ok (.aload_n 0, 1) := by decide +kernel
theorem dX9_best_12 : decode cX9_best 12 = .ok (.iload_n 1, 1) := by decide +kernel
theorem dX9_best_13 : decode cX9_best 13 = .ok (.iload_n 2, 1) := by decide +kernel
theorem dX9_best_14 : decode cX9_best 14 = .ok (.invokevirtual 90, 3) := by decide +kernel
theorem dX9_best_17 : decode cX9_best 17 = .ok (.ifCond .eq 15, 3) := by decide +kernel
theorem dX9_best_20 : decode cX9_best 20 = .ok (.iload_n 3, 1) := by decide +kernel
theorem dX9_best_21 : decode cX9_best 21 = .ok (.i2l, 1) := by decide +kernel
theorem dX9_best_22 : decode cX9_best 22 = .ok (.lconst 0, 1) := by decide +kernel
theorem dX9_best_23 : decode cX9_best 23 = .ok (.ldc2_w 160, 3) := by decide +kernel
theorem dX9_best_26 : decode cX9_best 26 = .ok (.invokestatic 55, 3) := by decide +kernel
theorem dX9_best_29 : decode cX9_best 29 = .ok (.ifCond .ne 6, 3) := by decide +kernel
theorem dX9_best_32 : decode cX9_best 32 = .ok (.ldc 70, 2) := by decide +kernel
theorem dX9_best_34 : decode cX9_best 34 = .ok (.ireturn, 1) := by decide +kernel
theorem dX9_best_35 : decode cX9_best 35 = .ok (.aload_n 0, 1) := by decide +kernel
theorem dX9_best_36 : decode cX9_best 36 = .ok (.getfield 19, 3) := by decide +kernel
theorem dX9_best_39 : decode cX9_best 39 = .ok (.iload_n 1, 1) := by decide +kernel
theorem dX9_best_40 : decode cX9_best 40 = .ok (.baload, 1) := by decide +kernel
theorem dX9_best_41 : decode cX9_best 41 = .ok (.ifCond .eq 6, 3) := by decide +kernel
theorem dX9_best_44 : decode cX9_best 44 = .ok (.ldc 85, 2) := by decide +kernel
theorem dX9_best_46 : decode cX9_best 46 = .ok (.ireturn, 1) := by decide +kernel
theorem dX9_best_47 : decode cX9_best 47 = .ok (.aload_n 0, 1) := by decide +kernel
theorem dX9_best_48 : decode cX9_best 48 = .ok (.iload_n 1, 1) := by decide +kernel
theorem dX9_best_49 : decode cX9_best 49 = .ok (.iload_n 2, 1) := by decide +kernel
theorem dX9_best_50 : decode cX9_best 50 = .ok (.invokevirtual 190, 3) := by decide +kernel
theorem dX9_best_53 : decode cX9_best 53 = .ok (.aload_n 0, 1) := by decide +kernel
theorem dX9_best_54 : decode cX9_best 54 = .ok (.getfield 48, 3) := by decide +kernel
theorem dX9_best_57 : decode cX9_best 57 = .ok (.iload_n 3, 1) := by decide +kernel
theorem dX9_best_58 : decode cX9_best 58 = .ok (.iaload, 1) := by decide +kernel
theorem dX9_best_59 : decode cX9_best 59 = .ok (.ireturn, 1) := by decide +kernel
theorem dX9_burn_0 : decode cX9_burn 0 = .ok (.aload_n 0, 1) := by decide +kernel
theorem dX9_burn_1 : decode cX9_burn 1 = .ok (.iload_n 1, 1) := by decide +kernel
theorem dX9_burn_2 : decode cX9_burn 2 = .ok (.invokevirtual 80, 3) := by decide +kernel
theorem dX9_burn_5 : decode cX9_burn 5 = .ok (.ifCond .ne 6, 3) := by decide +kernel
theorem dX9_burn_8 : decode cX9_burn 8 = .ok (.ldc 84, 2) := by decide +kernel
theorem dX9_burn_10 : decode cX9_burn 10 = .ok (.ireturn, 1) := by decide +kernel
theorem dX9_burn_11 : decode cX9_burn 11 = .ok (.aload_n 0, 1) := by decide +kernel
theorem dX9_burn_12 : decode cX9_burn 12 = .ok (.iload_n 1, 1) := by decide +kernel
theorem dX9_burn_13 : decode cX9_burn 13 = .ok (.iload_n 2, 1) := by decide +kernel
theorem dX9_burn_14 : decode cX9_burn 14 = .ok (.invokevirtual 90, 3) := by decide +kernel
theorem dX9_burn_17 : decode cX9_burn 17 = .ok (.ifCond .eq 61, 3) := by decide +kernel
theorem dX9_burn_20 : decode cX9_burn 20 = .ok (.iload_n 3, 1) := by decide +kernel
theorem dX9_burn_21 : decode cX9_burn 21 = .ok (.i2l, 1) := by decide +kernel
theorem dX9_burn_22 : decode cX9_burn 22 = .ok (.ldc2_w 193, 3) := by decide +kernel
theorem dX9_burn_25 : decode cX9_burn 25 = .ok (.ldc2_w 86, 3) := by decide +kernel
theorem dX9_burn_28 : decode cX9_burn 28 = .ok (.invokestatic 55, 3) := by decide +kernel
theorem dX9_burn_31 : decode cX9_burn 31 = .ok (.ifCond .eq 47, 3) := by decide +kernel
theorem dX9_burn_34 : decode cX9_burn 34 = .ok (.iload 4, 2) := by decide +kernel
theorem dX9_burn_36 : decode cX9_burn 36 = .ok (.i2l, 1) := by decide +kernel
theorem dX9_burn_37 : decode cX9_burn 37 = .ok (.ldc2_w 193, 3) := by decide +kernel
theorem dX9_burn_40 : decode cX9_burn 40 = .ok (.ldc2_w 86, 3) := by decide +kernel
theorem dX9_burn_43 : decode cX9_burn 43 = .ok (.invokestatic 55, 3) := by decide +kernel
theorem dX9_burn_46 : decode cX9_burn 46 = .ok (.ifCond .eq 32, 3) := by decide +kernel
theorem dX9_burn_49 : decode cX9_burn 49 = .ok (.iload 5, 2) := by decide +kernel
theorem dX9_burn_51 : decode cX9_burn 51 = .ok (.i2l, 1) := by decide +kernel
theorem dX9_burn_52 : decode cX9_burn 52 = .ok (.ldc2_w 193, 3) := by decide +kernel
theorem dX9_burn_55 : decode cX9_burn 55 = .ok (.ldc2_w 86, 3) := by decide +kernel
theorem dX9_burn_58 : decode cX9_burn 58 = .ok (.invokestatic 55, 3) := by decide +kernel
theorem dX9_burn_61 : decode cX9_burn 61 = .ok (.ifCond .eq 17, 3) := by decide +kernel
theorem dX9_burn_64 : decode cX9_burn 64 = .ok (.iload_n 3, 1) := by decide +kernel
theorem dX9_burn_65 : decode cX9_burn 65 = .ok (.ifCond .ne 16, 3) := by decide +kernel
theorem dX9_burn_68 : decode cX9_burn 68 = .ok (.iload 4, 2) := by decide +kernel
theorem dX9_burn_70 : decode cX9_burn 70 = .ok (.ifCond .ne 11, 3) := by decide +kernel
theorem dX9_burn_73 : decode cX9_burn 73 = .ok (.iload 5, 2) := by decide +kernel
theorem dX9_burn_75 : decode cX9_burn 75 = .ok (.ifCond .ne 6, 3) := by decide +kernel
theorem dX9_burn_78 : decode cX9_burn 78 = .ok (.ldc 70, 2) := by decide +kernel
theorem dX9_burn_80 : decode cX9_burn 80 = .ok (.ireturn, 1) := by decide +kernel
theorem dX9_burn_81 : decode cX9_burn 81 = .ok (.aload_n 0, 1) := by decide +kernel
theorem dX9_burn_82 : decode cX9_burn 82 = .ok (.getfield 19, 3) := by decide +kernel
theorem dX9_burn_85 : decode cX9_burn 85 = .ok (.iload_n 1, 1) := by decide +kernel
theorem dX9_burn_86 : decode cX9_burn 86 = .ok (.baload, 1) := by decide +kernel
theorem dX9_burn_87 : decode cX9_burn 87 = .ok (.ifCond .eq 6, 3) := by decide +kernel
theorem dX9_burn_90 : decode cX9_burn 90 = .ok (.ldc 85, 2) := by decide +kernel
theorem dX9_burn_92 : decode cX9_burn 92 = .ok (.ireturn, 1) := by decide +kernel
theorem dX9_burn_93 : decode cX9_burn 93 = .ok (.aload_n 0, 1) := by decide +kernel
theorem dX9_burn_94 : decode cX9_burn 94 = .ok (.iload_n 1, 1) := by decide +kernel
theorem dX9_burn_95 : decode cX9_burn 95 = .ok (.iload_n 2, 1) := by decide +kernel
theorem dX9_burn_96 : decode cX9_burn 96 = .ok (.iload_n 3, 1) := by decide +kernel
theorem dX9_burn_97 : decode cX9_burn 97 = .ok (.iload 4, 2) := by decide +kernel
theorem dX9_burn_99 : decode cX9_burn 99 = .ok (.iload 5, 2) := by decide +kernel
theorem dX9_burn_101 : decode cX9_burn 101 = .ok (.invokevirtual 187, 3) := by decide +kernel
theorem dX9_burn_104 : decode cX9_burn 104 = .ok (.ifCond .ne 22, 3) := by decide +kernel
theorem dX9_burn_107 : decode cX9_burn 107 = .ok (.aload_n 0, 1) := by decide +kernel
theorem dX9_burn_108 : decode cX9_burn 108 = .ok (.iload_n 1, 1) := by decide +kernel
theorem dX9_burn_109 : decode cX9_burn 109 = .ok (.iload_n 2, 1) := by decide +kernel
theorem dX9_burn_110 : decode cX9_burn 110 = .ok (.iload_n 3, 1) := by decide +kernel
theorem dX9_burn_111 : decode cX9_burn 111 = .ok (.ineg, 1) := by decide +kernel
theorem dX9_burn_112 : decode cX9_burn 112 = .ok (.iload 4, 2) := by decide +kernel
theorem dX9_burn_114 : decode cX9_burn 114 = .ok (.ineg, 1) := by decide +kernel
theorem dX9_burn_115 : decode cX9_burn 115 = .ok (.iload 5, 2) := by decide +kernel
theorem dX9_burn_117 : decode cX9_burn 117 = .ok (.ineg, 1) := by decide +kernel
theorem dX9_burn_118 : decode cX9_burn 118 = .ok (.invokevirtual 187, 3) := by decide +kernel
theorem dX9_burn_121 : decode cX9_burn 121 = .ok (.istore 6, 2) := by decide +kernel
theorem dX9_burn_123 : decode cX9_burn 123 = .ok (.ldc 85, 2) := by decide +kernel
theorem dX9_burn_125 : decode cX9_burn 125 = .ok (.ireturn, 1) := by decide +kernel
theorem dX9_burn_126 : decode cX9_burn 126 = .ok (.aload_n 0, 1) := by decide +kernel
theorem dX9_burn_127 : decode cX9_burn 127 = .ok (.iload_n 1, 1) := by decide +kernel
theorem dX9_burn_128 : decode cX9_burn 128 = .ok (.invokevirtual 102, 3) := by decide +kernel
theorem dX9_burn_131 : decode cX9_burn 131 = .ok (.ireturn, 1) := by decide +kernel
theorem dX9_dot_0 : decode cX9_dot 0 = .ok (.iload_n 1, 1) := by decide +kernel
theorem dX9_dot_1 : decode cX9_dot 1 = .ok (.i2l, 1) := by decide +kernel
theorem dX9_dot_2 : decode cX9_dot 2 = .ok (.lconst 0, 1) := by decide +kernel
theorem dX9_dot_3 : decode cX9_dot 3 = .ok (.ldc2_w 62, 3) := by decide +kernel
theorem dX9_dot_6 : decode cX9_dot 6 = .ok (.invokestatic 55, 3) := by decide +kernel
theorem dX9_dot_9 : decode cX9_dot 9 = .ok (.ifCond .eq 13, 3) := by decide +kernel
theorem dX9_dot_12 : decode cX9_dot 12 = .ok (.iload_n 2, 1) := by decide +kernel
theorem dX9_dot_13 : decode cX9_dot 13 = .ok (.iload_n 3, 1) := by decide +kernel
theorem dX9_dot_14 : decode cX9_dot 14 = .ok (.iload 4, 2) := by decide +kernel
theorem dX9_dot_16 : decode cX9_dot 16 = .ok (.invokestatic 64, 3) := by decide +kernel
theorem dX9_dot_19 : decode cX9_dot 19 = .ok (.ifCond .ne 6, 3) := by decide +kernel
theorem dX9_dot_22 : decode cX9_dot 22 = .ok (.ldc 70, 2) := by decide +kernel
theorem dX9_dot_24 : decode cX9_dot 24 = .ok (.ireturn, 1) := by decide +kernel
theorem dX9_dot_25 : decode cX9_dot 25 = .ok (.aload_n 0, 1) := by decide +kernel
theorem dX9_dot_26 : decode cX9_dot 26 = .ok (.getfield 109, 3) := by decide +kernel
theorem dX9_dot_29 : decode cX9_dot 29 = .ok (.bipush 40, 2) := by decide +kernel
theorem dX9_dot_31 : decode cX9_dot 31 = .ok (.if_icmp .ne 6, 3) := by decide +kernel
theorem dX9_dot_34 : decode cX9_dot 34 = .ok (.ldc 71, 2) := by decide +kernel
theorem dX9_dot_36 : decode cX9_dot 36 = .ok (.ireturn, 1) := by decide +kernel
theorem dX9_dot_37 : decode cX9_dot 37 = .ok (.aload_n 0, 1) := by decide +kernel
theorem dX9_dot_38 : decode cX9_dot 38 = .ok (.getfield 33, 3) := by decide +kernel
theorem dX9_dot_41 : decode cX9_dot 41 = .ok (.aload_n 0, 1) := by decide +kernel
theorem dX9_dot_42 : decode cX9_dot 42 = .ok (.getfield 109, 3) := by decide +kernel
theorem dX9_dot_45 : decode cX9_dot 45 = .ok (.iload_n 1, 1) := by decide +kernel
theorem dX9_dot_46 : decode cX9_dot 46 = .ok (.iastore, 1) := by decide +kernel
theorem dX9_dot_47 : decode cX9_dot 47 = .ok (.aload_n 0, 1) := by decide +kernel
theorem dX9_dot_48 : decode cX9_dot 48 = .ok (.getfield 36, 3) := by decide +kernel
theorem dX9_dot_51 : decode cX9_dot 51 = .ok (.iconst 3, 1) := by decide +kernel
theorem dX9_dot_52 : decode cX9_dot 52 = .ok (.aload_n 0, 1) := by decide +kernel
theorem dX9_dot_53 : decode cX9_dot 53 = .ok (.getfield 109, 3) := by decide +kernel
theorem dX9_dot_56 : decode cX9_dot 56 = .ok (.imul, 1) := by decide +kernel
theorem dX9_dot_57 : decode cX9_dot 57 = .ok (.iload_n 2, 1) := by decide +kernel
theorem dX9_dot_58 : decode cX9_dot 58 = .ok (.iastore, 1) := by decide +kernel
theorem dX9_dot_59 : decode cX9_dot 59 = .ok (.aload_n 0, 1) := by decide +kernel
theorem dX9_dot_60 : decode cX9_dot 60 = .ok (.getfield 36, 3) := by decide +kernel
theorem dX9_dot_63 : decode cX9_dot 63 = .ok (.iconst 3, 1) := by decide +kernel
theorem dX9_dot_64 : decode cX9_dot 64 = .ok (.aload_n 0, 1) := by decide +kernel
theorem dX9_dot_65 : decode cX9_dot 65 = .ok (.getfield 109, 3) := by decide +kernel
theorem dX9_dot_68 : decode cX9_dot 68 = .ok (.imul, 1) := by decide +kernel
theorem dX9_dot_69 : decode cX9_dot 69 = .ok (.iconst 1, 1) := by decide +kernel
theorem dX9_dot_70 : decode cX9_dot 70 = .ok (.iadd, 1) := by decide +kernel
theorem dX9_dot_71 : decode cX9_dot 71 = .ok (.iload_n 3, 1) := by decide +kernel
theorem dX9_dot_72 : decode cX9_dot 72 = .ok (.iastore, 1) := by decide +kernel
theorem dX9_dot_73 : decode cX9_dot 73 = .ok (.aload_n 0, 1) := by decide +kernel
theorem dX9_dot_74 : decode cX9_dot 74 = .ok (.getfield 36, 3) := by decide +kernel
theorem dX9_dot_77 : decode cX9_dot 77 = .ok (.iconst 3, 1) := by decide +kernel
theorem dX9_dot_78 : decode cX9_dot 78 = .ok (.aload_n 0, 1) := by decide +kernel
theorem dX9_dot_79 : decode cX9_dot 79 = .ok (.getfield 109, 3) := by decide +kernel
theorem dX9_dot_82 : decode cX9_dot 82 = .ok (.imul, 1) := by decide +kernel
theorem dX9_dot_83 : decode cX9_dot 83 = .ok (.iconst 2, 1) := by decide +kernel
theorem dX9_dot_84 : decode cX9_dot 84 = .ok (.iadd, 1) := by decide +kernel
theorem dX9_dot_85 : decode cX9_dot 85 = .ok (.iload 4, 2) := by decide +kernel
theorem dX9_dot_87 : decode cX9_dot 87 = .ok (.iastore, 1) := by decide +kernel
theorem dX9_dot_88 : decode cX9_dot 88 = .ok (.aload_n 0, 1) := by decide +kernel
theorem dX9_dot_89 : decode cX9_dot 89 = .ok (.dup, 1) := by decide +kernel
theorem dX9_dot_90 : decode cX9_dot 90 = .ok (.getfield 109, 3) := by decide +kernel
theorem dX9_dot_93 : decode cX9_dot 93 = .ok (.iconst 1, 1) := by decide +kernel
theorem dX9_dot_94 : decode cX9_dot 94 = .ok (.iadd, 1) := by decide +kernel
theorem dX9_dot_95 : decode cX9_dot 95 = .ok (.putfield 109, 3) := by decide +kernel
theorem dX9_dot_98 : decode cX9_dot 98 = .ok (.aload_n 0, 1) := by decide +kernel
theorem dX9_dot_99 : decode cX9_dot 99 = .ok (.getfield 109, 3) := by decide +kernel
theorem dX9_dot_102 : decode cX9_dot 102 = .ok (.iconst 1, 1) := by decide +kernel
theorem dX9_dot_103 : decode cX9_dot 103 = .ok (.isub, 1) := by decide +kernel
theorem dX9_dot_104 : decode cX9_dot 104 = .ok (.ireturn, 1) := by decide +kernel
theorem dX9_isOf_0 : decode cX9_isOf 0 = .ok (.aload_n 0, 1) := by decide +kernel
theorem dX9_isOf_1 : decode cX9_isOf 1 = .ok (.getfield 19, 3) := by decide +kernel
theorem dX9_isOf_4 : decode cX9_isOf 4 = .ok (.iload_n 2, 1) := by decide +kernel
theorem dX9_isOf_5 : decode cX9_isOf 5 = .ok (.baload, 1) := by decide +kernel
theorem dX9_isOf_6 : decode cX9_isOf 6 = .ok (.ifCond .ne 21, 3) := by decide +kernel
theorem dX9_isOf_9 : decode cX9_isOf 9 = .ok (.aload_n 0, 1) := by decide +kernel
theorem dX9_isOf_10 : decode cX9_isOf 10 = .ok (.iload_n 2, 1) := by decide +kernel
theorem dX9_isOf_11 : decode cX9_isOf 11 = .ok (.aload_n 0, 1) := by decide +kernel
theorem dX9_isOf_12 : decode cX9_isOf 12 = .ok (.getfield 33, 3) := by decide +kernel
theorem dX9_isOf_15 : decode cX9_isOf 15 = .ok (.iload_n 1, 1) := by decide +kernel
theorem dX9_isOf_16 : decode cX9_isOf 16 = .ok (.iaload, 1) := by decide +kernel
theorem dX9_isOf_17 : decode cX9_isOf 17 = .ok (.invokevirtual 90, 3) := by decide +kernel
theorem dX9_isOf_20 : decode cX9_isOf 20 = .ok (.ifCond .eq 7, 3) := by decide +kernel
theorem dX9_isOf_23 : decode cX9_isOf 23 = .ok (.iconst 1, 1) := by decide +kernel
theorem dX9_isOf_24 : decode cX9_isOf 24 = .ok (.goto 4, 3) := by decide +kernel
theorem dX9_isOf_27 : decode cX9_isOf 27 = .ok (.iconst 0, 1) := by decide +kernel
theorem dX9_isOf_28 : decode cX9_isOf 28 = .ok (.istore_n 3, 1) := by decide +kernel
theorem dX9_isOf_29 : decode cX9_isOf 29 = .ok (.iconst 0, 1) := by decide +kernel
theorem dX9_isOf_30 : decode cX9_isOf 30 = .ok (.istore 4, 2) := by decide +kernel
theorem dX9_isOf_32 : decode cX9_isOf 32 = .ok (.iload 4, 2) := by decide +kernel
theorem dX9_isOf_34 : decode cX9_isOf 34 = .ok (.iconst 3, 1) := by decide +kernel
theorem dX9_isOf_35 : decode cX9_isOf 35 = .ok (.if_icmp .ge 56, 3) := by decide +kernel
theorem dX9_isOf_38 : decode cX9_isOf 38 = .ok (.iload_n 3, 1) := by decide +kernel
theorem dX9_isOf_39 : decode cX9_isOf 39 = .ok (.ifCond .eq 52, 3) := by decide +kernel
theorem dX9_isOf_42 : decode cX9_isOf 42 = .ok (.aload_n 0, 1) := by decide +kernel
theorem dX9_isOf_43 : decode cX9_isOf 43 = .ok (.getfield 36, 3) := by decide +kernel
theorem dX9_isOf_46 : decode cX9_isOf 46 = .ok (.iconst 3, 1) := by decide +kernel
theorem dX9_isOf_47 : decode cX9_isOf 47 = .ok (.iload_n 1, 1) := by decide +kernel
theorem dX9_isOf_48 : decode cX9_isOf 48 = .ok (.imul, 1) := by decide +kernel
theorem dX9_isOf_49 : decode cX9_isOf 49 = .ok (.iload 4, 2) := by decide +kernel
theorem dX9_isOf_51 : decode cX9_isOf 51 = .ok (.iadd, 1) := by decide +kernel
theorem dX9_isOf_52 : decode cX9_isOf 52 = .ok (.iaload, 1) := by decide +kernel
theorem dX9_isOf_53 : decode cX9_isOf 53 = .ok (.aload_n 0, 1) := by decide +kernel
theorem dX9_isOf_54 : decode cX9_isOf 54 = .ok (.iload_n 2, 1) := by decide +kernel
theorem dX9_isOf_55 : decode cX9_isOf 55 = .ok (.aload_n 0, 1) := by decide +kernel
theorem dX9_isOf_56 : decode cX9_isOf 56 = .ok (.getfield 33, 3) := by decide +kernel
theorem dX9_isOf_59 : decode cX9_isOf 59 = .ok (.iload_n 1, 1) := by decide +kernel
theorem dX9_isOf_60 : decode cX9_isOf 60 = .ok (.iaload, 1) := by decide +kernel
theorem dX9_isOf_61 : decode cX9_isOf 61 = .ok (.iload 4, 2) := by decide +kernel
theorem dX9_isOf_63 : decode cX9_isOf 63 = .ok (.invokevirtual 94, 3) := by decide +kernel
theorem dX9_isOf_66 : decode cX9_isOf 66 = .ok (.isub, 1) := by decide +kernel
theorem dX9_isOf_67 : decode cX9_isOf 67 = .ok (.invokestatic 181, 3) := by decide +kernel
theorem dX9_isOf_70 : decode cX9_isOf 70 = .ok (.aload_n 0, 1) := by decide +kernel
theorem dX9_isOf_71 : decode cX9_isOf 71 = .ok (.getfield 16, 3) := by decide +kernel
theorem dX9_isOf_74 : decode cX9_isOf 74 = .ok (.iload_n 2, 1) := by decide +kernel
theorem dX9_isOf_75 : decode cX9_isOf 75 = .ok (.iaload, 1) := by decide +kernel
theorem dX9_isOf_76 : decode cX9_isOf 76 = .ok (.if_icmp .gt 7, 3) := by decide +kernel
theorem dX9_isOf_79 : decode cX9_isOf 79 = .ok (.iconst 1, 1) := by decide +kernel
theorem dX9_isOf_80 : decode cX9_isOf 80 = .ok (.goto 4, 3) := by decide +kernel
theorem dX9_isOf_83 : decode cX9_isOf 83 = .ok (.iconst 0, 1) := by decide +kernel
theorem dX9_isOf_84 : decode cX9_isOf 84 = .ok (.istore_n 3, 1) := by decide +kernel
theorem dX9_isOf_85 : decode cX9_isOf 85 = .ok (.iinc 4 1, 3) := by decide +kernel
theorem dX9_isOf_88 : decode cX9_isOf 88 = .ok (.goto (-56), 3) := by decide +kernel
theorem dX9_isOf_91 : decode cX9_isOf 91 = .ok (.iload_n 3, 1) := by decide +kernel
