theorem dX7_init_0 : decode cX7_init 0 = .ok (.aload_n 0, 1) := by decide +kernel
theorem dX7_init_1 : decode cX7_init 1 = .ok (.invokespecial 3, 3) := by decide +kernel
theorem dX7_init_4 : decode cX7_init 4 = .ok (.return_, 1) := by decide +kernel
theorem dX7_look_0 : decode cX7_look 0 = .ok (.lconst 0, 1) := by decide +kernel
theorem dX7_look_1 : decode cX7_look 1 = .ok (.lstore 5, 2) := by decide +kernel
theorem dX7_look_3 : decode cX7_look 3 = .ok (.lconst 0, 1) := by decide +kernel
theorem dX7_look_4 : decode cX7_look 4 = .ok (.lstore 7, 2) := by decide +kernel
theorem dX7_look_6 : decode cX7_look 6 = .ok (.lconst 0, 1) := by decide +kernel
theorem dX7_look_7 : decode cX7_look 7 = .ok (.lstore 9, 2) := by decide +kernel
theorem dX7_look_9 : decode cX7_look 9 = .ok (.iconst 0, 1) := by decide +kernel
theorem dX7_look_10 : decode cX7_look 10 = .ok (.istore 11, 2) := by decide +kernel
theorem dX7_look_12 : decode cX7_look 12 = .ok (.iload 11, 2) := by decide +kernel
theorem dX7_look_14 : decode cX7_look 14 = .ok (.iconst 3, 1) := by decide +kernel
theorem dX7_look_15 : decode cX7_look 15 = .ok (.if_icmp .ge 91, 3) := by decide +kernel
theorem dX7_look_18 : decode cX7_look 18 = .ok (.aload_n 1, 1) := by decide +kernel
theorem dX7_look_19 : decode cX7_look 19 = .ok (.iload_n 3, 1) := by decide +kernel
theorem dX7_look_20 : decode cX7_look 20 = .ok (.iload 11, 2) := by decide +kernel
theorem dX7_look_22 : decode cX7_look 22 = .ok (.invokevirtual 9, 3) := by decide +kernel
theorem dX7_look_25 : decode cX7_look 25 = .ok (.aload_n 2, 1) := by decide +kernel
theorem dX7_look_26 : decode cX7_look 26 = .ok (.iload_n 3, 1) := by decide +kernel
theorem dX7_look_27 : decode cX7_look 27 = .ok (.iload 11, 2) := by decide +kernel
theorem dX7_look_29 : decode cX7_look 29 = .ok (.invokevirtual 9, 3) := by decide +kernel
theorem dX7_look_32 : decode cX7_look 32 = .ok (.isub, 1) := by decide +kernel
theorem dX7_look_33 : decode cX7_look 33 = .ok (.i2l, 1) := by decide +kernel
theorem dX7_look_34 : decode cX7_look 34 = .ok (.lstore 12, 2) := by decide +kernel
theorem dX7_look_36 : decode cX7_look 36 = .ok (.iload 4, 2) := by decide +kernel
theorem dX7_look_38 : decode cX7_look 38 = .ok (.ifCond .eq 29, 3) := by decide +kernel
theorem dX7_look_41 : decode cX7_look 41 = .ok (.aload_n 1, 1) := by decide +kernel
theorem dX7_look_42 : decode cX7_look 42 = .ok (.iload_n 3, 1) := by decide +kernel
theorem dX7_look_43 : decode cX7_look 43 = .ok (.iconst 1, 1) := by decide +kernel
theorem dX7_look_44 : decode cX7_look 44 = .ok (.iadd, 1) := by decide +kernel
theorem dX7_look_45 : decode cX7_look 45 = .ok (.iload 11, 2) := by decide +kernel
theorem dX7_look_47 : decode cX7_look 47 = .ok (.invokevirtual 9, 3) := by decide +kernel
theorem dX7_look_50 : decode cX7_look 50 = .ok (.aload_n 2, 1) := by decide +kernel
theorem dX7_look_51 : decode cX7_look 51 = .ok (.iload_n 3, 1) := by decide +kernel
theorem dX7_look_52 : decode cX7_look 52 = .ok (.iconst 1, 1) := by decide +kernel
theorem dX7_look_53 : decode cX7_look 53 = .ok (.iadd, 1) := by decide +kernel
theorem dX7_look_54 : decode cX7_look 54 = .ok (.iload 11, 2) := by decide +kernel
theorem dX7_look_56 : decode cX7_look 56 = .ok (.invokevirtual 9, 3) := by decide +kernel
theorem dX7_look_59 : decode cX7_look 59 = .ok (.isub, 1) := by decide +kernel
theorem dX7_look_60 : decode cX7_look 60 = .ok (.i2l, 1) := by decide +kernel
theorem dX7_look_61 : decode cX7_look 61 = .ok (.lload 12, 2) := by decide +kernel
theorem dX7_look_63 : decode cX7_look 63 = .ok (.lsub, 1) := by decide +kernel
theorem dX7_look_64 : decode cX7_look 64 = .ok (.goto 4, 3) := by decide +kernel
theorem dX7_look_67 : decode cX7_look 67 = .ok (.lconst 0, 1) := by decide +kernel
theorem dX7_look_68 : decode cX7_look 68 = .ok (.lstore 14, 2) := by decide +kernel
theorem dX7_look_70 : decode cX7_look 70 = .ok (.lload 5, 2) := by decide +kernel
theorem dX7_look_72 : decode cX7_look 72 = .ok (.lload 12, 2) := by decide +kernel
theorem dX7_look_74 : decode cX7_look 74 = .ok (.lload 12, 2) := by decide +kernel
theorem dX7_look_76 : decode cX7_look 76 = .ok (.lmul, 1) := by decide +kernel
theorem dX7_look_77 : decode cX7_look 77 = .ok (.ladd, 1) := by decide +kernel
theorem dX7_look_78 : decode cX7_look 78 = .ok (.lstore 5, 2) := by decide +kernel
theorem dX7_look_80 : decode cX7_look 80 = .ok (.lload 7, 2) := by decide +kernel
theorem dX7_look_82 : decode cX7_look 82 = .ok (.lload 12, 2) := by decide +kernel
theorem dX7_look_84 : decode cX7_look 84 = .ok (.lload 14, 2) := by decide +kernel
theorem dX7_look_86 : decode cX7_look 86 = .ok (.lmul, 1) := by decide +kernel
theorem dX7_look_87 : decode cX7_look 87 = .ok (.ladd, 1) := by decide +kernel
theorem dX7_look_88 : decode cX7_look 88 = .ok (.lstore 7, 2) := by decide +kernel
theorem dX7_look_90 : decode cX7_look 90 = .ok (.lload 9, 2) := by decide +kernel
theorem dX7_look_92 : decode cX7_look 92 = .ok (.lload 14, 2) := by decide +kernel
theorem dX7_look_94 : decode cX7_look 94 = .ok (.lload 14, 2) := by decide +kernel
theorem dX7_look_96 : decode cX7_look 96 = .ok (.lmul, 1) := by decide +kernel
theorem dX7_look_97 : decode cX7_look 97 = .ok (.ladd, 1) := by decide +kernel
theorem dX7_look_98 : decode cX7_look 98 = .ok (.lstore 9, 2) := by decide +kernel
theorem dX7_look_100 : decode cX7_look 100 = .ok (.iinc 11 1, 3) := by decide +kernel
theorem dX7_look_103 : decode cX7_look 103 = .ok (.goto (-91), 3) := by decide +kernel
theorem dX7_look_106 : decode cX7_look 106 = .ok (.lload 7, 2) := by decide +kernel
theorem dX7_look_108 : decode cX7_look 108 = .ok (.lconst 0, 1) := by decide +kernel
theorem dX7_look_109 : decode cX7_look 109 = .ok (.lcmp, 1) := by decide +kernel
theorem dX7_look_110 : decode cX7_look 110 = .ok (.ifCond .ge 17, 3) := by decide +kernel
theorem dX7_look_113 : decode cX7_look 113 = .ok (.lload 7, 2) := by decide +kernel
theorem dX7_look_115 : decode cX7_look 115 = .ok (.lload 9, 2) := by decide +kernel
theorem dX7_look_117 : decode cX7_look 117 = .ok (.ladd, 1) := by decide +kernel
theorem dX7_look_118 : decode cX7_look 118 = .ok (.lconst 0, 1) := by decide +kernel
theorem dX7_look_119 : decode cX7_look 119 = .ok (.lcmp, 1) := by decide +kernel
theorem dX7_look_120 : decode cX7_look 120 = .ok (.ifCond .le 7, 3) := by decide +kernel
theorem dX7_look_123 : decode cX7_look 123 = .ok (.iconst 1, 1) := by decide +kernel
theorem dX7_look_124 : decode cX7_look 124 = .ok (.goto 4, 3) := by decide +kernel
theorem dX7_look_127 : decode cX7_look 127 = .ok (.iconst 0, 1) := by decide +kernel
theorem dX7_look_128 : decode cX7_look 128 = .ok (.istore 11, 2) := by decide +kernel
theorem dX7_look_130 : decode cX7_look 130 = .ok (.aload_n 0, 1) := by decide +kernel
theorem dX7_look_131 : decode cX7_look 131 = .ok (.iload 11, 2) := by decide +kernel
theorem dX7_look_133 : decode cX7_look 133 = .ok (.ifCond .eq 17, 3) := by decide +kernel
theorem dX7_look_136 : decode cX7_look 136 = .ok (.lload 5, 2) := by decide +kernel
theorem dX7_look_138 : decode cX7_look 138 = .ok (.lload 9, 2) := by decide +kernel
theorem dX7_look_140 : decode cX7_look 140 = .ok (.lmul, 1) := by decide +kernel
theorem dX7_look_141 : decode cX7_look 141 = .ok (.lload 7, 2) := by decide +kernel
theorem dX7_look_143 : decode cX7_look 143 = .ok (.lload 7, 2) := by decide +kernel
theorem dX7_look_145 : decode cX7_look 145 = .ok (.lmul, 1) := by decide +kernel
theorem dX7_look_146 : decode cX7_look 146 = .ok (.lsub, 1) := by decide +kernel
theorem dX7_look_147 : decode cX7_look 147 = .ok (.goto 5, 3) := by decide +kernel
theorem dX7_look_150 : decode cX7_look 150 = .ok (.lload 5, 2) := by decide +kernel
theorem dX7_look_152 : decode cX7_look 152 = .ok (.putfield 15, 3) := by decide +kernel
theorem dX7_look_155 : decode cX7_look 155 = .ok (.aload_n 0, 1) := by decide +kernel
theorem dX7_look_156 : decode cX7_look 156 = .ok (.iload 11, 2) := by decide +kernel
theorem dX7_look_158 : decode cX7_look 158 = .ok (.ifCond .eq 8, 3) := by decide +kernel
theorem dX7_look_161 : decode cX7_look 161 = .ok (.lload 9, 2) := by decide +kernel
theorem dX7_look_163 : decode cX7_look 163 = .ok (.goto 4, 3) := by decide +kernel
theorem dX7_look_166 : decode cX7_look 166 = .ok (.lconst 1, 1) := by decide +kernel
theorem dX7_look_167 : decode cX7_look 167 = .ok (.putfield 21, 3) := by decide +kernel
theorem dX7_look_170 : decode cX7_look 170 = .ok (.aload_n 0, 1) := by decide +kernel
theorem dX7_look_171 : decode cX7_look 171 = .ok (.iload 11, 2) := by decide +kernel
theorem dX7_look_173 : decode cX7_look 173 = .ok (.ifCond .eq 9, 3) := by decide +kernel
theorem dX7_look_176 : decode cX7_look 176 = .ok (.lload 7, 2) := by decide +kernel
theorem dX7_look_178 : decode cX7_look 178 = .ok (.lneg, 1) := by decide +kernel
theorem dX7_look_179 : decode cX7_look 179 = .ok (.goto 4, 3) := by decide +kernel
theorem dX7_look_182 : decode cX7_look 182 = .ok (.lconst 0, 1) := by decide +kernel
theorem dX7_look_183 : decode cX7_look 183 = .ok (.putfield 24, 3) := by decide +kernel
theorem dX7_look_186 : decode cX7_look 186 = .ok (.return_, 1) := by decide +kernel
