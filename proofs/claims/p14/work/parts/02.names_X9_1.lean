theorem dX9_count_71 : decode cX9_count 71 = .ok (.iinc 4 1, 3) := by decide +kernel
theorem dX9_count_74 : decode cX9_count 74 = .ok (.goto (-35), 3) := by decide +kernel
theorem dX9_count_77 : decode cX9_count 77 = .ok (.iinc 3 1, 3) := by decide +kernel
theorem dX9_count_80 : decode cX9_count 80 = .ok (.goto (-76), 3) := by decide +kernel
theorem dX9_count_83 : decode cX9_count 83 = .ok (.iconst 0, 1) := by decide +kernel
theorem dX9_count_84 : decode cX9_count 84 = .ok (.istore_n 3, 1) := by decide +kernel
theorem dX9_count_85 : decode cX9_count 85 = .ok (.iload_n 3, 1) := by decide +kernel
theorem dX9_count_86 : decode cX9_count 86 = .ok (.aload_n 0, 1) := by decide +kernel
theorem dX9_count_87 : decode cX9_count 87 = .ok (.getfield 109, 3) := by decide +kernel
theorem dX9_count_90 : decode cX9_count 90 = .ok (.if_icmp .ge 57, 3) := by decide +kernel
theorem dX9_count_93 : decode cX9_count 93 = .ok (.aload_n 0, 1) := by decide +kernel
theorem dX9_count_94 : decode cX9_count 94 = .ok (.iload_n 3, 1) := by decide +kernel
theorem dX9_count_95 : decode cX9_count 95 = .ok (.invokevirtual 112, 3) := by decide +kernel
theorem dX9_count_98 : decode cX9_count 98 = .ok (.istore 4, 2) := by decide +kernel
theorem dX9_count_100 : decode cX9_count 100 = .ok (.iload_n 2, 1) := by decide +kernel
theorem dX9_count_101 : decode cX9_count 101 = .ok (.iload_n 1, 1) := by decide +kernel
theorem dX9_count_102 : decode cX9_count 102 = .ok (.iconst 4, 1) := by decide +kernel
theorem dX9_count_103 : decode cX9_count 103 = .ok (.if_icmp .ne 9, 3) := by decide +kernel
theorem dX9_count_106 : decode cX9_count 106 = .ok (.iload 4, 2) := by decide +kernel
theorem dX9_count_108 : decode cX9_count 108 = .ok (.iconst 1, 1) := by decide +kernel
theorem dX9_count_109 : decode cX9_count 109 = .ok (.if_icmp .eq 25, 3) := by decide +kernel
theorem dX9_count_112 : decode cX9_count 112 = .ok (.iload_n 1, 1) := by decide +kernel
theorem dX9_count_113 : decode cX9_count 113 = .ok (.iconst 5, 1) := by decide +kernel
theorem dX9_count_114 : decode cX9_count 114 = .ok (.if_icmp .ne 9, 3) := by decide +kernel
theorem dX9_count_117 : decode cX9_count 117 = .ok (.iload 4, 2) := by decide +kernel
theorem dX9_count_119 : decode cX9_count 119 = .ok (.iconst 1, 1) := by decide +kernel
theorem dX9_count_120 : decode cX9_count 120 = .ok (.if_icmp .gt 14, 3) := by decide +kernel
theorem dX9_count_123 : decode cX9_count 123 = .ok (.iload_n 1, 1) := by decide +kernel
theorem dX9_count_124 : decode cX9_count 124 = .ok (.bipush 6, 2) := by decide +kernel
theorem dX9_count_126 : decode cX9_count 126 = .ok (.if_icmp .ne 12, 3) := by decide +kernel
theorem dX9_count_129 : decode cX9_count 129 = .ok (.iload 4, 2) := by decide +kernel
theorem dX9_count_131 : decode cX9_count 131 = .ok (.ifCond .ne 7, 3) := by decide +kernel
theorem dX9_count_134 : decode cX9_count 134 = .ok (.iconst 1, 1) := by decide +kernel
theorem dX9_count_135 : decode cX9_count 135 = .ok (.goto 4, 3) := by decide +kernel
theorem dX9_count_138 : decode cX9_count 138 = .ok (.iconst 0, 1) := by decide +kernel
theorem dX9_count_139 : decode cX9_count 139 = .ok (.iadd, 1) := by decide +kernel
theorem dX9_count_140 : decode cX9_count 140 = .ok (.istore_n 2, 1) := by decide +kernel
theorem dX9_count_141 : decode cX9_count 141 = .ok (.iinc 3 1, 3) := by decide +kernel
theorem dX9_count_144 : decode cX9_count 144 = .ok (.goto (-59), 3) := by decide +kernel
theorem dX9_count_147 : decode cX9_count 147 = .ok (.iconst 0, 1) := by decide +kernel
theorem dX9_count_148 : decode cX9_count 148 = .ok (.istore_n 3, 1) := by decide +kernel
theorem dX9_count_149 : decode cX9_count 149 = .ok (.iload_n 3, 1) := by decide +kernel
theorem dX9_count_150 : decode cX9_count 150 = .ok (.aload_n 0, 1) := by decide +kernel
theorem dX9_count_151 : decode cX9_count 151 = .ok (.getfield 115, 3) := by decide +kernel
theorem dX9_count_154 : decode cX9_count 154 = .ok (.if_icmp .ge 38, 3) := by decide +kernel
theorem dX9_count_157 : decode cX9_count 157 = .ok (.iload_n 2, 1) := by decide +kernel
theorem dX9_count_158 : decode cX9_count 158 = .ok (.iload_n 1, 1) := by decide +kernel
theorem dX9_count_159 : decode cX9_count 159 = .ok (.bipush 8, 2) := by decide +kernel
theorem dX9_count_161 : decode cX9_count 161 = .ok (.if_icmp .ne 22, 3) := by decide +kernel
theorem dX9_count_164 : decode cX9_count 164 = .ok (.aload_n 0, 1) := by decide +kernel
theorem dX9_count_165 : decode cX9_count 165 = .ok (.getfield 39, 3) := by decide +kernel
theorem dX9_count_168 : decode cX9_count 168 = .ok (.bipush 8, 2) := by decide +kernel
theorem dX9_count_170 : decode cX9_count 170 = .ok (.iload_n 3, 1) := by decide +kernel
theorem dX9_count_171 : decode cX9_count 171 = .ok (.imul, 1) := by decide +kernel
theorem dX9_count_172 : decode cX9_count 172 = .ok (.iconst 5, 1) := by decide +kernel
theorem dX9_count_173 : decode cX9_count 173 = .ok (.iadd, 1) := by decide +kernel
theorem dX9_count_174 : decode cX9_count 174 = .ok (.iaload, 1) := by decide +kernel
theorem dX9_count_175 : decode cX9_count 175 = .ok (.iconst 1, 1) := by decide +kernel
theorem dX9_count_176 : decode cX9_count 176 = .ok (.if_icmp .ne 7, 3) := by decide +kernel
theorem dX9_count_179 : decode cX9_count 179 = .ok (.iconst 1, 1) := by decide +kernel
theorem dX9_count_180 : decode cX9_count 180 = .ok (.goto 4, 3) := by decide +kernel
theorem dX9_count_183 : decode cX9_count 183 = .ok (.iconst 0, 1) := by decide +kernel
theorem dX9_count_184 : decode cX9_count 184 = .ok (.iadd, 1) := by decide +kernel
theorem dX9_count_185 : decode cX9_count 185 = .ok (.istore_n 2, 1) := by decide +kernel
theorem dX9_count_186 : decode cX9_count 186 = .ok (.iinc 3 1, 3) := by decide +kernel
theorem dX9_count_189 : decode cX9_count 189 = .ok (.goto (-40), 3) := by decide +kernel
theorem dX9_count_192 : decode cX9_count 192 = .ok (.iload_n 1, 1) := by decide +kernel
theorem dX9_count_193 : decode cX9_count 193 = .ok (.tableswitch 77 0 9 #[55, 75, 75, 60, 75, 75, 75, 65, 75, 70], 55) := by decide +kernel
theorem dX9_count_248 : decode cX9_count 248 = .ok (.aload_n 0, 1) := by decide +kernel
theorem dX9_count_249 : decode cX9_count 249 = .ok (.getfield 59, 3) := by decide +kernel
theorem dX9_count_252 : decode cX9_count 252 = .ok (.ireturn, 1) := by decide +kernel
theorem dX9_count_253 : decode cX9_count 253 = .ok (.aload_n 0, 1) := by decide +kernel
theorem dX9_count_254 : decode cX9_count 254 = .ok (.getfield 109, 3) := by decide +kernel
theorem dX9_count_257 : decode cX9_count 257 = .ok (.ireturn, 1) := by decide +kernel
theorem dX9_count_258 : decode cX9_count 258 = .ok (.aload_n 0, 1) := by decide +kernel
theorem dX9_count_259 : decode cX9_count 259 = .ok (.getfield 115, 3) := by decide +kernel
theorem dX9_count_262 : decode cX9_count 262 = .ok (.ireturn, 1) := by decide +kernel
theorem dX9_count_263 : decode cX9_count 263 = .ok (.aload_n 0, 1) := by decide +kernel
theorem dX9_count_264 : decode cX9_count 264 = .ok (.getfield 118, 3) := by decide +kernel
theorem dX9_count_267 : decode cX9_count 267 = .ok (.ireturn, 1) := by decide +kernel
theorem dX9_count_268 : decode cX9_count 268 = .ok (.iload_n 2, 1) := by decide +kernel
theorem dX9_count_269 : decode cX9_count 269 = .ok (.ireturn, 1) := by decide +kernel
theorem dX9_count_270 : decode cX9_count 270 = .ok (.ldc 70, 2) := by decide +kernel
theorem dX9_count_272 : decode cX9_count 272 = .ok (.ireturn, 1) := by decide +kernel
theorem dX9_firstOf_0 : decode cX9_firstOf 0 = .ok (.aload_n 0, 1) := by decide +kernel
theorem dX9_firstOf_1 : decode cX9_firstOf 1 = .ok (.getfield 7, 3) := by decide +kernel
theorem dX9_firstOf_4 : decode cX9_firstOf 4 = .ok (.iload_n 1, 1) := by decide +kernel
theorem dX9_firstOf_5 : decode cX9_firstOf 5 = .ok (.iaload, 1) := by decide +kernel
theorem dX9_firstOf_6 : decode cX9_firstOf 6 = .ok (.aload_n 0, 1) := by decide +kernel
theorem dX9_firstOf_7 : decode cX9_firstOf 7 = .ok (.getfield 7, 3) := by decide +kernel
theorem dX9_firstOf_10 : decode cX9_firstOf 10 = .ok (.iload_n 2, 1) := by decide +kernel
theorem dX9_firstOf_11 : decode cX9_firstOf 11 = .ok (.iaload, 1) := by decide +kernel
theorem dX9_firstOf_12 : decode cX9_firstOf 12 = .ok (.if_icmp .le 12, 3) := by decide +kernel
theorem dX9_firstOf_15 : decode cX9_firstOf 15 = .ok (.aload_n 0, 1) := by decide +kernel
theorem dX9_firstOf_16 : decode cX9_firstOf 16 = .ok (.getfield 7, 3) := by decide +kernel
theorem dX9_firstOf_19 : decode cX9_firstOf 19 = .ok (.iload_n 1, 1) := by decide +kernel
theorem dX9_firstOf_20 : decode cX9_firstOf 20 = .ok (.iaload, 1) := by decide +kernel
theorem dX9_firstOf_21 : decode cX9_firstOf 21 = .ok (.goto 9, 3) := by decide +kernel
theorem dX9_firstOf_24 : decode cX9_firstOf 24 = .ok (.aload_n 0, 1) := by decide +kernel
theorem dX9_firstOf_25 : decode cX9_firstOf 25 = .ok (.getfield 7, 3) := by decide +kernel
theorem dX9_firstOf_28 : decode cX9_firstOf 28 = .ok (.iload_n 2, 1) := by decide +kernel
theorem dX9_firstOf_29 : decode cX9_firstOf 29 = .ok (.iaload, 1) := by decide +kernel
theorem dX9_firstOf_30 : decode cX9_firstOf 30 = .ok (.ireturn, 1) := by decide +kernel
theorem dX9_lastOf_0 : decode cX9_lastOf 0 = .ok (.aload_n 0, 1) := by decide +kernel
theorem dX9_lastOf_1 : decode cX9_lastOf 1 = .ok (.getfield 7, 3) := by decide +kernel
theorem dX9_lastOf_4 : decode cX9_lastOf 4 = .ok (.iload_n 1, 1) := by decide +kernel
theorem dX9_lastOf_5 : decode cX9_lastOf 5 = .ok (.iaload, 1) := by decide +kernel
theorem dX9_lastOf_6 : decode cX9_lastOf 6 = .ok (.aload_n 0, 1) := by decide +kernel
theorem dX9_lastOf_7 : decode cX9_lastOf 7 = .ok (.getfield 13, 3) := by decide +kernel
theorem dX9_lastOf_10 : decode cX9_lastOf 10 = .ok (.iload_n 1, 1) := by decide +kernel
theorem dX9_lastOf_11 : decode cX9_lastOf 11 = .ok (.iaload, 1) := by decide +kernel
theorem dX9_lastOf_12 : decode cX9_lastOf 12 = .ok (.iadd, 1) := by decide +kernel
theorem dX9_lastOf_13 : decode cX9_lastOf 13 = .ok (.iconst 1, 1) := by decide +kernel
theorem dX9_lastOf_14 : decode cX9_lastOf 14 = .ok (.isub, 1) := by decide +kernel
theorem dX9_lastOf_15 : decode cX9_lastOf 15 = .ok (.istore_n 3, 1) := by decide +kernel
theorem dX9_lastOf_16 : decode cX9_lastOf 16 = .ok (.aload_n 0, 1) := by decide +kernel
theorem dX9_lastOf_17 : decode cX9_lastOf 17 = .ok (.getfield 7, 3) := by decide +kernel
theorem dX9_lastOf_20 : decode cX9_lastOf 20 = .ok (.iload_n 2, 1) := by decide +kernel
theorem dX9_lastOf_21 : decode cX9_lastOf 21 = .ok (.iaload, 1) := by decide +kernel
theorem dX9_lastOf_22 : decode cX9_lastOf 22 = .ok (.aload_n 0, 1) := by decide +kernel
theorem dX9_lastOf_23 : decode cX9_lastOf 23 = .ok (.getfield 13, 3) := by decide +kernel
theorem dX9_lastOf_26 : decode cX9_lastOf 26 = .ok (.iload_n 2, 1) := by decide +kernel
theorem dX9_lastOf_27 : decode cX9_lastOf 27 = .ok (.iaload, 1) := by decide +kernel
theorem dX9_lastOf_28 : decode cX9_lastOf 28 = .ok (.iadd, 1) := by decide +kernel
theorem dX9_lastOf_29 : decode cX9_lastOf 29 = .ok (.iconst 1, 1) := by decide +kernel
theorem dX9_lastOf_30 : decode cX9_lastOf 30 = .ok (.isub, 1) := by decide +kernel
theorem dX9_lastOf_31 : decode cX9_lastOf 31 = .ok (.istore 4, 2) := by decide +kernel
theorem dX9_lastOf_33 : decode cX9_lastOf 33 = .ok (.iload_n 3, 1) := by decide +kernel
theorem dX9_lastOf_34 : decode cX9_lastOf 34 = .ok (.iload 4, 2) := by decide +kernel
theorem dX9_lastOf_36 : decode cX9_lastOf 36 = .ok (.if_icmp .ge 7, 3) := by decide +kernel
theorem dX9_lastOf_39 : decode cX9_lastOf 39 = .ok (.iload_n 3, 1) := by decide +kernel
theorem dX9_lastOf_40 : decode cX9_lastOf 40 = .ok (.goto 5, 3) := by decide +kernel
theorem dX9_lastOf_43 : decode cX9_lastOf 43 = .ok (.iload 4, 2) := by decide +kernel
theorem dX9_lastOf_45 : decode cX9_lastOf 45 = .ok (.ireturn, 1) := by decide +kernel
theorem dX9_apart_0 : decode cX9_apart 0 = .ok (.aload_n 0, 1) := by decide +kernel
theorem dX9_apart_1 : decode cX9_apart 1 = .ok (.iload_n 1, 1) := by decide +kernel
theorem dX9_apart_2 : decode cX9_apart 2 = .ok (.iload_n 3, 1) := by decide +kernel
theorem dX9_apart_3 : decode cX9_apart 3 = .ok (.iload 4, 2) := by decide +kernel
theorem dX9_apart_5 : decode cX9_apart 5 = .ok (.invokevirtual 94, 3) := by decide +kernel
theorem dX9_apart_8 : decode cX9_apart 8 = .ok (.aload_n 0, 1) := by decide +kernel
theorem dX9_apart_9 : decode cX9_apart 9 = .ok (.iload_n 2, 1) := by decide +kernel
theorem dX9_apart_10 : decode cX9_apart 10 = .ok (.iload_n 3, 1) := by decide +kernel
theorem dX9_apart_11 : decode cX9_apart 11 = .ok (.iload 4, 2) := by decide +kernel
theorem dX9_apart_13 : decode cX9_apart 13 = .ok (.invokevirtual 94, 3) := by decide +kernel
theorem dX9_apart_16 : decode cX9_apart 16 = .ok (.isub, 1) := by decide +kernel
theorem dX9_apart_17 : decode cX9_apart 17 = .ok (.i2l, 1) := by decide +kernel
theorem dX9_apart_18 : decode cX9_apart 18 = .ok (.lreturn, 1) := by decide +kernel
theorem dX9_tryOne_0 : decode cX9_tryOne 0 = .ok (.lload_n 1, 1) := by decide +kernel
theorem dX9_tryOne_1 : decode cX9_tryOne 1 = .ok (.lload_n 3, 1) := by decide +kernel
theorem dX9_tryOne_2 : decode cX9_tryOne 2 = .ok (.ldiv, 1) := by decide +kernel
theorem dX9_tryOne_3 : decode cX9_tryOne 3 = .ok (.aload_n 0, 1) := by decide +kernel
theorem dX9_tryOne_4 : decode cX9_tryOne 4 = .ok (.getfield 121, 3) := by decide +kernel
theorem dX9_tryOne_7 : decode cX9_tryOne 7 = .ok (.aload_n 0, 1) := by decide +kernel
theorem dX9_tryOne_8 : decode cX9_tryOne 8 = .ok (.getfield 125, 3) := by decide +kernel
theorem dX9_tryOne_11 : decode cX9_tryOne 11 = .ok (.ldiv, 1) := by decide +kernel
theorem dX9_tryOne_12 : decode cX9_tryOne 12 = .ok (.lsub, 1) := by decide +kernel
theorem dX9_tryOne_13 : decode cX9_tryOne 13 = .ok (.lstore 10, 2) := by decide +kernel
theorem dX9_tryOne_15 : decode cX9_tryOne 15 = .ok (.lload 10, 2) := by decide +kernel
theorem dX9_tryOne_17 : decode cX9_tryOne 17 = .ok (.lconst 0, 1) := by decide +kernel
theorem dX9_tryOne_18 : decode cX9_tryOne 18 = .ok (.lcmp, 1) := by decide +kernel
theorem dX9_tryOne_19 : decode cX9_tryOne 19 = .ok (.ifCond .lt 33, 3) := by decide +kernel
theorem dX9_tryOne_22 : decode cX9_tryOne 22 = .ok (.lload 10, 2) := by decide +kernel
theorem dX9_tryOne_24 : decode cX9_tryOne 24 = .ok (.lconst 0, 1) := by decide +kernel
theorem dX9_tryOne_25 : decode cX9_tryOne 25 = .ok (.lcmp, 1) := by decide +kernel
theorem dX9_tryOne_26 : decode cX9_tryOne 26 = .ok (.ifCond .ne 30, 3) := by decide +kernel
theorem dX9_tryOne_29 : decode cX9_tryOne 29 = .ok (.lload_n 1, 1) := by decide +kernel
theorem dX9_tryOne_30 : decode cX9_tryOne 30 = .ok (.lload_n 3, 1) := by decide +kernel
theorem dX9_tryOne_31 : decode cX9_tryOne 31 = .ok (.lrem, 1) := by decide +kernel
theorem dX9_tryOne_32 : decode cX9_tryOne 32 = .ok (.aload_n 0, 1) := by decide +kernel
theorem dX9_tryOne_33 : decode cX9_tryOne 33 = .ok (.getfield 125, 3) := by decide +kernel
theorem dX9_tryOne_36 : decode cX9_tryOne 36 = .ok (.lmul, 1) := by decide +kernel
theorem dX9_tryOne_37 : decode cX9_tryOne 37 = .ok (.aload_n 0, 1) := by decide +kernel
theorem dX9_tryOne_38 : decode cX9_tryOne 38 = .ok (.getfield 121, 3) := by decide +kernel
theorem dX9_tryOne_41 : decode cX9_tryOne 41 = .ok (.aload_n 0, 1) := by decide +kernel
theorem dX9_tryOne_42 : decode cX9_tryOne 42 = .ok (.getfield 125, 3) := by decide +kernel
theorem dX9_tryOne_45 : decode cX9_tryOne 45 = .ok (.lrem, 1) := by decide +kernel
theorem dX9_tryOne_46 : decode cX9_tryOne 46 = .ok (.lload_n 3, 1) := by decide +kernel
theorem dX9_tryOne_47 : decode cX9_tryOne 47 = .ok (.lmul, 1) := by decide +kernel
theorem dX9_tryOne_48 : decode cX9_tryOne 48 = .ok (.lcmp, 1) := by decide +kernel
theorem dX9_tryOne_49 : decode cX9_tryOne 49 = .ok (.ifCond .ge 7, 3) := by decide +kernel
theorem dX9_tryOne_52 : decode cX9_tryOne 52 = .ok (.iconst 1, 1) := by decide +kernel
theorem dX9_tryOne_53 : decode cX9_tryOne 53 = .ok (.goto 4, 3) := by decide +kernel
theorem dX9_tryOne_56 : decode cX9_tryOne 56 = .ok (.iconst 0, 1) := by decide +kernel
theorem dX9_tryOne_57 : decode cX9_tryOne 57 = .ok (.istore 12, 2) := by decide +kernel
theorem dX9_tryOne_59 : decode cX9_tryOne 59 = .ok (.aload_n 0, 1) := by decide +kernel
theorem dX9_tryOne_60 : decode cX9_tryOne 60 = .ok (.getfield 128, 3) := by decide +kernel
theorem dX9_tryOne_63 : decode cX9_tryOne 63 = .ok (.ifCond .lt 8, 3) := by decide +kernel
theorem dX9_tryOne_66 : decode cX9_tryOne 66 = .ok (.iload 12, 2) := by decide +kernel
theorem dX9_tryOne_68 : decode cX9_tryOne 68 = .ok (.ifCond .eq 31, 3) := by decide +kernel
theorem dX9_tryOne_71 : decode cX9_tryOne 71 = .ok (.aload_n 0, 1) := by decide +kernel
theorem dX9_tryOne_72 : decode cX9_tryOne 72 = .ok (.lload_n 1, 1) := by decide +kernel
theorem dX9_tryOne_73 : decode cX9_tryOne 73 = .ok (.putfield 121, 3) := by decide +kernel
theorem dX9_tryOne_76 : decode cX9_tryOne 76 = .ok (.aload_n 0, 1) := by decide +kernel
theorem dX9_tryOne_77 : decode cX9_tryOne 77 = .ok (.lload_n 3, 1) := by decide +kernel
theorem dX9_tryOne_78 : decode cX9_tryOne 78 = .ok (.putfield 125, 3) := by decide +kernel
theorem dX9_tryOne_81 : decode cX9_tryOne 81 = .ok (.aload_n 0, 1) := by decide +kernel
theorem dX9_tryOne_82 : decode cX9_tryOne 82 = .ok (.iload 5, 2) := by decide +kernel
theorem dX9_tryOne_84 : decode cX9_tryOne 84 = .ok (.putfield 128, 3) := by decide +kernel
theorem dX9_tryOne_87 : decode cX9_tryOne 87 = .ok (.aload_n 0, 1) := by decide +kernel
theorem dX9_tryOne_88 : decode cX9_tryOne 88 = .ok (.lload 6, 2) := by decide +kernel
theorem dX9_tryOne_90 : decode cX9_tryOne 90 = .ok (.putfield 131, 3) := by decide +kernel
theorem dX9_tryOne_93 : decode cX9_tryOne 93 = .ok (.aload_n 0, 1) := by decide +kernel
theorem dX9_tryOne_94 : decode cX9_tryOne 94 = .ok (.lload 8, 2) := by decide +kernel
theorem dX9_tryOne_96 : decode cX9_tryOne 96 = .ok (.putfield 134, 3) := by decide +kernel
theorem dX9_tryOne_99 : decode cX9_tryOne 99 = .ok (.return_, 1) := by decide +kernel
theorem dX9_findLeast_0 : decode cX9_findLeast 0 = .ok (.aload_n 0, 1) := by decide +kernel
theorem dX9_findLeast_1 : decode cX9_findLeast 1 = .ok (.lconst 0, 1) := by decide +kernel
theorem dX9_findLeast_2 : decode cX9_findLeast 2 = .ok (.putfield 121, 3) := by decide +kernel
theorem dX9_findLeast_5 : decode cX9_findLeast 5 = .ok (.aload_n 0, 1) := by decide +kernel
theorem dX9_findLeast_6 : decode cX9_findLeast 6 = .ok (.lconst 1, 1) := by decide +kernel
theorem dX9_findLeast_7 : decode cX9_findLeast 7 = .ok (.putfield 125, 3) := by decide +kernel
theorem dX9_findLeast_10 : decode cX9_findLeast 10 = .ok (.aload_n 0, 1) := by decide +kernel
theorem dX9_findLeast_11 : decode cX9_findLeast 11 = .ok (.iconst (-1), 1) := by decide +kernel
theorem dX9_findLeast_12 : decode cX9_findLeast 12 = .ok (.putfield 128, 3) := by decide +kernel
theorem dX9_findLeast_15 : decode cX9_findLeast 15 = .ok (.aload_n 0, 1) := by decide +kernel
theorem dX9_findLeast_16 : decode cX9_findLeast 16 = .ok (.iload_n 1, 1) := by decide +kernel
theorem dX9_findLeast_17 : decode cX9_findLeast 17 = .ok (.iload_n 2, 1) := by decide +kernel
theorem dX9_findLeast_18 : decode cX9_findLeast 18 = .ok (.invokevirtual 137, 3) := by decide +kernel
theorem dX9_findLeast_21 : decode cX9_findLeast 21 = .ok (.istore_n 3, 1) := by decide +kernel
theorem dX9_findLeast_22 : decode cX9_findLeast 22 = .ok (.aload_n 0, 1) := by decide +kernel
theorem dX9_findLeast_23 : decode cX9_findLeast 23 = .ok (.iload_n 1, 1) := by decide +kernel
theorem dX9_findLeast_24 : decode cX9_findLeast 24 = .ok (.iload_n 2, 1) := by decide +kernel
theorem dX9_findLeast_25 : decode cX9_findLeast 25 = .ok (.invokevirtual 140, 3) := by decide +kernel
theorem dX9_findLeast_28 : decode cX9_findLeast 28 = .ok (.istore 4, 2) := by decide +kernel
theorem dX9_findLeast_30 : decode cX9_findLeast 30 = .ok (.iload 4, 2) := by decide +kernel
theorem dX9_findLeast_32 : decode cX9_findLeast 32 = .ok (.iload_n 3, 1) := by decide +kernel
theorem dX9_findLeast_33 : decode cX9_findLeast 33 = .ok (.if_icmp .gt 151, 3) := by decide +kernel
theorem dX9_findLeast_36 : decode cX9_findLeast 36 = .ok (.lconst 0, 1) := by decide +kernel
theorem dX9_findLeast_37 : decode cX9_findLeast 37 = .ok (.lstore 5, 2) := by decide +kernel
theorem dX9_findLeast_39 : decode cX9_findLeast 39 = .ok (.lconst 0, 1) := by decide +kernel
theorem dX9_findLeast_40 : decode cX9_findLeast 40 = .ok (.lstore 7, 2) := by decide +kernel
theorem dX9_findLeast_42 : decode cX9_findLeast 42 = .ok (.lconst 0, 1) := by decide +kernel
theorem dX9_findLeast_43 : decode cX9_findLeast 43 = .ok (.lstore 9, 2) := by decide +kernel
theorem dX9_findLeast_45 : decode cX9_findLeast 45 = .ok (.iconst 0, 1) := by decide +kernel
theorem dX9_findLeast_46 : decode cX9_findLeast 46 = .ok (.istore 11, 2) := by decide +kernel
theorem dX9_findLeast_48 : decode cX9_findLeast 48 = .ok (.iload 11, 2) := by decide +kernel
theorem dX9_findLeast_50 : decode cX9_findLeast 50 = .ok (.iconst 3, 1) := by decide +kernel
theorem dX9_findLeast_51 : decode cX9_findLeast 51 = .ok (.if_icmp .ge 78, 3) := by decide +kernel
theorem dX9_findLeast_54 : decode cX9_findLeast 54 = .ok (.aload_n 0, 1) := by decide +kernel
theorem dX9_findLeast_55 : decode cX9_findLeast 55 = .ok (.iload_n 1, 1) := by decide +kernel
theorem dX9_findLeast_56 : decode cX9_findLeast 56 = .ok (.iload_n 2, 1) := by decide +kernel
theorem dX9_findLeast_57 : decode cX9_findLeast 57 = .ok (.iload 4, 2) := by decide +kernel
theorem dX9_findLeast_59 : decode cX9_findLeast 59 = .ok (.iload 11, 2) := by decide +kernel
theorem dX9_findLeast_61 : decode cX9_findLeast 61 = .ok (.invokevirtual 143, 3) := by decide +kernel
theorem dX9_findLeast_64 : decode cX9_findLeast 64 = .ok (.lstore 12, 2) := by decide +kernel
theorem dX9_findLeast_66 : decode cX9_findLeast 66 = .ok (.iload 4, 2) := by decide +kernel
theorem dX9_findLeast_68 : decode cX9_findLeast 68 = .ok (.iload_n 3, 1) := by decide +kernel
theorem dX9_findLeast_69 : decode cX9_findLeast 69 = .ok (.if_icmp .ge 21, 3) := by decide +kernel
theorem dX9_findLeast_72 : decode cX9_findLeast 72 = .ok (.aload_n 0, 1) := by decide +kernel
theorem dX9_findLeast_73 : decode cX9_findLeast 73 = .ok (.iload_n 1, 1) := by decide +kernel
theorem dX9_findLeast_74 : decode cX9_findLeast 74 = .ok (.iload_n 2, 1) := by decide +kernel
theorem dX9_findLeast_75 : decode cX9_findLeast 75 = .ok (.iload 4, 2) := by decide +kernel
theorem dX9_findLeast_77 : decode cX9_findLeast 77 = .ok (.iconst 1, 1) := by decide +kernel
theorem dX9_findLeast_78 : decode cX9_findLeast 78 = .ok (.iadd, 1) := by decide +kernel
theorem dX9_findLeast_79 : decode cX9_findLeast 79 = .ok (.iload 11, 2) := by decide +kernel
theorem dX9_findLeast_81 : decode cX9_findLeast 81 = .ok (.invokevirtual 143, 3) := by decide +kernel
theorem dX9_findLeast_84 : decode cX9_findLeast 84 = .ok (.lload 12, 2) := by decide +kernel
theorem dX9_findLeast_86 : decode cX9_findLeast 86 = .ok (.lsub, 1) := by decide +kernel
theorem dX9_findLeast_87 : decode cX9_findLeast 87 = .ok (.goto 4, 3) := by decide +kernel
theorem dX9_findLeast_90 : decode cX9_findLeast 90 = .ok (.lconst 0, 1) := by decide +kernel
theorem dX9_findLeast_91 : decode cX9_findLeast 91 = .ok (.lstore 14, 2) := by decide +kernel
theorem dX9_findLeast_93 : decode cX9_findLeast 93 = .ok (.lload 5, 2) := by decide +kernel
theorem dX9_findLeast_95 : decode cX9_findLeast 95 = .ok (.lload 12, 2) := by decide +kernel
theorem dX9_findLeast_97 : decode cX9_findLeast 97 = .ok (.lload 12, 2) := by decide +kernel
theorem dX9_findLeast_99 : decode cX9_findLeast 99 = .ok (.lmul, 1) := by decide +kernel
theorem dX9_findLeast_100 : decode cX9_findLeast 100 = .ok (.ladd, 1) := by decide +kernel
theorem dX9_findLeast_101 : decode cX9_findLeast 101 = .ok (.lstore 5, 2) := by decide +kernel
theorem dX9_findLeast_103 : decode cX9_findLeast 103 = .ok (.lload 7, 2) := by decide +kernel
theorem dX9_findLeast_105 : decode cX9_findLeast 105 = .ok (.lload 12, 2) := by decide +kernel
theorem dX9_findLeast_107 : decode cX9_findLeast 107 = .ok (.lload 14, 2) := by decide +kernel
theorem dX9_findLeast_109 : decode cX9_findLeast 109 = .ok (.lmul, 1) := by decide +kernel
theorem dX9_findLeast_110 : decode cX9_findLeast 110 = .ok (.lsub, 1) := by decide +kernel
theorem dX9_findLeast_111 : decode cX9_findLeast 111 = .ok (.lstore 7, 2) := by decide +kernel
theorem dX9_findLeast_113 : decode cX9_findLeast 113 = .ok (.lload 9, 2) := by decide +kernel
theorem dX9_findLeast_115 : decode cX9_findLeast 115 = .ok (.lload 14, 2) := by decide +kernel
theorem dX9_findLeast_117 : decode cX9_findLeast 117 = .ok (.lload 14, 2) := by decide +kernel
theorem dX9_findLeast_119 : decode cX9_findLeast 119 = .ok (.lmul, 1) := by decide +kernel
theorem dX9_findLeast_120 : decode cX9_findLeast 120 = .ok (.ladd, 1) := by decide +kernel
theorem dX9_findLeast_121 : decode cX9_findLeast 121 = .ok (.lstore 9, 2) := by decide +kernel
theorem dX9_findLeast_123 : decode cX9_findLeast 123 = .ok (.iinc 11 1, 3) := by decide +kernel
theorem dX9_findLeast_126 : decode cX9_findLeast 126 = .ok (.goto (-78), 3) := by decide +kernel
theorem dX9_findLeast_129 : decode cX9_findLeast 129 = .ok (.aload_n 0, 1) := by decide +kernel
theorem dX9_findLeast_130 : decode cX9_findLeast 130 = .ok (.lload 5, 2) := by decide +kernel
theorem dX9_findLeast_132 : decode cX9_findLeast 132 = .ok (.lconst 1, 1) := by decide +kernel
theorem dX9_findLeast_133 : decode cX9_findLeast 133 = .ok (.iload 4, 2) := by decide +kernel
theorem dX9_findLeast_135 : decode cX9_findLeast 135 = .ok (.lconst 0, 1) := by decide +kernel
theorem dX9_findLeast_136 : decode cX9_findLeast 136 = .ok (.lconst 1, 1) := by decide +kernel
theorem dX9_findLeast_137 : decode cX9_findLeast 137 = .ok (.invokevirtual 147, 3) := by decide +kernel
theorem dX9_findLeast_140 : decode cX9_findLeast 140 = .ok (.lload 7, 2) := by decide +kernel
theorem dX9_findLeast_142 : decode cX9_findLeast 142 = .ok (.lconst 0, 1) := by decide +kernel
theorem dX9_findLeast_143 : decode cX9_findLeast 143 = .ok (.lcmp, 1) := by decide +kernel
theorem dX9_findLeast_144 : decode cX9_findLeast 144 = .ok (.ifCond .le 34, 3) := by decide +kernel
theorem dX9_findLeast_147 : decode cX9_findLeast 147 = .ok (.lload 7, 2) := by decide +kernel
theorem dX9_findLeast_149 : decode cX9_findLeast 149 = .ok (.lload 9, 2) := by decide +kernel
theorem dX9_findLeast_151 : decode cX9_findLeast 151 = .ok (.lcmp, 1) := by decide +kernel
theorem dX9_findLeast_152 : decode cX9_findLeast 152 = .ok (.ifCond .ge 26, 3) := by decide +kernel
theorem dX9_findLeast_155 : decode cX9_findLeast 155 = .ok (.aload_n 0, 1) := by decide +kernel
theorem dX9_findLeast_156 : decode cX9_findLeast 156 = .ok (.lload 5, 2) := by decide +kernel
theorem dX9_findLeast_158 : decode cX9_findLeast 158 = .ok (.lload 9, 2) := by decide +kernel
theorem dX9_findLeast_160 : decode cX9_findLeast 160 = .ok (.lmul, 1) := by decide +kernel
theorem dX9_findLeast_161 : decode cX9_findLeast 161 = .ok (.lload 7, 2) := by decide +kernel
theorem dX9_findLeast_163 : decode cX9_findLeast 163 = .ok (.lload 7, 2) := by decide +kernel
theorem dX9_findLeast_165 : decode cX9_findLeast 165 = .ok (.lmul, 1) := by decide +kernel
theorem dX9_findLeast_166 : decode cX9_findLeast 166 = .ok (.lsub, 1) := by decide +kernel
theorem dX9_findLeast_167 : decode cX9_findLeast 167 = .ok (.lload 9, 2) := by decide +kernel
theorem dX9_findLeast_169 : decode cX9_findLeast 169 = .ok (.iload 4, 2) := by decide +kernel
theorem dX9_findLeast_171 : decode cX9_findLeast 171 = .ok (.lload 7, 2) := by decide +kernel
theorem dX9_findLeast_173 : decode cX9_findLeast 173 = .ok (.lload 9, 2) := by decide +kernel
theorem dX9_findLeast_175 : decode cX9_findLeast 175 = .ok (.invokevirtual 147, 3) := by decide +kernel
theorem dX9_findLeast_178 : decode cX9_findLeast 178 = .ok (.iinc 4 1, 3) := by decide +kernel
theorem dX9_findLeast_181 : decode cX9_findLeast 181 = .ok (.goto (-151), 3) := by decide +kernel
theorem dX9_findLeast_184 : decode cX9_findLeast 184 = .ok (.return_, 1) := by decide +kernel
theorem dX9_areTogether_0 : decode cX9_areTogether 0 = .ok (.aload_n 0, 1) := by decide +kernel
theorem dX9_areTogether_1 : decode cX9_areTogether 1 = .ok (.iload_n 1, 1) := by decide +kernel
theorem dX9_areTogether_2 : decode cX9_areTogether 2 = .ok (.iload_n 2, 1) := by decide +kernel
theorem dX9_areTogether_3 : decode cX9_areTogether 3 = .ok (.invokevirtual 140, 3) := by decide +kernel
theorem dX9_areTogether_6 : decode cX9_areTogether 6 = .ok (.aload_n 0, 1) := by decide +kernel
theorem dX9_areTogether_7 : decode cX9_areTogether 7 = .ok (.iload_n 1, 1) := by decide +kernel
theorem dX9_areTogether_8 : decode cX9_areTogether 8 = .ok (.iload_n 2, 1) := by decide +kernel
theorem dX9_areTogether_9 : decode cX9_areTogether 9 = .ok (.invokevirtual 137, 3) := by decide +kernel
theorem dX9_areTogether_12 : decode cX9_areTogether 12 = .ok (.if_icmp .gt 7, 3) := by decide +kernel
theorem dX9_areTogether_15 : decode cX9_areTogether 15 = .ok (.iconst 1, 1) := by decide +kernel
theorem dX9_areTogether_16 : decode cX9_areTogether 16 = .ok (.goto 4, 3) := by decide +kernel
theorem dX9_areTogether_19 : decode cX9_areTogether 19 = .ok (.iconst 0, 1) := by decide +kernel
theorem dX9_areTogether_20 : decode cX9_areTogether 20 = .ok (.ireturn, 1) := by decide +kernel
theorem dX9_isMeeting_0 : decode cX9_isMeeting 0 = .ok (.iload_n 1, 1) := by decide +kernel
theorem dX9_isMeeting_1 : decode cX9_isMeeting 1 = .ok (.iload_n 2, 1) := by decide +kernel
theorem dX9_isMeeting_2 : decode cX9_isMeeting 2 = .ok (.if_icmp .eq 30, 3) := by decide +kernel
theorem dX9_isMeeting_5 : decode cX9_isMeeting 5 = .ok (.aload_n 0, 1) := by decide +kernel
theorem dX9_isMeeting_6 : decode cX9_isMeeting 6 = .ok (.getfield 19, 3) := by decide +kernel
theorem dX9_isMeeting_9 : decode cX9_isMeeting 9 = .ok (.iload_n 1, 1) := by decide +kernel
theorem dX9_isMeeting_10 : decode cX9_isMeeting 10 = .ok (.baload, 1) := by decide +kernel
theorem dX9_isMeeting_11 : decode cX9_isMeeting 11 = .ok (.ifCond .ne 21, 3) := by decide +kernel
theorem dX9_isMeeting_14 : decode cX9_isMeeting 14 = .ok (.aload_n 0, 1) := by decide +kernel
theorem dX9_isMeeting_15 : decode cX9_isMeeting 15 = .ok (.getfield 19, 3) := by decide +kernel
theorem dX9_isMeeting_18 : decode cX9_isMeeting 18 = .ok (.iload_n 2, 1) := by decide +kernel
theorem dX9_isMeeting_19 : decode cX9_isMeeting 19 = .ok (.baload, 1) := by decide +kernel
theorem dX9_isMeeting_20 : decode cX9_isMeeting 20 = .ok (.ifCond .ne 12, 3) := by decide +kernel
theorem dX9_isMeeting_23 : decode cX9_isMeeting 23 = .ok (.aload_n 0, 1) := by decide +kernel
theorem dX9_isMeeting_24 : decode cX9_isMeeting 24 = .ok (.iload_n 1, 1) := by decide +kernel
theorem dX9_isMeeting_25 : decode cX9_isMeeting 25 = .ok (.iload_n 2, 1) := by decide +kernel
theorem dX9_isMeeting_26 : decode cX9_isMeeting 26 = .ok (.invokevirtual 151, 3) := by decide +kernel
theorem dX9_isMeeting_29 : decode cX9_isMeeting 29 = .ok (.ifCond .ne 5, 3) := by decide +kernel
theorem dX9_isMeeting_32 : decode cX9_isMeeting 32 = .ok (.iconst 0, 1) := by decide +kernel
theorem dX9_isMeeting_33 : decode cX9_isMeeting 33 = .ok (.ireturn, 1) := by decide +kernel
theorem dX9_isMeeting_34 : decode cX9_isMeeting 34 = .ok (.aload_n 0, 1) := by decide +kernel
theorem dX9_isMeeting_35 : decode cX9_isMeeting 35 = .ok (.iload_n 1, 1) := by decide +kernel
theorem dX9_isMeeting_36 : decode cX9_isMeeting 36 = .ok (.iload_n 2, 1) := by decide +kernel
theorem dX9_isMeeting_37 : decode cX9_isMeeting 37 = .ok (.invokevirtual 154, 3) := by decide +kernel
theorem dX9_isMeeting_40 : decode cX9_isMeeting 40 = .ok (.aload_n 0, 1) := by decide +kernel
theorem dX9_isMeeting_41 : decode cX9_isMeeting 41 = .ok (.getfield 121, 3) := by decide +kernel
theorem dX9_isMeeting_44 : decode cX9_isMeeting 44 = .ok (.aload_n 0, 1) := by decide +kernel
theorem dX9_isMeeting_45 : decode cX9_isMeeting 45 = .ok (.getfield 26, 3) := by decide +kernel
theorem dX9_isMeeting_48 : decode cX9_isMeeting 48 = .ok (.i2l, 1) := by decide +kernel
theorem dX9_isMeeting_49 : decode cX9_isMeeting 49 = .ok (.aload_n 0, 1) := by decide +kernel
theorem dX9_isMeeting_50 : decode cX9_isMeeting 50 = .ok (.getfield 26, 3) := by decide +kernel
theorem dX9_isMeeting_53 : decode cX9_isMeeting 53 = .ok (.i2l, 1) := by decide +kernel
theorem dX9_isMeeting_54 : decode cX9_isMeeting 54 = .ok (.lmul, 1) := by decide +kernel
theorem dX9_isMeeting_55 : decode cX9_isMeeting 55 = .ok (.aload_n 0, 1) := by decide +kernel
theorem dX9_isMeeting_56 : decode cX9_isMeeting 56 = .ok (.getfield 125, 3) := by decide +kernel
theorem dX9_isMeeting_59 : decode cX9_isMeeting 59 = .ok (.lmul, 1) := by decide +kernel
theorem dX9_isMeeting_60 : decode cX9_isMeeting 60 = .ok (.lcmp, 1) := by decide +kernel
theorem dX9_isMeeting_61 : decode cX9_isMeeting 61 = .ok (.ifCond .ge 7, 3) := by decide +kernel
theorem dX9_isMeeting_64 : decode cX9_isMeeting 64 = .ok (.iconst 1, 1) := by decide +kernel
theorem dX9_isMeeting_65 : decode cX9_isMeeting 65 = .ok (.goto 4, 3) := by decide +kernel
theorem dX9_isMeeting_68 : decode cX9_isMeeting 68 = .ok (.iconst 0, 1) := by decide +kernel
theorem dX9_isMeeting_69 : decode cX9_isMeeting 69 = .ok (.ireturn, 1) := by decide +kernel
theorem dX9_meets_0 : decode cX9_meets 0 = .ok (.iconst 0, 1) := by decide +kernel
theorem dX9_meets_1 : decode cX9_meets 1 = .ok (.istore_n 2, 1) := by decide +kernel
theorem dX9_meets_2 : decode cX9_meets 2 = .ok (.iconst 0, 1) := by decide +kernel
theorem dX9_meets_3 : decode cX9_meets 3 = .ok (.istore_n 3, 1) := by decide +kernel
theorem dX9_meets_4 : decode cX9_meets 4 = .ok (.iload_n 3, 1) := by decide +kernel
theorem dX9_meets_5 : decode cX9_meets 5 = .ok (.aload_n 0, 1) := by decide +kernel
theorem dX9_meets_6 : decode cX9_meets 6 = .ok (.getfield 59, 3) := by decide +kernel
theorem dX9_meets_9 : decode cX9_meets 9 = .ok (.if_icmp .ge 26, 3) := by decide +kernel
theorem dX9_meets_12 : decode cX9_meets 12 = .ok (.iload_n 2, 1) := by decide +kernel
theorem dX9_meets_13 : decode cX9_meets 13 = .ok (.aload_n 0, 1) := by decide +kernel
theorem dX9_meets_14 : decode cX9_meets 14 = .ok (.iload_n 1, 1) := by decide +kernel
theorem dX9_meets_15 : decode cX9_meets 15 = .ok (.iload_n 3, 1) := by decide +kernel
theorem dX9_meets_16 : decode cX9_meets 16 = .ok (.invokevirtual 106, 3) := by decide +kernel
theorem dX9_meets_19 : decode cX9_meets 19 = .ok (.ifCond .eq 7, 3) := by decide +kernel
theorem dX9_meets_22 : decode cX9_meets 22 = .ok (.iconst 1, 1) := by decide +kernel
theorem dX9_meets_23 : decode cX9_meets 23 = .ok (.goto 4, 3) := by decide +kernel
theorem dX9_meets_26 : decode cX9_meets 26 = .ok (.iconst 0, 1) := by decide +kernel
theorem dX9_meets_27 : decode cX9_meets 27 = .ok (.iadd, 1) := by decide +kernel
theorem dX9_meets_28 : decode cX9_meets 28 = .ok (.istore_n 2, 1) := by decide +kernel
theorem dX9_meets_29 : decode cX9_meets 29 = .ok (.iinc 3 1, 3) := by decide +kernel
theorem dX9_meets_32 : decode cX9_meets 32 = .ok (.goto (-28), 3) := by decide +kernel
theorem dX9_meets_35 : decode cX9_meets 35 = .ok (.iload_n 2, 1) := by decide +kernel
theorem dX9_meets_36 : decode cX9_meets 36 = .ok (.ireturn, 1) := by decide +kernel
theorem dX9_common_0 : decode cX9_common 0 = .ok (.lload_n 0, 1) := by decide +kernel
theorem dX9_common_1 : decode cX9_common 1 = .ok (.lstore 4, 2) := by decide +kernel
theorem dX9_common_3 : decode cX9_common 3 = .ok (.lload_n 2, 1) := by decide +kernel
theorem dX9_common_4 : decode cX9_common 4 = .ok (.lstore 6, 2) := by decide +kernel
theorem dX9_common_6 : decode cX9_common 6 = .ok (.lload 6, 2) := by decide +kernel
theorem dX9_common_8 : decode cX9_common 8 = .ok (.lconst 0, 1) := by decide +kernel
theorem dX9_common_9 : decode cX9_common 9 = .ok (.lcmp, 1) := by decide +kernel
theorem dX9_common_10 : decode cX9_common 10 = .ok (.ifCond .eq 21, 3) := by decide +kernel
theorem dX9_common_13 : decode cX9_common 13 = .ok (.lload 4, 2) := by decide +kernel
theorem dX9_common_15 : decode cX9_common 15 = .ok (.lload 6, 2) := by decide +kernel
theorem dX9_common_17 : decode cX9_common 17 = .ok (.lrem, 1) := by decide +kernel
theorem dX9_common_18 : decode cX9_common 18 = .ok (.lstore 8, 2) := by decide +kernel
theorem dX9_common_20 : decode cX9_common 20 = .ok (.lload 6, 2) := by decide +kernel
theorem dX9_common_22 : decode cX9_common 22 = .ok (.lstore 4, 2) := by decide +kernel
theorem dX9_common_24 : decode cX9_common 24 = .ok (.lload 8, 2) := by decide +kernel
theorem dX9_common_26 : decode cX9_common 26 = .ok (.lstore 6, 2) := by decide +kernel
theorem dX9_common_28 : decode cX9_common 28 = .ok (.goto (-22), 3) := by decide +kernel
theorem dX9_common_31 : decode cX9_common 31 = .ok (.lload 4, 2) := by decide +kernel
theorem dX9_common_33 : decode cX9_common 33 = .ok (.lreturn, 1) := by decide +kernel
theorem dX9_least_0 : decode cX9_least 0 = .ok (.aload_n 0, 1) := by decide +kernel
theorem dX9_least_1 : decode cX9_least 1 = .ok (.iload_n 1, 1) := by decide +kernel
theorem dX9_least_2 : decode cX9_least 2 = .ok (.invokevirtual 80, 3) := by decide +kernel
theorem dX9_least_5 : decode cX9_least 5 = .ok (.ifCond .eq 11, 3) := by decide +kernel
theorem dX9_least_8 : decode cX9_least 8 = .ok (.aload_n 0, 1) := by decide +kernel
theorem dX9_least_9 : decode cX9_least 9 = .ok (.iload_n 2, 1) := by decide +kernel
theorem dX9_least_10 : decode cX9_least 10 = .ok (.invokevirtual 80, 3) := by decide +kernel
theorem dX9_least_13 : decode cX9_least 13 = .ok (.ifCond .ne 7, 3) := by decide +kernel
theorem dX9_least_16 : decode cX9_least 16 = .ok (.ldc2_w 158, 3) := by decide +kernel
theorem dX9_least_19 : decode cX9_least 19 = .ok (.lreturn, 1) := by decide +kernel
theorem dX9_least_20 : decode cX9_least 20 = .ok (.iload_n 3, 1) := by decide +kernel
theorem dX9_least_21 : decode cX9_least 21 = .ok (.i2l, 1) := by decide +kernel
theorem dX9_least_22 : decode cX9_least 22 = .ok (.lconst 0, 1) := by decide +kernel
theorem dX9_least_23 : decode cX9_least 23 = .ok (.ldc2_w 160, 3) := by decide +kernel
theorem dX9_least_26 : decode cX9_least 26 = .ok (.invokestatic 55, 3) := by decide +kernel
theorem dX9_least_29 : decode cX9_least 29 = .ok (.ifCond .ne 7, 3) := by decide +kernel
theorem dX9_least_32 : decode cX9_least 32 = .ok (.ldc2_w 162, 3) := by decide +kernel
theorem dX9_least_35 : decode cX9_least 35 = .ok (.lreturn, 1) := by decide +kernel
theorem dX9_least_36 : decode cX9_least 36 = .ok (.iload_n 1, 1) := by decide +kernel
theorem dX9_least_37 : decode cX9_least 37 = .ok (.iload_n 2, 1) := by decide +kernel
theorem dX9_least_38 : decode cX9_least 38 = .ok (.if_icmp .eq 12, 3) := by decide +kernel
theorem dX9_least_41 : decode cX9_least 41 = .ok (.aload_n 0, 1) := by decide +kernel
theorem dX9_least_42 : decode cX9_least 42 = .ok (.iload_n 1, 1) := by decide +kernel
theorem dX9_least_43 : decode cX9_least 43 = .ok (.iload_n 2, 1) := by decide +kernel
theorem dX9_least_44 : decode cX9_least 44 = .ok (.invokevirtual 151, 3) := by decide +kernel
theorem dX9_least_47 : decode cX9_least 47 = .ok (.ifCond .ne 7, 3) := by decide +kernel
theorem dX9_least_50 : decode cX9_least 50 = .ok (.ldc2_w 164, 3) := by decide +kernel
theorem dX9_least_53 : decode cX9_least 53 = .ok (.lreturn, 1) := by decide +kernel
theorem dX9_least_54 : decode cX9_least 54 = .ok (.aload_n 0, 1) := by decide +kernel
theorem dX9_least_55 : decode cX9_least 55 = .ok (.iload_n 1, 1) := by decide +kernel
theorem dX9_least_56 : decode cX9_least 56 = .ok (.iload_n 2, 1) := by decide +kernel
theorem dX9_least_57 : decode cX9_least 57 = .ok (.invokevirtual 154, 3) := by decide +kernel
theorem dX9_least_60 : decode cX9_least 60 = .ok (.aload_n 0, 1) := by decide +kernel
theorem dX9_least_61 : decode cX9_least 61 = .ok (.getfield 121, 3) := by decide +kernel
theorem dX9_least_64 : decode cX9_least 64 = .ok (.aload_n 0, 1) := by decide +kernel
theorem dX9_least_65 : decode cX9_least 65 = .ok (.getfield 125, 3) := by decide +kernel
theorem dX9_least_68 : decode cX9_least 68 = .ok (.invokestatic 166, 3) := by decide +kernel
theorem dX9_least_71 : decode cX9_least 71 = .ok (.lstore 4, 2) := by decide +kernel
theorem dX9_least_73 : decode cX9_least 73 = .ok (.aload_n 0, 1) := by decide +kernel
theorem dX9_least_74 : decode cX9_least 74 = .ok (.getfield 131, 3) := by decide +kernel
theorem dX9_least_77 : decode cX9_least 77 = .ok (.aload_n 0, 1) := by decide +kernel
theorem dX9_least_78 : decode cX9_least 78 = .ok (.getfield 134, 3) := by decide +kernel
theorem dX9_least_81 : decode cX9_least 81 = .ok (.invokestatic 166, 3) := by decide +kernel
theorem dX9_least_84 : decode cX9_least 84 = .ok (.lstore 6, 2) := by decide +kernel
theorem dX9_least_86 : decode cX9_least 86 = .ok (.iload_n 3, 1) := by decide +kernel
theorem dX9_least_87 : decode cX9_least 87 = .ok (.ifCond .ne 13, 3) := by decide +kernel
theorem dX9_least_90 : decode cX9_least 90 = .ok (.aload_n 0, 1) := by decide +kernel
theorem dX9_least_91 : decode cX9_least 91 = .ok (.getfield 121, 3) := by decide +kernel
theorem dX9_least_94 : decode cX9_least 94 = .ok (.lload 4, 2) := by decide +kernel
theorem dX9_least_96 : decode cX9_least 96 = .ok (.ldiv, 1) := by decide +kernel
theorem dX9_least_97 : decode cX9_least 97 = .ok (.goto 53, 3) := by decide +kernel
theorem dX9_least_100 : decode cX9_least 100 = .ok (.iload_n 3, 1) := by decide +kernel
theorem dX9_least_101 : decode cX9_least 101 = .ok (.iconst 1, 1) := by decide +kernel
theorem dX9_least_102 : decode cX9_least 102 = .ok (.if_icmp .ne 13, 3) := by decide +kernel
theorem dX9_least_105 : decode cX9_least 105 = .ok (.aload_n 0, 1) := by decide +kernel
theorem dX9_least_106 : decode cX9_least 106 = .ok (.getfield 125, 3) := by decide +kernel
theorem dX9_least_109 : decode cX9_least 109 = .ok (.lload 4, 2) := by decide +kernel
theorem dX9_least_111 : decode cX9_least 111 = .ok (.ldiv, 1) := by decide +kernel
theorem dX9_least_112 : decode cX9_least 112 = .ok (.goto 38, 3) := by decide +kernel
theorem dX9_least_115 : decode cX9_least 115 = .ok (.iload_n 3, 1) := by decide +kernel
theorem dX9_least_116 : decode cX9_least 116 = .ok (.iconst 2, 1) := by decide +kernel
theorem dX9_least_117 : decode cX9_least 117 = .ok (.if_icmp .ne 11, 3) := by decide +kernel
theorem dX9_least_120 : decode cX9_least 120 = .ok (.aload_n 0, 1) := by decide +kernel
theorem dX9_least_121 : decode cX9_least 121 = .ok (.getfield 128, 3) := by decide +kernel
theorem dX9_least_124 : decode cX9_least 124 = .ok (.i2l, 1) := by decide +kernel
theorem dX9_least_125 : decode cX9_least 125 = .ok (.goto 25, 3) := by decide +kernel
theorem dX9_least_128 : decode cX9_least 128 = .ok (.iload_n 3, 1) := by decide +kernel
theorem dX9_least_129 : decode cX9_least 129 = .ok (.iconst 3, 1) := by decide +kernel
theorem dX9_least_130 : decode cX9_least 130 = .ok (.if_icmp .ne 13, 3) := by decide +kernel
theorem dX9_least_133 : decode cX9_least 133 = .ok (.aload_n 0, 1) := by decide +kernel
theorem dX9_least_134 : decode cX9_least 134 = .ok (.getfield 131, 3) := by decide +kernel
theorem dX9_least_137 : decode cX9_least 137 = .ok (.lload 6, 2) := by decide +kernel
theorem dX9_least_139 : decode cX9_least 139 = .ok (.ldiv, 1) := by decide +kernel
theorem dX9_least_140 : decode cX9_least 140 = .ok (.goto 10, 3) := by decide +kernel
theorem dX9_least_143 : decode cX9_least 143 = .ok (.aload_n 0, 1) := by decide +kernel
theorem dX9_least_144 : decode cX9_least 144 = .ok (.getfield 134, 3) := by decide +kernel
theorem dX9_least_147 : decode cX9_least 147 = .ok (.lload 6, 2) := by decide +kernel
theorem dX9_least_149 : decode cX9_least 149 = .ok (.ldiv, 1) := by decide +kernel
theorem dX9_least_150 : decode cX9_least 150 = .ok (.lreturn, 1) := by decide +kernel
theorem dX9_isClear_0 : decode cX9_isClear 0 = .ok (.aload_n 0, 1) := by decide +kernel
theorem dX9_isClear_1 : decode cX9_isClear 1 = .ok (.iload_n 1, 1) := by decide +kernel
theorem dX9_isClear_2 : decode cX9_isClear 2 = .ok (.iload 4, 2) := by decide +kernel
theorem dX9_isClear_4 : decode cX9_isClear 4 = .ok (.iload_n 3, 1) := by decide +kernel
theorem dX9_isClear_5 : decode cX9_isClear 5 = .ok (.invokevirtual 94, 3) := by decide +kernel
theorem dX9_isClear_8 : decode cX9_isClear 8 = .ok (.istore 6, 2) := by decide +kernel
theorem dX9_isClear_10 : decode cX9_isClear 10 = .ok (.iload 6, 2) := by decide +kernel
theorem dX9_isClear_12 : decode cX9_isClear 12 = .ok (.istore 7, 2) := by decide +kernel
theorem dX9_isClear_14 : decode cX9_isClear 14 = .ok (.aload_n 0, 1) := by decide +kernel
theorem dX9_isClear_15 : decode cX9_isClear 15 = .ok (.iload_n 2, 1) := by decide +kernel
theorem dX9_isClear_16 : decode cX9_isClear 16 = .ok (.iload 4, 2) := by decide +kernel
theorem dX9_isClear_18 : decode cX9_isClear 18 = .ok (.iload_n 3, 1) := by decide +kernel
theorem dX9_isClear_19 : decode cX9_isClear 19 = .ok (.invokevirtual 94, 3) := by decide +kernel
theorem dX9_isClear_22 : decode cX9_isClear 22 = .ok (.istore 8, 2) := by decide +kernel
theorem dX9_isClear_24 : decode cX9_isClear 24 = .ok (.iload 8, 2) := by decide +kernel
theorem dX9_isClear_26 : decode cX9_isClear 26 = .ok (.istore 9, 2) := by decide +kernel
theorem dX9_isClear_28 : decode cX9_isClear 28 = .ok (.iload 4, 2) := by decide +kernel
theorem dX9_isClear_30 : decode cX9_isClear 30 = .ok (.iconst 1, 1) := by decide +kernel
theorem dX9_isClear_31 : decode cX9_isClear 31 = .ok (.iadd, 1) := by decide +kernel
theorem dX9_isClear_32 : decode cX9_isClear 32 = .ok (.istore 10, 2) := by decide +kernel
theorem dX9_isClear_34 : decode cX9_isClear 34 = .ok (.iload 10, 2) := by decide +kernel
theorem dX9_isClear_36 : decode cX9_isClear 36 = .ok (.iload 5, 2) := by decide +kernel
theorem dX9_isClear_38 : decode cX9_isClear 38 = .ok (.if_icmp .gt 93, 3) := by decide +kernel
theorem dX9_isClear_41 : decode cX9_isClear 41 = .ok (.aload_n 0, 1) := by decide +kernel
theorem dX9_isClear_42 : decode cX9_isClear 42 = .ok (.iload_n 1, 1) := by decide +kernel
theorem dX9_isClear_43 : decode cX9_isClear 43 = .ok (.iload 10, 2) := by decide +kernel
theorem dX9_isClear_45 : decode cX9_isClear 45 = .ok (.iload_n 3, 1) := by decide +kernel
theorem dX9_isClear_46 : decode cX9_isClear 46 = .ok (.invokevirtual 94, 3) := by decide +kernel
theorem dX9_isClear_49 : decode cX9_isClear 49 = .ok (.istore 11, 2) := by decide +kernel
theorem dX9_isClear_51 : decode cX9_isClear 51 = .ok (.aload_n 0, 1) := by decide +kernel
theorem dX9_isClear_52 : decode cX9_isClear 52 = .ok (.iload_n 2, 1) := by decide +kernel
theorem dX9_isClear_53 : decode cX9_isClear 53 = .ok (.iload 10, 2) := by decide +kernel
theorem dX9_isClear_55 : decode cX9_isClear 55 = .ok (.iload_n 3, 1) := by decide +kernel
theorem dX9_isClear_56 : decode cX9_isClear 56 = .ok (.invokevirtual 94, 3) := by decide +kernel
theorem dX9_isClear_59 : decode cX9_isClear 59 = .ok (.istore 12, 2) := by decide +kernel
theorem dX9_isClear_61 : decode cX9_isClear 61 = .ok (.iload 11, 2) := by decide +kernel
theorem dX9_isClear_63 : decode cX9_isClear 63 = .ok (.iload 6, 2) := by decide +kernel
theorem dX9_isClear_65 : decode cX9_isClear 65 = .ok (.if_icmp .ge 8, 3) := by decide +kernel
theorem dX9_isClear_68 : decode cX9_isClear 68 = .ok (.iload 11, 2) := by decide +kernel
theorem dX9_isClear_70 : decode cX9_isClear 70 = .ok (.goto 5, 3) := by decide +kernel
theorem dX9_isClear_73 : decode cX9_isClear 73 = .ok (.iload 6, 2) := by decide +kernel
theorem dX9_isClear_75 : decode cX9_isClear 75 = .ok (.istore 6, 2) := by decide +kernel
theorem dX9_isClear_77 : decode cX9_isClear 77 = .ok (.iload 11, 2) := by decide +kernel
theorem dX9_isClear_79 : decode cX9_isClear 79 = .ok (.iload 7, 2) := by decide +kernel
theorem dX9_isClear_81 : decode cX9_isClear 81 = .ok (.if_icmp .le 8, 3) := by decide +kernel
theorem dX9_isClear_84 : decode cX9_isClear 84 = .ok (.iload 11, 2) := by decide +kernel
theorem dX9_isClear_86 : decode cX9_isClear 86 = .ok (.goto 5, 3) := by decide +kernel
theorem dX9_isClear_89 : decode cX9_isClear 89 = .ok (.iload 7, 2) := by decide +kernel
theorem dX9_isClear_91 : decode cX9_isClear 91 = .ok (.istore 7, 2) := by decide +kernel
theorem dX9_isClear_93 : decode cX9_isClear 93 = .ok (.iload 12, 2) := by decide +kernel
theorem dX9_isClear_95 : decode cX9_isClear 95 = .ok (.iload 8, 2) := by decide +kernel
theorem dX9_isClear_97 : decode cX9_isClear 97 = .ok (.if_icmp .ge 8, 3) := by decide +kernel
theorem dX9_isClear_100 : decode cX9_isClear 100 = .ok (.iload 12, 2) := by decide +kernel
theorem dX9_isClear_102 : decode cX9_isClear 102 = .ok (.goto 5, 3) := by decide +kernel
theorem dX9_isClear_105 : decode cX9_isClear 105 = .ok (.iload 8, 2) := by decide +kernel
theorem dX9_isClear_107 : decode cX9_isClear 107 = .ok (.istore 8, 2) := by decide +kernel
theorem dX9_isClear_109 : decode cX9_isClear 109 = .ok (.iload 12, 2) := by decide +kernel
theorem dX9_isClear_111 : decode cX9_isClear 111 = .ok (.iload 9, 2) := by decide +kernel
theorem dX9_isClear_113 : decode cX9_isClear 113 = .ok (.if_icmp .le 8, 3) := by decide +kernel
theorem dX9_isClear_116 : decode cX9_isClear 116 = .ok (.iload 12, 2) := by decide +kernel
theorem dX9_isClear_118 : decode cX9_isClear 118 = .ok (.goto 5, 3) := by decide +kernel
theorem dX9_isClear_121 : decode cX9_isClear 121 = .ok (.iload 9, 2) := by decide +kernel
theorem dX9_isClear_123 : decode cX9_isClear 123 = .ok (.istore 9, 2) := by decide +kernel
theorem dX9_isClear_125 : decode cX9_isClear 125 = .ok (.iinc 10 1, 3) := by decide +kernel
theorem dX9_isClear_128 : decode cX9_isClear 128 = .ok (.goto (-94), 3) := by decide +kernel
theorem dX9_isClear_131 : decode cX9_isClear 131 = .ok (.iload 6, 2) := by decide +kernel
theorem dX9_isClear_133 : decode cX9_isClear 133 = .ok (.iload 9, 2) := by decide +kernel
theorem dX9_isClear_135 : decode cX9_isClear 135 = .ok (.isub, 1) := by decide +kernel
theorem dX9_isClear_136 : decode cX9_isClear 136 = .ok (.aload_n 0, 1) := by decide +kernel
theorem dX9_isClear_137 : decode cX9_isClear 137 = .ok (.getfield 26, 3) := by decide +kernel
theorem dX9_isClear_140 : decode cX9_isClear 140 = .ok (.if_icmp .ge 15, 3) := by decide +kernel
theorem dX9_isClear_143 : decode cX9_isClear 143 = .ok (.iload 8, 2) := by decide +kernel
theorem dX9_isClear_145 : decode cX9_isClear 145 = .ok (.iload 7, 2) := by decide +kernel
theorem dX9_isClear_147 : decode cX9_isClear 147 = .ok (.isub, 1) := by decide +kernel
theorem dX9_isClear_148 : decode cX9_isClear 148 = .ok (.aload_n 0, 1) := by decide +kernel
theorem dX9_isClear_149 : decode cX9_isClear 149 = .ok (.getfield 26, 3) := by decide +kernel
theorem dX9_isClear_152 : decode cX9_isClear 152 = .ok (.if_icmp .lt 7, 3) := by decide +kernel
theorem dX9_isClear_155 : decode cX9_isClear 155 = .ok (.iconst 1, 1) := by decide +kernel
theorem dX9_isClear_156 : decode cX9_isClear 156 = .ok (.goto 4, 3) := by decide +kernel
theorem dX9_isClear_159 : decode cX9_isClear 159 = .ok (.iconst 0, 1) := by decide +kernel
theorem dX9_isClear_160 : decode cX9_isClear 160 = .ok (.ireturn, 1) := by decide +kernel
theorem dX9_isClearSome_0 : decode cX9_isClearSome 0 = .ok (.aload_n 0, 1) := by decide +kernel
theorem dX9_isClearSome_1 : decode cX9_isClearSome 1 = .ok (.iload_n 1, 1) := by decide +kernel
theorem dX9_isClearSome_2 : decode cX9_isClearSome 2 = .ok (.iload_n 2, 1) := by decide +kernel
theorem dX9_isClearSome_3 : decode cX9_isClearSome 3 = .ok (.iconst 0, 1) := by decide +kernel
theorem dX9_isClearSome_4 : decode cX9_isClearSome 4 = .ok (.iload_n 3, 1) := by decide +kernel
theorem dX9_isClearSome_5 : decode cX9_isClearSome 5 = .ok (.iload 4, 2) := by decide +kernel
theorem dX9_isClearSome_7 : decode cX9_isClearSome 7 = .ok (.invokevirtual 170, 3) := by decide +kernel
theorem dX9_isClearSome_10 : decode cX9_isClearSome 10 = .ok (.ifCond .ne 29, 3) := by decide +kernel
theorem dX9_isClearSome_13 : decode cX9_isClearSome 13 = .ok (.aload_n 0, 1) := by decide +kernel
theorem dX9_isClearSome_14 : decode cX9_isClearSome 14 = .ok (.iload_n 1, 1) := by decide +kernel
theorem dX9_isClearSome_15 : decode cX9_isClearSome 15 = .ok (.iload_n 2, 1) := by decide +kernel
theorem dX9_isClearSome_16 : decode cX9_isClearSome 16 = .ok (.iconst 1, 1) := by decide +kernel
theorem dX9_isClearSome_17 : decode cX9_isClearSome 17 = .ok (.iload_n 3, 1) := by decide +kernel
theorem dX9_isClearSome_18 : decode cX9_isClearSome 18 = .ok (.iload 4, 2) := by decide +kernel
theorem dX9_isClearSome_20 : decode cX9_isClearSome 20 = .ok (.invokevirtual 170, 3) := by decide +kernel
theorem dX9_isClearSome_23 : decode cX9_isClearSome 23 = .ok (.ifCond .ne 16, 3) := by decide +kernel
theorem dX9_isClearSome_26 : decode cX9_isClearSome 26 = .ok (.aload_n 0, 1) := by decide +kernel
theorem dX9_isClearSome_27 : decode cX9_isClearSome 27 = .ok (.iload_n 1, 1) := by decide +kernel
theorem dX9_isClearSome_28 : decode cX9_isClearSome 28 = .ok (.iload_n 2, 1) := by decide +kernel
theorem dX9_isClearSome_29 : decode cX9_isClearSome 29 = .ok (.iconst 2, 1) := by decide +kernel
theorem dX9_isClearSome_30 : decode cX9_isClearSome 30 = .ok (.iload_n 3, 1) := by decide +kernel
theorem dX9_isClearSome_31 : decode cX9_isClearSome 31 = .ok (.iload 4, 2) := by decide +kernel
theorem dX9_isClearSome_33 : decode cX9_isClearSome 33 = .ok (.invokevirtual 170, 3) := by decide +kernel
theorem dX9_isClearSome_36 : decode cX9_isClearSome 36 = .ok (.ifCond .eq 7, 3) := by decide +kernel
theorem dX9_isClearSome_39 : decode cX9_isClearSome 39 = .ok (.iconst 1, 1) := by decide +kernel
theorem dX9_isClearSome_40 : decode cX9_isClearSome 40 = .ok (.goto 4, 3) := by decide +kernel
theorem dX9_isClearSome_43 : decode cX9_isClearSome 43 = .ok (.iconst 0, 1) := by decide +kernel
theorem dX9_isClearSome_44 : decode cX9_isClearSome 44 = .ok (.ireturn, 1) := by decide +kernel
theorem dX9_sieve_0 : decode cX9_sieve 0 = .ok (.aload_n 0, 1) := by decide +kernel
theorem dX9_sieve_1 : decode cX9_sieve 1 = .ok (.iload_n 1, 1) := by decide +kernel
theorem dX9_sieve_2 : decode cX9_sieve 2 = .ok (.invokevirtual 80, 3) := by decide +kernel
theorem dX9_sieve_5 : decode cX9_sieve 5 = .ok (.ifCond .eq 11, 3) := by decide +kernel
theorem dX9_sieve_8 : decode cX9_sieve 8 = .ok (.aload_n 0, 1) := by decide +kernel
theorem dX9_sieve_9 : decode cX9_sieve 9 = .ok (.iload_n 2, 1) := by decide +kernel
theorem dX9_sieve_10 : decode cX9_sieve 10 = .ok (.invokevirtual 80, 3) := by decide +kernel
theorem dX9_sieve_13 : decode cX9_sieve 13 = .ok (.ifCond .ne 6, 3) := by decide +kernel
theorem dX9_sieve_16 : decode cX9_sieve 16 = .ok (.ldc 84, 2) := by decide +kernel
theorem dX9_sieve_18 : decode cX9_sieve 18 = .ok (.ireturn, 1) := by decide +kernel
theorem dX9_sieve_19 : decode cX9_sieve 19 = .ok (.iload_n 1, 1) := by decide +kernel
theorem dX9_sieve_20 : decode cX9_sieve 20 = .ok (.iload_n 2, 1) := by decide +kernel
theorem dX9_sieve_21 : decode cX9_sieve 21 = .ok (.if_icmp .ne 6, 3) := by decide +kernel
theorem dX9_sieve_24 : decode cX9_sieve 24 = .ok (.ldc 85, 2) := by decide +kernel
theorem dX9_sieve_26 : decode cX9_sieve 26 = .ok (.ireturn, 1) := by decide +kernel
theorem dX9_sieve_27 : decode cX9_sieve 27 = .ok (.aload_n 0, 1) := by decide +kernel
theorem dX9_sieve_28 : decode cX9_sieve 28 = .ok (.getfield 19, 3) := by decide +kernel
theorem dX9_sieve_31 : decode cX9_sieve 31 = .ok (.iload_n 1, 1) := by decide +kernel
theorem dX9_sieve_32 : decode cX9_sieve 32 = .ok (.baload, 1) := by decide +kernel
theorem dX9_sieve_33 : decode cX9_sieve 33 = .ok (.ifCond .ne 21, 3) := by decide +kernel
theorem dX9_sieve_36 : decode cX9_sieve 36 = .ok (.aload_n 0, 1) := by decide +kernel
theorem dX9_sieve_37 : decode cX9_sieve 37 = .ok (.getfield 19, 3) := by decide +kernel
theorem dX9_sieve_40 : decode cX9_sieve 40 = .ok (.iload_n 2, 1) := by decide +kernel
theorem dX9_sieve_41 : decode cX9_sieve 41 = .ok (.baload, 1) := by decide +kernel
theorem dX9_sieve_42 : decode cX9_sieve 42 = .ok (.ifCond .ne 12, 3) := by decide +kernel
theorem dX9_sieve_45 : decode cX9_sieve 45 = .ok (.aload_n 0, 1) := by decide +kernel
theorem dX9_sieve_46 : decode cX9_sieve 46 = .ok (.iload_n 1, 1) := by decide +kernel
theorem dX9_sieve_47 : decode cX9_sieve 47 = .ok (.iload_n 2, 1) := by decide +kernel
theorem dX9_sieve_48 : decode cX9_sieve 48 = .ok (.invokevirtual 151, 3) := by decide +kernel
theorem dX9_sieve_51 : decode cX9_sieve 51 = .ok (.ifCond .ne 5, 3) := by decide +kernel
theorem dX9_sieve_54 : decode cX9_sieve 54 = .ok (.iconst 0, 1) := by decide +kernel
theorem dX9_sieve_55 : decode cX9_sieve 55 = .ok (.ireturn, 1) := by decide +kernel
theorem dX9_sieve_56 : decode cX9_sieve 56 = .ok (.aload_n 0, 1) := by decide +kernel
theorem dX9_sieve_57 : decode cX9_sieve 57 = .ok (.iload_n 1, 1) := by decide +kernel
theorem dX9_sieve_58 : decode cX9_sieve 58 = .ok (.iload_n 2, 1) := by decide +kernel
theorem dX9_sieve_59 : decode cX9_sieve 59 = .ok (.invokevirtual 140, 3) := by decide +kernel
theorem dX9_sieve_62 : decode cX9_sieve 62 = .ok (.istore_n 3, 1) := by decide +kernel
theorem dX9_sieve_63 : decode cX9_sieve 63 = .ok (.aload_n 0, 1) := by decide +kernel
theorem dX9_sieve_64 : decode cX9_sieve 64 = .ok (.iload_n 1, 1) := by decide +kernel
theorem dX9_sieve_65 : decode cX9_sieve 65 = .ok (.iload_n 2, 1) := by decide +kernel
theorem dX9_sieve_66 : decode cX9_sieve 66 = .ok (.invokevirtual 137, 3) := by decide +kernel
theorem dX9_sieve_69 : decode cX9_sieve 69 = .ok (.istore 4, 2) := by decide +kernel
theorem dX9_sieve_71 : decode cX9_sieve 71 = .ok (.aload_n 0, 1) := by decide +kernel
theorem dX9_sieve_72 : decode cX9_sieve 72 = .ok (.iload_n 1, 1) := by decide +kernel
theorem dX9_sieve_73 : decode cX9_sieve 73 = .ok (.iload_n 2, 1) := by decide +kernel
theorem dX9_sieve_74 : decode cX9_sieve 74 = .ok (.iload_n 3, 1) := by decide +kernel
theorem dX9_sieve_75 : decode cX9_sieve 75 = .ok (.iload 4, 2) := by decide +kernel
theorem dX9_sieve_77 : decode cX9_sieve 77 = .ok (.invokevirtual 174, 3) := by decide +kernel
theorem dX9_sieve_80 : decode cX9_sieve 80 = .ok (.ifCond .eq 5, 3) := by decide +kernel
theorem dX9_sieve_83 : decode cX9_sieve 83 = .ok (.iconst 1, 1) := by decide +kernel
theorem dX9_sieve_84 : decode cX9_sieve 84 = .ok (.ireturn, 1) := by decide +kernel
theorem dX9_sieve_85 : decode cX9_sieve 85 = .ok (.iload_n 3, 1) := by decide +kernel
theorem dX9_sieve_86 : decode cX9_sieve 86 = .ok (.iload 4, 2) := by decide +kernel
theorem dX9_sieve_88 : decode cX9_sieve 88 = .ok (.if_icmp .ge 7, 3) := by decide +kernel
theorem dX9_sieve_91 : decode cX9_sieve 91 = .ok (.iconst 1, 1) := by decide +kernel
theorem dX9_sieve_92 : decode cX9_sieve 92 = .ok (.goto 4, 3) := by decide +kernel
theorem dX9_sieve_95 : decode cX9_sieve 95 = .ok (.iconst 0, 1) := by decide +kernel
theorem dX9_sieve_96 : decode cX9_sieve 96 = .ok (.istore 5, 2) := by decide +kernel
theorem dX9_sieve_98 : decode cX9_sieve 98 = .ok (.iload_n 3, 1) := by decide +kernel
theorem dX9_sieve_99 : decode cX9_sieve 99 = .ok (.istore 6, 2) := by decide +kernel
theorem dX9_sieve_101 : decode cX9_sieve 101 = .ok (.iload 6, 2) := by decide +kernel
theorem dX9_sieve_103 : decode cX9_sieve 103 = .ok (.iload 4, 2) := by decide +kernel
theorem dX9_sieve_105 : decode cX9_sieve 105 = .ok (.if_icmp .ge 36, 3) := by decide +kernel
theorem dX9_sieve_108 : decode cX9_sieve 108 = .ok (.iload 5, 2) := by decide +kernel
theorem dX9_sieve_110 : decode cX9_sieve 110 = .ok (.ifCond .eq 22, 3) := by decide +kernel
theorem dX9_sieve_113 : decode cX9_sieve 113 = .ok (.aload_n 0, 1) := by decide +kernel
theorem dX9_sieve_114 : decode cX9_sieve 114 = .ok (.iload_n 1, 1) := by decide +kernel
theorem dX9_sieve_115 : decode cX9_sieve 115 = .ok (.iload_n 2, 1) := by decide +kernel
theorem dX9_sieve_116 : decode cX9_sieve 116 = .ok (.iload 6, 2) := by decide +kernel
theorem dX9_sieve_118 : decode cX9_sieve 118 = .ok (.iload 6, 2) := by decide +kernel
theorem dX9_sieve_120 : decode cX9_sieve 120 = .ok (.iconst 1, 1) := by decide +kernel
theorem dX9_sieve_121 : decode cX9_sieve 121 = .ok (.iadd, 1) := by decide +kernel
theorem dX9_sieve_122 : decode cX9_sieve 122 = .ok (.invokevirtual 174, 3) := by decide +kernel
theorem dX9_sieve_125 : decode cX9_sieve 125 = .ok (.ifCond .eq 7, 3) := by decide +kernel
theorem dX9_sieve_128 : decode cX9_sieve 128 = .ok (.iconst 1, 1) := by decide +kernel
theorem dX9_sieve_129 : decode cX9_sieve 129 = .ok (.goto 4, 3) := by decide +kernel
theorem dX9_sieve_132 : decode cX9_sieve 132 = .ok (.iconst 0, 1) := by decide +kernel
theorem dX9_sieve_133 : decode cX9_sieve 133 = .ok (.istore 5, 2) := by decide +kernel
theorem dX9_sieve_135 : decode cX9_sieve 135 = .ok (.iinc 6 1, 3) := by decide +kernel
theorem dX9_sieve_138 : decode cX9_sieve 138 = .ok (.goto (-37), 3) := by decide +kernel
theorem dX9_sieve_141 : decode cX9_sieve 141 = .ok (.iload 5, 2) := by decide +kernel
theorem dX9_sieve_143 : decode cX9_sieve 143 = .ok (.ifCond .eq 7, 3) := by decide +kernel
theorem dX9_sieve_146 : decode cX9_sieve 146 = .ok (.iconst 2, 1) := by decide +kernel
theorem dX9_sieve_147 : decode cX9_sieve 147 = .ok (.goto 4, 3) := by decide +kernel
theorem dX9_sieve_150 : decode cX9_sieve 150 = .ok (.iconst 3, 1) := by decide +kernel
theorem dX9_sieve_151 : decode cX9_sieve 151 = .ok (.ireturn, 1) := by decide +kernel
theorem dX9_meeting_0 : decode cX9_meeting 0 = .ok (.iload_n 2, 1) := by decide +kernel
theorem dX9_meeting_1 : decode cX9_meeting 1 = .ok (.i2l, 1) := by decide +kernel
theorem dX9_meeting_2 : decode cX9_meeting 2 = .ok (.lconst 0, 1) := by decide +kernel
theorem dX9_meeting_3 : decode cX9_meeting 3 = .ok (.lconst 1, 1) := by decide +kernel
theorem dX9_meeting_4 : decode cX9_meeting 4 = .ok (.invokestatic 55, 3) := by decide +kernel
theorem dX9_meeting_7 : decode cX9_meeting 7 = .ok (.ifCond .ne 6, 3) := by decide +kernel
theorem dX9_meeting_10 : decode cX9_meeting 10 = .ok (.ldc 70, 2) := by decide +kernel
theorem dX9_meeting_12 : decode cX9_meeting 12 = .ok (.ireturn, 1) := by decide +kernel
theorem dX9_meeting_13 : decode cX9_meeting 13 = .ok (.iconst 0, 1) := by decide +kernel
theorem dX9_meeting_14 : decode cX9_meeting 14 = .ok (.istore_n 3, 1) := by decide +kernel
theorem dX9_meeting_15 : decode cX9_meeting 15 = .ok (.iconst 0, 1) := by decide +kernel
theorem dX9_meeting_16 : decode cX9_meeting 16 = .ok (.istore 4, 2) := by decide +kernel
theorem dX9_meeting_18 : decode cX9_meeting 18 = .ok (.iload 4, 2) := by decide +kernel
theorem dX9_meeting_20 : decode cX9_meeting 20 = .ok (.aload_n 0, 1) := by decide +kernel
theorem dX9_meeting_21 : decode cX9_meeting 21 = .ok (.getfield 59, 3) := by decide +kernel
theorem dX9_meeting_24 : decode cX9_meeting 24 = .ok (.if_icmp .ge 61, 3) := by decide +kernel
theorem dX9_meeting_27 : decode cX9_meeting 27 = .ok (.iload 4, 2) := by decide +kernel
