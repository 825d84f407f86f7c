theorem dX9_isOf_92 : decode cX9_isOf 92 = .ok (.ireturn, 1) := by decide +kernel
theorem dX9_dotOf_0 : decode cX9_dotOf 0 = .ok (.iconst 0, 1) := by decide +kernel
theorem dX9_dotOf_1 : decode cX9_dotOf 1 = .ok (.istore_n 2, 1) := by decide +kernel
theorem dX9_dotOf_2 : decode cX9_dotOf 2 = .ok (.iconst 0, 1) := by decide +kernel
theorem dX9_dotOf_3 : decode cX9_dotOf 3 = .ok (.istore_n 3, 1) := by decide +kernel
theorem dX9_dotOf_4 : decode cX9_dotOf 4 = .ok (.iload_n 3, 1) := by decide +kernel
theorem dX9_dotOf_5 : decode cX9_dotOf 5 = .ok (.aload_n 0, 1) := by decide +kernel
theorem dX9_dotOf_6 : decode cX9_dotOf 6 = .ok (.getfield 59, 3) := by decide +kernel
theorem dX9_dotOf_9 : decode cX9_dotOf 9 = .ok (.if_icmp .ge 26, 3) := by decide +kernel
theorem dX9_dotOf_12 : decode cX9_dotOf 12 = .ok (.iload_n 2, 1) := by decide +kernel
theorem dX9_dotOf_13 : decode cX9_dotOf 13 = .ok (.aload_n 0, 1) := by decide +kernel
theorem dX9_dotOf_14 : decode cX9_dotOf 14 = .ok (.iload_n 1, 1) := by decide +kernel
theorem dX9_dotOf_15 : decode cX9_dotOf 15 = .ok (.iload_n 3, 1) := by decide +kernel
theorem dX9_dotOf_16 : decode cX9_dotOf 16 = .ok (.invokevirtual 195, 3) := by decide +kernel
theorem dX9_dotOf_19 : decode cX9_dotOf 19 = .ok (.ifCond .eq 7, 3) := by decide +kernel
theorem dX9_dotOf_22 : decode cX9_dotOf 22 = .ok (.iconst 1, 1) := by decide +kernel
theorem dX9_dotOf_23 : decode cX9_dotOf 23 = .ok (.goto 4, 3) := by decide +kernel
theorem dX9_dotOf_26 : decode cX9_dotOf 26 = .ok (.iconst 0, 1) := by decide +kernel
theorem dX9_dotOf_27 : decode cX9_dotOf 27 = .ok (.iadd, 1) := by decide +kernel
theorem dX9_dotOf_28 : decode cX9_dotOf 28 = .ok (.istore_n 2, 1) := by decide +kernel
theorem dX9_dotOf_29 : decode cX9_dotOf 29 = .ok (.iinc 3 1, 3) := by decide +kernel
theorem dX9_dotOf_32 : decode cX9_dotOf 32 = .ok (.goto (-28), 3) := by decide +kernel
theorem dX9_dotOf_35 : decode cX9_dotOf 35 = .ok (.iload_n 2, 1) := by decide +kernel
theorem dX9_dotOf_36 : decode cX9_dotOf 36 = .ok (.ireturn, 1) := by decide +kernel
theorem dX9_dotted_0 : decode cX9_dotted 0 = .ok (.iload_n 1, 1) := by decide +kernel
theorem dX9_dotted_1 : decode cX9_dotted 1 = .ok (.i2l, 1) := by decide +kernel
theorem dX9_dotted_2 : decode cX9_dotted 2 = .ok (.lconst 0, 1) := by decide +kernel
theorem dX9_dotted_3 : decode cX9_dotted 3 = .ok (.aload_n 0, 1) := by decide +kernel
theorem dX9_dotted_4 : decode cX9_dotted 4 = .ok (.getfield 109, 3) := by decide +kernel
theorem dX9_dotted_7 : decode cX9_dotted 7 = .ok (.iconst 1, 1) := by decide +kernel
theorem dX9_dotted_8 : decode cX9_dotted 8 = .ok (.isub, 1) := by decide +kernel
theorem dX9_dotted_9 : decode cX9_dotted 9 = .ok (.i2l, 1) := by decide +kernel
theorem dX9_dotted_10 : decode cX9_dotted 10 = .ok (.invokestatic 55, 3) := by decide +kernel
theorem dX9_dotted_13 : decode cX9_dotted 13 = .ok (.ifCond .ne 6, 3) := by decide +kernel
theorem dX9_dotted_16 : decode cX9_dotted 16 = .ok (.ldc 84, 2) := by decide +kernel
theorem dX9_dotted_18 : decode cX9_dotted 18 = .ok (.ireturn, 1) := by decide +kernel
theorem dX9_dotted_19 : decode cX9_dotted 19 = .ok (.iload_n 2, 1) := by decide +kernel
theorem dX9_dotted_20 : decode cX9_dotted 20 = .ok (.i2l, 1) := by decide +kernel
theorem dX9_dotted_21 : decode cX9_dotted 21 = .ok (.lconst 0, 1) := by decide +kernel
theorem dX9_dotted_22 : decode cX9_dotted 22 = .ok (.lconst 1, 1) := by decide +kernel
theorem dX9_dotted_23 : decode cX9_dotted 23 = .ok (.invokestatic 55, 3) := by decide +kernel
theorem dX9_dotted_26 : decode cX9_dotted 26 = .ok (.ifCond .ne 6, 3) := by decide +kernel
theorem dX9_dotted_29 : decode cX9_dotted 29 = .ok (.ldc 70, 2) := by decide +kernel
theorem dX9_dotted_31 : decode cX9_dotted 31 = .ok (.ireturn, 1) := by decide +kernel
theorem dX9_dotted_32 : decode cX9_dotted 32 = .ok (.iload_n 2, 1) := by decide +kernel
theorem dX9_dotted_33 : decode cX9_dotted 33 = .ok (.ifCond .ne 9, 3) := by decide +kernel
theorem dX9_dotted_36 : decode cX9_dotted 36 = .ok (.aload_n 0, 1) := by decide +kernel
theorem dX9_dotted_37 : decode cX9_dotted 37 = .ok (.iload_n 1, 1) := by decide +kernel
theorem dX9_dotted_38 : decode cX9_dotted 38 = .ok (.invokevirtual 112, 3) := by decide +kernel
theorem dX9_dotted_41 : decode cX9_dotted 41 = .ok (.ireturn, 1) := by decide +kernel
theorem dX9_dotted_42 : decode cX9_dotted 42 = .ok (.iconst (-1), 1) := by decide +kernel
theorem dX9_dotted_43 : decode cX9_dotted 43 = .ok (.istore_n 3, 1) := by decide +kernel
theorem dX9_dotted_44 : decode cX9_dotted 44 = .ok (.aload_n 0, 1) := by decide +kernel
theorem dX9_dotted_45 : decode cX9_dotted 45 = .ok (.getfield 59, 3) := by decide +kernel
theorem dX9_dotted_48 : decode cX9_dotted 48 = .ok (.iconst 1, 1) := by decide +kernel
theorem dX9_dotted_49 : decode cX9_dotted 49 = .ok (.isub, 1) := by decide +kernel
theorem dX9_dotted_50 : decode cX9_dotted 50 = .ok (.istore 4, 2) := by decide +kernel
theorem dX9_dotted_52 : decode cX9_dotted 52 = .ok (.iload 4, 2) := by decide +kernel
theorem dX9_dotted_54 : decode cX9_dotted 54 = .ok (.ifCond .lt 26, 3) := by decide +kernel
theorem dX9_dotted_57 : decode cX9_dotted 57 = .ok (.aload_n 0, 1) := by decide +kernel
theorem dX9_dotted_58 : decode cX9_dotted 58 = .ok (.iload_n 1, 1) := by decide +kernel
theorem dX9_dotted_59 : decode cX9_dotted 59 = .ok (.iload 4, 2) := by decide +kernel
theorem dX9_dotted_61 : decode cX9_dotted 61 = .ok (.invokevirtual 195, 3) := by decide +kernel
theorem dX9_dotted_64 : decode cX9_dotted 64 = .ok (.ifCond .eq 8, 3) := by decide +kernel
theorem dX9_dotted_67 : decode cX9_dotted 67 = .ok (.iload 4, 2) := by decide +kernel
theorem dX9_dotted_69 : decode cX9_dotted 69 = .ok (.goto 4, 3) := by decide +kernel
theorem dX9_dotted_72 : decode cX9_dotted 72 = .ok (.iload_n 3, 1) := by decide +kernel
theorem dX9_dotted_73 : decode cX9_dotted 73 = .ok (.istore_n 3, 1) := by decide +kernel
theorem dX9_dotted_74 : decode cX9_dotted 74 = .ok (.iinc 4 (-1), 3) := by decide +kernel
theorem dX9_dotted_77 : decode cX9_dotted 77 = .ok (.goto (-25), 3) := by decide +kernel
theorem dX9_dotted_80 : decode cX9_dotted 80 = .ok (.iload_n 3, 1) := by decide +kernel
theorem dX9_dotted_81 : decode cX9_dotted 81 = .ok (.ireturn, 1) := by decide +kernel
theorem dX9_notice_0 : decode cX9_notice 0 = .ok (.aload_n 0, 1) := by decide +kernel
theorem dX9_notice_1 : decode cX9_notice 1 = .ok (.iload_n 1, 1) := by decide +kernel
theorem dX9_notice_2 : decode cX9_notice 2 = .ok (.invokevirtual 80, 3) := by decide +kernel
theorem dX9_notice_5 : decode cX9_notice 5 = .ok (.ifCond .eq 11, 3) := by decide +kernel
theorem dX9_notice_8 : decode cX9_notice 8 = .ok (.aload_n 0, 1) := by decide +kernel
theorem dX9_notice_9 : decode cX9_notice 9 = .ok (.iload_n 2, 1) := by decide +kernel
theorem dX9_notice_10 : decode cX9_notice 10 = .ok (.invokevirtual 80, 3) := by decide +kernel
theorem dX9_notice_13 : decode cX9_notice 13 = .ok (.ifCond .ne 6, 3) := by decide +kernel
theorem dX9_notice_16 : decode cX9_notice 16 = .ok (.ldc 84, 2) := by decide +kernel
theorem dX9_notice_18 : decode cX9_notice 18 = .ok (.ireturn, 1) := by decide +kernel
theorem dX9_notice_19 : decode cX9_notice 19 = .ok (.aload_n 0, 1) := by decide +kernel
theorem dX9_notice_20 : decode cX9_notice 20 = .ok (.iload_n 1, 1) := by decide +kernel
theorem dX9_notice_21 : decode cX9_notice 21 = .ok (.iload_n 2, 1) := by decide +kernel
theorem dX9_notice_22 : decode cX9_notice 22 = .ok (.invokevirtual 106, 3) := by decide +kernel
theorem dX9_notice_25 : decode cX9_notice 25 = .ok (.ifCond .ne 6, 3) := by decide +kernel
theorem dX9_notice_28 : decode cX9_notice 28 = .ok (.ldc 85, 2) := by decide +kernel
theorem dX9_notice_30 : decode cX9_notice 30 = .ok (.ireturn, 1) := by decide +kernel
theorem dX9_notice_31 : decode cX9_notice 31 = .ok (.aload_n 0, 1) := by decide +kernel
theorem dX9_notice_32 : decode cX9_notice 32 = .ok (.getfield 115, 3) := by decide +kernel
theorem dX9_notice_35 : decode cX9_notice 35 = .ok (.bipush 40, 2) := by decide +kernel
theorem dX9_notice_37 : decode cX9_notice 37 = .ok (.if_icmp .ne 6, 3) := by decide +kernel
theorem dX9_notice_40 : decode cX9_notice 40 = .ok (.ldc 71, 2) := by decide +kernel
theorem dX9_notice_42 : decode cX9_notice 42 = .ok (.ireturn, 1) := by decide +kernel
theorem dX9_notice_43 : decode cX9_notice 43 = .ok (.iload_n 1, 1) := by decide +kernel
theorem dX9_notice_44 : decode cX9_notice 44 = .ok (.iload_n 2, 1) := by decide +kernel
theorem dX9_notice_45 : decode cX9_notice 45 = .ok (.if_icmp .ge 7, 3) := by decide +kernel
theorem dX9_notice_48 : decode cX9_notice 48 = .ok (.iload_n 1, 1) := by decide +kernel
theorem dX9_notice_49 : decode cX9_notice 49 = .ok (.goto 4, 3) := by decide +kernel
theorem dX9_notice_52 : decode cX9_notice 52 = .ok (.iload_n 2, 1) := by decide +kernel
theorem dX9_notice_53 : decode cX9_notice 53 = .ok (.istore_n 3, 1) := by decide +kernel
theorem dX9_notice_54 : decode cX9_notice 54 = .ok (.iload_n 1, 1) := by decide +kernel
theorem dX9_notice_55 : decode cX9_notice 55 = .ok (.iload_n 2, 1) := by decide +kernel
theorem dX9_notice_56 : decode cX9_notice 56 = .ok (.if_icmp .ge 7, 3) := by decide +kernel
theorem dX9_notice_59 : decode cX9_notice 59 = .ok (.iload_n 2, 1) := by decide +kernel
theorem dX9_notice_60 : decode cX9_notice 60 = .ok (.goto 4, 3) := by decide +kernel
theorem dX9_notice_63 : decode cX9_notice 63 = .ok (.iload_n 1, 1) := by decide +kernel
theorem dX9_notice_64 : decode cX9_notice 64 = .ok (.istore 4, 2) := by decide +kernel
theorem dX9_notice_66 : decode cX9_notice 66 = .ok (.iconst (-1), 1) := by decide +kernel
theorem dX9_notice_67 : decode cX9_notice 67 = .ok (.istore 5, 2) := by decide +kernel
theorem dX9_notice_69 : decode cX9_notice 69 = .ok (.iconst 0, 1) := by decide +kernel
theorem dX9_notice_70 : decode cX9_notice 70 = .ok (.istore 6, 2) := by decide +kernel
theorem dX9_notice_72 : decode cX9_notice 72 = .ok (.iload 6, 2) := by decide +kernel
theorem dX9_notice_74 : decode cX9_notice 74 = .ok (.aload_n 0, 1) := by decide +kernel
theorem dX9_notice_75 : decode cX9_notice 75 = .ok (.getfield 115, 3) := by decide +kernel
theorem dX9_notice_78 : decode cX9_notice 78 = .ok (.if_icmp .ge 49, 3) := by decide +kernel
theorem dX9_notice_81 : decode cX9_notice 81 = .ok (.aload_n 0, 1) := by decide +kernel
theorem dX9_notice_82 : decode cX9_notice 82 = .ok (.getfield 39, 3) := by decide +kernel
theorem dX9_notice_85 : decode cX9_notice 85 = .ok (.bipush 8, 2) := by decide +kernel
theorem dX9_notice_87 : decode cX9_notice 87 = .ok (.iload 6, 2) := by decide +kernel
theorem dX9_notice_89 : decode cX9_notice 89 = .ok (.imul, 1) := by decide +kernel
theorem dX9_notice_90 : decode cX9_notice 90 = .ok (.iaload, 1) := by decide +kernel
theorem dX9_notice_91 : decode cX9_notice 91 = .ok (.iload_n 3, 1) := by decide +kernel
theorem dX9_notice_92 : decode cX9_notice 92 = .ok (.if_icmp .ne 25, 3) := by decide +kernel
theorem dX9_notice_95 : decode cX9_notice 95 = .ok (.aload_n 0, 1) := by decide +kernel
theorem dX9_notice_96 : decode cX9_notice 96 = .ok (.getfield 39, 3) := by decide +kernel
theorem dX9_notice_99 : decode cX9_notice 99 = .ok (.bipush 8, 2) := by decide +kernel
theorem dX9_notice_101 : decode cX9_notice 101 = .ok (.iload 6, 2) := by decide +kernel
theorem dX9_notice_103 : decode cX9_notice 103 = .ok (.imul, 1) := by decide +kernel
theorem dX9_notice_104 : decode cX9_notice 104 = .ok (.iconst 1, 1) := by decide +kernel
theorem dX9_notice_105 : decode cX9_notice 105 = .ok (.iadd, 1) := by decide +kernel
theorem dX9_notice_106 : decode cX9_notice 106 = .ok (.iaload, 1) := by decide +kernel
theorem dX9_notice_107 : decode cX9_notice 107 = .ok (.iload 4, 2) := by decide +kernel
theorem dX9_notice_109 : decode cX9_notice 109 = .ok (.if_icmp .ne 8, 3) := by decide +kernel
theorem dX9_notice_112 : decode cX9_notice 112 = .ok (.iload 6, 2) := by decide +kernel
theorem dX9_notice_114 : decode cX9_notice 114 = .ok (.goto 5, 3) := by decide +kernel
theorem dX9_notice_117 : decode cX9_notice 117 = .ok (.iload 5, 2) := by decide +kernel
theorem dX9_notice_119 : decode cX9_notice 119 = .ok (.istore 5, 2) := by decide +kernel
theorem dX9_notice_121 : decode cX9_notice 121 = .ok (.iinc 6 1, 3) := by decide +kernel
theorem dX9_notice_124 : decode cX9_notice 124 = .ok (.goto (-52), 3) := by decide +kernel
theorem dX9_notice_127 : decode cX9_notice 127 = .ok (.aload_n 0, 1) := by decide +kernel
theorem dX9_notice_128 : decode cX9_notice 128 = .ok (.getfield 115, 3) := by decide +kernel
theorem dX9_notice_131 : decode cX9_notice 131 = .ok (.istore 6, 2) := by decide +kernel
theorem dX9_notice_133 : decode cX9_notice 133 = .ok (.aload_n 0, 1) := by decide +kernel
theorem dX9_notice_134 : decode cX9_notice 134 = .ok (.getfield 39, 3) := by decide +kernel
theorem dX9_notice_137 : decode cX9_notice 137 = .ok (.bipush 8, 2) := by decide +kernel
theorem dX9_notice_139 : decode cX9_notice 139 = .ok (.iload 6, 2) := by decide +kernel
theorem dX9_notice_141 : decode cX9_notice 141 = .ok (.imul, 1) := by decide +kernel
theorem dX9_notice_142 : decode cX9_notice 142 = .ok (.iload_n 3, 1) := by decide +kernel
theorem dX9_notice_143 : decode cX9_notice 143 = .ok (.iastore, 1) := by decide +kernel
theorem dX9_notice_144 : decode cX9_notice 144 = .ok (.aload_n 0, 1) := by decide +kernel
theorem dX9_notice_145 : decode cX9_notice 145 = .ok (.getfield 39, 3) := by decide +kernel
theorem dX9_notice_148 : decode cX9_notice 148 = .ok (.bipush 8, 2) := by decide +kernel
theorem dX9_notice_150 : decode cX9_notice 150 = .ok (.iload 6, 2) := by decide +kernel
theorem dX9_notice_152 : decode cX9_notice 152 = .ok (.imul, 1) := by decide +kernel
theorem dX9_notice_153 : decode cX9_notice 153 = .ok (.iconst 1, 1) := by decide +kernel
theorem dX9_notice_154 : decode cX9_notice 154 = .ok (.iadd, 1) := by decide +kernel
theorem dX9_notice_155 : decode cX9_notice 155 = .ok (.iload 4, 2) := by decide +kernel
theorem dX9_notice_157 : decode cX9_notice 157 = .ok (.iastore, 1) := by decide +kernel
theorem dX9_notice_158 : decode cX9_notice 158 = .ok (.aload_n 0, 1) := by decide +kernel
theorem dX9_notice_159 : decode cX9_notice 159 = .ok (.getfield 39, 3) := by decide +kernel
theorem dX9_notice_162 : decode cX9_notice 162 = .ok (.bipush 8, 2) := by decide +kernel
theorem dX9_notice_164 : decode cX9_notice 164 = .ok (.iload 6, 2) := by decide +kernel
theorem dX9_notice_166 : decode cX9_notice 166 = .ok (.imul, 1) := by decide +kernel
theorem dX9_notice_167 : decode cX9_notice 167 = .ok (.iconst 2, 1) := by decide +kernel
theorem dX9_notice_168 : decode cX9_notice 168 = .ok (.iadd, 1) := by decide +kernel
theorem dX9_notice_169 : decode cX9_notice 169 = .ok (.aload_n 0, 1) := by decide +kernel
theorem dX9_notice_170 : decode cX9_notice 170 = .ok (.getfield 121, 3) := by decide +kernel
theorem dX9_notice_173 : decode cX9_notice 173 = .ok (.aload_n 0, 1) := by decide +kernel
theorem dX9_notice_174 : decode cX9_notice 174 = .ok (.getfield 125, 3) := by decide +kernel
theorem dX9_notice_177 : decode cX9_notice 177 = .ok (.ldiv, 1) := by decide +kernel
theorem dX9_notice_178 : decode cX9_notice 178 = .ok (.l2i, 1) := by decide +kernel
theorem dX9_notice_179 : decode cX9_notice 179 = .ok (.iastore, 1) := by decide +kernel
theorem dX9_notice_180 : decode cX9_notice 180 = .ok (.aload_n 0, 1) := by decide +kernel
theorem dX9_notice_181 : decode cX9_notice 181 = .ok (.getfield 39, 3) := by decide +kernel
theorem dX9_notice_184 : decode cX9_notice 184 = .ok (.bipush 8, 2) := by decide +kernel
theorem dX9_notice_186 : decode cX9_notice 186 = .ok (.iload 6, 2) := by decide +kernel
theorem dX9_notice_188 : decode cX9_notice 188 = .ok (.imul, 1) := by decide +kernel
theorem dX9_notice_189 : decode cX9_notice 189 = .ok (.iconst 3, 1) := by decide +kernel
theorem dX9_notice_190 : decode cX9_notice 190 = .ok (.iadd, 1) := by decide +kernel
theorem dX9_notice_191 : decode cX9_notice 191 = .ok (.aload_n 0, 1) := by decide +kernel
theorem dX9_notice_192 : decode cX9_notice 192 = .ok (.getfield 128, 3) := by decide +kernel
theorem dX9_notice_195 : decode cX9_notice 195 = .ok (.iastore, 1) := by decide +kernel
theorem dX9_notice_196 : decode cX9_notice 196 = .ok (.aload_n 0, 1) := by decide +kernel
theorem dX9_notice_197 : decode cX9_notice 197 = .ok (.getfield 39, 3) := by decide +kernel
theorem dX9_notice_200 : decode cX9_notice 200 = .ok (.bipush 8, 2) := by decide +kernel
theorem dX9_notice_202 : decode cX9_notice 202 = .ok (.iload 6, 2) := by decide +kernel
theorem dX9_notice_204 : decode cX9_notice 204 = .ok (.imul, 1) := by decide +kernel
theorem dX9_notice_205 : decode cX9_notice 205 = .ok (.iconst 4, 1) := by decide +kernel
theorem dX9_notice_206 : decode cX9_notice 206 = .ok (.iadd, 1) := by decide +kernel
theorem dX9_notice_207 : decode cX9_notice 207 = .ok (.iload 5, 2) := by decide +kernel
theorem dX9_notice_209 : decode cX9_notice 209 = .ok (.iastore, 1) := by decide +kernel
theorem dX9_notice_210 : decode cX9_notice 210 = .ok (.aload_n 0, 1) := by decide +kernel
theorem dX9_notice_211 : decode cX9_notice 211 = .ok (.getfield 39, 3) := by decide +kernel
theorem dX9_notice_214 : decode cX9_notice 214 = .ok (.bipush 8, 2) := by decide +kernel
theorem dX9_notice_216 : decode cX9_notice 216 = .ok (.iload 6, 2) := by decide +kernel
theorem dX9_notice_218 : decode cX9_notice 218 = .ok (.imul, 1) := by decide +kernel
theorem dX9_notice_219 : decode cX9_notice 219 = .ok (.iconst 5, 1) := by decide +kernel
theorem dX9_notice_220 : decode cX9_notice 220 = .ok (.iadd, 1) := by decide +kernel
theorem dX9_notice_221 : decode cX9_notice 221 = .ok (.iconst 1, 1) := by decide +kernel
theorem dX9_notice_222 : decode cX9_notice 222 = .ok (.iastore, 1) := by decide +kernel
theorem dX9_notice_223 : decode cX9_notice 223 = .ok (.aload_n 0, 1) := by decide +kernel
theorem dX9_notice_224 : decode cX9_notice 224 = .ok (.getfield 39, 3) := by decide +kernel
theorem dX9_notice_227 : decode cX9_notice 227 = .ok (.bipush 8, 2) := by decide +kernel
theorem dX9_notice_229 : decode cX9_notice 229 = .ok (.iload 6, 2) := by decide +kernel
theorem dX9_notice_231 : decode cX9_notice 231 = .ok (.imul, 1) := by decide +kernel
theorem dX9_notice_232 : decode cX9_notice 232 = .ok (.bipush 6, 2) := by decide +kernel
theorem dX9_notice_234 : decode cX9_notice 234 = .ok (.iadd, 1) := by decide +kernel
theorem dX9_notice_235 : decode cX9_notice 235 = .ok (.iconst 0, 1) := by decide +kernel
theorem dX9_notice_236 : decode cX9_notice 236 = .ok (.iastore, 1) := by decide +kernel
theorem dX9_notice_237 : decode cX9_notice 237 = .ok (.aload_n 0, 1) := by decide +kernel
theorem dX9_notice_238 : decode cX9_notice 238 = .ok (.getfield 39, 3) := by decide +kernel
theorem dX9_notice_241 : decode cX9_notice 241 = .ok (.bipush 8, 2) := by decide +kernel
theorem dX9_notice_243 : decode cX9_notice 243 = .ok (.iload 6, 2) := by decide +kernel
theorem dX9_notice_245 : decode cX9_notice 245 = .ok (.imul, 1) := by decide +kernel
theorem dX9_notice_246 : decode cX9_notice 246 = .ok (.bipush 7, 2) := by decide +kernel
theorem dX9_notice_248 : decode cX9_notice 248 = .ok (.iadd, 1) := by decide +kernel
theorem dX9_notice_249 : decode cX9_notice 249 = .ok (.iconst 0, 1) := by decide +kernel
theorem dX9_notice_250 : decode cX9_notice 250 = .ok (.iastore, 1) := by decide +kernel
theorem dX9_notice_251 : decode cX9_notice 251 = .ok (.iload 5, 2) := by decide +kernel
theorem dX9_notice_253 : decode cX9_notice 253 = .ok (.ifCond .lt 16, 3) := by decide +kernel
theorem dX9_notice_256 : decode cX9_notice 256 = .ok (.aload_n 0, 1) := by decide +kernel
theorem dX9_notice_257 : decode cX9_notice 257 = .ok (.getfield 39, 3) := by decide +kernel
theorem dX9_notice_260 : decode cX9_notice 260 = .ok (.bipush 8, 2) := by decide +kernel
theorem dX9_notice_262 : decode cX9_notice 262 = .ok (.iload 5, 2) := by decide +kernel
theorem dX9_notice_264 : decode cX9_notice 264 = .ok (.imul, 1) := by decide +kernel
theorem dX9_notice_265 : decode cX9_notice 265 = .ok (.iconst 5, 1) := by decide +kernel
theorem dX9_notice_266 : decode cX9_notice 266 = .ok (.iadd, 1) := by decide +kernel
theorem dX9_notice_267 : decode cX9_notice 267 = .ok (.iconst 0, 1) := by decide +kernel
theorem dX9_notice_268 : decode cX9_notice 268 = .ok (.iastore, 1) := by decide +kernel
theorem dX9_notice_269 : decode cX9_notice 269 = .ok (.aload_n 0, 1) := by decide +kernel
theorem dX9_notice_270 : decode cX9_notice 270 = .ok (.dup, 1) := by decide +kernel
theorem dX9_notice_271 : decode cX9_notice 271 = .ok (.getfield 115, 3) := by decide +kernel
theorem dX9_notice_274 : decode cX9_notice 274 = .ok (.iconst 1, 1) := by decide +kernel
theorem dX9_notice_275 : decode cX9_notice 275 = .ok (.iadd, 1) := by decide +kernel
theorem dX9_notice_276 : decode cX9_notice 276 = .ok (.putfield 115, 3) := by decide +kernel
theorem dX9_notice_279 : decode cX9_notice 279 = .ok (.iload 6, 2) := by decide +kernel
theorem dX9_notice_281 : decode cX9_notice 281 = .ok (.ireturn, 1) := by decide +kernel
theorem dX9_answer_0 : decode cX9_answer 0 = .ok (.iload_n 1, 1) := by decide +kernel
theorem dX9_answer_1 : decode cX9_answer 1 = .ok (.i2l, 1) := by decide +kernel
theorem dX9_answer_2 : decode cX9_answer 2 = .ok (.lconst 0, 1) := by decide +kernel
theorem dX9_answer_3 : decode cX9_answer 3 = .ok (.aload_n 0, 1) := by decide +kernel
theorem dX9_answer_4 : decode cX9_answer 4 = .ok (.getfield 115, 3) := by decide +kernel
theorem dX9_answer_7 : decode cX9_answer 7 = .ok (.iconst 1, 1) := by decide +kernel
theorem dX9_answer_8 : decode cX9_answer 8 = .ok (.isub, 1) := by decide +kernel
theorem dX9_answer_9 : decode cX9_answer 9 = .ok (.i2l, 1) := by decide +kernel
theorem dX9_answer_10 : decode cX9_answer 10 = .ok (.invokestatic 55, 3) := by decide +kernel
theorem dX9_answer_13 : decode cX9_answer 13 = .ok (.ifCond .eq 11, 3) := by decide +kernel
theorem dX9_answer_16 : decode cX9_answer 16 = .ok (.aload_n 0, 1) := by decide +kernel
theorem dX9_answer_17 : decode cX9_answer 17 = .ok (.iload_n 2, 1) := by decide +kernel
theorem dX9_answer_18 : decode cX9_answer 18 = .ok (.invokevirtual 80, 3) := by decide +kernel
theorem dX9_answer_21 : decode cX9_answer 21 = .ok (.ifCond .ne 6, 3) := by decide +kernel
theorem dX9_answer_24 : decode cX9_answer 24 = .ok (.ldc 84, 2) := by decide +kernel
theorem dX9_answer_26 : decode cX9_answer 26 = .ok (.ireturn, 1) := by decide +kernel
theorem dX9_answer_27 : decode cX9_answer 27 = .ok (.iload_n 3, 1) := by decide +kernel
theorem dX9_answer_28 : decode cX9_answer 28 = .ok (.i2l, 1) := by decide +kernel
theorem dX9_answer_29 : decode cX9_answer 29 = .ok (.lconst 1, 1) := by decide +kernel
theorem dX9_answer_30 : decode cX9_answer 30 = .ok (.ldc2_w 86, 3) := by decide +kernel
theorem dX9_answer_33 : decode cX9_answer 33 = .ok (.invokestatic 55, 3) := by decide +kernel
theorem dX9_answer_36 : decode cX9_answer 36 = .ok (.ifCond .ne 6, 3) := by decide +kernel
theorem dX9_answer_39 : decode cX9_answer 39 = .ok (.ldc 70, 2) := by decide +kernel
theorem dX9_answer_41 : decode cX9_answer 41 = .ok (.ireturn, 1) := by decide +kernel
theorem dX9_answer_42 : decode cX9_answer 42 = .ok (.aload_n 0, 1) := by decide +kernel
theorem dX9_answer_43 : decode cX9_answer 43 = .ok (.getfield 39, 3) := by decide +kernel
theorem dX9_answer_46 : decode cX9_answer 46 = .ok (.bipush 8, 2) := by decide +kernel
theorem dX9_answer_48 : decode cX9_answer 48 = .ok (.iload_n 1, 1) := by decide +kernel
theorem dX9_answer_49 : decode cX9_answer 49 = .ok (.imul, 1) := by decide +kernel
theorem dX9_answer_50 : decode cX9_answer 50 = .ok (.iaload, 1) := by decide +kernel
theorem dX9_answer_51 : decode cX9_answer 51 = .ok (.iload_n 2, 1) := by decide +kernel
theorem dX9_answer_52 : decode cX9_answer 52 = .ok (.if_icmp .eq 21, 3) := by decide +kernel
theorem dX9_answer_55 : decode cX9_answer 55 = .ok (.aload_n 0, 1) := by decide +kernel
theorem dX9_answer_56 : decode cX9_answer 56 = .ok (.getfield 39, 3) := by decide +kernel
theorem dX9_answer_59 : decode cX9_answer 59 = .ok (.bipush 8, 2) := by decide +kernel
theorem dX9_answer_61 : decode cX9_answer 61 = .ok (.iload_n 1, 1) := by decide +kernel
theorem dX9_answer_62 : decode cX9_answer 62 = .ok (.imul, 1) := by decide +kernel
theorem dX9_answer_63 : decode cX9_answer 63 = .ok (.iconst 1, 1) := by decide +kernel
theorem dX9_answer_64 : decode cX9_answer 64 = .ok (.iadd, 1) := by decide +kernel
theorem dX9_answer_65 : decode cX9_answer 65 = .ok (.iaload, 1) := by decide +kernel
theorem dX9_answer_66 : decode cX9_answer 66 = .ok (.iload_n 2, 1) := by decide +kernel
theorem dX9_answer_67 : decode cX9_answer 67 = .ok (.if_icmp .eq 6, 3) := by decide +kernel
theorem dX9_answer_70 : decode cX9_answer 70 = .ok (.ldc 85, 2) := by decide +kernel
theorem dX9_answer_72 : decode cX9_answer 72 = .ok (.ireturn, 1) := by decide +kernel
theorem dX9_answer_73 : decode cX9_answer 73 = .ok (.aload_n 0, 1) := by decide +kernel
theorem dX9_answer_74 : decode cX9_answer 74 = .ok (.getfield 39, 3) := by decide +kernel
theorem dX9_answer_77 : decode cX9_answer 77 = .ok (.bipush 8, 2) := by decide +kernel
theorem dX9_answer_79 : decode cX9_answer 79 = .ok (.iload_n 1, 1) := by decide +kernel
theorem dX9_answer_80 : decode cX9_answer 80 = .ok (.imul, 1) := by decide +kernel
theorem dX9_answer_81 : decode cX9_answer 81 = .ok (.iconst 5, 1) := by decide +kernel
theorem dX9_answer_82 : decode cX9_answer 82 = .ok (.iadd, 1) := by decide +kernel
theorem dX9_answer_83 : decode cX9_answer 83 = .ok (.iaload, 1) := by decide +kernel
theorem dX9_answer_84 : decode cX9_answer 84 = .ok (.ifCond .ne 15, 3) := by decide +kernel
theorem dX9_answer_87 : decode cX9_answer 87 = .ok (.aload_n 0, 1) := by decide +kernel
theorem dX9_answer_88 : decode cX9_answer 88 = .ok (.dup, 1) := by decide +kernel
theorem dX9_answer_89 : decode cX9_answer 89 = .ok (.getfield 118, 3) := by decide +kernel
theorem dX9_answer_92 : decode cX9_answer 92 = .ok (.iconst 1, 1) := by decide +kernel
theorem dX9_answer_93 : decode cX9_answer 93 = .ok (.iadd, 1) := by decide +kernel
theorem dX9_answer_94 : decode cX9_answer 94 = .ok (.putfield 118, 3) := by decide +kernel
theorem dX9_answer_97 : decode cX9_answer 97 = .ok (.iconst 0, 1) := by decide +kernel
theorem dX9_answer_98 : decode cX9_answer 98 = .ok (.ireturn, 1) := by decide +kernel
theorem dX9_answer_99 : decode cX9_answer 99 = .ok (.aload_n 0, 1) := by decide +kernel
theorem dX9_answer_100 : decode cX9_answer 100 = .ok (.getfield 39, 3) := by decide +kernel
theorem dX9_answer_103 : decode cX9_answer 103 = .ok (.bipush 8, 2) := by decide +kernel
theorem dX9_answer_105 : decode cX9_answer 105 = .ok (.iload_n 1, 1) := by decide +kernel
theorem dX9_answer_106 : decode cX9_answer 106 = .ok (.imul, 1) := by decide +kernel
theorem dX9_answer_107 : decode cX9_answer 107 = .ok (.aload_n 0, 1) := by decide +kernel
theorem dX9_answer_108 : decode cX9_answer 108 = .ok (.getfield 39, 3) := by decide +kernel
theorem dX9_answer_111 : decode cX9_answer 111 = .ok (.bipush 8, 2) := by decide +kernel
theorem dX9_answer_113 : decode cX9_answer 113 = .ok (.iload_n 1, 1) := by decide +kernel
theorem dX9_answer_114 : decode cX9_answer 114 = .ok (.imul, 1) := by decide +kernel
theorem dX9_answer_115 : decode cX9_answer 115 = .ok (.iaload, 1) := by decide +kernel
theorem dX9_answer_116 : decode cX9_answer 116 = .ok (.iload_n 2, 1) := by decide +kernel
theorem dX9_answer_117 : decode cX9_answer 117 = .ok (.if_icmp .ne 8, 3) := by decide +kernel
theorem dX9_answer_120 : decode cX9_answer 120 = .ok (.bipush 6, 2) := by decide +kernel
theorem dX9_answer_122 : decode cX9_answer 122 = .ok (.goto 5, 3) := by decide +kernel
theorem dX9_answer_125 : decode cX9_answer 125 = .ok (.bipush 7, 2) := by decide +kernel
theorem dX9_answer_127 : decode cX9_answer 127 = .ok (.iadd, 1) := by decide +kernel
theorem dX9_answer_128 : decode cX9_answer 128 = .ok (.iload_n 3, 1) := by decide +kernel
theorem dX9_answer_129 : decode cX9_answer 129 = .ok (.iastore, 1) := by decide +kernel
theorem dX9_answer_130 : decode cX9_answer 130 = .ok (.iconst 1, 1) := by decide +kernel
theorem dX9_answer_131 : decode cX9_answer 131 = .ok (.ireturn, 1) := by decide +kernel
theorem dX9_noticed_0 : decode cX9_noticed 0 = .ok (.iload_n 1, 1) := by decide +kernel
theorem dX9_noticed_1 : decode cX9_noticed 1 = .ok (.i2l, 1) := by decide +kernel
theorem dX9_noticed_2 : decode cX9_noticed 2 = .ok (.lconst 0, 1) := by decide +kernel
theorem dX9_noticed_3 : decode cX9_noticed 3 = .ok (.aload_n 0, 1) := by decide +kernel
theorem dX9_noticed_4 : decode cX9_noticed 4 = .ok (.getfield 115, 3) := by decide +kernel
theorem dX9_noticed_7 : decode cX9_noticed 7 = .ok (.iconst 1, 1) := by decide +kernel
theorem dX9_noticed_8 : decode cX9_noticed 8 = .ok (.isub, 1) := by decide +kernel
theorem dX9_noticed_9 : decode cX9_noticed 9 = .ok (.i2l, 1) := by decide +kernel
theorem dX9_noticed_10 : decode cX9_noticed 10 = .ok (.invokestatic 55, 3) := by decide +kernel
theorem dX9_noticed_13 : decode cX9_noticed 13 = .ok (.ifCond .ne 6, 3) := by decide +kernel
theorem dX9_noticed_16 : decode cX9_noticed 16 = .ok (.ldc 84, 2) := by decide +kernel
theorem dX9_noticed_18 : decode cX9_noticed 18 = .ok (.ireturn, 1) := by decide +kernel
theorem dX9_noticed_19 : decode cX9_noticed 19 = .ok (.iload_n 2, 1) := by decide +kernel
theorem dX9_noticed_20 : decode cX9_noticed 20 = .ok (.tableswitch 110 0 7 #[48, 48, 48, 48, 60, 72, 85, 98], 48) := by decide +kernel
theorem dX9_noticed_68 : decode cX9_noticed 68 = .ok (.aload_n 0, 1) := by decide +kernel
theorem dX9_noticed_69 : decode cX9_noticed 69 = .ok (.getfield 39, 3) := by decide +kernel
theorem dX9_noticed_72 : decode cX9_noticed 72 = .ok (.bipush 8, 2) := by decide +kernel
theorem dX9_noticed_74 : decode cX9_noticed 74 = .ok (.iload_n 1, 1) := by decide +kernel
theorem dX9_noticed_75 : decode cX9_noticed 75 = .ok (.imul, 1) := by decide +kernel
theorem dX9_noticed_76 : decode cX9_noticed 76 = .ok (.iload_n 2, 1) := by decide +kernel
theorem dX9_noticed_77 : decode cX9_noticed 77 = .ok (.iadd, 1) := by decide +kernel
theorem dX9_noticed_78 : decode cX9_noticed 78 = .ok (.iaload, 1) := by decide +kernel
theorem dX9_noticed_79 : decode cX9_noticed 79 = .ok (.ireturn, 1) := by decide +kernel
theorem dX9_noticed_80 : decode cX9_noticed 80 = .ok (.aload_n 0, 1) := by decide +kernel
theorem dX9_noticed_81 : decode cX9_noticed 81 = .ok (.getfield 39, 3) := by decide +kernel
theorem dX9_noticed_84 : decode cX9_noticed 84 = .ok (.bipush 8, 2) := by decide +kernel
theorem dX9_noticed_86 : decode cX9_noticed 86 = .ok (.iload_n 1, 1) := by decide +kernel
theorem dX9_noticed_87 : decode cX9_noticed 87 = .ok (.imul, 1) := by decide +kernel
theorem dX9_noticed_88 : decode cX9_noticed 88 = .ok (.iconst 5, 1) := by decide +kernel
theorem dX9_noticed_89 : decode cX9_noticed 89 = .ok (.iadd, 1) := by decide +kernel
theorem dX9_noticed_90 : decode cX9_noticed 90 = .ok (.iaload, 1) := by decide +kernel
theorem dX9_noticed_91 : decode cX9_noticed 91 = .ok (.ireturn, 1) := by decide +kernel
theorem dX9_noticed_92 : decode cX9_noticed 92 = .ok (.aload_n 0, 1) := by decide +kernel
theorem dX9_noticed_93 : decode cX9_noticed 93 = .ok (.getfield 39, 3) := by decide +kernel
theorem dX9_noticed_96 : decode cX9_noticed 96 = .ok (.bipush 8, 2) := by decide +kernel
theorem dX9_noticed_98 : decode cX9_noticed 98 = .ok (.iload_n 1, 1) := by decide +kernel
theorem dX9_noticed_99 : decode cX9_noticed 99 = .ok (.imul, 1) := by decide +kernel
theorem dX9_noticed_100 : decode cX9_noticed 100 = .ok (.bipush 6, 2) := by decide +kernel
theorem dX9_noticed_102 : decode cX9_noticed 102 = .ok (.iadd, 1) := by decide +kernel
theorem dX9_noticed_103 : decode cX9_noticed 103 = .ok (.iaload, 1) := by decide +kernel
theorem dX9_noticed_104 : decode cX9_noticed 104 = .ok (.ireturn, 1) := by decide +kernel
theorem dX9_noticed_105 : decode cX9_noticed 105 = .ok (.aload_n 0, 1) := by decide +kernel
theorem dX9_noticed_106 : decode cX9_noticed 106 = .ok (.getfield 39, 3) := by decide +kernel
theorem dX9_noticed_109 : decode cX9_noticed 109 = .ok (.bipush 8, 2) := by decide +kernel
theorem dX9_noticed_111 : decode cX9_noticed 111 = .ok (.iload_n 1, 1) := by decide +kernel
theorem dX9_noticed_112 : decode cX9_noticed 112 = .ok (.imul, 1) := by decide +kernel
theorem dX9_noticed_113 : decode cX9_noticed 113 = .ok (.bipush 7, 2) := by decide +kernel
theorem dX9_noticed_115 : decode cX9_noticed 115 = .ok (.iadd, 1) := by decide +kernel
theorem dX9_noticed_116 : decode cX9_noticed 116 = .ok (.iaload, 1) := by decide +kernel
theorem dX9_noticed_117 : decode cX9_noticed 117 = .ok (.ireturn, 1) := by decide +kernel
theorem dX9_noticed_118 : decode cX9_noticed 118 = .ok (.aload_n 0, 1) := by decide +kernel
theorem dX9_noticed_119 : decode cX9_noticed 119 = .ok (.getfield 39, 3) := by decide +kernel
theorem dX9_noticed_122 : decode cX9_noticed 122 = .ok (.bipush 8, 2) := by decide +kernel
theorem dX9_noticed_124 : decode cX9_noticed 124 = .ok (.iload_n 1, 1) := by decide +kernel
theorem dX9_noticed_125 : decode cX9_noticed 125 = .ok (.imul, 1) := by decide +kernel
theorem dX9_noticed_126 : decode cX9_noticed 126 = .ok (.iconst 4, 1) := by decide +kernel
theorem dX9_noticed_127 : decode cX9_noticed 127 = .ok (.iadd, 1) := by decide +kernel
theorem dX9_noticed_128 : decode cX9_noticed 128 = .ok (.iaload, 1) := by decide +kernel
theorem dX9_noticed_129 : decode cX9_noticed 129 = .ok (.ireturn, 1) := by decide +kernel
theorem dX9_noticed_130 : decode cX9_noticed 130 = .ok (.ldc 70, 2) := by decide +kernel
theorem dX9_noticed_132 : decode cX9_noticed 132 = .ok (.ireturn, 1) := by decide +kernel
theorem dX9_numberOf_0 : decode cX9_numberOf 0 = .ok (.iload_n 2, 1) := by decide +kernel
theorem dX9_numberOf_1 : decode cX9_numberOf 1 = .ok (.ifCond .ne 12, 3) := by decide +kernel
theorem dX9_numberOf_4 : decode cX9_numberOf 4 = .ok (.aload_n 0, 1) := by decide +kernel
theorem dX9_numberOf_5 : decode cX9_numberOf 5 = .ok (.getfield 7, 3) := by decide +kernel
theorem dX9_numberOf_8 : decode cX9_numberOf 8 = .ok (.iload_n 1, 1) := by decide +kernel
theorem dX9_numberOf_9 : decode cX9_numberOf 9 = .ok (.iaload, 1) := by decide +kernel
theorem dX9_numberOf_10 : decode cX9_numberOf 10 = .ok (.goto 84, 3) := by decide +kernel
theorem dX9_numberOf_13 : decode cX9_numberOf 13 = .ok (.iload_n 2, 1) := by decide +kernel
theorem dX9_numberOf_14 : decode cX9_numberOf 14 = .ok (.iconst 1, 1) := by decide +kernel
theorem dX9_numberOf_15 : decode cX9_numberOf 15 = .ok (.if_icmp .ne 12, 3) := by decide +kernel
theorem dX9_numberOf_18 : decode cX9_numberOf 18 = .ok (.aload_n 0, 1) := by decide +kernel
theorem dX9_numberOf_19 : decode cX9_numberOf 19 = .ok (.getfield 13, 3) := by decide +kernel
theorem dX9_numberOf_22 : decode cX9_numberOf 22 = .ok (.iload_n 1, 1) := by decide +kernel
theorem dX9_numberOf_23 : decode cX9_numberOf 23 = .ok (.iaload, 1) := by decide +kernel
theorem dX9_numberOf_24 : decode cX9_numberOf 24 = .ok (.goto 70, 3) := by decide +kernel
theorem dX9_numberOf_27 : decode cX9_numberOf 27 = .ok (.iload_n 2, 1) := by decide +kernel
theorem dX9_numberOf_28 : decode cX9_numberOf 28 = .ok (.iconst 2, 1) := by decide +kernel
theorem dX9_numberOf_29 : decode cX9_numberOf 29 = .ok (.if_icmp .ne 12, 3) := by decide +kernel
theorem dX9_numberOf_32 : decode cX9_numberOf 32 = .ok (.aload_n 0, 1) := by decide +kernel
theorem dX9_numberOf_33 : decode cX9_numberOf 33 = .ok (.getfield 16, 3) := by decide +kernel
theorem dX9_numberOf_36 : decode cX9_numberOf 36 = .ok (.iload_n 1, 1) := by decide +kernel
theorem dX9_numberOf_37 : decode cX9_numberOf 37 = .ok (.iaload, 1) := by decide +kernel
theorem dX9_numberOf_38 : decode cX9_numberOf 38 = .ok (.goto 56, 3) := by decide +kernel
theorem dX9_numberOf_41 : decode cX9_numberOf 41 = .ok (.iload_n 2, 1) := by decide +kernel
theorem dX9_numberOf_42 : decode cX9_numberOf 42 = .ok (.iconst 3, 1) := by decide +kernel
theorem dX9_numberOf_43 : decode cX9_numberOf 43 = .ok (.if_icmp .ne 20, 3) := by decide +kernel
theorem dX9_numberOf_46 : decode cX9_numberOf 46 = .ok (.aload_n 0, 1) := by decide +kernel
theorem dX9_numberOf_47 : decode cX9_numberOf 47 = .ok (.getfield 19, 3) := by decide +kernel
theorem dX9_numberOf_50 : decode cX9_numberOf 50 = .ok (.iload_n 1, 1) := by decide +kernel
theorem dX9_numberOf_51 : decode cX9_numberOf 51 = .ok (.baload, 1) := by decide +kernel
theorem dX9_numberOf_52 : decode cX9_numberOf 52 = .ok (.ifCond .eq 7, 3) := by decide +kernel
theorem dX9_numberOf_55 : decode cX9_numberOf 55 = .ok (.iconst 1, 1) := by decide +kernel
theorem dX9_numberOf_56 : decode cX9_numberOf 56 = .ok (.goto 38, 3) := by decide +kernel
theorem dX9_numberOf_59 : decode cX9_numberOf 59 = .ok (.iconst 0, 1) := by decide +kernel
theorem dX9_numberOf_60 : decode cX9_numberOf 60 = .ok (.goto 34, 3) := by decide +kernel
theorem dX9_numberOf_63 : decode cX9_numberOf 63 = .ok (.iload_n 2, 1) := by decide +kernel
theorem dX9_numberOf_64 : decode cX9_numberOf 64 = .ok (.iconst 4, 1) := by decide +kernel
theorem dX9_numberOf_65 : decode cX9_numberOf 65 = .ok (.isub, 1) := by decide +kernel
theorem dX9_numberOf_66 : decode cX9_numberOf 66 = .ok (.iconst 3, 1) := by decide +kernel
theorem dX9_numberOf_67 : decode cX9_numberOf 67 = .ok (.aload_n 0, 1) := by decide +kernel
theorem dX9_numberOf_68 : decode cX9_numberOf 68 = .ok (.getfield 13, 3) := by decide +kernel
theorem dX9_numberOf_71 : decode cX9_numberOf 71 = .ok (.iload_n 1, 1) := by decide +kernel
theorem dX9_numberOf_72 : decode cX9_numberOf 72 = .ok (.iaload, 1) := by decide +kernel
theorem dX9_numberOf_73 : decode cX9_numberOf 73 = .ok (.imul, 1) := by decide +kernel
theorem dX9_numberOf_74 : decode cX9_numberOf 74 = .ok (.if_icmp .ge 19, 3) := by decide +kernel
theorem dX9_numberOf_77 : decode cX9_numberOf 77 = .ok (.aload_n 0, 1) := by decide +kernel
theorem dX9_numberOf_78 : decode cX9_numberOf 78 = .ok (.getfield 23, 3) := by decide +kernel
theorem dX9_numberOf_81 : decode cX9_numberOf 81 = .ok (.bipush 36, 2) := by decide +kernel
theorem dX9_numberOf_83 : decode cX9_numberOf 83 = .ok (.iload_n 1, 1) := by decide +kernel
theorem dX9_numberOf_84 : decode cX9_numberOf 84 = .ok (.imul, 1) := by decide +kernel
theorem dX9_numberOf_85 : decode cX9_numberOf 85 = .ok (.iload_n 2, 1) := by decide +kernel
theorem dX9_numberOf_86 : decode cX9_numberOf 86 = .ok (.iadd, 1) := by decide +kernel
theorem dX9_numberOf_87 : decode cX9_numberOf 87 = .ok (.iconst 4, 1) := by decide +kernel
theorem dX9_numberOf_88 : decode cX9_numberOf 88 = .ok (.isub, 1) := by decide +kernel
theorem dX9_numberOf_89 : decode cX9_numberOf 89 = .ok (.iaload, 1) := by decide +kernel
theorem dX9_numberOf_90 : decode cX9_numberOf 90 = .ok (.goto 4, 3) := by decide +kernel
theorem dX9_numberOf_93 : decode cX9_numberOf 93 = .ok (.iconst 0, 1) := by decide +kernel
theorem dX9_numberOf_94 : decode cX9_numberOf 94 = .ok (.ireturn, 1) := by decide +kernel
theorem dX9_keep_0 : decode cX9_keep 0 = .ok (.iload_n 1, 1) := by decide +kernel
theorem dX9_keep_1 : decode cX9_keep 1 = .ok (.i2l, 1) := by decide +kernel
theorem dX9_keep_2 : decode cX9_keep 2 = .ok (.lconst 0, 1) := by decide +kernel
theorem dX9_keep_3 : decode cX9_keep 3 = .ok (.lconst 1, 1) := by decide +kernel
theorem dX9_keep_4 : decode cX9_keep 4 = .ok (.invokestatic 55, 3) := by decide +kernel
theorem dX9_keep_7 : decode cX9_keep 7 = .ok (.ifCond .ne 6, 3) := by decide +kernel
theorem dX9_keep_10 : decode cX9_keep 10 = .ok (.ldc 84, 2) := by decide +kernel
theorem dX9_keep_12 : decode cX9_keep 12 = .ok (.ireturn, 1) := by decide +kernel
theorem dX9_keep_13 : decode cX9_keep 13 = .ok (.aload_n 0, 1) := by decide +kernel
theorem dX9_keep_14 : decode cX9_keep 14 = .ok (.getfield 42, 3) := by decide +kernel
theorem dX9_keep_17 : decode cX9_keep 17 = .ok (.iload_n 1, 1) := by decide +kernel
theorem dX9_keep_18 : decode cX9_keep 18 = .ok (.aload_n 0, 1) := by decide +kernel
theorem dX9_keep_19 : decode cX9_keep 19 = .ok (.getfield 59, 3) := by decide +kernel
theorem dX9_keep_22 : decode cX9_keep 22 = .ok (.iastore, 1) := by decide +kernel
theorem dX9_keep_23 : decode cX9_keep 23 = .ok (.iconst 0, 1) := by decide +kernel
theorem dX9_keep_24 : decode cX9_keep 24 = .ok (.istore_n 2, 1) := by decide +kernel
theorem dX9_keep_25 : decode cX9_keep 25 = .ok (.iload_n 2, 1) := by decide +kernel
theorem dX9_keep_26 : decode cX9_keep 26 = .ok (.aload_n 0, 1) := by decide +kernel
theorem dX9_keep_27 : decode cX9_keep 27 = .ok (.getfield 59, 3) := by decide +kernel
theorem dX9_keep_30 : decode cX9_keep 30 = .ok (.if_icmp .ge 46, 3) := by decide +kernel
theorem dX9_keep_33 : decode cX9_keep 33 = .ok (.iconst 0, 1) := by decide +kernel
theorem dX9_keep_34 : decode cX9_keep 34 = .ok (.istore_n 3, 1) := by decide +kernel
theorem dX9_keep_35 : decode cX9_keep 35 = .ok (.iload_n 3, 1) := by decide +kernel
theorem dX9_keep_36 : decode cX9_keep 36 = .ok (.bipush 40, 2) := by decide +kernel
theorem dX9_keep_38 : decode cX9_keep 38 = .ok (.if_icmp .ge 32, 3) := by decide +kernel
theorem dX9_keep_41 : decode cX9_keep 41 = .ok (.aload_n 0, 1) := by decide +kernel
theorem dX9_keep_42 : decode cX9_keep 42 = .ok (.getfield 45, 3) := by decide +kernel
theorem dX9_keep_45 : decode cX9_keep 45 = .ok (.sipush 640, 3) := by decide +kernel
theorem dX9_keep_48 : decode cX9_keep 48 = .ok (.iload_n 1, 1) := by decide +kernel
theorem dX9_keep_49 : decode cX9_keep 49 = .ok (.imul, 1) := by decide +kernel
theorem dX9_keep_50 : decode cX9_keep 50 = .ok (.bipush 40, 2) := by decide +kernel
theorem dX9_keep_52 : decode cX9_keep 52 = .ok (.iload_n 2, 1) := by decide +kernel
theorem dX9_keep_53 : decode cX9_keep 53 = .ok (.imul, 1) := by decide +kernel
theorem dX9_keep_54 : decode cX9_keep 54 = .ok (.iadd, 1) := by decide +kernel
theorem dX9_keep_55 : decode cX9_keep 55 = .ok (.iload_n 3, 1) := by decide +kernel
theorem dX9_keep_56 : decode cX9_keep 56 = .ok (.iadd, 1) := by decide +kernel
theorem dX9_keep_57 : decode cX9_keep 57 = .ok (.aload_n 0, 1) := by decide +kernel
theorem dX9_keep_58 : decode cX9_keep 58 = .ok (.iload_n 2, 1) := by decide +kernel
theorem dX9_keep_59 : decode cX9_keep 59 = .ok (.iload_n 3, 1) := by decide +kernel
theorem dX9_keep_60 : decode cX9_keep 60 = .ok (.invokevirtual 198, 3) := by decide +kernel
theorem dX9_keep_63 : decode cX9_keep 63 = .ok (.iastore, 1) := by decide +kernel
theorem dX9_keep_64 : decode cX9_keep 64 = .ok (.iinc 3 1, 3) := by decide +kernel
theorem dX9_keep_67 : decode cX9_keep 67 = .ok (.goto (-32), 3) := by decide +kernel
theorem dX9_keep_70 : decode cX9_keep 70 = .ok (.iinc 2 1, 3) := by decide +kernel
theorem dX9_keep_73 : decode cX9_keep 73 = .ok (.goto (-48), 3) := by decide +kernel
theorem dX9_keep_76 : decode cX9_keep 76 = .ok (.aload_n 0, 1) := by decide +kernel
theorem dX9_keep_77 : decode cX9_keep 77 = .ok (.getfield 59, 3) := by decide +kernel
theorem dX9_keep_80 : decode cX9_keep 80 = .ok (.ireturn, 1) := by decide +kernel
theorem dX9_differs_0 : decode cX9_differs 0 = .ok (.iload_n 1, 1) := by decide +kernel
theorem dX9_differs_1 : decode cX9_differs 1 = .ok (.i2l, 1) := by decide +kernel
theorem dX9_differs_2 : decode cX9_differs 2 = .ok (.lconst 0, 1) := by decide +kernel
theorem dX9_differs_3 : decode cX9_differs 3 = .ok (.lconst 1, 1) := by decide +kernel
theorem dX9_differs_4 : decode cX9_differs 4 = .ok (.invokestatic 55, 3) := by decide +kernel
theorem dX9_differs_7 : decode cX9_differs 7 = .ok (.ifCond .ne 6, 3) := by decide +kernel
theorem dX9_differs_10 : decode cX9_differs 10 = .ok (.ldc 84, 2) := by decide +kernel
theorem dX9_differs_12 : decode cX9_differs 12 = .ok (.ireturn, 1) := by decide +kernel
theorem dX9_differs_13 : decode cX9_differs 13 = .ok (.aload_n 0, 1) := by decide +kernel
theorem dX9_differs_14 : decode cX9_differs 14 = .ok (.getfield 42, 3) := by decide +kernel
theorem dX9_differs_17 : decode cX9_differs 17 = .ok (.iload_n 1, 1) := by decide +kernel
theorem dX9_differs_18 : decode cX9_differs 18 = .ok (.iaload, 1) := by decide +kernel
theorem dX9_differs_19 : decode cX9_differs 19 = .ok (.ifCond .ge 6, 3) := by decide +kernel
theorem dX9_differs_22 : decode cX9_differs 22 = .ok (.ldc 85, 2) := by decide +kernel
theorem dX9_differs_24 : decode cX9_differs 24 = .ok (.ireturn, 1) := by decide +kernel
theorem dX9_differs_25 : decode cX9_differs 25 = .ok (.iconst 0, 1) := by decide +kernel
theorem dX9_differs_26 : decode cX9_differs 26 = .ok (.istore_n 2, 1) := by decide +kernel
theorem dX9_differs_27 : decode cX9_differs 27 = .ok (.iconst 0, 1) := by decide +kernel
theorem dX9_differs_28 : decode cX9_differs 28 = .ok (.istore_n 3, 1) := by decide +kernel
theorem dX9_differs_29 : decode cX9_differs 29 = .ok (.iload_n 3, 1) := by decide +kernel
theorem dX9_differs_30 : decode cX9_differs 30 = .ok (.aload_n 0, 1) := by decide +kernel
theorem dX9_differs_31 : decode cX9_differs 31 = .ok (.getfield 59, 3) := by decide +kernel
theorem dX9_differs_34 : decode cX9_differs 34 = .ok (.if_icmp .lt 13, 3) := by decide +kernel
theorem dX9_differs_37 : decode cX9_differs 37 = .ok (.iload_n 3, 1) := by decide +kernel
theorem dX9_differs_38 : decode cX9_differs 38 = .ok (.aload_n 0, 1) := by decide +kernel
theorem dX9_differs_39 : decode cX9_differs 39 = .ok (.getfield 42, 3) := by decide +kernel
theorem dX9_differs_42 : decode cX9_differs 42 = .ok (.iload_n 1, 1) := by decide +kernel
theorem dX9_differs_43 : decode cX9_differs 43 = .ok (.iaload, 1) := by decide +kernel
theorem dX9_differs_44 : decode cX9_differs 44 = .ok (.if_icmp .ge 103, 3) := by decide +kernel
theorem dX9_differs_47 : decode cX9_differs 47 = .ok (.iload_n 3, 1) := by decide +kernel
theorem dX9_differs_48 : decode cX9_differs 48 = .ok (.aload_n 0, 1) := by decide +kernel
theorem dX9_differs_49 : decode cX9_differs 49 = .ok (.getfield 59, 3) := by decide +kernel
theorem dX9_differs_52 : decode cX9_differs 52 = .ok (.if_icmp .ge 17, 3) := by decide +kernel
theorem dX9_differs_55 : decode cX9_differs 55 = .ok (.iload_n 3, 1) := by decide +kernel
theorem dX9_differs_56 : decode cX9_differs 56 = .ok (.aload_n 0, 1) := by decide +kernel
theorem dX9_differs_57 : decode cX9_differs 57 = .ok (.getfield 42, 3) := by decide +kernel
theorem dX9_differs_60 : decode cX9_differs 60 = .ok (.iload_n 1, 1) := by decide +kernel
theorem dX9_differs_61 : decode cX9_differs 61 = .ok (.iaload, 1) := by decide +kernel
theorem dX9_differs_62 : decode cX9_differs 62 = .ok (.if_icmp .ge 7, 3) := by decide +kernel
theorem dX9_differs_65 : decode cX9_differs 65 = .ok (.iconst 1, 1) := by decide +kernel
theorem dX9_differs_66 : decode cX9_differs 66 = .ok (.goto 4, 3) := by decide +kernel
theorem dX9_differs_69 : decode cX9_differs 69 = .ok (.iconst 0, 1) := by decide +kernel
theorem dX9_differs_70 : decode cX9_differs 70 = .ok (.istore 4, 2) := by decide +kernel
theorem dX9_differs_72 : decode cX9_differs 72 = .ok (.iconst 0, 1) := by decide +kernel
theorem dX9_differs_73 : decode cX9_differs 73 = .ok (.istore 5, 2) := by decide +kernel
theorem dX9_differs_75 : decode cX9_differs 75 = .ok (.iload 5, 2) := by decide +kernel
theorem dX9_differs_77 : decode cX9_differs 77 = .ok (.bipush 40, 2) := by decide +kernel
theorem dX9_differs_79 : decode cX9_differs 79 = .ok (.if_icmp .ge 49, 3) := by decide +kernel
theorem dX9_differs_82 : decode cX9_differs 82 = .ok (.iload 4, 2) := by decide +kernel
theorem dX9_differs_84 : decode cX9_differs 84 = .ok (.ifCond .eq 44, 3) := by decide +kernel
theorem dX9_differs_87 : decode cX9_differs 87 = .ok (.aload_n 0, 1) := by decide +kernel
theorem dX9_differs_88 : decode cX9_differs 88 = .ok (.getfield 45, 3) := by decide +kernel
theorem dX9_differs_91 : decode cX9_differs 91 = .ok (.sipush 640, 3) := by decide +kernel
theorem dX9_differs_94 : decode cX9_differs 94 = .ok (.iload_n 1, 1) := by decide +kernel
theorem dX9_differs_95 : decode cX9_differs 95 = .ok (.imul, 1) := by decide +kernel
theorem dX9_differs_96 : decode cX9_differs 96 = .ok (.bipush 40, 2) := by decide +kernel
theorem dX9_differs_98 : decode cX9_differs 98 = .ok (.iload_n 3, 1) := by decide +kernel
theorem dX9_differs_99 : decode cX9_differs 99 = .ok (.imul, 1) := by decide +kernel
theorem dX9_differs_100 : decode cX9_differs 100 = .ok (.iadd, 1) := by decide +kernel
theorem dX9_differs_101 : decode cX9_differs 101 = .ok (.iload 5, 2) := by decide +kernel
theorem dX9_differs_103 : decode cX9_differs 103 = .ok (.iadd, 1) := by decide +kernel
theorem dX9_differs_104 : decode cX9_differs 104 = .ok (.iaload, 1) := by decide +kernel
theorem dX9_differs_105 : decode cX9_differs 105 = .ok (.aload_n 0, 1) := by decide +kernel
theorem dX9_differs_106 : decode cX9_differs 106 = .ok (.iload_n 3, 1) := by decide +kernel
theorem dX9_differs_107 : decode cX9_differs 107 = .ok (.iload 5, 2) := by decide +kernel
theorem dX9_differs_109 : decode cX9_differs 109 = .ok (.invokevirtual 198, 3) := by decide +kernel
theorem dX9_differs_112 : decode cX9_differs 112 = .ok (.if_icmp .ne 7, 3) := by decide +kernel
theorem dX9_differs_115 : decode cX9_differs 115 = .ok (.iconst 1, 1) := by decide +kernel
theorem dX9_differs_116 : decode cX9_differs 116 = .ok (.goto 4, 3) := by decide +kernel
theorem dX9_differs_119 : decode cX9_differs 119 = .ok (.iconst 0, 1) := by decide +kernel
theorem dX9_differs_120 : decode cX9_differs 120 = .ok (.istore 4, 2) := by decide +kernel
theorem dX9_differs_122 : decode cX9_differs 122 = .ok (.iinc 5 1, 3) := by decide +kernel
theorem dX9_differs_125 : decode cX9_differs 125 = .ok (.goto (-50), 3) := by decide +kernel
theorem dX9_differs_128 : decode cX9_differs 128 = .ok (.iload_n 2, 1) := by decide +kernel
theorem dX9_differs_129 : decode cX9_differs 129 = .ok (.iload 4, 2) := by decide +kernel
theorem dX9_differs_131 : decode cX9_differs 131 = .ok (.ifCond .eq 7, 3) := by decide +kernel
theorem dX9_differs_134 : decode cX9_differs 134 = .ok (.iconst 0, 1) := by decide +kernel
theorem dX9_differs_135 : decode cX9_differs 135 = .ok (.goto 4, 3) := by decide +kernel
theorem dX9_differs_138 : decode cX9_differs 138 = .ok (.iconst 1, 1) := by decide +kernel
theorem dX9_differs_139 : decode cX9_differs 139 = .ok (.iadd, 1) := by decide +kernel
theorem dX9_differs_140 : decode cX9_differs 140 = .ok (.istore_n 2, 1) := by decide +kernel
theorem dX9_differs_141 : decode cX9_differs 141 = .ok (.iinc 3 1, 3) := by decide +kernel
theorem dX9_differs_144 : decode cX9_differs 144 = .ok (.goto (-115), 3) := by decide +kernel
theorem dX9_differs_147 : decode cX9_differs 147 = .ok (.iload_n 2, 1) := by decide +kernel
theorem dX9_differs_148 : decode cX9_differs 148 = .ok (.ireturn, 1) := by decide +kernel
