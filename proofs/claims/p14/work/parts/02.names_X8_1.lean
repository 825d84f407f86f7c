theorem dX8_dot_1 : decode cX8_dot 1 = .ok (.invokestatic 76, 3) := by decide +kernel
theorem dX8_dot_4 : decode cX8_dot 4 = .ok (.ifCond .eq 13, 3) := by decide +kernel
theorem dX8_dot_7 : decode cX8_dot 7 = .ok (.iload_n 2, 1) := by decide +kernel
theorem dX8_dot_8 : decode cX8_dot 8 = .ok (.iload_n 3, 1) := by decide +kernel
theorem dX8_dot_9 : decode cX8_dot 9 = .ok (.iload 4, 2) := by decide +kernel
theorem dX8_dot_11 : decode cX8_dot 11 = .ok (.invokestatic 80, 3) := by decide +kernel
theorem dX8_dot_14 : decode cX8_dot 14 = .ok (.ifCond .ne 6, 3) := by decide +kernel
theorem dX8_dot_17 : decode cX8_dot 17 = .ok (.ldc 87, 2) := by decide +kernel
theorem dX8_dot_19 : decode cX8_dot 19 = .ok (.ireturn, 1) := by decide +kernel
theorem dX8_dot_20 : decode cX8_dot 20 = .ok (.aload_n 0, 1) := by decide +kernel
theorem dX8_dot_21 : decode cX8_dot 21 = .ok (.getfield 158, 3) := by decide +kernel
theorem dX8_dot_24 : decode cX8_dot 24 = .ok (.istore 5, 2) := by decide +kernel
theorem dX8_dot_26 : decode cX8_dot 26 = .ok (.iload 5, 2) := by decide +kernel
theorem dX8_dot_28 : decode cX8_dot 28 = .ok (.ifCond .lt 13, 3) := by decide +kernel
theorem dX8_dot_31 : decode cX8_dot 31 = .ok (.iload 5, 2) := by decide +kernel
theorem dX8_dot_33 : decode cX8_dot 33 = .ok (.aload_n 0, 1) := by decide +kernel
theorem dX8_dot_34 : decode cX8_dot 34 = .ok (.getfield 24, 3) := by decide +kernel
theorem dX8_dot_37 : decode cX8_dot 37 = .ok (.arraylength, 1) := by decide +kernel
theorem dX8_dot_38 : decode cX8_dot 38 = .ok (.if_icmp .lt 6, 3) := by decide +kernel
theorem dX8_dot_41 : decode cX8_dot 41 = .ok (.ldc 95, 2) := by decide +kernel
theorem dX8_dot_43 : decode cX8_dot 43 = .ok (.ireturn, 1) := by decide +kernel
theorem dX8_dot_44 : decode cX8_dot 44 = .ok (.aload_n 0, 1) := by decide +kernel
theorem dX8_dot_45 : decode cX8_dot 45 = .ok (.getfield 24, 3) := by decide +kernel
theorem dX8_dot_48 : decode cX8_dot 48 = .ok (.iload 5, 2) := by decide +kernel
theorem dX8_dot_50 : decode cX8_dot 50 = .ok (.new 22, 3) := by decide +kernel
theorem dX8_dot_53 : decode cX8_dot 53 = .ok (.dup, 1) := by decide +kernel
theorem dX8_dot_54 : decode cX8_dot 54 = .ok (.iload_n 1, 1) := by decide +kernel
theorem dX8_dot_55 : decode cX8_dot 55 = .ok (.iload_n 2, 1) := by decide +kernel
theorem dX8_dot_56 : decode cX8_dot 56 = .ok (.iload_n 3, 1) := by decide +kernel
theorem dX8_dot_57 : decode cX8_dot 57 = .ok (.iload 4, 2) := by decide +kernel
theorem dX8_dot_59 : decode cX8_dot 59 = .ok (.invokespecial 256, 3) := by decide +kernel
theorem dX8_dot_62 : decode cX8_dot 62 = .ok (.aastore, 1) := by decide +kernel
theorem dX8_dot_63 : decode cX8_dot 63 = .ok (.aload_n 0, 1) := by decide +kernel
theorem dX8_dot_64 : decode cX8_dot 64 = .ok (.dup, 1) := by decide +kernel
theorem dX8_dot_65 : decode cX8_dot 65 = .ok (.getfield 158, 3) := by decide +kernel
theorem dX8_dot_68 : decode cX8_dot 68 = .ok (.iconst 1, 1) := by decide +kernel
theorem dX8_dot_69 : decode cX8_dot 69 = .ok (.iadd, 1) := by decide +kernel
theorem dX8_dot_70 : decode cX8_dot 70 = .ok (.putfield 158, 3) := by decide +kernel
theorem dX8_dot_73 : decode cX8_dot 73 = .ok (.iload 5, 2) := by decide +kernel
theorem dX8_dot_75 : decode cX8_dot 75 = .ok (.ireturn, 1) := by decide +kernel
theorem dX8_dotted_0 : decode cX8_dotted 0 = .ok (.aload_n 0, 1) := by decide +kernel
theorem dX8_dotted_1 : decode cX8_dotted 1 = .ok (.iload_n 1, 1) := by decide +kernel
theorem dX8_dotted_2 : decode cX8_dotted 2 = .ok (.invokevirtual 258, 3) := by decide +kernel
theorem dX8_dotted_5 : decode cX8_dotted 5 = .ok (.astore_n 3, 1) := by decide +kernel
theorem dX8_dotted_6 : decode cX8_dotted 6 = .ok (.aload_n 3, 1) := by decide +kernel
theorem dX8_dotted_7 : decode cX8_dotted 7 = .ok (.ifnonnull 6, 3) := by decide +kernel
theorem dX8_dotted_10 : decode cX8_dotted 10 = .ok (.ldc 107, 2) := by decide +kernel
theorem dX8_dotted_12 : decode cX8_dotted 12 = .ok (.ireturn, 1) := by decide +kernel
theorem dX8_dotted_13 : decode cX8_dotted 13 = .ok (.iload_n 2, 1) := by decide +kernel
theorem dX8_dotted_14 : decode cX8_dotted 14 = .ok (.lookupswitch 44 #[(0, 26), (1, 35)], 26) := by decide +kernel
theorem dX8_dotted_40 : decode cX8_dotted 40 = .ok (.aload_n 0, 1) := by decide +kernel
theorem dX8_dotted_41 : decode cX8_dotted 41 = .ok (.getfield 12, 3) := by decide +kernel
theorem dX8_dotted_44 : decode cX8_dotted 44 = .ok (.aload_n 3, 1) := by decide +kernel
theorem dX8_dotted_45 : decode cX8_dotted 45 = .ok (.invokevirtual 262, 3) := by decide +kernel
theorem dX8_dotted_48 : decode cX8_dotted 48 = .ok (.ireturn, 1) := by decide +kernel
theorem dX8_dotted_49 : decode cX8_dotted 49 = .ok (.aload_n 0, 1) := by decide +kernel
theorem dX8_dotted_50 : decode cX8_dotted 50 = .ok (.getfield 12, 3) := by decide +kernel
theorem dX8_dotted_53 : decode cX8_dotted 53 = .ok (.aload_n 3, 1) := by decide +kernel
theorem dX8_dotted_54 : decode cX8_dotted 54 = .ok (.invokevirtual 266, 3) := by decide +kernel
theorem dX8_dotted_57 : decode cX8_dotted 57 = .ok (.ireturn, 1) := by decide +kernel
theorem dX8_dotted_58 : decode cX8_dotted 58 = .ok (.ldc 87, 2) := by decide +kernel
theorem dX8_dotted_60 : decode cX8_dotted 60 = .ok (.ireturn, 1) := by decide +kernel
theorem dX8_notice_0 : decode cX8_notice 0 = .ok (.aload_n 0, 1) := by decide +kernel
theorem dX8_notice_1 : decode cX8_notice 1 = .ok (.getfield 12, 3) := by decide +kernel
theorem dX8_notice_4 : decode cX8_notice 4 = .ok (.iload_n 1, 1) := by decide +kernel
theorem dX8_notice_5 : decode cX8_notice 5 = .ok (.invokevirtual 103, 3) := by decide +kernel
theorem dX8_notice_8 : decode cX8_notice 8 = .ok (.astore_n 3, 1) := by decide +kernel
theorem dX8_notice_9 : decode cX8_notice 9 = .ok (.aload_n 0, 1) := by decide +kernel
theorem dX8_notice_10 : decode cX8_notice 10 = .ok (.getfield 12, 3) := by decide +kernel
theorem dX8_notice_13 : decode cX8_notice 13 = .ok (.iload_n 2, 1) := by decide +kernel
theorem dX8_notice_14 : decode cX8_notice 14 = .ok (.invokevirtual 103, 3) := by decide +kernel
theorem dX8_notice_17 : decode cX8_notice 17 = .ok (.astore 4, 2) := by decide +kernel
theorem dX8_notice_19 : decode cX8_notice 19 = .ok (.aload_n 3, 1) := by decide +kernel
theorem dX8_notice_20 : decode cX8_notice 20 = .ok (.ifnull 8, 3) := by decide +kernel
theorem dX8_notice_23 : decode cX8_notice 23 = .ok (.aload 4, 2) := by decide +kernel
theorem dX8_notice_25 : decode cX8_notice 25 = .ok (.ifnonnull 6, 3) := by decide +kernel
theorem dX8_notice_28 : decode cX8_notice 28 = .ok (.ldc 107, 2) := by decide +kernel
theorem dX8_notice_30 : decode cX8_notice 30 = .ok (.ireturn, 1) := by decide +kernel
theorem dX8_notice_31 : decode cX8_notice 31 = .ok (.iload_n 1, 1) := by decide +kernel
theorem dX8_notice_32 : decode cX8_notice 32 = .ok (.iload_n 2, 1) := by decide +kernel
theorem dX8_notice_33 : decode cX8_notice 33 = .ok (.if_icmp .eq 22, 3) := by decide +kernel
theorem dX8_notice_36 : decode cX8_notice 36 = .ok (.aload_n 0, 1) := by decide +kernel
theorem dX8_notice_37 : decode cX8_notice 37 = .ok (.iload_n 1, 1) := by decide +kernel
theorem dX8_notice_38 : decode cX8_notice 38 = .ok (.iload_n 2, 1) := by decide +kernel
theorem dX8_notice_39 : decode cX8_notice 39 = .ok (.invokevirtual 213, 3) := by decide +kernel
theorem dX8_notice_42 : decode cX8_notice 42 = .ok (.ifCond .eq 13, 3) := by decide +kernel
theorem dX8_notice_45 : decode cX8_notice 45 = .ok (.aload_n 0, 1) := by decide +kernel
theorem dX8_notice_46 : decode cX8_notice 46 = .ok (.aload_n 3, 1) := by decide +kernel
theorem dX8_notice_47 : decode cX8_notice 47 = .ok (.aload 4, 2) := by decide +kernel
theorem dX8_notice_49 : decode cX8_notice 49 = .ok (.invokevirtual 191, 3) := by decide +kernel
theorem dX8_notice_52 : decode cX8_notice 52 = .ok (.ifCond .ne 6, 3) := by decide +kernel
theorem dX8_notice_55 : decode cX8_notice 55 = .ok (.ldc 116, 2) := by decide +kernel
theorem dX8_notice_57 : decode cX8_notice 57 = .ok (.ireturn, 1) := by decide +kernel
theorem dX8_notice_58 : decode cX8_notice 58 = .ok (.aload_n 0, 1) := by decide +kernel
theorem dX8_notice_59 : decode cX8_notice 59 = .ok (.getfield 164, 3) := by decide +kernel
theorem dX8_notice_62 : decode cX8_notice 62 = .ok (.istore 5, 2) := by decide +kernel
theorem dX8_notice_64 : decode cX8_notice 64 = .ok (.iload 5, 2) := by decide +kernel
theorem dX8_notice_66 : decode cX8_notice 66 = .ok (.ifCond .lt 13, 3) := by decide +kernel
theorem dX8_notice_69 : decode cX8_notice 69 = .ok (.iload 5, 2) := by decide +kernel
theorem dX8_notice_71 : decode cX8_notice 71 = .ok (.aload_n 0, 1) := by decide +kernel
theorem dX8_notice_72 : decode cX8_notice 72 = .ok (.getfield 30, 3) := by decide +kernel
theorem dX8_notice_75 : decode cX8_notice 75 = .ok (.arraylength, 1) := by decide +kernel
theorem dX8_notice_76 : decode cX8_notice 76 = .ok (.if_icmp .lt 6, 3) := by decide +kernel
theorem dX8_notice_79 : decode cX8_notice 79 = .ok (.ldc 95, 2) := by decide +kernel
theorem dX8_notice_81 : decode cX8_notice 81 = .ok (.ireturn, 1) := by decide +kernel
theorem dX8_notice_82 : decode cX8_notice 82 = .ok (.new 28, 3) := by decide +kernel
theorem dX8_notice_85 : decode cX8_notice 85 = .ok (.dup, 1) := by decide +kernel
theorem dX8_notice_86 : decode cX8_notice 86 = .ok (.iload_n 1, 1) := by decide +kernel
theorem dX8_notice_87 : decode cX8_notice 87 = .ok (.iload_n 2, 1) := by decide +kernel
theorem dX8_notice_88 : decode cX8_notice 88 = .ok (.invokestatic 269, 3) := by decide +kernel
theorem dX8_notice_91 : decode cX8_notice 91 = .ok (.iload_n 1, 1) := by decide +kernel
theorem dX8_notice_92 : decode cX8_notice 92 = .ok (.iload_n 2, 1) := by decide +kernel
theorem dX8_notice_93 : decode cX8_notice 93 = .ok (.invokestatic 274, 3) := by decide +kernel
theorem dX8_notice_96 : decode cX8_notice 96 = .ok (.aload_n 0, 1) := by decide +kernel
theorem dX8_notice_97 : decode cX8_notice 97 = .ok (.getfield 51, 3) := by decide +kernel
theorem dX8_notice_100 : decode cX8_notice 100 = .ok (.invokespecial 277, 3) := by decide +kernel
theorem dX8_notice_103 : decode cX8_notice 103 = .ok (.astore 6, 2) := by decide +kernel
theorem dX8_notice_105 : decode cX8_notice 105 = .ok (.aload 6, 2) := by decide +kernel
theorem dX8_notice_107 : decode cX8_notice 107 = .ok (.aload_n 0, 1) := by decide +kernel
theorem dX8_notice_108 : decode cX8_notice 108 = .ok (.aload 6, 2) := by decide +kernel
theorem dX8_notice_110 : decode cX8_notice 110 = .ok (.getfield 280, 3) := by decide +kernel
theorem dX8_notice_113 : decode cX8_notice 113 = .ok (.aload 6, 2) := by decide +kernel
theorem dX8_notice_115 : decode cX8_notice 115 = .ok (.getfield 283, 3) := by decide +kernel
theorem dX8_notice_118 : decode cX8_notice 118 = .ok (.invokevirtual 286, 3) := by decide +kernel
theorem dX8_notice_121 : decode cX8_notice 121 = .ok (.putfield 289, 3) := by decide +kernel
theorem dX8_notice_124 : decode cX8_notice 124 = .ok (.aload_n 0, 1) := by decide +kernel
theorem dX8_notice_125 : decode cX8_notice 125 = .ok (.aload 6, 2) := by decide +kernel
theorem dX8_notice_127 : decode cX8_notice 127 = .ok (.getfield 289, 3) := by decide +kernel
theorem dX8_notice_130 : decode cX8_notice 130 = .ok (.invokevirtual 292, 3) := by decide +kernel
theorem dX8_notice_133 : decode cX8_notice 133 = .ok (.astore 7, 2) := by decide +kernel
theorem dX8_notice_135 : decode cX8_notice 135 = .ok (.aload 7, 2) := by decide +kernel
theorem dX8_notice_137 : decode cX8_notice 137 = .ok (.ifnull 9, 3) := by decide +kernel
theorem dX8_notice_140 : decode cX8_notice 140 = .ok (.aload 7, 2) := by decide +kernel
theorem dX8_notice_142 : decode cX8_notice 142 = .ok (.iconst 0, 1) := by decide +kernel
theorem dX8_notice_143 : decode cX8_notice 143 = .ok (.putfield 296, 3) := by decide +kernel
theorem dX8_notice_146 : decode cX8_notice 146 = .ok (.aload_n 0, 1) := by decide +kernel
theorem dX8_notice_147 : decode cX8_notice 147 = .ok (.getfield 30, 3) := by decide +kernel
theorem dX8_notice_150 : decode cX8_notice 150 = .ok (.iload 5, 2) := by decide +kernel
theorem dX8_notice_152 : decode cX8_notice 152 = .ok (.aload 6, 2) := by decide +kernel
theorem dX8_notice_154 : decode cX8_notice 154 = .ok (.aastore, 1) := by decide +kernel
theorem dX8_notice_155 : decode cX8_notice 155 = .ok (.aload_n 0, 1) := by decide +kernel
theorem dX8_notice_156 : decode cX8_notice 156 = .ok (.dup, 1) := by decide +kernel
theorem dX8_notice_157 : decode cX8_notice 157 = .ok (.getfield 164, 3) := by decide +kernel
theorem dX8_notice_160 : decode cX8_notice 160 = .ok (.iconst 1, 1) := by decide +kernel
theorem dX8_notice_161 : decode cX8_notice 161 = .ok (.iadd, 1) := by decide +kernel
theorem dX8_notice_162 : decode cX8_notice 162 = .ok (.putfield 164, 3) := by decide +kernel
theorem dX8_notice_165 : decode cX8_notice 165 = .ok (.iload 5, 2) := by decide +kernel
theorem dX8_notice_167 : decode cX8_notice 167 = .ok (.ireturn, 1) := by decide +kernel
theorem dX8_answer_0 : decode cX8_answer 0 = .ok (.aload_n 0, 1) := by decide +kernel
theorem dX8_answer_1 : decode cX8_answer 1 = .ok (.iload_n 1, 1) := by decide +kernel
theorem dX8_answer_2 : decode cX8_answer 2 = .ok (.invokevirtual 292, 3) := by decide +kernel
theorem dX8_answer_5 : decode cX8_answer 5 = .ok (.astore 4, 2) := by decide +kernel
theorem dX8_answer_7 : decode cX8_answer 7 = .ok (.aload 4, 2) := by decide +kernel
theorem dX8_answer_9 : decode cX8_answer 9 = .ok (.ifnull 14, 3) := by decide +kernel
theorem dX8_answer_12 : decode cX8_answer 12 = .ok (.aload_n 0, 1) := by decide +kernel
theorem dX8_answer_13 : decode cX8_answer 13 = .ok (.getfield 12, 3) := by decide +kernel
theorem dX8_answer_16 : decode cX8_answer 16 = .ok (.iload_n 2, 1) := by decide +kernel
theorem dX8_answer_17 : decode cX8_answer 17 = .ok (.invokevirtual 103, 3) := by decide +kernel
theorem dX8_answer_20 : decode cX8_answer 20 = .ok (.ifnonnull 6, 3) := by decide +kernel
theorem dX8_answer_23 : decode cX8_answer 23 = .ok (.ldc 107, 2) := by decide +kernel
theorem dX8_answer_25 : decode cX8_answer 25 = .ok (.ireturn, 1) := by decide +kernel
theorem dX8_answer_26 : decode cX8_answer 26 = .ok (.iload_n 3, 1) := by decide +kernel
theorem dX8_answer_27 : decode cX8_answer 27 = .ok (.iconst 1, 1) := by decide +kernel
theorem dX8_answer_28 : decode cX8_answer 28 = .ok (.if_icmp .eq 11, 3) := by decide +kernel
theorem dX8_answer_31 : decode cX8_answer 31 = .ok (.iload_n 3, 1) := by decide +kernel
theorem dX8_answer_32 : decode cX8_answer 32 = .ok (.iconst 2, 1) := by decide +kernel
theorem dX8_answer_33 : decode cX8_answer 33 = .ok (.if_icmp .eq 6, 3) := by decide +kernel
theorem dX8_answer_36 : decode cX8_answer 36 = .ok (.ldc 87, 2) := by decide +kernel
theorem dX8_answer_38 : decode cX8_answer 38 = .ok (.ireturn, 1) := by decide +kernel
theorem dX8_answer_39 : decode cX8_answer 39 = .ok (.iload_n 2, 1) := by decide +kernel
theorem dX8_answer_40 : decode cX8_answer 40 = .ok (.aload 4, 2) := by decide +kernel
theorem dX8_answer_42 : decode cX8_answer 42 = .ok (.getfield 280, 3) := by decide +kernel
theorem dX8_answer_45 : decode cX8_answer 45 = .ok (.if_icmp .eq 15, 3) := by decide +kernel
theorem dX8_answer_48 : decode cX8_answer 48 = .ok (.iload_n 2, 1) := by decide +kernel
theorem dX8_answer_49 : decode cX8_answer 49 = .ok (.aload 4, 2) := by decide +kernel
theorem dX8_answer_51 : decode cX8_answer 51 = .ok (.getfield 283, 3) := by decide +kernel
theorem dX8_answer_54 : decode cX8_answer 54 = .ok (.if_icmp .eq 6, 3) := by decide +kernel
theorem dX8_answer_57 : decode cX8_answer 57 = .ok (.ldc 116, 2) := by decide +kernel
theorem dX8_answer_59 : decode cX8_answer 59 = .ok (.ireturn, 1) := by decide +kernel
theorem dX8_answer_60 : decode cX8_answer 60 = .ok (.aload 4, 2) := by decide +kernel
theorem dX8_answer_62 : decode cX8_answer 62 = .ok (.getfield 296, 3) := by decide +kernel
theorem dX8_answer_65 : decode cX8_answer 65 = .ok (.ifCond .ne 15, 3) := by decide +kernel
theorem dX8_answer_68 : decode cX8_answer 68 = .ok (.aload_n 0, 1) := by decide +kernel
theorem dX8_answer_69 : decode cX8_answer 69 = .ok (.dup, 1) := by decide +kernel
theorem dX8_answer_70 : decode cX8_answer 70 = .ok (.getfield 170, 3) := by decide +kernel
theorem dX8_answer_73 : decode cX8_answer 73 = .ok (.iconst 1, 1) := by decide +kernel
theorem dX8_answer_74 : decode cX8_answer 74 = .ok (.iadd, 1) := by decide +kernel
theorem dX8_answer_75 : decode cX8_answer 75 = .ok (.putfield 170, 3) := by decide +kernel
theorem dX8_answer_78 : decode cX8_answer 78 = .ok (.iconst 0, 1) := by decide +kernel
theorem dX8_answer_79 : decode cX8_answer 79 = .ok (.ireturn, 1) := by decide +kernel
theorem dX8_answer_80 : decode cX8_answer 80 = .ok (.iload_n 2, 1) := by decide +kernel
theorem dX8_answer_81 : decode cX8_answer 81 = .ok (.aload 4, 2) := by decide +kernel
theorem dX8_answer_83 : decode cX8_answer 83 = .ok (.getfield 280, 3) := by decide +kernel
theorem dX8_answer_86 : decode cX8_answer 86 = .ok (.if_icmp .ne 12, 3) := by decide +kernel
theorem dX8_answer_89 : decode cX8_answer 89 = .ok (.aload 4, 2) := by decide +kernel
theorem dX8_answer_91 : decode cX8_answer 91 = .ok (.iload_n 3, 1) := by decide +kernel
theorem dX8_answer_92 : decode cX8_answer 92 = .ok (.putfield 299, 3) := by decide +kernel
theorem dX8_answer_95 : decode cX8_answer 95 = .ok (.goto 9, 3) := by decide +kernel
theorem dX8_answer_98 : decode cX8_answer 98 = .ok (.aload 4, 2) := by decide +kernel
theorem dX8_answer_100 : decode cX8_answer 100 = .ok (.iload_n 3, 1) := by decide +kernel
theorem dX8_answer_101 : decode cX8_answer 101 = .ok (.putfield 302, 3) := by decide +kernel
theorem dX8_answer_104 : decode cX8_answer 104 = .ok (.iconst 1, 1) := by decide +kernel
theorem dX8_answer_105 : decode cX8_answer 105 = .ok (.ireturn, 1) := by decide +kernel
theorem dX8_noticed_0 : decode cX8_noticed 0 = .ok (.aload_n 0, 1) := by decide +kernel
theorem dX8_noticed_1 : decode cX8_noticed 1 = .ok (.iload_n 1, 1) := by decide +kernel
theorem dX8_noticed_2 : decode cX8_noticed 2 = .ok (.invokevirtual 292, 3) := by decide +kernel
theorem dX8_noticed_5 : decode cX8_noticed 5 = .ok (.astore_n 3, 1) := by decide +kernel
theorem dX8_noticed_6 : decode cX8_noticed 6 = .ok (.aload_n 3, 1) := by decide +kernel
theorem dX8_noticed_7 : decode cX8_noticed 7 = .ok (.ifnonnull 6, 3) := by decide +kernel
theorem dX8_noticed_10 : decode cX8_noticed 10 = .ok (.ldc 107, 2) := by decide +kernel
theorem dX8_noticed_12 : decode cX8_noticed 12 = .ok (.ireturn, 1) := by decide +kernel
theorem dX8_noticed_13 : decode cX8_noticed 13 = .ok (.iload_n 2, 1) := by decide +kernel
theorem dX8_noticed_14 : decode cX8_noticed 14 = .ok (.tableswitch 94 0 7 #[46, 51, 56, 61, 66, 79, 84, 89], 46) := by decide +kernel
theorem dX8_noticed_60 : decode cX8_noticed 60 = .ok (.aload_n 3, 1) := by decide +kernel
theorem dX8_noticed_61 : decode cX8_noticed 61 = .ok (.getfield 280, 3) := by decide +kernel
theorem dX8_noticed_64 : decode cX8_noticed 64 = .ok (.ireturn, 1) := by decide +kernel
theorem dX8_noticed_65 : decode cX8_noticed 65 = .ok (.aload_n 3, 1) := by decide +kernel
theorem dX8_noticed_66 : decode cX8_noticed 66 = .ok (.getfield 283, 3) := by decide +kernel
theorem dX8_noticed_69 : decode cX8_noticed 69 = .ok (.ireturn, 1) := by decide +kernel
theorem dX8_noticed_70 : decode cX8_noticed 70 = .ok (.aload_n 3, 1) := by decide +kernel
theorem dX8_noticed_71 : decode cX8_noticed 71 = .ok (.getfield 305, 3) := by decide +kernel
theorem dX8_noticed_74 : decode cX8_noticed 74 = .ok (.ireturn, 1) := by decide +kernel
theorem dX8_noticed_75 : decode cX8_noticed 75 = .ok (.aload_n 3, 1) := by decide +kernel
theorem dX8_noticed_76 : decode cX8_noticed 76 = .ok (.getfield 307, 3) := by decide +kernel
theorem dX8_noticed_79 : decode cX8_noticed 79 = .ok (.ireturn, 1) := by decide +kernel
theorem dX8_noticed_80 : decode cX8_noticed 80 = .ok (.aload_n 3, 1) := by decide +kernel
theorem dX8_noticed_81 : decode cX8_noticed 81 = .ok (.getfield 296, 3) := by decide +kernel
theorem dX8_noticed_84 : decode cX8_noticed 84 = .ok (.ifCond .eq 7, 3) := by decide +kernel
theorem dX8_noticed_87 : decode cX8_noticed 87 = .ok (.iconst 1, 1) := by decide +kernel
theorem dX8_noticed_88 : decode cX8_noticed 88 = .ok (.goto 4, 3) := by decide +kernel
theorem dX8_noticed_91 : decode cX8_noticed 91 = .ok (.iconst 0, 1) := by decide +kernel
theorem dX8_noticed_92 : decode cX8_noticed 92 = .ok (.ireturn, 1) := by decide +kernel
theorem dX8_noticed_93 : decode cX8_noticed 93 = .ok (.aload_n 3, 1) := by decide +kernel
theorem dX8_noticed_94 : decode cX8_noticed 94 = .ok (.getfield 299, 3) := by decide +kernel
theorem dX8_noticed_97 : decode cX8_noticed 97 = .ok (.ireturn, 1) := by decide +kernel
theorem dX8_noticed_98 : decode cX8_noticed 98 = .ok (.aload_n 3, 1) := by decide +kernel
theorem dX8_noticed_99 : decode cX8_noticed 99 = .ok (.getfield 302, 3) := by decide +kernel
theorem dX8_noticed_102 : decode cX8_noticed 102 = .ok (.ireturn, 1) := by decide +kernel
theorem dX8_noticed_103 : decode cX8_noticed 103 = .ok (.aload_n 3, 1) := by decide +kernel
theorem dX8_noticed_104 : decode cX8_noticed 104 = .ok (.getfield 289, 3) := by decide +kernel
theorem dX8_noticed_107 : decode cX8_noticed 107 = .ok (.ireturn, 1) := by decide +kernel
theorem dX8_noticed_108 : decode cX8_noticed 108 = .ok (.ldc 87, 2) := by decide +kernel
theorem dX8_noticed_110 : decode cX8_noticed 110 = .ok (.ireturn, 1) := by decide +kernel
theorem dX8_keep_0 : decode cX8_keep 0 = .ok (.aload_n 0, 1) := by decide +kernel
theorem dX8_keep_1 : decode cX8_keep 1 = .ok (.iload_n 1, 1) := by decide +kernel
theorem dX8_keep_2 : decode cX8_keep 2 = .ok (.invokevirtual 308, 3) := by decide +kernel
theorem dX8_keep_5 : decode cX8_keep 5 = .ok (.astore_n 2, 1) := by decide +kernel
theorem dX8_keep_6 : decode cX8_keep 6 = .ok (.aload_n 2, 1) := by decide +kernel
theorem dX8_keep_7 : decode cX8_keep 7 = .ok (.ifnonnull 6, 3) := by decide +kernel
theorem dX8_keep_10 : decode cX8_keep 10 = .ok (.ldc 107, 2) := by decide +kernel
theorem dX8_keep_12 : decode cX8_keep 12 = .ok (.ireturn, 1) := by decide +kernel
theorem dX8_keep_13 : decode cX8_keep 13 = .ok (.aload_n 2, 1) := by decide +kernel
theorem dX8_keep_14 : decode cX8_keep 14 = .ok (.aload_n 0, 1) := by decide +kernel
theorem dX8_keep_15 : decode cX8_keep 15 = .ok (.getfield 12, 3) := by decide +kernel
theorem dX8_keep_18 : decode cX8_keep 18 = .ok (.invokevirtual 312, 3) := by decide +kernel
theorem dX8_keep_21 : decode cX8_keep 21 = .ok (.aload_n 2, 1) := by decide +kernel
theorem dX8_keep_22 : decode cX8_keep 22 = .ok (.getfield 88, 3) := by decide +kernel
theorem dX8_keep_25 : decode cX8_keep 25 = .ok (.ireturn, 1) := by decide +kernel
theorem dX8_differs_0 : decode cX8_differs 0 = .ok (.aload_n 0, 1) := by decide +kernel
theorem dX8_differs_1 : decode cX8_differs 1 = .ok (.iload_n 1, 1) := by decide +kernel
theorem dX8_differs_2 : decode cX8_differs 2 = .ok (.invokevirtual 308, 3) := by decide +kernel
theorem dX8_differs_5 : decode cX8_differs 5 = .ok (.astore_n 2, 1) := by decide +kernel
theorem dX8_differs_6 : decode cX8_differs 6 = .ok (.aload_n 2, 1) := by decide +kernel
theorem dX8_differs_7 : decode cX8_differs 7 = .ok (.ifnonnull 6, 3) := by decide +kernel
theorem dX8_differs_10 : decode cX8_differs 10 = .ok (.ldc 107, 2) := by decide +kernel
theorem dX8_differs_12 : decode cX8_differs 12 = .ok (.ireturn, 1) := by decide +kernel
theorem dX8_differs_13 : decode cX8_differs 13 = .ok (.aload_n 2, 1) := by decide +kernel
theorem dX8_differs_14 : decode cX8_differs 14 = .ok (.getfield 88, 3) := by decide +kernel
theorem dX8_differs_17 : decode cX8_differs 17 = .ok (.ifCond .ne 8, 3) := by decide +kernel
theorem dX8_differs_20 : decode cX8_differs 20 = .ok (.ldc 116, 2) := by decide +kernel
theorem dX8_differs_22 : decode cX8_differs 22 = .ok (.goto 11, 3) := by decide +kernel
theorem dX8_differs_25 : decode cX8_differs 25 = .ok (.aload_n 0, 1) := by decide +kernel
theorem dX8_differs_26 : decode cX8_differs 26 = .ok (.getfield 12, 3) := by decide +kernel
theorem dX8_differs_29 : decode cX8_differs 29 = .ok (.aload_n 2, 1) := by decide +kernel
theorem dX8_differs_30 : decode cX8_differs 30 = .ok (.invokevirtual 316, 3) := by decide +kernel
theorem dX8_differs_33 : decode cX8_differs 33 = .ok (.ireturn, 1) := by decide +kernel
theorem dX8_isWithin_0 : decode cX8_isWithin 0 = .ok (.iload_n 0, 1) := by decide +kernel
theorem dX8_isWithin_1 : decode cX8_isWithin 1 = .ok (.iload_n 1, 1) := by decide +kernel
theorem dX8_isWithin_2 : decode cX8_isWithin 2 = .ok (.if_icmp .lt 12, 3) := by decide +kernel
theorem dX8_isWithin_5 : decode cX8_isWithin 5 = .ok (.iload_n 0, 1) := by decide +kernel
theorem dX8_isWithin_6 : decode cX8_isWithin 6 = .ok (.iload_n 2, 1) := by decide +kernel
theorem dX8_isWithin_7 : decode cX8_isWithin 7 = .ok (.if_icmp .gt 7, 3) := by decide +kernel
theorem dX8_isWithin_10 : decode cX8_isWithin 10 = .ok (.iconst 1, 1) := by decide +kernel
theorem dX8_isWithin_11 : decode cX8_isWithin 11 = .ok (.goto 4, 3) := by decide +kernel
theorem dX8_isWithin_14 : decode cX8_isWithin 14 = .ok (.iconst 0, 1) := by decide +kernel
theorem dX8_isWithin_15 : decode cX8_isWithin 15 = .ok (.ireturn, 1) := by decide +kernel
theorem dX8_isStep_0 : decode cX8_isStep 0 = .ok (.iload_n 0, 1) := by decide +kernel
theorem dX8_isStep_1 : decode cX8_isStep 1 = .ok (.iconst 0, 1) := by decide +kernel
theorem dX8_isStep_2 : decode cX8_isStep 2 = .ok (.bipush 39, 2) := by decide +kernel
theorem dX8_isStep_4 : decode cX8_isStep 4 = .ok (.invokestatic 84, 3) := by decide +kernel
theorem dX8_isStep_7 : decode cX8_isStep 7 = .ok (.ireturn, 1) := by decide +kernel
theorem dX8_isPlace_0 : decode cX8_isPlace 0 = .ok (.iload_n 0, 1) := by decide +kernel
theorem dX8_isPlace_1 : decode cX8_isPlace 1 = .ok (.sipush (-5000), 3) := by decide +kernel
theorem dX8_isPlace_4 : decode cX8_isPlace 4 = .ok (.sipush 5000, 3) := by decide +kernel
theorem dX8_isPlace_7 : decode cX8_isPlace 7 = .ok (.invokestatic 84, 3) := by decide +kernel
theorem dX8_isPlace_10 : decode cX8_isPlace 10 = .ok (.ifCond .eq 33, 3) := by decide +kernel
theorem dX8_isPlace_13 : decode cX8_isPlace 13 = .ok (.iload_n 1, 1) := by decide +kernel
theorem dX8_isPlace_14 : decode cX8_isPlace 14 = .ok (.sipush (-5000), 3) := by decide +kernel
theorem dX8_isPlace_17 : decode cX8_isPlace 17 = .ok (.sipush 5000, 3) := by decide +kernel
theorem dX8_isPlace_20 : decode cX8_isPlace 20 = .ok (.invokestatic 84, 3) := by decide +kernel
theorem dX8_isPlace_23 : decode cX8_isPlace 23 = .ok (.ifCond .eq 20, 3) := by decide +kernel
theorem dX8_isPlace_26 : decode cX8_isPlace 26 = .ok (.iload_n 2, 1) := by decide +kernel
theorem dX8_isPlace_27 : decode cX8_isPlace 27 = .ok (.sipush (-5000), 3) := by decide +kernel
theorem dX8_isPlace_30 : decode cX8_isPlace 30 = .ok (.sipush 5000, 3) := by decide +kernel
theorem dX8_isPlace_33 : decode cX8_isPlace 33 = .ok (.invokestatic 84, 3) := by decide +kernel
theorem dX8_isPlace_36 : decode cX8_isPlace 36 = .ok (.ifCond .eq 7, 3) := by decide +kernel
theorem dX8_isPlace_39 : decode cX8_isPlace 39 = .ok (.iconst 1, 1) := by decide +kernel
theorem dX8_isPlace_40 : decode cX8_isPlace 40 = .ok (.goto 4, 3) := by decide +kernel
theorem dX8_isPlace_43 : decode cX8_isPlace 43 = .ok (.iconst 0, 1) := by decide +kernel
theorem dX8_isPlace_44 : decode cX8_isPlace 44 = .ok (.ireturn, 1) := by decide +kernel
theorem dX8_isBurn_0 : decode cX8_isBurn 0 = .ok (.iload_n 0, 1) := by decide +kernel
theorem dX8_isBurn_1 : decode cX8_isBurn 1 = .ok (.bipush (-2), 2) := by decide +kernel
theorem dX8_isBurn_3 : decode cX8_isBurn 3 = .ok (.iconst 2, 1) := by decide +kernel
theorem dX8_isBurn_4 : decode cX8_isBurn 4 = .ok (.invokestatic 84, 3) := by decide +kernel
theorem dX8_isBurn_7 : decode cX8_isBurn 7 = .ok (.ifCond .eq 36, 3) := by decide +kernel
theorem dX8_isBurn_10 : decode cX8_isBurn 10 = .ok (.iload_n 1, 1) := by decide +kernel
theorem dX8_isBurn_11 : decode cX8_isBurn 11 = .ok (.bipush (-2), 2) := by decide +kernel
theorem dX8_isBurn_13 : decode cX8_isBurn 13 = .ok (.iconst 2, 1) := by decide +kernel
theorem dX8_isBurn_14 : decode cX8_isBurn 14 = .ok (.invokestatic 84, 3) := by decide +kernel
theorem dX8_isBurn_17 : decode cX8_isBurn 17 = .ok (.ifCond .eq 26, 3) := by decide +kernel
theorem dX8_isBurn_20 : decode cX8_isBurn 20 = .ok (.iload_n 2, 1) := by decide +kernel
theorem dX8_isBurn_21 : decode cX8_isBurn 21 = .ok (.bipush (-2), 2) := by decide +kernel
theorem dX8_isBurn_23 : decode cX8_isBurn 23 = .ok (.iconst 2, 1) := by decide +kernel
theorem dX8_isBurn_24 : decode cX8_isBurn 24 = .ok (.invokestatic 84, 3) := by decide +kernel
theorem dX8_isBurn_27 : decode cX8_isBurn 27 = .ok (.ifCond .eq 16, 3) := by decide +kernel
theorem dX8_isBurn_30 : decode cX8_isBurn 30 = .ok (.iload_n 0, 1) := by decide +kernel
theorem dX8_isBurn_31 : decode cX8_isBurn 31 = .ok (.iload_n 1, 1) := by decide +kernel
theorem dX8_isBurn_32 : decode cX8_isBurn 32 = .ok (.iload_n 2, 1) := by decide +kernel
theorem dX8_isBurn_33 : decode cX8_isBurn 33 = .ok (.invokestatic 320, 3) := by decide +kernel
theorem dX8_isBurn_36 : decode cX8_isBurn 36 = .ok (.ifCond .le 7, 3) := by decide +kernel
theorem dX8_isBurn_39 : decode cX8_isBurn 39 = .ok (.iconst 1, 1) := by decide +kernel
theorem dX8_isBurn_40 : decode cX8_isBurn 40 = .ok (.goto 4, 3) := by decide +kernel
theorem dX8_isBurn_43 : decode cX8_isBurn 43 = .ok (.iconst 0, 1) := by decide +kernel
theorem dX8_isBurn_44 : decode cX8_isBurn 44 = .ok (.ireturn, 1) := by decide +kernel
theorem dX8_partDriftX_0 : decode cX8_partDriftX 0 = .ok (.iload_n 0, 1) := by decide +kernel
theorem dX8_partDriftX_1 : decode cX8_partDriftX 1 = .ok (.iload_n 1, 1) := by decide +kernel
theorem dX8_partDriftX_2 : decode cX8_partDriftX 2 = .ok (.iconst 2, 1) := by decide +kernel
theorem dX8_partDriftX_3 : decode cX8_partDriftX 3 = .ok (.idiv, 1) := by decide +kernel
theorem dX8_partDriftX_4 : decode cX8_partDriftX 4 = .ok (.isub, 1) := by decide +kernel
theorem dX8_partDriftX_5 : decode cX8_partDriftX 5 = .ok (.ireturn, 1) := by decide +kernel
theorem dX8_partDriftY_0 : decode cX8_partDriftY 0 = .ok (.iload_n 0, 1) := by decide +kernel
theorem dX8_partDriftY_1 : decode cX8_partDriftY 1 = .ok (.iconst 2, 1) := by decide +kernel
theorem dX8_partDriftY_2 : decode cX8_partDriftY 2 = .ok (.irem, 1) := by decide +kernel
theorem dX8_partDriftY_3 : decode cX8_partDriftY 3 = .ok (.iconst 2, 1) := by decide +kernel
theorem dX8_partDriftY_4 : decode cX8_partDriftY 4 = .ok (.imul, 1) := by decide +kernel
theorem dX8_partDriftY_5 : decode cX8_partDriftY 5 = .ok (.iconst 1, 1) := by decide +kernel
theorem dX8_partDriftY_6 : decode cX8_partDriftY 6 = .ok (.isub, 1) := by decide +kernel
theorem dX8_partDriftY_7 : decode cX8_partDriftY 7 = .ok (.ireturn, 1) := by decide +kernel
theorem dX8_partsStayInside_0 : decode cX8_partsStayInside 0 = .ok (.iconst 0, 1) := by decide +kernel
theorem dX8_partsStayInside_1 : decode cX8_partsStayInside 1 = .ok (.istore_n 3, 1) := by decide +kernel
theorem dX8_partsStayInside_2 : decode cX8_partsStayInside 2 = .ok (.iload_n 3, 1) := by decide +kernel
theorem dX8_partsStayInside_3 : decode cX8_partsStayInside 3 = .ok (.iload_n 2, 1) := by decide +kernel
theorem dX8_partsStayInside_4 : decode cX8_partsStayInside 4 = .ok (.if_icmp .ge 29, 3) := by decide +kernel
theorem dX8_partsStayInside_7 : decode cX8_partsStayInside 7 = .ok (.aload_n 0, 1) := by decide +kernel
theorem dX8_partsStayInside_8 : decode cX8_partsStayInside 8 = .ok (.iload_n 1, 1) := by decide +kernel
theorem dX8_partsStayInside_9 : decode cX8_partsStayInside 9 = .ok (.iload_n 3, 1) := by decide +kernel
theorem dX8_partsStayInside_10 : decode cX8_partsStayInside 10 = .ok (.iload_n 2, 1) := by decide +kernel
theorem dX8_partsStayInside_11 : decode cX8_partsStayInside 11 = .ok (.invokestatic 127, 3) := by decide +kernel
theorem dX8_partsStayInside_14 : decode cX8_partsStayInside 14 = .ok (.iload_n 3, 1) := by decide +kernel
theorem dX8_partsStayInside_15 : decode cX8_partsStayInside 15 = .ok (.invokestatic 131, 3) := by decide +kernel
theorem dX8_partsStayInside_18 : decode cX8_partsStayInside 18 = .ok (.iconst 0, 1) := by decide +kernel
theorem dX8_partsStayInside_19 : decode cX8_partsStayInside 19 = .ok (.invokevirtual 248, 3) := by decide +kernel
theorem dX8_partsStayInside_22 : decode cX8_partsStayInside 22 = .ok (.ifCond .ne 5, 3) := by decide +kernel
theorem dX8_partsStayInside_25 : decode cX8_partsStayInside 25 = .ok (.iconst 0, 1) := by decide +kernel
theorem dX8_partsStayInside_26 : decode cX8_partsStayInside 26 = .ok (.ireturn, 1) := by decide +kernel
theorem dX8_partsStayInside_27 : decode cX8_partsStayInside 27 = .ok (.iinc 3 1, 3) := by decide +kernel
theorem dX8_partsStayInside_30 : decode cX8_partsStayInside 30 = .ok (.goto (-28), 3) := by decide +kernel
theorem dX8_partsStayInside_33 : decode cX8_partsStayInside 33 = .ok (.iconst 1, 1) := by decide +kernel
theorem dX8_partsStayInside_34 : decode cX8_partsStayInside 34 = .ok (.ireturn, 1) := by decide +kernel
theorem dX8_addPart_0 : decode cX8_addPart 0 = .ok (.aload_n 0, 1) := by decide +kernel
theorem dX8_addPart_1 : decode cX8_addPart 1 = .ok (.getfield 12, 3) := by decide +kernel
theorem dX8_addPart_4 : decode cX8_addPart 4 = .ok (.invokevirtual 91, 3) := by decide +kernel
theorem dX8_addPart_7 : decode cX8_addPart 7 = .ok (.astore 5, 2) := by decide +kernel
theorem dX8_addPart_9 : decode cX8_addPart 9 = .ok (.aload 5, 2) := by decide +kernel
theorem dX8_addPart_11 : decode cX8_addPart 11 = .ok (.ifnull 20, 3) := by decide +kernel
theorem dX8_addPart_14 : decode cX8_addPart 14 = .ok (.aload 5, 2) := by decide +kernel
theorem dX8_addPart_16 : decode cX8_addPart 16 = .ok (.aload_n 1, 1) := by decide +kernel
theorem dX8_addPart_17 : decode cX8_addPart 17 = .ok (.iload_n 2, 1) := by decide +kernel
theorem dX8_addPart_18 : decode cX8_addPart 18 = .ok (.invokevirtual 324, 3) := by decide +kernel
theorem dX8_addPart_21 : decode cX8_addPart 21 = .ok (.aload 5, 2) := by decide +kernel
theorem dX8_addPart_23 : decode cX8_addPart 23 = .ok (.iload_n 2, 1) := by decide +kernel
theorem dX8_addPart_24 : decode cX8_addPart 24 = .ok (.iload_n 3, 1) := by decide +kernel
theorem dX8_addPart_25 : decode cX8_addPart 25 = .ok (.iload 4, 2) := by decide +kernel
theorem dX8_addPart_27 : decode cX8_addPart 27 = .ok (.iconst 0, 1) := by decide +kernel
theorem dX8_addPart_28 : decode cX8_addPart 28 = .ok (.invokevirtual 252, 3) := by decide +kernel
theorem dX8_addPart_31 : decode cX8_addPart 31 = .ok (.return_, 1) := by decide +kernel
theorem dX8_firstTogether_0 : decode cX8_firstTogether 0 = .ok (.aload_n 0, 1) := by decide +kernel
theorem dX8_firstTogether_1 : decode cX8_firstTogether 1 = .ok (.getfield 139, 3) := by decide +kernel
theorem dX8_firstTogether_4 : decode cX8_firstTogether 4 = .ok (.aload_n 1, 1) := by decide +kernel
theorem dX8_firstTogether_5 : decode cX8_firstTogether 5 = .ok (.getfield 139, 3) := by decide +kernel
theorem dX8_firstTogether_8 : decode cX8_firstTogether 8 = .ok (.invokestatic 274, 3) := by decide +kernel
theorem dX8_firstTogether_11 : decode cX8_firstTogether 11 = .ok (.ireturn, 1) := by decide +kernel
theorem dX8_lastTogether_0 : decode cX8_lastTogether 0 = .ok (.aload_n 0, 1) := by decide +kernel
theorem dX8_lastTogether_1 : decode cX8_lastTogether 1 = .ok (.invokevirtual 112, 3) := by decide +kernel
theorem dX8_lastTogether_4 : decode cX8_lastTogether 4 = .ok (.aload_n 1, 1) := by decide +kernel
theorem dX8_lastTogether_5 : decode cX8_lastTogether 5 = .ok (.invokevirtual 112, 3) := by decide +kernel
theorem dX8_lastTogether_8 : decode cX8_lastTogether 8 = .ok (.invokestatic 269, 3) := by decide +kernel
theorem dX8_lastTogether_11 : decode cX8_lastTogether 11 = .ok (.ireturn, 1) := by decide +kernel
theorem dX8_areApart_0 : decode cX8_areApart 0 = .ok (.iconst 0, 1) := by decide +kernel
theorem dX8_areApart_1 : decode cX8_areApart 1 = .ok (.istore 5, 2) := by decide +kernel
theorem dX8_areApart_3 : decode cX8_areApart 3 = .ok (.iload 5, 2) := by decide +kernel
theorem dX8_areApart_5 : decode cX8_areApart 5 = .ok (.iconst 3, 1) := by decide +kernel
theorem dX8_areApart_6 : decode cX8_areApart 6 = .ok (.if_icmp .ge 63, 3) := by decide +kernel
theorem dX8_areApart_9 : decode cX8_areApart 9 = .ok (.aload_n 1, 1) := by decide +kernel
theorem dX8_areApart_10 : decode cX8_areApart 10 = .ok (.iload_n 3, 1) := by decide +kernel
theorem dX8_areApart_11 : decode cX8_areApart 11 = .ok (.iload 4, 2) := by decide +kernel
theorem dX8_areApart_13 : decode cX8_areApart 13 = .ok (.iload 5, 2) := by decide +kernel
theorem dX8_areApart_15 : decode cX8_areApart 15 = .ok (.invokevirtual 327, 3) := by decide +kernel
theorem dX8_areApart_18 : decode cX8_areApart 18 = .ok (.aload_n 2, 1) := by decide +kernel
theorem dX8_areApart_19 : decode cX8_areApart 19 = .ok (.iload_n 3, 1) := by decide +kernel
theorem dX8_areApart_20 : decode cX8_areApart 20 = .ok (.iload 4, 2) := by decide +kernel
theorem dX8_areApart_22 : decode cX8_areApart 22 = .ok (.iload 5, 2) := by decide +kernel
theorem dX8_areApart_24 : decode cX8_areApart 24 = .ok (.invokevirtual 330, 3) := by decide +kernel
theorem dX8_areApart_27 : decode cX8_areApart 27 = .ok (.isub, 1) := by decide +kernel
theorem dX8_areApart_28 : decode cX8_areApart 28 = .ok (.aload_n 0, 1) := by decide +kernel
theorem dX8_areApart_29 : decode cX8_areApart 29 = .ok (.getfield 34, 3) := by decide +kernel
theorem dX8_areApart_32 : decode cX8_areApart 32 = .ok (.if_icmp .ge 29, 3) := by decide +kernel
theorem dX8_areApart_35 : decode cX8_areApart 35 = .ok (.aload_n 2, 1) := by decide +kernel
theorem dX8_areApart_36 : decode cX8_areApart 36 = .ok (.iload_n 3, 1) := by decide +kernel
theorem dX8_areApart_37 : decode cX8_areApart 37 = .ok (.iload 4, 2) := by decide +kernel
theorem dX8_areApart_39 : decode cX8_areApart 39 = .ok (.iload 5, 2) := by decide +kernel
theorem dX8_areApart_41 : decode cX8_areApart 41 = .ok (.invokevirtual 327, 3) := by decide +kernel
theorem dX8_areApart_44 : decode cX8_areApart 44 = .ok (.aload_n 1, 1) := by decide +kernel
theorem dX8_areApart_45 : decode cX8_areApart 45 = .ok (.iload_n 3, 1) := by decide +kernel
theorem dX8_areApart_46 : decode cX8_areApart 46 = .ok (.iload 4, 2) := by decide +kernel
theorem dX8_areApart_48 : decode cX8_areApart 48 = .ok (.iload 5, 2) := by decide +kernel
theorem dX8_areApart_50 : decode cX8_areApart 50 = .ok (.invokevirtual 330, 3) := by decide +kernel
theorem dX8_areApart_53 : decode cX8_areApart 53 = .ok (.isub, 1) := by decide +kernel
theorem dX8_areApart_54 : decode cX8_areApart 54 = .ok (.aload_n 0, 1) := by decide +kernel
theorem dX8_areApart_55 : decode cX8_areApart 55 = .ok (.getfield 34, 3) := by decide +kernel
theorem dX8_areApart_58 : decode cX8_areApart 58 = .ok (.if_icmp .lt 5, 3) := by decide +kernel
theorem dX8_areApart_61 : decode cX8_areApart 61 = .ok (.iconst 1, 1) := by decide +kernel
theorem dX8_areApart_62 : decode cX8_areApart 62 = .ok (.ireturn, 1) := by decide +kernel
theorem dX8_areApart_63 : decode cX8_areApart 63 = .ok (.iinc 5 1, 3) := by decide +kernel
theorem dX8_areApart_66 : decode cX8_areApart 66 = .ok (.goto (-63), 3) := by decide +kernel
theorem dX8_areApart_69 : decode cX8_areApart 69 = .ok (.iconst 0, 1) := by decide +kernel
theorem dX8_areApart_70 : decode cX8_areApart 70 = .ok (.ireturn, 1) := by decide +kernel
theorem dX8_areApartOnEachWay_0 : decode cX8_areApartOnEachWay 0 = .ok (.iload_n 3, 1) := by decide +kernel
theorem dX8_areApartOnEachWay_1 : decode cX8_areApartOnEachWay 1 = .ok (.iload 4, 2) := by decide +kernel
theorem dX8_areApartOnEachWay_3 : decode cX8_areApartOnEachWay 3 = .ok (.if_icmp .ne 13, 3) := by decide +kernel
theorem dX8_areApartOnEachWay_6 : decode cX8_areApartOnEachWay 6 = .ok (.aload_n 0, 1) := by decide +kernel
theorem dX8_areApartOnEachWay_7 : decode cX8_areApartOnEachWay 7 = .ok (.aload_n 1, 1) := by decide +kernel
theorem dX8_areApartOnEachWay_8 : decode cX8_areApartOnEachWay 8 = .ok (.aload_n 2, 1) := by decide +kernel
theorem dX8_areApartOnEachWay_9 : decode cX8_areApartOnEachWay 9 = .ok (.iload_n 3, 1) := by decide +kernel
theorem dX8_areApartOnEachWay_10 : decode cX8_areApartOnEachWay 10 = .ok (.iload 4, 2) := by decide +kernel
theorem dX8_areApartOnEachWay_12 : decode cX8_areApartOnEachWay 12 = .ok (.invokevirtual 180, 3) := by decide +kernel
theorem dX8_areApartOnEachWay_15 : decode cX8_areApartOnEachWay 15 = .ok (.ireturn, 1) := by decide +kernel
theorem dX8_areApartOnEachWay_16 : decode cX8_areApartOnEachWay 16 = .ok (.iload_n 3, 1) := by decide +kernel
theorem dX8_areApartOnEachWay_17 : decode cX8_areApartOnEachWay 17 = .ok (.istore 5, 2) := by decide +kernel
theorem dX8_areApartOnEachWay_19 : decode cX8_areApartOnEachWay 19 = .ok (.iload 5, 2) := by decide +kernel
theorem dX8_areApartOnEachWay_21 : decode cX8_areApartOnEachWay 21 = .ok (.iload 4, 2) := by decide +kernel
theorem dX8_areApartOnEachWay_23 : decode cX8_areApartOnEachWay 23 = .ok (.if_icmp .ge 26, 3) := by decide +kernel
theorem dX8_areApartOnEachWay_26 : decode cX8_areApartOnEachWay 26 = .ok (.aload_n 0, 1) := by decide +kernel
theorem dX8_areApartOnEachWay_27 : decode cX8_areApartOnEachWay 27 = .ok (.aload_n 1, 1) := by decide +kernel
theorem dX8_areApartOnEachWay_28 : decode cX8_areApartOnEachWay 28 = .ok (.aload_n 2, 1) := by decide +kernel
theorem dX8_areApartOnEachWay_29 : decode cX8_areApartOnEachWay 29 = .ok (.iload 5, 2) := by decide +kernel
theorem dX8_areApartOnEachWay_31 : decode cX8_areApartOnEachWay 31 = .ok (.iload 5, 2) := by decide +kernel
theorem dX8_areApartOnEachWay_33 : decode cX8_areApartOnEachWay 33 = .ok (.iconst 1, 1) := by decide +kernel
theorem dX8_areApartOnEachWay_34 : decode cX8_areApartOnEachWay 34 = .ok (.iadd, 1) := by decide +kernel
theorem dX8_areApartOnEachWay_35 : decode cX8_areApartOnEachWay 35 = .ok (.invokevirtual 180, 3) := by decide +kernel
theorem dX8_areApartOnEachWay_38 : decode cX8_areApartOnEachWay 38 = .ok (.ifCond .ne 5, 3) := by decide +kernel
theorem dX8_areApartOnEachWay_41 : decode cX8_areApartOnEachWay 41 = .ok (.iconst 0, 1) := by decide +kernel
theorem dX8_areApartOnEachWay_42 : decode cX8_areApartOnEachWay 42 = .ok (.ireturn, 1) := by decide +kernel
theorem dX8_areApartOnEachWay_43 : decode cX8_areApartOnEachWay 43 = .ok (.iinc 5 1, 3) := by decide +kernel
theorem dX8_areApartOnEachWay_46 : decode cX8_areApartOnEachWay 46 = .ok (.goto (-27), 3) := by decide +kernel
theorem dX8_areApartOnEachWay_49 : decode cX8_areApartOnEachWay 49 = .ok (.iconst 1, 1) := by decide +kernel
theorem dX8_areApartOnEachWay_50 : decode cX8_areApartOnEachWay 50 = .ok (.ireturn, 1) := by decide +kernel
theorem dX8_findNearest_0 : decode cX8_findNearest 0 = .ok (.aload_n 1, 1) := by decide +kernel
theorem dX8_findNearest_1 : decode cX8_findNearest 1 = .ok (.aload_n 2, 1) := by decide +kernel
theorem dX8_findNearest_2 : decode cX8_findNearest 2 = .ok (.invokestatic 173, 3) := by decide +kernel
theorem dX8_findNearest_5 : decode cX8_findNearest 5 = .ok (.istore_n 3, 1) := by decide +kernel
theorem dX8_findNearest_6 : decode cX8_findNearest 6 = .ok (.aload_n 1, 1) := by decide +kernel
theorem dX8_findNearest_7 : decode cX8_findNearest 7 = .ok (.aload_n 2, 1) := by decide +kernel
theorem dX8_findNearest_8 : decode cX8_findNearest 8 = .ok (.invokestatic 177, 3) := by decide +kernel
theorem dX8_findNearest_11 : decode cX8_findNearest 11 = .ok (.istore 4, 2) := by decide +kernel
theorem dX8_findNearest_13 : decode cX8_findNearest 13 = .ok (.iload_n 3, 1) := by decide +kernel
theorem dX8_findNearest_14 : decode cX8_findNearest 14 = .ok (.istore 5, 2) := by decide +kernel
theorem dX8_findNearest_16 : decode cX8_findNearest 16 = .ok (.iload 5, 2) := by decide +kernel
theorem dX8_findNearest_18 : decode cX8_findNearest 18 = .ok (.iload 4, 2) := by decide +kernel
theorem dX8_findNearest_20 : decode cX8_findNearest 20 = .ok (.if_icmp .gt 78, 3) := by decide +kernel
theorem dX8_findNearest_23 : decode cX8_findNearest 23 = .ok (.aload_n 0, 1) := by decide +kernel
theorem dX8_findNearest_24 : decode cX8_findNearest 24 = .ok (.getfield 44, 3) := by decide +kernel
theorem dX8_findNearest_27 : decode cX8_findNearest 27 = .ok (.aload_n 1, 1) := by decide +kernel
theorem dX8_findNearest_28 : decode cX8_findNearest 28 = .ok (.aload_n 2, 1) := by decide +kernel
theorem dX8_findNearest_29 : decode cX8_findNearest 29 = .ok (.iload 5, 2) := by decide +kernel
theorem dX8_findNearest_31 : decode cX8_findNearest 31 = .ok (.iload 5, 2) := by decide +kernel
theorem dX8_findNearest_33 : decode cX8_findNearest 33 = .ok (.iload 4, 2) := by decide +kernel
theorem dX8_findNearest_35 : decode cX8_findNearest 35 = .ok (.if_icmp .ge 7, 3) := by decide +kernel
theorem dX8_findNearest_38 : decode cX8_findNearest 38 = .ok (.iconst 1, 1) := by decide +kernel
theorem dX8_findNearest_39 : decode cX8_findNearest 39 = .ok (.goto 4, 3) := by decide +kernel
theorem dX8_findNearest_42 : decode cX8_findNearest 42 = .ok (.iconst 0, 1) := by decide +kernel
theorem dX8_findNearest_43 : decode cX8_findNearest 43 = .ok (.invokevirtual 333, 3) := by decide +kernel
theorem dX8_findNearest_46 : decode cX8_findNearest 46 = .ok (.iload 5, 2) := by decide +kernel
theorem dX8_findNearest_48 : decode cX8_findNearest 48 = .ok (.iload_n 3, 1) := by decide +kernel
theorem dX8_findNearest_49 : decode cX8_findNearest 49 = .ok (.if_icmp .eq 30, 3) := by decide +kernel
theorem dX8_findNearest_52 : decode cX8_findNearest 52 = .ok (.aload_n 0, 1) := by decide +kernel
theorem dX8_findNearest_53 : decode cX8_findNearest 53 = .ok (.getfield 51, 3) := by decide +kernel
theorem dX8_findNearest_56 : decode cX8_findNearest 56 = .ok (.getfield 197, 3) := by decide +kernel
theorem dX8_findNearest_59 : decode cX8_findNearest 59 = .ok (.aload_n 0, 1) := by decide +kernel
theorem dX8_findNearest_60 : decode cX8_findNearest 60 = .ok (.getfield 44, 3) := by decide +kernel
theorem dX8_findNearest_63 : decode cX8_findNearest 63 = .ok (.getfield 337, 3) := by decide +kernel
theorem dX8_findNearest_66 : decode cX8_findNearest 66 = .ok (.aload_n 0, 1) := by decide +kernel
theorem dX8_findNearest_67 : decode cX8_findNearest 67 = .ok (.getfield 44, 3) := by decide +kernel
theorem dX8_findNearest_70 : decode cX8_findNearest 70 = .ok (.getfield 338, 3) := by decide +kernel
theorem dX8_findNearest_73 : decode cX8_findNearest 73 = .ok (.invokevirtual 339, 3) := by decide +kernel
theorem dX8_findNearest_76 : decode cX8_findNearest 76 = .ok (.ifCond .eq 16, 3) := by decide +kernel
theorem dX8_findNearest_79 : decode cX8_findNearest 79 = .ok (.aload_n 0, 1) := by decide +kernel
theorem dX8_findNearest_80 : decode cX8_findNearest 80 = .ok (.getfield 51, 3) := by decide +kernel
theorem dX8_findNearest_83 : decode cX8_findNearest 83 = .ok (.aload_n 0, 1) := by decide +kernel
theorem dX8_findNearest_84 : decode cX8_findNearest 84 = .ok (.getfield 44, 3) := by decide +kernel
theorem dX8_findNearest_87 : decode cX8_findNearest 87 = .ok (.iload 5, 2) := by decide +kernel
theorem dX8_findNearest_89 : decode cX8_findNearest 89 = .ok (.invokevirtual 343, 3) := by decide +kernel
theorem dX8_findNearest_92 : decode cX8_findNearest 92 = .ok (.iinc 5 1, 3) := by decide +kernel
theorem dX8_findNearest_95 : decode cX8_findNearest 95 = .ok (.goto (-79), 3) := by decide +kernel
theorem dX8_findNearest_98 : decode cX8_findNearest 98 = .ok (.iload_n 3, 1) := by decide +kernel
theorem dX8_findNearest_99 : decode cX8_findNearest 99 = .ok (.iload 4, 2) := by decide +kernel
theorem dX8_findNearest_101 : decode cX8_findNearest 101 = .ok (.if_icmp .gt 7, 3) := by decide +kernel
theorem dX8_findNearest_104 : decode cX8_findNearest 104 = .ok (.iconst 1, 1) := by decide +kernel
theorem dX8_findNearest_105 : decode cX8_findNearest 105 = .ok (.goto 4, 3) := by decide +kernel
theorem dX8_findNearest_108 : decode cX8_findNearest 108 = .ok (.iconst 0, 1) := by decide +kernel
theorem dX8_findNearest_109 : decode cX8_findNearest 109 = .ok (.ireturn, 1) := by decide +kernel
theorem dX8_comeNear_0 : decode cX8_comeNear 0 = .ok (.aload_n 0, 1) := by decide +kernel
theorem dX8_comeNear_1 : decode cX8_comeNear 1 = .ok (.getfield 34, 3) := by decide +kernel
theorem dX8_comeNear_4 : decode cX8_comeNear 4 = .ok (.i2l, 1) := by decide +kernel
theorem dX8_comeNear_5 : decode cX8_comeNear 5 = .ok (.aload_n 0, 1) := by decide +kernel
theorem dX8_comeNear_6 : decode cX8_comeNear 6 = .ok (.getfield 34, 3) := by decide +kernel
theorem dX8_comeNear_9 : decode cX8_comeNear 9 = .ok (.i2l, 1) := by decide +kernel
theorem dX8_comeNear_10 : decode cX8_comeNear 10 = .ok (.lmul, 1) := by decide +kernel
theorem dX8_comeNear_11 : decode cX8_comeNear 11 = .ok (.lstore 5, 2) := by decide +kernel
theorem dX8_comeNear_13 : decode cX8_comeNear 13 = .ok (.iload_n 3, 1) := by decide +kernel
theorem dX8_comeNear_14 : decode cX8_comeNear 14 = .ok (.aload_n 1, 1) := by decide +kernel
theorem dX8_comeNear_15 : decode cX8_comeNear 15 = .ok (.aload_n 2, 1) := by decide +kernel
theorem dX8_comeNear_16 : decode cX8_comeNear 16 = .ok (.invokestatic 173, 3) := by decide +kernel
theorem dX8_comeNear_19 : decode cX8_comeNear 19 = .ok (.invokestatic 274, 3) := by decide +kernel
theorem dX8_comeNear_22 : decode cX8_comeNear 22 = .ok (.istore 7, 2) := by decide +kernel
theorem dX8_comeNear_24 : decode cX8_comeNear 24 = .ok (.iload 4, 2) := by decide +kernel
theorem dX8_comeNear_26 : decode cX8_comeNear 26 = .ok (.aload_n 1, 1) := by decide +kernel
theorem dX8_comeNear_27 : decode cX8_comeNear 27 = .ok (.aload_n 2, 1) := by decide +kernel
theorem dX8_comeNear_28 : decode cX8_comeNear 28 = .ok (.invokestatic 177, 3) := by decide +kernel
theorem dX8_comeNear_31 : decode cX8_comeNear 31 = .ok (.invokestatic 269, 3) := by decide +kernel
theorem dX8_comeNear_34 : decode cX8_comeNear 34 = .ok (.istore 8, 2) := by decide +kernel
theorem dX8_comeNear_36 : decode cX8_comeNear 36 = .ok (.iload 7, 2) := by decide +kernel
theorem dX8_comeNear_38 : decode cX8_comeNear 38 = .ok (.istore 9, 2) := by decide +kernel
theorem dX8_comeNear_40 : decode cX8_comeNear 40 = .ok (.iload 9, 2) := by decide +kernel
theorem dX8_comeNear_42 : decode cX8_comeNear 42 = .ok (.iload 8, 2) := by decide +kernel
theorem dX8_comeNear_44 : decode cX8_comeNear 44 = .ok (.if_icmp .gt 55, 3) := by decide +kernel
theorem dX8_comeNear_47 : decode cX8_comeNear 47 = .ok (.aload_n 0, 1) := by decide +kernel
theorem dX8_comeNear_48 : decode cX8_comeNear 48 = .ok (.getfield 44, 3) := by decide +kernel
theorem dX8_comeNear_51 : decode cX8_comeNear 51 = .ok (.aload_n 1, 1) := by decide +kernel
theorem dX8_comeNear_52 : decode cX8_comeNear 52 = .ok (.aload_n 2, 1) := by decide +kernel
theorem dX8_comeNear_53 : decode cX8_comeNear 53 = .ok (.iload 9, 2) := by decide +kernel
theorem dX8_comeNear_55 : decode cX8_comeNear 55 = .ok (.iload 9, 2) := by decide +kernel
theorem dX8_comeNear_57 : decode cX8_comeNear 57 = .ok (.iload 8, 2) := by decide +kernel
theorem dX8_comeNear_59 : decode cX8_comeNear 59 = .ok (.if_icmp .ge 7, 3) := by decide +kernel
theorem dX8_comeNear_62 : decode cX8_comeNear 62 = .ok (.iconst 1, 1) := by decide +kernel
theorem dX8_comeNear_63 : decode cX8_comeNear 63 = .ok (.goto 4, 3) := by decide +kernel
theorem dX8_comeNear_66 : decode cX8_comeNear 66 = .ok (.iconst 0, 1) := by decide +kernel
theorem dX8_comeNear_67 : decode cX8_comeNear 67 = .ok (.invokevirtual 333, 3) := by decide +kernel
theorem dX8_comeNear_70 : decode cX8_comeNear 70 = .ok (.aload_n 0, 1) := by decide +kernel
theorem dX8_comeNear_71 : decode cX8_comeNear 71 = .ok (.getfield 44, 3) := by decide +kernel
theorem dX8_comeNear_74 : decode cX8_comeNear 74 = .ok (.getfield 337, 3) := by decide +kernel
theorem dX8_comeNear_77 : decode cX8_comeNear 77 = .ok (.lload 5, 2) := by decide +kernel
theorem dX8_comeNear_79 : decode cX8_comeNear 79 = .ok (.aload_n 0, 1) := by decide +kernel
theorem dX8_comeNear_80 : decode cX8_comeNear 80 = .ok (.getfield 44, 3) := by decide +kernel
theorem dX8_comeNear_83 : decode cX8_comeNear 83 = .ok (.getfield 338, 3) := by decide +kernel
theorem dX8_comeNear_86 : decode cX8_comeNear 86 = .ok (.lmul, 1) := by decide +kernel
theorem dX8_comeNear_87 : decode cX8_comeNear 87 = .ok (.lcmp, 1) := by decide +kernel
theorem dX8_comeNear_88 : decode cX8_comeNear 88 = .ok (.ifCond .ge 5, 3) := by decide +kernel
theorem dX8_comeNear_91 : decode cX8_comeNear 91 = .ok (.iconst 1, 1) := by decide +kernel
theorem dX8_comeNear_92 : decode cX8_comeNear 92 = .ok (.ireturn, 1) := by decide +kernel
theorem dX8_comeNear_93 : decode cX8_comeNear 93 = .ok (.iinc 9 1, 3) := by decide +kernel
theorem dX8_comeNear_96 : decode cX8_comeNear 96 = .ok (.goto (-56), 3) := by decide +kernel
theorem dX8_comeNear_99 : decode cX8_comeNear 99 = .ok (.iconst 0, 1) := by decide +kernel
theorem dX8_comeNear_100 : decode cX8_comeNear 100 = .ok (.ireturn, 1) := by decide +kernel
theorem dX8_doMeet_0 : decode cX8_doMeet 0 = .ok (.aload_n 0, 1) := by decide +kernel
theorem dX8_doMeet_1 : decode cX8_doMeet 1 = .ok (.getfield 12, 3) := by decide +kernel
theorem dX8_doMeet_4 : decode cX8_doMeet 4 = .ok (.iload_n 1, 1) := by decide +kernel
theorem dX8_doMeet_5 : decode cX8_doMeet 5 = .ok (.invokevirtual 103, 3) := by decide +kernel
theorem dX8_doMeet_8 : decode cX8_doMeet 8 = .ok (.astore_n 3, 1) := by decide +kernel
theorem dX8_doMeet_9 : decode cX8_doMeet 9 = .ok (.aload_n 0, 1) := by decide +kernel
theorem dX8_doMeet_10 : decode cX8_doMeet 10 = .ok (.getfield 12, 3) := by decide +kernel
theorem dX8_doMeet_13 : decode cX8_doMeet 13 = .ok (.iload_n 2, 1) := by decide +kernel
theorem dX8_doMeet_14 : decode cX8_doMeet 14 = .ok (.invokevirtual 103, 3) := by decide +kernel
theorem dX8_doMeet_17 : decode cX8_doMeet 17 = .ok (.astore 4, 2) := by decide +kernel
theorem dX8_doMeet_19 : decode cX8_doMeet 19 = .ok (.aload_n 3, 1) := by decide +kernel
theorem dX8_doMeet_20 : decode cX8_doMeet 20 = .ok (.ifnull 23, 3) := by decide +kernel
theorem dX8_doMeet_23 : decode cX8_doMeet 23 = .ok (.aload 4, 2) := by decide +kernel
theorem dX8_doMeet_25 : decode cX8_doMeet 25 = .ok (.ifnull 18, 3) := by decide +kernel
theorem dX8_doMeet_28 : decode cX8_doMeet 28 = .ok (.aload_n 3, 1) := by decide +kernel
theorem dX8_doMeet_29 : decode cX8_doMeet 29 = .ok (.getfield 108, 3) := by decide +kernel
theorem dX8_doMeet_32 : decode cX8_doMeet 32 = .ok (.ifCond .ne 11, 3) := by decide +kernel
theorem dX8_doMeet_35 : decode cX8_doMeet 35 = .ok (.aload 4, 2) := by decide +kernel
theorem dX8_doMeet_37 : decode cX8_doMeet 37 = .ok (.getfield 108, 3) := by decide +kernel
theorem dX8_doMeet_40 : decode cX8_doMeet 40 = .ok (.ifCond .eq 5, 3) := by decide +kernel
theorem dX8_doMeet_43 : decode cX8_doMeet 43 = .ok (.iconst 0, 1) := by decide +kernel
theorem dX8_doMeet_44 : decode cX8_doMeet 44 = .ok (.ireturn, 1) := by decide +kernel
theorem dX8_doMeet_45 : decode cX8_doMeet 45 = .ok (.aload_n 0, 1) := by decide +kernel
theorem dX8_doMeet_46 : decode cX8_doMeet 46 = .ok (.aload_n 3, 1) := by decide +kernel
theorem dX8_doMeet_47 : decode cX8_doMeet 47 = .ok (.aload 4, 2) := by decide +kernel
theorem dX8_doMeet_49 : decode cX8_doMeet 49 = .ok (.iconst 0, 1) := by decide +kernel
theorem dX8_doMeet_50 : decode cX8_doMeet 50 = .ok (.bipush 39, 2) := by decide +kernel
theorem dX8_doMeet_52 : decode cX8_doMeet 52 = .ok (.invokevirtual 347, 3) := by decide +kernel
theorem dX8_doMeet_55 : decode cX8_doMeet 55 = .ok (.ireturn, 1) := by decide +kernel
theorem dX8_countMeetings_0 : decode cX8_countMeetings 0 = .ok (.iconst 0, 1) := by decide +kernel
theorem dX8_countMeetings_1 : decode cX8_countMeetings 1 = .ok (.istore_n 1, 1) := by decide +kernel
theorem dX8_countMeetings_2 : decode cX8_countMeetings 2 = .ok (.iconst 0, 1) := by decide +kernel
theorem dX8_countMeetings_3 : decode cX8_countMeetings 3 = .ok (.istore_n 2, 1) := by decide +kernel
theorem dX8_countMeetings_4 : decode cX8_countMeetings 4 = .ok (.iload_n 2, 1) := by decide +kernel
theorem dX8_countMeetings_5 : decode cX8_countMeetings 5 = .ok (.aload_n 0, 1) := by decide +kernel
theorem dX8_countMeetings_6 : decode cX8_countMeetings 6 = .ok (.getfield 12, 3) := by decide +kernel
theorem dX8_countMeetings_9 : decode cX8_countMeetings 9 = .ok (.getfield 88, 3) := by decide +kernel
theorem dX8_countMeetings_12 : decode cX8_countMeetings 12 = .ok (.if_icmp .ge 42, 3) := by decide +kernel
theorem dX8_countMeetings_15 : decode cX8_countMeetings 15 = .ok (.iload_n 2, 1) := by decide +kernel
theorem dX8_countMeetings_16 : decode cX8_countMeetings 16 = .ok (.iconst 1, 1) := by decide +kernel
theorem dX8_countMeetings_17 : decode cX8_countMeetings 17 = .ok (.iadd, 1) := by decide +kernel
theorem dX8_countMeetings_18 : decode cX8_countMeetings 18 = .ok (.istore_n 3, 1) := by decide +kernel
theorem dX8_countMeetings_19 : decode cX8_countMeetings 19 = .ok (.iload_n 3, 1) := by decide +kernel
theorem dX8_countMeetings_20 : decode cX8_countMeetings 20 = .ok (.aload_n 0, 1) := by decide +kernel
theorem dX8_countMeetings_21 : decode cX8_countMeetings 21 = .ok (.getfield 12, 3) := by decide +kernel
theorem dX8_countMeetings_24 : decode cX8_countMeetings 24 = .ok (.getfield 88, 3) := by decide +kernel
theorem dX8_countMeetings_27 : decode cX8_countMeetings 27 = .ok (.if_icmp .ge 21, 3) := by decide +kernel
theorem dX8_countMeetings_30 : decode cX8_countMeetings 30 = .ok (.aload_n 0, 1) := by decide +kernel
theorem dX8_countMeetings_31 : decode cX8_countMeetings 31 = .ok (.iload_n 2, 1) := by decide +kernel
theorem dX8_countMeetings_32 : decode cX8_countMeetings 32 = .ok (.iload_n 3, 1) := by decide +kernel
theorem dX8_countMeetings_33 : decode cX8_countMeetings 33 = .ok (.invokevirtual 213, 3) := by decide +kernel
theorem dX8_countMeetings_36 : decode cX8_countMeetings 36 = .ok (.ifCond .eq 6, 3) := by decide +kernel
theorem dX8_countMeetings_39 : decode cX8_countMeetings 39 = .ok (.iinc 1 1, 3) := by decide +kernel
theorem dX8_countMeetings_42 : decode cX8_countMeetings 42 = .ok (.iinc 3 1, 3) := by decide +kernel
theorem dX8_countMeetings_45 : decode cX8_countMeetings 45 = .ok (.goto (-26), 3) := by decide +kernel
theorem dX8_countMeetings_48 : decode cX8_countMeetings 48 = .ok (.iinc 2 1, 3) := by decide +kernel
theorem dX8_countMeetings_51 : decode cX8_countMeetings 51 = .ok (.goto (-47), 3) := by decide +kernel
theorem dX8_countMeetings_54 : decode cX8_countMeetings 54 = .ok (.iload_n 1, 1) := by decide +kernel
theorem dX8_countMeetings_55 : decode cX8_countMeetings 55 = .ok (.ireturn, 1) := by decide +kernel
theorem dX8_meetingsOf_0 : decode cX8_meetingsOf 0 = .ok (.iconst 0, 1) := by decide +kernel
theorem dX8_meetingsOf_1 : decode cX8_meetingsOf 1 = .ok (.istore_n 3, 1) := by decide +kernel
theorem dX8_meetingsOf_2 : decode cX8_meetingsOf 2 = .ok (.iconst 0, 1) := by decide +kernel
theorem dX8_meetingsOf_3 : decode cX8_meetingsOf 3 = .ok (.istore 4, 2) := by decide +kernel
theorem dX8_meetingsOf_5 : decode cX8_meetingsOf 5 = .ok (.iload 4, 2) := by decide +kernel
theorem dX8_meetingsOf_7 : decode cX8_meetingsOf 7 = .ok (.aload_n 0, 1) := by decide +kernel
theorem dX8_meetingsOf_8 : decode cX8_meetingsOf 8 = .ok (.getfield 12, 3) := by decide +kernel
theorem dX8_meetingsOf_11 : decode cX8_meetingsOf 11 = .ok (.getfield 88, 3) := by decide +kernel
theorem dX8_meetingsOf_14 : decode cX8_meetingsOf 14 = .ok (.if_icmp .ge 54, 3) := by decide +kernel
theorem dX8_meetingsOf_17 : decode cX8_meetingsOf 17 = .ok (.aload_n 0, 1) := by decide +kernel
theorem dX8_meetingsOf_18 : decode cX8_meetingsOf 18 = .ok (.getfield 12, 3) := by decide +kernel
theorem dX8_meetingsOf_21 : decode cX8_meetingsOf 21 = .ok (.iload 4, 2) := by decide +kernel
theorem dX8_meetingsOf_23 : decode cX8_meetingsOf 23 = .ok (.invokevirtual 103, 3) := by decide +kernel
theorem dX8_meetingsOf_26 : decode cX8_meetingsOf 26 = .ok (.astore 5, 2) := by decide +kernel
theorem dX8_meetingsOf_28 : decode cX8_meetingsOf 28 = .ok (.iload_n 1, 1) := by decide +kernel
theorem dX8_meetingsOf_29 : decode cX8_meetingsOf 29 = .ok (.iload 4, 2) := by decide +kernel
theorem dX8_meetingsOf_31 : decode cX8_meetingsOf 31 = .ok (.aload 5, 2) := by decide +kernel
theorem dX8_meetingsOf_33 : decode cX8_meetingsOf 33 = .ok (.invokestatic 350, 3) := by decide +kernel
theorem dX8_meetingsOf_36 : decode cX8_meetingsOf 36 = .ok (.ifCond .eq 26, 3) := by decide +kernel
theorem dX8_meetingsOf_39 : decode cX8_meetingsOf 39 = .ok (.aload_n 2, 1) := by decide +kernel
theorem dX8_meetingsOf_40 : decode cX8_meetingsOf 40 = .ok (.getfield 108, 3) := by decide +kernel
theorem dX8_meetingsOf_43 : decode cX8_meetingsOf 43 = .ok (.ifCond .ne 19, 3) := by decide +kernel
theorem dX8_meetingsOf_46 : decode cX8_meetingsOf 46 = .ok (.aload_n 0, 1) := by decide +kernel
theorem dX8_meetingsOf_47 : decode cX8_meetingsOf 47 = .ok (.aload_n 2, 1) := by decide +kernel
theorem dX8_meetingsOf_48 : decode cX8_meetingsOf 48 = .ok (.aload 5, 2) := by decide +kernel
theorem dX8_meetingsOf_50 : decode cX8_meetingsOf 50 = .ok (.iconst 0, 1) := by decide +kernel
theorem dX8_meetingsOf_51 : decode cX8_meetingsOf 51 = .ok (.bipush 39, 2) := by decide +kernel
theorem dX8_meetingsOf_53 : decode cX8_meetingsOf 53 = .ok (.invokevirtual 347, 3) := by decide +kernel
theorem dX8_meetingsOf_56 : decode cX8_meetingsOf 56 = .ok (.ifCond .eq 6, 3) := by decide +kernel
theorem dX8_meetingsOf_59 : decode cX8_meetingsOf 59 = .ok (.iinc 3 1, 3) := by decide +kernel
theorem dX8_meetingsOf_62 : decode cX8_meetingsOf 62 = .ok (.iinc 4 1, 3) := by decide +kernel
theorem dX8_meetingsOf_65 : decode cX8_meetingsOf 65 = .ok (.goto (-60), 3) := by decide +kernel
theorem dX8_meetingsOf_68 : decode cX8_meetingsOf 68 = .ok (.iload_n 3, 1) := by decide +kernel
theorem dX8_meetingsOf_69 : decode cX8_meetingsOf 69 = .ok (.ireturn, 1) := by decide +kernel
theorem dX8_isOtherThere_0 : decode cX8_isOtherThere 0 = .ok (.iload_n 0, 1) := by decide +kernel
theorem dX8_isOtherThere_1 : decode cX8_isOtherThere 1 = .ok (.iload_n 1, 1) := by decide +kernel
theorem dX8_isOtherThere_2 : decode cX8_isOtherThere 2 = .ok (.if_icmp .eq 18, 3) := by decide +kernel
theorem dX8_isOtherThere_5 : decode cX8_isOtherThere 5 = .ok (.aload_n 2, 1) := by decide +kernel
theorem dX8_isOtherThere_6 : decode cX8_isOtherThere 6 = .ok (.ifnull 14, 3) := by decide +kernel
theorem dX8_isOtherThere_9 : decode cX8_isOtherThere 9 = .ok (.aload_n 2, 1) := by decide +kernel
theorem dX8_isOtherThere_10 : decode cX8_isOtherThere 10 = .ok (.getfield 108, 3) := by decide +kernel
theorem dX8_isOtherThere_13 : decode cX8_isOtherThere 13 = .ok (.ifCond .ne 7, 3) := by decide +kernel
theorem dX8_isOtherThere_16 : decode cX8_isOtherThere 16 = .ok (.iconst 1, 1) := by decide +kernel
theorem dX8_isOtherThere_17 : decode cX8_isOtherThere 17 = .ok (.goto 4, 3) := by decide +kernel
theorem dX8_isOtherThere_20 : decode cX8_isOtherThere 20 = .ok (.iconst 0, 1) := by decide +kernel
theorem dX8_isOtherThere_21 : decode cX8_isOtherThere 21 = .ok (.ireturn, 1) := by decide +kernel
theorem dX8_closePairs_0 : decode cX8_closePairs 0 = .ok (.aload_n 1, 1) := by decide +kernel
theorem dX8_closePairs_1 : decode cX8_closePairs 1 = .ok (.iload_n 3, 1) := by decide +kernel
theorem dX8_closePairs_2 : decode cX8_closePairs 2 = .ok (.iload 4, 2) := by decide +kernel
theorem dX8_closePairs_4 : decode cX8_closePairs 4 = .ok (.invokevirtual 149, 3) := by decide +kernel
theorem dX8_closePairs_7 : decode cX8_closePairs 7 = .ok (.istore 5, 2) := by decide +kernel
theorem dX8_closePairs_9 : decode cX8_closePairs 9 = .ok (.aload_n 2, 1) := by decide +kernel
theorem dX8_closePairs_10 : decode cX8_closePairs 10 = .ok (.iload_n 3, 1) := by decide +kernel
theorem dX8_closePairs_11 : decode cX8_closePairs 11 = .ok (.iload 4, 2) := by decide +kernel
theorem dX8_closePairs_13 : decode cX8_closePairs 13 = .ok (.invokevirtual 149, 3) := by decide +kernel
theorem dX8_closePairs_16 : decode cX8_closePairs 16 = .ok (.aload_n 2, 1) := by decide +kernel
theorem dX8_closePairs_17 : decode cX8_closePairs 17 = .ok (.getfield 142, 3) := by decide +kernel
theorem dX8_closePairs_20 : decode cX8_closePairs 20 = .ok (.isub, 1) := by decide +kernel
theorem dX8_closePairs_21 : decode cX8_closePairs 21 = .ok (.istore 6, 2) := by decide +kernel
theorem dX8_closePairs_23 : decode cX8_closePairs 23 = .ok (.aload_n 2, 1) := by decide +kernel
theorem dX8_closePairs_24 : decode cX8_closePairs 24 = .ok (.iload_n 3, 1) := by decide +kernel
theorem dX8_closePairs_25 : decode cX8_closePairs 25 = .ok (.iload 4, 2) := by decide +kernel
theorem dX8_closePairs_27 : decode cX8_closePairs 27 = .ok (.invokevirtual 149, 3) := by decide +kernel
theorem dX8_closePairs_30 : decode cX8_closePairs 30 = .ok (.aload_n 2, 1) := by decide +kernel
theorem dX8_closePairs_31 : decode cX8_closePairs 31 = .ok (.getfield 142, 3) := by decide +kernel
theorem dX8_closePairs_34 : decode cX8_closePairs 34 = .ok (.iadd, 1) := by decide +kernel
theorem dX8_closePairs_35 : decode cX8_closePairs 35 = .ok (.istore 7, 2) := by decide +kernel
