set_option maxRecDepth 20000 in
theorem sb_X9_isClearSome : Sb lw_tbl wk_X9_isClearSome := sb_ca (sb_l _ [854] rfl) (sb_app (sb_V (sb_l _ [855, 857, 37, 51] rfl) sb_X9_isClear) (sb_nil))
set_option maxRecDepth 20000 in
theorem sb_X9_sieve : Sb lw_tbl wk_X9_sieve := sb_ca (sb_l _ [850, 659, 756, 755] rfl) (sb_app in_law_X9 (sb_app (sb_V (sb_l _ [751, 753, 23, 51] rfl) sb_X9_isThing) (sb_app (sb_V (sb_l _ [793, 795, 28, 51] rfl) sb_X9_areTogether) (sb_app (sb_V (sb_l _ [797, 799, 29, 51] rfl) sb_X9_firstOf) (sb_app (sb_V (sb_l _ [801, 803, 30, 51] rfl) sb_X9_lastOf) (sb_app (sb_V (sb_l _ [851, 853, 36, 51] rfl) sb_X9_isClearSome) (sb_nil)))))))
set_option maxRecDepth 20000 in
theorem sb_X3_commonDivisor : Sb lw_tbl wk_X3_commonDivisor := sb_ca (sb_l _ [474] rfl) (sb_nil)
set_option maxRecDepth 20000 in
theorem sb_X3_become : Sb lw_tbl wk_X3_become := sb_ca (sb_l _ [471, 116, 118] rfl) (sb_app in_law_X3 (sb_app (sb_S (sb_l _ [472, 473, 48] rfl) sb_X3_commonDivisor) (sb_nil)))
set_option maxRecDepth 20000 in
theorem sb_X4_take : Sb lw_tbl wk_X4_take := sb_ca (sb_l _ [467, 125, 89, 92, 128, 95, 131] rfl) (sb_app in_law_X4 (sb_app in_law_X7 (sb_app (sb_V (sb_l _ [468, 469, 470, 48] rfl) sb_X3_become) (sb_nil))))
set_option maxRecDepth 20000 in
theorem sb_X3_isAbove : Sb lw_tbl wk_X3_isAbove := sb_ca (sb_l _ [463, 118, 116] rfl) (sb_app in_law_X3 (sb_nil))
set_option maxRecDepth 20000 in
theorem sb_X8_findNearestP : Sb lw_tbl wk_X8_findNearestP := sb_ca (sb_l _ [459, 208, 209, 127, 91, 94] rfl) (sb_app in_law_X8 (sb_app in_law_X4 (sb_app in_law_X7 (sb_app (sb_S (sb_l _ [357, 358, 44] rfl) sb_X8_firstTogether) (sb_app (sb_S (sb_l _ [363, 364, 44] rfl) sb_X8_lastTogether) (sb_app (sb_V (sb_l _ [369, 370, 371, 46] rfl) sb_X7_lookP) (sb_app (sb_V (sb_l _ [464, 465, 466, 47] rfl) sb_X4_take) (sb_app (sb_V (sb_l _ [460, 461, 462, 48] rfl) sb_X3_isAbove) (sb_nil)))))))))
set_option maxRecDepth 20000 in
theorem sb_X8_least : Sb lw_tbl wk_X8_least := sb_ca (sb_l _ [453, 198, 454, 475, 209, 129, 119, 127, 117, 132, 455] rfl) (sb_app in_law_X8 (sb_app in_law_X4 (sb_app in_law_X3 (sb_app (sb_V (sb_l _ [279, 280, 281, 45] rfl) sb_X1_find) (sb_app (sb_S (sb_l _ [254, 255, 44] rfl) sb_X8_isWithin) (sb_app (sb_V (sb_l _ [456, 458, 13, 44] rfl) sb_X8_findNearestP) (sb_nil)))))))
set_option maxRecDepth 20000 in
theorem sb_X9_common : Sb lw_tbl wk_X9_common := sb_ca (sb_l _ [846] rfl) (sb_nil)
set_option maxRecDepth 20000 in
theorem sb_X9_least : Sb lw_tbl wk_X9_least := sb_ca (sb_l _ [839, 841, 843, 671, 672, 674, 675, 673, 842, 840] rfl) (sb_app in_law_X9 (sb_app (sb_V (sb_l _ [751, 753, 23, 51] rfl) sb_X9_isThing) (sb_app (sb_S (sb_l _ [728, 729, 51] rfl) sb_X9_in) (sb_app (sb_V (sb_l _ [793, 795, 28, 51] rfl) sb_X9_areTogether) (sb_app (sb_V (sb_l _ [805, 807, 31, 51] rfl) sb_X9_findLeast) (sb_app (sb_S (sb_l _ [844, 845, 51] rfl) sb_X9_common) (sb_nil)))))))
set_option maxRecDepth 20000 in
theorem sb_X8_meeting : Sb lw_tbl wk_X8_meeting := sb_ca (sb_l _ [479, 198, 73, 260] rfl) (sb_app in_law_X8 (sb_app in_law_X1 (sb_app (sb_S (sb_l _ [254, 255, 44] rfl) sb_X8_isWithin) (sb_app (sb_V (sb_l _ [392, 394, 5, 44] rfl) sb_X8_doMeet) (sb_nil)))))
set_option maxRecDepth 20000 in
theorem sb_X9_meeting : Sb lw_tbl wk_X9_meeting := sb_ca (sb_l _ [862, 655, 737] rfl) (sb_app in_law_X9 (sb_app (sb_S (sb_l _ [728, 729, 51] rfl) sb_X9_in) (sb_app (sb_V (sb_l _ [789, 791, 27, 51] rfl) sb_X9_isMeeting) (sb_nil))))
set_option maxRecDepth 20000 in
theorem sb_X8_closePairs : Sb lw_tbl wk_X8_closePairs := sb_ca (sb_l _ [487, 155, 207, 366, 367, 52, 368, 360, 361, 362] rfl) (sb_app in_law_X6 (sb_app in_law_X8 (sb_app (sb_V (sb_l _ [378, 316, 317, 49] rfl) sb_X6_coord) (sb_nil))))
set_option maxRecDepth 20000 in
theorem sb_X6_boxSide : Sb lw_tbl wk_X6_boxSide := sb_ca (sb_l _ [491, 154] rfl) (sb_app in_law_X6 (sb_nil))
set_option maxRecDepth 20000 in
theorem sb_X8_share : Sb lw_tbl wk_X8_share := sb_ca (sb_l _ [483, 198, 454, 475, 210, 119, 117, 455] rfl) (sb_app in_law_X8 (sb_app in_law_X3 (sb_app (sb_V (sb_l _ [279, 280, 281, 45] rfl) sb_X1_find) (sb_app (sb_S (sb_l _ [251, 252, 44] rfl) sb_X8_isStep) (sb_app (sb_S (sb_l _ [254, 255, 44] rfl) sb_X8_isWithin) (sb_app (sb_V (sb_l _ [297, 298, 299, 49] rfl) sb_X6_hasPlace) (sb_app (sb_V (sb_l _ [492, 469, 470, 48] rfl) sb_X3_become) (sb_app (sb_V (sb_l _ [484, 486, 14, 44] rfl) sb_X8_closePairs) (sb_app (sb_V (sb_l _ [488, 489, 490, 49] rfl) sb_X6_boxSide) (sb_nil))))))))))
set_option maxRecDepth 20000 in
theorem sb_X9_pairsOf : Sb lw_tbl wk_X9_pairsOf := sb_ca (sb_l _ [870, 658, 662] rfl) (sb_app in_law_X9 (sb_app (sb_V (sb_l _ [771, 773, 25, 51] rfl) sb_X9_spot) (sb_nil)))
set_option maxRecDepth 20000 in
theorem sb_X9_share : Sb lw_tbl wk_X9_share := sb_ca (sb_l _ [866, 727, 843, 765, 658, 842, 840] rfl) (sb_app in_law_X9 (sb_app (sb_V (sb_l _ [751, 753, 23, 51] rfl) sb_X9_isThing) (sb_app (sb_S (sb_l _ [728, 729, 51] rfl) sb_X9_in) (sb_app (sb_V (sb_l _ [767, 769, 24, 51] rfl) sb_X9_hasPlace) (sb_app (sb_V (sb_l _ [867, 869, 38, 51] rfl) sb_X9_pairsOf) (sb_app (sb_S (sb_l _ [844, 845, 51] rfl) sb_X9_common) (sb_nil)))))))
set_option maxRecDepth 20000 in
theorem sb_X7_lookPE : Sb lw_tbl wk_X7_lookPE := sb_ca (sb_l _ [372, 90, 93, 96] rfl) (sb_app in_law_X7 (sb_app (sb_V (sb_l _ [373, 316, 317, 49] rfl) sb_X6_coord) (sb_nil)))
set_option maxRecDepth 20000 in
theorem sb_X8_comeNearPE : Sb lw_tbl wk_X8_comeNearPE := sb_ca (sb_l _ [356, 206, 360, 361, 52, 362, 366, 367, 368, 208, 91, 94] rfl) (sb_app in_law_X8 (sb_app in_law_X7 (sb_app (sb_S (sb_l _ [357, 358, 44] rfl) sb_X8_firstTogether) (sb_app (sb_S (sb_l _ [363, 364, 44] rfl) sb_X8_lastTogether) (sb_app (sb_V (sb_l _ [369, 370, 371, 46] rfl) sb_X7_lookPE) (sb_nil))))))
set_option maxRecDepth 20000 in
theorem sb_X8_meetsAnyPE : Sb lw_tbl wk_X8_meetsAnyPE := sb_ca (sb_l _ [508, 198, 73, 213] rfl) (sb_app in_law_X8 (sb_app in_law_X1 (sb_app (sb_V (sb_l _ [279, 280, 281, 45] rfl) sb_X1_find) (sb_app (sb_S (sb_l _ [350, 351, 44] rfl) sb_X8_isOtherThere_n) (sb_app (sb_S (sb_l _ [350, 351, 44] rfl) sb_X8_isOtherThere_r) (sb_app (sb_V (sb_l _ [353, 355, 3, 44] rfl) sb_X8_comeNearPE) (sb_nil)))))))
set_option maxRecDepth 20000 in
theorem sb_X8_lastClearStepE : Sb lw_tbl wk_X8_lastClearStepE := sb_ca (sb_l _ [504, 151] rfl) (sb_app in_law_X6 (sb_app (sb_V (sb_l _ [284, 285, 286, 49] rfl) sb_X6_lastStep) (sb_app (sb_V (sb_l _ [505, 507, 17, 44] rfl) sb_X8_meetsAnyPE) (sb_nil))))
set_option maxRecDepth 20000 in
theorem sb_X0_becomeNone : Sb lw_tbl wk_X0_becomeNone := sb_ca (sb_l _ [524, 179, 181, 183, 185, 177] rfl) (sb_app in_law_X0 (sb_nil))
set_option maxRecDepth 20000 in
theorem sb_X8_fuelE : Sb lw_tbl wk_X8_fuelE := sb_ca (sb_l _ [515, 516, 418, 52, 419] rfl) (sb_nil)
set_option maxRecDepth 20000 in
theorem sb_X0_becomeE : Sb lw_tbl wk_X0_becomeE := sb_ca (sb_l _ [512, 179, 181, 183, 185, 44, 514, 177] rfl) (sb_app in_law_X0 (sb_app sb_X8_fuelE (sb_nil)))
set_option maxRecDepth 20000 in
theorem sb_X7_lookTE : Sb lw_tbl wk_X7_lookTE := sb_ca (sb_l _ [372, 90, 93, 96] rfl) (sb_app in_law_X7 (sb_app (sb_V (sb_l _ [373, 316, 317, 49] rfl) sb_X6_coord) (sb_nil)))
set_option maxRecDepth 20000 in
theorem sb_X8_comeNearTE : Sb lw_tbl wk_X8_comeNearTE := sb_ca (sb_l _ [356, 206, 360, 361, 52, 362, 366, 367, 368, 208, 91, 94] rfl) (sb_app in_law_X8 (sb_app in_law_X7 (sb_app (sb_S (sb_l _ [357, 358, 44] rfl) sb_X8_firstTogether) (sb_app (sb_S (sb_l _ [363, 364, 44] rfl) sb_X8_lastTogether) (sb_app (sb_V (sb_l _ [369, 370, 371, 46] rfl) sb_X7_lookTE) (sb_nil))))))
set_option maxRecDepth 20000 in
theorem sb_X8_meetsAnyTE : Sb lw_tbl wk_X8_meetsAnyTE := sb_ca (sb_l _ [508, 198, 73, 213] rfl) (sb_app in_law_X8 (sb_app in_law_X1 (sb_app (sb_V (sb_l _ [279, 280, 281, 45] rfl) sb_X1_find) (sb_app (sb_S (sb_l _ [350, 351, 44] rfl) sb_X8_isOtherThere_n) (sb_app (sb_S (sb_l _ [350, 351, 44] rfl) sb_X8_isOtherThere_r) (sb_app (sb_V (sb_l _ [353, 355, 3, 44] rfl) sb_X8_comeNearTE) (sb_nil)))))))
set_option maxRecDepth 20000 in
theorem sb_X8_isFreeE : Sb lw_tbl wk_X8_isFreeE := sb_ca (sb_l _ [520, 180, 182, 184, 186, 211, 151] rfl) (sb_app in_law_X0 (sb_app in_law_X8 (sb_app in_law_X6 (sb_app (sb_V (sb_l _ [311, 312, 313, 49] rfl) sb_X6_staysInside) (sb_app (sb_V (sb_l _ [324, 325, 326, 49] rfl) sb_X6_copyFromP) (sb_app (sb_V (sb_l _ [330, 331, 332, 49] rfl) sb_X6_drift) (sb_app (sb_V (sb_l _ [505, 507, 17, 44] rfl) sb_X8_meetsAnyTE) (sb_nil))))))))
set_option maxRecDepth 20000 in
theorem sb_X8_chooseBurnE : Sb lw_tbl wk_X8_chooseBurnE := sb_ca (sb_l _ [500, 366, 367, 52, 368, 212, 178] rfl) (sb_app in_law_X8 (sb_app in_law_X0 (sb_app (sb_V (sb_l _ [284, 285, 286, 49] rfl) sb_X6_lastStep) (sb_app (sb_V (sb_l _ [501, 503, 16, 44] rfl) sb_X8_lastClearStepE) (sb_app (sb_V (sb_l _ [521, 522, 523, 50] rfl) sb_X0_becomeNone) (sb_app (sb_V (sb_l _ [509, 510, 511, 50] rfl) sb_X0_becomeE) (sb_app (sb_V (sb_l _ [517, 519, 18, 44] rfl) sb_X8_isFreeE) (sb_nil))))))))
set_option maxRecDepth 20000 in
theorem sb_X8_bestE : Sb lw_tbl wk_X8_bestE := sb_ca (sb_l _ [496, 198, 283, 157, 212, 186, 178, 180, 182, 184, 288, 260] rfl) (sb_app in_law_X8 (sb_app in_law_X6 (sb_app in_law_X0 (sb_app (sb_V (sb_l _ [279, 280, 281, 45] rfl) sb_X1_find) (sb_app (sb_V (sb_l _ [297, 298, 299, 49] rfl) sb_X6_hasPlace) (sb_app (sb_S (sb_l _ [254, 255, 44] rfl) sb_X8_isWithin) (sb_app (sb_V (sb_l _ [497, 499, 15, 44] rfl) sb_X8_chooseBurnE) (sb_nil))))))))
set_option maxRecDepth 20000 in
theorem sb_X9_sizeE : Sb lw_tbl wk_X9_sizeE := sb_ca (sb_l _ [835] rfl) (sb_nil)
set_option maxRecDepth 20000 in
theorem sb_X9_isBetterE : Sb lw_tbl wk_X9_isBetterE := sb_ca (sb_l _ [882, 676] rfl) (sb_app in_law_X9 (sb_nil))
set_option maxRecDepth 20000 in
theorem sb_X9_shift : Sb lw_tbl wk_X9_shift := sb_ca (sb_l _ [886, 656, 657, 660] rfl) (sb_app in_law_X9 (sb_app (sb_S (sb_l _ [731, 732, 51] rfl) sb_X9_isPlace) (sb_nil)))
set_option maxRecDepth 20000 in
theorem sb_X9_tryOneE : Sb lw_tbl wk_X9_tryOneE := sb_ca (sb_l _ [816, 671, 672, 673, 674, 675] rfl) (sb_app in_law_X9 (sb_nil))
set_option maxRecDepth 20000 in
theorem sb_X9_apartE : Sb lw_tbl wk_X9_apartE := sb_ca (sb_l _ [812] rfl) (sb_app (sb_V (sb_l _ [771, 773, 25, 51] rfl) sb_X9_spot) (sb_nil))
set_option maxRecDepth 20000 in
theorem sb_X9_findLeastE : Sb lw_tbl wk_X9_findLeastE := sb_ca (sb_l _ [808, 671, 672, 673] rfl) (sb_app in_law_X9 (sb_app (sb_V (sb_l _ [801, 803, 30, 51] rfl) sb_X9_lastOf) (sb_app (sb_V (sb_l _ [797, 799, 29, 51] rfl) sb_X9_firstOf) (sb_app (sb_V (sb_l _ [813, 815, 33, 51] rfl) sb_X9_tryOneE) (sb_app (sb_V (sb_l _ [809, 811, 32, 51] rfl) sb_X9_apartE) (sb_nil))))))
set_option maxRecDepth 20000 in
theorem sb_X9_isMeetingE : Sb lw_tbl wk_X9_isMeetingE := sb_ca (sb_l _ [792, 659, 671, 661, 672] rfl) (sb_app in_law_X9 (sb_app (sb_V (sb_l _ [793, 795, 28, 51] rfl) sb_X9_areTogether) (sb_app (sb_V (sb_l _ [805, 807, 31, 51] rfl) sb_X9_findLeastE) (sb_nil))))
set_option maxRecDepth 20000 in
theorem sb_X9_meetsE : Sb lw_tbl wk_X9_meetsE := sb_ca (sb_l _ [788, 655] rfl) (sb_app in_law_X9 (sb_app (sb_V (sb_l _ [789, 791, 27, 51] rfl) sb_X9_isMeetingE) (sb_nil)))
set_option maxRecDepth 20000 in
theorem sb_X9_findBurnE : Sb lw_tbl wk_X9_findBurnE := sb_ca (sb_l _ [878, 656, 657, 676] rfl) (sb_app in_law_X9 (sb_app (sb_S (sb_l _ [833, 834, 51] rfl) sb_X9_sizeE) (sb_app (sb_V (sb_l _ [879, 881, 40, 51] rfl) sb_X9_isBetterE) (sb_app (sb_V (sb_l _ [883, 885, 41, 51] rfl) sb_X9_shift) (sb_app (sb_V (sb_l _ [785, 787, 26, 51] rfl) sb_X9_meetsE) (sb_nil))))))
set_option maxRecDepth 20000 in
theorem sb_X9_bestE : Sb lw_tbl wk_X9_bestE := sb_ca (sb_l _ [874, 841, 659, 676, 756, 737, 755] rfl) (sb_app in_law_X9 (sb_app (sb_V (sb_l _ [751, 753, 23, 51] rfl) sb_X9_isThing) (sb_app (sb_V (sb_l _ [767, 769, 24, 51] rfl) sb_X9_hasPlace) (sb_app (sb_S (sb_l _ [728, 729, 51] rfl) sb_X9_in) (sb_app (sb_V (sb_l _ [875, 877, 39, 51] rfl) sb_X9_findBurnE) (sb_nil))))))
set_option maxRecDepth 20000 in
theorem sb_X8_fuelB : Sb lw_tbl wk_X8_fuelB := sb_ca (sb_l _ [515, 516, 418, 52, 419] rfl) (sb_nil)
set_option maxRecDepth 20000 in
theorem sb_X8_isBurn : Sb lw_tbl wk_X8_isBurn := sb_ca (sb_l _ [531] rfl) (sb_app (sb_S (sb_l _ [254, 255, 44] rfl) sb_X8_isWithin) (sb_app (sb_S (sb_l _ [532, 514, 44] rfl) sb_X8_fuelB) (sb_nil)))
set_option maxRecDepth 20000 in
theorem sb_X8_burn : Sb lw_tbl wk_X8_burn := sb_ca (sb_l _ [528, 198, 283, 157, 288, 260] rfl) (sb_app in_law_X8 (sb_app in_law_X6 (sb_app (sb_V (sb_l _ [279, 280, 281, 45] rfl) sb_X1_find) (sb_app (sb_V (sb_l _ [297, 298, 299, 49] rfl) sb_X6_hasPlace) (sb_app (sb_S (sb_l _ [529, 530, 44] rfl) sb_X8_isBurn) (sb_app (sb_V (sb_l _ [311, 312, 313, 49] rfl) sb_X6_staysInside) (sb_app (sb_V (sb_l _ [330, 331, 332, 49] rfl) sb_X6_drift) (sb_app (sb_V (sb_l _ [346, 348, 2, 44] rfl) sb_X8_meetingsOf) (sb_nil)))))))))
set_option maxRecDepth 20000 in
theorem sb_X9_burn : Sb lw_tbl wk_X9_burn := sb_ca (sb_l _ [890, 891, 765, 659, 756, 737, 755] rfl) (sb_app in_law_X9 (sb_app (sb_V (sb_l _ [751, 753, 23, 51] rfl) sb_X9_isThing) (sb_app (sb_V (sb_l _ [767, 769, 24, 51] rfl) sb_X9_hasPlace) (sb_app (sb_S (sb_l _ [728, 729, 51] rfl) sb_X9_in) (sb_app (sb_V (sb_l _ [883, 885, 41, 51] rfl) sb_X9_shift) (sb_app (sb_V (sb_l _ [785, 787, 26, 51] rfl) sb_X9_meets) (sb_nil)))))))
set_option maxRecDepth 20000 in
theorem sb_X2_init : Sb lw_tbl wk_X2_init := sb_ca (sb_l _ [540, 62, 541, 61, 542, 544, 546, 548] rfl) (sb_app in_law_X2 (sb_nil))
set_option maxRecDepth 20000 in
theorem sb_X8_dot : Sb lw_tbl wk_X8_dot := sb_ca (sb_l _ [536, 203, 201, 79, 537, 53, 538, 539, 266, 260] rfl) (sb_app in_law_X8 (sb_app in_law_X2 (sb_app (sb_S (sb_l _ [251, 252, 44] rfl) sb_X8_isStep) (sb_app (sb_S (sb_l _ [257, 258, 44] rfl) sb_X8_isPlace) (sb_app sb_X2_init (sb_nil))))))
set_option maxRecDepth 20000 in
theorem sb_X9_dot : Sb lw_tbl wk_X9_dot := sb_ca (sb_l _ [895, 727, 663, 664, 665, 738, 737] rfl) (sb_app in_law_X9 (sb_app (sb_S (sb_l _ [728, 729, 51] rfl) sb_X9_in) (sb_app (sb_S (sb_l _ [731, 732, 51] rfl) sb_X9_isPlace) (sb_nil))))
set_option maxRecDepth 20000 in
theorem sb_X1_firstHolder : Sb lw_tbl wk_X1_firstHolder := sb_ca (sb_l _ [566, 72] rfl) (sb_app in_law_X1 (sb_app (sb_V (sb_l _ [408, 410, 8, 45] rfl) sb_X1_isHolder) (sb_nil)))
set_option maxRecDepth 20000 in
theorem sb_X8_dotted : Sb lw_tbl wk_X8_dotted := sb_ca (sb_l _ [562, 283, 260, 198] rfl) (sb_app in_law_X8 (sb_app (sb_V (sb_l _ [400, 402, 7, 44] rfl) sb_X8_findDot) (sb_app (sb_V (sb_l _ [404, 405, 406, 45] rfl) sb_X1_countHolders) (sb_app (sb_V (sb_l _ [563, 564, 565, 45] rfl) sb_X1_firstHolder) (sb_nil)))))
set_option maxRecDepth 20000 in
theorem sb_X9_dotted : Sb lw_tbl wk_X9_dotted := sb_ca (sb_l _ [899, 663, 655, 737, 755] rfl) (sb_app in_law_X9 (sb_app (sb_S (sb_l _ [728, 729, 51] rfl) sb_X9_in) (sb_app (sb_V (sb_l _ [829, 831, 35, 51] rfl) sb_X9_isOf) (sb_app (sb_V (sb_l _ [825, 827, 34, 51] rfl) sb_X9_dotOf) (sb_nil)))))
set_option maxRecDepth 20000 in
theorem sb_X3_cut : Sb lw_tbl wk_X3_cut := sb_ca (sb_l _ [579, 118, 116] rfl) (sb_app in_law_X3 (sb_nil))
set_option maxRecDepth 20000 in
theorem sb_X5_init : Sb lw_tbl wk_X5_init := sb_ca (sb_l _ [574, 62, 575, 61, 580, 582, 126, 584, 130, 586, 588, 592] rfl) (sb_app in_law_X5 (sb_app in_law_X4 (sb_app (sb_V (sb_l _ [576, 577, 578, 48] rfl) sb_X3_cut) (sb_nil))))
set_option maxRecDepth 20000 in
theorem sb_X8_lastNoticeOf : Sb lw_tbl wk_X8_lastNoticeOf := sb_ca (sb_l _ [614, 204, 581, 583] rfl) (sb_app in_law_X8 (sb_app in_law_X5 (sb_app (sb_V (sb_l _ [424, 426, 10, 44] rfl) sb_X8_findNotice) (sb_nil))))
set_option maxRecDepth 20000 in
theorem sb_X8_notice : Sb lw_tbl wk_X8_notice := sb_ca (sb_l _ [570, 198, 283, 288, 204, 202, 81, 571, 54, 366, 367, 52, 368, 360, 361, 362, 209, 572, 573, 581, 583, 589, 593, 266] rfl) (sb_app in_law_X8 (sb_app in_law_X5 (sb_app (sb_V (sb_l _ [279, 280, 281, 45] rfl) sb_X1_find) (sb_app (sb_V (sb_l _ [392, 394, 5, 44] rfl) sb_X8_doMeet) (sb_app (sb_V (sb_l _ [456, 458, 13, 44] rfl) sb_X8_findNearestP) (sb_app sb_X5_init (sb_app (sb_V (sb_l _ [611, 613, 19, 44] rfl) sb_X8_lastNoticeOf) (sb_app (sb_V (sb_l _ [424, 426, 10, 44] rfl) sb_X8_findNotice) (sb_nil)))))))))
set_option maxRecDepth 20000 in
theorem sb_X9_notice : Sb lw_tbl wk_X9_notice := sb_ca (sb_l _ [903, 666, 667, 671, 672, 673, 738, 756, 755] rfl) (sb_app in_law_X9 (sb_app (sb_V (sb_l _ [751, 753, 23, 51] rfl) sb_X9_isThing) (sb_app (sb_V (sb_l _ [789, 791, 27, 51] rfl) sb_X9_isMeeting) (sb_nil))))
set_option maxRecDepth 20000 in
theorem sb_X8_answer : Sb lw_tbl wk_X8_answer := sb_ca (sb_l _ [618, 283, 198, 581, 593, 591, 590, 205, 583, 288, 260] rfl) (sb_app in_law_X8 (sb_app in_law_X5 (sb_app (sb_V (sb_l _ [424, 426, 10, 44] rfl) sb_X8_findNotice) (sb_app (sb_V (sb_l _ [279, 280, 281, 45] rfl) sb_X1_find) (sb_nil)))))
set_option maxRecDepth 20000 in
theorem sb_X9_answer : Sb lw_tbl wk_X9_answer := sb_ca (sb_l _ [907, 666, 765, 667, 668, 756, 737, 755] rfl) (sb_app in_law_X9 (sb_app (sb_S (sb_l _ [728, 729, 51] rfl) sb_X9_in) (sb_app (sb_V (sb_l _ [751, 753, 23, 51] rfl) sb_X9_isThing) (sb_nil))))
set_option maxRecDepth 20000 in
theorem sb_X8_noticed : Sb lw_tbl wk_X8_noticed := sb_ca (sb_l _ [622, 283, 260, 581, 583, 585, 587, 593, 590, 591, 589] rfl) (sb_app in_law_X5 (sb_app (sb_V (sb_l _ [424, 426, 10, 44] rfl) sb_X8_findNotice) (sb_nil)))
set_option maxRecDepth 20000 in
theorem sb_X9_noticed : Sb lw_tbl wk_X9_noticed := sb_ca (sb_l _ [911, 666, 737, 667, 755] rfl) (sb_app in_law_X9 (sb_app (sb_S (sb_l _ [728, 729, 51] rfl) sb_X9_in) (sb_nil)))
set_option maxRecDepth 20000 in
theorem sb_X8_findShelf_n : Sb lw_tbl wk_X8_findShelf_n := sb_ca (sb_l _ [630] rfl) (sb_nil)
set_option maxRecDepth 20000 in
theorem sb_X8_findShelf_0 : Sb lw_tbl wk_X8_findShelf_0 := sb_ca (sb_l _ [630, 199] rfl) (sb_app in_law_X8 (sb_nil))
set_option maxRecDepth 20000 in
theorem sb_X1_nextS : Sb lw_tbl wk_X1_nextS := sb_ca (sb_l _ [264, 72, 71] rfl) (sb_app in_law_X1 (sb_nil))
set_option maxRecDepth 20000 in
theorem sb_X1_copyFrom : Sb lw_tbl wk_X1_copyFrom := sb_ca (sb_l _ [634, 72, 150] rfl) (sb_app in_law_X1 (sb_app in_law_X6 (sb_app (sb_V (sb_l _ [387, 280, 281, 45] rfl) sb_X1_find) (sb_app (sb_V (sb_l _ [635, 262, 263, 45] rfl) sb_X1_nextN) (sb_app (sb_V (sb_l _ [636, 325, 326, 49] rfl) sb_X6_copyFromP) (sb_app (sb_V (sb_l _ [635, 262, 263, 45] rfl) sb_X1_nextS) (sb_nil)))))))
set_option maxRecDepth 20000 in
theorem sb_X8_findShelf_1 : Sb lw_tbl wk_X8_findShelf_1 := sb_ca (sb_l _ [630, 200] rfl) (sb_app in_law_X8 (sb_nil))
set_option maxRecDepth 20000 in
theorem sb_X8_keep : Sb lw_tbl wk_X8_keep := sb_ca (sb_l _ [626, 283, 198, 73] rfl) (sb_app in_law_X8 (sb_app in_law_X1 (sb_app (sb_V (sb_l _ [627, 629, 20, 44] rfl) sb_X8_findShelf_n) (sb_app (sb_V (sb_l _ [627, 629, 20, 44] rfl) sb_X8_findShelf_0) (sb_app (sb_V (sb_l _ [631, 632, 633, 45] rfl) sb_X1_copyFrom) (sb_app (sb_V (sb_l _ [627, 629, 20, 44] rfl) sb_X8_findShelf_1) (sb_nil)))))))
set_option maxRecDepth 20000 in
theorem sb_X9_numberOf : Sb lw_tbl wk_X9_numberOf := sb_ca (sb_l _ [919, 657, 660, 659, 658, 656] rfl) (sb_app in_law_X9 (sb_nil))
set_option maxRecDepth 20000 in
theorem sb_X9_keep : Sb lw_tbl wk_X9_keep := sb_ca (sb_l _ [915, 669, 655, 670, 755] rfl) (sb_app in_law_X9 (sb_app (sb_S (sb_l _ [728, 729, 51] rfl) sb_X9_in) (sb_app (sb_V (sb_l _ [916, 918, 42, 51] rfl) sb_X9_numberOf) (sb_nil))))
set_option maxRecDepth 20000 in
theorem sb_X6_isSame : Sb lw_tbl wk_X6_isSame := sb_ca (sb_l _ [648, 149, 152, 154, 156, 148] rfl) (sb_app in_law_X6 (sb_nil))
set_option maxRecDepth 20000 in
theorem sb_X1_countDifferences : Sb lw_tbl wk_X1_countDifferences := sb_ca (sb_l _ [644, 72] rfl) (sb_app in_law_X1 (sb_app (sb_V (sb_l _ [387, 280, 281, 45] rfl) sb_X1_find) (sb_app (sb_V (sb_l _ [645, 646, 647, 49] rfl) sb_X6_isSame) (sb_nil))))
set_option maxRecDepth 20000 in
theorem sb_X8_differs : Sb lw_tbl wk_X8_differs := sb_ca (sb_l _ [640, 283, 73, 198, 288] rfl) (sb_app in_law_X1 (sb_app in_law_X8 (sb_app (sb_V (sb_l _ [627, 629, 20, 44] rfl) sb_X8_findShelf_n) (sb_app (sb_V (sb_l _ [627, 629, 20, 44] rfl) sb_X8_findShelf_0) (sb_app (sb_V (sb_l _ [641, 642, 643, 45] rfl) sb_X1_countDifferences) (sb_app (sb_V (sb_l _ [627, 629, 20, 44] rfl) sb_X8_findShelf_1) (sb_nil)))))))
set_option maxRecDepth 20000 in
theorem sb_X9_differs : Sb lw_tbl wk_X9_differs := sb_ca (sb_l _ [923, 669, 655, 670, 756, 755] rfl) (sb_app in_law_X9 (sb_app (sb_S (sb_l _ [728, 729, 51] rfl) sb_X9_in) (sb_app (sb_V (sb_l _ [916, 918, 42, 51] rfl) sb_X9_numberOf) (sb_nil))))
set_option maxRecDepth 20000 in
theorem sb_X1_init : Sb lw_tbl wk_X1_init := sb_ca (sb_l _ [67, 62, 68, 61, 69, 71] rfl) (sb_app in_law_X1 (sb_nil))
set_option maxRecDepth 20000 in
theorem sb_X7_init : Sb lw_tbl wk_X7_init := sb_ca (sb_l _ [87, 62, 88, 61] rfl) (sb_nil)
set_option maxRecDepth 20000 in
theorem sb_X3_init : Sb lw_tbl wk_X3_init := sb_ca (sb_l _ [114, 62, 115, 61, 116, 118] rfl) (sb_app in_law_X3 (sb_nil))
set_option maxRecDepth 20000 in
theorem sb_X4_init : Sb lw_tbl wk_X4_init := sb_ca (sb_l _ [108, 62, 109, 61, 110, 111, 48, 113, 125, 128] rfl) (sb_app in_law_X3 (sb_app in_law_X4 (sb_app sb_X3_init (sb_nil))))
set_option maxRecDepth 20000 in
theorem sb_X0_init : Sb lw_tbl wk_X0_init := sb_ca (sb_l _ [175, 62, 176, 61] rfl) (sb_nil)
set_option maxRecDepth 20000 in
theorem sb_X8_init : Sb lw_tbl wk_X8_init := sb_ca (sb_l _ [59, 62, 60, 61, 63, 64, 45, 66, 198, 199, 200, 79, 201, 81, 202, 206, 207, 83, 84, 46, 86, 208, 104, 105, 47, 107, 209, 140, 111, 48, 113, 210, 142, 143, 49, 145, 211, 171, 172, 50, 174, 212] rfl) (sb_app in_law_X1 (sb_app in_law_X8 (sb_app in_law_X7 (sb_app in_law_X4 (sb_app in_law_X3 (sb_app in_law_X6 (sb_app in_law_X0 (sb_app sb_X1_init (sb_app sb_X7_init (sb_app sb_X4_init (sb_app sb_X3_init (sb_app sb_X6_init (sb_app sb_X0_init (sb_nil))))))))))))))
set_option maxRecDepth 20000 in
theorem sb_X9_init : Sb lw_tbl wk_X9_init := sb_ca (sb_l _ [653, 62, 654, 61, 170, 656, 657, 658, 722, 659, 660, 661, 662, 664, 665, 667, 669, 670, 676] rfl) (sb_app in_law_X9 (sb_nil))
