set_option maxRecDepth 20000 in
theorem in_law_X0 : ∀ w ∈ wsX00, w ∈ lw_tbl := fun w h => (goodIn_r (big := lw_tbl) _ [187, 189, 191, 193, 195] (by decide +kernel) (by decide +kernel) w h).1
set_option maxRecDepth 20000 in
theorem in_law_X1 : ∀ w ∈ wsX10, w ∈ lw_tbl := fun w h => (goodIn_r (big := lw_tbl) _ [74, 76] (by decide +kernel) (by decide +kernel) w h).1
set_option maxRecDepth 20000 in
theorem in_law_X2 : ∀ w ∈ wsX20, w ∈ lw_tbl := fun w h => (goodIn_r (big := lw_tbl) _ [550, 552, 554, 556] (by decide +kernel) (by decide +kernel) w h).1
set_option maxRecDepth 20000 in
theorem in_law_X3 : ∀ w ∈ wsX30, w ∈ lw_tbl := fun w h => (goodIn_r (big := lw_tbl) _ [120, 122] (by decide +kernel) (by decide +kernel) w h).1
set_option maxRecDepth 20000 in
theorem in_law_X4 : ∀ w ∈ wsX40, w ∈ lw_tbl := fun w h => (goodIn_r (big := lw_tbl) _ [133, 135, 137] (by decide +kernel) (by decide +kernel) w h).1
set_option maxRecDepth 20000 in
theorem in_law_X5 : ∀ w ∈ wsX50, w ∈ lw_tbl := fun w h => (goodIn_r (big := lw_tbl) _ [594, 596, 598, 600, 602, 604, 606, 608] (by decide +kernel) (by decide +kernel) w h).1
set_option maxRecDepth 20000 in
theorem in_law_X6 : ∀ w ∈ wsX60, w ∈ lw_tbl := fun w h => (goodIn_r (big := lw_tbl) _ [159, 161, 163, 165, 167] (by decide +kernel) (by decide +kernel) w h).1
set_option maxRecDepth 20000 in
theorem in_law_X7 : ∀ w ∈ wsX70, w ∈ lw_tbl := fun w h => (goodIn_r (big := lw_tbl) _ [97, 99, 101] (by decide +kernel) (by decide +kernel) w h).1
set_option maxRecDepth 20000 in
theorem in_law_X8 : ∀ w ∈ wsX80, w ∈ lw_tbl := fun w h => (goodIn_r (big := lw_tbl) _ [214, 216, 218, 220, 222, 224, 226, 228, 230, 232, 234, 236, 238, 240, 242, 244] (by decide +kernel) (by decide +kernel) w h).1
set_option maxRecDepth 20000 in
theorem in_law_X9 : ∀ w ∈ wsX90, w ∈ lw_tbl := fun w h => (goodIn_r (big := lw_tbl) _ [677, 679, 681, 683, 685, 687, 689, 691, 693, 695, 697, 699, 701, 703, 705, 707, 709, 711, 713, 715, 717, 719] (by decide +kernel) (by decide +kernel) w h).1
set_option maxRecDepth 20000 in
theorem sb_X8_isWithin : Sb lw_tbl wk_X8_isWithin := sb_ca (sb_l _ [256] rfl) (sb_nil)
set_option maxRecDepth 20000 in
theorem sb_X8_isStep : Sb lw_tbl wk_X8_isStep := sb_ca (sb_l _ [253] rfl) (sb_app (sb_S (sb_l _ [254, 255, 44] rfl) sb_X8_isWithin) (sb_nil))
set_option maxRecDepth 20000 in
theorem sb_X8_isPlace : Sb lw_tbl wk_X8_isPlace := sb_ca (sb_l _ [259] rfl) (sb_app (sb_S (sb_l _ [254, 255, 44] rfl) sb_X8_isWithin) (sb_nil))
set_option maxRecDepth 20000 in
theorem sb_X6_init : Sb lw_tbl wk_X6_init := sb_ca (sb_l _ [146, 62, 147, 61, 170, 148] rfl) (sb_app in_law_X6 (sb_nil))
set_option maxRecDepth 20000 in
theorem sb_X1_nextN : Sb lw_tbl wk_X1_nextN := sb_ca (sb_l _ [264, 72, 71, 69, 143, 49, 145] rfl) (sb_app in_law_X1 (sb_app in_law_X6 (sb_app sb_X6_init (sb_nil))))
set_option maxRecDepth 20000 in
theorem sb_X6_begin : Sb lw_tbl wk_X6_begin := sb_ca (sb_l _ [270, 149, 152, 154, 156] rfl) (sb_app in_law_X6 (sb_nil))
set_option maxRecDepth 20000 in
theorem sb_X6_append : Sb lw_tbl wk_X6_append := sb_ca (sb_l _ [274, 152, 148] rfl) (sb_app in_law_X6 (sb_nil))
set_option maxRecDepth 20000 in
theorem sb_X1_nextF : Sb lw_tbl wk_X1_nextF := sb_ca (sb_l _ [264, 72, 71] rfl) (sb_app in_law_X1 (sb_nil))
set_option maxRecDepth 20000 in
theorem sb_X8_thing : Sb lw_tbl wk_X8_thing := sb_ca (sb_l _ [250, 198, 73, 266, 260] rfl) (sb_app in_law_X8 (sb_app in_law_X1 (sb_app (sb_S (sb_l _ [251, 252, 44] rfl) sb_X8_isStep) (sb_app (sb_S (sb_l _ [257, 258, 44] rfl) sb_X8_isPlace) (sb_app (sb_S (sb_l _ [254, 255, 44] rfl) sb_X8_isWithin) (sb_app (sb_V (sb_l _ [261, 262, 263, 45] rfl) sb_X1_nextN) (sb_app (sb_V (sb_l _ [267, 268, 269, 49] rfl) sb_X6_begin) (sb_app (sb_V (sb_l _ [271, 272, 273, 49] rfl) sb_X6_append) (sb_app (sb_V (sb_l _ [261, 262, 263, 45] rfl) sb_X1_nextF) (sb_nil))))))))))
set_option maxRecDepth 20000 in
theorem sb_X9_in : Sb lw_tbl wk_X9_in := sb_ca (sb_l _ [730] rfl) (sb_nil)
set_option maxRecDepth 20000 in
theorem sb_X9_isPlace : Sb lw_tbl wk_X9_isPlace := sb_ca (sb_l _ [733, 734, 735] rfl) (sb_app (sb_S (sb_l _ [728, 729, 51] rfl) sb_X9_in) (sb_nil))
set_option maxRecDepth 20000 in
theorem sb_X9_fresh : Sb lw_tbl wk_X9_fresh := sb_ca (sb_l _ [742, 656, 655, 657, 658, 659] rfl) (sb_app in_law_X9 (sb_nil))
set_option maxRecDepth 20000 in
theorem sb_X9_setSpot : Sb lw_tbl wk_X9_setSpot := sb_ca (sb_l _ [746, 660] rfl) (sb_app in_law_X9 (sb_nil))
set_option maxRecDepth 20000 in
theorem sb_X9_thing : Sb lw_tbl wk_X9_thing := sb_ca (sb_l _ [726, 727, 736, 655, 657, 738, 737] rfl) (sb_app in_law_X9 (sb_app (sb_S (sb_l _ [728, 729, 51] rfl) sb_X9_in) (sb_app (sb_S (sb_l _ [731, 732, 51] rfl) sb_X9_isPlace) (sb_app (sb_V (sb_l _ [739, 741, 21, 51] rfl) sb_X9_fresh) (sb_app (sb_V (sb_l _ [743, 745, 22, 51] rfl) sb_X9_setSpot) (sb_nil))))))
set_option maxRecDepth 20000 in
theorem sb_X1_find : Sb lw_tbl wk_X1_find := sb_ca (sb_l _ [282, 72, 71] rfl) (sb_app in_law_X1 (sb_nil))
set_option maxRecDepth 20000 in
theorem sb_X6_lastStep : Sb lw_tbl wk_X6_lastStep := sb_ca (sb_l _ [287, 149, 152] rfl) (sb_app in_law_X6 (sb_nil))
set_option maxRecDepth 20000 in
theorem sb_X8_place : Sb lw_tbl wk_X8_place := sb_ca (sb_l _ [278, 198, 283, 157, 288, 153, 266, 260] rfl) (sb_app in_law_X8 (sb_app in_law_X6 (sb_app (sb_V (sb_l _ [279, 280, 281, 45] rfl) sb_X1_find) (sb_app (sb_S (sb_l _ [257, 258, 44] rfl) sb_X8_isPlace) (sb_app (sb_V (sb_l _ [284, 285, 286, 49] rfl) sb_X6_lastStep) (sb_app (sb_V (sb_l _ [271, 272, 273, 49] rfl) sb_X6_append) (sb_nil)))))))
set_option maxRecDepth 20000 in
theorem sb_X9_isThing : Sb lw_tbl wk_X9_isThing := sb_ca (sb_l _ [754, 655] rfl) (sb_app in_law_X9 (sb_app (sb_S (sb_l _ [728, 729, 51] rfl) sb_X9_in) (sb_nil)))
set_option maxRecDepth 20000 in
theorem sb_X9_place : Sb lw_tbl wk_X9_place := sb_ca (sb_l _ [750, 659, 756, 656, 657, 738, 737, 755] rfl) (sb_app in_law_X9 (sb_app (sb_V (sb_l _ [751, 753, 23, 51] rfl) sb_X9_isThing) (sb_app (sb_S (sb_l _ [731, 732, 51] rfl) sb_X9_isPlace) (sb_app (sb_V (sb_l _ [743, 745, 22, 51] rfl) sb_X9_setSpot) (sb_nil)))))
set_option maxRecDepth 20000 in
theorem sb_X8_gone : Sb lw_tbl wk_X8_gone := sb_ca (sb_l _ [292, 198, 283, 157, 288] rfl) (sb_app in_law_X8 (sb_app in_law_X6 (sb_app (sb_V (sb_l _ [279, 280, 281, 45] rfl) sb_X1_find) (sb_nil))))
set_option maxRecDepth 20000 in
theorem sb_X9_gone : Sb lw_tbl wk_X9_gone := sb_ca (sb_l _ [760, 659, 756, 755] rfl) (sb_app in_law_X9 (sb_app (sb_V (sb_l _ [751, 753, 23, 51] rfl) sb_X9_isThing) (sb_nil)))
set_option maxRecDepth 20000 in
theorem sb_X6_hasPlace : Sb lw_tbl wk_X6_hasPlace := sb_ca (sb_l _ [300, 149] rfl) (sb_app in_law_X6 (sb_app (sb_V (sb_l _ [301, 285, 286, 49] rfl) sb_X6_lastStep) (sb_nil)))
set_option maxRecDepth 20000 in
theorem sb_X8_partDriftX : Sb lw_tbl wk_X8_partDriftX := sb_ca (sb_l _ [307] rfl) (sb_nil)
set_option maxRecDepth 20000 in
theorem sb_X8_partDriftY : Sb lw_tbl wk_X8_partDriftY := sb_ca (sb_l _ [310] rfl) (sb_nil)
set_option maxRecDepth 20000 in
theorem sb_X6_coord : Sb lw_tbl wk_X6_coord := sb_ca (sb_l _ [318, 149, 148] rfl) (sb_app in_law_X6 (sb_nil))
set_option maxRecDepth 20000 in
theorem sb_X6_staysInside : Sb lw_tbl wk_X6_staysInside := sb_ca (sb_l _ [314, 44, 258] rfl) (sb_app (sb_V (sb_l _ [301, 285, 286, 49] rfl) sb_X6_lastStep) (sb_app (sb_V (sb_l _ [315, 316, 317, 49] rfl) sb_X6_coord) (sb_app sb_X8_isPlace (sb_nil))))
set_option maxRecDepth 20000 in
theorem sb_X8_partsStayInside : Sb lw_tbl wk_X8_partsStayInside := sb_ca (sb_l _ [304] rfl) (sb_app (sb_S (sb_l _ [305, 306, 44] rfl) sb_X8_partDriftX) (sb_app (sb_S (sb_l _ [308, 309, 44] rfl) sb_X8_partDriftY) (sb_app (sb_V (sb_l _ [311, 312, 313, 49] rfl) sb_X6_staysInside) (sb_nil))))
set_option maxRecDepth 20000 in
theorem sb_X6_copyFromP : Sb lw_tbl wk_X6_copyFromP := sb_ca (sb_l _ [327, 154, 156] rfl) (sb_app in_law_X6 (sb_app (sb_V (sb_l _ [328, 268, 269, 49] rfl) sb_X6_begin) (sb_app (sb_V (sb_l _ [301, 285, 286, 49] rfl) sb_X6_lastStep) (sb_app (sb_V (sb_l _ [315, 316, 317, 49] rfl) sb_X6_coord) (sb_app (sb_V (sb_l _ [329, 272, 273, 49] rfl) sb_X6_append) (sb_nil))))))
set_option maxRecDepth 20000 in
theorem sb_X6_move : Sb lw_tbl wk_X6_move := sb_ca (sb_l _ [337, 149, 148] rfl) (sb_app in_law_X6 (sb_nil))
set_option maxRecDepth 20000 in
theorem sb_X6_drift : Sb lw_tbl wk_X6_drift := sb_ca (sb_l _ [333] rfl) (sb_app (sb_V (sb_l _ [301, 285, 286, 49] rfl) sb_X6_lastStep) (sb_app (sb_V (sb_l _ [334, 336, 1, 49] rfl) sb_X6_move) (sb_nil)))
set_option maxRecDepth 20000 in
theorem sb_X8_addPart : Sb lw_tbl wk_X8_addPart := sb_ca (sb_l _ [323, 198] rfl) (sb_app in_law_X8 (sb_app (sb_V (sb_l _ [261, 262, 263, 45] rfl) sb_X1_nextN) (sb_app (sb_V (sb_l _ [324, 325, 326, 49] rfl) sb_X6_copyFromP) (sb_app (sb_V (sb_l _ [330, 331, 332, 49] rfl) sb_X6_drift) (sb_nil)))))
set_option maxRecDepth 20000 in
theorem sb_X8_breaks : Sb lw_tbl wk_X8_breaks := sb_ca (sb_l _ [296, 198, 283, 157, 288, 73, 266, 260] rfl) (sb_app in_law_X8 (sb_app in_law_X6 (sb_app in_law_X1 (sb_app (sb_V (sb_l _ [279, 280, 281, 45] rfl) sb_X1_find) (sb_app (sb_S (sb_l _ [254, 255, 44] rfl) sb_X8_isWithin) (sb_app (sb_V (sb_l _ [297, 298, 299, 49] rfl) sb_X6_hasPlace) (sb_app (sb_S (sb_l _ [302, 303, 44] rfl) sb_X8_partsStayInside) (sb_app (sb_S (sb_l _ [305, 306, 44] rfl) sb_X8_partDriftX) (sb_app (sb_S (sb_l _ [308, 309, 44] rfl) sb_X8_partDriftY) (sb_app (sb_V (sb_l _ [320, 322, 0, 44] rfl) sb_X8_addPart) (sb_nil)))))))))))
set_option maxRecDepth 20000 in
theorem sb_X9_hasPlace : Sb lw_tbl wk_X9_hasPlace := sb_ca (sb_l _ [770, 656, 657] rfl) (sb_app in_law_X9 (sb_app (sb_S (sb_l _ [728, 729, 51] rfl) sb_X9_in) (sb_nil)))
set_option maxRecDepth 20000 in
theorem sb_X9_spotW : Sb lw_tbl wk_X9_spotW := sb_ca (sb_l _ [774, 660, 656] rfl) (sb_app in_law_X9 (sb_nil))
set_option maxRecDepth 20000 in
theorem sb_X9_spot : Sb lw_tbl wk_X9_spot := sb_ca (sb_l _ [774, 660, 656] rfl) (sb_app in_law_X9 (sb_nil))
set_option maxRecDepth 20000 in
theorem sb_X9_breaks : Sb lw_tbl wk_X9_breaks := sb_ca (sb_l _ [764, 765, 766, 656, 657, 659, 655, 658, 738, 756, 737, 755] rfl) (sb_app in_law_X9 (sb_app (sb_V (sb_l _ [751, 753, 23, 51] rfl) sb_X9_isThing) (sb_app (sb_S (sb_l _ [728, 729, 51] rfl) sb_X9_in) (sb_app (sb_V (sb_l _ [767, 769, 24, 51] rfl) sb_X9_hasPlace) (sb_app (sb_V (sb_l _ [739, 741, 21, 51] rfl) sb_X9_fresh) (sb_app (sb_V (sb_l _ [771, 773, 25, 51] rfl) sb_X9_spotW) (sb_app (sb_V (sb_l _ [743, 745, 22, 51] rfl) sb_X9_setSpot) (sb_app (sb_V (sb_l _ [771, 773, 25, 51] rfl) sb_X9_spot) (sb_app (sb_S (sb_l _ [731, 732, 51] rfl) sb_X9_isPlace) (sb_nil))))))))))
set_option maxRecDepth 20000 in
theorem sb_X8_rule : Sb lw_tbl wk_X8_rule := sb_ca (sb_l _ [341, 260, 207, 206] rfl) (sb_app in_law_X8 (sb_app (sb_S (sb_l _ [254, 255, 44] rfl) sb_X8_isWithin) (sb_nil)))
set_option maxRecDepth 20000 in
theorem sb_X9_rule : Sb lw_tbl wk_X9_rule := sb_ca (sb_l _ [778, 780, 662, 661, 737, 779] rfl) (sb_app in_law_X9 (sb_app (sb_S (sb_l _ [728, 729, 51] rfl) sb_X9_in) (sb_nil)))
set_option maxRecDepth 20000 in
theorem sb_X8_isOtherThere_n : Sb lw_tbl wk_X8_isOtherThere_n := sb_ca (sb_l _ [352] rfl) (sb_nil)
set_option maxRecDepth 20000 in
theorem sb_X8_isOtherThere_r : Sb lw_tbl wk_X8_isOtherThere_r := sb_ca (sb_l _ [352, 157] rfl) (sb_app in_law_X6 (sb_nil))
set_option maxRecDepth 20000 in
theorem sb_X8_firstTogether : Sb lw_tbl wk_X8_firstTogether := sb_ca (sb_l _ [359, 151, 360, 361, 52, 362] rfl) (sb_app in_law_X6 (sb_nil))
set_option maxRecDepth 20000 in
theorem sb_X8_lastTogether : Sb lw_tbl wk_X8_lastTogether := sb_ca (sb_l _ [365, 366, 367, 52, 368] rfl) (sb_app (sb_V (sb_l _ [284, 285, 286, 49] rfl) sb_X6_lastStep) (sb_nil))
set_option maxRecDepth 20000 in
theorem sb_X7_lookP : Sb lw_tbl wk_X7_lookP := sb_ca (sb_l _ [372, 90, 93, 96] rfl) (sb_app in_law_X7 (sb_app (sb_V (sb_l _ [373, 316, 317, 49] rfl) sb_X6_coord) (sb_nil)))
set_option maxRecDepth 20000 in
theorem sb_X8_comeNearP : Sb lw_tbl wk_X8_comeNearP := sb_ca (sb_l _ [356, 206, 360, 361, 52, 362, 366, 367, 368, 208, 91, 94] rfl) (sb_app in_law_X8 (sb_app in_law_X7 (sb_app (sb_S (sb_l _ [357, 358, 44] rfl) sb_X8_firstTogether) (sb_app (sb_S (sb_l _ [363, 364, 44] rfl) sb_X8_lastTogether) (sb_app (sb_V (sb_l _ [369, 370, 371, 46] rfl) sb_X7_lookP) (sb_nil))))))
set_option maxRecDepth 20000 in
theorem sb_X8_meetingsOf : Sb lw_tbl wk_X8_meetingsOf := sb_ca (sb_l _ [349, 198, 73, 157] rfl) (sb_app in_law_X8 (sb_app in_law_X1 (sb_app in_law_X6 (sb_app (sb_V (sb_l _ [279, 280, 281, 45] rfl) sb_X1_find) (sb_app (sb_S (sb_l _ [350, 351, 44] rfl) sb_X8_isOtherThere_n) (sb_app (sb_S (sb_l _ [350, 351, 44] rfl) sb_X8_isOtherThere_r) (sb_app (sb_V (sb_l _ [353, 355, 3, 44] rfl) sb_X8_comeNearP) (sb_nil))))))))
set_option maxRecDepth 20000 in
theorem sb_X8_told : Sb lw_tbl wk_X8_told := sb_ca (sb_l _ [345, 198, 283, 260, 151, 153, 155, 157] rfl) (sb_app in_law_X8 (sb_app in_law_X6 (sb_app (sb_V (sb_l _ [279, 280, 281, 45] rfl) sb_X1_find) (sb_app (sb_V (sb_l _ [346, 348, 2, 44] rfl) sb_X8_meetingsOf) (sb_nil)))))
set_option maxRecDepth 20000 in
theorem sb_X9_firstOf : Sb lw_tbl wk_X9_firstOf := sb_ca (sb_l _ [800, 656] rfl) (sb_app in_law_X9 (sb_nil))
set_option maxRecDepth 20000 in
theorem sb_X9_lastOf : Sb lw_tbl wk_X9_lastOf := sb_ca (sb_l _ [804, 656, 657] rfl) (sb_app in_law_X9 (sb_nil))
set_option maxRecDepth 20000 in
theorem sb_X9_areTogether : Sb lw_tbl wk_X9_areTogether := sb_ca (sb_l _ [796] rfl) (sb_app (sb_V (sb_l _ [797, 799, 29, 51] rfl) sb_X9_firstOf) (sb_app (sb_V (sb_l _ [801, 803, 30, 51] rfl) sb_X9_lastOf) (sb_nil)))
set_option maxRecDepth 20000 in
theorem sb_X9_tryOne : Sb lw_tbl wk_X9_tryOne := sb_ca (sb_l _ [816, 671, 672, 673, 674, 675] rfl) (sb_app in_law_X9 (sb_nil))
set_option maxRecDepth 20000 in
theorem sb_X9_apart : Sb lw_tbl wk_X9_apart := sb_ca (sb_l _ [812] rfl) (sb_app (sb_V (sb_l _ [771, 773, 25, 51] rfl) sb_X9_spot) (sb_nil))
set_option maxRecDepth 20000 in
theorem sb_X9_findLeast : Sb lw_tbl wk_X9_findLeast := sb_ca (sb_l _ [808, 671, 672, 673] rfl) (sb_app in_law_X9 (sb_app (sb_V (sb_l _ [801, 803, 30, 51] rfl) sb_X9_lastOf) (sb_app (sb_V (sb_l _ [797, 799, 29, 51] rfl) sb_X9_firstOf) (sb_app (sb_V (sb_l _ [813, 815, 33, 51] rfl) sb_X9_tryOne) (sb_app (sb_V (sb_l _ [809, 811, 32, 51] rfl) sb_X9_apart) (sb_nil))))))
set_option maxRecDepth 20000 in
theorem sb_X9_isMeeting : Sb lw_tbl wk_X9_isMeeting := sb_ca (sb_l _ [792, 659, 671, 661, 672] rfl) (sb_app in_law_X9 (sb_app (sb_V (sb_l _ [793, 795, 28, 51] rfl) sb_X9_areTogether) (sb_app (sb_V (sb_l _ [805, 807, 31, 51] rfl) sb_X9_findLeast) (sb_nil))))
set_option maxRecDepth 20000 in
theorem sb_X9_meets : Sb lw_tbl wk_X9_meets := sb_ca (sb_l _ [788, 655] rfl) (sb_app in_law_X9 (sb_app (sb_V (sb_l _ [789, 791, 27, 51] rfl) sb_X9_isMeeting) (sb_nil)))
set_option maxRecDepth 20000 in
theorem sb_X9_told : Sb lw_tbl wk_X9_told := sb_ca (sb_l _ [784, 737, 656, 657, 658, 659, 755] rfl) (sb_app in_law_X9 (sb_app (sb_V (sb_l _ [751, 753, 23, 51] rfl) sb_X9_isThing) (sb_app (sb_V (sb_l _ [785, 787, 26, 51] rfl) sb_X9_meets) (sb_nil))))
set_option maxRecDepth 20000 in
theorem sb_X8_at : Sb lw_tbl wk_X8_at := sb_ca (sb_l _ [377, 198, 283, 288, 260] rfl) (sb_app in_law_X8 (sb_app (sb_V (sb_l _ [279, 280, 281, 45] rfl) sb_X1_find) (sb_app (sb_S (sb_l _ [251, 252, 44] rfl) sb_X8_isStep) (sb_app (sb_S (sb_l _ [254, 255, 44] rfl) sb_X8_isWithin) (sb_app (sb_V (sb_l _ [297, 298, 299, 49] rfl) sb_X6_hasPlace) (sb_app (sb_V (sb_l _ [378, 316, 317, 49] rfl) sb_X6_coord) (sb_nil)))))))
set_option maxRecDepth 20000 in
theorem sb_X9_at : Sb lw_tbl wk_X9_at := sb_ca (sb_l _ [820, 727, 765, 756, 737, 755] rfl) (sb_app (sb_V (sb_l _ [751, 753, 23, 51] rfl) sb_X9_isThing) (sb_app (sb_S (sb_l _ [728, 729, 51] rfl) sb_X9_in) (sb_app (sb_V (sb_l _ [767, 769, 24, 51] rfl) sb_X9_hasPlace) (sb_app (sb_V (sb_l _ [771, 773, 25, 51] rfl) sb_X9_spot) (sb_nil)))))
set_option maxRecDepth 20000 in
theorem sb_X1_countThere : Sb lw_tbl wk_X1_countThere := sb_ca (sb_l _ [386, 72, 158] rfl) (sb_app in_law_X1 (sb_app in_law_X6 (sb_app (sb_V (sb_l _ [387, 280, 281, 45] rfl) sb_X1_find) (sb_nil))))
set_option maxRecDepth 20000 in
theorem sb_X8_doMeet : Sb lw_tbl wk_X8_doMeet := sb_ca (sb_l _ [395, 198, 157] rfl) (sb_app in_law_X8 (sb_app in_law_X6 (sb_app (sb_V (sb_l _ [279, 280, 281, 45] rfl) sb_X1_find) (sb_app (sb_V (sb_l _ [353, 355, 3, 44] rfl) sb_X8_comeNearP) (sb_nil)))))
set_option maxRecDepth 20000 in
theorem sb_X8_countMeetings : Sb lw_tbl wk_X8_countMeetings := sb_ca (sb_l _ [391, 198, 73] rfl) (sb_app in_law_X8 (sb_app in_law_X1 (sb_app (sb_V (sb_l _ [392, 394, 5, 44] rfl) sb_X8_doMeet) (sb_nil))))
set_option maxRecDepth 20000 in
theorem sb_X8_findDot : Sb lw_tbl wk_X8_findDot := sb_ca (sb_l _ [403, 203, 201] rfl) (sb_app in_law_X8 (sb_nil))
set_option maxRecDepth 20000 in
theorem sb_X6_isBoxed : Sb lw_tbl wk_X6_isBoxed := sb_ca (sb_l _ [415, 543, 545, 417, 418, 52, 419, 154, 547, 549] rfl) (sb_app in_law_X2 (sb_app in_law_X6 (sb_app (sb_V (sb_l _ [416, 298, 299, 49] rfl) sb_X6_hasPlace) (sb_app (sb_V (sb_l _ [315, 316, 317, 49] rfl) sb_X6_coord) (sb_nil)))))
set_option maxRecDepth 20000 in
theorem sb_X1_isHolder : Sb lw_tbl wk_X1_isHolder := sb_ca (sb_l _ [411, 158] rfl) (sb_app in_law_X6 (sb_app (sb_V (sb_l _ [387, 280, 281, 45] rfl) sb_X1_find) (sb_app (sb_V (sb_l _ [412, 413, 414, 49] rfl) sb_X6_isBoxed) (sb_nil))))
set_option maxRecDepth 20000 in
theorem sb_X1_countHolders : Sb lw_tbl wk_X1_countHolders := sb_ca (sb_l _ [407, 72] rfl) (sb_app in_law_X1 (sb_app (sb_V (sb_l _ [408, 410, 8, 45] rfl) sb_X1_isHolder) (sb_nil)))
set_option maxRecDepth 20000 in
theorem sb_X8_countDotsOf : Sb lw_tbl wk_X8_countDotsOf := sb_ca (sb_l _ [399, 203, 198] rfl) (sb_app in_law_X8 (sb_app (sb_V (sb_l _ [400, 402, 7, 44] rfl) sb_X8_findDot) (sb_app (sb_V (sb_l _ [404, 405, 406, 45] rfl) sb_X1_countHolders) (sb_app (sb_S (sb_l _ [254, 255, 44] rfl) sb_X8_isWithin) (sb_nil)))))
set_option maxRecDepth 20000 in
theorem sb_X8_findNotice : Sb lw_tbl wk_X8_findNotice := sb_ca (sb_l _ [427, 204, 202] rfl) (sb_app in_law_X8 (sb_nil))
set_option maxRecDepth 20000 in
theorem sb_X8_countHolding : Sb lw_tbl wk_X8_countHolding := sb_ca (sb_l _ [423, 204, 593] rfl) (sb_app in_law_X8 (sb_app in_law_X5 (sb_app (sb_V (sb_l _ [424, 426, 10, 44] rfl) sb_X8_findNotice) (sb_nil))))
set_option maxRecDepth 20000 in
theorem sb_X8_count : Sb lw_tbl wk_X8_count := sb_ca (sb_l _ [382, 260, 198, 73, 203, 204, 205] rfl) (sb_app in_law_X8 (sb_app in_law_X1 (sb_app (sb_V (sb_l _ [383, 384, 385, 45] rfl) sb_X1_countThere) (sb_app (sb_V (sb_l _ [388, 390, 4, 44] rfl) sb_X8_countMeetings) (sb_app (sb_V (sb_l _ [396, 398, 6, 44] rfl) sb_X8_countDotsOf) (sb_app (sb_V (sb_l _ [420, 422, 9, 44] rfl) sb_X8_countHolding) (sb_nil)))))))
set_option maxRecDepth 20000 in
theorem sb_X9_size : Sb lw_tbl wk_X9_size := sb_ca (sb_l _ [835] rfl) (sb_nil)
set_option maxRecDepth 20000 in
theorem sb_X9_isOf : Sb lw_tbl wk_X9_isOf := sb_ca (sb_l _ [832, 659, 665, 664, 658] rfl) (sb_app in_law_X9 (sb_app (sb_V (sb_l _ [771, 773, 25, 51] rfl) sb_X9_spot) (sb_app (sb_S (sb_l _ [833, 834, 51] rfl) sb_X9_size) (sb_app (sb_V (sb_l _ [767, 769, 24, 51] rfl) sb_X9_hasPlace) (sb_nil)))))
set_option maxRecDepth 20000 in
theorem sb_X9_dotOf : Sb lw_tbl wk_X9_dotOf := sb_ca (sb_l _ [828, 655] rfl) (sb_app in_law_X9 (sb_app (sb_V (sb_l _ [829, 831, 35, 51] rfl) sb_X9_isOf) (sb_nil)))
set_option maxRecDepth 20000 in
theorem sb_X9_count : Sb lw_tbl wk_X9_count := sb_ca (sb_l _ [824, 655, 663, 666, 737, 668, 667, 659] rfl) (sb_app in_law_X9 (sb_app (sb_V (sb_l _ [825, 827, 34, 51] rfl) sb_X9_dotOf) (sb_app (sb_V (sb_l _ [789, 791, 27, 51] rfl) sb_X9_isMeeting) (sb_nil))))
set_option maxRecDepth 20000 in
theorem sb_X6_lowest : Sb lw_tbl wk_X6_lowest := sb_ca (sb_l _ [439, 440, 367, 52, 368] rfl) (sb_app (sb_V (sb_l _ [315, 316, 317, 49] rfl) sb_X6_coord) (sb_nil))
set_option maxRecDepth 20000 in
theorem sb_X6_highest : Sb lw_tbl wk_X6_highest := sb_ca (sb_l _ [444, 445, 361, 52, 362] rfl) (sb_app (sb_V (sb_l _ [315, 316, 317, 49] rfl) sb_X6_coord) (sb_nil))
set_option maxRecDepth 20000 in
theorem sb_X8_areApart : Sb lw_tbl wk_X8_areApart := sb_ca (sb_l _ [435, 206] rfl) (sb_app in_law_X8 (sb_app (sb_V (sb_l _ [436, 437, 438, 49] rfl) sb_X6_lowest) (sb_app (sb_V (sb_l _ [441, 442, 443, 49] rfl) sb_X6_highest) (sb_nil))))
set_option maxRecDepth 20000 in
theorem sb_X8_areApartOnEachWay : Sb lw_tbl wk_X8_areApartOnEachWay := sb_ca (sb_l _ [449] rfl) (sb_app (sb_V (sb_l _ [432, 434, 11, 44] rfl) sb_X8_areApart) (sb_nil))
set_option maxRecDepth 20000 in
theorem sb_X8_sieve : Sb lw_tbl wk_X8_sieve := sb_ca (sb_l _ [431, 198, 283, 157, 288] rfl) (sb_app in_law_X8 (sb_app in_law_X6 (sb_app (sb_V (sb_l _ [279, 280, 281, 45] rfl) sb_X1_find) (sb_app (sb_S (sb_l _ [357, 358, 44] rfl) sb_X8_firstTogether) (sb_app (sb_S (sb_l _ [363, 364, 44] rfl) sb_X8_lastTogether) (sb_app (sb_V (sb_l _ [432, 434, 11, 44] rfl) sb_X8_areApart) (sb_app (sb_V (sb_l _ [446, 448, 12, 44] rfl) sb_X8_areApartOnEachWay) (sb_nil))))))))
set_option maxRecDepth 20000 in
theorem sb_X9_isClear : Sb lw_tbl wk_X9_isClear := sb_ca (sb_l _ [858, 661] rfl) (sb_app in_law_X9 (sb_app (sb_V (sb_l _ [771, 773, 25, 51] rfl) sb_X9_spot) (sb_nil)))
