set_option maxRecDepth 20000 in
theorem g_law__X8_thing_13 : GoodIn lw_tbl (wsV RL 13 RX8 yX8_thing wk_X8_thing) := goodIn_m (sb_V (sb_l _ [247, 248, 249, 44] rfl) sb_X8_thing) (AG_V gw_X8_thing)
set_option maxRecDepth 20000 in
theorem g_law__X9_thing_17 : GoodIn lw_tbl (wsV RL 17 RX9 yX9_thing wk_X9_thing) := goodIn_m (sb_V (sb_l _ [723, 724, 725, 51] rfl) sb_X9_thing) (AG_V gw_X9_thing)
set_option maxRecDepth 20000 in
theorem g_law__X8_place_18 : GoodIn lw_tbl (wsV RL 18 RX8 yX8_place wk_X8_place) := goodIn_m (sb_V (sb_l _ [275, 276, 277, 44] rfl) sb_X8_place) (AG_V gw_X8_place)
set_option maxRecDepth 20000 in
theorem g_law__X9_place_22 : GoodIn lw_tbl (wsV RL 22 RX9 yX9_place wk_X9_place) := goodIn_m (sb_V (sb_l _ [747, 748, 749, 51] rfl) sb_X9_place) (AG_V gw_X9_place)
set_option maxRecDepth 20000 in
theorem g_law__X8_gone_23 : GoodIn lw_tbl (wsV RL 23 RX8 yX8_gone wk_X8_gone) := goodIn_m (sb_V (sb_l _ [289, 290, 291, 44] rfl) sb_X8_gone) (AG_V gw_X8_gone)
set_option maxRecDepth 20000 in
theorem g_law__X9_gone_27 : GoodIn lw_tbl (wsV RL 27 RX9 yX9_gone wk_X9_gone) := goodIn_m (sb_V (sb_l _ [757, 758, 759, 51] rfl) sb_X9_gone) (AG_V gw_X9_gone)
set_option maxRecDepth 20000 in
theorem g_law__X8_breaks_28 : GoodIn lw_tbl (wsV RL 28 RX8 yX8_breaks wk_X8_breaks) := goodIn_m (sb_V (sb_l _ [293, 294, 295, 44] rfl) sb_X8_breaks) (AG_V gw_X8_breaks)
set_option maxRecDepth 20000 in
theorem g_law__X9_breaks_32 : GoodIn lw_tbl (wsV RL 32 RX9 yX9_breaks wk_X9_breaks) := goodIn_m (sb_V (sb_l _ [761, 762, 763, 51] rfl) sb_X9_breaks) (AG_V gw_X9_breaks)
set_option maxRecDepth 20000 in
theorem g_law__X8_rule_33 : GoodIn lw_tbl (wsV RL 33 RX8 yX8_rule wk_X8_rule) := goodIn_m (sb_V (sb_l _ [338, 339, 340, 44] rfl) sb_X8_rule) (AG_V gw_X8_rule)
set_option maxRecDepth 20000 in
theorem g_law__X9_rule_37 : GoodIn lw_tbl (wsV RL 37 RX9 yX9_rule wk_X9_rule) := goodIn_m (sb_V (sb_l _ [775, 776, 777, 51] rfl) sb_X9_rule) (AG_V gw_X9_rule)
set_option maxRecDepth 20000 in
theorem g_law__X8_told_38 : GoodIn lw_tbl (wsV RL 38 RX8 yX8_told wk_X8_told) := goodIn_m (sb_V (sb_l _ [342, 343, 344, 44] rfl) sb_X8_told) (AG_V gw_X8_told)
set_option maxRecDepth 20000 in
theorem g_law__X9_told_41 : GoodIn lw_tbl (wsV RL 41 RX9 yX9_told wk_X9_told) := goodIn_m (sb_V (sb_l _ [781, 782, 783, 51] rfl) sb_X9_told) (AG_V gw_X9_told)
set_option maxRecDepth 20000 in
theorem g_law__X8_at_42 : GoodIn lw_tbl (wsV RL 42 RX8 yX8_at wk_X8_at) := goodIn_m (sb_V (sb_l _ [374, 375, 376, 44] rfl) sb_X8_at) (AG_V gw_X8_at)
set_option maxRecDepth 20000 in
theorem g_law__X9_at_45 : GoodIn lw_tbl (wsV RL 45 RX9 yX9_at wk_X9_at) := goodIn_m (sb_V (sb_l _ [817, 818, 819, 51] rfl) sb_X9_at) (AG_V gw_X9_at)
set_option maxRecDepth 20000 in
theorem g_law__X8_count_46 : GoodIn lw_tbl (wsV RL 46 RX8 yX8_count wk_X8_count) := goodIn_m (sb_V (sb_l _ [379, 380, 381, 44] rfl) sb_X8_count) (AG_V gw_X8_count)
set_option maxRecDepth 20000 in
theorem g_law__X9_count_49 : GoodIn lw_tbl (wsV RL 49 RX9 yX9_count wk_X9_count) := goodIn_m (sb_V (sb_l _ [821, 822, 823, 51] rfl) sb_X9_count) (AG_V gw_X9_count)
set_option maxRecDepth 20000 in
theorem g_law__X8_sieve_50 : GoodIn lw_tbl (wsV RL 50 RX8 yX8_sieve wk_X8_sieve) := goodIn_m (sb_V (sb_l _ [428, 429, 430, 44] rfl) sb_X8_sieve) (AG_V gw_X8_sieve)
set_option maxRecDepth 20000 in
theorem g_law__X9_sieve_53 : GoodIn lw_tbl (wsV RL 53 RX9 yX9_sieve wk_X9_sieve) := goodIn_m (sb_V (sb_l _ [847, 848, 849, 51] rfl) sb_X9_sieve) (AG_V gw_X9_sieve)
set_option maxRecDepth 20000 in
theorem g_law__X8_least_54 : GoodIn lw_tbl (wsV RL 54 RX8 yX8_least wk_X8_least) := goodIn_m (sb_V (sb_l _ [450, 451, 452, 44] rfl) sb_X8_least) (AG_V gw_X8_least)
set_option maxRecDepth 20000 in
theorem g_law__X9_least_58 : GoodIn lw_tbl (wsV RL 58 RX9 yX9_least wk_X9_least) := goodIn_m (sb_V (sb_l _ [836, 837, 838, 51] rfl) sb_X9_least) (AG_V gw_X9_least)
set_option maxRecDepth 20000 in
theorem g_law__X8_meeting_59 : GoodIn lw_tbl (wsV RL 59 RX8 yX8_meeting wk_X8_meeting) := goodIn_m (sb_V (sb_l _ [476, 477, 478, 44] rfl) sb_X8_meeting) (AG_V gw_X8_meeting)
set_option maxRecDepth 20000 in
theorem g_law__X9_meeting_62 : GoodIn lw_tbl (wsV RL 62 RX9 yX9_meeting wk_X9_meeting) := goodIn_m (sb_V (sb_l _ [859, 860, 861, 51] rfl) sb_X9_meeting) (AG_V gw_X9_meeting)
set_option maxRecDepth 20000 in
theorem g_law__X8_share_63 : GoodIn lw_tbl (wsV RL 63 RX8 yX8_share wk_X8_share) := goodIn_m (sb_V (sb_l _ [480, 481, 482, 44] rfl) sb_X8_share) (AG_V gw_X8_share)
set_option maxRecDepth 20000 in
theorem g_law__X9_share_67 : GoodIn lw_tbl (wsV RL 67 RX9 yX9_share wk_X9_share) := goodIn_m (sb_V (sb_l _ [863, 864, 865, 51] rfl) sb_X9_share) (AG_V gw_X9_share)
set_option maxRecDepth 20000 in
theorem g_law__X8_bestE_68 : GoodIn lw_tbl (wsV RL 68 RX8 yX8_best wk_X8_bestE) := goodIn_m (sb_V (sb_l _ [493, 494, 495, 44] rfl) sb_X8_bestE) (AG_V gw_X8_bestE)
set_option maxRecDepth 20000 in
theorem g_law__X9_bestE_71 : GoodIn lw_tbl (wsV RL 71 RX9 yX9_best wk_X9_bestE) := goodIn_m (sb_V (sb_l _ [871, 872, 873, 51] rfl) sb_X9_bestE) (AG_V gw_X9_bestE)
set_option maxRecDepth 20000 in
theorem g_law__X8_burn_72 : GoodIn lw_tbl (wsV RL 72 RX8 yX8_burn wk_X8_burn) := goodIn_m (sb_V (sb_l _ [525, 526, 527, 44] rfl) sb_X8_burn) (AG_V gw_X8_burn)
set_option maxRecDepth 20000 in
theorem g_law__X9_burn_75 : GoodIn lw_tbl (wsV RL 75 RX9 yX9_burn wk_X9_burn) := goodIn_m (sb_V (sb_l _ [887, 888, 889, 51] rfl) sb_X9_burn) (AG_V gw_X9_burn)
set_option maxRecDepth 20000 in
theorem g_law__X8_dot_76 : GoodIn lw_tbl (wsV RL 76 RX8 yX8_dot wk_X8_dot) := goodIn_m (sb_V (sb_l _ [533, 534, 535, 44] rfl) sb_X8_dot) (AG_V gw_X8_dot)
set_option maxRecDepth 20000 in
theorem g_law__X9_dot_79 : GoodIn lw_tbl (wsV RL 79 RX9 yX9_dot wk_X9_dot) := goodIn_m (sb_V (sb_l _ [892, 893, 894, 51] rfl) sb_X9_dot) (AG_V gw_X9_dot)
set_option maxRecDepth 20000 in
theorem g_law__X8_dotted_80 : GoodIn lw_tbl (wsV RL 80 RX8 yX8_dotted wk_X8_dotted) := goodIn_m (sb_V (sb_l _ [559, 560, 561, 44] rfl) sb_X8_dotted) (AG_V gw_X8_dotted)
set_option maxRecDepth 20000 in
theorem g_law__X9_dotted_83 : GoodIn lw_tbl (wsV RL 83 RX9 yX9_dotted wk_X9_dotted) := goodIn_m (sb_V (sb_l _ [896, 897, 898, 51] rfl) sb_X9_dotted) (AG_V gw_X9_dotted)
set_option maxRecDepth 20000 in
theorem g_law__X8_notice_84 : GoodIn lw_tbl (wsV RL 84 RX8 yX8_notice wk_X8_notice) := goodIn_m (sb_V (sb_l _ [567, 568, 569, 44] rfl) sb_X8_notice) (AG_V gw_X8_notice)
set_option maxRecDepth 20000 in
theorem g_law__X9_notice_87 : GoodIn lw_tbl (wsV RL 87 RX9 yX9_notice wk_X9_notice) := goodIn_m (sb_V (sb_l _ [900, 901, 902, 51] rfl) sb_X9_notice) (AG_V gw_X9_notice)
set_option maxRecDepth 20000 in
theorem g_law__X8_answer_88 : GoodIn lw_tbl (wsV RL 88 RX8 yX8_answer wk_X8_answer) := goodIn_m (sb_V (sb_l _ [615, 616, 617, 44] rfl) sb_X8_answer) (AG_V gw_X8_answer)
set_option maxRecDepth 20000 in
theorem g_law__X9_answer_91 : GoodIn lw_tbl (wsV RL 91 RX9 yX9_answer wk_X9_answer) := goodIn_m (sb_V (sb_l _ [904, 905, 906, 51] rfl) sb_X9_answer) (AG_V gw_X9_answer)
set_option maxRecDepth 20000 in
theorem g_law__X8_noticed_92 : GoodIn lw_tbl (wsV RL 92 RX8 yX8_noticed wk_X8_noticed) := goodIn_m (sb_V (sb_l _ [619, 620, 621, 44] rfl) sb_X8_noticed) (AG_V gw_X8_noticed)
set_option maxRecDepth 20000 in
theorem g_law__X9_noticed_95 : GoodIn lw_tbl (wsV RL 95 RX9 yX9_noticed wk_X9_noticed) := goodIn_m (sb_V (sb_l _ [908, 909, 910, 51] rfl) sb_X9_noticed) (AG_V gw_X9_noticed)
set_option maxRecDepth 20000 in
theorem g_law__X8_keep_96 : GoodIn lw_tbl (wsV RL 96 RX8 yX8_keep wk_X8_keep) := goodIn_m (sb_V (sb_l _ [623, 624, 625, 44] rfl) sb_X8_keep) (AG_V gw_X8_keep)
set_option maxRecDepth 20000 in
theorem g_law__X9_keep_99 : GoodIn lw_tbl (wsV RL 99 RX9 yX9_keep wk_X9_keep) := goodIn_m (sb_V (sb_l _ [912, 913, 914, 51] rfl) sb_X9_keep) (AG_V gw_X9_keep)
set_option maxRecDepth 20000 in
theorem g_law__X8_differs_100 : GoodIn lw_tbl (wsV RL 100 RX8 yX8_differs wk_X8_differs) := goodIn_m (sb_V (sb_l _ [637, 638, 639, 44] rfl) sb_X8_differs) (AG_V gw_X8_differs)
set_option maxRecDepth 20000 in
theorem g_law__X9_differs_103 : GoodIn lw_tbl (wsV RL 103 RX9 yX9_differs wk_X9_differs) := goodIn_m (sb_V (sb_l _ [920, 921, 922, 51] rfl) sb_X9_differs) (AG_V gw_X9_differs)
set_option maxRecDepth 20000 in
theorem g_law__X8_init_9 : GoodIn lw_tbl wk_X8_init := goodIn_m sb_X8_init gw_X8_init
set_option maxRecDepth 20000 in
theorem g_law__X9_init_12 : GoodIn lw_tbl wk_X9_init := goodIn_m sb_X9_init gw_X9_init
