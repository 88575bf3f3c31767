set_option maxRecDepth 100000 in
theorem ik_mc1 : lw_tbl[152]? = some (.code yX0_init prog_2_method_1_code 1 none) := rfl
set_option maxRecDepth 100000 in
theorem ik_mc2 : lw_tbl[534]? = some (.code yX0_bridge prog_2_method_2_code 1 (some .int)) := rfl
set_option maxRecDepth 100000 in
theorem ik_mc3 : lw_tbl[569]? = some (.code yX0_isPlace prog_2_method_3_code 2 (some .boolean)) := rfl
set_option maxRecDepth 100000 in
theorem ik_mc4 : lw_tbl[588]? = some (.code yX0_isAheadOfBridge prog_2_method_4_code 2 (some .boolean)) := rfl
set_option maxRecDepth 100000 in
theorem ik_mc5 : lw_tbl[573]? = some (.code yX0_isMove prog_2_method_5_code 3 (some .boolean)) := rfl
set_option maxRecDepth 100000 in
theorem ik_mc6 : lw_tbl[843]? = some (.code yX0_arePair prog_2_method_6_code 4 (some .boolean)) := rfl
set_option maxRecDepth 100000 in
theorem ik_mc7 : lw_tbl[592]? = some (.code yX0_holdsSuit prog_2_method_7_code 1 (some .boolean)) := rfl
set_option maxRecDepth 100000 in
theorem ik_mc8 : lw_tbl[510]? = some (.code yX0_takeFrom prog_2_method_8_code 2 none) := rfl
set_option maxRecDepth 100000 in
theorem ik_mc9 : lw_tbl[530]? = some (.code yX0_findLost prog_2_method_9_code 4 (some .int)) := rfl
set_option maxRecDepth 100000 in
theorem ik_mc10 : lw_tbl[538]? = some (.code yX0_goals prog_2_method_10_code 4 (some .int)) := rfl
set_option maxRecDepth 100000 in
theorem ik_mc11 : lw_tbl[517]? = some (.code yX0_settleAll prog_2_method_11_code 2 none) := rfl
set_option maxRecDepth 100000 in
theorem ik_mc12 : lw_tbl[521]? = some (.code yX0_settle prog_2_method_12_code 5 none) := rfl
set_option maxRecDepth 100000 in
theorem ik_mc13 : lw_tbl[525]? = some (.code yX0_hasStone prog_2_method_13_code 2 (some .boolean)) := rfl
set_option maxRecDepth 100000 in
theorem ik_mc14 : lw_tbl[783]? = some (.code yX0_turnStone prog_2_method_14_code 2 none) := rfl
set_option maxRecDepth 100000 in
theorem ik_mc15 : lw_tbl[848]? = some (.code yX0_canShift prog_2_method_15_code 4 (some .boolean)) := rfl
set_option maxRecDepth 100000 in
theorem ik_mc16 : lw_tbl[852]? = some (.code yX0_shift prog_2_method_16_code 5 none) := rfl
set_option maxRecDepth 100000 in
theorem ik_mc17 : lw_tbl[621]? = some (.code yX0_flow prog_2_method_17_code 11 none) := rfl
set_option maxRecDepth 100000 in
theorem ik_mc18 : lw_tbl[903]? = some (.code yX0_goalBy prog_2_method_18_code 5 (some .int)) := rfl
set_option maxRecDepth 100000 in
theorem ik_mc19 : lw_tbl[946]? = some (.code yX0_leads prog_2_method_19_code 6 (some .boolean)) := rfl
set_option maxRecDepth 100000 in
theorem ik_mc20 : lw_tbl[951]? = some (.code yX0_goOnce prog_2_method_20_code 4 (some .int)) := rfl
set_option maxRecDepth 100000 in
theorem ik_mc21 : lw_tbl[195]? = some (.code yX1_init prog_3_method_1_code 2 none) := rfl
set_option maxRecDepth 100000 in
theorem ik_mc22 : lw_tbl[542]? = some (.code yX1_reset prog_3_method_2_code 1 none) := rfl
set_option maxRecDepth 100000 in
theorem ik_mc23 : lw_tbl[549]? = some (.code yX1_restart prog_3_method_3_code 2 none) := rfl
set_option maxRecDepth 100000 in
theorem ik_mc24 : lw_tbl[883]? = some (.code yX1_outcome prog_3_method_4_code 1 (some .int)) := rfl
set_option maxRecDepth 100000 in
theorem ik_mc25 : lw_tbl[879]? = some (.code yX1_goOn prog_3_method_5_code 3 none) := rfl
set_option maxRecDepth 100000 in
theorem ik_mc26 : lw_tbl[888]? = some (.code yX1_passMinute prog_3_method_6_code 5 none) := rfl
set_option maxRecDepth 100000 in
theorem ik_mc27 : lw_tbl[894]? = some (.code yX1_drawOfHundred prog_3_method_7_code 1 (some .int)) := rfl
set_option maxRecDepth 100000 in
theorem ik_mc28 : lw_tbl[920]? = some (.code yX1_countWins prog_3_method_8_code 7 (some .int)) := rfl
set_option maxRecDepth 100000 in
theorem ik_mc29 : lw_tbl[232]? = some (.code yX2_init prog_4_method_1_code 2 none) := rfl
set_option maxRecDepth 100000 in
theorem ik_mc30 : lw_tbl[605]? = some (.code yX2_setIn prog_4_method_2_code 3 (some (.object "SlowerCork$Course"))) := rfl
set_option maxRecDepth 100000 in
theorem ik_mc31 : lw_tbl[614]? = some (.code yX2_comeBy prog_4_method_3_code 6 (some .int)) := rfl
set_option maxRecDepth 100000 in
theorem ik_mc32 : lw_tbl[630]? = some (.code yX2_oddsAt prog_4_method_4_code 6 (some .int)) := rfl
set_option maxRecDepth 100000 in
theorem ik_mc33 : lw_tbl[337]? = some (.code yX3_init prog_5_method_1_code 1 none) := rfl
set_option maxRecDepth 100000 in
theorem ik_mc34 : lw_tbl[967]? = some (.code yX3_take prog_5_method_2_code 3 none) := rfl
set_option maxRecDepth 100000 in
theorem ik_mc35 : lw_tbl[976]? = some (.code yX3_giveBack prog_5_method_3_code 3 none) := rfl
set_option maxRecDepth 100000 in
theorem ik_mc36 : lw_tbl[322]? = some (.code yX4_init prog_6_method_1_code 1 none) := rfl
set_option maxRecDepth 100000 in
theorem ik_mc37 : lw_tbl[553]? = some (.code yX4_empty prog_6_method_2_code 1 none) := rfl
set_option maxRecDepth 100000 in
theorem ik_mc38 : lw_tbl[929]? = some (.code yX4_add prog_6_method_3_code 3 (some .int)) := rfl
set_option maxRecDepth 100000 in
theorem ik_mc39 : lw_tbl[941]? = some (.code yX4_firstWrong prog_6_method_4_code 9 (some .int)) := rfl
set_option maxRecDepth 100000 in
theorem ik_mc40 : lw_tbl[279]? = some (.code yX5_init prog_7_method_1_code 1 none) := rfl
set_option maxRecDepth 100000 in
theorem ik_mc41 : lw_tbl[768]? = some (.code yX5_value prog_7_method_2_code 1 (some .int)) := rfl
set_option maxRecDepth 100000 in
theorem ik_mc42 : lw_tbl[773]? = some (.code yX5_shareOf prog_7_method_3_code 3 (some .int)) := rfl
set_option maxRecDepth 100000 in
theorem ik_mc43 : lw_tbl[715]? = some (.code yX5_findPair prog_7_method_4_code 6 (some .boolean)) := rfl
set_option maxRecDepth 100000 in
theorem ik_mc44 : lw_tbl[725]? = some (.code yX5_fits prog_7_method_5_code 5 (some .boolean)) := rfl
set_option maxRecDepth 100000 in
theorem ik_mc45 : lw_tbl[737]? = some (.code yX5_fearOf prog_7_method_6_code 4 (some .int)) := rfl
set_option maxRecDepth 100000 in
theorem ik_mc46 : lw_tbl[729]? = some (.code yX5_solve prog_7_method_7_code 9 (some .boolean)) := rfl
set_option maxRecDepth 100000 in
theorem ik_mc47 : lw_tbl[733]? = some (.code yX5_fillBoard prog_7_method_8_code 9 none) := rfl
set_option maxRecDepth 100000 in
theorem ik_mc48 : lw_tbl[756]? = some (.code yX5_makePositive prog_7_method_9_code 3 (some .boolean)) := rfl
set_option maxRecDepth 100000 in
theorem ik_mc49 : lw_tbl[748]? = some (.code yX5_minor prog_7_method_10_code 6 (some .long)) := rfl
set_option maxRecDepth 100000 in
theorem ik_mc50 : lw_tbl[752]? = some (.code yX5_cross prog_7_method_11_code 6 (some .long)) := rfl
set_option maxRecDepth 100000 in
theorem ik_mc51 : lw_tbl[760]? = some (.code yX5_noneIsBetter prog_7_method_12_code 5 (some .boolean)) := rfl
set_option maxRecDepth 100000 in
theorem ik_mc52 : lw_tbl[764]? = some (.code yX5_worthBy prog_7_method_13_code 6 (some .long)) := rfl
set_option maxRecDepth 100000 in
theorem ik_mc53 : lw_tbl[107]? = some (.code yX6_init prog_8_method_1_code 1 none) := rfl
set_option maxRecDepth 100000 in
theorem ik_mc54 : lw_tbl[395]? = some (.code yX6_hasRoom prog_8_method_2_code 2 (some .boolean)) := rfl
set_option maxRecDepth 100000 in
theorem ik_mc55 : lw_tbl[400]? = some (.code yX6_append prog_8_method_3_code 5 (some .int)) := rfl
set_option maxRecDepth 100000 in
theorem ik_mc56 : lw_tbl[408]? = some (.code yX6_readText prog_8_method_4_code 1 (some .int)) := rfl
set_option maxRecDepth 100000 in
theorem ik_mc57 : lw_tbl[412]? = some (.code yX6_readPlaces prog_8_method_5_code 3 (some .boolean)) := rfl
set_option maxRecDepth 100000 in
theorem ik_mc58 : lw_tbl[486]? = some (.code yX6_readMoves prog_8_method_6_code 5 (some .boolean)) := rfl
set_option maxRecDepth 100000 in
theorem ik_mc59 : lw_tbl[491]? = some (.code yX6_readGoal prog_8_method_7_code 6 (some .boolean)) := rfl
set_option maxRecDepth 100000 in
theorem ik_mc60 : lw_tbl[502]? = some (.code yX6_readChance prog_8_method_8_code 5 (some .boolean)) := rfl
set_option maxRecDepth 100000 in
theorem ik_mc61 : lw_tbl[473]? = some (.code yX6_readEnd prog_8_method_9_code 1 (some .boolean)) := rfl
set_option maxRecDepth 100000 in
theorem ik_mc62 : lw_tbl[506]? = some (.code yX6_checkGoals prog_8_method_10_code 3 none) := rfl
set_option maxRecDepth 100000 in
theorem ik_mc63 : lw_tbl[495]? = some (.code yX6_readNumber prog_8_method_11_code 5 (some .int)) := rfl
set_option maxRecDepth 100000 in
theorem ik_mc64 : lw_tbl[421]? = some (.code yX6_readWord prog_8_method_12_code 4 (some .boolean)) := rfl
set_option maxRecDepth 100000 in
theorem ik_mc65 : lw_tbl[477]? = some (.code yX6_standsHere prog_8_method_13_code 2 (some .boolean)) := rfl
set_option maxRecDepth 100000 in
theorem ik_mc66 : lw_tbl[416]? = some (.code yX6_skipBlanks prog_8_method_14_code 1 none) := rfl
set_option maxRecDepth 100000 in
theorem ik_mc67 : lw_tbl[481]? = some (.code yX6_refuse prog_8_method_15_code 3 (some .boolean)) := rfl
set_option maxRecDepth 100000 in
theorem ik_mc68 : lw_tbl[302]? = some (.code yX7_init prog_9_method_1_code 2 none) := rfl
set_option maxRecDepth 100000 in
theorem ik_mc69 : lw_tbl[801]? = some (.code yX7_add prog_9_method_2_code 3 (some .int)) := rfl
set_option maxRecDepth 100000 in
theorem ik_mc70 : lw_tbl[813]? = some (.code yX7_fitAsItIs prog_9_method_3_code 7 (some .int)) := rfl
set_option maxRecDepth 100000 in
theorem ik_mc71 : lw_tbl[823]? = some (.code yX7_fitWithOther prog_9_method_4_code 4 (some .int)) := rfl
set_option maxRecDepth 100000 in
theorem ik_mc72 : lw_tbl[833]? = some (.code yX7_findStone prog_9_method_5_code 6 (some .int)) := rfl
set_option maxRecDepth 100000 in
theorem ik_mc73 : lw_tbl[225]? = some (.code yX8_init prog_10_method_1_code 4 none) := rfl
set_option maxRecDepth 100000 in
theorem ik_mc74 : lw_tbl[687]? = some (.code yX8_lateOf prog_10_method_2_code 2 (some .int)) := rfl
set_option maxRecDepth 100000 in
theorem ik_mc75 : lw_tbl[683]? = some (.code yX8_bothAtOnce prog_10_method_3_code 1 (some .int)) := rfl
set_option maxRecDepth 100000 in
theorem ik_mc76 : lw_tbl[864]? = some (.code yX8_gap prog_10_method_4_code 1 (some .int)) := rfl
set_option maxRecDepth 100000 in
theorem ik_mc77 : lw_tbl[666]? = some (.code yX8_courseOf prog_10_method_5_code 2 (some (.object "SlowerCork$Course"))) := rfl
set_option maxRecDepth 100000 in
theorem ik_mc78 : lw_tbl[662]? = some (.code yX8_setInAsSet prog_10_method_6_code 2 none) := rfl
set_option maxRecDepth 100000 in
theorem ik_mc79 : lw_tbl[658]? = some (.code yX8_raceAsSet prog_10_method_7_code 2 none) := rfl
set_option maxRecDepth 100000 in
theorem ik_mc80 : lw_tbl[670]? = some (.code yX8_race prog_10_method_8_code 19 none) := rfl
set_option maxRecDepth 100000 in
theorem ik_mc81 : lw_tbl[675]? = some (.code yX8_leastGap prog_10_method_9_code 3 (some .long)) := rfl
set_option maxRecDepth 100000 in
theorem ik_mc82 : lw_tbl[643]? = some (.code yX8_firstApart prog_10_method_10_code 7 (some .int)) := rfl
set_option maxRecDepth 100000 in
theorem ik_mc83 : lw_tbl[695]? = some (.code yX8_findBest prog_10_method_11_code 8 none) := rfl
set_option maxRecDepth 100000 in
theorem ik_mc84 : lw_tbl[711]? = some (.code yX8_tellFears prog_10_method_12_code 6 none) := rfl
set_option maxRecDepth 100000 in
theorem ik_mc85 : lw_tbl[791]? = some (.code yX8_findMost prog_10_method_13_code 5 none) := rfl
set_option maxRecDepth 100000 in
theorem ik_mc86 : lw_tbl[860]? = some (.code yX8_findFair prog_10_method_14_code 7 none) := rfl
set_option maxRecDepth 100000 in
theorem ik_mc87 : lw_tbl[870]? = some (.code yX8_isFairDug prog_10_method_15_code 6 (some .boolean)) := rfl
set_option maxRecDepth 100000 in
theorem ik_mc88 : lw_tbl[702]? = some (.code yX8_tell prog_10_method_16_code 5 none) := rfl
set_option maxRecDepth 100000 in
theorem ik_mc89 : lw_tbl[99]? = some (.code yX9_init prog_1_method_1_code 1 none) := rfl
set_option maxRecDepth 100000 in
theorem ik_mc90 : lw_tbl[390]? = some (.code yX9_feed prog_1_method_2_code 4 (some .int)) := rfl
set_option maxRecDepth 100000 in
theorem ik_mc91 : lw_tbl[404]? = some (.code yX9_stream prog_1_method_3_code 3 (some .int)) := rfl
set_option maxRecDepth 100000 in
theorem ik_mc92 : lw_tbl[557]? = some (.code yX9_fault prog_1_method_4_code 1 (some .int)) := rfl
set_option maxRecDepth 100000 in
theorem ik_mc93 : lw_tbl[561]? = some (.code yX9_told prog_1_method_5_code 2 (some .int)) := rfl
set_option maxRecDepth 100000 in
theorem ik_mc94 : lw_tbl[565]? = some (.code yX9_move prog_1_method_6_code 4 (some .int)) := rfl
set_option maxRecDepth 100000 in
theorem ik_mc95 : lw_tbl[578]? = some (.code yX9_cork prog_1_method_7_code 5 (some .int)) := rfl
set_option maxRecDepth 100000 in
theorem ik_mc96 : lw_tbl[598]? = some (.code yX9_comes prog_1_method_8_code 4 (some .int)) := rfl
set_option maxRecDepth 100000 in
theorem ik_mc97 : lw_tbl[626]? = some (.code yX9_at prog_1_method_9_code 5 (some .int)) := rfl
set_option maxRecDepth 100000 in
theorem ik_mc98 : lw_tbl[635]? = some (.code yX9_kept prog_1_method_10_code 4 (some .int)) := rfl
set_option maxRecDepth 100000 in
theorem ik_mc99 : lw_tbl[639]? = some (.code yX9_known prog_1_method_11_code 4 (some .int)) := rfl
set_option maxRecDepth 100000 in
theorem ik_mc100 : lw_tbl[653]? = some (.code yX9_later prog_1_method_12_code 2 (some .int)) := rfl
set_option maxRecDepth 100000 in
theorem ik_mc101 : lw_tbl[691]? = some (.code yX9_best prog_1_method_13_code 4 (some .int)) := rfl
set_option maxRecDepth 100000 in
theorem ik_mc102 : lw_tbl[706]? = some (.code yX9_mixed prog_1_method_14_code 4 (some .int)) := rfl
set_option maxRecDepth 100000 in
theorem ik_mc103 : lw_tbl[778]? = some (.code yX9_stone prog_1_method_15_code 4 (some .int)) := rfl
set_option maxRecDepth 100000 in
theorem ik_mc104 : lw_tbl[787]? = some (.code yX9_most prog_1_method_16_code 3 (some .int)) := rfl
set_option maxRecDepth 100000 in
theorem ik_mc105 : lw_tbl[797]? = some (.code yX9_run prog_1_method_17_code 3 (some .int)) := rfl
set_option maxRecDepth 100000 in
theorem ik_mc106 : lw_tbl[805]? = some (.code yX9_forget prog_1_method_18_code 2 (some .int)) := rfl
set_option maxRecDepth 100000 in
theorem ik_mc107 : lw_tbl[809]? = some (.code yX9_fit prog_1_method_19_code 2 (some .int)) := rfl
set_option maxRecDepth 100000 in
theorem ik_mc108 : lw_tbl[829]? = some (.code yX9_stoned prog_1_method_20_code 1 (some .int)) := rfl
set_option maxRecDepth 100000 in
theorem ik_mc109 : lw_tbl[839]? = some (.code yX9_dig prog_1_method_21_code 5 (some .int)) := rfl
set_option maxRecDepth 100000 in
theorem ik_mc110 : lw_tbl[856]? = some (.code yX9_fair prog_1_method_22_code 3 (some .int)) := rfl
set_option maxRecDepth 100000 in
theorem ik_mc111 : lw_tbl[875]? = some (.code yX9_drift prog_1_method_23_code 2 (some .int)) := rfl
set_option maxRecDepth 100000 in
theorem ik_mc112 : lw_tbl[908]? = some (.code yX9_where prog_1_method_24_code 2 (some .int)) := rfl
set_option maxRecDepth 100000 in
theorem ik_mc113 : lw_tbl[912]? = some (.code yX9_begin prog_1_method_25_code 2 (some .int)) := rfl
set_option maxRecDepth 100000 in
theorem ik_mc114 : lw_tbl[916]? = some (.code yX9_morning prog_1_method_26_code 2 (some .int)) := rfl
set_option maxRecDepth 100000 in
theorem ik_mc115 : lw_tbl[925]? = some (.code yX9_log prog_1_method_27_code 3 (some .int)) := rfl
set_option maxRecDepth 100000 in
theorem ik_mc116 : lw_tbl[933]? = some (.code yX9_clear prog_1_method_28_code 2 (some .int)) := rfl
set_option maxRecDepth 100000 in
theorem ik_mc117 : lw_tbl[937]? = some (.code yX9_judge prog_1_method_29_code 2 (some .int)) := rfl
set_option maxRecDepth 100000 in
theorem ik_mc118 : lw_tbl[955]? = some (.code yX9_seed prog_1_method_30_code 3 (some .int)) := rfl
set_option maxRecDepth 100000 in
theorem ik_mc119 : lw_tbl[959]? = some (.code yX9_keep prog_1_method_31_code 2 (some .int)) := rfl
set_option maxRecDepth 100000 in
theorem ik_mc120 : lw_tbl[972]? = some (.code yX9_goBack prog_1_method_32_code 2 (some .int)) := rfl
set_option maxRecDepth 100000 in
theorem ik_mc121 : lw_tbl[581]? = some (.code yX9_isSide prog_1_method_33_code 1 (some .boolean)) := rfl
set_option maxRecDepth 100000 in
theorem ik_mc122 : lw_tbl[584]? = some (.code yX9_isKind prog_1_method_34_code 1 (some .boolean)) := rfl
set_option maxRecDepth 100000 in
theorem ik_mc123 : lw_tbl[601]? = some (.code yX9_isMinute prog_1_method_35_code 1 (some .boolean)) := rfl
set_option maxRecDepth 100000 in
theorem ik_mc124 : lw_tbl[963]? = some (.code yX9_isImage prog_1_method_36_code 2 (some .boolean)) := rfl
set_option maxRecDepth 100000 in
theorem ik_mc125 : lw_tbl[617]? = some (.code yX9_goesIn prog_1_method_37_code 2 (some .int)) := rfl
set_option maxRecDepth 100000 in
theorem ik_mc126 : lw_tbl[982]? = some (.code yX10_init prog_12_method_1_code 1 none) := rfl
set_option maxRecDepth 100000 in
theorem ik_mc127 : lw_tbl[1126]? = some (.code yX10_in prog_12_method_3_code 6 (some .boolean)) := rfl
set_option maxRecDepth 100000 in
theorem ik_mc128 : lw_tbl[1203]? = some (.code yX10_has prog_12_method_4_code 2 (some .boolean)) := rfl
set_option maxRecDepth 100000 in
theorem ik_mc129 : lw_tbl[1211]? = some (.code yX10_isPlace prog_12_method_5_code 2 (some .boolean)) := rfl
set_option maxRecDepth 100000 in
theorem ik_mc130 : lw_tbl[1200]? = some (.code yX10_bridge prog_12_method_6_code 1 (some .int)) := rfl
set_option maxRecDepth 100000 in
theorem ik_mc131 : lw_tbl[1227]? = some (.code yX10_isAhead prog_12_method_7_code 2 (some .boolean)) := rfl
set_option maxRecDepth 100000 in
theorem ik_mc132 : lw_tbl[1219]? = some (.code yX10_isSide prog_12_method_8_code 1 (some .boolean)) := rfl
set_option maxRecDepth 100000 in
theorem ik_mc133 : lw_tbl[1222]? = some (.code yX10_isKind prog_12_method_9_code 1 (some .boolean)) := rfl
set_option maxRecDepth 100000 in
theorem ik_mc134 : lw_tbl[1232]? = some (.code yX10_isStream prog_12_method_10_code 1 (some .boolean)) := rfl
set_option maxRecDepth 100000 in
theorem ik_mc135 : lw_tbl[1122]? = some (.code yX10_feed prog_12_method_11_code 5 (some .int)) := rfl
set_option maxRecDepth 100000 in
theorem ik_mc136 : lw_tbl[1141]? = some (.code yX10_here prog_12_method_12_code 1 (some .int)) := rfl
set_option maxRecDepth 100000 in
theorem ik_mc137 : lw_tbl[1165]? = some (.code yX10_fails prog_12_method_13_code 3 (some .int)) := rfl
set_option maxRecDepth 100000 in
theorem ik_mc138 : lw_tbl[1157]? = some (.code yX10_readWord prog_12_method_14_code 2 none) := rfl
set_option maxRecDepth 100000 in
theorem ik_mc139 : lw_tbl[1144]? = some (.code yX10_code prog_12_method_15_code 4 (some .long)) := rfl
set_option maxRecDepth 100000 in
theorem ik_mc140 : lw_tbl[1149]? = some (.code yX10_longer prog_12_method_16_code 3 (some .long)) := rfl
set_option maxRecDepth 100000 in
theorem ik_mc141 : lw_tbl[1178]? = some (.code yX10_takeNumber prog_12_method_17_code 4 (some .int)) := rfl
set_option maxRecDepth 100000 in
theorem ik_mc142 : lw_tbl[1153]? = some (.code yX10_pass prog_12_method_18_code 4 (some .boolean)) := rfl
set_option maxRecDepth 100000 in
theorem ik_mc143 : lw_tbl[1174]? = some (.code yX10_takeMove prog_12_method_19_code 6 (some .int)) := rfl
set_option maxRecDepth 100000 in
theorem ik_mc144 : lw_tbl[1169]? = some (.code yX10_takePlace prog_12_method_20_code 5 (some .int)) := rfl
set_option maxRecDepth 100000 in
theorem ik_mc145 : lw_tbl[1137]? = some (.code yX10_takeAll prog_12_method_21_code 3 (some .int)) := rfl
set_option maxRecDepth 100000 in
theorem ik_mc146 : lw_tbl[1184]? = some (.code yX10_isThere prog_12_method_22_code 3 (some .int)) := rfl
set_option maxRecDepth 100000 in
theorem ik_mc147 : lw_tbl[1133]? = some (.code yX10_stream prog_12_method_23_code 3 (some .int)) := rfl
set_option maxRecDepth 100000 in
theorem ik_mc148 : lw_tbl[1188]? = some (.code yX10_fault prog_12_method_24_code 1 (some .int)) := rfl
set_option maxRecDepth 100000 in
theorem ik_mc149 : lw_tbl[1196]? = some (.code yX10_lost prog_12_method_25_code 5 (some .int)) := rfl
set_option maxRecDepth 100000 in
theorem ik_mc150 : lw_tbl[1192]? = some (.code yX10_told prog_12_method_26_code 2 (some .int)) := rfl
set_option maxRecDepth 100000 in
theorem ik_mc151 : lw_tbl[1207]? = some (.code yX10_move prog_12_method_27_code 4 (some .int)) := rfl
set_option maxRecDepth 100000 in
theorem ik_mc152 : lw_tbl[1262]? = some (.code yX10_listMoves prog_12_method_28_code 4 none) := rfl
set_option maxRecDepth 100000 in
theorem ik_mc153 : lw_tbl[1258]? = some (.code yX10_flow prog_12_method_29_code 7 none) := rfl
set_option maxRecDepth 100000 in
theorem ik_mc154 : lw_tbl[1249]? = some (.code yX10_setIn prog_12_method_30_code 3 none) := rfl
set_option maxRecDepth 100000 in
theorem ik_mc155 : lw_tbl[1254]? = some (.code yX10_goOn prog_12_method_31_code 3 none) := rfl
set_option maxRecDepth 100000 in
theorem ik_mc156 : lw_tbl[1245]? = some (.code yX10_oddsAt prog_12_method_32_code 5 none) := rfl
set_option maxRecDepth 100000 in
theorem ik_mc157 : lw_tbl[1280]? = some (.code yX10_comesRow prog_12_method_33_code 5 none) := rfl
set_option maxRecDepth 100000 in
theorem ik_mc158 : lw_tbl[1216]? = some (.code yX10_cork prog_12_method_34_code 5 (some .int)) := rfl
set_option maxRecDepth 100000 in
theorem ik_mc159 : lw_tbl[1240]? = some (.code yX10_isMinute prog_12_method_35_code 1 (some .boolean)) := rfl
set_option maxRecDepth 100000 in
theorem ik_mc160 : lw_tbl[1237]? = some (.code yX10_comes prog_12_method_36_code 4 (some .int)) := rfl
set_option maxRecDepth 100000 in
theorem ik_mc161 : lw_tbl[1267]? = some (.code yX10_at prog_12_method_37_code 5 (some .int)) := rfl
set_option maxRecDepth 100000 in
theorem ik_mc162 : lw_tbl[1271]? = some (.code yX10_kept prog_12_method_38_code 8 (some .int)) := rfl
set_option maxRecDepth 100000 in
theorem ik_mc163 : lw_tbl[1283]? = some (.code yX10_size prog_12_method_39_code 2 (some .long)) := rfl
set_option maxRecDepth 100000 in
theorem ik_mc164 : lw_tbl[1275]? = some (.code yX10_known prog_12_method_40_code 5 (some .int)) := rfl
set_option maxRecDepth 100000 in
theorem ik_mc165 : lw_tbl[1296]? = some (.code yX10_suitRows prog_12_method_41_code 1 none) := rfl
set_option maxRecDepth 100000 in
theorem ik_mc166 : lw_tbl[1306]? = some (.code yX10_byThen prog_12_method_42_code 3 (some .long)) := rfl
set_option maxRecDepth 100000 in
theorem ik_mc167 : lw_tbl[1303]? = some (.code yX10_justThen prog_12_method_43_code 3 (some .long)) := rfl
set_option maxRecDepth 100000 in
theorem ik_mc168 : lw_tbl[1300]? = some (.code yX10_laterBy prog_12_method_44_code 11 (some .int)) := rfl
set_option maxRecDepth 100000 in
theorem ik_mc169 : lw_tbl[1292]? = some (.code yX10_laterOf prog_12_method_45_code 2 (some .int)) := rfl
set_option maxRecDepth 100000 in
theorem ik_mc170 : lw_tbl[1288]? = some (.code yX10_later prog_12_method_46_code 2 (some .int)) := rfl
set_option maxRecDepth 100000 in
theorem ik_mc171 : lw_tbl[1310]? = some (.code yX10_best prog_12_method_47_code 12 (some .int)) := rfl
set_option maxRecDepth 100000 in
theorem ik_mc172 : lw_tbl[1328]? = some (.code yX10_bits prog_12_method_48_code 3 (some .int)) := rfl
set_option maxRecDepth 100000 in
theorem ik_mc173 : lw_tbl[1335]? = some (.code yX10_list prog_12_method_49_code 4 none) := rfl
set_option maxRecDepth 100000 in
theorem ik_mc174 : lw_tbl[1339]? = some (.code yX10_fear prog_12_method_50_code 3 (some .long)) := rfl
set_option maxRecDepth 100000 in
theorem ik_mc175 : lw_tbl[1343]? = some (.code yX10_without prog_12_method_51_code 10 (some .long)) := rfl
set_option maxRecDepth 100000 in
theorem ik_mc176 : lw_tbl[1332]? = some (.code yX10_fits prog_12_method_52_code 9 (some .boolean)) := rfl
set_option maxRecDepth 100000 in
theorem ik_mc177 : lw_tbl[1348]? = some (.code yX10_isAtRest prog_12_method_53_code 9 (some .boolean)) := rfl
set_option maxRecDepth 100000 in
theorem ik_mc178 : lw_tbl[1321]? = some (.code yX10_findFears prog_12_method_54_code 9 none) := rfl
set_option maxRecDepth 100000 in
theorem ik_mc179 : lw_tbl[1325]? = some (.code yX10_findMixed prog_12_method_55_code 5 (some .boolean)) := rfl
set_option maxRecDepth 100000 in
theorem ik_mc180 : lw_tbl[1315]? = some (.code yX10_mixed prog_12_method_56_code 4 (some .int)) := rfl
set_option maxRecDepth 100000 in
theorem ik_mc181 : lw_tbl[1352]? = some (.code yX10_stone prog_12_method_57_code 4 (some .int)) := rfl
set_option maxRecDepth 100000 in
theorem ik_mc182 : lw_tbl[1356]? = some (.code yX10_most prog_12_method_58_code 9 (some .int)) := rfl
set_option maxRecDepth 100000 in
theorem ik_mc183 : lw_tbl[1360]? = some (.code yX10_run prog_12_method_59_code 3 (some .int)) := rfl
set_option maxRecDepth 100000 in
theorem ik_mc184 : lw_tbl[1364]? = some (.code yX10_forget prog_12_method_60_code 2 (some .int)) := rfl
set_option maxRecDepth 100000 in
theorem ik_mc185 : lw_tbl[1376]? = some (.code yX10_fitNow prog_12_method_61_code 6 (some .int)) := rfl
set_option maxRecDepth 100000 in
theorem ik_mc186 : lw_tbl[1372]? = some (.code yX10_fitOf prog_12_method_62_code 4 (some .int)) := rfl
set_option maxRecDepth 100000 in
theorem ik_mc187 : lw_tbl[1368]? = some (.code yX10_fit prog_12_method_63_code 2 (some .int)) := rfl
set_option maxRecDepth 100000 in
theorem ik_mc188 : lw_tbl[1380]? = some (.code yX10_stoned prog_12_method_64_code 5 (some .int)) := rfl
set_option maxRecDepth 100000 in
theorem ik_mc189 : lw_tbl[1384]? = some (.code yX10_dig prog_12_method_65_code 5 (some .int)) := rfl
set_option maxRecDepth 100000 in
theorem ik_mc190 : lw_tbl[1397]? = some (.code yX10_isFair prog_12_method_66_code 2 (some .boolean)) := rfl
set_option maxRecDepth 100000 in
theorem ik_mc191 : lw_tbl[1393]? = some (.code yX10_findFair prog_12_method_67_code 8 (some .int)) := rfl
set_option maxRecDepth 100000 in
theorem ik_mc192 : lw_tbl[1389]? = some (.code yX10_fair prog_12_method_68_code 4 (some .int)) := rfl
set_option maxRecDepth 100000 in
theorem ik_mc193 : lw_tbl[1421]? = some (.code yX10_draw prog_12_method_69_code 2 (some .int)) := rfl
set_option maxRecDepth 100000 in
theorem ik_mc194 : lw_tbl[987]? = some (.code yX10_beginAnew prog_12_method_70_code 2 none) := rfl
set_option maxRecDepth 100000 in
theorem ik_mc195 : lw_tbl[1417]? = some (.code yX10_gone prog_12_method_71_code 4 (some .int)) := rfl
set_option maxRecDepth 100000 in
theorem ik_mc196 : lw_tbl[1413]? = some (.code yX10_goSide prog_12_method_72_code 5 none) := rfl
set_option maxRecDepth 100000 in
theorem ik_mc197 : lw_tbl[1409]? = some (.code yX10_ended prog_12_method_73_code 1 (some .int)) := rfl
set_option maxRecDepth 100000 in
theorem ik_mc198 : lw_tbl[1405]? = some (.code yX10_driftOn prog_12_method_74_code 3 (some .int)) := rfl
set_option maxRecDepth 100000 in
theorem ik_mc199 : lw_tbl[1401]? = some (.code yX10_drift prog_12_method_75_code 2 (some .int)) := rfl
set_option maxRecDepth 100000 in
theorem ik_mc200 : lw_tbl[1429]? = some (.code yX10_where prog_12_method_76_code 2 (some .int)) := rfl
set_option maxRecDepth 100000 in
theorem ik_mc201 : lw_tbl[1433]? = some (.code yX10_begin prog_12_method_77_code 2 (some .int)) := rfl
set_option maxRecDepth 100000 in
theorem ik_mc202 : lw_tbl[1437]? = some (.code yX10_morning prog_12_method_78_code 7 (some .int)) := rfl
set_option maxRecDepth 100000 in
theorem ik_mc203 : lw_tbl[1442]? = some (.code yX10_log prog_12_method_79_code 3 (some .int)) := rfl
set_option maxRecDepth 100000 in
theorem ik_mc204 : lw_tbl[1446]? = some (.code yX10_clear prog_12_method_80_code 2 (some .int)) := rfl
set_option maxRecDepth 100000 in
theorem ik_mc205 : lw_tbl[1458]? = some (.code yX10_onFrom prog_12_method_81_code 5 (some .int)) := rfl
set_option maxRecDepth 100000 in
theorem ik_mc206 : lw_tbl[1454]? = some (.code yX10_mayBe prog_12_method_82_code 7 (some .boolean)) := rfl
set_option maxRecDepth 100000 in
theorem ik_mc207 : lw_tbl[1450]? = some (.code yX10_judge prog_12_method_83_code 3 (some .int)) := rfl
set_option maxRecDepth 100000 in
theorem ik_mc208 : lw_tbl[1462]? = some (.code yX10_seed prog_12_method_84_code 3 (some .int)) := rfl
set_option maxRecDepth 100000 in
theorem ik_mc209 : lw_tbl[1466]? = some (.code yX10_keep prog_12_method_85_code 4 (some .int)) := rfl
set_option maxRecDepth 100000 in
theorem ik_mc210 : lw_tbl[1470]? = some (.code yX10_goBack prog_12_method_86_code 4 (some .int)) := rfl
set_option maxRecDepth 100000 in
theorem ik_mc211 : lw_tbl[718]? = some (.code yJ6_bitCount_0f7a4 prog_13_method_49_code 1 (some .int)) := rfl
set_option maxRecDepth 100000 in
theorem ik_mc212 : lw_tbl[425]? = some (.code yJ0_length_8abf5 prog_15_method_54_code 1 (some .int)) := rfl
set_option maxRecDepth 100000 in
theorem ik_mc213 : lw_tbl[435]? = some (.code yJ0_charAt_5068e prog_15_method_56_code 2 (some .char)) := rfl
set_option maxRecDepth 100000 in
theorem ik_mc214 : lw_tbl[429]? = some (.code yJ0_coder_7d493 prog_15_method_152_code 1 (some .byte)) := rfl
set_option maxRecDepth 100000 in
theorem ik_mc215 : lw_tbl[439]? = some (.code yJ0_isLatin1_aae02 prog_15_method_154_code 1 (some .boolean)) := rfl
set_option maxRecDepth 100000 in
theorem ik_mc216 : lw_tbl[445]? = some (.code yJ0_checkIndex_df160 prog_15_method_155_code 2 none) := rfl
set_option maxRecDepth 100000 in
theorem ik_mc217 : lw_tbl[442]? = some (.code yJ1_charAt_3b067 prog_16_method_2_code 2 (some .char)) := rfl
set_option maxRecDepth 100000 in
theorem ik_mc218 : lw_tbl[463]? = some (.code yJ2_getChar_3b067 prog_17_method_5_code 2 (some .char)) := rfl
set_option maxRecDepth 100000 in
theorem ik_mc219 : lw_tbl[459]? = some (.code yJ2_length_9d52b prog_17_method_6_code 1 (some .int)) := rfl
set_option maxRecDepth 100000 in
theorem ik_mc220 : lw_tbl[453]? = some (.code yJ2_charAt_3b067 prog_17_method_83_code 2 (some .char)) := rfl
set_option maxRecDepth 100000 in
theorem ik_mc221 : lw_tbl[456]? = some (.code yJ2_checkIndex_2214a prog_17_method_91_code 2 none) := rfl
set_option maxRecDepth 100000 in
theorem ik_mc222 : lw_tbl[744]? = some (.code yJ7_rangeCheck_23922 prog_19_method_30_code 3 none) := rfl
set_option maxRecDepth 100000 in
theorem ik_mc223 : lw_tbl[608]? = some (.code yJ7_fill_d0a16 prog_19_method_101_code 5 none) := rfl
set_option maxRecDepth 100000 in
theorem ik_mc224 : lw_tbl[741]? = some (.code yJ7_fill_bad5a prog_19_method_102_code 6 none) := rfl
set_option maxRecDepth 100000 in
theorem ik_mc225 : lw_tbl[545]? = some (.code yJ7_fill_53178 prog_19_method_103_code 4 none) := rfl
set_option maxRecDepth 100000 in
theorem ik_mc226 : lw_tbl[450]? = some (.code yJ3_checkIndex_8e157 prog_20_method_11_code 3 (some .int)) := rfl
def ik_cOK (e : ik_MI) : Prop := Cond.code e.1.1 e.1.2.1 e.1.2.2.1 e.1.2.2.2 ∈ ik_ts
theorem ik_cOK_of {e : ik_MI} {i : Nat} (h : lw_tbl[i]? = some (.code e.1.1 e.1.2.1 e.1.2.2.1 e.1.2.2.2)) : ik_cOK e := List.mem_filter.mpr ⟨List.mem_of_getElem? h, rfl⟩
set_option maxRecDepth 100000 in
theorem ik_code_all : ∀ e ∈ ik_M.tail, ik_cOK e := List.forall_mem_cons.mpr ⟨ik_cOK_of (e := ik_m1) ik_mc1, List.forall_mem_cons.mpr ⟨ik_cOK_of (e := ik_m2) ik_mc2, List.forall_mem_cons.mpr ⟨ik_cOK_of (e := ik_m3) ik_mc3, List.forall_mem_cons.mpr ⟨ik_cOK_of (e := ik_m4) ik_mc4, List.forall_mem_cons.mpr ⟨ik_cOK_of (e := ik_m5) ik_mc5, List.forall_mem_cons.mpr ⟨ik_cOK_of (e := ik_m6) ik_mc6, List.forall_mem_cons.mpr ⟨ik_cOK_of (e := ik_m7) ik_mc7, List.forall_mem_cons.mpr ⟨ik_cOK_of (e := ik_m8) ik_mc8, List.forall_mem_cons.mpr ⟨ik_cOK_of (e := ik_m9) ik_mc9, List.forall_mem_cons.mpr ⟨ik_cOK_of (e := ik_m10) ik_mc10, List.forall_mem_cons.mpr ⟨ik_cOK_of (e := ik_m11) ik_mc11, List.forall_mem_cons.mpr ⟨ik_cOK_of (e := ik_m12) ik_mc12, List.forall_mem_cons.mpr ⟨ik_cOK_of (e := ik_m13) ik_mc13, List.forall_mem_cons.mpr ⟨ik_cOK_of (e := ik_m14) ik_mc14, List.forall_mem_cons.mpr ⟨ik_cOK_of (e := ik_m15) ik_mc15, List.forall_mem_cons.mpr ⟨ik_cOK_of (e := ik_m16) ik_mc16, List.forall_mem_cons.mpr ⟨ik_cOK_of (e := ik_m17) ik_mc17, List.forall_mem_cons.mpr ⟨ik_cOK_of (e := ik_m18) ik_mc18, List.forall_mem_cons.mpr ⟨ik_cOK_of (e := ik_m19) ik_mc19, List.forall_mem_cons.mpr ⟨ik_cOK_of (e := ik_m20) ik_mc20, List.forall_mem_cons.mpr ⟨ik_cOK_of (e := ik_m21) ik_mc21, List.forall_mem_cons.mpr ⟨ik_cOK_of (e := ik_m22) ik_mc22, List.forall_mem_cons.mpr ⟨ik_cOK_of (e := ik_m23) ik_mc23, List.forall_mem_cons.mpr ⟨ik_cOK_of (e := ik_m24) ik_mc24, List.forall_mem_cons.mpr ⟨ik_cOK_of (e := ik_m25) ik_mc25, List.forall_mem_cons.mpr ⟨ik_cOK_of (e := ik_m26) ik_mc26, List.forall_mem_cons.mpr ⟨ik_cOK_of (e := ik_m27) ik_mc27, List.forall_mem_cons.mpr ⟨ik_cOK_of (e := ik_m28) ik_mc28, List.forall_mem_cons.mpr ⟨ik_cOK_of (e := ik_m29) ik_mc29, List.forall_mem_cons.mpr ⟨ik_cOK_of (e := ik_m30) ik_mc30, List.forall_mem_cons.mpr ⟨ik_cOK_of (e := ik_m31) ik_mc31, List.forall_mem_cons.mpr ⟨ik_cOK_of (e := ik_m32) ik_mc32, List.forall_mem_cons.mpr ⟨ik_cOK_of (e := ik_m33) ik_mc33, List.forall_mem_cons.mpr ⟨ik_cOK_of (e := ik_m34) ik_mc34, List.forall_mem_cons.mpr ⟨ik_cOK_of (e := ik_m35) ik_mc35, List.forall_mem_cons.mpr ⟨ik_cOK_of (e := ik_m36) ik_mc36, List.forall_mem_cons.mpr ⟨ik_cOK_of (e := ik_m37) ik_mc37, List.forall_mem_cons.mpr ⟨ik_cOK_of (e := ik_m38) ik_mc38, List.forall_mem_cons.mpr ⟨ik_cOK_of (e := ik_m39) ik_mc39, List.forall_mem_cons.mpr ⟨ik_cOK_of (e := ik_m40) ik_mc40, List.forall_mem_cons.mpr ⟨ik_cOK_of (e := ik_m41) ik_mc41, List.forall_mem_cons.mpr ⟨ik_cOK_of (e := ik_m42) ik_mc42, List.forall_mem_cons.mpr ⟨ik_cOK_of (e := ik_m43) ik_mc43, List.forall_mem_cons.mpr ⟨ik_cOK_of (e := ik_m44) ik_mc44, List.forall_mem_cons.mpr ⟨ik_cOK_of (e := ik_m45) ik_mc45, List.forall_mem_cons.mpr ⟨ik_cOK_of (e := ik_m46) ik_mc46, List.forall_mem_cons.mpr ⟨ik_cOK_of (e := ik_m47) ik_mc47, List.forall_mem_cons.mpr ⟨ik_cOK_of (e := ik_m48) ik_mc48, List.forall_mem_cons.mpr ⟨ik_cOK_of (e := ik_m49) ik_mc49, List.forall_mem_cons.mpr ⟨ik_cOK_of (e := ik_m50) ik_mc50, List.forall_mem_cons.mpr ⟨ik_cOK_of (e := ik_m51) ik_mc51, List.forall_mem_cons.mpr ⟨ik_cOK_of (e := ik_m52) ik_mc52, List.forall_mem_cons.mpr ⟨ik_cOK_of (e := ik_m53) ik_mc53, List.forall_mem_cons.mpr ⟨ik_cOK_of (e := ik_m54) ik_mc54, List.forall_mem_cons.mpr ⟨ik_cOK_of (e := ik_m55) ik_mc55, List.forall_mem_cons.mpr ⟨ik_cOK_of (e := ik_m56) ik_mc56, List.forall_mem_cons.mpr ⟨ik_cOK_of (e := ik_m57) ik_mc57, List.forall_mem_cons.mpr ⟨ik_cOK_of (e := ik_m58) ik_mc58, List.forall_mem_cons.mpr ⟨ik_cOK_of (e := ik_m59) ik_mc59, List.forall_mem_cons.mpr ⟨ik_cOK_of (e := ik_m60) ik_mc60, List.forall_mem_cons.mpr ⟨ik_cOK_of (e := ik_m61) ik_mc61, List.forall_mem_cons.mpr ⟨ik_cOK_of (e := ik_m62) ik_mc62, List.forall_mem_cons.mpr ⟨ik_cOK_of (e := ik_m63) ik_mc63, List.forall_mem_cons.mpr ⟨ik_cOK_of (e := ik_m64) ik_mc64, List.forall_mem_cons.mpr ⟨ik_cOK_of (e := ik_m65) ik_mc65, List.forall_mem_cons.mpr ⟨ik_cOK_of (e := ik_m66) ik_mc66, List.forall_mem_cons.mpr ⟨ik_cOK_of (e := ik_m67) ik_mc67, List.forall_mem_cons.mpr ⟨ik_cOK_of (e := ik_m68) ik_mc68, List.forall_mem_cons.mpr ⟨ik_cOK_of (e := ik_m69) ik_mc69, List.forall_mem_cons.mpr ⟨ik_cOK_of (e := ik_m70) ik_mc70, List.forall_mem_cons.mpr ⟨ik_cOK_of (e := ik_m71) ik_mc71, List.forall_mem_cons.mpr ⟨ik_cOK_of (e := ik_m72) ik_mc72, List.forall_mem_cons.mpr ⟨ik_cOK_of (e := ik_m73) ik_mc73, List.forall_mem_cons.mpr ⟨ik_cOK_of (e := ik_m74) ik_mc74, List.forall_mem_cons.mpr ⟨ik_cOK_of (e := ik_m75) ik_mc75, List.forall_mem_cons.mpr ⟨ik_cOK_of (e := ik_m76) ik_mc76, List.forall_mem_cons.mpr ⟨ik_cOK_of (e := ik_m77) ik_mc77, List.forall_mem_cons.mpr ⟨ik_cOK_of (e := ik_m78) ik_mc78, List.forall_mem_cons.mpr ⟨ik_cOK_of (e := ik_m79) ik_mc79, List.forall_mem_cons.mpr ⟨ik_cOK_of (e := ik_m80) ik_mc80, List.forall_mem_cons.mpr ⟨ik_cOK_of (e := ik_m81) ik_mc81, List.forall_mem_cons.mpr ⟨ik_cOK_of (e := ik_m82) ik_mc82, List.forall_mem_cons.mpr ⟨ik_cOK_of (e := ik_m83) ik_mc83, List.forall_mem_cons.mpr ⟨ik_cOK_of (e := ik_m84) ik_mc84, List.forall_mem_cons.mpr ⟨ik_cOK_of (e := ik_m85) ik_mc85, List.forall_mem_cons.mpr ⟨ik_cOK_of (e := ik_m86) ik_mc86, List.forall_mem_cons.mpr ⟨ik_cOK_of (e := ik_m87) ik_mc87, List.forall_mem_cons.mpr ⟨ik_cOK_of (e := ik_m88) ik_mc88, List.forall_mem_cons.mpr ⟨ik_cOK_of (e := ik_m89) ik_mc89, List.forall_mem_cons.mpr ⟨ik_cOK_of (e := ik_m90) ik_mc90, List.forall_mem_cons.mpr ⟨ik_cOK_of (e := ik_m91) ik_mc91, List.forall_mem_cons.mpr ⟨ik_cOK_of (e := ik_m92) ik_mc92, List.forall_mem_cons.mpr ⟨ik_cOK_of (e := ik_m93) ik_mc93, List.forall_mem_cons.mpr ⟨ik_cOK_of (e := ik_m94) ik_mc94, List.forall_mem_cons.mpr ⟨ik_cOK_of (e := ik_m95) ik_mc95, List.forall_mem_cons.mpr ⟨ik_cOK_of (e := ik_m96) ik_mc96, List.forall_mem_cons.mpr ⟨ik_cOK_of (e := ik_m97) ik_mc97, List.forall_mem_cons.mpr ⟨ik_cOK_of (e := ik_m98) ik_mc98, List.forall_mem_cons.mpr ⟨ik_cOK_of (e := ik_m99) ik_mc99, List.forall_mem_cons.mpr ⟨ik_cOK_of (e := ik_m100) ik_mc100, List.forall_mem_cons.mpr ⟨ik_cOK_of (e := ik_m101) ik_mc101, List.forall_mem_cons.mpr ⟨ik_cOK_of (e := ik_m102) ik_mc102, List.forall_mem_cons.mpr ⟨ik_cOK_of (e := ik_m103) ik_mc103, List.forall_mem_cons.mpr ⟨ik_cOK_of (e := ik_m104) ik_mc104, List.forall_mem_cons.mpr ⟨ik_cOK_of (e := ik_m105) ik_mc105, List.forall_mem_cons.mpr ⟨ik_cOK_of (e := ik_m106) ik_mc106, List.forall_mem_cons.mpr ⟨ik_cOK_of (e := ik_m107) ik_mc107, List.forall_mem_cons.mpr ⟨ik_cOK_of (e := ik_m108) ik_mc108, List.forall_mem_cons.mpr ⟨ik_cOK_of (e := ik_m109) ik_mc109, List.forall_mem_cons.mpr ⟨ik_cOK_of (e := ik_m110) ik_mc110, List.forall_mem_cons.mpr ⟨ik_cOK_of (e := ik_m111) ik_mc111, List.forall_mem_cons.mpr ⟨ik_cOK_of (e := ik_m112) ik_mc112, List.forall_mem_cons.mpr ⟨ik_cOK_of (e := ik_m113) ik_mc113, List.forall_mem_cons.mpr ⟨ik_cOK_of (e := ik_m114) ik_mc114, List.forall_mem_cons.mpr ⟨ik_cOK_of (e := ik_m115) ik_mc115, List.forall_mem_cons.mpr ⟨ik_cOK_of (e := ik_m116) ik_mc116, List.forall_mem_cons.mpr ⟨ik_cOK_of (e := ik_m117) ik_mc117, List.forall_mem_cons.mpr ⟨ik_cOK_of (e := ik_m118) ik_mc118, List.forall_mem_cons.mpr ⟨ik_cOK_of (e := ik_m119) ik_mc119, List.forall_mem_cons.mpr ⟨ik_cOK_of (e := ik_m120) ik_mc120, List.forall_mem_cons.mpr ⟨ik_cOK_of (e := ik_m121) ik_mc121, List.forall_mem_cons.mpr ⟨ik_cOK_of (e := ik_m122) ik_mc122, List.forall_mem_cons.mpr ⟨ik_cOK_of (e := ik_m123) ik_mc123, List.forall_mem_cons.mpr ⟨ik_cOK_of (e := ik_m124) ik_mc124, List.forall_mem_cons.mpr ⟨ik_cOK_of (e := ik_m125) ik_mc125, List.forall_mem_cons.mpr ⟨ik_cOK_of (e := ik_m126) ik_mc126, List.forall_mem_cons.mpr ⟨ik_cOK_of (e := ik_m127) ik_mc127, List.forall_mem_cons.mpr ⟨ik_cOK_of (e := ik_m128) ik_mc128, List.forall_mem_cons.mpr ⟨ik_cOK_of (e := ik_m129) ik_mc129, List.forall_mem_cons.mpr ⟨ik_cOK_of (e := ik_m130) ik_mc130, List.forall_mem_cons.mpr ⟨ik_cOK_of (e := ik_m131) ik_mc131, List.forall_mem_cons.mpr ⟨ik_cOK_of (e := ik_m132) ik_mc132, List.forall_mem_cons.mpr ⟨ik_cOK_of (e := ik_m133) ik_mc133, List.forall_mem_cons.mpr ⟨ik_cOK_of (e := ik_m134) ik_mc134, List.forall_mem_cons.mpr ⟨ik_cOK_of (e := ik_m135) ik_mc135, List.forall_mem_cons.mpr ⟨ik_cOK_of (e := ik_m136) ik_mc136, List.forall_mem_cons.mpr ⟨ik_cOK_of (e := ik_m137) ik_mc137, List.forall_mem_cons.mpr ⟨ik_cOK_of (e := ik_m138) ik_mc138, List.forall_mem_cons.mpr ⟨ik_cOK_of (e := ik_m139) ik_mc139, List.forall_mem_cons.mpr ⟨ik_cOK_of (e := ik_m140) ik_mc140, List.forall_mem_cons.mpr ⟨ik_cOK_of (e := ik_m141) ik_mc141, List.forall_mem_cons.mpr ⟨ik_cOK_of (e := ik_m142) ik_mc142, List.forall_mem_cons.mpr ⟨ik_cOK_of (e := ik_m143) ik_mc143, List.forall_mem_cons.mpr ⟨ik_cOK_of (e := ik_m144) ik_mc144, List.forall_mem_cons.mpr ⟨ik_cOK_of (e := ik_m145) ik_mc145, List.forall_mem_cons.mpr ⟨ik_cOK_of (e := ik_m146) ik_mc146, List.forall_mem_cons.mpr ⟨ik_cOK_of (e := ik_m147) ik_mc147, List.forall_mem_cons.mpr ⟨ik_cOK_of (e := ik_m148) ik_mc148, List.forall_mem_cons.mpr ⟨ik_cOK_of (e := ik_m149) ik_mc149, List.forall_mem_cons.mpr ⟨ik_cOK_of (e := ik_m150) ik_mc150, List.forall_mem_cons.mpr ⟨ik_cOK_of (e := ik_m151) ik_mc151, List.forall_mem_cons.mpr ⟨ik_cOK_of (e := ik_m152) ik_mc152, List.forall_mem_cons.mpr ⟨ik_cOK_of (e := ik_m153) ik_mc153, List.forall_mem_cons.mpr ⟨ik_cOK_of (e := ik_m154) ik_mc154, List.forall_mem_cons.mpr ⟨ik_cOK_of (e := ik_m155) ik_mc155, List.forall_mem_cons.mpr ⟨ik_cOK_of (e := ik_m156) ik_mc156, List.forall_mem_cons.mpr ⟨ik_cOK_of (e := ik_m157) ik_mc157, List.forall_mem_cons.mpr ⟨ik_cOK_of (e := ik_m158) ik_mc158, List.forall_mem_cons.mpr ⟨ik_cOK_of (e := ik_m159) ik_mc159, List.forall_mem_cons.mpr ⟨ik_cOK_of (e := ik_m160) ik_mc160, List.forall_mem_cons.mpr ⟨ik_cOK_of (e := ik_m161) ik_mc161, List.forall_mem_cons.mpr ⟨ik_cOK_of (e := ik_m162) ik_mc162, List.forall_mem_cons.mpr ⟨ik_cOK_of (e := ik_m163) ik_mc163, List.forall_mem_cons.mpr ⟨ik_cOK_of (e := ik_m164) ik_mc164, List.forall_mem_cons.mpr ⟨ik_cOK_of (e := ik_m165) ik_mc165, List.forall_mem_cons.mpr ⟨ik_cOK_of (e := ik_m166) ik_mc166, List.forall_mem_cons.mpr ⟨ik_cOK_of (e := ik_m167) ik_mc167, List.forall_mem_cons.mpr ⟨ik_cOK_of (e := ik_m168) ik_mc168, List.forall_mem_cons.mpr ⟨ik_cOK_of (e := ik_m169) ik_mc169, List.forall_mem_cons.mpr ⟨ik_cOK_of (e := ik_m170) ik_mc170, List.forall_mem_cons.mpr ⟨ik_cOK_of (e := ik_m171) ik_mc171, List.forall_mem_cons.mpr ⟨ik_cOK_of (e := ik_m172) ik_mc172, List.forall_mem_cons.mpr ⟨ik_cOK_of (e := ik_m173) ik_mc173, List.forall_mem_cons.mpr ⟨ik_cOK_of (e := ik_m174) ik_mc174, List.forall_mem_cons.mpr ⟨ik_cOK_of (e := ik_m175) ik_mc175, List.forall_mem_cons.mpr ⟨ik_cOK_of (e := ik_m176) ik_mc176, List.forall_mem_cons.mpr ⟨ik_cOK_of (e := ik_m177) ik_mc177, List.forall_mem_cons.mpr ⟨ik_cOK_of (e := ik_m178) ik_mc178, List.forall_mem_cons.mpr ⟨ik_cOK_of (e := ik_m179) ik_mc179, List.forall_mem_cons.mpr ⟨ik_cOK_of (e := ik_m180) ik_mc180, List.forall_mem_cons.mpr ⟨ik_cOK_of (e := ik_m181) ik_mc181, List.forall_mem_cons.mpr ⟨ik_cOK_of (e := ik_m182) ik_mc182, List.forall_mem_cons.mpr ⟨ik_cOK_of (e := ik_m183) ik_mc183, List.forall_mem_cons.mpr ⟨ik_cOK_of (e := ik_m184) ik_mc184, List.forall_mem_cons.mpr ⟨ik_cOK_of (e := ik_m185) ik_mc185, List.forall_mem_cons.mpr ⟨ik_cOK_of (e := ik_m186) ik_mc186, List.forall_mem_cons.mpr ⟨ik_cOK_of (e := ik_m187) ik_mc187, List.forall_mem_cons.mpr ⟨ik_cOK_of (e := ik_m188) ik_mc188, List.forall_mem_cons.mpr ⟨ik_cOK_of (e := ik_m189) ik_mc189, List.forall_mem_cons.mpr ⟨ik_cOK_of (e := ik_m190) ik_mc190, List.forall_mem_cons.mpr ⟨ik_cOK_of (e := ik_m191) ik_mc191, List.forall_mem_cons.mpr ⟨ik_cOK_of (e := ik_m192) ik_mc192, List.forall_mem_cons.mpr ⟨ik_cOK_of (e := ik_m193) ik_mc193, List.forall_mem_cons.mpr ⟨ik_cOK_of (e := ik_m194) ik_mc194, List.forall_mem_cons.mpr ⟨ik_cOK_of (e := ik_m195) ik_mc195, List.forall_mem_cons.mpr ⟨ik_cOK_of (e := ik_m196) ik_mc196, List.forall_mem_cons.mpr ⟨ik_cOK_of (e := ik_m197) ik_mc197, List.forall_mem_cons.mpr ⟨ik_cOK_of (e := ik_m198) ik_mc198, List.forall_mem_cons.mpr ⟨ik_cOK_of (e := ik_m199) ik_mc199, List.forall_mem_cons.mpr ⟨ik_cOK_of (e := ik_m200) ik_mc200, List.forall_mem_cons.mpr ⟨ik_cOK_of (e := ik_m201) ik_mc201, List.forall_mem_cons.mpr ⟨ik_cOK_of (e := ik_m202) ik_mc202, List.forall_mem_cons.mpr ⟨ik_cOK_of (e := ik_m203) ik_mc203, List.forall_mem_cons.mpr ⟨ik_cOK_of (e := ik_m204) ik_mc204, List.forall_mem_cons.mpr ⟨ik_cOK_of (e := ik_m205) ik_mc205, List.forall_mem_cons.mpr ⟨ik_cOK_of (e := ik_m206) ik_mc206, List.forall_mem_cons.mpr ⟨ik_cOK_of (e := ik_m207) ik_mc207, List.forall_mem_cons.mpr ⟨ik_cOK_of (e := ik_m208) ik_mc208, List.forall_mem_cons.mpr ⟨ik_cOK_of (e := ik_m209) ik_mc209, List.forall_mem_cons.mpr ⟨ik_cOK_of (e := ik_m210) ik_mc210, List.forall_mem_cons.mpr ⟨ik_cOK_of (e := ik_m211) ik_mc211, List.forall_mem_cons.mpr ⟨ik_cOK_of (e := ik_m212) ik_mc212, List.forall_mem_cons.mpr ⟨ik_cOK_of (e := ik_m213) ik_mc213, List.forall_mem_cons.mpr ⟨ik_cOK_of (e := ik_m214) ik_mc214, List.forall_mem_cons.mpr ⟨ik_cOK_of (e := ik_m215) ik_mc215, List.forall_mem_cons.mpr ⟨ik_cOK_of (e := ik_m216) ik_mc216, List.forall_mem_cons.mpr ⟨ik_cOK_of (e := ik_m217) ik_mc217, List.forall_mem_cons.mpr ⟨ik_cOK_of (e := ik_m218) ik_mc218, List.forall_mem_cons.mpr ⟨ik_cOK_of (e := ik_m219) ik_mc219, List.forall_mem_cons.mpr ⟨ik_cOK_of (e := ik_m220) ik_mc220, List.forall_mem_cons.mpr ⟨ik_cOK_of (e := ik_m221) ik_mc221, List.forall_mem_cons.mpr ⟨ik_cOK_of (e := ik_m222) ik_mc222, List.forall_mem_cons.mpr ⟨ik_cOK_of (e := ik_m223) ik_mc223, List.forall_mem_cons.mpr ⟨ik_cOK_of (e := ik_m224) ik_mc224, List.forall_mem_cons.mpr ⟨ik_cOK_of (e := ik_m225) ik_mc225, List.forall_mem_cons.mpr ⟨ik_cOK_of (e := ik_m226) ik_mc226, fun _ h => absurd h List.not_mem_nil⟩⟩⟩⟩⟩⟩⟩⟩⟩⟩⟩⟩⟩⟩⟩⟩⟩⟩⟩⟩⟩⟩⟩⟩⟩⟩⟩⟩⟩⟩⟩⟩⟩⟩⟩⟩⟩⟩⟩⟩⟩⟩⟩⟩⟩⟩⟩⟩⟩⟩⟩⟩⟩⟩⟩⟩⟩⟩⟩⟩⟩⟩⟩⟩⟩⟩⟩⟩⟩⟩⟩⟩⟩⟩⟩⟩⟩⟩⟩⟩⟩⟩⟩⟩⟩⟩⟩⟩⟩⟩⟩⟩⟩⟩⟩⟩⟩⟩⟩⟩⟩⟩⟩⟩⟩⟩⟩⟩⟩⟩⟩⟩⟩⟩⟩⟩⟩⟩⟩⟩⟩⟩⟩⟩⟩⟩⟩⟩⟩⟩⟩⟩⟩⟩⟩⟩⟩⟩⟩⟩⟩⟩⟩⟩⟩⟩⟩⟩⟩⟩⟩⟩⟩⟩⟩⟩⟩⟩⟩⟩⟩⟩⟩⟩⟩⟩⟩⟩⟩⟩⟩⟩⟩⟩⟩⟩⟩⟩⟩⟩⟩⟩⟩⟩⟩⟩⟩⟩⟩⟩⟩⟩⟩⟩⟩⟩⟩⟩⟩⟩⟩⟩⟩⟩⟩⟩⟩⟩⟩⟩⟩⟩⟩⟩⟩⟩⟩⟩⟩⟩⟩⟩⟩⟩⟩⟩
theorem ik_code_in {mid : Nat} (h0 : 0 < mid) (h : mid < ik_M.length) : Cond.code (ik_y mid) (ik_by mid) (ik_ml mid) (ik_rt mid) ∈ ik_ts := by
  obtain ⟨k, rfl⟩ : ∃ k, mid = k + 1 := ⟨mid - 1, by omega⟩
  have hk : ik_M.tail[k]? = some (ik_mi (k + 1)) := by
    unfold ik_mi
    rw [List.getElem?_tail, List.getD_eq_getElem?_getD, List.getElem?_eq_getElem h]
    rfl
  exact ik_code_all _ (List.mem_of_getElem? hk)
def ik_isMH (c : String) : Bool := decide (c = "java/lang/invoke/MethodHandle") || decide (c = "java/lang/invoke/VarHandle")
def ik_mchk (e : ik_MI) (q : Nat × Nat × Nat × Nat × Bool) : Bool :=
  ik_tw q.2.1 (.initialized e.1.1.cls) && (bif q.2.2.2.2 then ik_tw q.2.2.1 (.static e.1.1) else ik_tw q.2.2.1 (.instanceMethod e.1.1)) &&
  (q.2.2.2.2 || decide (e.1.1.name = "<init>") || ik_tw q.2.2.2.1 (.selects e.1.1.cls e.1.1 e.1.1)) && !ik_isMH e.1.1.cls && plainName e.1.1.cls && decide (ik_oN[e.2.1.1]? = some e.1.1.cls) &&
  (decide (e.2.1.2.1 = 0) || (decide (e.1.1.name = "<init>") && decide (e.2.1.2.1 = e.2.1.1 + 1) && decide (e.1.2.2.2 = none)))
set_option maxRecDepth 100000 in
theorem ik_mall : ((List.range 227).all fun m => (m == 0) || ik_mchk (ik_mi m) (ik_MP.getD m (0, 0, 0, 0, true))) = true := by decide +kernel
set_option maxRecDepth 100000 in
theorem ik_Mlen : ik_M.length = 227 := rfl
def ik_fchk (o : Nat) (e : Nat × Nat × Nat × Nat × Nat) : Bool := match vwCl[e.2.1]?, ik_oN[o]? with
  | some (C, T, N), some own => decide (e.2.2.1 < N) && decide ((T e.2.2.1).1 = C) && decide ((T e.2.2.1).2.2.2 = ik_fi e.2.1 e.2.2.1) && (match e.2.2.2.2 with
    | 0 => ik_tw e.2.2.2.1 (.fieldLink own e.1 C (T e.2.2.1).2.1 (T e.2.2.1).2.2.1)
    | _ => ik_tn e.2.2.2.1 (.fieldLinkNest own e.1 C (T e.2.2.1).2.1 (T e.2.2.1).2.2.1 "SlowerCork"))
  | _, _ => false
set_option maxRecDepth 100000 in
theorem ik_fall : ((List.range 18).all fun o => (ik_fT.getD o []).all (ik_fchk o)) = true := by decide +kernel
def ik_ichk (o : Nat) (e : Nat × Int32 × Nat) : Bool := match ik_oN[o]? with
  | some own => ik_tw e.2.2 (.constant own e.1 e.2.1)
  | none => false
set_option maxRecDepth 100000 in
theorem ik_iall : ((List.range 18).all fun o => (ik_iT.getD o []).all (ik_ichk o)) = true := by decide +kernel
def ik_kchk (o : Nat) (e : Nat × Int64 × Nat) : Bool := match ik_oN[o]? with
  | some own => ik_tw e.2.2 (.constantLong own e.1 e.2.1)
  | none => false
set_option maxRecDepth 100000 in
theorem ik_kall : ((List.range 18).all fun o => (ik_kT.getD o []).all (ik_kchk o)) = true := by decide +kernel
def ik_nchk (o : Nat) (e : Nat × Nat × Nat) : Bool := match vwCl[e.2.1]?, ik_oN[o]? with
  | some (C, _, _), some own => ik_tw e.2.2 (.classLink own e.1 C)
  | _, _ => false
set_option maxRecDepth 100000 in
theorem ik_nall : ((List.range 18).all fun o => (ik_nT.getD o []).all (ik_nchk o)) = true := by decide +kernel
def ik_achk (o : Nat) (e : Nat × Nat × Nat × Nat) : Bool := match vwCl[e.2.1]?, ik_oN[o]? with
  | some (C, _, _), some own => ik_tw e.2.2.1 (.classLink own e.1 C) && decide (lw_tbl[e.2.2.2]? = some (.arrayOver (.object C)))
  | _, _ => false
set_option maxRecDepth 100000 in
theorem ik_aall : ((List.range 18).all fun o => (ik_aT.getD o []).all (ik_achk o)) = true := by decide +kernel
/-- a call: kinds 0 invokevirtual, 1 a constructor, 2 a nest mate's, 3 static, 4 a nest mate's, 5 arraycopy, 6 Object's constructor -/
def ik_cchk (o : Nat) (e : Nat × Nat × Nat × Nat × Nat) : Bool := match ik_oN[o]? with
  | some own => (match e.2.2.2.1 with
    | 0 => ik_tw e.2.2.2.2 (.methodLink own e.1 (ik_y e.2.1)) && decide ((ik_y e.2.1).name ≠ "<init>") && !(ik_MP.getD e.2.1 (0, 0, 0, 0, true)).2.2.2.2 && decide ((parseMethodDescriptor (ik_y e.2.1).desc).map (fun d => d.parameters.length + 1) = some e.2.2.1)
    | 1 => ik_tw e.2.2.2.2 (.methodLink own e.1 (ik_y e.2.1)) && decide ((ik_y e.2.1).name = "<init>") && decide (ik_rt e.2.1 = none) && !(ik_MP.getD e.2.1 (0, 0, 0, 0, true)).2.2.2.2 && decide ((parseMethodDescriptor (ik_y e.2.1).desc).map (fun d => d.parameters.length + 1) = some e.2.2.1)
    | 2 => ik_tn e.2.2.2.2 (.methodLinkNest own e.1 (ik_y e.2.1) "SlowerCork") && decide ((ik_y e.2.1).name = "<init>") && decide (ik_rt e.2.1 = none) && !(ik_MP.getD e.2.1 (0, 0, 0, 0, true)).2.2.2.2 && decide ((parseMethodDescriptor (ik_y e.2.1).desc).map (fun d => d.parameters.length + 1) = some e.2.2.1)
    | 3 => ik_tw e.2.2.2.2 (.methodLink own e.1 (ik_y e.2.1)) && (ik_MP.getD e.2.1 (0, 0, 0, 0, false)).2.2.2.2 && decide ((parseMethodDescriptor (ik_y e.2.1).desc).map (fun d => d.parameters.length) = some e.2.2.1)
    | 4 => ik_tn e.2.2.2.2 (.methodLinkNest own e.1 (ik_y e.2.1) "SlowerCork") && (ik_MP.getD e.2.1 (0, 0, 0, 0, false)).2.2.2.2 && decide ((parseMethodDescriptor (ik_y e.2.1).desc).map (fun d => d.parameters.length) = some e.2.2.1)
    | 5 => ik_tw e.2.2.2.2 (.methodLink own e.1 arraycopyName)
    | 6 => ik_tw e.2.2.2.2 (.methodLink own e.1 objectInit)
    | 7 => (match e.2.1 with
      | 0 => ik_tw e.2.2.2.2 (.methodLink own e.1 Lib.Math.min.name)
      | 1 => ik_tw e.2.2.2.2 (.methodLink own e.1 Lib.Math.abs.name)
      | 2 => ik_tw e.2.2.2.2 (.methodLink own e.1 Lib.MathLoose.max_long.x)
      | _ => false)
    | _ => false) && (decide (5 ≤ e.2.2.2.1) || (decide (0 < e.2.1) && decide (e.2.1 < 227)))
  | none => false
set_option maxRecDepth 100000 in
theorem ik_call_all : ((List.range 18).all fun o => (ik_cT.getD o []).all (ik_cchk o)) = true := by decide +kernel
theorem ik_sys : ik_tw ik_sp.1 (.native arraycopyName) = true ∧ ik_tw ik_sp.2.1 (.static arraycopyName) = true ∧ ik_tw ik_sp.2.2.1 (.initialized "java/lang/System") = true ∧ ik_tw ik_sp.2.2.2.1 (.instanceMethod objectInit) = true ∧ ik_tw ik_sp.2.2.2.2.1 (.code objectInit ⟨#[0xb1]⟩ 1 none) = true := by decide +kernel
theorem ik_aps : (ik_ap.all fun e => ik_tw e.2 (.arrayClass e.1)) = true := by decide +kernel
set_option maxRecDepth 100000 in
theorem ik_oall : ((List.range 227).all fun m => decide (ik_oN[ik_ow m]? = some (ik_own m))) = true := by decide +kernel
def ik_stchk (o : Nat) (e : Nat × Nat × Nat) : Bool := match ik_oN[o]?, ik_slit[e.2.1]? with
  | some own, some q => decide (q.1 = own) && decide (q.2.1 = e.1)
  | _, _ => false
set_option maxRecDepth 100000 in
theorem ik_stall : ((List.range 18).all fun o => (ik_stT.getD o []).all (ik_stchk o)) = true := by decide +kernel
def ik_sfchk (o : Nat) (e : Nat × Nat × Nat) : Bool := match ik_oN[o]?, e.2.1 with
  | some own, 0 => ik_tw e.2.2 (.fieldLink own e.1 "java/lang/String" "value" "[B")
  | some own, 1 => ik_tw e.2.2 (.fieldLink own e.1 "java/lang/String" "coder" "B")
  | _, _ => false
set_option maxRecDepth 100000 in
theorem ik_sfall : ((List.range 18).all fun o => (ik_sfT.getD o []).all (ik_sfchk o)) = true := by decide +kernel
def ik_gschk (o : Nat) (e : Nat × Nat × Nat) : Bool := match ik_oN[o]?, e.2.1 with
  | some own, 0 => ik_tw e.2.2 (.fieldLink own e.1 "java/lang/String" "COMPACT_STRINGS" "Z")
  | some own, 1 => ik_tw e.2.2 (.fieldLink own e.1 "jdk/internal/util/Preconditions" "SIOOBE_FORMATTER" "Ljava/util/function/BiFunction;")
  | _, _ => false
set_option maxRecDepth 100000 in
theorem ik_gsall : ((List.range 18).all fun o => (ik_gsT.getD o []).all (ik_gschk o)) = true := by decide +kernel
theorem ik_sowN : ik_oN[ik_sow]? = some "java/lang/String" := by decide +kernel
theorem ik_mth : ik_tw 497 (.static Lib.Math.min.name) = true ∧ ik_tw 647 (.static Lib.Math.abs.name) = true ∧ ik_tw 678 (.static Lib.MathLoose.max_long.x) = true ∧ ik_tw 91 (.initialized "java/lang/Math") = true := by decide +kernel
set_option maxRecDepth 100000 in
theorem ik_mthc : lw_tbl[498]? = some (.code Lib.Math.min.name Lib.Math.min.code 2 (some .int)) ∧ lw_tbl[648]? = some (.code Lib.Math.abs.name Lib.Math.abs.code 1 (some .int)) ∧ lw_tbl[679]? = some (.code Lib.MathLoose.max_long.x Lib.MathLoose.max_long.code 4 (some .long)) := ⟨rfl, rfl, rfl⟩
def ik_lp : List (List Nat) := [[172, 174, 176, 178, 180, 182, 184, 186, 188], [210, 212, 214, 216, 218], [240, 242, 244, 246, 248, 250], [347, 349, 351, 353, 355, 357, 359], [327, 329], [287, 289, 291, 293, 295], [125, 127, 129, 131, 133, 135, 137, 139, 141, 143], [309, 311, 313, 315], [262, 264, 266, 268, 270, 272], [370, 372, 374, 376, 378, 380, 382, 384], [1031, 1033, 1035, 1037, 1039, 1041, 1043, 1045, 1047, 1049, 1051, 1053, 1055, 1057, 1059, 1061, 1063, 1065, 1067, 1069, 1071, 1073, 1075, 1077, 1079, 1081, 1083, 1085, 1087, 1089, 1091, 1093, 1095, 1097, 1099, 1101, 1103, 1105, 1107, 1109, 1111, 1113, 1115]]
def ik_wchk (ci : Nat) : Bool := match vwCl[ci]? with
  | some (C, T, N) => (List.range N).all (fun k => ik_tw ((ik_lp.getD ci []).getD k 0) (u_lay C T k)) && ik_tw (ik_cp.getD ci (0, 0)).1 (.instantiable C N) && ik_tw (ik_cp.getD ci (0, 0)).2 (.initialized C) && decide (N = ik_nf ci) && decide (C = ik_nm ci) && decide ((ik_fs ci).length = N) && (List.range N).all (fun k => decide (defaultValue (ik_ty ci k) = vp_V (ik_fs ci) k)) && decide (ik_oN[ci]? = some C)
  | none => false
set_option maxRecDepth 100000 in
theorem ik_wall : ((List.range 11).all ik_wchk) = true := by decide +kernel
theorem ik_names {ci : Nat} {C : String} {T : u_T} {N : Nat} (h : vwCl[ci]? = some (C, T, N)) : (∀ j, j < N → parseFieldDescriptor (T j).2.2.1 = some (ik_ty ci j)) ∧ (∀ a, a < N → ∀ b, b < N → a ≠ b → (T a).2.1 ≠ (T b).2.1) := by
  match ci, h with
  | 0, h => cases h; exact ⟨tyX0_ok, nmX0⟩
  | 1, h => cases h; exact ⟨tyX1_ok, nmX1⟩
  | 2, h => cases h; exact ⟨tyX2_ok, nmX2⟩
  | 3, h => cases h; exact ⟨tyX3_ok, nmX3⟩
  | 4, h => cases h; exact ⟨tyX4_ok, nmX4⟩
  | 5, h => cases h; exact ⟨tyX5_ok, nmX5⟩
  | 6, h => cases h; exact ⟨tyX6_ok, nmX6⟩
  | 7, h => cases h; exact ⟨tyX7_ok, nmX7⟩
  | 8, h => cases h; exact ⟨tyX8_ok, nmX8⟩
  | 9, h => cases h; exact ⟨tyX9_ok, nmX9⟩
  | 10, h => cases h; exact ⟨tyX10_ok, nmX10⟩
  | k + 11, h => simp [vwCl] at h
