set_option maxRecDepth 100000 in
theorem ik_mc1 : ik_ix 152 = some (.code yX0_init prog_2_method_1_code 1 none) := rfl
set_option maxRecDepth 100000 in
theorem ik_mc2 : ik_ix 534 = some (.code yX0_bridge prog_2_method_2_code 1 (some .int)) := rfl
set_option maxRecDepth 100000 in
theorem ik_mc3 : ik_ix 569 = some (.code yX0_isPlace prog_2_method_3_code 2 (some .boolean)) := rfl
set_option maxRecDepth 100000 in
theorem ik_mc4 : ik_ix 588 = some (.code yX0_isAheadOfBridge prog_2_method_4_code 2 (some .boolean)) := rfl
set_option maxRecDepth 100000 in
theorem ik_mc5 : ik_ix 573 = some (.code yX0_isMove prog_2_method_5_code 3 (some .boolean)) := rfl
set_option maxRecDepth 100000 in
theorem ik_mc6 : ik_ix 843 = some (.code yX0_arePair prog_2_method_6_code 4 (some .boolean)) := rfl
set_option maxRecDepth 100000 in
theorem ik_mc7 : ik_ix 592 = some (.code yX0_holdsSuit prog_2_method_7_code 1 (some .boolean)) := rfl
set_option maxRecDepth 100000 in
theorem ik_mc8 : ik_ix 510 = some (.code yX0_takeFrom prog_2_method_8_code 2 none) := rfl
set_option maxRecDepth 100000 in
theorem ik_mc9 : ik_ix 530 = some (.code yX0_findLost prog_2_method_9_code 4 (some .int)) := rfl
set_option maxRecDepth 100000 in
theorem ik_mc10 : ik_ix 538 = some (.code yX0_goals prog_2_method_10_code 4 (some .int)) := rfl
set_option maxRecDepth 100000 in
theorem ik_mc11 : ik_ix 517 = some (.code yX0_settleAll prog_2_method_11_code 2 none) := rfl
set_option maxRecDepth 100000 in
theorem ik_mc12 : ik_ix 521 = some (.code yX0_settle prog_2_method_12_code 5 none) := rfl
set_option maxRecDepth 100000 in
theorem ik_mc13 : ik_ix 525 = some (.code yX0_hasStone prog_2_method_13_code 2 (some .boolean)) := rfl
set_option maxRecDepth 100000 in
theorem ik_mc14 : ik_ix 783 = some (.code yX0_turnStone prog_2_method_14_code 2 none) := rfl
set_option maxRecDepth 100000 in
theorem ik_mc15 : ik_ix 848 = some (.code yX0_canShift prog_2_method_15_code 4 (some .boolean)) := rfl
set_option maxRecDepth 100000 in
theorem ik_mc16 : ik_ix 852 = some (.code yX0_shift prog_2_method_16_code 5 none) := rfl
set_option maxRecDepth 100000 in
theorem ik_mc17 : ik_ix 621 = some (.code yX0_flow prog_2_method_17_code 11 none) := rfl
set_option maxRecDepth 100000 in
theorem ik_mc18 : ik_ix 903 = some (.code yX0_goalBy prog_2_method_18_code 5 (some .int)) := rfl
set_option maxRecDepth 100000 in
theorem ik_mc19 : ik_ix 946 = some (.code yX0_leads prog_2_method_19_code 6 (some .boolean)) := rfl
set_option maxRecDepth 100000 in
theorem ik_mc20 : ik_ix 951 = some (.code yX0_goOnce prog_2_method_20_code 4 (some .int)) := rfl
set_option maxRecDepth 100000 in
theorem ik_mc21 : ik_ix 195 = some (.code yX1_init prog_3_method_1_code 2 none) := rfl
set_option maxRecDepth 100000 in
theorem ik_mc22 : ik_ix 542 = some (.code yX1_reset prog_3_method_2_code 1 none) := rfl
set_option maxRecDepth 100000 in
theorem ik_mc23 : ik_ix 549 = some (.code yX1_restart prog_3_method_3_code 2 none) := rfl
set_option maxRecDepth 100000 in
theorem ik_mc24 : ik_ix 883 = some (.code yX1_outcome prog_3_method_4_code 1 (some .int)) := rfl
set_option maxRecDepth 100000 in
theorem ik_mc25 : ik_ix 879 = some (.code yX1_goOn prog_3_method_5_code 3 none) := rfl
set_option maxRecDepth 100000 in
theorem ik_mc26 : ik_ix 888 = some (.code yX1_passMinute prog_3_method_6_code 5 none) := rfl
set_option maxRecDepth 100000 in
theorem ik_mc27 : ik_ix 894 = some (.code yX1_drawOfHundred prog_3_method_7_code 1 (some .int)) := rfl
set_option maxRecDepth 100000 in
theorem ik_mc28 : ik_ix 920 = some (.code yX1_countWins prog_3_method_8_code 7 (some .int)) := rfl
set_option maxRecDepth 100000 in
theorem ik_mc29 : ik_ix 232 = some (.code yX2_init prog_4_method_1_code 2 none) := rfl
set_option maxRecDepth 100000 in
theorem ik_mc30 : ik_ix 605 = some (.code yX2_setIn prog_4_method_2_code 3 (some (.object "SlowerCork$Course"))) := rfl
set_option maxRecDepth 100000 in
theorem ik_mc31 : ik_ix 614 = some (.code yX2_comeBy prog_4_method_3_code 6 (some .int)) := rfl
set_option maxRecDepth 100000 in
theorem ik_mc32 : ik_ix 630 = some (.code yX2_oddsAt prog_4_method_4_code 6 (some .int)) := rfl
set_option maxRecDepth 100000 in
theorem ik_mc33 : ik_ix 337 = some (.code yX3_init prog_5_method_1_code 1 none) := rfl
set_option maxRecDepth 100000 in
theorem ik_mc34 : ik_ix 967 = some (.code yX3_take prog_5_method_2_code 3 none) := rfl
set_option maxRecDepth 100000 in
theorem ik_mc35 : ik_ix 976 = some (.code yX3_giveBack prog_5_method_3_code 3 none) := rfl
set_option maxRecDepth 100000 in
theorem ik_mc36 : ik_ix 322 = some (.code yX4_init prog_6_method_1_code 1 none) := rfl
set_option maxRecDepth 100000 in
theorem ik_mc37 : ik_ix 553 = some (.code yX4_empty prog_6_method_2_code 1 none) := rfl
set_option maxRecDepth 100000 in
theorem ik_mc38 : ik_ix 929 = some (.code yX4_add prog_6_method_3_code 3 (some .int)) := rfl
set_option maxRecDepth 100000 in
theorem ik_mc39 : ik_ix 941 = some (.code yX4_firstWrong prog_6_method_4_code 9 (some .int)) := rfl
set_option maxRecDepth 100000 in
theorem ik_mc40 : ik_ix 279 = some (.code yX5_init prog_7_method_1_code 1 none) := rfl
set_option maxRecDepth 100000 in
theorem ik_mc41 : ik_ix 768 = some (.code yX5_value prog_7_method_2_code 1 (some .int)) := rfl
set_option maxRecDepth 100000 in
theorem ik_mc42 : ik_ix 773 = some (.code yX5_shareOf prog_7_method_3_code 3 (some .int)) := rfl
set_option maxRecDepth 100000 in
theorem ik_mc43 : ik_ix 715 = some (.code yX5_findPair prog_7_method_4_code 6 (some .boolean)) := rfl
set_option maxRecDepth 100000 in
theorem ik_mc44 : ik_ix 725 = some (.code yX5_fits prog_7_method_5_code 5 (some .boolean)) := rfl
set_option maxRecDepth 100000 in
theorem ik_mc45 : ik_ix 737 = some (.code yX5_fearOf prog_7_method_6_code 4 (some .int)) := rfl
set_option maxRecDepth 100000 in
theorem ik_mc46 : ik_ix 729 = some (.code yX5_solve prog_7_method_7_code 9 (some .boolean)) := rfl
set_option maxRecDepth 100000 in
theorem ik_mc47 : ik_ix 733 = some (.code yX5_fillBoard prog_7_method_8_code 9 none) := rfl
set_option maxRecDepth 100000 in
theorem ik_mc48 : ik_ix 756 = some (.code yX5_makePositive prog_7_method_9_code 3 (some .boolean)) := rfl
set_option maxRecDepth 100000 in
theorem ik_mc49 : ik_ix 748 = some (.code yX5_minor prog_7_method_10_code 6 (some .long)) := rfl
set_option maxRecDepth 100000 in
theorem ik_mc50 : ik_ix 752 = some (.code yX5_cross prog_7_method_11_code 6 (some .long)) := rfl
set_option maxRecDepth 100000 in
theorem ik_mc51 : ik_ix 760 = some (.code yX5_noneIsBetter prog_7_method_12_code 5 (some .boolean)) := rfl
set_option maxRecDepth 100000 in
theorem ik_mc52 : ik_ix 764 = some (.code yX5_worthBy prog_7_method_13_code 6 (some .long)) := rfl
set_option maxRecDepth 100000 in
theorem ik_mc53 : ik_ix 107 = some (.code yX6_init prog_8_method_1_code 1 none) := rfl
set_option maxRecDepth 100000 in
theorem ik_mc54 : ik_ix 395 = some (.code yX6_hasRoom prog_8_method_2_code 2 (some .boolean)) := rfl
set_option maxRecDepth 100000 in
theorem ik_mc55 : ik_ix 400 = some (.code yX6_append prog_8_method_3_code 5 (some .int)) := rfl
set_option maxRecDepth 100000 in
theorem ik_mc56 : ik_ix 408 = some (.code yX6_readText prog_8_method_4_code 1 (some .int)) := rfl
set_option maxRecDepth 100000 in
theorem ik_mc57 : ik_ix 412 = some (.code yX6_readPlaces prog_8_method_5_code 3 (some .boolean)) := rfl
set_option maxRecDepth 100000 in
theorem ik_mc58 : ik_ix 486 = some (.code yX6_readMoves prog_8_method_6_code 5 (some .boolean)) := rfl
set_option maxRecDepth 100000 in
theorem ik_mc59 : ik_ix 491 = some (.code yX6_readGoal prog_8_method_7_code 6 (some .boolean)) := rfl
set_option maxRecDepth 100000 in
theorem ik_mc60 : ik_ix 502 = some (.code yX6_readChance prog_8_method_8_code 5 (some .boolean)) := rfl
set_option maxRecDepth 100000 in
theorem ik_mc61 : ik_ix 473 = some (.code yX6_readEnd prog_8_method_9_code 1 (some .boolean)) := rfl
set_option maxRecDepth 100000 in
theorem ik_mc62 : ik_ix 506 = some (.code yX6_checkGoals prog_8_method_10_code 3 none) := rfl
set_option maxRecDepth 100000 in
theorem ik_mc63 : ik_ix 495 = some (.code yX6_readNumber prog_8_method_11_code 5 (some .int)) := rfl
set_option maxRecDepth 100000 in
theorem ik_mc64 : ik_ix 421 = some (.code yX6_readWord prog_8_method_12_code 4 (some .boolean)) := rfl
set_option maxRecDepth 100000 in
theorem ik_mc65 : ik_ix 477 = some (.code yX6_standsHere prog_8_method_13_code 2 (some .boolean)) := rfl
set_option maxRecDepth 100000 in
theorem ik_mc66 : ik_ix 416 = some (.code yX6_skipBlanks prog_8_method_14_code 1 none) := rfl
set_option maxRecDepth 100000 in
theorem ik_mc67 : ik_ix 481 = some (.code yX6_refuse prog_8_method_15_code 3 (some .boolean)) := rfl
set_option maxRecDepth 100000 in
theorem ik_mc68 : ik_ix 302 = some (.code yX7_init prog_9_method_1_code 2 none) := rfl
set_option maxRecDepth 100000 in
theorem ik_mc69 : ik_ix 801 = some (.code yX7_add prog_9_method_2_code 3 (some .int)) := rfl
set_option maxRecDepth 100000 in
theorem ik_mc70 : ik_ix 813 = some (.code yX7_fitAsItIs prog_9_method_3_code 7 (some .int)) := rfl
set_option maxRecDepth 100000 in
theorem ik_mc71 : ik_ix 823 = some (.code yX7_fitWithOther prog_9_method_4_code 4 (some .int)) := rfl
set_option maxRecDepth 100000 in
theorem ik_mc72 : ik_ix 833 = some (.code yX7_findStone prog_9_method_5_code 6 (some .int)) := rfl
set_option maxRecDepth 100000 in
theorem ik_mc73 : ik_ix 225 = some (.code yX8_init prog_10_method_1_code 4 none) := rfl
set_option maxRecDepth 100000 in
theorem ik_mc74 : ik_ix 687 = some (.code yX8_lateOf prog_10_method_2_code 2 (some .int)) := rfl
set_option maxRecDepth 100000 in
theorem ik_mc75 : ik_ix 683 = some (.code yX8_bothAtOnce prog_10_method_3_code 1 (some .int)) := rfl
set_option maxRecDepth 100000 in
theorem ik_mc76 : ik_ix 864 = some (.code yX8_gap prog_10_method_4_code 1 (some .int)) := rfl
set_option maxRecDepth 100000 in
theorem ik_mc77 : ik_ix 666 = some (.code yX8_courseOf prog_10_method_5_code 2 (some (.object "SlowerCork$Course"))) := rfl
set_option maxRecDepth 100000 in
theorem ik_mc78 : ik_ix 662 = some (.code yX8_setInAsSet prog_10_method_6_code 2 none) := rfl
set_option maxRecDepth 100000 in
theorem ik_mc79 : ik_ix 658 = some (.code yX8_raceAsSet prog_10_method_7_code 2 none) := rfl
set_option maxRecDepth 100000 in
theorem ik_mc80 : ik_ix 670 = some (.code yX8_race prog_10_method_8_code 19 none) := rfl
set_option maxRecDepth 100000 in
theorem ik_mc81 : ik_ix 675 = some (.code yX8_leastGap prog_10_method_9_code 3 (some .long)) := rfl
set_option maxRecDepth 100000 in
theorem ik_mc82 : ik_ix 643 = some (.code yX8_firstApart prog_10_method_10_code 7 (some .int)) := rfl
set_option maxRecDepth 100000 in
theorem ik_mc83 : ik_ix 695 = some (.code yX8_findBest prog_10_method_11_code 8 none) := rfl
set_option maxRecDepth 100000 in
theorem ik_mc84 : ik_ix 711 = some (.code yX8_tellFears prog_10_method_12_code 6 none) := rfl
set_option maxRecDepth 100000 in
theorem ik_mc85 : ik_ix 791 = some (.code yX8_findMost prog_10_method_13_code 5 none) := rfl
set_option maxRecDepth 100000 in
theorem ik_mc86 : ik_ix 860 = some (.code yX8_findFair prog_10_method_14_code 7 none) := rfl
set_option maxRecDepth 100000 in
theorem ik_mc87 : ik_ix 870 = some (.code yX8_isFairDug prog_10_method_15_code 6 (some .boolean)) := rfl
set_option maxRecDepth 100000 in
theorem ik_mc88 : ik_ix 702 = some (.code yX8_tell prog_10_method_16_code 5 none) := rfl
set_option maxRecDepth 100000 in
theorem ik_mc89 : ik_ix 99 = some (.code yX9_init prog_1_method_1_code 1 none) := rfl
set_option maxRecDepth 100000 in
theorem ik_mc90 : ik_ix 390 = some (.code yX9_feed prog_1_method_2_code 4 (some .int)) := rfl
set_option maxRecDepth 100000 in
theorem ik_mc91 : ik_ix 404 = some (.code yX9_stream prog_1_method_3_code 3 (some .int)) := rfl
set_option maxRecDepth 100000 in
theorem ik_mc92 : ik_ix 557 = some (.code yX9_fault prog_1_method_4_code 1 (some .int)) := rfl
set_option maxRecDepth 100000 in
theorem ik_mc93 : ik_ix 561 = some (.code yX9_told prog_1_method_5_code 2 (some .int)) := rfl
set_option maxRecDepth 100000 in
theorem ik_mc94 : ik_ix 565 = some (.code yX9_move prog_1_method_6_code 4 (some .int)) := rfl
set_option maxRecDepth 100000 in
theorem ik_mc95 : ik_ix 578 = some (.code yX9_cork prog_1_method_7_code 5 (some .int)) := rfl
set_option maxRecDepth 100000 in
theorem ik_mc96 : ik_ix 598 = some (.code yX9_comes prog_1_method_8_code 4 (some .int)) := rfl
set_option maxRecDepth 100000 in
theorem ik_mc97 : ik_ix 626 = some (.code yX9_at prog_1_method_9_code 5 (some .int)) := rfl
set_option maxRecDepth 100000 in
theorem ik_mc98 : ik_ix 635 = some (.code yX9_kept prog_1_method_10_code 4 (some .int)) := rfl
set_option maxRecDepth 100000 in
theorem ik_mc99 : ik_ix 639 = some (.code yX9_known prog_1_method_11_code 4 (some .int)) := rfl
set_option maxRecDepth 100000 in
theorem ik_mc100 : ik_ix 653 = some (.code yX9_later prog_1_method_12_code 2 (some .int)) := rfl
set_option maxRecDepth 100000 in
theorem ik_mc101 : ik_ix 691 = some (.code yX9_best prog_1_method_13_code 4 (some .int)) := rfl
set_option maxRecDepth 100000 in
theorem ik_mc102 : ik_ix 706 = some (.code yX9_mixed prog_1_method_14_code 4 (some .int)) := rfl
set_option maxRecDepth 100000 in
theorem ik_mc103 : ik_ix 778 = some (.code yX9_stone prog_1_method_15_code 4 (some .int)) := rfl
set_option maxRecDepth 100000 in
theorem ik_mc104 : ik_ix 787 = some (.code yX9_most prog_1_method_16_code 3 (some .int)) := rfl
set_option maxRecDepth 100000 in
theorem ik_mc105 : ik_ix 797 = some (.code yX9_run prog_1_method_17_code 3 (some .int)) := rfl
set_option maxRecDepth 100000 in
theorem ik_mc106 : ik_ix 805 = some (.code yX9_forget prog_1_method_18_code 2 (some .int)) := rfl
set_option maxRecDepth 100000 in
theorem ik_mc107 : ik_ix 809 = some (.code yX9_fit prog_1_method_19_code 2 (some .int)) := rfl
set_option maxRecDepth 100000 in
theorem ik_mc108 : ik_ix 829 = some (.code yX9_stoned prog_1_method_20_code 1 (some .int)) := rfl
set_option maxRecDepth 100000 in
theorem ik_mc109 : ik_ix 839 = some (.code yX9_dig prog_1_method_21_code 5 (some .int)) := rfl
set_option maxRecDepth 100000 in
theorem ik_mc110 : ik_ix 856 = some (.code yX9_fair prog_1_method_22_code 3 (some .int)) := rfl
set_option maxRecDepth 100000 in
theorem ik_mc111 : ik_ix 875 = some (.code yX9_drift prog_1_method_23_code 2 (some .int)) := rfl
set_option maxRecDepth 100000 in
theorem ik_mc112 : ik_ix 908 = some (.code yX9_where prog_1_method_24_code 2 (some .int)) := rfl
set_option maxRecDepth 100000 in
theorem ik_mc113 : ik_ix 912 = some (.code yX9_begin prog_1_method_25_code 2 (some .int)) := rfl
set_option maxRecDepth 100000 in
theorem ik_mc114 : ik_ix 916 = some (.code yX9_morning prog_1_method_26_code 2 (some .int)) := rfl
set_option maxRecDepth 100000 in
theorem ik_mc115 : ik_ix 925 = some (.code yX9_log prog_1_method_27_code 3 (some .int)) := rfl
set_option maxRecDepth 100000 in
theorem ik_mc116 : ik_ix 933 = some (.code yX9_clear prog_1_method_28_code 2 (some .int)) := rfl
set_option maxRecDepth 100000 in
theorem ik_mc117 : ik_ix 937 = some (.code yX9_judge prog_1_method_29_code 2 (some .int)) := rfl
set_option maxRecDepth 100000 in
theorem ik_mc118 : ik_ix 955 = some (.code yX9_seed prog_1_method_30_code 3 (some .int)) := rfl
set_option maxRecDepth 100000 in
theorem ik_mc119 : ik_ix 959 = some (.code yX9_keep prog_1_method_31_code 2 (some .int)) := rfl
set_option maxRecDepth 100000 in
theorem ik_mc120 : ik_ix 972 = some (.code yX9_goBack prog_1_method_32_code 2 (some .int)) := rfl
set_option maxRecDepth 100000 in
theorem ik_mc121 : ik_ix 581 = some (.code yX9_isSide prog_1_method_33_code 1 (some .boolean)) := rfl
set_option maxRecDepth 100000 in
theorem ik_mc122 : ik_ix 584 = some (.code yX9_isKind prog_1_method_34_code 1 (some .boolean)) := rfl
set_option maxRecDepth 100000 in
theorem ik_mc123 : ik_ix 601 = some (.code yX9_isMinute prog_1_method_35_code 1 (some .boolean)) := rfl
set_option maxRecDepth 100000 in
theorem ik_mc124 : ik_ix 963 = some (.code yX9_isImage prog_1_method_36_code 2 (some .boolean)) := rfl
set_option maxRecDepth 100000 in
theorem ik_mc125 : ik_ix 617 = some (.code yX9_goesIn prog_1_method_37_code 2 (some .int)) := rfl
set_option maxRecDepth 100000 in
theorem ik_mc126 : ik_ix 982 = some (.code yX10_init prog_12_method_1_code 1 none) := rfl
set_option maxRecDepth 100000 in
theorem ik_mc127 : ik_ix 1126 = some (.code yX10_in prog_12_method_3_code 6 (some .boolean)) := rfl
set_option maxRecDepth 100000 in
theorem ik_mc128 : ik_ix 1203 = some (.code yX10_has prog_12_method_4_code 2 (some .boolean)) := rfl
set_option maxRecDepth 100000 in
theorem ik_mc129 : ik_ix 1211 = some (.code yX10_isPlace prog_12_method_5_code 2 (some .boolean)) := rfl
set_option maxRecDepth 100000 in
theorem ik_mc130 : ik_ix 1200 = some (.code yX10_bridge prog_12_method_6_code 1 (some .int)) := rfl
set_option maxRecDepth 100000 in
theorem ik_mc131 : ik_ix 1227 = some (.code yX10_isAhead prog_12_method_7_code 2 (some .boolean)) := rfl
set_option maxRecDepth 100000 in
theorem ik_mc132 : ik_ix 1219 = some (.code yX10_isSide prog_12_method_8_code 1 (some .boolean)) := rfl
set_option maxRecDepth 100000 in
theorem ik_mc133 : ik_ix 1222 = some (.code yX10_isKind prog_12_method_9_code 1 (some .boolean)) := rfl
set_option maxRecDepth 100000 in
theorem ik_mc134 : ik_ix 1232 = some (.code yX10_isStream prog_12_method_10_code 1 (some .boolean)) := rfl
set_option maxRecDepth 100000 in
theorem ik_mc135 : ik_ix 1122 = some (.code yX10_feed prog_12_method_11_code 5 (some .int)) := rfl
set_option maxRecDepth 100000 in
theorem ik_mc136 : ik_ix 1141 = some (.code yX10_here prog_12_method_12_code 1 (some .int)) := rfl
set_option maxRecDepth 100000 in
theorem ik_mc137 : ik_ix 1165 = some (.code yX10_fails prog_12_method_13_code 3 (some .int)) := rfl
set_option maxRecDepth 100000 in
theorem ik_mc138 : ik_ix 1157 = some (.code yX10_readWord prog_12_method_14_code 2 none) := rfl
set_option maxRecDepth 100000 in
theorem ik_mc139 : ik_ix 1144 = some (.code yX10_code prog_12_method_15_code 4 (some .long)) := rfl
set_option maxRecDepth 100000 in
theorem ik_mc140 : ik_ix 1149 = some (.code yX10_longer prog_12_method_16_code 3 (some .long)) := rfl
set_option maxRecDepth 100000 in
theorem ik_mc141 : ik_ix 1178 = some (.code yX10_takeNumber prog_12_method_17_code 4 (some .int)) := rfl
set_option maxRecDepth 100000 in
theorem ik_mc142 : ik_ix 1153 = some (.code yX10_pass prog_12_method_18_code 4 (some .boolean)) := rfl
set_option maxRecDepth 100000 in
theorem ik_mc143 : ik_ix 1174 = some (.code yX10_takeMove prog_12_method_19_code 6 (some .int)) := rfl
set_option maxRecDepth 100000 in
theorem ik_mc144 : ik_ix 1169 = some (.code yX10_takePlace prog_12_method_20_code 5 (some .int)) := rfl
set_option maxRecDepth 100000 in
theorem ik_mc145 : ik_ix 1137 = some (.code yX10_takeAll prog_12_method_21_code 3 (some .int)) := rfl
set_option maxRecDepth 100000 in
theorem ik_mc146 : ik_ix 1184 = some (.code yX10_isThere prog_12_method_22_code 3 (some .int)) := rfl
set_option maxRecDepth 100000 in
theorem ik_mc147 : ik_ix 1133 = some (.code yX10_stream prog_12_method_23_code 3 (some .int)) := rfl
set_option maxRecDepth 100000 in
theorem ik_mc148 : ik_ix 1188 = some (.code yX10_fault prog_12_method_24_code 1 (some .int)) := rfl
set_option maxRecDepth 100000 in
theorem ik_mc149 : ik_ix 1196 = some (.code yX10_lost prog_12_method_25_code 5 (some .int)) := rfl
set_option maxRecDepth 100000 in
theorem ik_mc150 : ik_ix 1192 = some (.code yX10_told prog_12_method_26_code 2 (some .int)) := rfl
set_option maxRecDepth 100000 in
theorem ik_mc151 : ik_ix 1207 = some (.code yX10_move prog_12_method_27_code 4 (some .int)) := rfl
set_option maxRecDepth 100000 in
theorem ik_mc152 : ik_ix 1262 = some (.code yX10_listMoves prog_12_method_28_code 4 none) := rfl
set_option maxRecDepth 100000 in
theorem ik_mc153 : ik_ix 1258 = some (.code yX10_flow prog_12_method_29_code 7 none) := rfl
set_option maxRecDepth 100000 in
theorem ik_mc154 : ik_ix 1249 = some (.code yX10_setIn prog_12_method_30_code 3 none) := rfl
set_option maxRecDepth 100000 in
theorem ik_mc155 : ik_ix 1254 = some (.code yX10_goOn prog_12_method_31_code 3 none) := rfl
set_option maxRecDepth 100000 in
theorem ik_mc156 : ik_ix 1245 = some (.code yX10_oddsAt prog_12_method_32_code 5 none) := rfl
set_option maxRecDepth 100000 in
theorem ik_mc157 : ik_ix 1280 = some (.code yX10_comesRow prog_12_method_33_code 5 none) := rfl
set_option maxRecDepth 100000 in
theorem ik_mc158 : ik_ix 1216 = some (.code yX10_cork prog_12_method_34_code 5 (some .int)) := rfl
set_option maxRecDepth 100000 in
theorem ik_mc159 : ik_ix 1240 = some (.code yX10_isMinute prog_12_method_35_code 1 (some .boolean)) := rfl
set_option maxRecDepth 100000 in
theorem ik_mc160 : ik_ix 1237 = some (.code yX10_comes prog_12_method_36_code 4 (some .int)) := rfl
set_option maxRecDepth 100000 in
theorem ik_mc161 : ik_ix 1267 = some (.code yX10_at prog_12_method_37_code 5 (some .int)) := rfl
set_option maxRecDepth 100000 in
theorem ik_mc162 : ik_ix 1271 = some (.code yX10_kept prog_12_method_38_code 8 (some .int)) := rfl
set_option maxRecDepth 100000 in
theorem ik_mc163 : ik_ix 1283 = some (.code yX10_size prog_12_method_39_code 2 (some .long)) := rfl
set_option maxRecDepth 100000 in
theorem ik_mc164 : ik_ix 1275 = some (.code yX10_known prog_12_method_40_code 5 (some .int)) := rfl
set_option maxRecDepth 100000 in
theorem ik_mc165 : ik_ix 1296 = some (.code yX10_suitRows prog_12_method_41_code 1 none) := rfl
set_option maxRecDepth 100000 in
theorem ik_mc166 : ik_ix 1306 = some (.code yX10_byThen prog_12_method_42_code 3 (some .long)) := rfl
set_option maxRecDepth 100000 in
theorem ik_mc167 : ik_ix 1303 = some (.code yX10_justThen prog_12_method_43_code 3 (some .long)) := rfl
set_option maxRecDepth 100000 in
theorem ik_mc168 : ik_ix 1300 = some (.code yX10_laterBy prog_12_method_44_code 11 (some .int)) := rfl
set_option maxRecDepth 100000 in
theorem ik_mc169 : ik_ix 1292 = some (.code yX10_laterOf prog_12_method_45_code 2 (some .int)) := rfl
set_option maxRecDepth 100000 in
theorem ik_mc170 : ik_ix 1288 = some (.code yX10_later prog_12_method_46_code 2 (some .int)) := rfl
set_option maxRecDepth 100000 in
theorem ik_mc171 : ik_ix 1310 = some (.code yX10_best prog_12_method_47_code 12 (some .int)) := rfl
set_option maxRecDepth 100000 in
theorem ik_mc172 : ik_ix 1328 = some (.code yX10_bits prog_12_method_48_code 3 (some .int)) := rfl
set_option maxRecDepth 100000 in
theorem ik_mc173 : ik_ix 1335 = some (.code yX10_list prog_12_method_49_code 4 none) := rfl
set_option maxRecDepth 100000 in
theorem ik_mc174 : ik_ix 1339 = some (.code yX10_fear prog_12_method_50_code 3 (some .long)) := rfl
set_option maxRecDepth 100000 in
theorem ik_mc175 : ik_ix 1343 = some (.code yX10_without prog_12_method_51_code 10 (some .long)) := rfl
set_option maxRecDepth 100000 in
theorem ik_mc176 : ik_ix 1332 = some (.code yX10_fits prog_12_method_52_code 9 (some .boolean)) := rfl
set_option maxRecDepth 100000 in
theorem ik_mc177 : ik_ix 1348 = some (.code yX10_isAtRest prog_12_method_53_code 9 (some .boolean)) := rfl
set_option maxRecDepth 100000 in
theorem ik_mc178 : ik_ix 1321 = some (.code yX10_findFears prog_12_method_54_code 9 none) := rfl
set_option maxRecDepth 100000 in
theorem ik_mc179 : ik_ix 1325 = some (.code yX10_findMixed prog_12_method_55_code 5 (some .boolean)) := rfl
set_option maxRecDepth 100000 in
theorem ik_mc180 : ik_ix 1315 = some (.code yX10_mixed prog_12_method_56_code 4 (some .int)) := rfl
set_option maxRecDepth 100000 in
theorem ik_mc181 : ik_ix 1352 = some (.code yX10_stone prog_12_method_57_code 4 (some .int)) := rfl
set_option maxRecDepth 100000 in
theorem ik_mc182 : ik_ix 1356 = some (.code yX10_most prog_12_method_58_code 9 (some .int)) := rfl
set_option maxRecDepth 100000 in
theorem ik_mc183 : ik_ix 1360 = some (.code yX10_run prog_12_method_59_code 3 (some .int)) := rfl
set_option maxRecDepth 100000 in
theorem ik_mc184 : ik_ix 1364 = some (.code yX10_forget prog_12_method_60_code 2 (some .int)) := rfl
set_option maxRecDepth 100000 in
theorem ik_mc185 : ik_ix 1376 = some (.code yX10_fitNow prog_12_method_61_code 6 (some .int)) := rfl
set_option maxRecDepth 100000 in
theorem ik_mc186 : ik_ix 1372 = some (.code yX10_fitOf prog_12_method_62_code 4 (some .int)) := rfl
set_option maxRecDepth 100000 in
theorem ik_mc187 : ik_ix 1368 = some (.code yX10_fit prog_12_method_63_code 2 (some .int)) := rfl
set_option maxRecDepth 100000 in
theorem ik_mc188 : ik_ix 1380 = some (.code yX10_stoned prog_12_method_64_code 5 (some .int)) := rfl
set_option maxRecDepth 100000 in
theorem ik_mc189 : ik_ix 1384 = some (.code yX10_dig prog_12_method_65_code 5 (some .int)) := rfl
set_option maxRecDepth 100000 in
theorem ik_mc190 : ik_ix 1397 = some (.code yX10_isFair prog_12_method_66_code 2 (some .boolean)) := rfl
set_option maxRecDepth 100000 in
theorem ik_mc191 : ik_ix 1393 = some (.code yX10_findFair prog_12_method_67_code 8 (some .int)) := rfl
set_option maxRecDepth 100000 in
theorem ik_mc192 : ik_ix 1389 = some (.code yX10_fair prog_12_method_68_code 4 (some .int)) := rfl
set_option maxRecDepth 100000 in
theorem ik_mc193 : ik_ix 1421 = some (.code yX10_draw prog_12_method_69_code 2 (some .int)) := rfl
set_option maxRecDepth 100000 in
theorem ik_mc194 : ik_ix 987 = some (.code yX10_beginAnew prog_12_method_70_code 2 none) := rfl
set_option maxRecDepth 100000 in
theorem ik_mc195 : ik_ix 1417 = some (.code yX10_gone prog_12_method_71_code 4 (some .int)) := rfl
set_option maxRecDepth 100000 in
theorem ik_mc196 : ik_ix 1413 = some (.code yX10_goSide prog_12_method_72_code 5 none) := rfl
set_option maxRecDepth 100000 in
theorem ik_mc197 : ik_ix 1409 = some (.code yX10_ended prog_12_method_73_code 1 (some .int)) := rfl
set_option maxRecDepth 100000 in
theorem ik_mc198 : ik_ix 1405 = some (.code yX10_driftOn prog_12_method_74_code 3 (some .int)) := rfl
set_option maxRecDepth 100000 in
theorem ik_mc199 : ik_ix 1401 = some (.code yX10_drift prog_12_method_75_code 2 (some .int)) := rfl
set_option maxRecDepth 100000 in
theorem ik_mc200 : ik_ix 1429 = some (.code yX10_where prog_12_method_76_code 2 (some .int)) := rfl
set_option maxRecDepth 100000 in
theorem ik_mc201 : ik_ix 1433 = some (.code yX10_begin prog_12_method_77_code 2 (some .int)) := rfl
set_option maxRecDepth 100000 in
theorem ik_mc202 : ik_ix 1437 = some (.code yX10_morning prog_12_method_78_code 7 (some .int)) := rfl
set_option maxRecDepth 100000 in
theorem ik_mc203 : ik_ix 1442 = some (.code yX10_log prog_12_method_79_code 3 (some .int)) := rfl
set_option maxRecDepth 100000 in
theorem ik_mc204 : ik_ix 1446 = some (.code yX10_clear prog_12_method_80_code 2 (some .int)) := rfl
set_option maxRecDepth 100000 in
theorem ik_mc205 : ik_ix 1458 = some (.code yX10_onFrom prog_12_method_81_code 5 (some .int)) := rfl
set_option maxRecDepth 100000 in
theorem ik_mc206 : ik_ix 1454 = some (.code yX10_mayBe prog_12_method_82_code 7 (some .boolean)) := rfl
set_option maxRecDepth 100000 in
theorem ik_mc207 : ik_ix 1450 = some (.code yX10_judge prog_12_method_83_code 3 (some .int)) := rfl
set_option maxRecDepth 100000 in
theorem ik_mc208 : ik_ix 1462 = some (.code yX10_seed prog_12_method_84_code 3 (some .int)) := rfl
set_option maxRecDepth 100000 in
theorem ik_mc209 : ik_ix 1466 = some (.code yX10_keep prog_12_method_85_code 4 (some .int)) := rfl
set_option maxRecDepth 100000 in
theorem ik_mc210 : ik_ix 1470 = some (.code yX10_goBack prog_12_method_86_code 4 (some .int)) := rfl
set_option maxRecDepth 100000 in
theorem ik_mc211 : ik_ix 718 = some (.code yJ6_bitCount_0f7a4 prog_13_method_49_code 1 (some .int)) := rfl
set_option maxRecDepth 100000 in
theorem ik_mc212 : ik_ix 425 = some (.code yJ0_length_8abf5 prog_15_method_54_code 1 (some .int)) := rfl
set_option maxRecDepth 100000 in
theorem ik_mc213 : ik_ix 435 = some (.code yJ0_charAt_5068e prog_15_method_56_code 2 (some .char)) := rfl
set_option maxRecDepth 100000 in
theorem ik_mc214 : ik_ix 429 = some (.code yJ0_coder_7d493 prog_15_method_152_code 1 (some .byte)) := rfl
set_option maxRecDepth 100000 in
theorem ik_mc215 : ik_ix 439 = some (.code yJ0_isLatin1_aae02 prog_15_method_154_code 1 (some .boolean)) := rfl
set_option maxRecDepth 100000 in
theorem ik_mc216 : ik_ix 445 = some (.code yJ0_checkIndex_df160 prog_15_method_155_code 2 none) := rfl
set_option maxRecDepth 100000 in
theorem ik_mc217 : ik_ix 442 = some (.code yJ1_charAt_3b067 prog_16_method_2_code 2 (some .char)) := rfl
set_option maxRecDepth 100000 in
theorem ik_mc218 : ik_ix 463 = some (.code yJ2_getChar_3b067 prog_17_method_5_code 2 (some .char)) := rfl
set_option maxRecDepth 100000 in
theorem ik_mc219 : ik_ix 459 = some (.code yJ2_length_9d52b prog_17_method_6_code 1 (some .int)) := rfl
set_option maxRecDepth 100000 in
theorem ik_mc220 : ik_ix 453 = some (.code yJ2_charAt_3b067 prog_17_method_83_code 2 (some .char)) := rfl
set_option maxRecDepth 100000 in
theorem ik_mc221 : ik_ix 456 = some (.code yJ2_checkIndex_2214a prog_17_method_91_code 2 none) := rfl
set_option maxRecDepth 100000 in
theorem ik_mc222 : ik_ix 744 = some (.code yJ7_rangeCheck_23922 prog_19_method_30_code 3 none) := rfl
set_option maxRecDepth 100000 in
theorem ik_mc223 : ik_ix 608 = some (.code yJ7_fill_d0a16 prog_19_method_101_code 5 none) := rfl
set_option maxRecDepth 100000 in
theorem ik_mc224 : ik_ix 741 = some (.code yJ7_fill_bad5a prog_19_method_102_code 6 none) := rfl
set_option maxRecDepth 100000 in
theorem ik_mc225 : ik_ix 545 = some (.code yJ7_fill_53178 prog_19_method_103_code 4 none) := rfl
set_option maxRecDepth 100000 in
theorem ik_mc226 : ik_ix 450 = some (.code yJ3_checkIndex_8e157 prog_20_method_11_code 3 (some .int)) := rfl
