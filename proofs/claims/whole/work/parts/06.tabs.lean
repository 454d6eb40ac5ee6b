theorem oX0 : zw_okc 0 RX0 TX0 4 tyX0 := ⟨rfl, zw_in_p (ws := u_ws RX0 TX0 4) [181, 183, 185, 187] (by decide +kernel) (by decide +kernel), tyX0_ok, nmX0⟩
theorem rc_13 : zw_rc 13 RX0 := ⟨0, _, TX0, 4, rfl, rfl⟩
theorem oX1 : zw_okc 1 RX1 TX1 7 tyX1 := ⟨rfl, zw_in_p (ws := u_ws RX1 TX1 7) [130, 132, 134, 136, 138, 140, 142] (by decide +kernel) (by decide +kernel), tyX1_ok, nmX1⟩
theorem rc_4 : zw_rc 4 RX1 := ⟨1, _, TX1, 7, rfl, rfl⟩
theorem oX2 : zw_okc 2 RX2 TX2 6 tyX2 := ⟨rfl, zw_in_p (ws := u_ws RX2 TX2 6) [295, 297, 299, 301, 303, 305] (by decide +kernel) (by decide +kernel), tyX2_ok, nmX2⟩
theorem rc_27 : zw_rc 27 RX2 := ⟨2, _, TX2, 6, rfl, rfl⟩
theorem oX3 : zw_okc 3 RX3 TX3 2 tyX3 := ⟨rfl, zw_in_p (ws := u_ws RX3 TX3 2) [95, 97] (by decide +kernel) (by decide +kernel), tyX3_ok, nmX3⟩
theorem rc_1 : zw_rc 1 RX3 := ⟨3, _, TX3, 2, rfl, rfl⟩
theorem oX4 : zw_okc 4 RX4 TX4 3 tyX4 := ⟨rfl, zw_in_p (ws := u_ws RX4 TX4 3) [110, 112, 114] (by decide +kernel) (by decide +kernel), tyX4_ok, nmX4⟩
theorem rc_3 : zw_rc 3 RX4 := ⟨4, _, TX4, 3, rfl, rfl⟩
theorem oX5 : zw_okc 5 RX5 TX5 7 tyX5 := ⟨rfl, zw_in_p (ws := u_ws RX5 TX5 7) [203, 205, 207, 209, 211, 213, 215] (by decide +kernel) (by decide +kernel), tyX5_ok, nmX5⟩
theorem rc_16 : zw_rc 16 RX5 := ⟨5, _, TX5, 7, rfl, rfl⟩
theorem oX6 : zw_okc 6 RX6 TX6 4 tyX6 := ⟨rfl, zw_in_p (ws := u_ws RX6 TX6 4) [318, 320, 322, 324] (by decide +kernel) (by decide +kernel), tyX6_ok, nmX6⟩
theorem rc_31 : zw_rc 31 RX6 := ⟨6, _, TX6, 4, rfl, rfl⟩
theorem oX7 : zw_okc 7 RX7 TX7 6 tyX7 := ⟨rfl, zw_in_p (ws := u_ws RX7 TX7 6) [270, 272, 274, 276, 278, 280] (by decide +kernel) (by decide +kernel), tyX7_ok, nmX7⟩
theorem rc_24 : zw_rc 24 RX7 := ⟨7, _, TX7, 6, rfl, rfl⟩
theorem oX8 : zw_okc 8 RX8 TX8 6 tyX8 := ⟨rfl, zw_in_p (ws := u_ws RX8 TX8 6) [158, 160, 162, 164, 166, 168] (by decide +kernel) (by decide +kernel), tyX8_ok, nmX8⟩
theorem rc_8 : zw_rc 8 RX8 := ⟨8, _, TX8, 6, rfl, rfl⟩
theorem oX9 : zw_okc 9 RX9 TX9 11 tyX9 := ⟨rfl, zw_in_p (ws := u_ws RX9 TX9 11) [235, 237, 239, 241, 243, 245, 247, 249, 251, 253, 255] (by decide +kernel) (by decide +kernel), tyX9_ok, nmX9⟩
theorem rc_19 : zw_rc 19 RX9 := ⟨9, _, TX9, 11, rfl, rfl⟩
theorem oX10 : zw_okc 10 RX10 TX10 13 tyX10 := ⟨rfl, zw_in_p (ws := u_ws RX10 TX10 13) [340, 342, 344, 346, 348, 350, 352, 354, 356, 358, 360, 362, 364] (by decide +kernel) (by decide +kernel), tyX10_ok, nmX10⟩
theorem rc_0 : zw_rc 0 RX10 := ⟨10, _, TX10, 13, rfl, rfl⟩
theorem oX11 : zw_okc 11 RX11 TX11 40 tyX11 := ⟨rfl, zw_in_p (ws := u_ws RX11 TX11 40) [997, 999, 1001, 1003, 1005, 1007, 1009, 1011, 1013, 1015, 1017, 1019, 1021, 1023, 1025, 1027, 1029, 1031, 1033, 1035, 1037, 1039, 1041, 1043, 1045, 1047, 1049, 1051, 1053, 1055, 1057, 1059, 1061, 1063, 1065, 1067, 1069, 1071, 1073, 1075] (by decide +kernel) (by decide +kernel), tyX11_ok, nmX11⟩
theorem rc_33 : zw_rc 33 RX11 := ⟨11, _, TX11, 40, rfl, rfl⟩
abbrev iX0_init : zw_I := (yX0_init, cX0_init, 3, none)
abbrev iX0_leanEast : zw_I := (yX0_leanEast, cX0_leanEast, 4, some .int)
theorem vX0_leanEast : zw_yV iX0_leanEast 1 := ⟨zw_in_p [567, 568, 69, 569] (by decide +kernel) (by decide +kernel), ⟨by decide +kernel, by decide +kernel, by decide +kernel⟩, by decide⟩
abbrev iX0_leanSouth : zw_I := (yX0_leanSouth, cX0_leanSouth, 4, some .int)
theorem vX0_leanSouth : zw_yV iX0_leanSouth 1 := ⟨zw_in_p [578, 579, 69, 580] (by decide +kernel) (by decide +kernel), ⟨by decide +kernel, by decide +kernel, by decide +kernel⟩, by decide⟩
abbrev iX0_wetIn : zw_I := (yX0_wetIn, cX0_wetIn, 2, some .int)
theorem vX0_wetIn : zw_yV iX0_wetIn 1 := ⟨zw_in_p [596, 597, 69, 598] (by decide +kernel) (by decide +kernel), ⟨by decide +kernel, by decide +kernel, by decide +kernel⟩, by decide⟩
abbrev iX0_weigh : zw_I := (yX0_weigh, cX0_weigh, 2, none)
theorem vX0_weigh : zw_yV iX0_weigh 0 := ⟨zw_in_p [696, 697, 69, 698] (by decide +kernel) (by decide +kernel), ⟨by decide +kernel, by decide +kernel, by decide +kernel⟩, by decide⟩
abbrev iX0_wetDoorsWith : zw_I := (yX0_wetDoorsWith, cX0_wetDoorsWith, 4, some .int)
theorem vX0_wetDoorsWith : zw_yV iX0_wetDoorsWith 3 := ⟨zw_in_p [714, 715, 69, 716] (by decide +kernel) (by decide +kernel), ⟨by decide +kernel, by decide +kernel, by decide +kernel⟩, by decide⟩
abbrev iX0_greatestDip : zw_I := (yX0_greatestDip, cX0_greatestDip, 4, some .int)
theorem vX0_greatestDip : zw_yV iX0_greatestDip 1 := ⟨zw_in_p [743, 744, 69, 745] (by decide +kernel) (by decide +kernel), ⟨by decide +kernel, by decide +kernel, by decide +kernel⟩, by decide⟩
abbrev iX0_driestSquareFor : zw_I := (yX0_driestSquareFor, cX0_driestSquareFor, 6, some .int)
theorem vX0_driestSquareFor : zw_yV iX0_driestSquareFor 1 := ⟨zw_in_p [788, 789, 69, 790] (by decide +kernel) (by decide +kernel), ⟨by decide +kernel, by decide +kernel, by decide +kernel⟩, by decide⟩
abbrev iX0_wetDoorsAllDayWith : zw_I := (yX0_wetDoorsAllDayWith, cX0_wetDoorsAllDayWith, 5, some .int)
theorem vX0_wetDoorsAllDayWith : zw_yV iX0_wetDoorsAllDayWith 2 := ⟨zw_in_p [795, 14, 69, 796] (by decide +kernel) (by decide +kernel), ⟨by decide +kernel, by decide +kernel, by decide +kernel⟩, by decide⟩
abbrev iX1_init : zw_I := (yX1_init, cX1_init, 1, none)
abbrev iX1_read : zw_I := (yX1_read, cX1_read, 8, none)
theorem vX1_read : zw_yV iX1_read 3 := ⟨zw_in_p [442, 443, 67, 444] (by decide +kernel) (by decide +kernel), ⟨by decide +kernel, by decide +kernel, by decide +kernel⟩, by decide⟩
abbrev iX1_addSquare : zw_I := (yX1_addSquare, cX1_addSquare, 4, none)
theorem vX1_addSquare : zw_yV iX1_addSquare 3 := ⟨zw_in_p [449, 2, 67, 450] (by decide +kernel) (by decide +kernel), ⟨by decide +kernel, by decide +kernel, by decide +kernel⟩, by decide⟩
abbrev iX1_fromCentre : zw_I := (yX1_fromCentre, cX1_fromCentre, 2, some .int)
theorem sX1_fromCentre : zw_yS iX1_fromCentre 2 := ⟨zw_in_p [452, 67, 453] (by decide +kernel) (by decide +kernel), ⟨by decide +kernel, by decide +kernel, by decide +kernel⟩, by decide⟩
abbrev iX1_isThere : zw_I := (yX1_isThere, cX1_isThere, 1, some .boolean)
theorem vX1_isThere : zw_yV iX1_isThere 0 := ⟨zw_in_p [610, 611, 67, 612] (by decide +kernel) (by decide +kernel), ⟨by decide +kernel, by decide +kernel, by decide +kernel⟩, by decide⟩
abbrev iX1_squares : zw_I := (yX1_squares, cX1_squares, 1, some .int)
theorem vX1_squares : zw_yV iX1_squares 0 := ⟨zw_in_p [459, 460, 67, 461] (by decide +kernel) (by decide +kernel), ⟨by decide +kernel, by decide +kernel, by decide +kernel⟩, by decide⟩
abbrev iX1_doors : zw_I := (yX1_doors, cX1_doors, 1, some .int)
theorem vX1_doors : zw_yV iX1_doors 0 := ⟨zw_in_p [929, 930, 67, 931] (by decide +kernel) (by decide +kernel), ⟨by decide +kernel, by decide +kernel, by decide +kernel⟩, by decide⟩
abbrev iX1_has : zw_I := (yX1_has, cX1_has, 2, some .boolean)
theorem vX1_has : zw_yV iX1_has 1 := ⟨zw_in_p [467, 468, 67, 469] (by decide +kernel) (by decide +kernel), ⟨by decide +kernel, by decide +kernel, by decide +kernel⟩, by decide⟩
abbrev iX1_hasAll : zw_I := (yX1_hasAll, cX1_hasAll, 2, some .boolean)
theorem vX1_hasAll : zw_yV iX1_hasAll 1 := ⟨zw_in_p [803, 804, 67, 805] (by decide +kernel) (by decide +kernel), ⟨by decide +kernel, by decide +kernel, by decide +kernel⟩, by decide⟩
abbrev iX1_height : zw_I := (yX1_height, cX1_height, 2, some .int)
theorem vX1_height : zw_yV iX1_height 1 := ⟨zw_in_p [472, 473, 67, 474] (by decide +kernel) (by decide +kernel), ⟨by decide +kernel, by decide +kernel, by decide +kernel⟩, by decide⟩
abbrev iX1_east : zw_I := (yX1_east, cX1_east, 2, some .int)
theorem vX1_east : zw_yV iX1_east 1 := ⟨zw_in_p [477, 478, 67, 479] (by decide +kernel) (by decide +kernel), ⟨by decide +kernel, by decide +kernel, by decide +kernel⟩, by decide⟩
abbrev iX1_south : zw_I := (yX1_south, cX1_south, 2, some .int)
theorem vX1_south : zw_yV iX1_south 1 := ⟨zw_in_p [481, 482, 67, 483] (by decide +kernel) (by decide +kernel), ⟨by decide +kernel, by decide +kernel, by decide +kernel⟩, by decide⟩
abbrev iX1_dipOf : zw_I := (yX1_dipOf, cX1_dipOf, 4, some .int)
theorem vX1_dipOf : zw_yV iX1_dipOf 3 := ⟨zw_in_p [588, 589, 67, 590] (by decide +kernel) (by decide +kernel), ⟨by decide +kernel, by decide +kernel, by decide +kernel⟩, by decide⟩
abbrev iX1_wetDoors : zw_I := (yX1_wetDoors, cX1_wetDoors, 7, some .int)
theorem vX1_wetDoors : zw_yV iX1_wetDoors 2 := ⟨zw_in_p [602, 603, 67, 604] (by decide +kernel) (by decide +kernel), ⟨by decide +kernel, by decide +kernel, by decide +kernel⟩, by decide⟩
abbrev iX1_wetDoorsTold : zw_I := (yX1_wetDoorsTold, cX1_wetDoorsTold, 3, some .int)
theorem vX1_wetDoorsTold : zw_yV iX1_wetDoorsTold 2 := ⟨zw_in_p [649, 650, 67, 651] (by decide +kernel) (by decide +kernel), ⟨by decide +kernel, by decide +kernel, by decide +kernel⟩, by decide⟩
abbrev iX1_step : zw_I := (yX1_step, cX1_step, 3, some .int)
theorem vX1_step : zw_yV iX1_step 2 := ⟨zw_in_p [688, 689, 67, 690] (by decide +kernel) (by decide +kernel), ⟨by decide +kernel, by decide +kernel, by decide +kernel⟩, by decide⟩
abbrev iX1_towardsMiddle : zw_I := (yX1_towardsMiddle, cX1_towardsMiddle, 4, some .int)
theorem vX1_towardsMiddle : zw_yV iX1_towardsMiddle 1 := ⟨zw_in_p [857, 858, 67, 859] (by decide +kernel) (by decide +kernel), ⟨by decide +kernel, by decide +kernel, by decide +kernel⟩, by decide⟩
abbrev iX2_init : zw_I := (yX2_init, cX2_init, 4, none)
abbrev iX2_found : zw_I := (yX2_found, cX2_found, 2, some .int)
theorem vX2_found : zw_yV iX2_found 1 := ⟨zw_in_p [827, 828, 73, 829] (by decide +kernel) (by decide +kernel), ⟨by decide +kernel, by decide +kernel, by decide +kernel⟩, by decide⟩
abbrev iX2_search : zw_I := (yX2_search, cX2_search, 10, none)
theorem vX2_search : zw_yV iX2_search 2 := ⟨zw_in_p [807, 808, 73, 809] (by decide +kernel) (by decide +kernel), ⟨by decide +kernel, by decide +kernel, by decide +kernel⟩, by decide⟩
abbrev iX2_measureChanges : zw_I := (yX2_measureChanges, cX2_measureChanges, 6, none)
theorem vX2_measureChanges : zw_yV iX2_measureChanges 1 := ⟨zw_in_p [812, 15, 73, 813] (by decide +kernel) (by decide +kernel), ⟨by decide +kernel, by decide +kernel, by decide +kernel⟩, by decide⟩
abbrev iX2_wetDoorsIfLate : zw_I := (yX2_wetDoorsIfLate, cX2_wetDoorsIfLate, 7, some .int)
theorem vX2_wetDoorsIfLate : zw_yV iX2_wetDoorsIfLate 3 := ⟨zw_in_p [823, 16, 73, 824] (by decide +kernel) (by decide +kernel), ⟨by decide +kernel, by decide +kernel, by decide +kernel⟩, by decide⟩
abbrev iX3_init : zw_I := (yX3_init, cX3_init, 1, none)
abbrev iX3_length : zw_I := (yX3_length, cX3_length, 1, some .int)
theorem vX3_length : zw_yV iX3_length 0 := ⟨zw_in_p [387, 388, 65, 389] (by decide +kernel) (by decide +kernel), ⟨by decide +kernel, by decide +kernel, by decide +kernel⟩, by decide⟩
abbrev iX3_letter : zw_I := (yX3_letter, cX3_letter, 2, some .int)
theorem vX3_letter : zw_yV iX3_letter 1 := ⟨zw_in_p [404, 405, 65, 406] (by decide +kernel) (by decide +kernel), ⟨by decide +kernel, by decide +kernel, by decide +kernel⟩, by decide⟩
abbrev iX3_clear : zw_I := (yX3_clear, cX3_clear, 1, none)
theorem vX3_clear : zw_yV iX3_clear 0 := ⟨zw_in_p [391, 392, 65, 393] (by decide +kernel) (by decide +kernel), ⟨by decide +kernel, by decide +kernel, by decide +kernel⟩, by decide⟩
abbrev iX3_add : zw_I := (yX3_add, cX3_add, 5, some .int)
theorem vX3_add : zw_yV iX3_add 1 := ⟨zw_in_p [372, 373, 65, 374] (by decide +kernel) (by decide +kernel), ⟨by decide +kernel, by decide +kernel, by decide +kernel⟩, by decide⟩
abbrev iX3_lettersTold : zw_I := (yX3_lettersTold, cX3_lettersTold, 6, some .int)
theorem sX3_lettersTold : zw_yS iX3_lettersTold 1 := ⟨zw_in_p [376, 65, 377] (by decide +kernel) (by decide +kernel), ⟨by decide +kernel, by decide +kernel, by decide +kernel⟩, by decide⟩
abbrev iX3_codeAt : zw_I := (yX3_codeAt, cX3_codeAt, 3, some .int)
theorem sX3_codeAt : zw_yS iX3_codeAt 2 := ⟨zw_in_p [379, 65, 380] (by decide +kernel) (by decide +kernel), ⟨by decide +kernel, by decide +kernel, by decide +kernel⟩, by decide⟩
abbrev iX3_isWay : zw_I := (yX3_isWay, cX3_isWay, 1, some .boolean)
theorem vX3_isWay : zw_yV iX3_isWay 0 := ⟨zw_in_p [678, 679, 65, 680] (by decide +kernel) (by decide +kernel), ⟨by decide +kernel, by decide +kernel, by decide +kernel⟩, by decide⟩
abbrev iX3_wayFault : zw_I := (yX3_wayFault, cX3_wayFault, 2, some .int)
theorem vX3_wayFault : zw_yV iX3_wayFault 0 := ⟨zw_in_p [416, 417, 65, 418] (by decide +kernel) (by decide +kernel), ⟨by decide +kernel, by decide +kernel, by decide +kernel⟩, by decide⟩
abbrev iX3_wayAt : zw_I := (yX3_wayAt, cX3_wayAt, 2, some .int)
theorem vX3_wayAt : zw_yV iX3_wayAt 1 := ⟨zw_in_p [420, 421, 65, 422] (by decide +kernel) (by decide +kernel), ⟨by decide +kernel, by decide +kernel, by decide +kernel⟩, by decide⟩
abbrev iX4_init : zw_I := (yX4_init, cX4_init, 1, none)
abbrev iX4_rows : zw_I := (yX4_rows, cX4_rows, 1, some .int)
theorem vX4_rows : zw_yV iX4_rows 0 := ⟨zw_in_p [434, 435, 66, 436] (by decide +kernel) (by decide +kernel), ⟨by decide +kernel, by decide +kernel, by decide +kernel⟩, by decide⟩
abbrev iX4_columns : zw_I := (yX4_columns, cX4_columns, 1, some .int)
theorem vX4_columns : zw_yV iX4_columns 0 := ⟨zw_in_p [438, 439, 66, 440] (by decide +kernel) (by decide +kernel), ⟨by decide +kernel, by decide +kernel, by decide +kernel⟩, by decide⟩
abbrev iX4_isWhole : zw_I := (yX4_isWhole, cX4_isWhole, 2, some .boolean)
theorem vX4_isWhole : zw_yV iX4_isWhole 1 := ⟨zw_in_p [429, 430, 66, 431] (by decide +kernel) (by decide +kernel), ⟨by decide +kernel, by decide +kernel, by decide +kernel⟩, by decide⟩
abbrev iX4_faultIn : zw_I := (yX4_faultIn, cX4_faultIn, 3, some .int)
theorem vX4_faultIn : zw_yV iX4_faultIn 1 := ⟨zw_in_p [399, 400, 66, 401] (by decide +kernel) (by decide +kernel), ⟨by decide +kernel, by decide +kernel, by decide +kernel⟩, by decide⟩
abbrev iX4_takes : zw_I := (yX4_takes, cX4_takes, 4, some .boolean)
theorem vX4_takes : zw_yV iX4_takes 1 := ⟨zw_in_p [409, 0, 66, 410] (by decide +kernel) (by decide +kernel), ⟨by decide +kernel, by decide +kernel, by decide +kernel⟩, by decide⟩
abbrev iX4_endsRow : zw_I := (yX4_endsRow, cX4_endsRow, 2, some .boolean)
theorem vX4_endsRow : zw_yV iX4_endsRow 0 := ⟨zw_in_p [413, 1, 66, 414] (by decide +kernel) (by decide +kernel), ⟨by decide +kernel, by decide +kernel, by decide +kernel⟩, by decide⟩
abbrev iX5_init : zw_I := (yX5_init, cX5_init, 4, none)
abbrev iX5_start : zw_I := (yX5_start, cX5_start, 1, some .int)
theorem vX5_start : zw_yV iX5_start 0 := ⟨zw_in_p [720, 721, 70, 722] (by decide +kernel) (by decide +kernel), ⟨by decide +kernel, by decide +kernel, by decide +kernel⟩, by decide⟩
abbrev iX5_wetDoors : zw_I := (yX5_wetDoors, cX5_wetDoors, 1, some .int)
theorem vX5_wetDoors : zw_yV iX5_wetDoors 0 := ⟨zw_in_p [724, 725, 70, 726] (by decide +kernel) (by decide +kernel), ⟨by decide +kernel, by decide +kernel, by decide +kernel⟩, by decide⟩
abbrev iX5_firstGoesFrom : zw_I := (yX5_firstGoesFrom, cX5_firstGoesFrom, 4, some .boolean)
theorem vX5_firstGoesFrom : zw_yV iX5_firstGoesFrom 1 := ⟨zw_in_p [683, 684, 70, 685] (by decide +kernel) (by decide +kernel), ⟨by decide +kernel, by decide +kernel, by decide +kernel⟩, by decide⟩
abbrev iX5_secondGoesFrom : zw_I := (yX5_secondGoesFrom, cX5_secondGoesFrom, 4, some .boolean)
theorem vX5_secondGoesFrom : zw_yV iX5_secondGoesFrom 1 := ⟨zw_in_p [702, 6, 70, 703] (by decide +kernel) (by decide +kernel), ⟨by decide +kernel, by decide +kernel, by decide +kernel⟩, by decide⟩
abbrev iX5_turnedRound : zw_I := (yX5_turnedRound, cX5_turnedRound, 1, some .int)
theorem sX5_turnedRound : zw_yS iX5_turnedRound 1 := ⟨zw_in_p [705, 70, 706] (by decide +kernel) (by decide +kernel), ⟨by decide +kernel, by decide +kernel, by decide +kernel⟩, by decide⟩
abbrev iX5_search : zw_I := (yX5_search, cX5_search, 4, none)
theorem vX5_search : zw_yV iX5_search 1 := ⟨zw_in_p [692, 693, 70, 694] (by decide +kernel) (by decide +kernel), ⟨by decide +kernel, by decide +kernel, by decide +kernel⟩, by decide⟩
abbrev iX5_wetDoorsWithBoth : zw_I := (yX5_wetDoorsWithBoth, cX5_wetDoorsWithBoth, 8, some .int)
theorem vX5_wetDoorsWithBoth : zw_yV iX5_wetDoorsWithBoth 1 := ⟨zw_in_p [709, 7, 70, 710] (by decide +kernel) (by decide +kernel), ⟨by decide +kernel, by decide +kernel, by decide +kernel⟩, by decide⟩
abbrev iX6_init : zw_I := (yX6_init, cX6_init, 3, none)
abbrev iX6_placeOf : zw_I := (yX6_placeOf, cX6_placeOf, 2, some .int)
theorem vX6_placeOf : zw_yV iX6_placeOf 1 := ⟨zw_in_p [898, 899, 74, 900] (by decide +kernel) (by decide +kernel), ⟨by decide +kernel, by decide +kernel, by decide +kernel⟩, by decide⟩
abbrev iX6_seed : zw_I := (yX6_seed, cX6_seed, 1, some .int)
theorem vX6_seed : zw_yV iX6_seed 0 := ⟨zw_in_p [894, 895, 74, 896] (by decide +kernel) (by decide +kernel), ⟨by decide +kernel, by decide +kernel, by decide +kernel⟩, by decide⟩
abbrev iX6_standAsIn : zw_I := (yX6_standAsIn, cX6_standAsIn, 3, none)
theorem vX6_standAsIn : zw_yV iX6_standAsIn 1 := ⟨zw_in_p [840, 17, 74, 841] (by decide +kernel) (by decide +kernel), ⟨by decide +kernel, by decide +kernel, by decide +kernel⟩, by decide⟩
abbrev iX6_isSomeDoorWet : zw_I := (yX6_isSomeDoorWet, cX6_isSomeDoorWet, 4, some .boolean)
theorem vX6_isSomeDoorWet : zw_yV iX6_isSomeDoorWet 0 := ⟨zw_in_p [845, 18, 74, 846] (by decide +kernel) (by decide +kernel), ⟨by decide +kernel, by decide +kernel, by decide +kernel⟩, by decide⟩
abbrev iX6_dryMinuteOfStorm : zw_I := (yX6_dryMinuteOfStorm, cX6_dryMinuteOfStorm, 3, some .int)
theorem vX6_dryMinuteOfStorm : zw_yV iX6_dryMinuteOfStorm 1 := ⟨zw_in_p [835, 836, 74, 837] (by decide +kernel) (by decide +kernel), ⟨by decide +kernel, by decide +kernel, by decide +kernel⟩, by decide⟩
abbrev iX6_peopleGoToMiddle : zw_I := (yX6_peopleGoToMiddle, cX6_peopleGoToMiddle, 2, none)
theorem vX6_peopleGoToMiddle : zw_yV iX6_peopleGoToMiddle 0 := ⟨zw_in_p [853, 19, 74, 854] (by decide +kernel) (by decide +kernel), ⟨by decide +kernel, by decide +kernel, by decide +kernel⟩, by decide⟩
abbrev iX6_stray : zw_I := (yX6_stray, cX6_stray, 6, some .int)
theorem vX6_stray : zw_yV iX6_stray 3 := ⟨zw_in_p [876, 877, 74, 878] (by decide +kernel) (by decide +kernel), ⟨by decide +kernel, by decide +kernel, by decide +kernel⟩, by decide⟩
abbrev iX6_cowsGoAstray : zw_I := (yX6_cowsGoAstray, cX6_cowsGoAstray, 3, none)
theorem vX6_cowsGoAstray : zw_yV iX6_cowsGoAstray 0 := ⟨zw_in_p [881, 20, 74, 882] (by decide +kernel) (by decide +kernel), ⟨by decide +kernel, by decide +kernel, by decide +kernel⟩, by decide⟩
abbrev iX6_drawOfACow : zw_I := (yX6_drawOfACow, cX6_drawOfACow, 1, some .int)
theorem vX6_drawOfACow : zw_yV iX6_drawOfACow 0 := ⟨zw_in_p [885, 21, 74, 886] (by decide +kernel) (by decide +kernel), ⟨by decide +kernel, by decide +kernel, by decide +kernel⟩, by decide⟩
abbrev iX7_init : zw_I := (yX7_init, cX7_init, 4, none)
abbrev iX7_found : zw_I := (yX7_found, cX7_found, 2, some .int)
theorem vX7_found : zw_yV iX7_found 1 := ⟨zw_in_p [780, 781, 72, 782] (by decide +kernel) (by decide +kernel), ⟨by decide +kernel, by decide +kernel, by decide +kernel⟩, by decide⟩
abbrev iX7_search : zw_I := (yX7_search, cX7_search, 2, none)
theorem vX7_search : zw_yV iX7_search 0 := ⟨zw_in_p [732, 733, 72, 734] (by decide +kernel) (by decide +kernel), ⟨by decide +kernel, by decide +kernel, by decide +kernel⟩, by decide⟩
abbrev iX7_movesKeepDry : zw_I := (yX7_movesKeepDry, cX7_movesKeepDry, 7, some .boolean)
theorem vX7_movesKeepDry : zw_yV iX7_movesKeepDry 5 := ⟨zw_in_p [752, 9, 72, 753] (by decide +kernel) (by decide +kernel), ⟨by decide +kernel, by decide +kernel, by decide +kernel⟩, by decide⟩
abbrev iX7_moveOfKeepsDry : zw_I := (yX7_moveOfKeepsDry, cX7_moveOfKeepsDry, 11, some .boolean)
theorem vX7_moveOfKeepsDry : zw_yV iX7_moveOfKeepsDry 5 := ⟨zw_in_p [769, 12, 72, 770] (by decide +kernel) (by decide +kernel), ⟨by decide +kernel, by decide +kernel, by decide +kernel⟩, by decide⟩
abbrev iX7_keepMove : zw_I := (yX7_keepMove, cX7_keepMove, 5, none)
theorem vX7_keepMove : zw_yV iX7_keepMove 3 := ⟨zw_in_p [777, 13, 72, 778] (by decide +kernel) (by decide +kernel), ⟨by decide +kernel, by decide +kernel, by decide +kernel⟩, by decide⟩
abbrev iX7_wetYear : zw_I := (yX7_wetYear, cX7_wetYear, 4, some .int)
theorem vX7_wetYear : zw_yV iX7_wetYear 0 := ⟨zw_in_p [868, 869, 72, 870] (by decide +kernel) (by decide +kernel), ⟨by decide +kernel, by decide +kernel, by decide +kernel⟩, by decide⟩
abbrev iX7_measureRooms : zw_I := (yX7_measureRooms, cX7_measureRooms, 3, none)
theorem vX7_measureRooms : zw_yV iX7_measureRooms 0 := ⟨zw_in_p [738, 8, 72, 739] (by decide +kernel) (by decide +kernel), ⟨by decide +kernel, by decide +kernel, by decide +kernel⟩, by decide⟩
abbrev iX7_isDryWith : zw_I := (yX7_isDryWith, cX7_isDryWith, 4, some .boolean)
theorem vX7_isDryWith : zw_yV iX7_isDryWith 2 := ⟨zw_in_p [756, 10, 72, 757] (by decide +kernel) (by decide +kernel), ⟨by decide +kernel, by decide +kernel, by decide +kernel⟩, by decide⟩
abbrev iX7_isWetWith : zw_I := (yX7_isWetWith, cX7_isWetWith, 4, some .boolean)
theorem vX7_isWetWith : zw_yV iX7_isWetWith 3 := ⟨zw_in_p [760, 11, 72, 761] (by decide +kernel) (by decide +kernel), ⟨by decide +kernel, by decide +kernel, by decide +kernel⟩, by decide⟩
abbrev iX8_init : zw_I := (yX8_init, cX8_init, 1, none)
abbrev iX8_clear : zw_I := (yX8_clear, cX8_clear, 1, none)
theorem vX8_clear : zw_yV iX8_clear 0 := ⟨zw_in_p [455, 456, 68, 457] (by decide +kernel) (by decide +kernel), ⟨by decide +kernel, by decide +kernel, by decide +kernel⟩, by decide⟩
abbrev iX8_size : zw_I := (yX8_size, cX8_size, 1, some .int)
theorem vX8_size : zw_yV iX8_size 0 := ⟨zw_in_p [571, 572, 68, 573] (by decide +kernel) (by decide +kernel), ⟨by decide +kernel, by decide +kernel, by decide +kernel⟩, by decide⟩
abbrev iX8_has : zw_I := (yX8_has, cX8_has, 2, some .boolean)
theorem vX8_has : zw_yV iX8_has 1 := ⟨zw_in_p [508, 509, 68, 510] (by decide +kernel) (by decide +kernel), ⟨by decide +kernel, by decide +kernel, by decide +kernel⟩, by decide⟩
abbrev iX8_add : zw_I := (yX8_add, cX8_add, 5, some .int)
theorem vX8_add : zw_yV iX8_add 3 := ⟨zw_in_p [496, 497, 68, 498] (by decide +kernel) (by decide +kernel), ⟨by decide +kernel, by decide +kernel, by decide +kernel⟩, by decide⟩
abbrev iX8_kind : zw_I := (yX8_kind, cX8_kind, 2, some .int)
theorem vX8_kind : zw_yV iX8_kind 1 := ⟨zw_in_p [527, 528, 68, 529] (by decide +kernel) (by decide +kernel), ⟨by decide +kernel, by decide +kernel, by decide +kernel⟩, by decide⟩
abbrev iX8_weight : zw_I := (yX8_weight, cX8_weight, 2, some .int)
theorem vX8_weight : zw_yV iX8_weight 1 := ⟨zw_in_p [531, 532, 68, 533] (by decide +kernel) (by decide +kernel), ⟨by decide +kernel, by decide +kernel, by decide +kernel⟩, by decide⟩
abbrev iX8_weighs : zw_I := (yX8_weighs, cX8_weighs, 2, some .int)
theorem vX8_weighs : zw_yV iX8_weighs 1 := ⟨zw_in_p [535, 536, 68, 537] (by decide +kernel) (by decide +kernel), ⟨by decide +kernel, by decide +kernel, by decide +kernel⟩, by decide⟩
abbrev iX8_isA : zw_I := (yX8_isA, cX8_isA, 4, some .boolean)
theorem vX8_isA : zw_yV iX8_isA 2 := ⟨zw_in_p [543, 544, 68, 545] (by decide +kernel) (by decide +kernel), ⟨by decide +kernel, by decide +kernel, by decide +kernel⟩, by decide⟩
abbrev iX8_people : zw_I := (yX8_people, cX8_people, 1, some .int)
theorem vX8_people : zw_yV iX8_people 0 := ⟨zw_in_p [614, 615, 68, 616] (by decide +kernel) (by decide +kernel), ⟨by decide +kernel, by decide +kernel, by decide +kernel⟩, by decide⟩
abbrev iX8_peopleBits : zw_I := (yX8_peopleBits, cX8_peopleBits, 3, some .int)
theorem vX8_peopleBits : zw_yV iX8_peopleBits 0 := ⟨zw_in_p [618, 619, 68, 620] (by decide +kernel) (by decide +kernel), ⟨by decide +kernel, by decide +kernel, by decide +kernel⟩, by decide⟩
abbrev iX8_place : zw_I := (yX8_place, cX8_place, 3, some .int)
theorem vX8_place : zw_yV iX8_place 2 := ⟨zw_in_p [523, 524, 68, 525] (by decide +kernel) (by decide +kernel), ⟨by decide +kernel, by decide +kernel, by decide +kernel⟩, by decide⟩
abbrev iX8_move : zw_I := (yX8_move, cX8_move, 4, none)
theorem vX8_move : zw_yV iX8_move 3 := ⟨zw_in_p [504, 505, 68, 506] (by decide +kernel) (by decide +kernel), ⟨by decide +kernel, by decide +kernel, by decide +kernel⟩, by decide⟩
abbrev iX8_moveAllDay : zw_I := (yX8_moveAllDay, cX8_moveAllDay, 4, none)
theorem vX8_moveAllDay : zw_yV iX8_moveAllDay 2 := ⟨zw_in_p [500, 501, 68, 502] (by decide +kernel) (by decide +kernel), ⟨by decide +kernel, by decide +kernel, by decide +kernel⟩, by decide⟩
abbrev iX8_keep : zw_I := (yX8_keep, cX8_keep, 1, none)
theorem vX8_keep : zw_yV iX8_keep 0 := ⟨zw_in_p [907, 908, 68, 909] (by decide +kernel) (by decide +kernel), ⟨by decide +kernel, by decide +kernel, by decide +kernel⟩, by decide⟩
abbrev iX8_isKept : zw_I := (yX8_isKept, cX8_isKept, 1, some .boolean)
theorem vX8_isKept : zw_yV iX8_isKept 0 := ⟨zw_in_p [917, 918, 68, 919] (by decide +kernel) (by decide +kernel), ⟨by decide +kernel, by decide +kernel, by decide +kernel⟩, by decide⟩
abbrev iX8_goBack : zw_I := (yX8_goBack, cX8_goBack, 1, none)
theorem vX8_goBack : zw_yV iX8_goBack 0 := ⟨zw_in_p [921, 922, 68, 923] (by decide +kernel) (by decide +kernel), ⟨by decide +kernel, by decide +kernel, by decide +kernel⟩, by decide⟩
abbrev iX9_init : zw_I := (yX9_init, cX9_init, 4, none)
abbrev iX9_wetDoors : zw_I := (yX9_wetDoors, cX9_wetDoors, 1, some .int)
theorem vX9_wetDoors : zw_yV iX9_wetDoors 0 := ⟨zw_in_p [662, 663, 71, 664] (by decide +kernel) (by decide +kernel), ⟨by decide +kernel, by decide +kernel, by decide +kernel⟩, by decide⟩
abbrev iX9_elsewhere : zw_I := (yX9_elsewhere, cX9_elsewhere, 1, some .int)
theorem vX9_elsewhere : zw_yV iX9_elsewhere 0 := ⟨zw_in_p [666, 667, 71, 668] (by decide +kernel) (by decide +kernel), ⟨by decide +kernel, by decide +kernel, by decide +kernel⟩, by decide⟩
abbrev iX9_placeOf : zw_I := (yX9_placeOf, cX9_placeOf, 3, some .int)
theorem vX9_placeOf : zw_yV iX9_placeOf 1 := ⟨zw_in_p [670, 671, 71, 672] (by decide +kernel) (by decide +kernel), ⟨by decide +kernel, by decide +kernel, by decide +kernel⟩, by decide⟩
abbrev iX9_search : zw_I := (yX9_search, cX9_search, 5, none)
theorem vX9_search : zw_yV iX9_search 1 := ⟨zw_in_p [629, 630, 71, 631] (by decide +kernel) (by decide +kernel), ⟨by decide +kernel, by decide +kernel, by decide +kernel⟩, by decide⟩
abbrev iX9_takeSquares : zw_I := (yX9_takeSquares, cX9_takeSquares, 7, none)
theorem vX9_takeSquares : zw_yV iX9_takeSquares 5 := ⟨zw_in_p [642, 3, 71, 643] (by decide +kernel) (by decide +kernel), ⟨by decide +kernel, by decide +kernel, by decide +kernel⟩, by decide⟩
abbrev iX9_takeSquareOf : zw_I := (yX9_takeSquareOf, cX9_takeSquareOf, 9, none)
theorem vX9_takeSquareOf : zw_yV iX9_takeSquareOf 6 := ⟨zw_in_p [659, 5, 71, 660] (by decide +kernel) (by decide +kernel), ⟨by decide +kernel, by decide +kernel, by decide +kernel⟩, by decide⟩
abbrev iX9_judge : zw_I := (yX9_judge, cX9_judge, 6, none)
theorem vX9_judge : zw_yV iX9_judge 3 := ⟨zw_in_p [646, 4, 71, 647] (by decide +kernel) (by decide +kernel), ⟨by decide +kernel, by decide +kernel, by decide +kernel⟩, by decide⟩
abbrev iX10_init : zw_I := (yX10_init, cX10_init, 1, none)
abbrev iX10_letters : zw_I := (yX10_letters, cX10_letters, 3, some .int)
theorem vX10_letters : zw_yV iX10_letters 1 := ⟨zw_in_p [368, 369, 64, 370] (by decide +kernel) (by decide +kernel), ⟨by decide +kernel, by decide +kernel, by decide +kernel⟩, by decide⟩
abbrev iX10_blank : zw_I := (yX10_blank, cX10_blank, 2, some .int)
theorem vX10_blank : zw_yV iX10_blank 0 := ⟨zw_in_p [383, 384, 64, 385] (by decide +kernel) (by decide +kernel), ⟨by decide +kernel, by decide +kernel, by decide +kernel⟩, by decide⟩
abbrev iX10_fault : zw_I := (yX10_fault, cX10_fault, 2, some .int)
theorem vX10_fault : zw_yV iX10_fault 1 := ⟨zw_in_p [395, 396, 64, 397] (by decide +kernel) (by decide +kernel), ⟨by decide +kernel, by decide +kernel, by decide +kernel⟩, by decide⟩
abbrev iX10_plan : zw_I := (yX10_plan, cX10_plan, 1, some .int)
theorem vX10_plan : zw_yV iX10_plan 0 := ⟨zw_in_p [425, 426, 64, 427] (by decide +kernel) (by decide +kernel), ⟨by decide +kernel, by decide +kernel, by decide +kernel⟩, by decide⟩
abbrev iX10_square : zw_I := (yX10_square, cX10_square, 3, some .int)
theorem vX10_square : zw_yV iX10_square 2 := ⟨zw_in_p [463, 464, 64, 465] (by decide +kernel) (by decide +kernel), ⟨by decide +kernel, by decide +kernel, by decide +kernel⟩, by decide⟩
abbrev iX10_thing : zw_I := (yX10_thing, cX10_thing, 4, some .int)
theorem vX10_thing : zw_yV iX10_thing 3 := ⟨zw_in_p [486, 487, 64, 488] (by decide +kernel) (by decide +kernel), ⟨by decide +kernel, by decide +kernel, by decide +kernel⟩, by decide⟩
abbrev iX10_about : zw_I := (yX10_about, cX10_about, 3, some .int)
theorem vX10_about : zw_yV iX10_about 2 := ⟨zw_in_p [515, 516, 64, 517] (by decide +kernel) (by decide +kernel), ⟨by decide +kernel, by decide +kernel, by decide +kernel⟩, by decide⟩
abbrev iX10_as : zw_I := (yX10_as, cX10_as, 3, some .int)
theorem vX10_as : zw_yV iX10_as 2 := ⟨zw_in_p [539, 540, 64, 541] (by decide +kernel) (by decide +kernel), ⟨by decide +kernel, by decide +kernel, by decide +kernel⟩, by decide⟩
abbrev iX10_stand : zw_I := (yX10_stand, cX10_stand, 5, some .int)
theorem vX10_stand : zw_yV iX10_stand 3 := ⟨zw_in_p [548, 549, 64, 550] (by decide +kernel) (by decide +kernel), ⟨by decide +kernel, by decide +kernel, by decide +kernel⟩, by decide⟩
abbrev iX10_put : zw_I := (yX10_put, cX10_put, 4, some .int)
theorem vX10_put : zw_yV iX10_put 2 := ⟨zw_in_p [554, 555, 64, 556] (by decide +kernel) (by decide +kernel), ⟨by decide +kernel, by decide +kernel, by decide +kernel⟩, by decide⟩
abbrev iX10_trade : zw_I := (yX10_trade, cX10_trade, 6, some .int)
theorem vX10_trade : zw_yV iX10_trade 3 := ⟨zw_in_p [559, 560, 64, 561] (by decide +kernel) (by decide +kernel), ⟨by decide +kernel, by decide +kernel, by decide +kernel⟩, by decide⟩
abbrev iX10_leans : zw_I := (yX10_leans, cX10_leans, 3, some .int)
theorem vX10_leans : zw_yV iX10_leans 2 := ⟨zw_in_p [563, 564, 64, 565] (by decide +kernel) (by decide +kernel), ⟨by decide +kernel, by decide +kernel, by decide +kernel⟩, by decide⟩
abbrev iX10_dip : zw_I := (yX10_dip, cX10_dip, 3, some .int)
theorem vX10_dip : zw_yV iX10_dip 2 := ⟨zw_in_p [583, 584, 64, 585] (by decide +kernel) (by decide +kernel), ⟨by decide +kernel, by decide +kernel, by decide +kernel⟩, by decide⟩
abbrev iX10_wet : zw_I := (yX10_wet, cX10_wet, 2, some .int)
theorem vX10_wet : zw_yV iX10_wet 1 := ⟨zw_in_p [592, 593, 64, 594] (by decide +kernel) (by decide +kernel), ⟨by decide +kernel, by decide +kernel, by decide +kernel⟩, by decide⟩
abbrev iX10_trades : zw_I := (yX10_trades, cX10_trades, 3, some .int)
theorem vX10_trades : zw_yV iX10_trades 2 := ⟨zw_in_p [606, 607, 64, 608] (by decide +kernel) (by decide +kernel), ⟨by decide +kernel, by decide +kernel, by decide +kernel⟩, by decide⟩
abbrev iX10_counter : zw_I := (yX10_counter, cX10_counter, 4, some .int)
theorem vX10_counter : zw_yV iX10_counter 3 := ⟨zw_in_p [674, 675, 64, 676] (by decide +kernel) (by decide +kernel), ⟨by decide +kernel, by decide +kernel, by decide +kernel⟩, by decide⟩
abbrev iX10_stones : zw_I := (yX10_stones, cX10_stones, 2, some .int)
theorem vX10_stones : zw_yV iX10_stones 1 := ⟨zw_in_p [728, 729, 64, 730] (by decide +kernel) (by decide +kernel), ⟨by decide +kernel, by decide +kernel, by decide +kernel⟩, by decide⟩
abbrev iX10_site : zw_I := (yX10_site, cX10_site, 2, some .int)
theorem vX10_site : zw_yV iX10_site 1 := ⟨zw_in_p [784, 785, 64, 786] (by decide +kernel) (by decide +kernel), ⟨by decide +kernel, by decide +kernel, by decide +kernel⟩, by decide⟩
abbrev iX10_late : zw_I := (yX10_late, cX10_late, 4, some .int)
theorem vX10_late : zw_yV iX10_late 3 := ⟨zw_in_p [799, 800, 64, 801] (by decide +kernel) (by decide +kernel), ⟨by decide +kernel, by decide +kernel, by decide +kernel⟩, by decide⟩
abbrev iX10_storm : zw_I := (yX10_storm, cX10_storm, 2, some .int)
theorem vX10_storm : zw_yV iX10_storm 1 := ⟨zw_in_p [831, 832, 64, 833] (by decide +kernel) (by decide +kernel), ⟨by decide +kernel, by decide +kernel, by decide +kernel⟩, by decide⟩
abbrev iX10_moss : zw_I := (yX10_moss, cX10_moss, 1, some .int)
theorem vX10_moss : zw_yV iX10_moss 0 := ⟨zw_in_p [864, 865, 64, 866] (by decide +kernel) (by decide +kernel), ⟨by decide +kernel, by decide +kernel, by decide +kernel⟩, by decide⟩
abbrev iX10_cows : zw_I := (yX10_cows, cX10_cows, 6, some .int)
theorem vX10_cows : zw_yV iX10_cows 4 := ⟨zw_in_p [872, 873, 64, 874] (by decide +kernel) (by decide +kernel), ⟨by decide +kernel, by decide +kernel, by decide +kernel⟩, by decide⟩
abbrev iX10_image : zw_I := (yX10_image, cX10_image, 1, some .int)
theorem vX10_image : zw_yV iX10_image 0 := ⟨zw_in_p [903, 904, 64, 905] (by decide +kernel) (by decide +kernel), ⟨by decide +kernel, by decide +kernel, by decide +kernel⟩, by decide⟩
abbrev iX10_restore : zw_I := (yX10_restore, cX10_restore, 1, some .int)
theorem vX10_restore : zw_yV iX10_restore 0 := ⟨zw_in_p [913, 914, 64, 915] (by decide +kernel) (by decide +kernel), ⟨by decide +kernel, by decide +kernel, by decide +kernel⟩, by decide⟩
abbrev iX10_count : zw_I := (yX10_count, cX10_count, 2, some .int)
theorem vX10_count : zw_yV iX10_count 1 := ⟨zw_in_p [925, 926, 64, 927] (by decide +kernel) (by decide +kernel), ⟨by decide +kernel, by decide +kernel, by decide +kernel⟩, by decide⟩
abbrev iX10_digest : zw_I := (yX10_digest, cX10_digest, 4, some .long)
theorem vX10_digest : zw_yV iX10_digest 0 := ⟨zw_in_p [933, 934, 64, 935] (by decide +kernel) (by decide +kernel), ⟨by decide +kernel, by decide +kernel, by decide +kernel⟩, by decide⟩
abbrev iX10_digested : zw_I := (yX10_digested, cX10_digested, 3, some .long)
theorem sX10_digested : zw_yS iX10_digested 2 := ⟨zw_in_p [938, 64, 939] (by decide +kernel) (by decide +kernel), ⟨by decide +kernel, by decide +kernel, by decide +kernel⟩, by decide⟩
abbrev iX10_digestedThing : zw_I := (yX10_digestedThing, cX10_digestedThing, 7, some .long)
theorem vX10_digestedThing : zw_yV iX10_digestedThing 2 := ⟨zw_in_p [943, 22, 64, 944] (by decide +kernel) (by decide +kernel), ⟨by decide +kernel, by decide +kernel, by decide +kernel⟩, by decide⟩
abbrev iX10_digestedFindings : zw_I := (yX10_digestedFindings, cX10_digestedFindings, 6, some .long)
theorem vX10_digestedFindings : zw_yV iX10_digestedFindings 1 := ⟨zw_in_p [947, 23, 64, 948] (by decide +kernel) (by decide +kernel), ⟨by decide +kernel, by decide +kernel, by decide +kernel⟩, by decide⟩
abbrev iX10_isQuarter : zw_I := (yX10_isQuarter, cX10_isQuarter, 1, some .boolean)
theorem sX10_isQuarter : zw_yS iX10_isQuarter 1 := ⟨zw_in_p [512, 64, 513] (by decide +kernel) (by decide +kernel), ⟨by decide +kernel, by decide +kernel, by decide +kernel⟩, by decide⟩
abbrev iX10_isKind : zw_I := (yX10_isKind, cX10_isKind, 1, some .boolean)
theorem sX10_isKind : zw_yS iX10_isKind 1 := ⟨zw_in_p [490, 64, 491] (by decide +kernel) (by decide +kernel), ⟨by decide +kernel, by decide +kernel, by decide +kernel⟩, by decide⟩
abbrev iX10_isWeight : zw_I := (yX10_isWeight, cX10_isWeight, 1, some .boolean)
theorem sX10_isWeight : zw_yS iX10_isWeight 1 := ⟨zw_in_p [493, 64, 494] (by decide +kernel) (by decide +kernel), ⟨by decide +kernel, by decide +kernel, by decide +kernel⟩, by decide⟩
abbrev iX10_asksPlace : zw_I := (yX10_asksPlace, cX10_asksPlace, 1, some .boolean)
theorem sX10_asksPlace : zw_yS iX10_asksPlace 1 := ⟨zw_in_p [520, 64, 521] (by decide +kernel) (by decide +kernel), ⟨by decide +kernel, by decide +kernel, by decide +kernel⟩, by decide⟩
abbrev iX11_init : zw_I := (yX11_init, cX11_init, 1, none)
abbrev iX11_within : zw_I := (yX11_within, cX11_within, 3, some .boolean)
theorem sX11_within : zw_yS iX11_within 3 := ⟨zw_in_p [1093, 75, 1094] (by decide +kernel) (by decide +kernel), ⟨by decide +kernel, by decide +kernel, by decide +kernel⟩, by decide⟩
abbrev iX11_has : zw_I := (yX11_has, cX11_has, 2, some .boolean)
theorem sX11_has : zw_yS iX11_has 2 := ⟨zw_in_p [1281, 75, 1282] (by decide +kernel) (by decide +kernel), ⟨by decide +kernel, by decide +kernel, by decide +kernel⟩, by decide⟩
abbrev iX11_letters : zw_I := (yX11_letters, cX11_letters, 7, some .int)
theorem vX11_letters : zw_yV iX11_letters 1 := ⟨zw_in_p [1080, 1081, 75, 1082] (by decide +kernel) (by decide +kernel), ⟨by decide +kernel, by decide +kernel, by decide +kernel⟩, by decide⟩
abbrev iX11_blank : zw_I := (yX11_blank, cX11_blank, 2, some .int)
theorem vX11_blank : zw_yV iX11_blank 0 := ⟨zw_in_p [1085, 1086, 75, 1087] (by decide +kernel) (by decide +kernel), ⟨by decide +kernel, by decide +kernel, by decide +kernel⟩, by decide⟩
abbrev iX11_readPlan : zw_I := (yX11_readPlan, cX11_readPlan, 9, none)
theorem vX11_readPlan : zw_yV iX11_readPlan 0 := ⟨zw_in_p [1097, 24, 75, 1098] (by decide +kernel) (by decide +kernel), ⟨by decide +kernel, by decide +kernel, by decide +kernel⟩, by decide⟩
abbrev iX11_wayBy : zw_I := (yX11_wayBy, cX11_wayBy, 1, some .int)
theorem sX11_wayBy : zw_yS iX11_wayBy 1 := ⟨zw_in_p [1104, 75, 1105] (by decide +kernel) (by decide +kernel), ⟨by decide +kernel, by decide +kernel, by decide +kernel⟩, by decide⟩
abbrev iX11_readWay : zw_I := (yX11_readWay, cX11_readWay, 2, none)
theorem vX11_readWay : zw_yV iX11_readWay 0 := ⟨zw_in_p [1101, 25, 75, 1102] (by decide +kernel) (by decide +kernel), ⟨by decide +kernel, by decide +kernel, by decide +kernel⟩, by decide⟩
abbrev iX11_fault : zw_I := (yX11_fault, cX11_fault, 2, some .int)
theorem vX11_fault : zw_yV iX11_fault 1 := ⟨zw_in_p [1089, 1090, 75, 1091] (by decide +kernel) (by decide +kernel), ⟨by decide +kernel, by decide +kernel, by decide +kernel⟩, by decide⟩
abbrev iX11_plan : zw_I := (yX11_plan, cX11_plan, 2, some .int)
theorem vX11_plan : zw_yV iX11_plan 0 := ⟨zw_in_p [1107, 1108, 75, 1109] (by decide +kernel) (by decide +kernel), ⟨by decide +kernel, by decide +kernel, by decide +kernel⟩, by decide⟩
abbrev iX11_isSquare : zw_I := (yX11_isSquare, cX11_isSquare, 2, some .boolean)
theorem vX11_isSquare : zw_yV iX11_isSquare 1 := ⟨zw_in_p [1116, 26, 75, 1117] (by decide +kernel) (by decide +kernel), ⟨by decide +kernel, by decide +kernel, by decide +kernel⟩, by decide⟩
abbrev iX11_eastOf : zw_I := (yX11_eastOf, cX11_eastOf, 2, some .int)
theorem vX11_eastOf : zw_yV iX11_eastOf 1 := ⟨zw_in_p [1122, 27, 75, 1123] (by decide +kernel) (by decide +kernel), ⟨by decide +kernel, by decide +kernel, by decide +kernel⟩, by decide⟩
abbrev iX11_southOf : zw_I := (yX11_southOf, cX11_southOf, 2, some .int)
theorem vX11_southOf : zw_yV iX11_southOf 1 := ⟨zw_in_p [1126, 28, 75, 1127] (by decide +kernel) (by decide +kernel), ⟨by decide +kernel, by decide +kernel, by decide +kernel⟩, by decide⟩
abbrev iX11_square : zw_I := (yX11_square, cX11_square, 3, some .int)
theorem vX11_square : zw_yV iX11_square 2 := ⟨zw_in_p [1111, 1112, 75, 1113] (by decide +kernel) (by decide +kernel), ⟨by decide +kernel, by decide +kernel, by decide +kernel⟩, by decide⟩
abbrev iX11_isThing : zw_I := (yX11_isThing, cX11_isThing, 2, some .boolean)
theorem vX11_isThing : zw_yV iX11_isThing 1 := ⟨zw_in_p [1138, 29, 75, 1139] (by decide +kernel) (by decide +kernel), ⟨by decide +kernel, by decide +kernel, by decide +kernel⟩, by decide⟩
abbrev iX11_isQuarter : zw_I := (yX11_isQuarter, cX11_isQuarter, 1, some .boolean)
theorem sX11_isQuarter : zw_yS iX11_isQuarter 1 := ⟨zw_in_p [1153, 75, 1154] (by decide +kernel) (by decide +kernel), ⟨by decide +kernel, by decide +kernel, by decide +kernel⟩, by decide⟩
abbrev iX11_isPerson : zw_I := (yX11_isPerson, cX11_isPerson, 2, some .boolean)
theorem vX11_isPerson : zw_yV iX11_isPerson 1 := ⟨zw_in_p [1157, 31, 75, 1158] (by decide +kernel) (by decide +kernel), ⟨by decide +kernel, by decide +kernel, by decide +kernel⟩, by decide⟩
abbrev iX11_thing : zw_I := (yX11_thing, cX11_thing, 5, some .int)
theorem vX11_thing : zw_yV iX11_thing 3 := ⟨zw_in_p [1129, 1130, 75, 1131] (by decide +kernel) (by decide +kernel), ⟨by decide +kernel, by decide +kernel, by decide +kernel⟩, by decide⟩
abbrev iX11_weighs : zw_I := (yX11_weighs, cX11_weighs, 2, some .int)
theorem vX11_weighs : zw_yV iX11_weighs 1 := ⟨zw_in_p [1142, 30, 75, 1143] (by decide +kernel) (by decide +kernel), ⟨by decide +kernel, by decide +kernel, by decide +kernel⟩, by decide⟩
abbrev iX11_about : zw_I := (yX11_about, cX11_about, 3, some .int)
theorem vX11_about : zw_yV iX11_about 2 := ⟨zw_in_p [1133, 1134, 75, 1135] (by decide +kernel) (by decide +kernel), ⟨by decide +kernel, by decide +kernel, by decide +kernel⟩, by decide⟩
abbrev iX11_as : zw_I := (yX11_as, cX11_as, 4, some .int)
theorem vX11_as : zw_yV iX11_as 2 := ⟨zw_in_p [1145, 1146, 75, 1147] (by decide +kernel) (by decide +kernel), ⟨by decide +kernel, by decide +kernel, by decide +kernel⟩, by decide⟩
abbrev iX11_stand : zw_I := (yX11_stand, cX11_stand, 5, some .int)
theorem vX11_stand : zw_yV iX11_stand 3 := ⟨zw_in_p [1149, 1150, 75, 1151] (by decide +kernel) (by decide +kernel), ⟨by decide +kernel, by decide +kernel, by decide +kernel⟩, by decide⟩
abbrev iX11_putAt : zw_I := (yX11_putAt, cX11_putAt, 4, none)
theorem vX11_putAt : zw_yV iX11_putAt 2 := ⟨zw_in_p [1165, 32, 75, 1166] (by decide +kernel) (by decide +kernel), ⟨by decide +kernel, by decide +kernel, by decide +kernel⟩, by decide⟩
abbrev iX11_put : zw_I := (yX11_put, cX11_put, 4, some .int)
theorem vX11_put : zw_yV iX11_put 2 := ⟨zw_in_p [1160, 1161, 75, 1162] (by decide +kernel) (by decide +kernel), ⟨by decide +kernel, by decide +kernel, by decide +kernel⟩, by decide⟩
abbrev iX11_trade : zw_I := (yX11_trade, cX11_trade, 6, some .int)
theorem vX11_trade : zw_yV iX11_trade 3 := ⟨zw_in_p [1168, 1169, 75, 1170] (by decide +kernel) (by decide +kernel), ⟨by decide +kernel, by decide +kernel, by decide +kernel⟩, by decide⟩
abbrev iX11_leanOf : zw_I := (yX11_leanOf, cX11_leanOf, 7, some .int)
theorem vX11_leanOf : zw_yV iX11_leanOf 2 := ⟨zw_in_p [1177, 33, 75, 1178] (by decide +kernel) (by decide +kernel), ⟨by decide +kernel, by decide +kernel, by decide +kernel⟩, by decide⟩
abbrev iX11_leans : zw_I := (yX11_leans, cX11_leans, 3, some .int)
theorem vX11_leans : zw_yV iX11_leans 2 := ⟨zw_in_p [1172, 1173, 75, 1174] (by decide +kernel) (by decide +kernel), ⟨by decide +kernel, by decide +kernel, by decide +kernel⟩, by decide⟩
abbrev iX11_dip : zw_I := (yX11_dip, cX11_dip, 3, some .int)
theorem vX11_dip : zw_yV iX11_dip 2 := ⟨zw_in_p [1180, 1181, 75, 1182] (by decide +kernel) (by decide +kernel), ⟨by decide +kernel, by decide +kernel, by decide +kernel⟩, by decide⟩
abbrev iX11_wetIn : zw_I := (yX11_wetIn, cX11_wetIn, 7, some .int)
theorem vX11_wetIn : zw_yV iX11_wetIn 1 := ⟨zw_in_p [1190, 34, 75, 1191] (by decide +kernel) (by decide +kernel), ⟨by decide +kernel, by decide +kernel, by decide +kernel⟩, by decide⟩
abbrev iX11_size : zw_I := (yX11_size, cX11_size, 3, some .int)
theorem sX11_size : zw_yS iX11_size 1 := ⟨zw_in_p [1214, 75, 1215] (by decide +kernel) (by decide +kernel), ⟨by decide +kernel, by decide +kernel, by decide +kernel⟩, by decide⟩
abbrev iX11_wet : zw_I := (yX11_wet, cX11_wet, 2, some .int)
theorem vX11_wet : zw_yV iX11_wet 1 := ⟨zw_in_p [1185, 1186, 75, 1187] (by decide +kernel) (by decide +kernel), ⟨by decide +kernel, by decide +kernel, by decide +kernel⟩, by decide⟩
abbrev iX11_wetAll : zw_I := (yX11_wetAll, cX11_wetAll, 3, some .int)
theorem vX11_wetAll : zw_yV iX11_wetAll 0 := ⟨zw_in_p [1270, 49, 75, 1271] (by decide +kernel) (by decide +kernel), ⟨by decide +kernel, by decide +kernel, by decide +kernel⟩, by decide⟩
abbrev iX11_peopleMany : zw_I := (yX11_peopleMany, cX11_peopleMany, 3, some .int)
theorem vX11_peopleMany : zw_yV iX11_peopleMany 0 := ⟨zw_in_p [1198, 35, 75, 1199] (by decide +kernel) (by decide +kernel), ⟨by decide +kernel, by decide +kernel, by decide +kernel⟩, by decide⟩
abbrev iX11_layPeople : zw_I := (yX11_layPeople, cX11_layPeople, 4, none)
theorem vX11_layPeople : zw_yV iX11_layPeople 1 := ⟨zw_in_p [1206, 37, 75, 1207] (by decide +kernel) (by decide +kernel), ⟨by decide +kernel, by decide +kernel, by decide +kernel⟩, by decide⟩
abbrev iX11_exchange : zw_I := (yX11_exchange, cX11_exchange, 4, none)
theorem vX11_exchange : zw_yV iX11_exchange 2 := ⟨zw_in_p [1222, 40, 75, 1223] (by decide +kernel) (by decide +kernel), ⟨by decide +kernel, by decide +kernel, by decide +kernel⟩, by decide⟩
abbrev iX11_nextTakes : zw_I := (yX11_nextTakes, cX11_nextTakes, 5, some .boolean)
theorem vX11_nextTakes : zw_yV iX11_nextTakes 1 := ⟨zw_in_p [1218, 39, 75, 1219] (by decide +kernel) (by decide +kernel), ⟨by decide +kernel, by decide +kernel, by decide +kernel⟩, by decide⟩
abbrev iX11_tryTrade : zw_I := (yX11_tryTrade, cX11_tryTrade, 6, none)
theorem vX11_tryTrade : zw_yV iX11_tryTrade 2 := ⟨zw_in_p [1211, 38, 75, 1212] (by decide +kernel) (by decide +kernel), ⟨by decide +kernel, by decide +kernel, by decide +kernel⟩, by decide⟩
abbrev iX11_tradesNow : zw_I := (yX11_tradesNow, cX11_tradesNow, 7, some .int)
theorem vX11_tradesNow : zw_yV iX11_tradesNow 2 := ⟨zw_in_p [1202, 36, 75, 1203] (by decide +kernel) (by decide +kernel), ⟨by decide +kernel, by decide +kernel, by decide +kernel⟩, by decide⟩
abbrev iX11_trades : zw_I := (yX11_trades, cX11_trades, 3, some .int)
theorem vX11_trades : zw_yV iX11_trades 2 := ⟨zw_in_p [1193, 1194, 75, 1195] (by decide +kernel) (by decide +kernel), ⟨by decide +kernel, by decide +kernel, by decide +kernel⟩, by decide⟩
abbrev iX11_besideOf : zw_I := (yX11_besideOf, cX11_besideOf, 3, some .int)
theorem vX11_besideOf : zw_yV iX11_besideOf 2 := ⟨zw_in_p [1234, 42, 75, 1235] (by decide +kernel) (by decide +kernel), ⟨by decide +kernel, by decide +kernel, by decide +kernel⟩, by decide⟩
abbrev iX11_layWay : zw_I := (yX11_layWay, cX11_layWay, 6, some .boolean)
theorem vX11_layWay : zw_yV iX11_layWay 3 := ⟨zw_in_p [1230, 41, 75, 1231] (by decide +kernel) (by decide +kernel), ⟨by decide +kernel, by decide +kernel, by decide +kernel⟩, by decide⟩
abbrev iX11_wetWith : zw_I := (yX11_wetWith, cX11_wetWith, 4, some .int)
theorem vX11_wetWith : zw_yV iX11_wetWith 1 := ⟨zw_in_p [1238, 43, 75, 1239] (by decide +kernel) (by decide +kernel), ⟨by decide +kernel, by decide +kernel, by decide +kernel⟩, by decide⟩
abbrev iX11_counter : zw_I := (yX11_counter, cX11_counter, 8, some .int)
theorem vX11_counter : zw_yV iX11_counter 3 := ⟨zw_in_p [1225, 1226, 75, 1227] (by decide +kernel) (by decide +kernel), ⟨by decide +kernel, by decide +kernel, by decide +kernel⟩, by decide⟩
abbrev iX11_isDry : zw_I := (yX11_isDry, cX11_isDry, 3, some .boolean)
theorem vX11_isDry : zw_yV iX11_isDry 0 := ⟨zw_in_p [1250, 45, 75, 1251] (by decide +kernel) (by decide +kernel), ⟨by decide +kernel, by decide +kernel, by decide +kernel⟩, by decide⟩
abbrev iX11_helpsFrom : zw_I := (yX11_helpsFrom, cX11_helpsFrom, 6, some .boolean)
theorem vX11_helpsFrom : zw_yV iX11_helpsFrom 1 := ⟨zw_in_p [1254, 46, 75, 1255] (by decide +kernel) (by decide +kernel), ⟨by decide +kernel, by decide +kernel, by decide +kernel⟩, by decide⟩
abbrev iX11_helpTwo : zw_I := (yX11_helpTwo, cX11_helpTwo, 5, some .boolean)
theorem vX11_helpTwo : zw_yV iX11_helpTwo 0 := ⟨zw_in_p [1258, 47, 75, 1259] (by decide +kernel) (by decide +kernel), ⟨by decide +kernel, by decide +kernel, by decide +kernel⟩, by decide⟩
abbrev iX11_stonesNow : zw_I := (yX11_stonesNow, cX11_stonesNow, 3, some .int)
theorem vX11_stonesNow : zw_yV iX11_stonesNow 1 := ⟨zw_in_p [1246, 44, 75, 1247] (by decide +kernel) (by decide +kernel), ⟨by decide +kernel, by decide +kernel, by decide +kernel⟩, by decide⟩
abbrev iX11_stones : zw_I := (yX11_stones, cX11_stones, 2, some .int)
theorem vX11_stones : zw_yV iX11_stones 1 := ⟨zw_in_p [1241, 1242, 75, 1243] (by decide +kernel) (by decide +kernel), ⟨by decide +kernel, by decide +kernel, by decide +kernel⟩, by decide⟩
abbrev iX11_siteNow : zw_I := (yX11_siteNow, cX11_siteNow, 6, some .int)
theorem vX11_siteNow : zw_yV iX11_siteNow 1 := ⟨zw_in_p [1266, 48, 75, 1267] (by decide +kernel) (by decide +kernel), ⟨by decide +kernel, by decide +kernel, by decide +kernel⟩, by decide⟩
abbrev iX11_site : zw_I := (yX11_site, cX11_site, 2, some .int)
theorem vX11_site : zw_yV iX11_site 1 := ⟨zw_in_p [1261, 1262, 75, 1263] (by decide +kernel) (by decide +kernel), ⟨by decide +kernel, by decide +kernel, by decide +kernel⟩, by decide⟩
abbrev iX11_lateNow : zw_I := (yX11_lateNow, cX11_lateNow, 10, some .int)
theorem vX11_lateNow : zw_yV iX11_lateNow 3 := ⟨zw_in_p [1278, 50, 75, 1279] (by decide +kernel) (by decide +kernel), ⟨by decide +kernel, by decide +kernel, by decide +kernel⟩, by decide⟩
abbrev iX11_late : zw_I := (yX11_late, cX11_late, 4, some .int)
theorem vX11_late : zw_yV iX11_late 3 := ⟨zw_in_p [1273, 1274, 75, 1275] (by decide +kernel) (by decide +kernel), ⟨by decide +kernel, by decide +kernel, by decide +kernel⟩, by decide⟩
abbrev iX11_toMiddle : zw_I := (yX11_toMiddle, cX11_toMiddle, 4, some .int)
theorem vX11_toMiddle : zw_yV iX11_toMiddle 1 := ⟨zw_in_p [1297, 53, 75, 1298] (by decide +kernel) (by decide +kernel), ⟨by decide +kernel, by decide +kernel, by decide +kernel⟩, by decide⟩
abbrev iX11_keepStands : zw_I := (yX11_keepStands, cX11_keepStands, 3, none)
theorem vX11_keepStands : zw_yV iX11_keepStands 1 := ⟨zw_in_p [1293, 52, 75, 1294] (by decide +kernel) (by decide +kernel), ⟨by decide +kernel, by decide +kernel, by decide +kernel⟩, by decide⟩
abbrev iX11_putStands : zw_I := (yX11_putStands, cX11_putStands, 3, none)
theorem vX11_putStands : zw_yV iX11_putStands 1 := ⟨zw_in_p [1301, 54, 75, 1302] (by decide +kernel) (by decide +kernel), ⟨by decide +kernel, by decide +kernel, by decide +kernel⟩, by decide⟩
abbrev iX11_stormNow : zw_I := (yX11_stormNow, cX11_stormNow, 5, some .int)
theorem vX11_stormNow : zw_yV iX11_stormNow 1 := ⟨zw_in_p [1289, 51, 75, 1290] (by decide +kernel) (by decide +kernel), ⟨by decide +kernel, by decide +kernel, by decide +kernel⟩, by decide⟩
abbrev iX11_storm : zw_I := (yX11_storm, cX11_storm, 2, some .int)
theorem vX11_storm : zw_yV iX11_storm 1 := ⟨zw_in_p [1284, 1285, 75, 1286] (by decide +kernel) (by decide +kernel), ⟨by decide +kernel, by decide +kernel, by decide +kernel⟩, by decide⟩
abbrev iX11_mossNow : zw_I := (yX11_mossNow, cX11_mossNow, 3, some .int)
theorem vX11_mossNow : zw_yV iX11_mossNow 0 := ⟨zw_in_p [1309, 55, 75, 1310] (by decide +kernel) (by decide +kernel), ⟨by decide +kernel, by decide +kernel, by decide +kernel⟩, by decide⟩
abbrev iX11_moss : zw_I := (yX11_moss, cX11_moss, 1, some .int)
theorem vX11_moss : zw_yV iX11_moss 0 := ⟨zw_in_p [1304, 1305, 75, 1306] (by decide +kernel) (by decide +kernel), ⟨by decide +kernel, by decide +kernel, by decide +kernel⟩, by decide⟩
abbrev iX11_draw : zw_I := (yX11_draw, cX11_draw, 2, some .int)
theorem vX11_draw : zw_yV iX11_draw 1 := ⟨zw_in_p [1325, 58, 75, 1326] (by decide +kernel) (by decide +kernel), ⟨by decide +kernel, by decide +kernel, by decide +kernel⟩, by decide⟩
abbrev iX11_stray : zw_I := (yX11_stray, cX11_stray, 5, none)
theorem vX11_stray : zw_yV iX11_stray 1 := ⟨zw_in_p [1321, 57, 75, 1322] (by decide +kernel) (by decide +kernel), ⟨by decide +kernel, by decide +kernel, by decide +kernel⟩, by decide⟩
abbrev iX11_cowsNow : zw_I := (yX11_cowsNow, cX11_cowsNow, 7, some .int)
theorem vX11_cowsNow : zw_yV iX11_cowsNow 4 := ⟨zw_in_p [1317, 56, 75, 1318] (by decide +kernel) (by decide +kernel), ⟨by decide +kernel, by decide +kernel, by decide +kernel⟩, by decide⟩
abbrev iX11_cows : zw_I := (yX11_cows, cX11_cows, 5, some .int)
theorem vX11_cows : zw_yV iX11_cows 4 := ⟨zw_in_p [1312, 1313, 75, 1314] (by decide +kernel) (by decide +kernel), ⟨by decide +kernel, by decide +kernel, by decide +kernel⟩, by decide⟩
abbrev iX11_image : zw_I := (yX11_image, cX11_image, 2, some .int)
theorem vX11_image : zw_yV iX11_image 0 := ⟨zw_in_p [1332, 1333, 75, 1334] (by decide +kernel) (by decide +kernel), ⟨by decide +kernel, by decide +kernel, by decide +kernel⟩, by decide⟩
abbrev iX11_restore : zw_I := (yX11_restore, cX11_restore, 2, some .int)
theorem vX11_restore : zw_yV iX11_restore 0 := ⟨zw_in_p [1336, 1337, 75, 1338] (by decide +kernel) (by decide +kernel), ⟨by decide +kernel, by decide +kernel, by decide +kernel⟩, by decide⟩
abbrev iX11_doorMany : zw_I := (yX11_doorMany, cX11_doorMany, 3, some .int)
theorem vX11_doorMany : zw_yV iX11_doorMany 0 := ⟨zw_in_p [1349, 60, 75, 1350] (by decide +kernel) (by decide +kernel), ⟨by decide +kernel, by decide +kernel, by decide +kernel⟩, by decide⟩
abbrev iX11_howMany : zw_I := (yX11_howMany, cX11_howMany, 2, some .int)
theorem vX11_howMany : zw_yV iX11_howMany 1 := ⟨zw_in_p [1345, 59, 75, 1346] (by decide +kernel) (by decide +kernel), ⟨by decide +kernel, by decide +kernel, by decide +kernel⟩, by decide⟩
abbrev iX11_count : zw_I := (yX11_count, cX11_count, 2, some .int)
theorem vX11_count : zw_yV iX11_count 1 := ⟨zw_in_p [1340, 1341, 75, 1342] (by decide +kernel) (by decide +kernel), ⟨by decide +kernel, by decide +kernel, by decide +kernel⟩, by decide⟩
abbrev iX11_mix : zw_I := (yX11_mix, cX11_mix, 3, none)
theorem vX11_mix : zw_yV iX11_mix 1 := ⟨zw_in_p [1358, 61, 75, 1359] (by decide +kernel) (by decide +kernel), ⟨by decide +kernel, by decide +kernel, by decide +kernel⟩, by decide⟩
abbrev iX11_mixThing : zw_I := (yX11_mixThing, cX11_mixThing, 3, none)
theorem vX11_mixThing : zw_yV iX11_mixThing 1 := ⟨zw_in_p [1363, 62, 75, 1364] (by decide +kernel) (by decide +kernel), ⟨by decide +kernel, by decide +kernel, by decide +kernel⟩, by decide⟩
abbrev iX11_digest : zw_I := (yX11_digest, cX11_digest, 3, some .long)
theorem vX11_digest : zw_yV iX11_digest 0 := ⟨zw_in_p [1352, 1353, 75, 1354] (by decide +kernel) (by decide +kernel), ⟨by decide +kernel, by decide +kernel, by decide +kernel⟩, by decide⟩
abbrev iJ6_bitCount_0f7a4 : zw_I := (yJ6_bitCount_0f7a4, cJ6_bitCount_0f7a4, 1, some .int)
theorem sJ6_bitCount_0f7a4 : zw_yS iJ6_bitCount_0f7a4 1 := ⟨zw_in_p [623, 76, 624] (by decide +kernel) (by decide +kernel), ⟨by decide +kernel, by decide +kernel, by decide +kernel⟩, by decide⟩
abbrev iJ9_max_7cf53 : zw_I := (yJ9_max_7cf53, cJ9_max_7cf53, 2, some .int)
theorem sJ9_max_7cf53 : zw_yS iJ9_max_7cf53 2 := ⟨zw_in_p [748, 78, 749] (by decide +kernel) (by decide +kernel), ⟨by decide +kernel, by decide +kernel, by decide +kernel⟩, by decide⟩
theorem lX10_85 : zw_in [Cond.methodLink RX10 85 yX3_add] := zw_in_p [371] (by decide +kernel) (by decide +kernel)
theorem lX3_19 : zw_in [Cond.methodLink RX3 19 yX3_lettersTold] := zw_in_p [375] (by decide +kernel) (by decide +kernel)
theorem lX3_23 : zw_in [Cond.methodLink RX3 23 yX3_codeAt] := zw_in_p [378] (by decide +kernel) (by decide +kernel)
theorem lX10_89 : zw_in [Cond.methodLink RX10 89 yX3_length] := zw_in_p [386] (by decide +kernel) (by decide +kernel)
theorem lX10_93 : zw_in [Cond.methodLink RX10 93 yX3_clear] := zw_in_p [390] (by decide +kernel) (by decide +kernel)
theorem lX10_96 : zw_in [Cond.methodLink RX10 96 yX4_faultIn] := zw_in_p [398] (by decide +kernel) (by decide +kernel)
theorem lX4_22 : zw_in [Cond.methodLink RX4 22 yX3_length] := zw_in_p [402] (by decide +kernel) (by decide +kernel)
theorem lX4_31 : zw_in [Cond.methodLink RX4 31 yX3_letter] := zw_in_p [403] (by decide +kernel) (by decide +kernel)
theorem lX4_35 : zw_in [Cond.methodLink RX4 35 yX4_takes] := zw_in_p [407] (by decide +kernel) (by decide +kernel)
theorem lX4_39 : zw_in [Cond.methodLink RX4 39 yX4_endsRow] := zw_in_p [411] (by decide +kernel) (by decide +kernel)
theorem lX10_100 : zw_in [Cond.methodLink RX10 100 yX3_wayFault] := zw_in_p [415] (by decide +kernel) (by decide +kernel)
theorem lX3_33 : zw_in [Cond.methodLink RX3 33 yX3_wayAt] := zw_in_p [419] (by decide +kernel) (by decide +kernel)
theorem lX3_37 : zw_in [Cond.methodLink RX3 37 yX3_letter] := zw_in_p [423] (by decide +kernel) (by decide +kernel)
theorem lX10_103 : zw_in [Cond.methodLink RX10 103 yX4_isWhole] := zw_in_p [428] (by decide +kernel) (by decide +kernel)
theorem lX4_18 : zw_in [Cond.methodLink RX4 18 yX4_faultIn] := zw_in_p [432] (by decide +kernel) (by decide +kernel)
theorem lX10_107 : zw_in [Cond.methodLink RX10 107 yX4_rows] := zw_in_p [433] (by decide +kernel) (by decide +kernel)
theorem lX10_110 : zw_in [Cond.methodLink RX10 110 yX4_columns] := zw_in_p [437] (by decide +kernel) (by decide +kernel)
theorem lX10_113 : zw_in [Cond.methodLink RX10 113 yX1_read] := zw_in_p [441] (by decide +kernel) (by decide +kernel)
theorem lX1_34 : zw_in [Cond.methodLink RX1 34 yX3_length] := zw_in_p [445] (by decide +kernel) (by decide +kernel)
theorem lX1_40 : zw_in [Cond.methodLink RX1 40 yX3_letter] := zw_in_p [446] (by decide +kernel) (by decide +kernel)
theorem lX1_44 : zw_in [Cond.methodLink RX1 44 yX1_addSquare] := zw_in_p [447] (by decide +kernel) (by decide +kernel)
theorem lX1_48 : zw_in [Cond.methodLink RX1 48 yX1_fromCentre] := zw_in_p [451] (by decide +kernel) (by decide +kernel)
theorem lX10_117 : zw_in [Cond.methodLink RX10 117 yX8_clear] := zw_in_p [454] (by decide +kernel) (by decide +kernel)
theorem lX10_122 : zw_in [Cond.methodLink RX10 122 yX1_squares] := zw_in_p [458] (by decide +kernel) (by decide +kernel)
theorem lX10_125 : zw_in [Cond.methodLink RX10 125 yX1_has] := zw_in_p [466] (by decide +kernel) (by decide +kernel)
theorem lX10_130 : zw_in [Cond.methodLink RX10 130 yX1_height] := zw_in_p [471] (by decide +kernel) (by decide +kernel)
theorem lX1_52 : zw_in [Cond.methodLink RX1 52 yX1_has] := zw_in_p [475] (by decide +kernel) (by decide +kernel)
theorem lX10_134 : zw_in [Cond.methodLink RX10 134 yX1_east] := zw_in_p [476] (by decide +kernel) (by decide +kernel)
theorem lX10_137 : zw_in [Cond.methodLink RX10 137 yX1_south] := zw_in_p [480] (by decide +kernel) (by decide +kernel)
theorem lX10_141 : zw_in [Cond.methodLink RX10 141 yX10_isKind] := zw_in_p [489] (by decide +kernel) (by decide +kernel)
theorem lX10_144 : zw_in [Cond.methodLink RX10 144 yX10_isWeight] := zw_in_p [492] (by decide +kernel) (by decide +kernel)
theorem lX10_147 : zw_in [Cond.methodLink RX10 147 yX8_add] := zw_in_p [495] (by decide +kernel) (by decide +kernel)
theorem lX8_31 : zw_in [Cond.methodLink RX8 31 yX8_moveAllDay] := zw_in_p [499] (by decide +kernel) (by decide +kernel)
theorem lX8_59 : zw_in [Cond.methodLink RX8 59 yX8_move] := zw_in_p [503] (by decide +kernel) (by decide +kernel)
theorem lX8_35 : zw_in [Cond.methodLink RX8 35 yX8_has] := zw_in_p [507] (by decide +kernel) (by decide +kernel)
theorem lX10_150 : zw_in [Cond.methodLink RX10 150 yX8_has] := zw_in_p [518] (by decide +kernel) (by decide +kernel)
theorem lX10_151 : zw_in [Cond.methodLink RX10 151 yX10_asksPlace] := zw_in_p [519] (by decide +kernel) (by decide +kernel)
theorem lX10_154 : zw_in [Cond.methodLink RX10 154 yX8_place] := zw_in_p [522] (by decide +kernel) (by decide +kernel)
theorem lX10_158 : zw_in [Cond.methodLink RX10 158 yX8_kind] := zw_in_p [526] (by decide +kernel) (by decide +kernel)
theorem lX10_161 : zw_in [Cond.methodLink RX10 161 yX8_weight] := zw_in_p [530] (by decide +kernel) (by decide +kernel)
theorem lX10_164 : zw_in [Cond.methodLink RX10 164 yX8_weighs] := zw_in_p [534] (by decide +kernel) (by decide +kernel)
theorem lX10_167 : zw_in [Cond.methodLink RX10 167 yX8_isA] := zw_in_p [542] (by decide +kernel) (by decide +kernel)
theorem lX8_39 : zw_in [Cond.methodLink RX8 39 yX8_kind] := zw_in_p [546] (by decide +kernel) (by decide +kernel)
theorem lX10_171 : zw_in [Cond.methodLink RX10 171 yX10_isQuarter] := zw_in_p [551] (by decide +kernel) (by decide +kernel)
theorem lX10_174 : zw_in [Cond.methodLink RX10 174 yX8_move] := zw_in_p [552] (by decide +kernel) (by decide +kernel)
theorem lX10_178 : zw_in [Cond.methodLink RX10 178 yX8_moveAllDay] := zw_in_p [557] (by decide +kernel) (by decide +kernel)
theorem lX10_182 : zw_in [Cond.methodLink RX10 182 yX0_leanEast] := zw_in_p [566] (by decide +kernel) (by decide +kernel)
theorem lX0_26 : zw_in [Cond.methodLink RX0 26 yX8_size] := zw_in_p [570] (by decide +kernel) (by decide +kernel)
theorem lX0_32 : zw_in [Cond.methodLink RX0 32 yX8_weighs] := zw_in_p [574] (by decide +kernel) (by decide +kernel)
theorem lX0_36 : zw_in [Cond.methodLink RX0 36 yX8_place] := zw_in_p [575] (by decide +kernel) (by decide +kernel)
theorem lX0_40 : zw_in [Cond.methodLink RX0 40 yX1_east] := zw_in_p [576] (by decide +kernel) (by decide +kernel)
theorem lX10_185 : zw_in [Cond.methodLink RX10 185 yX0_leanSouth] := zw_in_p [577] (by decide +kernel) (by decide +kernel)
theorem lX0_45 : zw_in [Cond.methodLink RX0 45 yX1_south] := zw_in_p [581] (by decide +kernel) (by decide +kernel)
theorem lX10_189 : zw_in [Cond.methodLink RX10 189 yX1_dipOf] := zw_in_p [587] (by decide +kernel) (by decide +kernel)
theorem lX10_192 : zw_in [Cond.methodLink RX10 192 yX0_wetIn] := zw_in_p [595] (by decide +kernel) (by decide +kernel)
theorem lX0_48 : zw_in [Cond.methodLink RX0 48 yX0_leanEast] := zw_in_p [599] (by decide +kernel) (by decide +kernel)
theorem lX0_51 : zw_in [Cond.methodLink RX0 51 yX0_leanSouth] := zw_in_p [600] (by decide +kernel) (by decide +kernel)
theorem lX0_54 : zw_in [Cond.methodLink RX0 54 yX1_wetDoors] := zw_in_p [601] (by decide +kernel) (by decide +kernel)
theorem lX10_195 : zw_in [Cond.methodLink RX10 195 yX1_isThere] := zw_in_p [609] (by decide +kernel) (by decide +kernel)
theorem lX10_199 : zw_in [Cond.methodLink RX10 199 yX8_people] := zw_in_p [613] (by decide +kernel) (by decide +kernel)
theorem lX8_43 : zw_in [Cond.methodLink RX8 43 yX8_peopleBits] := zw_in_p [617] (by decide +kernel) (by decide +kernel)
theorem lX8_52 : zw_in [Cond.methodLink RX8 52 yX8_isA] := zw_in_p [621] (by decide +kernel) (by decide +kernel)
theorem lX8_47 : zw_in [Cond.methodLink RX8 47 yJ6_bitCount_0f7a4] := zw_in_p [622] (by decide +kernel) (by decide +kernel)
theorem lX10_205 : zw_in [Cond.methodLink RX10 205 yX9_search] := zw_in_p [628] (by decide +kernel) (by decide +kernel)
theorem lX9_50 : zw_in [Cond.methodLink RX9 50 yX0_leanEast] := zw_in_p [632] (by decide +kernel) (by decide +kernel)
theorem lX9_56 : zw_in [Cond.methodLink RX9 56 yX0_leanSouth] := zw_in_p [633] (by decide +kernel) (by decide +kernel)
theorem lX9_59 : zw_in [Cond.methodLink RX9 59 yX8_size] := zw_in_p [634] (by decide +kernel) (by decide +kernel)
theorem lX9_64 : zw_in [Cond.methodLink RX9 64 yX8_isA] := zw_in_p [635] (by decide +kernel) (by decide +kernel)
theorem lX9_68 : zw_in [Cond.methodLink RX9 68 yX8_place] := zw_in_p [636] (by decide +kernel) (by decide +kernel)
theorem lX9_72 : zw_in [Cond.methodLink RX9 72 yX8_weighs] := zw_in_p [637] (by decide +kernel) (by decide +kernel)
theorem lX9_75 : zw_in [Cond.methodLink RX9 75 yX1_east] := zw_in_p [638] (by decide +kernel) (by decide +kernel)
theorem lX9_80 : zw_in [Cond.methodLink RX9 80 yX1_south] := zw_in_p [639] (by decide +kernel) (by decide +kernel)
theorem lX9_83 : zw_in [Cond.methodLink RX9 83 yX9_takeSquares] := zw_in_p [640] (by decide +kernel) (by decide +kernel)
theorem lX9_87 : zw_in [Cond.methodLink RX9 87 yX9_judge] := zw_in_p [644] (by decide +kernel) (by decide +kernel)
theorem lX9_95 : zw_in [Cond.methodLink RX9 95 yX1_wetDoorsTold] := zw_in_p [648] (by decide +kernel) (by decide +kernel)
theorem lX1_56 : zw_in [Cond.methodLink RX1 56 yX1_wetDoors] := zw_in_p [652] (by decide +kernel) (by decide +kernel)
theorem lX1_59 : zw_in [Cond.methodLink RX1 59 yJ6_bitCount_0f7a4] := zw_in_p [653] (by decide +kernel) (by decide +kernel)
theorem lX9_91 : zw_in [Cond.methodLink RX9 91 yX9_takeSquareOf] := zw_in_p [657] (by decide +kernel) (by decide +kernel)
theorem lX10_209 : zw_in [Cond.methodLink RX10 209 yX9_wetDoors] := zw_in_p [661] (by decide +kernel) (by decide +kernel)
theorem lX10_212 : zw_in [Cond.methodLink RX10 212 yX9_elsewhere] := zw_in_p [665] (by decide +kernel) (by decide +kernel)
theorem lX10_215 : zw_in [Cond.methodLink RX10 215 yX9_placeOf] := zw_in_p [669] (by decide +kernel) (by decide +kernel)
theorem lX10_218 : zw_in [Cond.methodLink RX10 218 yX3_isWay] := zw_in_p [677] (by decide +kernel) (by decide +kernel)
theorem lX3_29 : zw_in [Cond.methodLink RX3 29 yX3_wayFault] := zw_in_p [681] (by decide +kernel) (by decide +kernel)
theorem lX10_221 : zw_in [Cond.methodLink RX10 221 yX5_firstGoesFrom] := zw_in_p [682] (by decide +kernel) (by decide +kernel)
theorem lX5_37 : zw_in [Cond.methodLink RX5 37 yX3_wayAt] := zw_in_p [686] (by decide +kernel) (by decide +kernel)
theorem lX5_43 : zw_in [Cond.methodLink RX5 43 yX1_step] := zw_in_p [687] (by decide +kernel) (by decide +kernel)
theorem lX10_224 : zw_in [Cond.methodLink RX10 224 yX5_search] := zw_in_p [691] (by decide +kernel) (by decide +kernel)
theorem lX5_52 : zw_in [Cond.methodLink RX5 52 yX0_weigh] := zw_in_p [695] (by decide +kernel) (by decide +kernel)
theorem lX5_57 : zw_in [Cond.methodLink RX5 57 yX1_squares] := zw_in_p [699] (by decide +kernel) (by decide +kernel)
theorem lX5_61 : zw_in [Cond.methodLink RX5 61 yX5_secondGoesFrom] := zw_in_p [700] (by decide +kernel) (by decide +kernel)
theorem lX5_49 : zw_in [Cond.methodLink RX5 49 yX5_turnedRound] := zw_in_p [704] (by decide +kernel) (by decide +kernel)
theorem lX5_65 : zw_in [Cond.methodLink RX5 65 yX5_wetDoorsWithBoth] := zw_in_p [707] (by decide +kernel) (by decide +kernel)
theorem lX5_68 : zw_in [Cond.methodLink RX5 68 yX1_east] := zw_in_p [711] (by decide +kernel) (by decide +kernel)
theorem lX5_71 : zw_in [Cond.methodLink RX5 71 yX1_south] := zw_in_p [712] (by decide +kernel) (by decide +kernel)
theorem lX5_74 : zw_in [Cond.methodLink RX5 74 yX0_wetDoorsWith] := zw_in_p [713] (by decide +kernel) (by decide +kernel)
theorem lX0_61 : zw_in [Cond.methodLink RX0 61 yX1_wetDoorsTold] := zw_in_p [718] (by decide +kernel) (by decide +kernel)
theorem lX10_225 : zw_in [Cond.methodLink RX10 225 yX5_start] := zw_in_p [719] (by decide +kernel) (by decide +kernel)
theorem lX10_228 : zw_in [Cond.methodLink RX10 228 yX5_wetDoors] := zw_in_p [723] (by decide +kernel) (by decide +kernel)
theorem lX10_232 : zw_in [Cond.methodLink RX10 232 yX7_search] := zw_in_p [731] (by decide +kernel) (by decide +kernel)
theorem lX7_30 : zw_in [Cond.methodLink RX7 30 yX0_weigh] := zw_in_p [735] (by decide +kernel) (by decide +kernel)
theorem lX7_35 : zw_in [Cond.methodLink RX7 35 yX7_measureRooms] := zw_in_p [736] (by decide +kernel) (by decide +kernel)
theorem lX7_85 : zw_in [Cond.methodLink RX7 85 yX1_height] := zw_in_p [740] (by decide +kernel) (by decide +kernel)
theorem lX7_89 : zw_in [Cond.methodLink RX7 89 yX0_greatestDip] := zw_in_p [742] (by decide +kernel) (by decide +kernel)
theorem lX0_64 : zw_in [Cond.methodLink RX0 64 yX1_dipOf] := zw_in_p [746] (by decide +kernel) (by decide +kernel)
theorem lX7_38 : zw_in [Cond.methodLink RX7 38 yX7_movesKeepDry] := zw_in_p [750] (by decide +kernel) (by decide +kernel)
theorem lX7_42 : zw_in [Cond.methodLink RX7 42 yX7_isDryWith] := zw_in_p [754] (by decide +kernel) (by decide +kernel)
theorem lX7_92 : zw_in [Cond.methodLink RX7 92 yX7_isWetWith] := zw_in_p [758] (by decide +kernel) (by decide +kernel)
theorem lX7_96 : zw_in [Cond.methodLink RX7 96 yX1_has] := zw_in_p [762] (by decide +kernel) (by decide +kernel)
theorem lX7_100 : zw_in [Cond.methodLink RX7 100 yX1_dipOf] := zw_in_p [763] (by decide +kernel) (by decide +kernel)
theorem lX7_74 : zw_in [Cond.methodLink RX7 74 yX1_squares] := zw_in_p [764] (by decide +kernel) (by decide +kernel)
theorem lX7_46 : zw_in [Cond.methodLink RX7 46 yX8_size] := zw_in_p [765] (by decide +kernel) (by decide +kernel)
theorem lX7_52 : zw_in [Cond.methodLink RX7 52 yX8_isA] := zw_in_p [766] (by decide +kernel) (by decide +kernel)
theorem lX7_55 : zw_in [Cond.methodLink RX7 55 yX7_moveOfKeepsDry] := zw_in_p [767] (by decide +kernel) (by decide +kernel)
theorem lX7_58 : zw_in [Cond.methodLink RX7 58 yX8_place] := zw_in_p [771] (by decide +kernel) (by decide +kernel)
theorem lX7_62 : zw_in [Cond.methodLink RX7 62 yX8_weighs] := zw_in_p [772] (by decide +kernel) (by decide +kernel)
theorem lX7_66 : zw_in [Cond.methodLink RX7 66 yX1_east] := zw_in_p [773] (by decide +kernel) (by decide +kernel)
theorem lX7_71 : zw_in [Cond.methodLink RX7 71 yX1_south] := zw_in_p [774] (by decide +kernel) (by decide +kernel)
theorem lX7_77 : zw_in [Cond.methodLink RX7 77 yX7_keepMove] := zw_in_p [775] (by decide +kernel) (by decide +kernel)
theorem lX10_234 : zw_in [Cond.methodLink RX10 234 yX7_found] := zw_in_p [779] (by decide +kernel) (by decide +kernel)
theorem lX10_237 : zw_in [Cond.methodLink RX10 237 yX0_driestSquareFor] := zw_in_p [787] (by decide +kernel) (by decide +kernel)
theorem lX0_73 : zw_in [Cond.methodLink RX0 73 yX0_weigh] := zw_in_p [791] (by decide +kernel) (by decide +kernel)
theorem lX0_76 : zw_in [Cond.methodLink RX0 76 yX1_squares] := zw_in_p [792] (by decide +kernel) (by decide +kernel)
theorem lX0_79 : zw_in [Cond.methodLink RX0 79 yX0_wetDoorsAllDayWith] := zw_in_p [793] (by decide +kernel) (by decide +kernel)
theorem lX0_82 : zw_in [Cond.methodLink RX0 82 yX0_wetDoorsWith] := zw_in_p [797] (by decide +kernel) (by decide +kernel)
theorem lX10_240 : zw_in [Cond.methodLink RX10 240 yX1_hasAll] := zw_in_p [802] (by decide +kernel) (by decide +kernel)
theorem lX10_243 : zw_in [Cond.methodLink RX10 243 yX2_search] := zw_in_p [806] (by decide +kernel) (by decide +kernel)
theorem lX2_33 : zw_in [Cond.methodLink RX2 33 yX2_measureChanges] := zw_in_p [810] (by decide +kernel) (by decide +kernel)
theorem lX2_56 : zw_in [Cond.methodLink RX2 56 yX8_place] := zw_in_p [814] (by decide +kernel) (by decide +kernel)
theorem lX2_60 : zw_in [Cond.methodLink RX2 60 yX8_weighs] := zw_in_p [815] (by decide +kernel) (by decide +kernel)
theorem lX2_63 : zw_in [Cond.methodLink RX2 63 yX1_east] := zw_in_p [816] (by decide +kernel) (by decide +kernel)
theorem lX2_68 : zw_in [Cond.methodLink RX2 68 yX1_south] := zw_in_p [817] (by decide +kernel) (by decide +kernel)
theorem lX2_37 : zw_in [Cond.methodLink RX2 37 yX8_peopleBits] := zw_in_p [818] (by decide +kernel) (by decide +kernel)
theorem lX2_43 : zw_in [Cond.methodLink RX2 43 yX0_leanEast] := zw_in_p [819] (by decide +kernel) (by decide +kernel)
theorem lX2_49 : zw_in [Cond.methodLink RX2 49 yX0_leanSouth] := zw_in_p [820] (by decide +kernel) (by decide +kernel)
theorem lX2_52 : zw_in [Cond.methodLink RX2 52 yX2_wetDoorsIfLate] := zw_in_p [821] (by decide +kernel) (by decide +kernel)
theorem lX2_71 : zw_in [Cond.methodLink RX2 71 yX1_wetDoors] := zw_in_p [825] (by decide +kernel) (by decide +kernel)
theorem lX10_245 : zw_in [Cond.methodLink RX10 245 yX2_found] := zw_in_p [826] (by decide +kernel) (by decide +kernel)
theorem lX10_246 : zw_in [Cond.methodLink RX10 246 yX6_dryMinuteOfStorm] := zw_in_p [834] (by decide +kernel) (by decide +kernel)
theorem lX6_52 : zw_in [Cond.methodLink RX6 52 yX6_standAsIn] := zw_in_p [838] (by decide +kernel) (by decide +kernel)
theorem lX6_33 : zw_in [Cond.methodLink RX6 33 yX8_place] := zw_in_p [842] (by decide +kernel) (by decide +kernel)
theorem lX6_56 : zw_in [Cond.methodLink RX6 56 yX6_isSomeDoorWet] := zw_in_p [843] (by decide +kernel) (by decide +kernel)
theorem lX6_37 : zw_in [Cond.methodLink RX6 37 yX8_weighs] := zw_in_p [847] (by decide +kernel) (by decide +kernel)
theorem lX6_41 : zw_in [Cond.methodLink RX6 41 yX1_east] := zw_in_p [848] (by decide +kernel) (by decide +kernel)
theorem lX6_46 : zw_in [Cond.methodLink RX6 46 yX1_south] := zw_in_p [849] (by decide +kernel) (by decide +kernel)
theorem lX6_49 : zw_in [Cond.methodLink RX6 49 yX1_wetDoors] := zw_in_p [850] (by decide +kernel) (by decide +kernel)
theorem lX6_60 : zw_in [Cond.methodLink RX6 60 yX6_peopleGoToMiddle] := zw_in_p [851] (by decide +kernel) (by decide +kernel)
theorem lX6_63 : zw_in [Cond.methodLink RX6 63 yX8_isA] := zw_in_p [855] (by decide +kernel) (by decide +kernel)
theorem lX6_67 : zw_in [Cond.methodLink RX6 67 yX1_towardsMiddle] := zw_in_p [856] (by decide +kernel) (by decide +kernel)
theorem lX1_64 : zw_in [Cond.methodLink RX1 64 yX1_south] := zw_in_p [860] (by decide +kernel) (by decide +kernel)
theorem lX1_67 : zw_in [Cond.methodLink RX1 67 yX1_east] := zw_in_p [861] (by decide +kernel) (by decide +kernel)
theorem lX1_70 : zw_in [Cond.methodLink RX1 70 yX1_step] := zw_in_p [862] (by decide +kernel) (by decide +kernel)
theorem lX10_249 : zw_in [Cond.methodLink RX10 249 yX7_wetYear] := zw_in_p [867] (by decide +kernel) (by decide +kernel)
theorem lX10_252 : zw_in [Cond.methodLink RX10 252 yX6_stray] := zw_in_p [875] (by decide +kernel) (by decide +kernel)
theorem lX6_70 : zw_in [Cond.methodLink RX6 70 yX6_cowsGoAstray] := zw_in_p [879] (by decide +kernel) (by decide +kernel)
theorem lX6_73 : zw_in [Cond.methodLink RX6 73 yX6_drawOfACow] := zw_in_p [883] (by decide +kernel) (by decide +kernel)
theorem lX6_77 : zw_in [Cond.methodLink RX6 77 yX1_step] := zw_in_p [892] (by decide +kernel) (by decide +kernel)
theorem lX10_255 : zw_in [Cond.methodLink RX10 255 yX6_seed] := zw_in_p [893] (by decide +kernel) (by decide +kernel)
theorem lX10_258 : zw_in [Cond.methodLink RX10 258 yX6_placeOf] := zw_in_p [897] (by decide +kernel) (by decide +kernel)
theorem lX6_23 : zw_in [Cond.methodLink RX6 23 yX8_has] := zw_in_p [901] (by decide +kernel) (by decide +kernel)
theorem lX10_259 : zw_in [Cond.methodLink RX10 259 yX8_keep] := zw_in_p [906] (by decide +kernel) (by decide +kernel)
theorem lX10_262 : zw_in [Cond.methodLink RX10 262 yX8_size] := zw_in_p [911] (by decide +kernel) (by decide +kernel)
theorem lX10_265 : zw_in [Cond.methodLink RX10 265 yX8_isKept] := zw_in_p [916] (by decide +kernel) (by decide +kernel)
theorem lX10_268 : zw_in [Cond.methodLink RX10 268 yX8_goBack] := zw_in_p [920] (by decide +kernel) (by decide +kernel)
theorem lX10_271 : zw_in [Cond.methodLink RX10 271 yX1_doors] := zw_in_p [928] (by decide +kernel) (by decide +kernel)
theorem lX10_276 : zw_in [Cond.methodLink RX10 276 yX10_digested] := zw_in_p [937] (by decide +kernel) (by decide +kernel)
theorem lX10_280 : zw_in [Cond.methodLink RX10 280 yX10_digestedThing] := zw_in_p [941] (by decide +kernel) (by decide +kernel)
theorem lX10_283 : zw_in [Cond.methodLink RX10 283 yX10_digestedFindings] := zw_in_p [945] (by decide +kernel) (by decide +kernel)
theorem lX10_287 : zw_in [Cond.methodLink RX10 287 yX3_letter] := zw_in_p [949] (by decide +kernel) (by decide +kernel)
theorem lX10_290 : zw_in [Cond.methodLink RX10 290 yX10_count] := zw_in_p [950] (by decide +kernel) (by decide +kernel)
theorem lX11_65 : zw_in [Cond.methodLink RX11 65 yX11_within] := zw_in_p [1092] (by decide +kernel) (by decide +kernel)
theorem lX11_80 : zw_in [Cond.methodLink RX11 80 yX11_readPlan] := zw_in_p [1095] (by decide +kernel) (by decide +kernel)
theorem lX11_83 : zw_in [Cond.methodLink RX11 83 yX11_readWay] := zw_in_p [1099] (by decide +kernel) (by decide +kernel)
theorem lX11_76 : zw_in [Cond.methodLink RX11 76 yX11_wayBy] := zw_in_p [1103] (by decide +kernel) (by decide +kernel)
theorem lX11_101 : zw_in [Cond.methodLink RX11 101 yX11_isSquare] := zw_in_p [1114] (by decide +kernel) (by decide +kernel)
theorem lX11_107 : zw_in [Cond.methodLink RX11 107 yX11_eastOf] := zw_in_p [1120] (by decide +kernel) (by decide +kernel)
theorem lX11_110 : zw_in [Cond.methodLink RX11 110 yX11_southOf] := zw_in_p [1124] (by decide +kernel) (by decide +kernel)
theorem lX11_113 : zw_in [Cond.methodLink RX11 113 yX11_isThing] := zw_in_p [1136] (by decide +kernel) (by decide +kernel)
theorem lX11_116 : zw_in [Cond.methodLink RX11 116 yX11_weighs] := zw_in_p [1140] (by decide +kernel) (by decide +kernel)
theorem lX11_119 : zw_in [Cond.methodLink RX11 119 yX11_isQuarter] := zw_in_p [1152] (by decide +kernel) (by decide +kernel)
theorem lX11_122 : zw_in [Cond.methodLink RX11 122 yX11_isPerson] := zw_in_p [1155] (by decide +kernel) (by decide +kernel)
theorem lX11_125 : zw_in [Cond.methodLink RX11 125 yX11_putAt] := zw_in_p [1163] (by decide +kernel) (by decide +kernel)
theorem lX11_138 : zw_in [Cond.methodLink RX11 138 yX11_leanOf] := zw_in_p [1175] (by decide +kernel) (by decide +kernel)
theorem lX11_143 : zw_in [Cond.methodLink RX11 143 yX11_wetIn] := zw_in_p [1188] (by decide +kernel) (by decide +kernel)
theorem lX11_158 : zw_in [Cond.methodLink RX11 158 yX11_peopleMany] := zw_in_p [1196] (by decide +kernel) (by decide +kernel)
theorem lX11_176 : zw_in [Cond.methodLink RX11 176 yX11_tradesNow] := zw_in_p [1200] (by decide +kernel) (by decide +kernel)
theorem lX11_162 : zw_in [Cond.methodLink RX11 162 yX11_layPeople] := zw_in_p [1204] (by decide +kernel) (by decide +kernel)
theorem lX11_167 : zw_in [Cond.methodLink RX11 167 yX11_tryTrade] := zw_in_p [1209] (by decide +kernel) (by decide +kernel)
theorem lX11_146 : zw_in [Cond.methodLink RX11 146 yX11_size] := zw_in_p [1213] (by decide +kernel) (by decide +kernel)
theorem lX11_170 : zw_in [Cond.methodLink RX11 170 yX11_nextTakes] := zw_in_p [1216] (by decide +kernel) (by decide +kernel)
theorem lX11_149 : zw_in [Cond.methodLink RX11 149 yX11_exchange] := zw_in_p [1220] (by decide +kernel) (by decide +kernel)
theorem lX11_183 : zw_in [Cond.methodLink RX11 183 yX11_layWay] := zw_in_p [1228] (by decide +kernel) (by decide +kernel)
theorem lX11_180 : zw_in [Cond.methodLink RX11 180 yX11_besideOf] := zw_in_p [1232] (by decide +kernel) (by decide +kernel)
theorem lX11_187 : zw_in [Cond.methodLink RX11 187 yX11_wetWith] := zw_in_p [1236] (by decide +kernel) (by decide +kernel)
theorem lX11_215 : zw_in [Cond.methodLink RX11 215 yX11_stonesNow] := zw_in_p [1244] (by decide +kernel) (by decide +kernel)
theorem lX11_190 : zw_in [Cond.methodLink RX11 190 yX11_isDry] := zw_in_p [1248] (by decide +kernel) (by decide +kernel)
theorem lX11_200 : zw_in [Cond.methodLink RX11 200 yX11_helpsFrom] := zw_in_p [1252] (by decide +kernel) (by decide +kernel)
theorem lX11_209 : zw_in [Cond.methodLink RX11 209 yX11_helpTwo] := zw_in_p [1256] (by decide +kernel) (by decide +kernel)
theorem lX11_221 : zw_in [Cond.methodLink RX11 221 yX11_siteNow] := zw_in_p [1264] (by decide +kernel) (by decide +kernel)
theorem lX11_218 : zw_in [Cond.methodLink RX11 218 yX11_wetAll] := zw_in_p [1268] (by decide +kernel) (by decide +kernel)
theorem lX11_228 : zw_in [Cond.methodLink RX11 228 yX11_lateNow] := zw_in_p [1276] (by decide +kernel) (by decide +kernel)
theorem lX11_224 : zw_in [Cond.methodLink RX11 224 yX11_has] := zw_in_p [1280] (by decide +kernel) (by decide +kernel)
theorem lX11_241 : zw_in [Cond.methodLink RX11 241 yX11_stormNow] := zw_in_p [1287] (by decide +kernel) (by decide +kernel)
theorem lX11_232 : zw_in [Cond.methodLink RX11 232 yX11_keepStands] := zw_in_p [1291] (by decide +kernel) (by decide +kernel)
theorem lX11_235 : zw_in [Cond.methodLink RX11 235 yX11_toMiddle] := zw_in_p [1295] (by decide +kernel) (by decide +kernel)
theorem lX11_238 : zw_in [Cond.methodLink RX11 238 yX11_putStands] := zw_in_p [1299] (by decide +kernel) (by decide +kernel)
theorem lX11_244 : zw_in [Cond.methodLink RX11 244 yX11_mossNow] := zw_in_p [1307] (by decide +kernel) (by decide +kernel)
theorem lX11_265 : zw_in [Cond.methodLink RX11 265 yX11_cowsNow] := zw_in_p [1315] (by decide +kernel) (by decide +kernel)
theorem lX11_262 : zw_in [Cond.methodLink RX11 262 yX11_stray] := zw_in_p [1319] (by decide +kernel) (by decide +kernel)
theorem lX11_259 : zw_in [Cond.methodLink RX11 259 yX11_draw] := zw_in_p [1323] (by decide +kernel) (by decide +kernel)
theorem lX11_281 : zw_in [Cond.methodLink RX11 281 yX11_howMany] := zw_in_p [1343] (by decide +kernel) (by decide +kernel)
theorem lX11_278 : zw_in [Cond.methodLink RX11 278 yX11_doorMany] := zw_in_p [1347] (by decide +kernel) (by decide +kernel)
theorem lX11_289 : zw_in [Cond.methodLink RX11 289 yX11_mix] := zw_in_p [1356] (by decide +kernel) (by decide +kernel)
theorem lX11_295 : zw_in [Cond.methodLink RX11 295 yX11_mixThing] := zw_in_p [1361] (by decide +kernel) (by decide +kernel)
theorem fX3_9 : zw_F RX3 9 1 0 (some (some 2)) (tyX3 0) true := ⟨3, RX3, TX3, 2, tyX3, _, oX3, by decide, zw_in_p (ws := [Cond.fieldLink RX3 9 (TX3 0).1 (TX3 0).2.1 (TX3 0).2.2.1]) [93] (by decide +kernel) (by decide +kernel) _ List.mem_cons_self, rfl, rfl, rfl, rfl⟩
theorem fX3_15 : zw_F RX3 15 1 1 (none) (tyX3 1) false := ⟨3, RX3, TX3, 2, tyX3, _, oX3, by decide, zw_in_p (ws := [Cond.fieldLink RX3 15 (TX3 1).1 (TX3 1).2.1 (TX3 1).2.2.1]) [94] (by decide +kernel) (by decide +kernel) _ List.mem_cons_self, rfl, rfl, rfl, rfl⟩
theorem fX4_9 : zw_F RX4 9 3 0 (none) (tyX4 0) false := ⟨4, RX4, TX4, 3, tyX4, _, oX4, by decide, zw_in_p (ws := [Cond.fieldLink RX4 9 (TX4 0).1 (TX4 0).2.1 (TX4 0).2.2.1]) [107] (by decide +kernel) (by decide +kernel) _ List.mem_cons_self, rfl, rfl, rfl, rfl⟩
theorem fX4_15 : zw_F RX4 15 3 1 (none) (tyX4 1) false := ⟨4, RX4, TX4, 3, tyX4, _, oX4, by decide, zw_in_p (ws := [Cond.fieldLink RX4 15 (TX4 1).1 (TX4 1).2.1 (TX4 1).2.2.1]) [108] (by decide +kernel) (by decide +kernel) _ List.mem_cons_self, rfl, rfl, rfl, rfl⟩
theorem fX4_28 : zw_F RX4 28 3 2 (none) (tyX4 2) false := ⟨4, RX4, TX4, 3, tyX4, _, oX4, by decide, zw_in_p (ws := [Cond.fieldLink RX4 28 (TX4 2).1 (TX4 2).2.1 (TX4 2).2.2.1]) [109] (by decide +kernel) (by decide +kernel) _ List.mem_cons_self, rfl, rfl, rfl, rfl⟩
theorem fX1_9 : zw_F RX1 9 4 0 (some (some 5)) (tyX1 0) true := ⟨1, RX1, TX1, 7, tyX1, _, oX1, by decide, zw_in_p (ws := [Cond.fieldLink RX1 9 (TX1 0).1 (TX1 0).2.1 (TX1 0).2.2.1]) [123] (by decide +kernel) (by decide +kernel) _ List.mem_cons_self, rfl, rfl, rfl, rfl⟩
theorem fX1_15 : zw_F RX1 15 4 1 (some (some 6)) (tyX1 1) true := ⟨1, RX1, TX1, 7, tyX1, _, oX1, by decide, zw_in_p (ws := [Cond.fieldLink RX1 15 (TX1 1).1 (TX1 1).2.1 (TX1 1).2.2.1]) [124] (by decide +kernel) (by decide +kernel) _ List.mem_cons_self, rfl, rfl, rfl, rfl⟩
theorem fX1_18 : zw_F RX1 18 4 2 (some (some 7)) (tyX1 2) true := ⟨1, RX1, TX1, 7, tyX1, _, oX1, by decide, zw_in_p (ws := [Cond.fieldLink RX1 18 (TX1 2).1 (TX1 2).2.1 (TX1 2).2.2.1]) [125] (by decide +kernel) (by decide +kernel) _ List.mem_cons_self, rfl, rfl, rfl, rfl⟩
theorem fX1_21 : zw_F RX1 21 4 3 (none) (tyX1 3) false := ⟨1, RX1, TX1, 7, tyX1, _, oX1, by decide, zw_in_p (ws := [Cond.fieldLink RX1 21 (TX1 3).1 (TX1 3).2.1 (TX1 3).2.2.1]) [126] (by decide +kernel) (by decide +kernel) _ List.mem_cons_self, rfl, rfl, rfl, rfl⟩
theorem fX1_25 : zw_F RX1 25 4 4 (none) (tyX1 4) false := ⟨1, RX1, TX1, 7, tyX1, _, oX1, by decide, zw_in_p (ws := [Cond.fieldLink RX1 25 (TX1 4).1 (TX1 4).2.1 (TX1 4).2.2.1]) [127] (by decide +kernel) (by decide +kernel) _ List.mem_cons_self, rfl, rfl, rfl, rfl⟩
theorem fX1_28 : zw_F RX1 28 4 5 (none) (tyX1 5) false := ⟨1, RX1, TX1, 7, tyX1, _, oX1, by decide, zw_in_p (ws := [Cond.fieldLink RX1 28 (TX1 5).1 (TX1 5).2.1 (TX1 5).2.2.1]) [128] (by decide +kernel) (by decide +kernel) _ List.mem_cons_self, rfl, rfl, rfl, rfl⟩
theorem fX1_31 : zw_F RX1 31 4 6 (none) (tyX1 6) false := ⟨1, RX1, TX1, 7, tyX1, _, oX1, by decide, zw_in_p (ws := [Cond.fieldLink RX1 31 (TX1 6).1 (TX1 6).2.1 (TX1 6).2.2.1]) [129] (by decide +kernel) (by decide +kernel) _ List.mem_cons_self, rfl, rfl, rfl, rfl⟩
theorem fX8_9 : zw_F RX8 9 8 0 (some (some 9)) (tyX8 0) true := ⟨8, RX8, TX8, 6, tyX8, _, oX8, by decide, zw_in_p (ws := [Cond.fieldLink RX8 9 (TX8 0).1 (TX8 0).2.1 (TX8 0).2.2.1]) [152] (by decide +kernel) (by decide +kernel) _ List.mem_cons_self, rfl, rfl, rfl, rfl⟩
theorem fX8_15 : zw_F RX8 15 8 1 (some (some 10)) (tyX8 1) true := ⟨8, RX8, TX8, 6, tyX8, _, oX8, by decide, zw_in_p (ws := [Cond.fieldLink RX8 15 (TX8 1).1 (TX8 1).2.1 (TX8 1).2.2.1]) [153] (by decide +kernel) (by decide +kernel) _ List.mem_cons_self, rfl, rfl, rfl, rfl⟩
theorem fX8_18 : zw_F RX8 18 8 2 (some (some 11)) (tyX8 2) true := ⟨8, RX8, TX8, 6, tyX8, _, oX8, by decide, zw_in_p (ws := [Cond.fieldLink RX8 18 (TX8 2).1 (TX8 2).2.1 (TX8 2).2.2.1]) [154] (by decide +kernel) (by decide +kernel) _ List.mem_cons_self, rfl, rfl, rfl, rfl⟩
theorem fX8_21 : zw_F RX8 21 8 3 (some (some 12)) (tyX8 3) true := ⟨8, RX8, TX8, 6, tyX8, _, oX8, by decide, zw_in_p (ws := [Cond.fieldLink RX8 21 (TX8 3).1 (TX8 3).2.1 (TX8 3).2.2.1]) [155] (by decide +kernel) (by decide +kernel) _ List.mem_cons_self, rfl, rfl, rfl, rfl⟩
theorem fX8_28 : zw_F RX8 28 8 4 (none) (tyX8 4) false := ⟨8, RX8, TX8, 6, tyX8, _, oX8, by decide, zw_in_p (ws := [Cond.fieldLink RX8 28 (TX8 4).1 (TX8 4).2.1 (TX8 4).2.2.1]) [156] (by decide +kernel) (by decide +kernel) _ List.mem_cons_self, rfl, rfl, rfl, rfl⟩
theorem fX8_24 : zw_F RX8 24 8 5 (none) (tyX8 5) false := ⟨8, RX8, TX8, 6, tyX8, _, oX8, by decide, zw_in_p (ws := [Cond.fieldLink RX8 24 (TX8 5).1 (TX8 5).2.1 (TX8 5).2.2.1]) [157] (by decide +kernel) (by decide +kernel) _ List.mem_cons_self, rfl, rfl, rfl, rfl⟩
theorem fX0_18 : zw_F RX0 18 13 0 (some (some 4)) (tyX0 0) true := ⟨0, RX0, TX0, 4, tyX0, _, oX0, by decide, zw_in_p (ws := [Cond.fieldLink RX0 18 (TX0 0).1 (TX0 0).2.1 (TX0 0).2.2.1]) [177] (by decide +kernel) (by decide +kernel) _ List.mem_cons_self, rfl, rfl, rfl, rfl⟩
theorem fX0_22 : zw_F RX0 22 13 1 (some (some 8)) (tyX0 1) true := ⟨0, RX0, TX0, 4, tyX0, _, oX0, by decide, zw_in_p (ws := [Cond.fieldLink RX0 22 (TX0 1).1 (TX0 1).2.1 (TX0 1).2.2.1]) [178] (by decide +kernel) (by decide +kernel) _ List.mem_cons_self, rfl, rfl, rfl, rfl⟩
theorem fX0_9 : zw_F RX0 9 13 2 (some (some 14)) (tyX0 2) true := ⟨0, RX0, TX0, 4, tyX0, _, oX0, by decide, zw_in_p (ws := [Cond.fieldLink RX0 9 (TX0 2).1 (TX0 2).2.1 (TX0 2).2.2.1]) [179] (by decide +kernel) (by decide +kernel) _ List.mem_cons_self, rfl, rfl, rfl, rfl⟩
theorem fX0_15 : zw_F RX0 15 13 3 (some (some 15)) (tyX0 3) true := ⟨0, RX0, TX0, 4, tyX0, _, oX0, by decide, zw_in_p (ws := [Cond.fieldLink RX0 15 (TX0 3).1 (TX0 3).2.1 (TX0 3).2.2.1]) [180] (by decide +kernel) (by decide +kernel) _ List.mem_cons_self, rfl, rfl, rfl, rfl⟩
theorem fX5_18 : zw_F RX5 18 16 0 (some (some 1)) (tyX5 0) true := ⟨5, RX5, TX5, 7, tyX5, _, oX5, by decide, zw_in_p (ws := [Cond.fieldLink RX5 18 (TX5 0).1 (TX5 0).2.1 (TX5 0).2.2.1]) [196] (by decide +kernel) (by decide +kernel) _ List.mem_cons_self, rfl, rfl, rfl, rfl⟩
theorem fX5_22 : zw_F RX5 22 16 1 (some (some 4)) (tyX5 1) true := ⟨5, RX5, TX5, 7, tyX5, _, oX5, by decide, zw_in_p (ws := [Cond.fieldLink RX5 22 (TX5 1).1 (TX5 1).2.1 (TX5 1).2.2.1]) [197] (by decide +kernel) (by decide +kernel) _ List.mem_cons_self, rfl, rfl, rfl, rfl⟩
theorem fX5_26 : zw_F RX5 26 16 2 (some (some 13)) (tyX5 2) true := ⟨5, RX5, TX5, 7, tyX5, _, oX5, by decide, zw_in_p (ws := [Cond.fieldLink RX5 26 (TX5 2).1 (TX5 2).2.1 (TX5 2).2.2.1]) [198] (by decide +kernel) (by decide +kernel) _ List.mem_cons_self, rfl, rfl, rfl, rfl⟩
theorem fX5_9 : zw_F RX5 9 16 3 (some (some 17)) (tyX5 3) true := ⟨5, RX5, TX5, 7, tyX5, _, oX5, by decide, zw_in_p (ws := [Cond.fieldLink RX5 9 (TX5 3).1 (TX5 3).2.1 (TX5 3).2.2.1]) [199] (by decide +kernel) (by decide +kernel) _ List.mem_cons_self, rfl, rfl, rfl, rfl⟩
theorem fX5_15 : zw_F RX5 15 16 4 (some (some 18)) (tyX5 4) true := ⟨5, RX5, TX5, 7, tyX5, _, oX5, by decide, zw_in_p (ws := [Cond.fieldLink RX5 15 (TX5 4).1 (TX5 4).2.1 (TX5 4).2.2.1]) [200] (by decide +kernel) (by decide +kernel) _ List.mem_cons_self, rfl, rfl, rfl, rfl⟩
theorem fX5_30 : zw_F RX5 30 16 5 (none) (tyX5 5) false := ⟨5, RX5, TX5, 7, tyX5, _, oX5, by decide, zw_in_p (ws := [Cond.fieldLink RX5 30 (TX5 5).1 (TX5 5).2.1 (TX5 5).2.2.1]) [201] (by decide +kernel) (by decide +kernel) _ List.mem_cons_self, rfl, rfl, rfl, rfl⟩
theorem fX5_34 : zw_F RX5 34 16 6 (none) (tyX5 6) false := ⟨5, RX5, TX5, 7, tyX5, _, oX5, by decide, zw_in_p (ws := [Cond.fieldLink RX5 34 (TX5 6).1 (TX5 6).2.1 (TX5 6).2.2.1]) [202] (by decide +kernel) (by decide +kernel) _ List.mem_cons_self, rfl, rfl, rfl, rfl⟩
theorem fX9_24 : zw_F RX9 24 19 0 (some (some 4)) (tyX9 0) true := ⟨9, RX9, TX9, 11, tyX9, _, oX9, by decide, zw_in_p (ws := [Cond.fieldLink RX9 24 (TX9 0).1 (TX9 0).2.1 (TX9 0).2.2.1]) [224] (by decide +kernel) (by decide +kernel) _ List.mem_cons_self, rfl, rfl, rfl, rfl⟩
theorem fX9_28 : zw_F RX9 28 19 1 (some (some 8)) (tyX9 1) true := ⟨9, RX9, TX9, 11, tyX9, _, oX9, by decide, zw_in_p (ws := [Cond.fieldLink RX9 28 (TX9 1).1 (TX9 1).2.1 (TX9 1).2.2.1]) [225] (by decide +kernel) (by decide +kernel) _ List.mem_cons_self, rfl, rfl, rfl, rfl⟩
theorem fX9_32 : zw_F RX9 32 19 2 (some (some 13)) (tyX9 2) true := ⟨9, RX9, TX9, 11, tyX9, _, oX9, by decide, zw_in_p (ws := [Cond.fieldLink RX9 32 (TX9 2).1 (TX9 2).2.1 (TX9 2).2.2.1]) [226] (by decide +kernel) (by decide +kernel) _ List.mem_cons_self, rfl, rfl, rfl, rfl⟩
theorem fX9_9 : zw_F RX9 9 19 3 (some (some 20)) (tyX9 3) true := ⟨9, RX9, TX9, 11, tyX9, _, oX9, by decide, zw_in_p (ws := [Cond.fieldLink RX9 9 (TX9 3).1 (TX9 3).2.1 (TX9 3).2.2.1]) [227] (by decide +kernel) (by decide +kernel) _ List.mem_cons_self, rfl, rfl, rfl, rfl⟩
theorem fX9_15 : zw_F RX9 15 19 4 (some (some 21)) (tyX9 4) true := ⟨9, RX9, TX9, 11, tyX9, _, oX9, by decide, zw_in_p (ws := [Cond.fieldLink RX9 15 (TX9 4).1 (TX9 4).2.1 (TX9 4).2.2.1]) [228] (by decide +kernel) (by decide +kernel) _ List.mem_cons_self, rfl, rfl, rfl, rfl⟩
theorem fX9_18 : zw_F RX9 18 19 5 (some (some 22)) (tyX9 5) true := ⟨9, RX9, TX9, 11, tyX9, _, oX9, by decide, zw_in_p (ws := [Cond.fieldLink RX9 18 (TX9 5).1 (TX9 5).2.1 (TX9 5).2.2.1]) [229] (by decide +kernel) (by decide +kernel) _ List.mem_cons_self, rfl, rfl, rfl, rfl⟩
theorem fX9_21 : zw_F RX9 21 19 6 (some (some 23)) (tyX9 6) true := ⟨9, RX9, TX9, 11, tyX9, _, oX9, by decide, zw_in_p (ws := [Cond.fieldLink RX9 21 (TX9 6).1 (TX9 6).2.1 (TX9 6).2.2.1]) [230] (by decide +kernel) (by decide +kernel) _ List.mem_cons_self, rfl, rfl, rfl, rfl⟩
theorem fX9_43 : zw_F RX9 43 19 7 (none) (tyX9 7) false := ⟨9, RX9, TX9, 11, tyX9, _, oX9, by decide, zw_in_p (ws := [Cond.fieldLink RX9 43 (TX9 7).1 (TX9 7).2.1 (TX9 7).2.2.1]) [231] (by decide +kernel) (by decide +kernel) _ List.mem_cons_self, rfl, rfl, rfl, rfl⟩
theorem fX9_46 : zw_F RX9 46 19 8 (none) (tyX9 8) false := ⟨9, RX9, TX9, 11, tyX9, _, oX9, by decide, zw_in_p (ws := [Cond.fieldLink RX9 46 (TX9 8).1 (TX9 8).2.1 (TX9 8).2.2.1]) [232] (by decide +kernel) (by decide +kernel) _ List.mem_cons_self, rfl, rfl, rfl, rfl⟩
theorem fX9_36 : zw_F RX9 36 19 9 (none) (tyX9 9) false := ⟨9, RX9, TX9, 11, tyX9, _, oX9, by decide, zw_in_p (ws := [Cond.fieldLink RX9 36 (TX9 9).1 (TX9 9).2.1 (TX9 9).2.2.1]) [233] (by decide +kernel) (by decide +kernel) _ List.mem_cons_self, rfl, rfl, rfl, rfl⟩
theorem fX9_40 : zw_F RX9 40 19 10 (none) (tyX9 10) false := ⟨9, RX9, TX9, 11, tyX9, _, oX9, by decide, zw_in_p (ws := [Cond.fieldLink RX9 40 (TX9 10).1 (TX9 10).2.1 (TX9 10).2.2.1]) [234] (by decide +kernel) (by decide +kernel) _ List.mem_cons_self, rfl, rfl, rfl, rfl⟩
theorem fX7_18 : zw_F RX7 18 24 0 (some (some 4)) (tyX7 0) true := ⟨7, RX7, TX7, 6, tyX7, _, oX7, by decide, zw_in_p (ws := [Cond.fieldLink RX7 18 (TX7 0).1 (TX7 0).2.1 (TX7 0).2.2.1]) [264] (by decide +kernel) (by decide +kernel) _ List.mem_cons_self, rfl, rfl, rfl, rfl⟩
theorem fX7_22 : zw_F RX7 22 24 1 (some (some 8)) (tyX7 1) true := ⟨7, RX7, TX7, 6, tyX7, _, oX7, by decide, zw_in_p (ws := [Cond.fieldLink RX7 22 (TX7 1).1 (TX7 1).2.1 (TX7 1).2.2.1]) [265] (by decide +kernel) (by decide +kernel) _ List.mem_cons_self, rfl, rfl, rfl, rfl⟩
theorem fX7_26 : zw_F RX7 26 24 2 (some (some 13)) (tyX7 2) true := ⟨7, RX7, TX7, 6, tyX7, _, oX7, by decide, zw_in_p (ws := [Cond.fieldLink RX7 26 (TX7 2).1 (TX7 2).2.1 (TX7 2).2.2.1]) [266] (by decide +kernel) (by decide +kernel) _ List.mem_cons_self, rfl, rfl, rfl, rfl⟩
theorem fX7_11 : zw_F RX7 11 24 3 (some (some 25)) (tyX7 3) true := ⟨7, RX7, TX7, 6, tyX7, _, oX7, by decide, zw_in_p (ws := [Cond.fieldLink RX7 11 (TX7 3).1 (TX7 3).2.1 (TX7 3).2.2.1]) [267] (by decide +kernel) (by decide +kernel) _ List.mem_cons_self, rfl, rfl, rfl, rfl⟩
theorem fX7_15 : zw_F RX7 15 24 4 (some (some 26)) (tyX7 4) true := ⟨7, RX7, TX7, 6, tyX7, _, oX7, by decide, zw_in_p (ws := [Cond.fieldLink RX7 15 (TX7 4).1 (TX7 4).2.1 (TX7 4).2.2.1]) [268] (by decide +kernel) (by decide +kernel) _ List.mem_cons_self, rfl, rfl, rfl, rfl⟩
theorem fX7_81 : zw_F RX7 81 24 5 (none) (tyX7 5) false := ⟨7, RX7, TX7, 6, tyX7, _, oX7, by decide, zw_in_p (ws := [Cond.fieldLink RX7 81 (TX7 5).1 (TX7 5).2.1 (TX7 5).2.2.1]) [269] (by decide +kernel) (by decide +kernel) _ List.mem_cons_self, rfl, rfl, rfl, rfl⟩
theorem fX2_21 : zw_F RX2 21 27 0 (some (some 4)) (tyX2 0) true := ⟨2, RX2, TX2, 6, tyX2, _, oX2, by decide, zw_in_p (ws := [Cond.fieldLink RX2 21 (TX2 0).1 (TX2 0).2.1 (TX2 0).2.2.1]) [289] (by decide +kernel) (by decide +kernel) _ List.mem_cons_self, rfl, rfl, rfl, rfl⟩
theorem fX2_25 : zw_F RX2 25 27 1 (some (some 8)) (tyX2 1) true := ⟨2, RX2, TX2, 6, tyX2, _, oX2, by decide, zw_in_p (ws := [Cond.fieldLink RX2 25 (TX2 1).1 (TX2 1).2.1 (TX2 1).2.2.1]) [290] (by decide +kernel) (by decide +kernel) _ List.mem_cons_self, rfl, rfl, rfl, rfl⟩
theorem fX2_29 : zw_F RX2 29 27 2 (some (some 13)) (tyX2 2) true := ⟨2, RX2, TX2, 6, tyX2, _, oX2, by decide, zw_in_p (ws := [Cond.fieldLink RX2 29 (TX2 2).1 (TX2 2).2.1 (TX2 2).2.2.1]) [291] (by decide +kernel) (by decide +kernel) _ List.mem_cons_self, rfl, rfl, rfl, rfl⟩
theorem fX2_11 : zw_F RX2 11 27 3 (some (some 28)) (tyX2 3) true := ⟨2, RX2, TX2, 6, tyX2, _, oX2, by decide, zw_in_p (ws := [Cond.fieldLink RX2 11 (TX2 3).1 (TX2 3).2.1 (TX2 3).2.2.1]) [292] (by decide +kernel) (by decide +kernel) _ List.mem_cons_self, rfl, rfl, rfl, rfl⟩
theorem fX2_15 : zw_F RX2 15 27 4 (some (some 29)) (tyX2 4) true := ⟨2, RX2, TX2, 6, tyX2, _, oX2, by decide, zw_in_p (ws := [Cond.fieldLink RX2 15 (TX2 4).1 (TX2 4).2.1 (TX2 4).2.2.1]) [293] (by decide +kernel) (by decide +kernel) _ List.mem_cons_self, rfl, rfl, rfl, rfl⟩
theorem fX2_18 : zw_F RX2 18 27 5 (some (some 30)) (tyX2 5) true := ⟨2, RX2, TX2, 6, tyX2, _, oX2, by decide, zw_in_p (ws := [Cond.fieldLink RX2 18 (TX2 5).1 (TX2 5).2.1 (TX2 5).2.2.1]) [294] (by decide +kernel) (by decide +kernel) _ List.mem_cons_self, rfl, rfl, rfl, rfl⟩
theorem fX6_15 : zw_F RX6 15 31 0 (some (some 4)) (tyX6 0) true := ⟨6, RX6, TX6, 4, tyX6, _, oX6, by decide, zw_in_p (ws := [Cond.fieldLink RX6 15 (TX6 0).1 (TX6 0).2.1 (TX6 0).2.2.1]) [314] (by decide +kernel) (by decide +kernel) _ List.mem_cons_self, rfl, rfl, rfl, rfl⟩
theorem fX6_19 : zw_F RX6 19 31 1 (some (some 8)) (tyX6 1) true := ⟨6, RX6, TX6, 4, tyX6, _, oX6, by decide, zw_in_p (ws := [Cond.fieldLink RX6 19 (TX6 1).1 (TX6 1).2.1 (TX6 1).2.2.1]) [315] (by decide +kernel) (by decide +kernel) _ List.mem_cons_self, rfl, rfl, rfl, rfl⟩
theorem fX6_9 : zw_F RX6 9 31 2 (some (some 32)) (tyX6 2) true := ⟨6, RX6, TX6, 4, tyX6, _, oX6, by decide, zw_in_p (ws := [Cond.fieldLink RX6 9 (TX6 2).1 (TX6 2).2.1 (TX6 2).2.2.1]) [316] (by decide +kernel) (by decide +kernel) _ List.mem_cons_self, rfl, rfl, rfl, rfl⟩
theorem fX6_29 : zw_F RX6 29 31 3 (some none) (tyX6 3) false := ⟨6, RX6, TX6, 4, tyX6, _, oX6, by decide, zw_in_p (ws := [Cond.fieldLink RX6 29 (TX6 3).1 (TX6 3).2.1 (TX6 3).2.2.1]) [317] (by decide +kernel) (by decide +kernel) _ List.mem_cons_self, rfl, rfl, rfl, rfl⟩
theorem fX10_10 : zw_F RX10 10 0 0 (some (some 1)) (tyX10 0) true := ⟨10, RX10, TX10, 13, tyX10, _, oX10, by decide, zw_in_p (ws := [Cond.fieldLink RX10 10 (TX10 0).1 (TX10 0).2.1 (TX10 0).2.2.1]) [327] (by decide +kernel) (by decide +kernel) _ List.mem_cons_self, rfl, rfl, rfl, rfl⟩
theorem fX10_19 : zw_F RX10 19 0 1 (some (some 3)) (tyX10 1) true := ⟨10, RX10, TX10, 13, tyX10, _, oX10, by decide, zw_in_p (ws := [Cond.fieldLink RX10 19 (TX10 1).1 (TX10 1).2.1 (TX10 1).2.2.1]) [328] (by decide +kernel) (by decide +kernel) _ List.mem_cons_self, rfl, rfl, rfl, rfl⟩
theorem fX10_26 : zw_F RX10 26 0 2 (some (some 4)) (tyX10 2) true := ⟨10, RX10, TX10, 13, tyX10, _, oX10, by decide, zw_in_p (ws := [Cond.fieldLink RX10 26 (TX10 2).1 (TX10 2).2.1 (TX10 2).2.2.1]) [329] (by decide +kernel) (by decide +kernel) _ List.mem_cons_self, rfl, rfl, rfl, rfl⟩
theorem fX10_33 : zw_F RX10 33 0 3 (some (some 8)) (tyX10 3) true := ⟨10, RX10, TX10, 13, tyX10, _, oX10, by decide, zw_in_p (ws := [Cond.fieldLink RX10 33 (TX10 3).1 (TX10 3).2.1 (TX10 3).2.2.1]) [330] (by decide +kernel) (by decide +kernel) _ List.mem_cons_self, rfl, rfl, rfl, rfl⟩
theorem fX10_42 : zw_F RX10 42 0 4 (some (some 13)) (tyX10 4) true := ⟨10, RX10, TX10, 13, tyX10, _, oX10, by decide, zw_in_p (ws := [Cond.fieldLink RX10 42 (TX10 4).1 (TX10 4).2.1 (TX10 4).2.2.1]) [331] (by decide +kernel) (by decide +kernel) _ List.mem_cons_self, rfl, rfl, rfl, rfl⟩
theorem fX10_51 : zw_F RX10 51 0 5 (some (some 16)) (tyX10 5) true := ⟨10, RX10, TX10, 13, tyX10, _, oX10, by decide, zw_in_p (ws := [Cond.fieldLink RX10 51 (TX10 5).1 (TX10 5).2.1 (TX10 5).2.2.1]) [332] (by decide +kernel) (by decide +kernel) _ List.mem_cons_self, rfl, rfl, rfl, rfl⟩
theorem fX10_60 : zw_F RX10 60 0 6 (some (some 19)) (tyX10 6) true := ⟨10, RX10, TX10, 13, tyX10, _, oX10, by decide, zw_in_p (ws := [Cond.fieldLink RX10 60 (TX10 6).1 (TX10 6).2.1 (TX10 6).2.2.1]) [333] (by decide +kernel) (by decide +kernel) _ List.mem_cons_self, rfl, rfl, rfl, rfl⟩
theorem fX10_67 : zw_F RX10 67 0 7 (some (some 24)) (tyX10 7) true := ⟨10, RX10, TX10, 13, tyX10, _, oX10, by decide, zw_in_p (ws := [Cond.fieldLink RX10 67 (TX10 7).1 (TX10 7).2.1 (TX10 7).2.2.1]) [334] (by decide +kernel) (by decide +kernel) _ List.mem_cons_self, rfl, rfl, rfl, rfl⟩
theorem fX10_74 : zw_F RX10 74 0 8 (some (some 27)) (tyX10 8) true := ⟨10, RX10, TX10, 13, tyX10, _, oX10, by decide, zw_in_p (ws := [Cond.fieldLink RX10 74 (TX10 8).1 (TX10 8).2.1 (TX10 8).2.2.1]) [335] (by decide +kernel) (by decide +kernel) _ List.mem_cons_self, rfl, rfl, rfl, rfl⟩
theorem fX10_81 : zw_F RX10 81 0 9 (some (some 31)) (tyX10 9) true := ⟨10, RX10, TX10, 13, tyX10, _, oX10, by decide, zw_in_p (ws := [Cond.fieldLink RX10 81 (TX10 9).1 (TX10 9).2.1 (TX10 9).2.2.1]) [336] (by decide +kernel) (by decide +kernel) _ List.mem_cons_self, rfl, rfl, rfl, rfl⟩
theorem fX10_118 : zw_F RX10 118 0 10 (none) (tyX10 10) false := ⟨10, RX10, TX10, 13, tyX10, _, oX10, by decide, zw_in_p (ws := [Cond.fieldLink RX10 118 (TX10 10).1 (TX10 10).2.1 (TX10 10).2.2.1]) [337] (by decide +kernel) (by decide +kernel) _ List.mem_cons_self, rfl, rfl, rfl, rfl⟩
theorem fX10_202 : zw_F RX10 202 0 11 (none) (tyX10 11) false := ⟨10, RX10, TX10, 13, tyX10, _, oX10, by decide, zw_in_p (ws := [Cond.fieldLink RX10 202 (TX10 11).1 (TX10 11).2.1 (TX10 11).2.2.1]) [338] (by decide +kernel) (by decide +kernel) _ List.mem_cons_self, rfl, rfl, rfl, rfl⟩
theorem fX10_229 : zw_F RX10 229 0 12 (none) (tyX10 12) false := ⟨10, RX10, TX10, 13, tyX10, _, oX10, by decide, zw_in_p (ws := [Cond.fieldLink RX10 229 (TX10 12).1 (TX10 12).2.1 (TX10 12).2.2.1]) [339] (by decide +kernel) (by decide +kernel) _ List.mem_cons_self, rfl, rfl, rfl, rfl⟩
theorem fX11_86 : zw_F RX11 86 33 0 (none) (tyX11 0) false := ⟨11, RX11, TX11, 40, tyX11, _, oX11, by decide, zw_in_p (ws := [Cond.fieldLink RX11 86 (TX11 0).1 (TX11 0).2.1 (TX11 0).2.2.1]) [957] (by decide +kernel) (by decide +kernel) _ List.mem_cons_self, rfl, rfl, rfl, rfl⟩
theorem fX11_89 : zw_F RX11 89 33 1 (none) (tyX11 1) false := ⟨11, RX11, TX11, 40, tyX11, _, oX11, by decide, zw_in_p (ws := [Cond.fieldLink RX11 89 (TX11 1).1 (TX11 1).2.1 (TX11 1).2.2.1]) [958] (by decide +kernel) (by decide +kernel) _ List.mem_cons_self, rfl, rfl, rfl, rfl⟩
theorem fX11_92 : zw_F RX11 92 33 2 (none) (tyX11 2) false := ⟨11, RX11, TX11, 40, tyX11, _, oX11, by decide, zw_in_p (ws := [Cond.fieldLink RX11 92 (TX11 2).1 (TX11 2).2.1 (TX11 2).2.2.1]) [959] (by decide +kernel) (by decide +kernel) _ List.mem_cons_self, rfl, rfl, rfl, rfl⟩
theorem fX11_98 : zw_F RX11 98 33 3 (none) (tyX11 3) false := ⟨11, RX11, TX11, 40, tyX11, _, oX11, by decide, zw_in_p (ws := [Cond.fieldLink RX11 98 (TX11 3).1 (TX11 3).2.1 (TX11 3).2.2.1]) [960] (by decide +kernel) (by decide +kernel) _ List.mem_cons_self, rfl, rfl, rfl, rfl⟩
theorem fX11_7 : zw_F RX11 7 33 4 (some (some 34)) (tyX11 4) true := ⟨11, RX11, TX11, 40, tyX11, _, oX11, by decide, zw_in_p (ws := [Cond.fieldLink RX11 7 (TX11 4).1 (TX11 4).2.1 (TX11 4).2.2.1]) [961] (by decide +kernel) (by decide +kernel) _ List.mem_cons_self, rfl, rfl, rfl, rfl⟩
theorem fX11_95 : zw_F RX11 95 33 5 (none) (tyX11 5) false := ⟨11, RX11, TX11, 40, tyX11, _, oX11, by decide, zw_in_p (ws := [Cond.fieldLink RX11 95 (TX11 5).1 (TX11 5).2.1 (TX11 5).2.2.1]) [962] (by decide +kernel) (by decide +kernel) _ List.mem_cons_self, rfl, rfl, rfl, rfl⟩
theorem fX11_13 : zw_F RX11 13 33 6 (some (some 35)) (tyX11 6) true := ⟨11, RX11, TX11, 40, tyX11, _, oX11, by decide, zw_in_p (ws := [Cond.fieldLink RX11 13 (TX11 6).1 (TX11 6).2.1 (TX11 6).2.2.1]) [963] (by decide +kernel) (by decide +kernel) _ List.mem_cons_self, rfl, rfl, rfl, rfl⟩
theorem fX11_16 : zw_F RX11 16 33 7 (some (some 36)) (tyX11 7) true := ⟨11, RX11, TX11, 40, tyX11, _, oX11, by decide, zw_in_p (ws := [Cond.fieldLink RX11 16 (TX11 7).1 (TX11 7).2.1 (TX11 7).2.2.1]) [964] (by decide +kernel) (by decide +kernel) _ List.mem_cons_self, rfl, rfl, rfl, rfl⟩
theorem fX11_19 : zw_F RX11 19 33 8 (some (some 37)) (tyX11 8) true := ⟨11, RX11, TX11, 40, tyX11, _, oX11, by decide, zw_in_p (ws := [Cond.fieldLink RX11 19 (TX11 8).1 (TX11 8).2.1 (TX11 8).2.2.1]) [965] (by decide +kernel) (by decide +kernel) _ List.mem_cons_self, rfl, rfl, rfl, rfl⟩
theorem fX11_173 : zw_F RX11 173 33 9 (none) (tyX11 9) false := ⟨11, RX11, TX11, 40, tyX11, _, oX11, by decide, zw_in_p (ws := [Cond.fieldLink RX11 173 (TX11 9).1 (TX11 9).2.1 (TX11 9).2.2.1]) [966] (by decide +kernel) (by decide +kernel) _ List.mem_cons_self, rfl, rfl, rfl, rfl⟩
theorem fX11_212 : zw_F RX11 212 33 10 (none) (tyX11 10) false := ⟨11, RX11, TX11, 40, tyX11, _, oX11, by decide, zw_in_p (ws := [Cond.fieldLink RX11 212 (TX11 10).1 (TX11 10).2.1 (TX11 10).2.2.1]) [967] (by decide +kernel) (by decide +kernel) _ List.mem_cons_self, rfl, rfl, rfl, rfl⟩
theorem fX11_52 : zw_F RX11 52 33 11 (none) (tyX11 11) false := ⟨11, RX11, TX11, 40, tyX11, _, oX11, by decide, zw_in_p (ws := [Cond.fieldLink RX11 52 (TX11 11).1 (TX11 11).2.1 (TX11 11).2.2.1]) [968] (by decide +kernel) (by decide +kernel) _ List.mem_cons_self, rfl, rfl, rfl, rfl⟩
theorem fX11_22 : zw_F RX11 22 33 12 (some (some 38)) (tyX11 12) true := ⟨11, RX11, TX11, 40, tyX11, _, oX11, by decide, zw_in_p (ws := [Cond.fieldLink RX11 22 (TX11 12).1 (TX11 12).2.1 (TX11 12).2.2.1]) [969] (by decide +kernel) (by decide +kernel) _ List.mem_cons_self, rfl, rfl, rfl, rfl⟩
theorem fX11_69 : zw_F RX11 69 33 13 (none) (tyX11 13) false := ⟨11, RX11, TX11, 40, tyX11, _, oX11, by decide, zw_in_p (ws := [Cond.fieldLink RX11 69 (TX11 13).1 (TX11 13).2.1 (TX11 13).2.2.1]) [970] (by decide +kernel) (by decide +kernel) _ List.mem_cons_self, rfl, rfl, rfl, rfl⟩
theorem fX11_72 : zw_F RX11 72 33 14 (none) (tyX11 14) false := ⟨11, RX11, TX11, 40, tyX11, _, oX11, by decide, zw_in_p (ws := [Cond.fieldLink RX11 72 (TX11 14).1 (TX11 14).2.1 (TX11 14).2.2.1]) [971] (by decide +kernel) (by decide +kernel) _ List.mem_cons_self, rfl, rfl, rfl, rfl⟩
theorem fX11_56 : zw_F RX11 56 33 15 (none) (tyX11 15) false := ⟨11, RX11, TX11, 40, tyX11, _, oX11, by decide, zw_in_p (ws := [Cond.fieldLink RX11 56 (TX11 15).1 (TX11 15).2.1 (TX11 15).2.2.1]) [972] (by decide +kernel) (by decide +kernel) _ List.mem_cons_self, rfl, rfl, rfl, rfl⟩
theorem fX11_59 : zw_F RX11 59 33 16 (none) (tyX11 16) false := ⟨11, RX11, TX11, 40, tyX11, _, oX11, by decide, zw_in_p (ws := [Cond.fieldLink RX11 59 (TX11 16).1 (TX11 16).2.1 (TX11 16).2.2.1]) [973] (by decide +kernel) (by decide +kernel) _ List.mem_cons_self, rfl, rfl, rfl, rfl⟩
theorem fX11_62 : zw_F RX11 62 33 17 (none) (tyX11 17) false := ⟨11, RX11, TX11, 40, tyX11, _, oX11, by decide, zw_in_p (ws := [Cond.fieldLink RX11 62 (TX11 17).1 (TX11 17).2.1 (TX11 17).2.2.1]) [974] (by decide +kernel) (by decide +kernel) _ List.mem_cons_self, rfl, rfl, rfl, rfl⟩
theorem fX11_26 : zw_F RX11 26 33 18 (some (some 39)) (tyX11 18) true := ⟨11, RX11, TX11, 40, tyX11, _, oX11, by decide, zw_in_p (ws := [Cond.fieldLink RX11 26 (TX11 18).1 (TX11 18).2.1 (TX11 18).2.2.1]) [975] (by decide +kernel) (by decide +kernel) _ List.mem_cons_self, rfl, rfl, rfl, rfl⟩
theorem fX11_132 : zw_F RX11 132 33 19 (none) (tyX11 19) false := ⟨11, RX11, TX11, 40, tyX11, _, oX11, by decide, zw_in_p (ws := [Cond.fieldLink RX11 132 (TX11 19).1 (TX11 19).2.1 (TX11 19).2.2.1]) [976] (by decide +kernel) (by decide +kernel) _ List.mem_cons_self, rfl, rfl, rfl, rfl⟩
theorem fX11_129 : zw_F RX11 129 33 20 (none) (tyX11 20) false := ⟨11, RX11, TX11, 40, tyX11, _, oX11, by decide, zw_in_p (ws := [Cond.fieldLink RX11 129 (TX11 20).1 (TX11 20).2.1 (TX11 20).2.2.1]) [977] (by decide +kernel) (by decide +kernel) _ List.mem_cons_self, rfl, rfl, rfl, rfl⟩
theorem fX11_135 : zw_F RX11 135 33 21 (none) (tyX11 21) false := ⟨11, RX11, TX11, 40, tyX11, _, oX11, by decide, zw_in_p (ws := [Cond.fieldLink RX11 135 (TX11 21).1 (TX11 21).2.1 (TX11 21).2.2.1]) [978] (by decide +kernel) (by decide +kernel) _ List.mem_cons_self, rfl, rfl, rfl, rfl⟩
theorem fX11_29 : zw_F RX11 29 33 22 (some (some 40)) (tyX11 22) true := ⟨11, RX11, TX11, 40, tyX11, _, oX11, by decide, zw_in_p (ws := [Cond.fieldLink RX11 29 (TX11 22).1 (TX11 22).2.1 (TX11 22).2.2.1]) [979] (by decide +kernel) (by decide +kernel) _ List.mem_cons_self, rfl, rfl, rfl, rfl⟩
theorem fX11_32 : zw_F RX11 32 33 23 (some (some 41)) (tyX11 23) true := ⟨11, RX11, TX11, 40, tyX11, _, oX11, by decide, zw_in_p (ws := [Cond.fieldLink RX11 32 (TX11 23).1 (TX11 23).2.1 (TX11 23).2.2.1]) [980] (by decide +kernel) (by decide +kernel) _ List.mem_cons_self, rfl, rfl, rfl, rfl⟩
theorem fX11_35 : zw_F RX11 35 33 24 (some (some 42)) (tyX11 24) true := ⟨11, RX11, TX11, 40, tyX11, _, oX11, by decide, zw_in_p (ws := [Cond.fieldLink RX11 35 (TX11 24).1 (TX11 24).2.1 (TX11 24).2.2.1]) [981] (by decide +kernel) (by decide +kernel) _ List.mem_cons_self, rfl, rfl, rfl, rfl⟩
theorem fX11_38 : zw_F RX11 38 33 25 (some (some 43)) (tyX11 25) true := ⟨11, RX11, TX11, 40, tyX11, _, oX11, by decide, zw_in_p (ws := [Cond.fieldLink RX11 38 (TX11 25).1 (TX11 25).2.1 (TX11 25).2.2.1]) [982] (by decide +kernel) (by decide +kernel) _ List.mem_cons_self, rfl, rfl, rfl, rfl⟩
theorem fX11_152 : zw_F RX11 152 33 26 (none) (tyX11 26) false := ⟨11, RX11, TX11, 40, tyX11, _, oX11, by decide, zw_in_p (ws := [Cond.fieldLink RX11 152 (TX11 26).1 (TX11 26).2.1 (TX11 26).2.2.1]) [983] (by decide +kernel) (by decide +kernel) _ List.mem_cons_self, rfl, rfl, rfl, rfl⟩
theorem fX11_155 : zw_F RX11 155 33 27 (none) (tyX11 27) false := ⟨11, RX11, TX11, 40, tyX11, _, oX11, by decide, zw_in_p (ws := [Cond.fieldLink RX11 155 (TX11 27).1 (TX11 27).2.1 (TX11 27).2.2.1]) [984] (by decide +kernel) (by decide +kernel) _ List.mem_cons_self, rfl, rfl, rfl, rfl⟩
theorem fX11_41 : zw_F RX11 41 33 28 (some (some 44)) (tyX11 28) true := ⟨11, RX11, TX11, 40, tyX11, _, oX11, by decide, zw_in_p (ws := [Cond.fieldLink RX11 41 (TX11 28).1 (TX11 28).2.1 (TX11 28).2.2.1]) [985] (by decide +kernel) (by decide +kernel) _ List.mem_cons_self, rfl, rfl, rfl, rfl⟩
theorem fX11_44 : zw_F RX11 44 33 29 (some (some 45)) (tyX11 29) true := ⟨11, RX11, TX11, 40, tyX11, _, oX11, by decide, zw_in_p (ws := [Cond.fieldLink RX11 44 (TX11 29).1 (TX11 29).2.1 (TX11 29).2.2.1]) [986] (by decide +kernel) (by decide +kernel) _ List.mem_cons_self, rfl, rfl, rfl, rfl⟩
theorem fX11_203 : zw_F RX11 203 33 30 (none) (tyX11 30) false := ⟨11, RX11, TX11, 40, tyX11, _, oX11, by decide, zw_in_p (ws := [Cond.fieldLink RX11 203 (TX11 30).1 (TX11 30).2.1 (TX11 30).2.2.1]) [987] (by decide +kernel) (by decide +kernel) _ List.mem_cons_self, rfl, rfl, rfl, rfl⟩
theorem fX11_206 : zw_F RX11 206 33 31 (none) (tyX11 31) false := ⟨11, RX11, TX11, 40, tyX11, _, oX11, by decide, zw_in_p (ws := [Cond.fieldLink RX11 206 (TX11 31).1 (TX11 31).2.1 (TX11 31).2.2.1]) [988] (by decide +kernel) (by decide +kernel) _ List.mem_cons_self, rfl, rfl, rfl, rfl⟩
theorem fX11_194 : zw_F RX11 194 33 32 (none) (tyX11 32) false := ⟨11, RX11, TX11, 40, tyX11, _, oX11, by decide, zw_in_p (ws := [Cond.fieldLink RX11 194 (TX11 32).1 (TX11 32).2.1 (TX11 32).2.2.1]) [989] (by decide +kernel) (by decide +kernel) _ List.mem_cons_self, rfl, rfl, rfl, rfl⟩
theorem fX11_197 : zw_F RX11 197 33 33 (none) (tyX11 33) false := ⟨11, RX11, TX11, 40, tyX11, _, oX11, by decide, zw_in_p (ws := [Cond.fieldLink RX11 197 (TX11 33).1 (TX11 33).2.1 (TX11 33).2.2.1]) [990] (by decide +kernel) (by decide +kernel) _ List.mem_cons_self, rfl, rfl, rfl, rfl⟩
theorem fX11_249 : zw_F RX11 249 33 34 (some none) (tyX11 34) false := ⟨11, RX11, TX11, 40, tyX11, _, oX11, by decide, zw_in_p (ws := [Cond.fieldLink RX11 249 (TX11 34).1 (TX11 34).2.1 (TX11 34).2.2.1]) [991] (by decide +kernel) (by decide +kernel) _ List.mem_cons_self, rfl, rfl, rfl, rfl⟩
theorem fX11_269 : zw_F RX11 269 33 35 (none) (tyX11 35) false := ⟨11, RX11, TX11, 40, tyX11, _, oX11, by decide, zw_in_p (ws := [Cond.fieldLink RX11 269 (TX11 35).1 (TX11 35).2.1 (TX11 35).2.2.1]) [992] (by decide +kernel) (by decide +kernel) _ List.mem_cons_self, rfl, rfl, rfl, rfl⟩
theorem fX11_272 : zw_F RX11 272 33 36 (none) (tyX11 36) false := ⟨11, RX11, TX11, 40, tyX11, _, oX11, by decide, zw_in_p (ws := [Cond.fieldLink RX11 272 (TX11 36).1 (TX11 36).2.1 (TX11 36).2.2.1]) [993] (by decide +kernel) (by decide +kernel) _ List.mem_cons_self, rfl, rfl, rfl, rfl⟩
theorem fX11_275 : zw_F RX11 275 33 37 (none) (tyX11 37) false := ⟨11, RX11, TX11, 40, tyX11, _, oX11, by decide, zw_in_p (ws := [Cond.fieldLink RX11 275 (TX11 37).1 (TX11 37).2.1 (TX11 37).2.2.1]) [994] (by decide +kernel) (by decide +kernel) _ List.mem_cons_self, rfl, rfl, rfl, rfl⟩
theorem fX11_47 : zw_F RX11 47 33 38 (some (some 46)) (tyX11 38) true := ⟨11, RX11, TX11, 40, tyX11, _, oX11, by decide, zw_in_p (ws := [Cond.fieldLink RX11 47 (TX11 38).1 (TX11 38).2.1 (TX11 38).2.2.1]) [995] (by decide +kernel) (by decide +kernel) _ List.mem_cons_self, rfl, rfl, rfl, rfl⟩
theorem fX11_286 : zw_F RX11 286 33 39 (some none) (tyX11 39) false := ⟨11, RX11, TX11, 40, tyX11, _, oX11, by decide, zw_in_p (ws := [Cond.fieldLink RX11 286 (TX11 39).1 (TX11 39).2.1 (TX11 39).2.2.1]) [996] (by decide +kernel) (by decide +kernel) _ List.mem_cons_self, rfl, rfl, rfl, rfl⟩
theorem kX3_27 : Cond.constantLong RX3 27 (255) ∈ zs_G := zw_in_p (ws := [Cond.constantLong RX3 27 (255)]) [381] (by decide +kernel) (by decide +kernel) _ List.mem_cons_self
theorem kX10_129 : Cond.constant RX10 129 (-100101) ∈ zs_G := zw_in_p (ws := [Cond.constant RX10 129 (-100101)]) [470] (by decide +kernel) (by decide +kernel) _ List.mem_cons_self
theorem kX10_140 : Cond.constant RX10 140 (-100102) ∈ zs_G := zw_in_p (ws := [Cond.constant RX10 140 (-100102)]) [484] (by decide +kernel) (by decide +kernel) _ List.mem_cons_self
theorem kX10_188 : Cond.constant RX10 188 (-1000101) ∈ zs_G := zw_in_p (ws := [Cond.constant RX10 188 (-1000101)]) [586] (by decide +kernel) (by decide +kernel) _ List.mem_cons_self
theorem kJ6_265 : Cond.constant RJ6 265 (1431655765) ∈ zs_G := zw_in_p (ws := [Cond.constant RJ6 265 (1431655765)]) [625] (by decide +kernel) (by decide +kernel) _ List.mem_cons_self
theorem kJ6_266 : Cond.constant RJ6 266 (858993459) ∈ zs_G := zw_in_p (ws := [Cond.constant RJ6 266 (858993459)]) [626] (by decide +kernel) (by decide +kernel) _ List.mem_cons_self
theorem kJ6_267 : Cond.constant RJ6 267 (252645135) ∈ zs_G := zw_in_p (ws := [Cond.constant RJ6 267 (252645135)]) [627] (by decide +kernel) (by decide +kernel) _ List.mem_cons_self
theorem kX7_88 : Cond.constant RX7 88 (1000000) ∈ zs_G := zw_in_p (ws := [Cond.constant RX7 88 (1000000)]) [741] (by decide +kernel) (by decide +kernel) _ List.mem_cons_self
theorem kX6_80 : Cond.constantLong RX6 80 (1103515245) ∈ zs_G := zw_in_p (ws := [Cond.constantLong RX6 80 (1103515245)]) [887] (by decide +kernel) (by decide +kernel) _ List.mem_cons_self
theorem kX6_82 : Cond.constantLong RX6 82 (12345) ∈ zs_G := zw_in_p (ws := [Cond.constantLong RX6 82 (12345)]) [888] (by decide +kernel) (by decide +kernel) _ List.mem_cons_self
theorem kX6_84 : Cond.constantLong RX6 84 (2147483647) ∈ zs_G := zw_in_p (ws := [Cond.constantLong RX6 84 (2147483647)]) [889] (by decide +kernel) (by decide +kernel) _ List.mem_cons_self
theorem kX6_86 : Cond.constantLong RX6 86 (65536) ∈ zs_G := zw_in_p (ws := [Cond.constantLong RX6 86 (65536)]) [890] (by decide +kernel) (by decide +kernel) _ List.mem_cons_self
theorem kX6_88 : Cond.constantLong RX6 88 (5) ∈ zs_G := zw_in_p (ws := [Cond.constantLong RX6 88 (5)]) [891] (by decide +kernel) (by decide +kernel) _ List.mem_cons_self
theorem kX10_274 : Cond.constantLong RX10 274 (613) ∈ zs_G := zw_in_p (ws := [Cond.constantLong RX10 274 (613)]) [936] (by decide +kernel) (by decide +kernel) _ List.mem_cons_self
theorem kX10_293 : Cond.constantLong RX10 293 (31) ∈ zs_G := zw_in_p (ws := [Cond.constantLong RX10 293 (31)]) [940] (by decide +kernel) (by decide +kernel) _ List.mem_cons_self
theorem kX11_50 : Cond.constantLong RX11 50 (255) ∈ zs_G := zw_in_p (ws := [Cond.constantLong RX11 50 (255)]) [1083] (by decide +kernel) (by decide +kernel) _ List.mem_cons_self
theorem kX11_105 : Cond.constant RX11 105 (-100101) ∈ zs_G := zw_in_p (ws := [Cond.constant RX11 105 (-100101)]) [1118] (by decide +kernel) (by decide +kernel) _ List.mem_cons_self
theorem kX11_106 : Cond.constant RX11 106 (-100102) ∈ zs_G := zw_in_p (ws := [Cond.constant RX11 106 (-100102)]) [1119] (by decide +kernel) (by decide +kernel) _ List.mem_cons_self
theorem kX11_142 : Cond.constant RX11 142 (-1000101) ∈ zs_G := zw_in_p (ws := [Cond.constant RX11 142 (-1000101)]) [1183] (by decide +kernel) (by decide +kernel) _ List.mem_cons_self
theorem kX11_166 : Cond.constant RX11 166 (1048576) ∈ zs_G := zw_in_p (ws := [Cond.constant RX11 166 (1048576)]) [1208] (by decide +kernel) (by decide +kernel) _ List.mem_cons_self
theorem kX11_247 : Cond.constantLong RX11 247 (1103515245) ∈ zs_G := zw_in_p (ws := [Cond.constantLong RX11 247 (1103515245)]) [1327] (by decide +kernel) (by decide +kernel) _ List.mem_cons_self
theorem kX11_253 : Cond.constantLong RX11 253 (12345) ∈ zs_G := zw_in_p (ws := [Cond.constantLong RX11 253 (12345)]) [1328] (by decide +kernel) (by decide +kernel) _ List.mem_cons_self
theorem kX11_255 : Cond.constantLong RX11 255 (2147483647) ∈ zs_G := zw_in_p (ws := [Cond.constantLong RX11 255 (2147483647)]) [1329] (by decide +kernel) (by decide +kernel) _ List.mem_cons_self
theorem kX11_257 : Cond.constantLong RX11 257 (65536) ∈ zs_G := zw_in_p (ws := [Cond.constantLong RX11 257 (65536)]) [1330] (by decide +kernel) (by decide +kernel) _ List.mem_cons_self
theorem kX11_293 : Cond.constantLong RX11 293 (613) ∈ zs_G := zw_in_p (ws := [Cond.constantLong RX11 293 (613)]) [1355] (by decide +kernel) (by decide +kernel) _ List.mem_cons_self
theorem kX11_284 : Cond.constantLong RX11 284 (31) ∈ zs_G := zw_in_p (ws := [Cond.constantLong RX11 284 (31)]) [1360] (by decide +kernel) (by decide +kernel) _ List.mem_cons_self
theorem kL_13 : Cond.constantLong RL 13 (4294967295) ∈ zs_G := zw_in_p (ws := [Cond.constantLong RL 13 (4294967295)]) [1365] (by decide +kernel) (by decide +kernel) _ List.mem_cons_self
theorem acX9_98 : zw_in [Cond.methodLink RX9 98 arraycopyName, .native arraycopyName, .static arraycopyName, .initialized "java/lang/System"] := zw_in_p [654, 656, 655, 77] (by decide +kernel) (by decide +kernel)
theorem mxX0_68 : zw_in [Cond.methodLink RX0 68 Lib.Math.max.name, .static Lib.Math.max.name, .initialized "java/lang/Math", .code Lib.Math.max.name Lib.Math.max.code 2 (some .int)] := zw_in_p [747, 748, 78, 749] (by decide +kernel) (by decide +kernel)
theorem acX8_63 : zw_in [Cond.methodLink RX8 63 arraycopyName, .native arraycopyName, .static arraycopyName, .initialized "java/lang/System"] := zw_in_p [910, 656, 655, 77] (by decide +kernel) (by decide +kernel)
