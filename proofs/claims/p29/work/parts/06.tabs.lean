theorem oX0 : zw_okc 0 RX0 TX0 4 tyX0 := ⟨rfl, zw_in_p (ws := u_ws RX0 TX0 4) [120, 122, 124, 126] (by decide +kernel) (by decide +kernel), tyX0_ok, nmX0⟩
theorem rc_13 : zw_rc 13 RX0 := ⟨0, _, TX0, 4, rfl, rfl⟩
theorem oX1 : zw_okc 1 RX1 TX1 7 tyX1 := ⟨rfl, zw_in_p (ws := u_ws RX1 TX1 7) [69, 71, 73, 75, 77, 79, 81] (by decide +kernel) (by decide +kernel), tyX1_ok, nmX1⟩
theorem rc_4 : zw_rc 4 RX1 := ⟨1, _, TX1, 7, rfl, rfl⟩
theorem oX2 : zw_okc 2 RX2 TX2 6 tyX2 := ⟨rfl, zw_in_p (ws := u_ws RX2 TX2 6) [227, 229, 231, 233, 235, 237] (by decide +kernel) (by decide +kernel), tyX2_ok, nmX2⟩
theorem rc_27 : zw_rc 27 RX2 := ⟨2, _, TX2, 6, rfl, rfl⟩
theorem oX3 : zw_okc 3 RX3 TX3 2 tyX3 := ⟨rfl, zw_in_p (ws := u_ws RX3 TX3 2) [34, 36] (by decide +kernel) (by decide +kernel), tyX3_ok, nmX3⟩
theorem rc_1 : zw_rc 1 RX3 := ⟨3, _, TX3, 2, rfl, rfl⟩
theorem oX4 : zw_okc 4 RX4 TX4 3 tyX4 := ⟨rfl, zw_in_p (ws := u_ws RX4 TX4 3) [49, 51, 53] (by decide +kernel) (by decide +kernel), tyX4_ok, nmX4⟩
theorem rc_3 : zw_rc 3 RX4 := ⟨4, _, TX4, 3, rfl, rfl⟩
theorem oX5 : zw_okc 5 RX5 TX5 7 tyX5 := ⟨rfl, zw_in_p (ws := u_ws RX5 TX5 7) [140, 142, 144, 146, 148, 150, 152] (by decide +kernel) (by decide +kernel), tyX5_ok, nmX5⟩
theorem rc_16 : zw_rc 16 RX5 := ⟨5, _, TX5, 7, rfl, rfl⟩
theorem oX6 : zw_okc 6 RX6 TX6 4 tyX6 := ⟨rfl, zw_in_p (ws := u_ws RX6 TX6 4) [249, 251, 253, 255] (by decide +kernel) (by decide +kernel), tyX6_ok, nmX6⟩
theorem rc_31 : zw_rc 31 RX6 := ⟨6, _, TX6, 4, rfl, rfl⟩
theorem oX7 : zw_okc 7 RX7 TX7 6 tyX7 := ⟨rfl, zw_in_p (ws := u_ws RX7 TX7 6) [202, 204, 206, 208, 210, 212] (by decide +kernel) (by decide +kernel), tyX7_ok, nmX7⟩
theorem rc_24 : zw_rc 24 RX7 := ⟨7, _, TX7, 6, rfl, rfl⟩
theorem oX8 : zw_okc 8 RX8 TX8 6 tyX8 := ⟨rfl, zw_in_p (ws := u_ws RX8 TX8 6) [97, 99, 101, 103, 105, 107] (by decide +kernel) (by decide +kernel), tyX8_ok, nmX8⟩
theorem rc_8 : zw_rc 8 RX8 := ⟨8, _, TX8, 6, rfl, rfl⟩
theorem oX9 : zw_okc 9 RX9 TX9 11 tyX9 := ⟨rfl, zw_in_p (ws := u_ws RX9 TX9 11) [168, 170, 172, 174, 176, 178, 180, 182, 184, 186, 188] (by decide +kernel) (by decide +kernel), tyX9_ok, nmX9⟩
theorem rc_19 : zw_rc 19 RX9 := ⟨9, _, TX9, 11, rfl, rfl⟩
theorem oX10 : zw_okc 10 RX10 TX10 13 tyX10 := ⟨rfl, zw_in_p (ws := u_ws RX10 TX10 13) [271, 273, 275, 277, 279, 281, 283, 285, 287, 289, 291, 293, 295] (by decide +kernel) (by decide +kernel), tyX10_ok, nmX10⟩
theorem rc_0 : zw_rc 0 RX10 := ⟨10, _, TX10, 13, rfl, rfl⟩
abbrev iX0_init : zw_I := (yX0_init, cX0_init, 3, none)
abbrev iX0_leanEast : zw_I := (yX0_leanEast, cX0_leanEast, 4, some .int)
theorem vX0_leanEast : zw_yV iX0_leanEast 1 := ⟨zw_in_p [373, 374, 11, 375] (by decide +kernel) (by decide +kernel), ⟨by decide +kernel, by decide +kernel, by decide +kernel⟩, by decide⟩
abbrev iX0_leanSouth : zw_I := (yX0_leanSouth, cX0_leanSouth, 4, some .int)
theorem vX0_leanSouth : zw_yV iX0_leanSouth 1 := ⟨zw_in_p [388, 389, 11, 390] (by decide +kernel) (by decide +kernel), ⟨by decide +kernel, by decide +kernel, by decide +kernel⟩, by decide⟩
abbrev iX0_wetIn : zw_I := (yX0_wetIn, cX0_wetIn, 2, some .int)
theorem vX0_wetIn : zw_yV iX0_wetIn 1 := ⟨zw_in_p [410, 411, 11, 412] (by decide +kernel) (by decide +kernel), ⟨by decide +kernel, by decide +kernel, by decide +kernel⟩, by decide⟩
abbrev iX1_init : zw_I := (yX1_init, cX1_init, 1, none)
abbrev iX1_read : zw_I := (yX1_read, cX1_read, 8, none)
theorem vX1_read : zw_yV iX1_read 3 := ⟨zw_in_p [560, 561, 9, 562] (by decide +kernel) (by decide +kernel), ⟨by decide +kernel, by decide +kernel, by decide +kernel⟩, by decide⟩
abbrev iX1_addSquare : zw_I := (yX1_addSquare, cX1_addSquare, 4, none)
theorem vX1_addSquare : zw_yV iX1_addSquare 3 := ⟨zw_in_p [567, 4, 9, 568] (by decide +kernel) (by decide +kernel), ⟨by decide +kernel, by decide +kernel, by decide +kernel⟩, by decide⟩
abbrev iX1_fromCentre : zw_I := (yX1_fromCentre, cX1_fromCentre, 2, some .int)
theorem sX1_fromCentre : zw_yS iX1_fromCentre 2 := ⟨zw_in_p [570, 9, 571] (by decide +kernel) (by decide +kernel), ⟨by decide +kernel, by decide +kernel, by decide +kernel⟩, by decide⟩
abbrev iX1_isThere : zw_I := (yX1_isThere, cX1_isThere, 1, some .boolean)
theorem vX1_isThere : zw_yV iX1_isThere 0 := ⟨zw_in_p [428, 429, 9, 430] (by decide +kernel) (by decide +kernel), ⟨by decide +kernel, by decide +kernel, by decide +kernel⟩, by decide⟩
abbrev iX1_squares : zw_I := (yX1_squares, cX1_squares, 1, some .int)
theorem vX1_squares : zw_yV iX1_squares 0 := ⟨zw_in_p [464, 465, 9, 466] (by decide +kernel) (by decide +kernel), ⟨by decide +kernel, by decide +kernel, by decide +kernel⟩, by decide⟩
abbrev iX1_doors : zw_I := (yX1_doors, cX1_doors, 1, some .int)
theorem vX1_doors : zw_yV iX1_doors 0 := ⟨zw_in_p [468, 469, 9, 470] (by decide +kernel) (by decide +kernel), ⟨by decide +kernel, by decide +kernel, by decide +kernel⟩, by decide⟩
abbrev iX1_has : zw_I := (yX1_has, cX1_has, 2, some .boolean)
theorem vX1_has : zw_yV iX1_has 1 := ⟨zw_in_p [347, 348, 9, 349] (by decide +kernel) (by decide +kernel), ⟨by decide +kernel, by decide +kernel, by decide +kernel⟩, by decide⟩
abbrev iX1_hasAll : zw_I := (yX1_hasAll, cX1_hasAll, 2, some .boolean)
theorem vX1_hasAll : zw_yV iX1_hasAll 1 := ⟨zw_in_p [424, 425, 9, 426] (by decide +kernel) (by decide +kernel), ⟨by decide +kernel, by decide +kernel, by decide +kernel⟩, by decide⟩
abbrev iX1_east : zw_I := (yX1_east, cX1_east, 2, some .int)
theorem vX1_east : zw_yV iX1_east 1 := ⟨zw_in_p [383, 384, 9, 385] (by decide +kernel) (by decide +kernel), ⟨by decide +kernel, by decide +kernel, by decide +kernel⟩, by decide⟩
abbrev iX1_south : zw_I := (yX1_south, cX1_south, 2, some .int)
theorem vX1_south : zw_yV iX1_south 1 := ⟨zw_in_p [392, 393, 9, 394] (by decide +kernel) (by decide +kernel), ⟨by decide +kernel, by decide +kernel, by decide +kernel⟩, by decide⟩
abbrev iX1_dipOf : zw_I := (yX1_dipOf, cX1_dipOf, 4, some .int)
theorem vX1_dipOf : zw_yV iX1_dipOf 3 := ⟨zw_in_p [402, 403, 9, 404] (by decide +kernel) (by decide +kernel), ⟨by decide +kernel, by decide +kernel, by decide +kernel⟩, by decide⟩
abbrev iX1_wetDoors : zw_I := (yX1_wetDoors, cX1_wetDoors, 7, some .int)
theorem vX1_wetDoors : zw_yV iX1_wetDoors 2 := ⟨zw_in_p [416, 417, 9, 418] (by decide +kernel) (by decide +kernel), ⟨by decide +kernel, by decide +kernel, by decide +kernel⟩, by decide⟩
abbrev iX2_init : zw_I := (yX2_init, cX2_init, 4, none)
abbrev iX2_found : zw_I := (yX2_found, cX2_found, 2, some .int)
theorem vX2_found : zw_yV iX2_found 1 := ⟨zw_in_p [456, 457, 15, 458] (by decide +kernel) (by decide +kernel), ⟨by decide +kernel, by decide +kernel, by decide +kernel⟩, by decide⟩
abbrev iX2_search : zw_I := (yX2_search, cX2_search, 10, none)
theorem vX2_search : zw_yV iX2_search 2 := ⟨zw_in_p [432, 433, 15, 434] (by decide +kernel) (by decide +kernel), ⟨by decide +kernel, by decide +kernel, by decide +kernel⟩, by decide⟩
abbrev iX2_measureChanges : zw_I := (yX2_measureChanges, cX2_measureChanges, 6, none)
theorem vX2_measureChanges : zw_yV iX2_measureChanges 1 := ⟨zw_in_p [437, 0, 15, 438] (by decide +kernel) (by decide +kernel), ⟨by decide +kernel, by decide +kernel, by decide +kernel⟩, by decide⟩
abbrev iX2_wetDoorsIfLate : zw_I := (yX2_wetDoorsIfLate, cX2_wetDoorsIfLate, 7, some .int)
theorem vX2_wetDoorsIfLate : zw_yV iX2_wetDoorsIfLate 3 := ⟨zw_in_p [452, 1, 15, 453] (by decide +kernel) (by decide +kernel), ⟨by decide +kernel, by decide +kernel, by decide +kernel⟩, by decide⟩
abbrev iX3_init : zw_I := (yX3_init, cX3_init, 1, none)
abbrev iX3_length : zw_I := (yX3_length, cX3_length, 1, some .int)
theorem vX3_length : zw_yV iX3_length 0 := ⟨zw_in_p [484, 485, 7, 486] (by decide +kernel) (by decide +kernel), ⟨by decide +kernel, by decide +kernel, by decide +kernel⟩, by decide⟩
abbrev iX3_letter : zw_I := (yX3_letter, cX3_letter, 2, some .int)
theorem vX3_letter : zw_yV iX3_letter 1 := ⟨zw_in_p [522, 523, 7, 524] (by decide +kernel) (by decide +kernel), ⟨by decide +kernel, by decide +kernel, by decide +kernel⟩, by decide⟩
abbrev iX3_clear : zw_I := (yX3_clear, cX3_clear, 1, none)
theorem vX3_clear : zw_yV iX3_clear 0 := ⟨zw_in_p [577, 578, 7, 579] (by decide +kernel) (by decide +kernel), ⟨by decide +kernel, by decide +kernel, by decide +kernel⟩, by decide⟩
abbrev iX3_add : zw_I := (yX3_add, cX3_add, 5, some .int)
theorem vX3_add : zw_yV iX3_add 1 := ⟨zw_in_p [502, 503, 7, 504] (by decide +kernel) (by decide +kernel), ⟨by decide +kernel, by decide +kernel, by decide +kernel⟩, by decide⟩
abbrev iX3_lettersTold : zw_I := (yX3_lettersTold, cX3_lettersTold, 6, some .int)
theorem sX3_lettersTold : zw_yS iX3_lettersTold 1 := ⟨zw_in_p [506, 7, 507] (by decide +kernel) (by decide +kernel), ⟨by decide +kernel, by decide +kernel, by decide +kernel⟩, by decide⟩
abbrev iX3_codeAt : zw_I := (yX3_codeAt, cX3_codeAt, 3, some .int)
theorem sX3_codeAt : zw_yS iX3_codeAt 2 := ⟨zw_in_p [509, 7, 510] (by decide +kernel) (by decide +kernel), ⟨by decide +kernel, by decide +kernel, by decide +kernel⟩, by decide⟩
abbrev iX3_wayFault : zw_I := (yX3_wayFault, cX3_wayFault, 2, some .int)
theorem vX3_wayFault : zw_yV iX3_wayFault 0 := ⟨zw_in_p [534, 535, 7, 536] (by decide +kernel) (by decide +kernel), ⟨by decide +kernel, by decide +kernel, by decide +kernel⟩, by decide⟩
abbrev iX3_wayAt : zw_I := (yX3_wayAt, cX3_wayAt, 2, some .int)
theorem vX3_wayAt : zw_yV iX3_wayAt 1 := ⟨zw_in_p [538, 539, 7, 540] (by decide +kernel) (by decide +kernel), ⟨by decide +kernel, by decide +kernel, by decide +kernel⟩, by decide⟩
abbrev iX4_init : zw_I := (yX4_init, cX4_init, 1, none)
abbrev iX4_rows : zw_I := (yX4_rows, cX4_rows, 1, some .int)
theorem vX4_rows : zw_yV iX4_rows 0 := ⟨zw_in_p [552, 553, 8, 554] (by decide +kernel) (by decide +kernel), ⟨by decide +kernel, by decide +kernel, by decide +kernel⟩, by decide⟩
abbrev iX4_columns : zw_I := (yX4_columns, cX4_columns, 1, some .int)
theorem vX4_columns : zw_yV iX4_columns 0 := ⟨zw_in_p [556, 557, 8, 558] (by decide +kernel) (by decide +kernel), ⟨by decide +kernel, by decide +kernel, by decide +kernel⟩, by decide⟩
abbrev iX4_isWhole : zw_I := (yX4_isWhole, cX4_isWhole, 2, some .boolean)
theorem vX4_isWhole : zw_yV iX4_isWhole 1 := ⟨zw_in_p [547, 548, 8, 549] (by decide +kernel) (by decide +kernel), ⟨by decide +kernel, by decide +kernel, by decide +kernel⟩, by decide⟩
abbrev iX4_faultIn : zw_I := (yX4_faultIn, cX4_faultIn, 3, some .int)
theorem vX4_faultIn : zw_yV iX4_faultIn 1 := ⟨zw_in_p [517, 518, 8, 519] (by decide +kernel) (by decide +kernel), ⟨by decide +kernel, by decide +kernel, by decide +kernel⟩, by decide⟩
abbrev iX4_takes : zw_I := (yX4_takes, cX4_takes, 4, some .boolean)
theorem vX4_takes : zw_yV iX4_takes 1 := ⟨zw_in_p [527, 2, 8, 528] (by decide +kernel) (by decide +kernel), ⟨by decide +kernel, by decide +kernel, by decide +kernel⟩, by decide⟩
abbrev iX4_endsRow : zw_I := (yX4_endsRow, cX4_endsRow, 2, some .boolean)
theorem vX4_endsRow : zw_yV iX4_endsRow 0 := ⟨zw_in_p [531, 3, 8, 532] (by decide +kernel) (by decide +kernel), ⟨by decide +kernel, by decide +kernel, by decide +kernel⟩, by decide⟩
abbrev iX5_init : zw_I := (yX5_init, cX5_init, 4, none)
abbrev iX6_init : zw_I := (yX6_init, cX6_init, 3, none)
abbrev iX7_init : zw_I := (yX7_init, cX7_init, 4, none)
abbrev iX8_init : zw_I := (yX8_init, cX8_init, 1, none)
abbrev iX8_clear : zw_I := (yX8_clear, cX8_clear, 1, none)
theorem vX8_clear : zw_yV iX8_clear 0 := ⟨zw_in_p [573, 574, 10, 575] (by decide +kernel) (by decide +kernel), ⟨by decide +kernel, by decide +kernel, by decide +kernel⟩, by decide⟩
abbrev iX8_size : zw_I := (yX8_size, cX8_size, 1, some .int)
theorem vX8_size : zw_yV iX8_size 0 := ⟨zw_in_p [377, 378, 10, 379] (by decide +kernel) (by decide +kernel), ⟨by decide +kernel, by decide +kernel, by decide +kernel⟩, by decide⟩
abbrev iX8_has : zw_I := (yX8_has, cX8_has, 2, some .boolean)
theorem vX8_has : zw_yV iX8_has 1 := ⟨zw_in_p [303, 304, 10, 305] (by decide +kernel) (by decide +kernel), ⟨by decide +kernel, by decide +kernel, by decide +kernel⟩, by decide⟩
abbrev iX8_add : zw_I := (yX8_add, cX8_add, 5, some .int)
theorem vX8_add : zw_yV iX8_add 3 := ⟨zw_in_p [591, 592, 10, 593] (by decide +kernel) (by decide +kernel), ⟨by decide +kernel, by decide +kernel, by decide +kernel⟩, by decide⟩
abbrev iX8_kind : zw_I := (yX8_kind, cX8_kind, 2, some .int)
theorem vX8_kind : zw_yV iX8_kind 1 := ⟨zw_in_p [318, 319, 10, 320] (by decide +kernel) (by decide +kernel), ⟨by decide +kernel, by decide +kernel, by decide +kernel⟩, by decide⟩
abbrev iX8_weight : zw_I := (yX8_weight, cX8_weight, 2, some .int)
theorem vX8_weight : zw_yV iX8_weight 1 := ⟨zw_in_p [322, 323, 10, 324] (by decide +kernel) (by decide +kernel), ⟨by decide +kernel, by decide +kernel, by decide +kernel⟩, by decide⟩
abbrev iX8_weighs : zw_I := (yX8_weighs, cX8_weighs, 2, some .int)
theorem vX8_weighs : zw_yV iX8_weighs 1 := ⟨zw_in_p [326, 327, 10, 328] (by decide +kernel) (by decide +kernel), ⟨by decide +kernel, by decide +kernel, by decide +kernel⟩, by decide⟩
abbrev iX8_isA : zw_I := (yX8_isA, cX8_isA, 4, some .boolean)
theorem vX8_isA : zw_yV iX8_isA 2 := ⟨zw_in_p [337, 338, 10, 339] (by decide +kernel) (by decide +kernel), ⟨by decide +kernel, by decide +kernel, by decide +kernel⟩, by decide⟩
abbrev iX8_people : zw_I := (yX8_people, cX8_people, 1, some .int)
theorem vX8_people : zw_yV iX8_people 0 := ⟨zw_in_p [473, 474, 10, 475] (by decide +kernel) (by decide +kernel), ⟨by decide +kernel, by decide +kernel, by decide +kernel⟩, by decide⟩
abbrev iX8_peopleBits : zw_I := (yX8_peopleBits, cX8_peopleBits, 3, some .int)
theorem vX8_peopleBits : zw_yV iX8_peopleBits 0 := ⟨zw_in_p [444, 445, 10, 446] (by decide +kernel) (by decide +kernel), ⟨by decide +kernel, by decide +kernel, by decide +kernel⟩, by decide⟩
abbrev iX8_place : zw_I := (yX8_place, cX8_place, 3, some .int)
theorem vX8_place : zw_yV iX8_place 2 := ⟨zw_in_p [310, 311, 10, 312] (by decide +kernel) (by decide +kernel), ⟨by decide +kernel, by decide +kernel, by decide +kernel⟩, by decide⟩
abbrev iX8_move : zw_I := (yX8_move, cX8_move, 4, none)
theorem vX8_move : zw_yV iX8_move 3 := ⟨zw_in_p [351, 352, 10, 353] (by decide +kernel) (by decide +kernel), ⟨by decide +kernel, by decide +kernel, by decide +kernel⟩, by decide⟩
abbrev iX8_moveAllDay : zw_I := (yX8_moveAllDay, cX8_moveAllDay, 4, none)
theorem vX8_moveAllDay : zw_yV iX8_moveAllDay 2 := ⟨zw_in_p [359, 360, 10, 361] (by decide +kernel) (by decide +kernel), ⟨by decide +kernel, by decide +kernel, by decide +kernel⟩, by decide⟩
abbrev iX9_init : zw_I := (yX9_init, cX9_init, 4, none)
abbrev iX10_init : zw_I := (yX10_init, cX10_init, 1, none)
abbrev iX10_letters : zw_I := (yX10_letters, cX10_letters, 3, some .int)
theorem vX10_letters : zw_yV iX10_letters 1 := ⟨zw_in_p [498, 499, 6, 500] (by decide +kernel) (by decide +kernel), ⟨by decide +kernel, by decide +kernel, by decide +kernel⟩, by decide⟩
abbrev iX10_fault : zw_I := (yX10_fault, cX10_fault, 2, some .int)
theorem vX10_fault : zw_yV iX10_fault 1 := ⟨zw_in_p [513, 514, 6, 515] (by decide +kernel) (by decide +kernel), ⟨by decide +kernel, by decide +kernel, by decide +kernel⟩, by decide⟩
abbrev iX10_plan : zw_I := (yX10_plan, cX10_plan, 1, some .int)
theorem vX10_plan : zw_yV iX10_plan 0 := ⟨zw_in_p [543, 544, 6, 545] (by decide +kernel) (by decide +kernel), ⟨by decide +kernel, by decide +kernel, by decide +kernel⟩, by decide⟩
abbrev iX10_thing : zw_I := (yX10_thing, cX10_thing, 4, some .int)
theorem vX10_thing : zw_yV iX10_thing 3 := ⟨zw_in_p [584, 585, 6, 586] (by decide +kernel) (by decide +kernel), ⟨by decide +kernel, by decide +kernel, by decide +kernel⟩, by decide⟩
abbrev iX10_about : zw_I := (yX10_about, cX10_about, 3, some .int)
theorem vX10_about : zw_yV iX10_about 2 := ⟨zw_in_p [299, 300, 6, 301] (by decide +kernel) (by decide +kernel), ⟨by decide +kernel, by decide +kernel, by decide +kernel⟩, by decide⟩
abbrev iX10_as : zw_I := (yX10_as, cX10_as, 3, some .int)
theorem vX10_as : zw_yV iX10_as 2 := ⟨zw_in_p [330, 331, 6, 332] (by decide +kernel) (by decide +kernel), ⟨by decide +kernel, by decide +kernel, by decide +kernel⟩, by decide⟩
abbrev iX10_stand : zw_I := (yX10_stand, cX10_stand, 5, some .int)
theorem vX10_stand : zw_yV iX10_stand 3 := ⟨zw_in_p [342, 343, 6, 344] (by decide +kernel) (by decide +kernel), ⟨by decide +kernel, by decide +kernel, by decide +kernel⟩, by decide⟩
abbrev iX10_put : zw_I := (yX10_put, cX10_put, 4, some .int)
theorem vX10_put : zw_yV iX10_put 2 := ⟨zw_in_p [355, 356, 6, 357] (by decide +kernel) (by decide +kernel), ⟨by decide +kernel, by decide +kernel, by decide +kernel⟩, by decide⟩
abbrev iX10_trade : zw_I := (yX10_trade, cX10_trade, 6, some .int)
theorem vX10_trade : zw_yV iX10_trade 3 := ⟨zw_in_p [364, 365, 6, 366] (by decide +kernel) (by decide +kernel), ⟨by decide +kernel, by decide +kernel, by decide +kernel⟩, by decide⟩
abbrev iX10_leans : zw_I := (yX10_leans, cX10_leans, 3, some .int)
theorem vX10_leans : zw_yV iX10_leans 2 := ⟨zw_in_p [368, 369, 6, 370] (by decide +kernel) (by decide +kernel), ⟨by decide +kernel, by decide +kernel, by decide +kernel⟩, by decide⟩
abbrev iX10_dip : zw_I := (yX10_dip, cX10_dip, 3, some .int)
theorem vX10_dip : zw_yV iX10_dip 2 := ⟨zw_in_p [397, 398, 6, 399] (by decide +kernel) (by decide +kernel), ⟨by decide +kernel, by decide +kernel, by decide +kernel⟩, by decide⟩
abbrev iX10_wet : zw_I := (yX10_wet, cX10_wet, 2, some .int)
theorem vX10_wet : zw_yV iX10_wet 1 := ⟨zw_in_p [406, 407, 6, 408] (by decide +kernel) (by decide +kernel), ⟨by decide +kernel, by decide +kernel, by decide +kernel⟩, by decide⟩
abbrev iX10_late : zw_I := (yX10_late, cX10_late, 4, some .int)
theorem vX10_late : zw_yV iX10_late 3 := ⟨zw_in_p [420, 421, 6, 422] (by decide +kernel) (by decide +kernel), ⟨by decide +kernel, by decide +kernel, by decide +kernel⟩, by decide⟩
abbrev iX10_count : zw_I := (yX10_count, cX10_count, 2, some .int)
theorem vX10_count : zw_yV iX10_count 1 := ⟨zw_in_p [460, 461, 6, 462] (by decide +kernel) (by decide +kernel), ⟨by decide +kernel, by decide +kernel, by decide +kernel⟩, by decide⟩
abbrev iX10_isQuarter : zw_I := (yX10_isQuarter, cX10_isQuarter, 1, some .boolean)
theorem sX10_isQuarter : zw_yS iX10_isQuarter 1 := ⟨zw_in_p [315, 6, 316] (by decide +kernel) (by decide +kernel), ⟨by decide +kernel, by decide +kernel, by decide +kernel⟩, by decide⟩
abbrev iX10_isKind : zw_I := (yX10_isKind, cX10_isKind, 1, some .boolean)
theorem sX10_isKind : zw_yS iX10_isKind 1 := ⟨zw_in_p [334, 6, 335] (by decide +kernel) (by decide +kernel), ⟨by decide +kernel, by decide +kernel, by decide +kernel⟩, by decide⟩
abbrev iX10_isWeight : zw_I := (yX10_isWeight, cX10_isWeight, 1, some .boolean)
theorem sX10_isWeight : zw_yS iX10_isWeight 1 := ⟨zw_in_p [588, 6, 589] (by decide +kernel) (by decide +kernel), ⟨by decide +kernel, by decide +kernel, by decide +kernel⟩, by decide⟩
abbrev iX10_asksPlace : zw_I := (yX10_asksPlace, cX10_asksPlace, 1, some .boolean)
theorem sX10_asksPlace : zw_yS iX10_asksPlace 1 := ⟨zw_in_p [307, 6, 308] (by decide +kernel) (by decide +kernel), ⟨by decide +kernel, by decide +kernel, by decide +kernel⟩, by decide⟩
abbrev iJ6_bitCount_0f7a4 : zw_I := (yJ6_bitCount_0f7a4, cJ6_bitCount_0f7a4, 1, some .int)
theorem sJ6_bitCount_0f7a4 : zw_yS iJ6_bitCount_0f7a4 1 := ⟨zw_in_p [478, 17, 479] (by decide +kernel) (by decide +kernel), ⟨by decide +kernel, by decide +kernel, by decide +kernel⟩, by decide⟩
abbrev iL_cell : zw_I := (yL_cell, cL_cell, 2, some .int)
theorem sL_cell : zw_yS iL_cell 2 := ⟨zw_in_p [488, 5, 489] (by decide +kernel) (by decide +kernel), ⟨by decide +kernel, by decide +kernel, by decide +kernel⟩, by decide⟩
abbrev iL_put : zw_I := (yL_put, cL_put, 2, some .boolean)
theorem sL_put : zw_yS iL_put 2 := ⟨zw_in_p [495, 5, 496] (by decide +kernel) (by decide +kernel), ⟨by decide +kernel, by decide +kernel, by decide +kernel⟩, by decide⟩
abbrev iL_plan : zw_I := (yL_plan, cL_plan, 9, some .boolean)
theorem sL_plan : zw_yS iL_plan 6 := ⟨zw_in_p [492, 5, 493] (by decide +kernel) (by decide +kernel), ⟨by decide +kernel, by decide +kernel, by decide +kernel⟩, by decide⟩
abbrev iL_things : zw_I := (yL_things, cL_things, 13, some .boolean)
theorem sL_things : zw_yS iL_things 6 := ⟨zw_in_p [581, 5, 582] (by decide +kernel) (by decide +kernel), ⟨by decide +kernel, by decide +kernel, by decide +kernel⟩, by decide⟩
abbrev iL_weighs : zw_I := (yL_weighs, cL_weighs, 2, some .int)
theorem sL_weighs : zw_yS iL_weighs 2 := ⟨zw_in_p [596, 5, 597] (by decide +kernel) (by decide +kernel), ⟨by decide +kernel, by decide +kernel, by decide +kernel⟩, by decide⟩
abbrev iL_east : zw_I := (yL_east, cL_east, 2, some .int)
theorem sL_east : zw_yS iL_east 2 := ⟨zw_in_p [599, 5, 600] (by decide +kernel) (by decide +kernel), ⟨by decide +kernel, by decide +kernel, by decide +kernel⟩, by decide⟩
abbrev iL_south : zw_I := (yL_south, cL_south, 2, some .int)
theorem sL_south : zw_yS iL_south 2 := ⟨zw_in_p [602, 5, 603] (by decide +kernel) (by decide +kernel), ⟨by decide +kernel, by decide +kernel, by decide +kernel⟩, by decide⟩
abbrev iL_wet : zw_I := (yL_wet, cL_wet, 7, some .int)
theorem sL_wet : zw_yS iL_wet 4 := ⟨zw_in_p [605, 5, 606] (by decide +kernel) (by decide +kernel), ⟨by decide +kernel, by decide +kernel, by decide +kernel⟩, by decide⟩
abbrev iL_wetAt : zw_I := (yL_wetAt, cL_wetAt, 8, some .int)
theorem sL_wetAt : zw_yS iL_wetAt 5 := ⟨zw_in_p [608, 5, 609] (by decide +kernel) (by decide +kernel), ⟨by decide +kernel, by decide +kernel, by decide +kernel⟩, by decide⟩
theorem lL_71 : zw_in [Cond.methodLink RL 71 yX10_about] := zw_in_p [298] (by decide +kernel) (by decide +kernel)
theorem lX10_150 : zw_in [Cond.methodLink RX10 150 yX8_has] := zw_in_p [302] (by decide +kernel) (by decide +kernel)
theorem lX10_151 : zw_in [Cond.methodLink RX10 151 yX10_asksPlace] := zw_in_p [306] (by decide +kernel) (by decide +kernel)
theorem lX10_154 : zw_in [Cond.methodLink RX10 154 yX8_place] := zw_in_p [309] (by decide +kernel) (by decide +kernel)
theorem lX8_35 : zw_in [Cond.methodLink RX8 35 yX8_has] := zw_in_p [313] (by decide +kernel) (by decide +kernel)
theorem lX10_158 : zw_in [Cond.methodLink RX10 158 yX8_kind] := zw_in_p [317] (by decide +kernel) (by decide +kernel)
theorem lX10_161 : zw_in [Cond.methodLink RX10 161 yX8_weight] := zw_in_p [321] (by decide +kernel) (by decide +kernel)
theorem lX10_164 : zw_in [Cond.methodLink RX10 164 yX8_weighs] := zw_in_p [325] (by decide +kernel) (by decide +kernel)
theorem lL_62 : zw_in [Cond.methodLink RL 62 yX10_as] := zw_in_p [329] (by decide +kernel) (by decide +kernel)
theorem lX10_141 : zw_in [Cond.methodLink RX10 141 yX10_isKind] := zw_in_p [333] (by decide +kernel) (by decide +kernel)
theorem lX10_167 : zw_in [Cond.methodLink RX10 167 yX8_isA] := zw_in_p [336] (by decide +kernel) (by decide +kernel)
theorem lX8_39 : zw_in [Cond.methodLink RX8 39 yX8_kind] := zw_in_p [340] (by decide +kernel) (by decide +kernel)
theorem lL_39 : zw_in [Cond.methodLink RL 39 yX10_stand] := zw_in_p [341] (by decide +kernel) (by decide +kernel)
theorem lX10_171 : zw_in [Cond.methodLink RX10 171 yX10_isQuarter] := zw_in_p [345] (by decide +kernel) (by decide +kernel)
theorem lX10_125 : zw_in [Cond.methodLink RX10 125 yX1_has] := zw_in_p [346] (by decide +kernel) (by decide +kernel)
theorem lX10_174 : zw_in [Cond.methodLink RX10 174 yX8_move] := zw_in_p [350] (by decide +kernel) (by decide +kernel)
theorem lL_66 : zw_in [Cond.methodLink RL 66 yX10_put] := zw_in_p [354] (by decide +kernel) (by decide +kernel)
theorem lX10_178 : zw_in [Cond.methodLink RX10 178 yX8_moveAllDay] := zw_in_p [358] (by decide +kernel) (by decide +kernel)
theorem lX8_59 : zw_in [Cond.methodLink RX8 59 yX8_move] := zw_in_p [362] (by decide +kernel) (by decide +kernel)
theorem lL_68 : zw_in [Cond.methodLink RL 68 yX10_trade] := zw_in_p [363] (by decide +kernel) (by decide +kernel)
theorem lL_74 : zw_in [Cond.methodLink RL 74 yX10_leans] := zw_in_p [367] (by decide +kernel) (by decide +kernel)
theorem lX10_182 : zw_in [Cond.methodLink RX10 182 yX0_leanEast] := zw_in_p [372] (by decide +kernel) (by decide +kernel)
theorem lX0_26 : zw_in [Cond.methodLink RX0 26 yX8_size] := zw_in_p [376] (by decide +kernel) (by decide +kernel)
theorem lX0_32 : zw_in [Cond.methodLink RX0 32 yX8_weighs] := zw_in_p [380] (by decide +kernel) (by decide +kernel)
theorem lX0_36 : zw_in [Cond.methodLink RX0 36 yX8_place] := zw_in_p [381] (by decide +kernel) (by decide +kernel)
theorem lX0_40 : zw_in [Cond.methodLink RX0 40 yX1_east] := zw_in_p [382] (by decide +kernel) (by decide +kernel)
theorem lX1_52 : zw_in [Cond.methodLink RX1 52 yX1_has] := zw_in_p [386] (by decide +kernel) (by decide +kernel)
theorem lX10_185 : zw_in [Cond.methodLink RX10 185 yX0_leanSouth] := zw_in_p [387] (by decide +kernel) (by decide +kernel)
theorem lX0_45 : zw_in [Cond.methodLink RX0 45 yX1_south] := zw_in_p [391] (by decide +kernel) (by decide +kernel)
theorem lL_79 : zw_in [Cond.methodLink RL 79 yX10_dip] := zw_in_p [396] (by decide +kernel) (by decide +kernel)
theorem lX10_189 : zw_in [Cond.methodLink RX10 189 yX1_dipOf] := zw_in_p [401] (by decide +kernel) (by decide +kernel)
theorem lL_77 : zw_in [Cond.methodLink RL 77 yX10_wet] := zw_in_p [405] (by decide +kernel) (by decide +kernel)
theorem lX10_192 : zw_in [Cond.methodLink RX10 192 yX0_wetIn] := zw_in_p [409] (by decide +kernel) (by decide +kernel)
theorem lX0_48 : zw_in [Cond.methodLink RX0 48 yX0_leanEast] := zw_in_p [413] (by decide +kernel) (by decide +kernel)
theorem lX0_51 : zw_in [Cond.methodLink RX0 51 yX0_leanSouth] := zw_in_p [414] (by decide +kernel) (by decide +kernel)
theorem lX0_54 : zw_in [Cond.methodLink RX0 54 yX1_wetDoors] := zw_in_p [415] (by decide +kernel) (by decide +kernel)
theorem lL_86 : zw_in [Cond.methodLink RL 86 yX10_late] := zw_in_p [419] (by decide +kernel) (by decide +kernel)
theorem lX10_240 : zw_in [Cond.methodLink RX10 240 yX1_hasAll] := zw_in_p [423] (by decide +kernel) (by decide +kernel)
theorem lX10_195 : zw_in [Cond.methodLink RX10 195 yX1_isThere] := zw_in_p [427] (by decide +kernel) (by decide +kernel)
theorem lX10_243 : zw_in [Cond.methodLink RX10 243 yX2_search] := zw_in_p [431] (by decide +kernel) (by decide +kernel)
theorem lX2_33 : zw_in [Cond.methodLink RX2 33 yX2_measureChanges] := zw_in_p [435] (by decide +kernel) (by decide +kernel)
theorem lX2_56 : zw_in [Cond.methodLink RX2 56 yX8_place] := zw_in_p [439] (by decide +kernel) (by decide +kernel)
theorem lX2_60 : zw_in [Cond.methodLink RX2 60 yX8_weighs] := zw_in_p [440] (by decide +kernel) (by decide +kernel)
theorem lX2_63 : zw_in [Cond.methodLink RX2 63 yX1_east] := zw_in_p [441] (by decide +kernel) (by decide +kernel)
theorem lX2_68 : zw_in [Cond.methodLink RX2 68 yX1_south] := zw_in_p [442] (by decide +kernel) (by decide +kernel)
theorem lX2_37 : zw_in [Cond.methodLink RX2 37 yX8_peopleBits] := zw_in_p [443] (by decide +kernel) (by decide +kernel)
theorem lX8_52 : zw_in [Cond.methodLink RX8 52 yX8_isA] := zw_in_p [447] (by decide +kernel) (by decide +kernel)
theorem lX2_43 : zw_in [Cond.methodLink RX2 43 yX0_leanEast] := zw_in_p [448] (by decide +kernel) (by decide +kernel)
theorem lX2_49 : zw_in [Cond.methodLink RX2 49 yX0_leanSouth] := zw_in_p [449] (by decide +kernel) (by decide +kernel)
theorem lX2_52 : zw_in [Cond.methodLink RX2 52 yX2_wetDoorsIfLate] := zw_in_p [450] (by decide +kernel) (by decide +kernel)
theorem lX2_71 : zw_in [Cond.methodLink RX2 71 yX1_wetDoors] := zw_in_p [454] (by decide +kernel) (by decide +kernel)
theorem lX10_245 : zw_in [Cond.methodLink RX10 245 yX2_found] := zw_in_p [455] (by decide +kernel) (by decide +kernel)
theorem lL_28 : zw_in [Cond.methodLink RL 28 yX10_count] := zw_in_p [459] (by decide +kernel) (by decide +kernel)
theorem lX10_122 : zw_in [Cond.methodLink RX10 122 yX1_squares] := zw_in_p [463] (by decide +kernel) (by decide +kernel)
theorem lX10_271 : zw_in [Cond.methodLink RX10 271 yX1_doors] := zw_in_p [467] (by decide +kernel) (by decide +kernel)
theorem lX10_262 : zw_in [Cond.methodLink RX10 262 yX8_size] := zw_in_p [471] (by decide +kernel) (by decide +kernel)
theorem lX10_199 : zw_in [Cond.methodLink RX10 199 yX8_people] := zw_in_p [472] (by decide +kernel) (by decide +kernel)
theorem lX8_43 : zw_in [Cond.methodLink RX8 43 yX8_peopleBits] := zw_in_p [476] (by decide +kernel) (by decide +kernel)
theorem lX8_47 : zw_in [Cond.methodLink RX8 47 yJ6_bitCount_0f7a4] := zw_in_p [477] (by decide +kernel) (by decide +kernel)
theorem lX10_89 : zw_in [Cond.methodLink RX10 89 yX3_length] := zw_in_p [483] (by decide +kernel) (by decide +kernel)
theorem lL_14 : zw_in [Cond.methodLink RL 14 yL_cell] := zw_in_p [487] (by decide +kernel) (by decide +kernel)
theorem lL_56 : zw_in [Cond.methodLink RL 56 yL_plan] := zw_in_p [491] (by decide +kernel) (by decide +kernel)
theorem lL_20 : zw_in [Cond.methodLink RL 20 yL_put] := zw_in_p [494] (by decide +kernel) (by decide +kernel)
theorem lL_8 : zw_in [Cond.methodLink RL 8 yX10_letters] := zw_in_p [497] (by decide +kernel) (by decide +kernel)
theorem lX10_85 : zw_in [Cond.methodLink RX10 85 yX3_add] := zw_in_p [501] (by decide +kernel) (by decide +kernel)
theorem lX3_19 : zw_in [Cond.methodLink RX3 19 yX3_lettersTold] := zw_in_p [505] (by decide +kernel) (by decide +kernel)
theorem lX3_23 : zw_in [Cond.methodLink RX3 23 yX3_codeAt] := zw_in_p [508] (by decide +kernel) (by decide +kernel)
theorem lL_24 : zw_in [Cond.methodLink RL 24 yX10_fault] := zw_in_p [512] (by decide +kernel) (by decide +kernel)
theorem lX10_96 : zw_in [Cond.methodLink RX10 96 yX4_faultIn] := zw_in_p [516] (by decide +kernel) (by decide +kernel)
theorem lX4_22 : zw_in [Cond.methodLink RX4 22 yX3_length] := zw_in_p [520] (by decide +kernel) (by decide +kernel)
theorem lX4_31 : zw_in [Cond.methodLink RX4 31 yX3_letter] := zw_in_p [521] (by decide +kernel) (by decide +kernel)
theorem lX4_35 : zw_in [Cond.methodLink RX4 35 yX4_takes] := zw_in_p [525] (by decide +kernel) (by decide +kernel)
theorem lX4_39 : zw_in [Cond.methodLink RX4 39 yX4_endsRow] := zw_in_p [529] (by decide +kernel) (by decide +kernel)
theorem lX10_100 : zw_in [Cond.methodLink RX10 100 yX3_wayFault] := zw_in_p [533] (by decide +kernel) (by decide +kernel)
theorem lX3_33 : zw_in [Cond.methodLink RX3 33 yX3_wayAt] := zw_in_p [537] (by decide +kernel) (by decide +kernel)
theorem lX3_37 : zw_in [Cond.methodLink RX3 37 yX3_letter] := zw_in_p [541] (by decide +kernel) (by decide +kernel)
theorem lL_31 : zw_in [Cond.methodLink RL 31 yX10_plan] := zw_in_p [542] (by decide +kernel) (by decide +kernel)
theorem lX10_103 : zw_in [Cond.methodLink RX10 103 yX4_isWhole] := zw_in_p [546] (by decide +kernel) (by decide +kernel)
theorem lX4_18 : zw_in [Cond.methodLink RX4 18 yX4_faultIn] := zw_in_p [550] (by decide +kernel) (by decide +kernel)
theorem lX10_107 : zw_in [Cond.methodLink RX10 107 yX4_rows] := zw_in_p [551] (by decide +kernel) (by decide +kernel)
theorem lX10_110 : zw_in [Cond.methodLink RX10 110 yX4_columns] := zw_in_p [555] (by decide +kernel) (by decide +kernel)
theorem lX10_113 : zw_in [Cond.methodLink RX10 113 yX1_read] := zw_in_p [559] (by decide +kernel) (by decide +kernel)
theorem lX1_34 : zw_in [Cond.methodLink RX1 34 yX3_length] := zw_in_p [563] (by decide +kernel) (by decide +kernel)
theorem lX1_40 : zw_in [Cond.methodLink RX1 40 yX3_letter] := zw_in_p [564] (by decide +kernel) (by decide +kernel)
theorem lX1_44 : zw_in [Cond.methodLink RX1 44 yX1_addSquare] := zw_in_p [565] (by decide +kernel) (by decide +kernel)
theorem lX1_48 : zw_in [Cond.methodLink RX1 48 yX1_fromCentre] := zw_in_p [569] (by decide +kernel) (by decide +kernel)
theorem lX10_117 : zw_in [Cond.methodLink RX10 117 yX8_clear] := zw_in_p [572] (by decide +kernel) (by decide +kernel)
theorem lX10_93 : zw_in [Cond.methodLink RX10 93 yX3_clear] := zw_in_p [576] (by decide +kernel) (by decide +kernel)
theorem lL_59 : zw_in [Cond.methodLink RL 59 yL_things] := zw_in_p [580] (by decide +kernel) (by decide +kernel)
theorem lL_35 : zw_in [Cond.methodLink RL 35 yX10_thing] := zw_in_p [583] (by decide +kernel) (by decide +kernel)
theorem lX10_144 : zw_in [Cond.methodLink RX10 144 yX10_isWeight] := zw_in_p [587] (by decide +kernel) (by decide +kernel)
theorem lX10_147 : zw_in [Cond.methodLink RX10 147 yX8_add] := zw_in_p [590] (by decide +kernel) (by decide +kernel)
theorem lX8_31 : zw_in [Cond.methodLink RX8 31 yX8_moveAllDay] := zw_in_p [594] (by decide +kernel) (by decide +kernel)
theorem lL_48 : zw_in [Cond.methodLink RL 48 yL_weighs] := zw_in_p [595] (by decide +kernel) (by decide +kernel)
theorem lL_42 : zw_in [Cond.methodLink RL 42 yL_east] := zw_in_p [598] (by decide +kernel) (by decide +kernel)
theorem lL_45 : zw_in [Cond.methodLink RL 45 yL_south] := zw_in_p [601] (by decide +kernel) (by decide +kernel)
theorem lL_51 : zw_in [Cond.methodLink RL 51 yL_wet] := zw_in_p [604] (by decide +kernel) (by decide +kernel)
theorem lL_82 : zw_in [Cond.methodLink RL 82 yL_wetAt] := zw_in_p [607] (by decide +kernel) (by decide +kernel)
theorem fX3_9 : zw_F RX3 9 1 0 (some (some 2)) (tyX3 0) true := ⟨3, RX3, TX3, 2, tyX3, _, oX3, by decide, zw_in_p (ws := [Cond.fieldLink RX3 9 (TX3 0).1 (TX3 0).2.1 (TX3 0).2.2.1]) [32] (by decide +kernel) (by decide +kernel) _ List.mem_cons_self, rfl, rfl, rfl, rfl⟩
theorem fX3_15 : zw_F RX3 15 1 1 (none) (tyX3 1) false := ⟨3, RX3, TX3, 2, tyX3, _, oX3, by decide, zw_in_p (ws := [Cond.fieldLink RX3 15 (TX3 1).1 (TX3 1).2.1 (TX3 1).2.2.1]) [33] (by decide +kernel) (by decide +kernel) _ List.mem_cons_self, rfl, rfl, rfl, rfl⟩
theorem fX4_9 : zw_F RX4 9 3 0 (none) (tyX4 0) false := ⟨4, RX4, TX4, 3, tyX4, _, oX4, by decide, zw_in_p (ws := [Cond.fieldLink RX4 9 (TX4 0).1 (TX4 0).2.1 (TX4 0).2.2.1]) [46] (by decide +kernel) (by decide +kernel) _ List.mem_cons_self, rfl, rfl, rfl, rfl⟩
theorem fX4_15 : zw_F RX4 15 3 1 (none) (tyX4 1) false := ⟨4, RX4, TX4, 3, tyX4, _, oX4, by decide, zw_in_p (ws := [Cond.fieldLink RX4 15 (TX4 1).1 (TX4 1).2.1 (TX4 1).2.2.1]) [47] (by decide +kernel) (by decide +kernel) _ List.mem_cons_self, rfl, rfl, rfl, rfl⟩
theorem fX4_28 : zw_F RX4 28 3 2 (none) (tyX4 2) false := ⟨4, RX4, TX4, 3, tyX4, _, oX4, by decide, zw_in_p (ws := [Cond.fieldLink RX4 28 (TX4 2).1 (TX4 2).2.1 (TX4 2).2.2.1]) [48] (by decide +kernel) (by decide +kernel) _ List.mem_cons_self, rfl, rfl, rfl, rfl⟩
theorem fX1_9 : zw_F RX1 9 4 0 (some (some 5)) (tyX1 0) true := ⟨1, RX1, TX1, 7, tyX1, _, oX1, by decide, zw_in_p (ws := [Cond.fieldLink RX1 9 (TX1 0).1 (TX1 0).2.1 (TX1 0).2.2.1]) [62] (by decide +kernel) (by decide +kernel) _ List.mem_cons_self, rfl, rfl, rfl, rfl⟩
theorem fX1_15 : zw_F RX1 15 4 1 (some (some 6)) (tyX1 1) true := ⟨1, RX1, TX1, 7, tyX1, _, oX1, by decide, zw_in_p (ws := [Cond.fieldLink RX1 15 (TX1 1).1 (TX1 1).2.1 (TX1 1).2.2.1]) [63] (by decide +kernel) (by decide +kernel) _ List.mem_cons_self, rfl, rfl, rfl, rfl⟩
theorem fX1_18 : zw_F RX1 18 4 2 (some (some 7)) (tyX1 2) true := ⟨1, RX1, TX1, 7, tyX1, _, oX1, by decide, zw_in_p (ws := [Cond.fieldLink RX1 18 (TX1 2).1 (TX1 2).2.1 (TX1 2).2.2.1]) [64] (by decide +kernel) (by decide +kernel) _ List.mem_cons_self, rfl, rfl, rfl, rfl⟩
theorem fX1_21 : zw_F RX1 21 4 3 (none) (tyX1 3) false := ⟨1, RX1, TX1, 7, tyX1, _, oX1, by decide, zw_in_p (ws := [Cond.fieldLink RX1 21 (TX1 3).1 (TX1 3).2.1 (TX1 3).2.2.1]) [65] (by decide +kernel) (by decide +kernel) _ List.mem_cons_self, rfl, rfl, rfl, rfl⟩
theorem fX1_25 : zw_F RX1 25 4 4 (none) (tyX1 4) false := ⟨1, RX1, TX1, 7, tyX1, _, oX1, by decide, zw_in_p (ws := [Cond.fieldLink RX1 25 (TX1 4).1 (TX1 4).2.1 (TX1 4).2.2.1]) [66] (by decide +kernel) (by decide +kernel) _ List.mem_cons_self, rfl, rfl, rfl, rfl⟩
theorem fX1_28 : zw_F RX1 28 4 5 (none) (tyX1 5) false := ⟨1, RX1, TX1, 7, tyX1, _, oX1, by decide, zw_in_p (ws := [Cond.fieldLink RX1 28 (TX1 5).1 (TX1 5).2.1 (TX1 5).2.2.1]) [67] (by decide +kernel) (by decide +kernel) _ List.mem_cons_self, rfl, rfl, rfl, rfl⟩
theorem fX1_31 : zw_F RX1 31 4 6 (none) (tyX1 6) false := ⟨1, RX1, TX1, 7, tyX1, _, oX1, by decide, zw_in_p (ws := [Cond.fieldLink RX1 31 (TX1 6).1 (TX1 6).2.1 (TX1 6).2.2.1]) [68] (by decide +kernel) (by decide +kernel) _ List.mem_cons_self, rfl, rfl, rfl, rfl⟩
theorem fX8_9 : zw_F RX8 9 8 0 (some (some 9)) (tyX8 0) true := ⟨8, RX8, TX8, 6, tyX8, _, oX8, by decide, zw_in_p (ws := [Cond.fieldLink RX8 9 (TX8 0).1 (TX8 0).2.1 (TX8 0).2.2.1]) [91] (by decide +kernel) (by decide +kernel) _ List.mem_cons_self, rfl, rfl, rfl, rfl⟩
theorem fX8_15 : zw_F RX8 15 8 1 (some (some 10)) (tyX8 1) true := ⟨8, RX8, TX8, 6, tyX8, _, oX8, by decide, zw_in_p (ws := [Cond.fieldLink RX8 15 (TX8 1).1 (TX8 1).2.1 (TX8 1).2.2.1]) [92] (by decide +kernel) (by decide +kernel) _ List.mem_cons_self, rfl, rfl, rfl, rfl⟩
theorem fX8_18 : zw_F RX8 18 8 2 (some (some 11)) (tyX8 2) true := ⟨8, RX8, TX8, 6, tyX8, _, oX8, by decide, zw_in_p (ws := [Cond.fieldLink RX8 18 (TX8 2).1 (TX8 2).2.1 (TX8 2).2.2.1]) [93] (by decide +kernel) (by decide +kernel) _ List.mem_cons_self, rfl, rfl, rfl, rfl⟩
theorem fX8_21 : zw_F RX8 21 8 3 (some (some 12)) (tyX8 3) true := ⟨8, RX8, TX8, 6, tyX8, _, oX8, by decide, zw_in_p (ws := [Cond.fieldLink RX8 21 (TX8 3).1 (TX8 3).2.1 (TX8 3).2.2.1]) [94] (by decide +kernel) (by decide +kernel) _ List.mem_cons_self, rfl, rfl, rfl, rfl⟩
theorem fX8_28 : zw_F RX8 28 8 4 (none) (tyX8 4) false := ⟨8, RX8, TX8, 6, tyX8, _, oX8, by decide, zw_in_p (ws := [Cond.fieldLink RX8 28 (TX8 4).1 (TX8 4).2.1 (TX8 4).2.2.1]) [95] (by decide +kernel) (by decide +kernel) _ List.mem_cons_self, rfl, rfl, rfl, rfl⟩
theorem fX8_24 : zw_F RX8 24 8 5 (none) (tyX8 5) false := ⟨8, RX8, TX8, 6, tyX8, _, oX8, by decide, zw_in_p (ws := [Cond.fieldLink RX8 24 (TX8 5).1 (TX8 5).2.1 (TX8 5).2.2.1]) [96] (by decide +kernel) (by decide +kernel) _ List.mem_cons_self, rfl, rfl, rfl, rfl⟩
theorem fX0_18 : zw_F RX0 18 13 0 (some (some 4)) (tyX0 0) true := ⟨0, RX0, TX0, 4, tyX0, _, oX0, by decide, zw_in_p (ws := [Cond.fieldLink RX0 18 (TX0 0).1 (TX0 0).2.1 (TX0 0).2.2.1]) [116] (by decide +kernel) (by decide +kernel) _ List.mem_cons_self, rfl, rfl, rfl, rfl⟩
theorem fX0_22 : zw_F RX0 22 13 1 (some (some 8)) (tyX0 1) true := ⟨0, RX0, TX0, 4, tyX0, _, oX0, by decide, zw_in_p (ws := [Cond.fieldLink RX0 22 (TX0 1).1 (TX0 1).2.1 (TX0 1).2.2.1]) [117] (by decide +kernel) (by decide +kernel) _ List.mem_cons_self, rfl, rfl, rfl, rfl⟩
theorem fX0_9 : zw_F RX0 9 13 2 (some (some 14)) (tyX0 2) true := ⟨0, RX0, TX0, 4, tyX0, _, oX0, by decide, zw_in_p (ws := [Cond.fieldLink RX0 9 (TX0 2).1 (TX0 2).2.1 (TX0 2).2.2.1]) [118] (by decide +kernel) (by decide +kernel) _ List.mem_cons_self, rfl, rfl, rfl, rfl⟩
theorem fX0_15 : zw_F RX0 15 13 3 (some (some 15)) (tyX0 3) true := ⟨0, RX0, TX0, 4, tyX0, _, oX0, by decide, zw_in_p (ws := [Cond.fieldLink RX0 15 (TX0 3).1 (TX0 3).2.1 (TX0 3).2.2.1]) [119] (by decide +kernel) (by decide +kernel) _ List.mem_cons_self, rfl, rfl, rfl, rfl⟩
theorem fX5_18 : zw_F RX5 18 16 0 (some (some 1)) (tyX5 0) true := ⟨5, RX5, TX5, 7, tyX5, _, oX5, by decide, zw_in_p (ws := [Cond.fieldLink RX5 18 (TX5 0).1 (TX5 0).2.1 (TX5 0).2.2.1]) [135] (by decide +kernel) (by decide +kernel) _ List.mem_cons_self, rfl, rfl, rfl, rfl⟩
theorem fX5_22 : zw_F RX5 22 16 1 (some (some 4)) (tyX5 1) true := ⟨5, RX5, TX5, 7, tyX5, _, oX5, by decide, zw_in_p (ws := [Cond.fieldLink RX5 22 (TX5 1).1 (TX5 1).2.1 (TX5 1).2.2.1]) [136] (by decide +kernel) (by decide +kernel) _ List.mem_cons_self, rfl, rfl, rfl, rfl⟩
theorem fX5_26 : zw_F RX5 26 16 2 (some (some 13)) (tyX5 2) true := ⟨5, RX5, TX5, 7, tyX5, _, oX5, by decide, zw_in_p (ws := [Cond.fieldLink RX5 26 (TX5 2).1 (TX5 2).2.1 (TX5 2).2.2.1]) [137] (by decide +kernel) (by decide +kernel) _ List.mem_cons_self, rfl, rfl, rfl, rfl⟩
theorem fX5_9 : zw_F RX5 9 16 3 (some (some 17)) (tyX5 3) true := ⟨5, RX5, TX5, 7, tyX5, _, oX5, by decide, zw_in_p (ws := [Cond.fieldLink RX5 9 (TX5 3).1 (TX5 3).2.1 (TX5 3).2.2.1]) [138] (by decide +kernel) (by decide +kernel) _ List.mem_cons_self, rfl, rfl, rfl, rfl⟩
theorem fX5_15 : zw_F RX5 15 16 4 (some (some 18)) (tyX5 4) true := ⟨5, RX5, TX5, 7, tyX5, _, oX5, by decide, zw_in_p (ws := [Cond.fieldLink RX5 15 (TX5 4).1 (TX5 4).2.1 (TX5 4).2.2.1]) [139] (by decide +kernel) (by decide +kernel) _ List.mem_cons_self, rfl, rfl, rfl, rfl⟩
theorem fX9_24 : zw_F RX9 24 19 0 (some (some 4)) (tyX9 0) true := ⟨9, RX9, TX9, 11, tyX9, _, oX9, by decide, zw_in_p (ws := [Cond.fieldLink RX9 24 (TX9 0).1 (TX9 0).2.1 (TX9 0).2.2.1]) [161] (by decide +kernel) (by decide +kernel) _ List.mem_cons_self, rfl, rfl, rfl, rfl⟩
theorem fX9_28 : zw_F RX9 28 19 1 (some (some 8)) (tyX9 1) true := ⟨9, RX9, TX9, 11, tyX9, _, oX9, by decide, zw_in_p (ws := [Cond.fieldLink RX9 28 (TX9 1).1 (TX9 1).2.1 (TX9 1).2.2.1]) [162] (by decide +kernel) (by decide +kernel) _ List.mem_cons_self, rfl, rfl, rfl, rfl⟩
theorem fX9_32 : zw_F RX9 32 19 2 (some (some 13)) (tyX9 2) true := ⟨9, RX9, TX9, 11, tyX9, _, oX9, by decide, zw_in_p (ws := [Cond.fieldLink RX9 32 (TX9 2).1 (TX9 2).2.1 (TX9 2).2.2.1]) [163] (by decide +kernel) (by decide +kernel) _ List.mem_cons_self, rfl, rfl, rfl, rfl⟩
theorem fX9_9 : zw_F RX9 9 19 3 (some (some 20)) (tyX9 3) true := ⟨9, RX9, TX9, 11, tyX9, _, oX9, by decide, zw_in_p (ws := [Cond.fieldLink RX9 9 (TX9 3).1 (TX9 3).2.1 (TX9 3).2.2.1]) [164] (by decide +kernel) (by decide +kernel) _ List.mem_cons_self, rfl, rfl, rfl, rfl⟩
theorem fX9_15 : zw_F RX9 15 19 4 (some (some 21)) (tyX9 4) true := ⟨9, RX9, TX9, 11, tyX9, _, oX9, by decide, zw_in_p (ws := [Cond.fieldLink RX9 15 (TX9 4).1 (TX9 4).2.1 (TX9 4).2.2.1]) [165] (by decide +kernel) (by decide +kernel) _ List.mem_cons_self, rfl, rfl, rfl, rfl⟩
theorem fX9_18 : zw_F RX9 18 19 5 (some (some 22)) (tyX9 5) true := ⟨9, RX9, TX9, 11, tyX9, _, oX9, by decide, zw_in_p (ws := [Cond.fieldLink RX9 18 (TX9 5).1 (TX9 5).2.1 (TX9 5).2.2.1]) [166] (by decide +kernel) (by decide +kernel) _ List.mem_cons_self, rfl, rfl, rfl, rfl⟩
theorem fX9_21 : zw_F RX9 21 19 6 (some (some 23)) (tyX9 6) true := ⟨9, RX9, TX9, 11, tyX9, _, oX9, by decide, zw_in_p (ws := [Cond.fieldLink RX9 21 (TX9 6).1 (TX9 6).2.1 (TX9 6).2.2.1]) [167] (by decide +kernel) (by decide +kernel) _ List.mem_cons_self, rfl, rfl, rfl, rfl⟩
theorem fX7_18 : zw_F RX7 18 24 0 (some (some 4)) (tyX7 0) true := ⟨7, RX7, TX7, 6, tyX7, _, oX7, by decide, zw_in_p (ws := [Cond.fieldLink RX7 18 (TX7 0).1 (TX7 0).2.1 (TX7 0).2.2.1]) [197] (by decide +kernel) (by decide +kernel) _ List.mem_cons_self, rfl, rfl, rfl, rfl⟩
theorem fX7_22 : zw_F RX7 22 24 1 (some (some 8)) (tyX7 1) true := ⟨7, RX7, TX7, 6, tyX7, _, oX7, by decide, zw_in_p (ws := [Cond.fieldLink RX7 22 (TX7 1).1 (TX7 1).2.1 (TX7 1).2.2.1]) [198] (by decide +kernel) (by decide +kernel) _ List.mem_cons_self, rfl, rfl, rfl, rfl⟩
theorem fX7_26 : zw_F RX7 26 24 2 (some (some 13)) (tyX7 2) true := ⟨7, RX7, TX7, 6, tyX7, _, oX7, by decide, zw_in_p (ws := [Cond.fieldLink RX7 26 (TX7 2).1 (TX7 2).2.1 (TX7 2).2.2.1]) [199] (by decide +kernel) (by decide +kernel) _ List.mem_cons_self, rfl, rfl, rfl, rfl⟩
theorem fX7_11 : zw_F RX7 11 24 3 (some (some 25)) (tyX7 3) true := ⟨7, RX7, TX7, 6, tyX7, _, oX7, by decide, zw_in_p (ws := [Cond.fieldLink RX7 11 (TX7 3).1 (TX7 3).2.1 (TX7 3).2.2.1]) [200] (by decide +kernel) (by decide +kernel) _ List.mem_cons_self, rfl, rfl, rfl, rfl⟩
theorem fX7_15 : zw_F RX7 15 24 4 (some (some 26)) (tyX7 4) true := ⟨7, RX7, TX7, 6, tyX7, _, oX7, by decide, zw_in_p (ws := [Cond.fieldLink RX7 15 (TX7 4).1 (TX7 4).2.1 (TX7 4).2.2.1]) [201] (by decide +kernel) (by decide +kernel) _ List.mem_cons_self, rfl, rfl, rfl, rfl⟩
theorem fX2_21 : zw_F RX2 21 27 0 (some (some 4)) (tyX2 0) true := ⟨2, RX2, TX2, 6, tyX2, _, oX2, by decide, zw_in_p (ws := [Cond.fieldLink RX2 21 (TX2 0).1 (TX2 0).2.1 (TX2 0).2.2.1]) [221] (by decide +kernel) (by decide +kernel) _ List.mem_cons_self, rfl, rfl, rfl, rfl⟩
theorem fX2_25 : zw_F RX2 25 27 1 (some (some 8)) (tyX2 1) true := ⟨2, RX2, TX2, 6, tyX2, _, oX2, by decide, zw_in_p (ws := [Cond.fieldLink RX2 25 (TX2 1).1 (TX2 1).2.1 (TX2 1).2.2.1]) [222] (by decide +kernel) (by decide +kernel) _ List.mem_cons_self, rfl, rfl, rfl, rfl⟩
theorem fX2_29 : zw_F RX2 29 27 2 (some (some 13)) (tyX2 2) true := ⟨2, RX2, TX2, 6, tyX2, _, oX2, by decide, zw_in_p (ws := [Cond.fieldLink RX2 29 (TX2 2).1 (TX2 2).2.1 (TX2 2).2.2.1]) [223] (by decide +kernel) (by decide +kernel) _ List.mem_cons_self, rfl, rfl, rfl, rfl⟩
theorem fX2_11 : zw_F RX2 11 27 3 (some (some 28)) (tyX2 3) true := ⟨2, RX2, TX2, 6, tyX2, _, oX2, by decide, zw_in_p (ws := [Cond.fieldLink RX2 11 (TX2 3).1 (TX2 3).2.1 (TX2 3).2.2.1]) [224] (by decide +kernel) (by decide +kernel) _ List.mem_cons_self, rfl, rfl, rfl, rfl⟩
theorem fX2_15 : zw_F RX2 15 27 4 (some (some 29)) (tyX2 4) true := ⟨2, RX2, TX2, 6, tyX2, _, oX2, by decide, zw_in_p (ws := [Cond.fieldLink RX2 15 (TX2 4).1 (TX2 4).2.1 (TX2 4).2.2.1]) [225] (by decide +kernel) (by decide +kernel) _ List.mem_cons_self, rfl, rfl, rfl, rfl⟩
theorem fX2_18 : zw_F RX2 18 27 5 (some (some 30)) (tyX2 5) true := ⟨2, RX2, TX2, 6, tyX2, _, oX2, by decide, zw_in_p (ws := [Cond.fieldLink RX2 18 (TX2 5).1 (TX2 5).2.1 (TX2 5).2.2.1]) [226] (by decide +kernel) (by decide +kernel) _ List.mem_cons_self, rfl, rfl, rfl, rfl⟩
theorem fX6_15 : zw_F RX6 15 31 0 (some (some 4)) (tyX6 0) true := ⟨6, RX6, TX6, 4, tyX6, _, oX6, by decide, zw_in_p (ws := [Cond.fieldLink RX6 15 (TX6 0).1 (TX6 0).2.1 (TX6 0).2.2.1]) [246] (by decide +kernel) (by decide +kernel) _ List.mem_cons_self, rfl, rfl, rfl, rfl⟩
theorem fX6_19 : zw_F RX6 19 31 1 (some (some 8)) (tyX6 1) true := ⟨6, RX6, TX6, 4, tyX6, _, oX6, by decide, zw_in_p (ws := [Cond.fieldLink RX6 19 (TX6 1).1 (TX6 1).2.1 (TX6 1).2.2.1]) [247] (by decide +kernel) (by decide +kernel) _ List.mem_cons_self, rfl, rfl, rfl, rfl⟩
theorem fX6_9 : zw_F RX6 9 31 2 (some (some 32)) (tyX6 2) true := ⟨6, RX6, TX6, 4, tyX6, _, oX6, by decide, zw_in_p (ws := [Cond.fieldLink RX6 9 (TX6 2).1 (TX6 2).2.1 (TX6 2).2.2.1]) [248] (by decide +kernel) (by decide +kernel) _ List.mem_cons_self, rfl, rfl, rfl, rfl⟩
theorem fX10_10 : zw_F RX10 10 0 0 (some (some 1)) (tyX10 0) true := ⟨10, RX10, TX10, 13, tyX10, _, oX10, by decide, zw_in_p (ws := [Cond.fieldLink RX10 10 (TX10 0).1 (TX10 0).2.1 (TX10 0).2.2.1]) [258] (by decide +kernel) (by decide +kernel) _ List.mem_cons_self, rfl, rfl, rfl, rfl⟩
theorem fX10_19 : zw_F RX10 19 0 1 (some (some 3)) (tyX10 1) true := ⟨10, RX10, TX10, 13, tyX10, _, oX10, by decide, zw_in_p (ws := [Cond.fieldLink RX10 19 (TX10 1).1 (TX10 1).2.1 (TX10 1).2.2.1]) [259] (by decide +kernel) (by decide +kernel) _ List.mem_cons_self, rfl, rfl, rfl, rfl⟩
theorem fX10_26 : zw_F RX10 26 0 2 (some (some 4)) (tyX10 2) true := ⟨10, RX10, TX10, 13, tyX10, _, oX10, by decide, zw_in_p (ws := [Cond.fieldLink RX10 26 (TX10 2).1 (TX10 2).2.1 (TX10 2).2.2.1]) [260] (by decide +kernel) (by decide +kernel) _ List.mem_cons_self, rfl, rfl, rfl, rfl⟩
theorem fX10_33 : zw_F RX10 33 0 3 (some (some 8)) (tyX10 3) true := ⟨10, RX10, TX10, 13, tyX10, _, oX10, by decide, zw_in_p (ws := [Cond.fieldLink RX10 33 (TX10 3).1 (TX10 3).2.1 (TX10 3).2.2.1]) [261] (by decide +kernel) (by decide +kernel) _ List.mem_cons_self, rfl, rfl, rfl, rfl⟩
theorem fX10_42 : zw_F RX10 42 0 4 (some (some 13)) (tyX10 4) true := ⟨10, RX10, TX10, 13, tyX10, _, oX10, by decide, zw_in_p (ws := [Cond.fieldLink RX10 42 (TX10 4).1 (TX10 4).2.1 (TX10 4).2.2.1]) [262] (by decide +kernel) (by decide +kernel) _ List.mem_cons_self, rfl, rfl, rfl, rfl⟩
theorem fX10_51 : zw_F RX10 51 0 5 (some (some 16)) (tyX10 5) true := ⟨10, RX10, TX10, 13, tyX10, _, oX10, by decide, zw_in_p (ws := [Cond.fieldLink RX10 51 (TX10 5).1 (TX10 5).2.1 (TX10 5).2.2.1]) [263] (by decide +kernel) (by decide +kernel) _ List.mem_cons_self, rfl, rfl, rfl, rfl⟩
theorem fX10_60 : zw_F RX10 60 0 6 (some (some 19)) (tyX10 6) true := ⟨10, RX10, TX10, 13, tyX10, _, oX10, by decide, zw_in_p (ws := [Cond.fieldLink RX10 60 (TX10 6).1 (TX10 6).2.1 (TX10 6).2.2.1]) [264] (by decide +kernel) (by decide +kernel) _ List.mem_cons_self, rfl, rfl, rfl, rfl⟩
theorem fX10_67 : zw_F RX10 67 0 7 (some (some 24)) (tyX10 7) true := ⟨10, RX10, TX10, 13, tyX10, _, oX10, by decide, zw_in_p (ws := [Cond.fieldLink RX10 67 (TX10 7).1 (TX10 7).2.1 (TX10 7).2.2.1]) [265] (by decide +kernel) (by decide +kernel) _ List.mem_cons_self, rfl, rfl, rfl, rfl⟩
theorem fX10_74 : zw_F RX10 74 0 8 (some (some 27)) (tyX10 8) true := ⟨10, RX10, TX10, 13, tyX10, _, oX10, by decide, zw_in_p (ws := [Cond.fieldLink RX10 74 (TX10 8).1 (TX10 8).2.1 (TX10 8).2.2.1]) [266] (by decide +kernel) (by decide +kernel) _ List.mem_cons_self, rfl, rfl, rfl, rfl⟩
theorem fX10_81 : zw_F RX10 81 0 9 (some (some 31)) (tyX10 9) true := ⟨10, RX10, TX10, 13, tyX10, _, oX10, by decide, zw_in_p (ws := [Cond.fieldLink RX10 81 (TX10 9).1 (TX10 9).2.1 (TX10 9).2.2.1]) [267] (by decide +kernel) (by decide +kernel) _ List.mem_cons_self, rfl, rfl, rfl, rfl⟩
theorem fX10_118 : zw_F RX10 118 0 10 (none) (tyX10 10) false := ⟨10, RX10, TX10, 13, tyX10, _, oX10, by decide, zw_in_p (ws := [Cond.fieldLink RX10 118 (TX10 10).1 (TX10 10).2.1 (TX10 10).2.2.1]) [268] (by decide +kernel) (by decide +kernel) _ List.mem_cons_self, rfl, rfl, rfl, rfl⟩
theorem fX10_202 : zw_F RX10 202 0 11 (none) (tyX10 11) false := ⟨10, RX10, TX10, 13, tyX10, _, oX10, by decide, zw_in_p (ws := [Cond.fieldLink RX10 202 (TX10 11).1 (TX10 11).2.1 (TX10 11).2.2.1]) [269] (by decide +kernel) (by decide +kernel) _ List.mem_cons_self, rfl, rfl, rfl, rfl⟩
theorem fX10_229 : zw_F RX10 229 0 12 (none) (tyX10 12) false := ⟨10, RX10, TX10, 13, tyX10, _, oX10, by decide, zw_in_p (ws := [Cond.fieldLink RX10 229 (TX10 12).1 (TX10 12).2.1 (TX10 12).2.2.1]) [270] (by decide +kernel) (by decide +kernel) _ List.mem_cons_self, rfl, rfl, rfl, rfl⟩
theorem kX10_129 : Cond.constant RX10 129 (-100101) ∈ zs_G := zw_in_p (ws := [Cond.constant RX10 129 (-100101)]) [371] (by decide +kernel) (by decide +kernel) _ List.mem_cons_self
theorem kX10_140 : Cond.constant RX10 140 (-100102) ∈ zs_G := zw_in_p (ws := [Cond.constant RX10 140 (-100102)]) [395] (by decide +kernel) (by decide +kernel) _ List.mem_cons_self
theorem kX10_188 : Cond.constant RX10 188 (-1000101) ∈ zs_G := zw_in_p (ws := [Cond.constant RX10 188 (-1000101)]) [400] (by decide +kernel) (by decide +kernel) _ List.mem_cons_self
theorem kJ6_265 : Cond.constant RJ6 265 (1431655765) ∈ zs_G := zw_in_p (ws := [Cond.constant RJ6 265 (1431655765)]) [480] (by decide +kernel) (by decide +kernel) _ List.mem_cons_self
theorem kJ6_266 : Cond.constant RJ6 266 (858993459) ∈ zs_G := zw_in_p (ws := [Cond.constant RJ6 266 (858993459)]) [481] (by decide +kernel) (by decide +kernel) _ List.mem_cons_self
theorem kJ6_267 : Cond.constant RJ6 267 (252645135) ∈ zs_G := zw_in_p (ws := [Cond.constant RJ6 267 (252645135)]) [482] (by decide +kernel) (by decide +kernel) _ List.mem_cons_self
theorem kL_7 : Cond.constant RL 7 (2147483647) ∈ zs_G := zw_in_p (ws := [Cond.constant RL 7 (2147483647)]) [490] (by decide +kernel) (by decide +kernel) _ List.mem_cons_self
theorem kX3_27 : Cond.constantLong RX3 27 (255) ∈ zs_G := zw_in_p (ws := [Cond.constantLong RX3 27 (255)]) [511] (by decide +kernel) (by decide +kernel) _ List.mem_cons_self
theorem kL_89 : Cond.constant RL 89 (-100101) ∈ zs_G := zw_in_p (ws := [Cond.constant RL 89 (-100101)]) [610] (by decide +kernel) (by decide +kernel) _ List.mem_cons_self
theorem kL_90 : Cond.constant RL 90 (-100102) ∈ zs_G := zw_in_p (ws := [Cond.constant RL 90 (-100102)]) [611] (by decide +kernel) (by decide +kernel) _ List.mem_cons_self
theorem kL_91 : Cond.constant RL 91 (-1000101) ∈ zs_G := zw_in_p (ws := [Cond.constant RL 91 (-1000101)]) [612] (by decide +kernel) (by decide +kernel) _ List.mem_cons_self
