/-! links of methods, constants -/
def R_law : String := "MostRoomsLaw"
set_option maxRecDepth 100000 in
theorem ml_L_9 : Cond.methodLink R_law 9 yX7_init ∈ gw := gw_mem (List.mem_of_getElem? (i := 87) rfl) rfl
set_option maxRecDepth 100000 in
theorem ml_X7_1 : Cond.methodLink RX7 1 objectInit ∈ gw := gw_mem (List.mem_of_getElem? (i := 90) rfl) rfl
set_option maxRecDepth 100000 in
theorem ml_X6_3 : Cond.methodLink RX6 3 objectInit ∈ gw := gw_mem (List.mem_of_getElem? (i := 100) rfl) rfl
set_option maxRecDepth 100000 in
theorem ml_X7_24 : Cond.methodLink RX7 24 yX4_init ∈ gw := gw_mem (List.mem_of_getElem? (i := 127) rfl) rfl
set_option maxRecDepth 100000 in
theorem ml_X4_3 : Cond.methodLink RX4 3 objectInit ∈ gw := gw_mem (List.mem_of_getElem? (i := 130) rfl) rfl
set_option maxRecDepth 100000 in
theorem ml_X3_3 : Cond.methodLink RX3 3 objectInit ∈ gw := gw_mem (List.mem_of_getElem? (i := 136) rfl) rfl
set_option maxRecDepth 100000 in
theorem ml_X0_5 : Cond.methodLink RX0 5 objectInit ∈ gw := gw_mem (List.mem_of_getElem? (i := 235) rfl) rfl
set_option maxRecDepth 100000 in
theorem ml_X7_51 : Cond.methodLink RX7 51 yX2_init ∈ gw := gw_mem (List.mem_of_getElem? (i := 249) rfl) rfl
set_option maxRecDepth 100000 in
theorem ml_X2_3 : Cond.methodLink RX2 3 objectInit ∈ gw := gw_mem (List.mem_of_getElem? (i := 252) rfl) rfl
set_option maxRecDepth 100000 in
theorem ml_X7_60 : Cond.methodLink RX7 60 yX1_init ∈ gw := gw_mem (List.mem_of_getElem? (i := 283) rfl) rfl
set_option maxRecDepth 100000 in
theorem ml_X1_1 : Cond.methodLink RX1 1 objectInit ∈ gw := gw_mem (List.mem_of_getElem? (i := 286) rfl) rfl
set_option maxRecDepth 100000 in
theorem ml_X5_3 : Cond.methodLink RX5 3 objectInit ∈ gw := gw_mem (List.mem_of_getElem? (i := 303) rfl) rfl
set_option maxRecDepth 100000 in
theorem ml_L_13 : Cond.methodLink R_law 13 yX7_row ∈ gw := gw_mem (List.mem_of_getElem? (i := 352) rfl) rfl
set_option maxRecDepth 100000 in
theorem ml_X7_66 : Cond.methodLink RX7 66 yX7_isRow ∈ gw := gw_mem (List.mem_of_getElem? (i := 356) rfl) rfl
set_option maxRecDepth 100000 in
theorem ml_X7_71 : Cond.methodLink RX7 71 yX7_found ∈ gw := gw_mem (List.mem_of_getElem? (i := 360) rfl) rfl
set_option maxRecDepth 100000 in
theorem ml_X7_75 : Cond.methodLink RX7 75 yX5_make ∈ gw := gw_mem (List.mem_of_getElem? (i := 365) rfl) rfl
set_option maxRecDepth 100000 in
theorem ml_L_18 : Cond.methodLink R_law 18 yX7_set ∈ gw := gw_mem (List.mem_of_getElem? (i := 369) rfl) rfl
set_option maxRecDepth 100000 in
theorem ml_X7_87 : Cond.methodLink RX7 87 yX5_holds ∈ gw := gw_mem (List.mem_of_getElem? (i := 373) rfl) rfl
set_option maxRecDepth 100000 in
theorem ml_X7_91 : Cond.methodLink RX7 91 yX5_put ∈ gw := gw_mem (List.mem_of_getElem? (i := 377) rfl) rfl
set_option maxRecDepth 100000 in
theorem ml_L_22 : Cond.methodLink R_law 22 yX7_copy ∈ gw := gw_mem (List.mem_of_getElem? (i := 381) rfl) rfl
set_option maxRecDepth 100000 in
theorem ml_X7_102 : Cond.methodLink RX7 102 arraycopyName ∈ gw := gw_mem (List.mem_of_getElem? (i := 385) rfl) rfl
set_option maxRecDepth 100000 in
theorem ml_L_27 : Cond.methodLink R_law 27 yX7_drop ∈ gw := gw_mem (List.mem_of_getElem? (i := 388) rfl) rfl
set_option maxRecDepth 100000 in
theorem ml_L_34 : Cond.methodLink R_law 34 yX7_feed ∈ gw := gw_mem (List.mem_of_getElem? (i := 392) rfl) rfl
set_option maxRecDepth 100000 in
theorem ml_X7_113 : Cond.methodLink RX7 113 yX6_append ∈ gw := gw_mem (List.mem_of_getElem? (i := 397) rfl) rfl
set_option maxRecDepth 100000 in
theorem ml_L_39 : Cond.methodLink R_law 39 yX7_house ∈ gw := gw_mem (List.mem_of_getElem? (i := 401) rfl) rfl
set_option maxRecDepth 100000 in
theorem ml_X7_117 : Cond.methodLink RX7 117 yX4_readTape ∈ gw := gw_mem (List.mem_of_getElem? (i := 405) rfl) rfl
set_option maxRecDepth 100000 in
theorem ml_X4_22 : Cond.methodLink RX4 22 yX3_clear ∈ gw := gw_mem (List.mem_of_getElem? (i := 409) rfl) rfl
set_option maxRecDepth 100000 in
theorem ml_X4_32 : Cond.methodLink RX4 32 yX6_rewind ∈ gw := gw_mem (List.mem_of_getElem? (i := 413) rfl) rfl
set_option maxRecDepth 100000 in
theorem ml_X6_22 : Cond.methodLink RX6 22 yX6_step ∈ gw := gw_mem (List.mem_of_getElem? (i := 417) rfl) rfl
set_option maxRecDepth 100000 in
theorem ml_X6_25 : Cond.methodLink RX6 25 yX6_isBlank ∈ gw := gw_mem (List.mem_of_getElem? (i := 421) rfl) rfl
set_option maxRecDepth 100000 in
theorem ml_X6_35 : Cond.methodLink RX6 35 yX6_isLetter ∈ gw := gw_mem (List.mem_of_getElem? (i := 424) rfl) rfl
set_option maxRecDepth 100000 in
theorem ml_X6_38 : Cond.methodLink RX6 38 yX6_passLetters ∈ gw := gw_mem (List.mem_of_getElem? (i := 427) rfl) rfl
set_option maxRecDepth 100000 in
theorem ml_X6_41 : Cond.methodLink RX6 41 yX6_isFigure ∈ gw := gw_mem (List.mem_of_getElem? (i := 431) rfl) rfl
set_option maxRecDepth 100000 in
theorem ml_X6_44 : Cond.methodLink RX6 44 yX6_passFigures ∈ gw := gw_mem (List.mem_of_getElem? (i := 434) rfl) rfl
set_option maxRecDepth 100000 in
theorem ml_X4_37 : Cond.methodLink RX4 37 yX4_readRoom ∈ gw := gw_mem (List.mem_of_getElem? (i := 438) rfl) rfl
set_option maxRecDepth 100000 in
theorem ml_X4_64 : Cond.methodLink RX4 64 yX4_readWord ∈ gw := gw_mem (List.mem_of_getElem? (i := 443) rfl) rfl
set_option maxRecDepth 100000 in
theorem ml_X4_49 : Cond.methodLink RX4 49 yX6_isWord ∈ gw := gw_mem (List.mem_of_getElem? (i := 447) rfl) rfl
set_option maxRecDepth 100000 in
theorem ml_X6_47 : Cond.methodLink RX6 47 ⟨"java/lang/String", "length", "()I"⟩ ∈ gw := gw_mem (List.mem_of_getElem? (i := 451) rfl) rfl
set_option maxRecDepth 100000 in
theorem ml_X6_53 : Cond.methodLink RX6 53 ⟨"java/lang/String", "charAt", "(I)C"⟩ ∈ gw := gw_mem (List.mem_of_getElem? (i := 461) rfl) rfl
set_option maxRecDepth 100000 in
theorem ml_X4_95 : Cond.methodLink RX4 95 yX4_failed ∈ gw := gw_mem (List.mem_of_getElem? (i := 499) rfl) rfl
set_option maxRecDepth 100000 in
theorem ml_X4_99 : Cond.methodLink RX4 99 yX6_step ∈ gw := gw_mem (List.mem_of_getElem? (i := 503) rfl) rfl
set_option maxRecDepth 100000 in
theorem ml_X4_71 : Cond.methodLink RX4 71 yX4_readNumber ∈ gw := gw_mem (List.mem_of_getElem? (i := 504) rfl) rfl
set_option maxRecDepth 100000 in
theorem ml_X4_75 : Cond.methodLink RX4 75 yX4_readEnd ∈ gw := gw_mem (List.mem_of_getElem? (i := 508) rfl) rfl
set_option maxRecDepth 100000 in
theorem ml_X4_44 : Cond.methodLink RX4 44 yX4_readPart ∈ gw := gw_mem (List.mem_of_getElem? (i := 512) rfl) rfl
set_option maxRecDepth 100000 in
theorem ml_X4_55 : Cond.methodLink RX4 55 yX4_readDoor ∈ gw := gw_mem (List.mem_of_getElem? (i := 517) rfl) rfl
set_option maxRecDepth 100000 in
theorem ml_X4_82 : Cond.methodLink RX4 82 yX3_putDoor ∈ gw := gw_mem (List.mem_of_getElem? (i := 521) rfl) rfl
set_option maxRecDepth 100000 in
theorem ml_X4_58 : Cond.methodLink RX4 58 yX4_readCrowd ∈ gw := gw_mem (List.mem_of_getElem? (i := 525) rfl) rfl
set_option maxRecDepth 100000 in
theorem ml_X4_91 : Cond.methodLink RX4 91 yX4_sortNamed ∈ gw := gw_mem (List.mem_of_getElem? (i := 530) rfl) rfl
set_option maxRecDepth 100000 in
theorem ml_X7_132 : Cond.methodLink RX7 132 yX3_take ∈ gw := gw_mem (List.mem_of_getElem? (i := 540) rfl) rfl
set_option maxRecDepth 100000 in
theorem ml_X3_52 : Cond.methodLink RX3 52 arraycopyName ∈ gw := gw_mem (List.mem_of_getElem? (i := 544) rfl) rfl
set_option maxRecDepth 100000 in
theorem ml_X7_135 : Cond.methodLink RX7 135 yX0_forgetAll ∈ gw := gw_mem (List.mem_of_getElem? (i := 545) rfl) rfl
set_option maxRecDepth 100000 in
theorem ml_L_44 : Cond.methodLink R_law 44 yX7_fault ∈ gw := gw_mem (List.mem_of_getElem? (i := 550) rfl) rfl
set_option maxRecDepth 100000 in
theorem ml_L_48 : Cond.methodLink R_law 48 yX7_bell ∈ gw := gw_mem (List.mem_of_getElem? (i := 554) rfl) rfl
set_option maxRecDepth 100000 in
theorem ml_X7_145 : Cond.methodLink RX7 145 yX0_keep ∈ gw := gw_mem (List.mem_of_getElem? (i := 559) rfl) rfl
set_option maxRecDepth 100000 in
theorem ml_X0_24 : Cond.methodLink RX0 24 arraycopyName ∈ gw := gw_mem (List.mem_of_getElem? (i := 563) rfl) rfl
set_option maxRecDepth 100000 in
theorem ml_X0_45 : Cond.methodLink RX0 45 Lib.Math.min.name ∈ gw := gw_mem (List.mem_of_getElem? (i := 564) rfl) rfl
set_option maxRecDepth 100000 in
theorem ml_X7_148 : Cond.methodLink RX7 148 yX3_ring ∈ gw := gw_mem (List.mem_of_getElem? (i := 567) rfl) rfl
set_option maxRecDepth 100000 in
theorem ml_X3_61 : Cond.methodLink RX3 61 yX3_countHeads ∈ gw := gw_mem (List.mem_of_getElem? (i := 571) rfl) rfl
set_option maxRecDepth 100000 in
theorem ml_X3_64 : Cond.methodLink RX3 64 yX3_goalOf ∈ gw := gw_mem (List.mem_of_getElem? (i := 575) rfl) rfl
set_option maxRecDepth 100000 in
theorem ml_L_52 : Cond.methodLink R_law 52 yX7_bells ∈ gw := gw_mem (List.mem_of_getElem? (i := 579) rfl) rfl
set_option maxRecDepth 100000 in
theorem ml_X7_155 : Cond.methodLink RX7 155 yX5_holdsSets ∈ gw := gw_mem (List.mem_of_getElem? (i := 583) rfl) rfl
set_option maxRecDepth 100000 in
theorem ml_X7_159 : Cond.methodLink RX7 159 yX7_tooManyHeads ∈ gw := gw_mem (List.mem_of_getElem? (i := 587) rfl) rfl
set_option maxRecDepth 100000 in
theorem ml_X7_256 : Cond.methodLink RX7 256 yX5_countBit ∈ gw := gw_mem (List.mem_of_getElem? (i := 591) rfl) rfl
set_option maxRecDepth 100000 in
theorem ml_X7_163 : Cond.methodLink RX7 163 yX3_addHeads ∈ gw := gw_mem (List.mem_of_getElem? (i := 595) rfl) rfl
set_option maxRecDepth 100000 in
theorem ml_X7_167 : Cond.methodLink RX7 167 yX3_allHeads ∈ gw := gw_mem (List.mem_of_getElem? (i := 599) rfl) rfl
set_option maxRecDepth 100000 in
theorem ml_L_56 : Cond.methodLink R_law 56 yX7_door ∈ gw := gw_mem (List.mem_of_getElem? (i := 603) rfl) rfl
set_option maxRecDepth 100000 in
theorem ml_X7_170 : Cond.methodLink RX7 170 yX3_isRoom ∈ gw := gw_mem (List.mem_of_getElem? (i := 607) rfl) rfl
set_option maxRecDepth 100000 in
theorem ml_X7_173 : Cond.methodLink RX7 173 yX3_doorBetween ∈ gw := gw_mem (List.mem_of_getElem? (i := 611) rfl) rfl
set_option maxRecDepth 100000 in
theorem ml_X7_176 : Cond.methodLink RX7 176 yX3_putDoor ∈ gw := gw_mem (List.mem_of_getElem? (i := 615) rfl) rfl
set_option maxRecDepth 100000 in
theorem ml_L_60 : Cond.methodLink R_law 60 yX7_heads ∈ gw := gw_mem (List.mem_of_getElem? (i := 616) rfl) rfl
set_option maxRecDepth 100000 in
theorem ml_X7_180 : Cond.methodLink RX7 180 yX3_isCrowd ∈ gw := gw_mem (List.mem_of_getElem? (i := 620) rfl) rfl
set_option maxRecDepth 100000 in
theorem ml_L_65 : Cond.methodLink R_law 65 yX7_undo ∈ gw := gw_mem (List.mem_of_getElem? (i := 624) rfl) rfl
set_option maxRecDepth 100000 in
theorem ml_X7_189 : Cond.methodLink RX7 189 yX0_takeBack ∈ gw := gw_mem (List.mem_of_getElem? (i := 628) rfl) rfl
set_option maxRecDepth 100000 in
theorem ml_L_69 : Cond.methodLink R_law 69 yX7_crowd ∈ gw := gw_mem (List.mem_of_getElem? (i := 632) rfl) rfl
set_option maxRecDepth 100000 in
theorem ml_L_73 : Cond.methodLink R_law 73 yX7_room ∈ gw := gw_mem (List.mem_of_getElem? (i := 636) rfl) rfl
set_option maxRecDepth 100000 in
theorem ml_X7_198 : Cond.methodLink RX7 198 yX3_headsIn ∈ gw := gw_mem (List.mem_of_getElem? (i := 640) rfl) rfl
set_option maxRecDepth 100000 in
theorem ml_L_77 : Cond.methodLink R_law 77 yX7_ahead ∈ gw := gw_mem (List.mem_of_getElem? (i := 644) rfl) rfl
set_option maxRecDepth 100000 in
theorem ml_X7_204 : Cond.methodLink RX7 204 yX2_whereBehind ∈ gw := gw_mem (List.mem_of_getElem? (i := 648) rfl) rfl
set_option maxRecDepth 100000 in
theorem ml_X2_28 : Cond.methodLink RX2 28 yX3_take ∈ gw := gw_mem (List.mem_of_getElem? (i := 652) rfl) rfl
set_option maxRecDepth 100000 in
theorem ml_X2_32 : Cond.methodLink RX2 32 yX2_ringTimes ∈ gw := gw_mem (List.mem_of_getElem? (i := 653) rfl) rfl
set_option maxRecDepth 100000 in
theorem ml_X2_43 : Cond.methodLink RX2 43 yX3_ring ∈ gw := gw_mem (List.mem_of_getElem? (i := 657) rfl) rfl
set_option maxRecDepth 100000 in
theorem ml_L_81 : Cond.methodLink R_law 81 yX7_roomAhead ∈ gw := gw_mem (List.mem_of_getElem? (i := 658) rfl) rfl
set_option maxRecDepth 100000 in
theorem ml_X7_207 : Cond.methodLink RX7 207 yX2_headsBehind ∈ gw := gw_mem (List.mem_of_getElem? (i := 662) rfl) rfl
set_option maxRecDepth 100000 in
theorem ml_X2_39 : Cond.methodLink RX2 39 yX3_headsIn ∈ gw := gw_mem (List.mem_of_getElem? (i := 666) rfl) rfl
set_option maxRecDepth 100000 in
theorem ml_X7_210 : Cond.methodLink RX7 210 yX2_worth ∈ gw := gw_mem (List.mem_of_getElem? (i := 667) rfl) rfl
set_option maxRecDepth 100000 in
theorem ml_X2_50 : Cond.methodLink RX2 50 Lib.Math.min.name ∈ gw := gw_mem (List.mem_of_getElem? (i := 671) rfl) rfl
set_option maxRecDepth 100000 in
theorem ml_L_85 : Cond.methodLink R_law 85 yX7_rest ∈ gw := gw_mem (List.mem_of_getElem? (i := 672) rfl) rfl
set_option maxRecDepth 100000 in
theorem ml_X7_213 : Cond.methodLink RX7 213 yX2_bellsToRest ∈ gw := gw_mem (List.mem_of_getElem? (i := 676) rfl) rfl
set_option maxRecDepth 100000 in
theorem ml_X7_216 : Cond.methodLink RX7 216 yX2_bellsToRing ∈ gw := gw_mem (List.mem_of_getElem? (i := 681) rfl) rfl
set_option maxRecDepth 100000 in
theorem ml_X2_57 : Cond.methodLink RX2 57 yX2_allAsNow ∈ gw := gw_mem (List.mem_of_getElem? (i := 685) rfl) rfl
set_option maxRecDepth 100000 in
theorem ml_L_89 : Cond.methodLink R_law 89 yX7_hired ∈ gw := gw_mem (List.mem_of_getElem? (i := 689) rfl) rfl
set_option maxRecDepth 100000 in
theorem ml_X7_219 : Cond.methodLink RX7 219 yX7_fewest ∈ gw := gw_mem (List.mem_of_getElem? (i := 693) rfl) rfl
set_option maxRecDepth 100000 in
theorem ml_X7_259 : Cond.methodLink RX7 259 yX2_findHired ∈ gw := gw_mem (List.mem_of_getElem? (i := 697) rfl) rfl
set_option maxRecDepth 100000 in
theorem ml_X2_65 : Cond.methodLink RX2 65 yX2_succeeds ∈ gw := gw_mem (List.mem_of_getElem? (i := 701) rfl) rfl
set_option maxRecDepth 100000 in
theorem ml_X2_105 : Cond.methodLink RX2 105 yX3_hire ∈ gw := gw_mem (List.mem_of_getElem? (i := 705) rfl) rfl
set_option maxRecDepth 100000 in
theorem ml_L_93 : Cond.methodLink R_law 93 yX7_empty ∈ gw := gw_mem (List.mem_of_getElem? (i := 710) rfl) rfl
set_option maxRecDepth 100000 in
theorem ml_L_97 : Cond.methodLink R_law 97 yX7_apart ∈ gw := gw_mem (List.mem_of_getElem? (i := 714) rfl) rfl
set_option maxRecDepth 100000 in
theorem ml_X7_223 : Cond.methodLink RX7 223 yX2_doorToShut ∈ gw := gw_mem (List.mem_of_getElem? (i := 718) rfl) rfl
set_option maxRecDepth 100000 in
theorem ml_X2_75 : Cond.methodLink RX2 75 yX2_meet ∈ gw := gw_mem (List.mem_of_getElem? (i := 722) rfl) rfl
set_option maxRecDepth 100000 in
theorem ml_X2_79 : Cond.methodLink RX2 79 yX3_doorBetween ∈ gw := gw_mem (List.mem_of_getElem? (i := 726) rfl) rfl
set_option maxRecDepth 100000 in
theorem ml_X2_82 : Cond.methodLink RX2 82 yX2_partedBy ∈ gw := gw_mem (List.mem_of_getElem? (i := 727) rfl) rfl
set_option maxRecDepth 100000 in
theorem ml_X2_112 : Cond.methodLink RX2 112 yX3_putDoor ∈ gw := gw_mem (List.mem_of_getElem? (i := 731) rfl) rfl
set_option maxRecDepth 100000 in
theorem ml_L_101 : Cond.methodLink R_law 101 yX7_began ∈ gw := gw_mem (List.mem_of_getElem? (i := 732) rfl) rfl
set_option maxRecDepth 100000 in
theorem ml_X7_227 : Cond.methodLink RX7 227 yX2_findBeginnings ∈ gw := gw_mem (List.mem_of_getElem? (i := 736) rfl) rfl
set_option maxRecDepth 100000 in
theorem ml_X2_89 : Cond.methodLink RX2 89 yX2_findSources ∈ gw := gw_mem (List.mem_of_getElem? (i := 740) rfl) rfl
set_option maxRecDepth 100000 in
theorem ml_X2_116 : Cond.methodLink RX2 116 yX2_seenFrom ∈ gw := gw_mem (List.mem_of_getElem? (i := 744) rfl) rfl
set_option maxRecDepth 100000 in
theorem ml_X2_95 : Cond.methodLink RX2 95 yX2_canBegin ∈ gw := gw_mem (List.mem_of_getElem? (i := 748) rfl) rfl
set_option maxRecDepth 100000 in
theorem ml_X2_102 : Cond.methodLink RX2 102 yX2_countWay ∈ gw := gw_mem (List.mem_of_getElem? (i := 752) rfl) rfl
set_option maxRecDepth 100000 in
theorem ml_X2_122 : Cond.methodLink RX2 122 arraycopyName ∈ gw := gw_mem (List.mem_of_getElem? (i := 756) rfl) rfl
set_option maxRecDepth 100000 in
theorem ml_L_105 : Cond.methodLink R_law 105 yX7_image ∈ gw := gw_mem (List.mem_of_getElem? (i := 757) rfl) rfl
set_option maxRecDepth 100000 in
theorem ml_L_109 : Cond.methodLink R_law 109 yX7_restore ∈ gw := gw_mem (List.mem_of_getElem? (i := 761) rfl) rfl
set_option maxRecDepth 100000 in
theorem ml_L_113 : Cond.methodLink R_law 113 yX7_kind ∈ gw := gw_mem (List.mem_of_getElem? (i := 765) rfl) rfl
set_option maxRecDepth 100000 in
theorem ml_L_117 : Cond.methodLink R_law 117 yX7_as ∈ gw := gw_mem (List.mem_of_getElem? (i := 769) rfl) rfl
set_option maxRecDepth 100000 in
theorem ml_X7_240 : Cond.methodLink RX7 240 yX7_isA ∈ gw := gw_mem (List.mem_of_getElem? (i := 773) rfl) rfl
set_option maxRecDepth 100000 in
theorem ml_L_121 : Cond.methodLink R_law 121 yX7_ask ∈ gw := gw_mem (List.mem_of_getElem? (i := 778) rfl) rfl
set_option maxRecDepth 100000 in
theorem ml_X7_243 : Cond.methodLink RX7 243 yX1_askAnew ∈ gw := gw_mem (List.mem_of_getElem? (i := 782) rfl) rfl
set_option maxRecDepth 100000 in
theorem ml_X1_21 : Cond.methodLink RX1 21 yX1_answer ∈ gw := gw_mem (List.mem_of_getElem? (i := 786) rfl) rfl
set_option maxRecDepth 100000 in
theorem ml_X1_38 : Cond.methodLink RX1 38 yX1_nearestBody ∈ gw := gw_mem (List.mem_of_getElem? (i := 794) rfl) rfl
set_option maxRecDepth 100000 in
theorem ml_X1_42 : Cond.methodLink RX1 42 yX1_runBody ∈ gw := gw_mem (List.mem_of_getElem? (i := 798) rfl) rfl
set_option maxRecDepth 100000 in
theorem ml_X1_45 : Cond.methodLink RX1 45 yX1_leave ∈ gw := gw_mem (List.mem_of_getElem? (i := 802) rfl) rfl
set_option maxRecDepth 100000 in
theorem ml_L_125 : Cond.methodLink R_law 125 yX7_trace ∈ gw := gw_mem (List.mem_of_getElem? (i := 806) rfl) rfl
set_option maxRecDepth 100000 in
theorem ml_L_129 : Cond.methodLink R_law 129 yX7_count ∈ gw := gw_mem (List.mem_of_getElem? (i := 810) rfl) rfl
set_option maxRecDepth 100000 in
theorem ml_X7_252 : Cond.methodLink RX7 252 yX7_countRows ∈ gw := gw_mem (List.mem_of_getElem? (i := 814) rfl) rfl
set_option maxRecDepth 100000 in
theorem ml_L_133 : Cond.methodLink R_law 133 yX7_status ∈ gw := gw_mem (List.mem_of_getElem? (i := 818) rfl) rfl
set_option maxRecDepth 100000 in
theorem ml_L_12 : Cond.methodLink R_law 12 yX8_init ∈ gw := gw_mem (List.mem_of_getElem? (i := 824) rfl) rfl
set_option maxRecDepth 100000 in
theorem ml_X8_1 : Cond.methodLink RX8 1 objectInit ∈ gw := gw_mem (List.mem_of_getElem? (i := 827) rfl) rfl
set_option maxRecDepth 100000 in
theorem ml_L_17 : Cond.methodLink R_law 17 yX8_row ∈ gw := gw_mem (List.mem_of_getElem? (i := 926) rfl) rfl
set_option maxRecDepth 100000 in
theorem ml_X8_73 : Cond.methodLink RX8 73 yX8_isRow ∈ gw := gw_mem (List.mem_of_getElem? (i := 930) rfl) rfl
set_option maxRecDepth 100000 in
theorem ml_X8_69 : Cond.methodLink RX8 69 yX8_in ∈ gw := gw_mem (List.mem_of_getElem? (i := 934) rfl) rfl
set_option maxRecDepth 100000 in
theorem ml_X8_80 : Cond.methodLink RX8 80 yX8_finding ∈ gw := gw_mem (List.mem_of_getElem? (i := 939) rfl) rfl
set_option maxRecDepth 100000 in
theorem ml_L_21 : Cond.methodLink R_law 21 yX8_set ∈ gw := gw_mem (List.mem_of_getElem? (i := 944) rfl) rfl
set_option maxRecDepth 100000 in
theorem ml_L_26 : Cond.methodLink R_law 26 yX8_copy ∈ gw := gw_mem (List.mem_of_getElem? (i := 948) rfl) rfl
set_option maxRecDepth 100000 in
theorem ml_L_31 : Cond.methodLink R_law 31 yX8_drop ∈ gw := gw_mem (List.mem_of_getElem? (i := 952) rfl) rfl
set_option maxRecDepth 100000 in
theorem ml_L_38 : Cond.methodLink R_law 38 yX8_feed ∈ gw := gw_mem (List.mem_of_getElem? (i := 956) rfl) rfl
set_option maxRecDepth 100000 in
theorem ml_L_43 : Cond.methodLink R_law 43 yX8_house ∈ gw := gw_mem (List.mem_of_getElem? (i := 963) rfl) rfl
set_option maxRecDepth 100000 in
theorem ml_X8_167 : Cond.methodLink RX8 167 yX8_begin ∈ gw := gw_mem (List.mem_of_getElem? (i := 967) rfl) rfl
set_option maxRecDepth 100000 in
theorem ml_X8_120 : Cond.methodLink RX8 120 yX8_next ∈ gw := gw_mem (List.mem_of_getElem? (i := 971) rfl) rfl
set_option maxRecDepth 100000 in
theorem ml_X8_99 : Cond.methodLink RX8 99 yX8_byteAt ∈ gw := gw_mem (List.mem_of_getElem? (i := 975) rfl) rfl
set_option maxRecDepth 100000 in
theorem ml_X8_108 : Cond.methodLink RX8 108 yX8_isLetter ∈ gw := gw_mem (List.mem_of_getElem? (i := 980) rfl) rfl
set_option maxRecDepth 100000 in
theorem ml_X8_111 : Cond.methodLink RX8 111 yX8_isFigure ∈ gw := gw_mem (List.mem_of_getElem? (i := 983) rfl) rfl
set_option maxRecDepth 100000 in
theorem ml_X8_159 : Cond.methodLink RX8 159 yX8_name ∈ gw := gw_mem (List.mem_of_getElem? (i := 986) rfl) rfl
set_option maxRecDepth 100000 in
theorem ml_X8_126 : Cond.methodLink RX8 126 yX8_bad ∈ gw := gw_mem (List.mem_of_getElem? (i := 991) rfl) rfl
set_option maxRecDepth 100000 in
theorem ml_X8_172 : Cond.methodLink RX8 172 yX8_readRoom ∈ gw := gw_mem (List.mem_of_getElem? (i := 995) rfl) rfl
set_option maxRecDepth 100000 in
theorem ml_X8_148 : Cond.methodLink RX8 148 yX8_begins ∈ gw := gw_mem (List.mem_of_getElem? (i := 999) rfl) rfl
set_option maxRecDepth 100000 in
theorem ml_X8_134 : Cond.methodLink RX8 134 yX8_must ∈ gw := gw_mem (List.mem_of_getElem? (i := 1003) rfl) rfl
set_option maxRecDepth 100000 in
theorem ml_X8_152 : Cond.methodLink RX8 152 yX8_number ∈ gw := gw_mem (List.mem_of_getElem? (i := 1007) rfl) rfl
set_option maxRecDepth 100000 in
theorem ml_X8_130 : Cond.methodLink RX8 130 yX8_figures ∈ gw := gw_mem (List.mem_of_getElem? (i := 1011) rfl) rfl
set_option maxRecDepth 100000 in
theorem ml_X8_156 : Cond.methodLink RX8 156 yX8_mustEnd ∈ gw := gw_mem (List.mem_of_getElem? (i := 1015) rfl) rfl
set_option maxRecDepth 100000 in
theorem ml_X8_177 : Cond.methodLink RX8 177 yX8_readDoor ∈ gw := gw_mem (List.mem_of_getElem? (i := 1020) rfl) rfl
set_option maxRecDepth 100000 in
theorem ml_X8_182 : Cond.methodLink RX8 182 yX8_readCrowd ∈ gw := gw_mem (List.mem_of_getElem? (i := 1025) rfl) rfl
set_option maxRecDepth 100000 in
theorem ml_X8_163 : Cond.methodLink RX8 163 yX8_kindBy ∈ gw := gw_mem (List.mem_of_getElem? (i := 1029) rfl) rfl
set_option maxRecDepth 100000 in
theorem ml_L_47 : Cond.methodLink R_law 47 yX8_fault ∈ gw := gw_mem (List.mem_of_getElem? (i := 1038) rfl) rfl
set_option maxRecDepth 100000 in
theorem ml_L_51 : Cond.methodLink R_law 51 yX8_bell ∈ gw := gw_mem (List.mem_of_getElem? (i := 1042) rfl) rfl
set_option maxRecDepth 100000 in
theorem ml_X8_222 : Cond.methodLink RX8 222 yX8_isThere ∈ gw := gw_mem (List.mem_of_getElem? (i := 1046) rfl) rfl
set_option maxRecDepth 100000 in
theorem ml_X8_227 : Cond.methodLink RX8 227 yX8_ring ∈ gw := gw_mem (List.mem_of_getElem? (i := 1051) rfl) rfl
set_option maxRecDepth 100000 in
theorem ml_X8_216 : Cond.methodLink RX8 216 yX8_keep ∈ gw := gw_mem (List.mem_of_getElem? (i := 1055) rfl) rfl
set_option maxRecDepth 100000 in
theorem ml_X8_219 : Cond.methodLink RX8 219 yX8_layNow ∈ gw := gw_mem (List.mem_of_getElem? (i := 1059) rfl) rfl
set_option maxRecDepth 100000 in
theorem ml_X8_201 : Cond.methodLink RX8 201 yX8_of ∈ gw := gw_mem (List.mem_of_getElem? (i := 1063) rfl) rfl
set_option maxRecDepth 100000 in
theorem ml_X8_213 : Cond.methodLink RX8 213 yX8_goBell ∈ gw := gw_mem (List.mem_of_getElem? (i := 1067) rfl) rfl
set_option maxRecDepth 100000 in
theorem ml_X8_207 : Cond.methodLink RX8 207 yX8_layCounts ∈ gw := gw_mem (List.mem_of_getElem? (i := 1071) rfl) rfl
set_option maxRecDepth 100000 in
theorem ml_X8_210 : Cond.methodLink RX8 210 yX8_goesTo ∈ gw := gw_mem (List.mem_of_getElem? (i := 1075) rfl) rfl
set_option maxRecDepth 100000 in
theorem ml_X8_204 : Cond.methodLink RX8 204 yX8_draws ∈ gw := gw_mem (List.mem_of_getElem? (i := 1079) rfl) rfl
set_option maxRecDepth 100000 in
theorem ml_L_55 : Cond.methodLink R_law 55 yX8_bells ∈ gw := gw_mem (List.mem_of_getElem? (i := 1083) rfl) rfl
set_option maxRecDepth 100000 in
theorem ml_X8_232 : Cond.methodLink RX8 232 yX8_haveRoom ∈ gw := gw_mem (List.mem_of_getElem? (i := 1088) rfl) rfl
set_option maxRecDepth 100000 in
theorem ml_X8_236 : Cond.methodLink RX8 236 yX8_headsOfAll ∈ gw := gw_mem (List.mem_of_getElem? (i := 1092) rfl) rfl
set_option maxRecDepth 100000 in
theorem ml_L_59 : Cond.methodLink R_law 59 yX8_door ∈ gw := gw_mem (List.mem_of_getElem? (i := 1096) rfl) rfl
set_option maxRecDepth 100000 in
theorem ml_X8_239 : Cond.methodLink RX8 239 yX8_isRoom ∈ gw := gw_mem (List.mem_of_getElem? (i := 1100) rfl) rfl
set_option maxRecDepth 100000 in
theorem ml_L_64 : Cond.methodLink R_law 64 yX8_heads ∈ gw := gw_mem (List.mem_of_getElem? (i := 1104) rfl) rfl
set_option maxRecDepth 100000 in
theorem ml_X8_242 : Cond.methodLink RX8 242 yX8_isCrowd ∈ gw := gw_mem (List.mem_of_getElem? (i := 1108) rfl) rfl
set_option maxRecDepth 100000 in
theorem ml_L_68 : Cond.methodLink R_law 68 yX8_undo ∈ gw := gw_mem (List.mem_of_getElem? (i := 1113) rfl) rfl
set_option maxRecDepth 100000 in
theorem ml_L_72 : Cond.methodLink R_law 72 yX8_crowd ∈ gw := gw_mem (List.mem_of_getElem? (i := 1117) rfl) rfl
set_option maxRecDepth 100000 in
theorem ml_L_76 : Cond.methodLink R_law 76 yX8_room ∈ gw := gw_mem (List.mem_of_getElem? (i := 1121) rfl) rfl
set_option maxRecDepth 100000 in
theorem ml_L_80 : Cond.methodLink R_law 80 yX8_ahead ∈ gw := gw_mem (List.mem_of_getElem? (i := 1125) rfl) rfl
set_option maxRecDepth 100000 in
theorem ml_X8_249 : Cond.methodLink RX8 249 yX8_goBells ∈ gw := gw_mem (List.mem_of_getElem? (i := 1130) rfl) rfl
set_option maxRecDepth 100000 in
theorem ml_L_84 : Cond.methodLink R_law 84 yX8_roomAhead ∈ gw := gw_mem (List.mem_of_getElem? (i := 1134) rfl) rfl
set_option maxRecDepth 100000 in
theorem ml_L_88 : Cond.methodLink R_law 88 yX8_rest ∈ gw := gw_mem (List.mem_of_getElem? (i := 1138) rfl) rfl
set_option maxRecDepth 100000 in
theorem ml_X8_252 : Cond.methodLink RX8 252 yX8_restIn ∈ gw := gw_mem (List.mem_of_getElem? (i := 1142) rfl) rfl
set_option maxRecDepth 100000 in
theorem ml_X8_255 : Cond.methodLink RX8 255 yX8_ringIn ∈ gw := gw_mem (List.mem_of_getElem? (i := 1146) rfl) rfl
set_option maxRecDepth 100000 in
theorem ml_L_92 : Cond.methodLink R_law 92 yX8_hired ∈ gw := gw_mem (List.mem_of_getElem? (i := 1150) rfl) rfl
set_option maxRecDepth 100000 in
theorem ml_X8_267 : Cond.methodLink RX8 267 yX8_hire ∈ gw := gw_mem (List.mem_of_getElem? (i := 1155) rfl) rfl
set_option maxRecDepth 100000 in
theorem ml_X8_258 : Cond.methodLink RX8 258 yX8_layHired ∈ gw := gw_mem (List.mem_of_getElem? (i := 1159) rfl) rfl
set_option maxRecDepth 100000 in
theorem ml_X8_261 : Cond.methodLink RX8 261 yX8_isSo ∈ gw := gw_mem (List.mem_of_getElem? (i := 1163) rfl) rfl
set_option maxRecDepth 100000 in
theorem ml_L_96 : Cond.methodLink R_law 96 yX8_empty ∈ gw := gw_mem (List.mem_of_getElem? (i := 1167) rfl) rfl
set_option maxRecDepth 100000 in
theorem ml_L_100 : Cond.methodLink R_law 100 yX8_apart ∈ gw := gw_mem (List.mem_of_getElem? (i := 1171) rfl) rfl
set_option maxRecDepth 100000 in
theorem ml_X8_271 : Cond.methodLink RX8 271 yX8_areApart ∈ gw := gw_mem (List.mem_of_getElem? (i := 1175) rfl) rfl
set_option maxRecDepth 100000 in
theorem ml_L_104 : Cond.methodLink R_law 104 yX8_began ∈ gw := gw_mem (List.mem_of_getElem? (i := 1179) rfl) rfl
set_option maxRecDepth 100000 in
theorem ml_X8_279 : Cond.methodLink RX8 279 yX8_layBegan ∈ gw := gw_mem (List.mem_of_getElem? (i := 1185) rfl) rfl
set_option maxRecDepth 100000 in
theorem ml_L_108 : Cond.methodLink R_law 108 yX8_image ∈ gw := gw_mem (List.mem_of_getElem? (i := 1189) rfl) rfl
set_option maxRecDepth 100000 in
theorem ml_L_112 : Cond.methodLink R_law 112 yX8_restore ∈ gw := gw_mem (List.mem_of_getElem? (i := 1193) rfl) rfl
set_option maxRecDepth 100000 in
theorem ml_L_116 : Cond.methodLink R_law 116 yX8_kind ∈ gw := gw_mem (List.mem_of_getElem? (i := 1197) rfl) rfl
set_option maxRecDepth 100000 in
theorem ml_L_120 : Cond.methodLink R_law 120 yX8_as ∈ gw := gw_mem (List.mem_of_getElem? (i := 1201) rfl) rfl
set_option maxRecDepth 100000 in
theorem ml_X8_284 : Cond.methodLink RX8 284 yX8_isOf ∈ gw := gw_mem (List.mem_of_getElem? (i := 1206) rfl) rfl
set_option maxRecDepth 100000 in
theorem ml_L_124 : Cond.methodLink R_law 124 yX8_ask ∈ gw := gw_mem (List.mem_of_getElem? (i := 1209) rfl) rfl
set_option maxRecDepth 100000 in
theorem ml_X8_302 : Cond.methodLink RX8 302 yX8_sizeOf ∈ gw := gw_mem (List.mem_of_getElem? (i := 1213) rfl) rfl
set_option maxRecDepth 100000 in
theorem ml_X8_296 : Cond.methodLink RX8 296 yX8_staySize ∈ gw := gw_mem (List.mem_of_getElem? (i := 1217) rfl) rfl
set_option maxRecDepth 100000 in
theorem ml_X8_290 : Cond.methodLink RX8 290 yX8_stepped ∈ gw := gw_mem (List.mem_of_getElem? (i := 1221) rfl) rfl
set_option maxRecDepth 100000 in
theorem ml_X8_293 : Cond.methodLink RX8 293 yX8_plainSize ∈ gw := gw_mem (List.mem_of_getElem? (i := 1225) rfl) rfl
set_option maxRecDepth 100000 in
theorem ml_X8_299 : Cond.methodLink RX8 299 yX8_markOf ∈ gw := gw_mem (List.mem_of_getElem? (i := 1229) rfl) rfl
set_option maxRecDepth 100000 in
theorem ml_L_128 : Cond.methodLink R_law 128 yX8_trace ∈ gw := gw_mem (List.mem_of_getElem? (i := 1233) rfl) rfl
set_option maxRecDepth 100000 in
theorem ml_L_132 : Cond.methodLink R_law 132 yX8_count ∈ gw := gw_mem (List.mem_of_getElem? (i := 1237) rfl) rfl
set_option maxRecDepth 100000 in
theorem ml_L_136 : Cond.methodLink R_law 136 yX8_status ∈ gw := gw_mem (List.mem_of_getElem? (i := 1241) rfl) rfl
set_option maxRecDepth 100000 in
theorem mn_X7_17 : Cond.methodLinkNest RX7 17 yX6_init "MostRooms" ∈ lw_tbl := List.mem_of_getElem? (i := 97) rfl
set_option maxRecDepth 100000 in
theorem mn_X4_11 : Cond.methodLinkNest RX4 11 yX3_init "MostRooms" ∈ lw_tbl := List.mem_of_getElem? (i := 133) rfl
set_option maxRecDepth 100000 in
theorem mn_X7_33 : Cond.methodLinkNest RX7 33 yX3_init "MostRooms" ∈ lw_tbl := List.mem_of_getElem? (i := 228) rfl
set_option maxRecDepth 100000 in
theorem mn_X7_44 : Cond.methodLinkNest RX7 44 yX0_init "MostRooms" ∈ lw_tbl := List.mem_of_getElem? (i := 232) rfl
set_option maxRecDepth 100000 in
theorem mn_X2_11 : Cond.methodLinkNest RX2 11 yX3_init "MostRooms" ∈ lw_tbl := List.mem_of_getElem? (i := 254) rfl
set_option maxRecDepth 100000 in
theorem mn_X7_65 : Cond.methodLinkNest RX7 65 yX5_init "MostRooms" ∈ lw_tbl := List.mem_of_getElem? (i := 300) rfl
set_option maxRecDepth 100000 in
theorem kc_X7_70 : Cond.constant RX7 70 (-1000001) ∈ gw := gw_mem (List.mem_of_getElem? (i := 359) rfl) rfl
set_option maxRecDepth 100000 in
theorem kc_X7_255 : Cond.constant RX7 255 (-1000010) ∈ gw := gw_mem (List.mem_of_getElem? (i := 364) rfl) rfl
set_option maxRecDepth 100000 in
theorem kc_X7_112 : Cond.constant RX7 112 (-1000003) ∈ gw := gw_mem (List.mem_of_getElem? (i := 396) rfl) rfl
set_option maxRecDepth 100000 in
theorem kc_X7_128 : Cond.constant RX7 128 (-1000100) ∈ gw := gw_mem (List.mem_of_getElem? (i := 539) rfl) rfl
set_option maxRecDepth 100000 in
theorem kc_X7_141 : Cond.constant RX7 141 (-1000002) ∈ gw := gw_mem (List.mem_of_getElem? (i := 558) rfl) rfl
set_option maxRecDepth 100000 in
theorem kc_X2_56 : Cond.constant RX2 56 (-1000000) ∈ gw := gw_mem (List.mem_of_getElem? (i := 680) rfl) rfl
set_option maxRecDepth 100000 in
theorem kc_X7_233 : Cond.constant RX7 233 (-1000000) ∈ gw := gw_mem (List.mem_of_getElem? (i := 709) rfl) rfl
set_option maxRecDepth 100000 in
theorem kc_X8_67 : Cond.constantLong RX8 67 (7) ∈ gw := gw_mem (List.mem_of_getElem? (i := 933) rfl) rfl
set_option maxRecDepth 100000 in
theorem kc_X8_77 : Cond.constantLong RX8 77 (2) ∈ gw := gw_mem (List.mem_of_getElem? (i := 937) rfl) rfl
set_option maxRecDepth 100000 in
theorem kc_X8_79 : Cond.constant RX8 79 (-1000001) ∈ gw := gw_mem (List.mem_of_getElem? (i := 938) rfl) rfl
set_option maxRecDepth 100000 in
theorem kc_X8_66 : Cond.constant RX8 66 (-1000010) ∈ gw := gw_mem (List.mem_of_getElem? (i := 943) rfl) rfl
set_option maxRecDepth 100000 in
theorem kc_X8_84 : Cond.constantLong RX8 84 (8) ∈ gw := gw_mem (List.mem_of_getElem? (i := 960) rfl) rfl
set_option maxRecDepth 100000 in
theorem kc_X8_89 : Cond.constant RX8 89 (-1000003) ∈ gw := gw_mem (List.mem_of_getElem? (i := 961) rfl) rfl
set_option maxRecDepth 100000 in
theorem kc_X8_90 : Cond.constantLong RX8 90 (255) ∈ gw := gw_mem (List.mem_of_getElem? (i := 962) rfl) rfl
set_option maxRecDepth 100000 in
theorem kc_X8_95 : Cond.constant RX8 95 (-1000000) ∈ gw := gw_mem (List.mem_of_getElem? (i := 979) rfl) rfl
set_option maxRecDepth 100000 in
theorem kc_X8_170 : Cond.constantLong RX8 170 (1919905645) ∈ gw := gw_mem (List.mem_of_getElem? (i := 990) rfl) rfl
set_option maxRecDepth 100000 in
theorem kc_X8_175 : Cond.constantLong RX8 175 (1685024626) ∈ gw := gw_mem (List.mem_of_getElem? (i := 1019) rfl) rfl
set_option maxRecDepth 100000 in
theorem kc_X8_180 : Cond.constantLong RX8 180 (427121669988) ∈ gw := gw_mem (List.mem_of_getElem? (i := 1024) rfl) rfl
set_option maxRecDepth 100000 in
theorem kc_X8_138 : Cond.constantLong RX8 138 (1836020596) ∈ gw := gw_mem (List.mem_of_getElem? (i := 1032) rfl) rfl
set_option maxRecDepth 100000 in
theorem kc_X8_140 : Cond.constantLong RX8 140 (6710647) ∈ gw := gw_mem (List.mem_of_getElem? (i := 1033) rfl) rfl
set_option maxRecDepth 100000 in
theorem kc_X8_142 : Cond.constantLong RX8 142 (1818848101) ∈ gw := gw_mem (List.mem_of_getElem? (i := 1034) rfl) rfl
set_option maxRecDepth 100000 in
theorem kc_X8_144 : Cond.constantLong RX8 144 (1818326117) ∈ gw := gw_mem (List.mem_of_getElem? (i := 1035) rfl) rfl
set_option maxRecDepth 100000 in
theorem kc_X8_146 : Cond.constantLong RX8 146 (1937006969) ∈ gw := gw_mem (List.mem_of_getElem? (i := 1036) rfl) rfl
set_option maxRecDepth 100000 in
theorem kc_X8_188 : Cond.constant RX8 188 (-1000100) ∈ gw := gw_mem (List.mem_of_getElem? (i := 1037) rfl) rfl
set_option maxRecDepth 100000 in
theorem kc_X8_226 : Cond.constant RX8 226 (-1000002) ∈ gw := gw_mem (List.mem_of_getElem? (i := 1050) rfl) rfl
set_option maxRecDepth 100000 in
theorem kc_X8_230 : Cond.constantLong RX8 230 (24) ∈ gw := gw_mem (List.mem_of_getElem? (i := 1087) rfl) rfl
set_option maxRecDepth 100000 in
theorem kc_X8_245 : Cond.constantLong RX8 245 (99) ∈ gw := gw_mem (List.mem_of_getElem? (i := 1112) rfl) rfl
set_option maxRecDepth 100000 in
theorem kc_X8_247 : Cond.constantLong RX8 247 (60) ∈ gw := gw_mem (List.mem_of_getElem? (i := 1129) rfl) rfl
set_option maxRecDepth 100000 in
theorem kc_X8_265 : Cond.constantLong RX8 265 (20) ∈ gw := gw_mem (List.mem_of_getElem? (i := 1154) rfl) rfl
set_option maxRecDepth 100000 in
theorem kc_X8_275 : Cond.constantLong RX8 275 (-1) ∈ gw := gw_mem (List.mem_of_getElem? (i := 1183) rfl) rfl
set_option maxRecDepth 100000 in
theorem kc_X8_277 : Cond.constantLong RX8 277 (9) ∈ gw := gw_mem (List.mem_of_getElem? (i := 1184) rfl) rfl
set_option maxRecDepth 100000 in
theorem kc_X8_282 : Cond.constantLong RX8 282 (5) ∈ gw := gw_mem (List.mem_of_getElem? (i := 1205) rfl) rfl
set_option maxRecDepth 100000 in
theorem kc_L_32 : Cond.constantLong R_law 32 (4294967295) ∈ gw := gw_mem (List.mem_of_getElem? (i := 1245) rfl) rfl
set_option maxRecDepth 100000 in
theorem gw_oi : Cond.instanceMethod objectInit ∈ gw := gw_mem (by decide +kernel) rfl
set_option maxRecDepth 100000 in
theorem gw_oc : Cond.code objectInit ⟨#[0xb1]⟩ 1 none ∈ gw := gw_mem (by decide +kernel) rfl
