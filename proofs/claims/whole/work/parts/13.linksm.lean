/-! the methods in the tables -/
set_option maxRecDepth 100000 in
theorem mk_X0_init : MK mX0_init 0 := ⟨gw_mem (List.mem_of_getElem? (i := 234) rfl) rfl, gw_mem (List.mem_of_getElem? (i := 74) rfl) rfl, by decide +kernel, by decide +kernel, by decide +kernel⟩
set_option maxRecDepth 100000 in
theorem mi_X0_init : Cond.instanceMethod yX0_init ∈ gw := gw_mem (List.mem_of_getElem? (i := 233) rfl) rfl
set_option maxRecDepth 100000 in
theorem mk_X0_keep : MK mX0_keep 1 := ⟨gw_mem (List.mem_of_getElem? (i := 562) rfl) rfl, gw_mem (List.mem_of_getElem? (i := 74) rfl) rfl, by decide +kernel, by decide +kernel, by decide +kernel⟩
set_option maxRecDepth 100000 in
theorem mi_X0_keep : MKi mX0_keep := ⟨gw_mem (List.mem_of_getElem? (i := 560) rfl) rfl, gw_mem (List.mem_of_getElem? (i := 561) rfl) rfl⟩
set_option maxRecDepth 100000 in
theorem mk_X0_takeBack : MK mX0_takeBack 1 := ⟨gw_mem (List.mem_of_getElem? (i := 631) rfl) rfl, gw_mem (List.mem_of_getElem? (i := 74) rfl) rfl, by decide +kernel, by decide +kernel, by decide +kernel⟩
set_option maxRecDepth 100000 in
theorem mi_X0_takeBack : MKi mX0_takeBack := ⟨gw_mem (List.mem_of_getElem? (i := 629) rfl) rfl, gw_mem (List.mem_of_getElem? (i := 630) rfl) rfl⟩
set_option maxRecDepth 100000 in
theorem mk_X0_forgetAll : MK mX0_forgetAll 0 := ⟨gw_mem (List.mem_of_getElem? (i := 548) rfl) rfl, gw_mem (List.mem_of_getElem? (i := 74) rfl) rfl, by decide +kernel, by decide +kernel, by decide +kernel⟩
set_option maxRecDepth 100000 in
theorem mi_X0_forgetAll : MKi mX0_forgetAll := ⟨gw_mem (List.mem_of_getElem? (i := 546) rfl) rfl, gw_mem (List.mem_of_getElem? (i := 547) rfl) rfl⟩
set_option maxRecDepth 100000 in
theorem mk_X1_init : MK mX1_init 1 := ⟨gw_mem (List.mem_of_getElem? (i := 285) rfl) rfl, gw_mem (List.mem_of_getElem? (i := 76) rfl) rfl, by decide +kernel, by decide +kernel, by decide +kernel⟩
set_option maxRecDepth 100000 in
theorem mi_X1_init : Cond.instanceMethod yX1_init ∈ gw := gw_mem (List.mem_of_getElem? (i := 284) rfl) rfl
set_option maxRecDepth 100000 in
theorem mk_X1_nearestBody : MK mX1_nearestBody 2 := ⟨gw_mem (List.mem_of_getElem? (i := 796) rfl) rfl, gw_mem (List.mem_of_getElem? (i := 76) rfl) rfl, by decide +kernel, by decide +kernel, by decide +kernel⟩
set_option maxRecDepth 100000 in
theorem ms_X1_nearestBody : Cond.static yX1_nearestBody ∈ gw := gw_mem (List.mem_of_getElem? (i := 795) rfl) rfl
set_option maxRecDepth 100000 in
theorem mk_X1_leave : MK mX1_leave 1 := ⟨gw_mem (List.mem_of_getElem? (i := 805) rfl) rfl, gw_mem (List.mem_of_getElem? (i := 76) rfl) rfl, by decide +kernel, by decide +kernel, by decide +kernel⟩
set_option maxRecDepth 100000 in
theorem mi_X1_leave : MKi mX1_leave := ⟨gw_mem (List.mem_of_getElem? (i := 804) rfl) rfl, gw_mem (List.mem_of_getElem? (i := 27) rfl) rfl⟩
set_option maxRecDepth 100000 in
theorem mk_X1_answer : MK mX1_answer 3 := ⟨gw_mem (List.mem_of_getElem? (i := 789) rfl) rfl, gw_mem (List.mem_of_getElem? (i := 76) rfl) rfl, by decide +kernel, by decide +kernel, by decide +kernel⟩
set_option maxRecDepth 100000 in
theorem mi_X1_answer : MKi mX1_answer := ⟨gw_mem (List.mem_of_getElem? (i := 788) rfl) rfl, gw_mem (List.mem_of_getElem? (i := 25) rfl) rfl⟩
set_option maxRecDepth 100000 in
theorem mk_X1_runBody : MK mX1_runBody 3 := ⟨gw_mem (List.mem_of_getElem? (i := 801) rfl) rfl, gw_mem (List.mem_of_getElem? (i := 76) rfl) rfl, by decide +kernel, by decide +kernel, by decide +kernel⟩
set_option maxRecDepth 100000 in
theorem mi_X1_runBody : MKi mX1_runBody := ⟨gw_mem (List.mem_of_getElem? (i := 800) rfl) rfl, gw_mem (List.mem_of_getElem? (i := 26) rfl) rfl⟩
set_option maxRecDepth 100000 in
theorem mk_X1_askAnew : MK mX1_askAnew 2 := ⟨gw_mem (List.mem_of_getElem? (i := 785) rfl) rfl, gw_mem (List.mem_of_getElem? (i := 76) rfl) rfl, by decide +kernel, by decide +kernel, by decide +kernel⟩
set_option maxRecDepth 100000 in
theorem mi_X1_askAnew : MKi mX1_askAnew := ⟨gw_mem (List.mem_of_getElem? (i := 783) rfl) rfl, gw_mem (List.mem_of_getElem? (i := 784) rfl) rfl⟩
set_option maxRecDepth 100000 in
theorem mk_X3_init : MK mX3_init 0 := ⟨gw_mem (List.mem_of_getElem? (i := 135) rfl) rfl, gw_mem (List.mem_of_getElem? (i := 73) rfl) rfl, by decide +kernel, by decide +kernel, by decide +kernel⟩
set_option maxRecDepth 100000 in
theorem mi_X3_init : Cond.instanceMethod yX3_init ∈ gw := gw_mem (List.mem_of_getElem? (i := 134) rfl) rfl
set_option maxRecDepth 100000 in
theorem mk_X2_init : MK mX2_init 1 := ⟨gw_mem (List.mem_of_getElem? (i := 251) rfl) rfl, gw_mem (List.mem_of_getElem? (i := 75) rfl) rfl, by decide +kernel, by decide +kernel, by decide +kernel⟩
set_option maxRecDepth 100000 in
theorem mi_X2_init : Cond.instanceMethod yX2_init ∈ gw := gw_mem (List.mem_of_getElem? (i := 250) rfl) rfl
set_option maxRecDepth 100000 in
theorem mk_X3_take : MK mX3_take 1 := ⟨gw_mem (List.mem_of_getElem? (i := 543) rfl) rfl, gw_mem (List.mem_of_getElem? (i := 73) rfl) rfl, by decide +kernel, by decide +kernel, by decide +kernel⟩
set_option maxRecDepth 100000 in
theorem mi_X3_take : MKi mX3_take := ⟨gw_mem (List.mem_of_getElem? (i := 541) rfl) rfl, gw_mem (List.mem_of_getElem? (i := 542) rfl) rfl⟩
set_option maxRecDepth 100000 in
theorem mk_X3_countHeads : MK mX3_countHeads 0 := ⟨gw_mem (List.mem_of_getElem? (i := 574) rfl) rfl, gw_mem (List.mem_of_getElem? (i := 73) rfl) rfl, by decide +kernel, by decide +kernel, by decide +kernel⟩
set_option maxRecDepth 100000 in
theorem mi_X3_countHeads : MKi mX3_countHeads := ⟨gw_mem (List.mem_of_getElem? (i := 573) rfl) rfl, gw_mem (List.mem_of_getElem? (i := 12) rfl) rfl⟩
set_option maxRecDepth 100000 in
theorem mk_X3_goalOf : MK mX3_goalOf 1 := ⟨gw_mem (List.mem_of_getElem? (i := 578) rfl) rfl, gw_mem (List.mem_of_getElem? (i := 73) rfl) rfl, by decide +kernel, by decide +kernel, by decide +kernel⟩
set_option maxRecDepth 100000 in
theorem mi_X3_goalOf : MKi mX3_goalOf := ⟨gw_mem (List.mem_of_getElem? (i := 577) rfl) rfl, gw_mem (List.mem_of_getElem? (i := 13) rfl) rfl⟩
set_option maxRecDepth 100000 in
theorem mk_X3_ring : MK mX3_ring 0 := ⟨gw_mem (List.mem_of_getElem? (i := 570) rfl) rfl, gw_mem (List.mem_of_getElem? (i := 73) rfl) rfl, by decide +kernel, by decide +kernel, by decide +kernel⟩
set_option maxRecDepth 100000 in
theorem mi_X3_ring : MKi mX3_ring := ⟨gw_mem (List.mem_of_getElem? (i := 568) rfl) rfl, gw_mem (List.mem_of_getElem? (i := 569) rfl) rfl⟩
set_option maxRecDepth 100000 in
theorem mk_X2_ringTimes : MK mX2_ringTimes 1 := ⟨gw_mem (List.mem_of_getElem? (i := 656) rfl) rfl, gw_mem (List.mem_of_getElem? (i := 75) rfl) rfl, by decide +kernel, by decide +kernel, by decide +kernel⟩
set_option maxRecDepth 100000 in
theorem mi_X2_ringTimes : MKi mX2_ringTimes := ⟨gw_mem (List.mem_of_getElem? (i := 655) rfl) rfl, gw_mem (List.mem_of_getElem? (i := 15) rfl) rfl⟩
set_option maxRecDepth 100000 in
theorem mk_X2_whereBehind : MK mX2_whereBehind 2 := ⟨gw_mem (List.mem_of_getElem? (i := 651) rfl) rfl, gw_mem (List.mem_of_getElem? (i := 75) rfl) rfl, by decide +kernel, by decide +kernel, by decide +kernel⟩
set_option maxRecDepth 100000 in
theorem mi_X2_whereBehind : MKi mX2_whereBehind := ⟨gw_mem (List.mem_of_getElem? (i := 649) rfl) rfl, gw_mem (List.mem_of_getElem? (i := 650) rfl) rfl⟩
set_option maxRecDepth 100000 in
theorem mk_X3_headsIn : MK mX3_headsIn 1 := ⟨gw_mem (List.mem_of_getElem? (i := 643) rfl) rfl, gw_mem (List.mem_of_getElem? (i := 73) rfl) rfl, by decide +kernel, by decide +kernel, by decide +kernel⟩
set_option maxRecDepth 100000 in
theorem mi_X3_headsIn : MKi mX3_headsIn := ⟨gw_mem (List.mem_of_getElem? (i := 641) rfl) rfl, gw_mem (List.mem_of_getElem? (i := 642) rfl) rfl⟩
set_option maxRecDepth 100000 in
theorem mk_X2_headsBehind : MK mX2_headsBehind 2 := ⟨gw_mem (List.mem_of_getElem? (i := 665) rfl) rfl, gw_mem (List.mem_of_getElem? (i := 75) rfl) rfl, by decide +kernel, by decide +kernel, by decide +kernel⟩
set_option maxRecDepth 100000 in
theorem mi_X2_headsBehind : MKi mX2_headsBehind := ⟨gw_mem (List.mem_of_getElem? (i := 663) rfl) rfl, gw_mem (List.mem_of_getElem? (i := 664) rfl) rfl⟩
set_option maxRecDepth 100000 in
theorem mk_X2_worth : MK mX2_worth 2 := ⟨gw_mem (List.mem_of_getElem? (i := 670) rfl) rfl, gw_mem (List.mem_of_getElem? (i := 75) rfl) rfl, by decide +kernel, by decide +kernel, by decide +kernel⟩
set_option maxRecDepth 100000 in
theorem mi_X2_worth : MKi mX2_worth := ⟨gw_mem (List.mem_of_getElem? (i := 668) rfl) rfl, gw_mem (List.mem_of_getElem? (i := 669) rfl) rfl⟩
set_option maxRecDepth 100000 in
theorem mk_X2_bellsToRest : MK mX2_bellsToRest 0 := ⟨gw_mem (List.mem_of_getElem? (i := 679) rfl) rfl, gw_mem (List.mem_of_getElem? (i := 75) rfl) rfl, by decide +kernel, by decide +kernel, by decide +kernel⟩
set_option maxRecDepth 100000 in
theorem mi_X2_bellsToRest : MKi mX2_bellsToRest := ⟨gw_mem (List.mem_of_getElem? (i := 677) rfl) rfl, gw_mem (List.mem_of_getElem? (i := 678) rfl) rfl⟩
set_option maxRecDepth 100000 in
theorem mk_X2_allAsNow : MK mX2_allAsNow 0 := ⟨gw_mem (List.mem_of_getElem? (i := 688) rfl) rfl, gw_mem (List.mem_of_getElem? (i := 75) rfl) rfl, by decide +kernel, by decide +kernel, by decide +kernel⟩
set_option maxRecDepth 100000 in
theorem mi_X2_allAsNow : MKi mX2_allAsNow := ⟨gw_mem (List.mem_of_getElem? (i := 687) rfl) rfl, gw_mem (List.mem_of_getElem? (i := 16) rfl) rfl⟩
set_option maxRecDepth 100000 in
theorem mk_X2_bellsToRing : MK mX2_bellsToRing 0 := ⟨gw_mem (List.mem_of_getElem? (i := 684) rfl) rfl, gw_mem (List.mem_of_getElem? (i := 75) rfl) rfl, by decide +kernel, by decide +kernel, by decide +kernel⟩
set_option maxRecDepth 100000 in
theorem mi_X2_bellsToRing : MKi mX2_bellsToRing := ⟨gw_mem (List.mem_of_getElem? (i := 682) rfl) rfl, gw_mem (List.mem_of_getElem? (i := 683) rfl) rfl⟩
set_option maxRecDepth 100000 in
theorem mk_X3_hire : MK mX3_hire 2 := ⟨gw_mem (List.mem_of_getElem? (i := 708) rfl) rfl, gw_mem (List.mem_of_getElem? (i := 73) rfl) rfl, by decide +kernel, by decide +kernel, by decide +kernel⟩
set_option maxRecDepth 100000 in
theorem mi_X3_hire : MKi mX3_hire := ⟨gw_mem (List.mem_of_getElem? (i := 706) rfl) rfl, gw_mem (List.mem_of_getElem? (i := 707) rfl) rfl⟩
set_option maxRecDepth 100000 in
theorem mk_X2_succeeds : MK mX2_succeeds 5 := ⟨gw_mem (List.mem_of_getElem? (i := 704) rfl) rfl, gw_mem (List.mem_of_getElem? (i := 75) rfl) rfl, by decide +kernel, by decide +kernel, by decide +kernel⟩
set_option maxRecDepth 100000 in
theorem mi_X2_succeeds : MKi mX2_succeeds := ⟨gw_mem (List.mem_of_getElem? (i := 703) rfl) rfl, gw_mem (List.mem_of_getElem? (i := 18) rfl) rfl⟩
set_option maxRecDepth 100000 in
theorem mk_X2_findHired : MK mX2_findHired 3 := ⟨gw_mem (List.mem_of_getElem? (i := 700) rfl) rfl, gw_mem (List.mem_of_getElem? (i := 75) rfl) rfl, by decide +kernel, by decide +kernel, by decide +kernel⟩
set_option maxRecDepth 100000 in
theorem mi_X2_findHired : MKi mX2_findHired := ⟨gw_mem (List.mem_of_getElem? (i := 698) rfl) rfl, gw_mem (List.mem_of_getElem? (i := 699) rfl) rfl⟩
set_option maxRecDepth 100000 in
theorem mk_X2_meet : MK mX2_meet 3 := ⟨gw_mem (List.mem_of_getElem? (i := 725) rfl) rfl, gw_mem (List.mem_of_getElem? (i := 75) rfl) rfl, by decide +kernel, by decide +kernel, by decide +kernel⟩
set_option maxRecDepth 100000 in
theorem mi_X2_meet : MKi mX2_meet := ⟨gw_mem (List.mem_of_getElem? (i := 724) rfl) rfl, gw_mem (List.mem_of_getElem? (i := 19) rfl) rfl⟩
set_option maxRecDepth 100000 in
theorem mk_X3_doorBetween : MK mX3_doorBetween 2 := ⟨gw_mem (List.mem_of_getElem? (i := 614) rfl) rfl, gw_mem (List.mem_of_getElem? (i := 73) rfl) rfl, by decide +kernel, by decide +kernel, by decide +kernel⟩
set_option maxRecDepth 100000 in
theorem mi_X3_doorBetween : MKi mX3_doorBetween := ⟨gw_mem (List.mem_of_getElem? (i := 612) rfl) rfl, gw_mem (List.mem_of_getElem? (i := 613) rfl) rfl⟩
set_option maxRecDepth 100000 in
theorem mk_X3_putDoor : MK mX3_putDoor 3 := ⟨gw_mem (List.mem_of_getElem? (i := 524) rfl) rfl, gw_mem (List.mem_of_getElem? (i := 73) rfl) rfl, by decide +kernel, by decide +kernel, by decide +kernel⟩
set_option maxRecDepth 100000 in
theorem mi_X3_putDoor : MKi mX3_putDoor := ⟨gw_mem (List.mem_of_getElem? (i := 522) rfl) rfl, gw_mem (List.mem_of_getElem? (i := 523) rfl) rfl⟩
set_option maxRecDepth 100000 in
theorem mk_X2_partedBy : MK mX2_partedBy 5 := ⟨gw_mem (List.mem_of_getElem? (i := 730) rfl) rfl, gw_mem (List.mem_of_getElem? (i := 75) rfl) rfl, by decide +kernel, by decide +kernel, by decide +kernel⟩
set_option maxRecDepth 100000 in
theorem mi_X2_partedBy : MKi mX2_partedBy := ⟨gw_mem (List.mem_of_getElem? (i := 729) rfl) rfl, gw_mem (List.mem_of_getElem? (i := 20) rfl) rfl⟩
set_option maxRecDepth 100000 in
theorem mk_X2_doorToShut : MK mX2_doorToShut 3 := ⟨gw_mem (List.mem_of_getElem? (i := 721) rfl) rfl, gw_mem (List.mem_of_getElem? (i := 75) rfl) rfl, by decide +kernel, by decide +kernel, by decide +kernel⟩
set_option maxRecDepth 100000 in
theorem mi_X2_doorToShut : MKi mX2_doorToShut := ⟨gw_mem (List.mem_of_getElem? (i := 719) rfl) rfl, gw_mem (List.mem_of_getElem? (i := 720) rfl) rfl⟩
set_option maxRecDepth 100000 in
theorem mk_X2_seenFrom : MK mX2_seenFrom 1 := ⟨gw_mem (List.mem_of_getElem? (i := 747) rfl) rfl, gw_mem (List.mem_of_getElem? (i := 75) rfl) rfl, by decide +kernel, by decide +kernel, by decide +kernel⟩
set_option maxRecDepth 100000 in
theorem mi_X2_seenFrom : MKi mX2_seenFrom := ⟨gw_mem (List.mem_of_getElem? (i := 746) rfl) rfl, gw_mem (List.mem_of_getElem? (i := 22) rfl) rfl⟩
set_option maxRecDepth 100000 in
theorem mk_X2_findSources : MK mX2_findSources 1 := ⟨gw_mem (List.mem_of_getElem? (i := 743) rfl) rfl, gw_mem (List.mem_of_getElem? (i := 75) rfl) rfl, by decide +kernel, by decide +kernel, by decide +kernel⟩
set_option maxRecDepth 100000 in
theorem mi_X2_findSources : MKi mX2_findSources := ⟨gw_mem (List.mem_of_getElem? (i := 742) rfl) rfl, gw_mem (List.mem_of_getElem? (i := 21) rfl) rfl⟩
set_option maxRecDepth 100000 in
theorem mk_X2_canBegin : MK mX2_canBegin 1 := ⟨gw_mem (List.mem_of_getElem? (i := 751) rfl) rfl, gw_mem (List.mem_of_getElem? (i := 75) rfl) rfl, by decide +kernel, by decide +kernel, by decide +kernel⟩
set_option maxRecDepth 100000 in
theorem mi_X2_canBegin : MKi mX2_canBegin := ⟨gw_mem (List.mem_of_getElem? (i := 750) rfl) rfl, gw_mem (List.mem_of_getElem? (i := 23) rfl) rfl⟩
set_option maxRecDepth 100000 in
theorem mk_X2_countWay : MK mX2_countWay 1 := ⟨gw_mem (List.mem_of_getElem? (i := 755) rfl) rfl, gw_mem (List.mem_of_getElem? (i := 75) rfl) rfl, by decide +kernel, by decide +kernel, by decide +kernel⟩
set_option maxRecDepth 100000 in
theorem mi_X2_countWay : MKi mX2_countWay := ⟨gw_mem (List.mem_of_getElem? (i := 754) rfl) rfl, gw_mem (List.mem_of_getElem? (i := 24) rfl) rfl⟩
set_option maxRecDepth 100000 in
theorem mk_X2_findBeginnings : MK mX2_findBeginnings 1 := ⟨gw_mem (List.mem_of_getElem? (i := 739) rfl) rfl, gw_mem (List.mem_of_getElem? (i := 75) rfl) rfl, by decide +kernel, by decide +kernel, by decide +kernel⟩
set_option maxRecDepth 100000 in
theorem mi_X2_findBeginnings : MKi mX2_findBeginnings := ⟨gw_mem (List.mem_of_getElem? (i := 737) rfl) rfl, gw_mem (List.mem_of_getElem? (i := 738) rfl) rfl⟩
set_option maxRecDepth 100000 in
theorem mk_X3_clear : MK mX3_clear 0 := ⟨gw_mem (List.mem_of_getElem? (i := 412) rfl) rfl, gw_mem (List.mem_of_getElem? (i := 73) rfl) rfl, by decide +kernel, by decide +kernel, by decide +kernel⟩
set_option maxRecDepth 100000 in
theorem mi_X3_clear : MKi mX3_clear := ⟨gw_mem (List.mem_of_getElem? (i := 410) rfl) rfl, gw_mem (List.mem_of_getElem? (i := 411) rfl) rfl⟩
set_option maxRecDepth 100000 in
theorem mk_X3_isRoom : MK mX3_isRoom 1 := ⟨gw_mem (List.mem_of_getElem? (i := 610) rfl) rfl, gw_mem (List.mem_of_getElem? (i := 73) rfl) rfl, by decide +kernel, by decide +kernel, by decide +kernel⟩
set_option maxRecDepth 100000 in
theorem mi_X3_isRoom : MKi mX3_isRoom := ⟨gw_mem (List.mem_of_getElem? (i := 608) rfl) rfl, gw_mem (List.mem_of_getElem? (i := 609) rfl) rfl⟩
set_option maxRecDepth 100000 in
theorem mk_X3_isCrowd : MK mX3_isCrowd 1 := ⟨gw_mem (List.mem_of_getElem? (i := 623) rfl) rfl, gw_mem (List.mem_of_getElem? (i := 73) rfl) rfl, by decide +kernel, by decide +kernel, by decide +kernel⟩
set_option maxRecDepth 100000 in
theorem mi_X3_isCrowd : MKi mX3_isCrowd := ⟨gw_mem (List.mem_of_getElem? (i := 621) rfl) rfl, gw_mem (List.mem_of_getElem? (i := 622) rfl) rfl⟩
set_option maxRecDepth 100000 in
theorem mk_X3_allHeads : MK mX3_allHeads 0 := ⟨gw_mem (List.mem_of_getElem? (i := 602) rfl) rfl, gw_mem (List.mem_of_getElem? (i := 73) rfl) rfl, by decide +kernel, by decide +kernel, by decide +kernel⟩
set_option maxRecDepth 100000 in
theorem mi_X3_allHeads : MKi mX3_allHeads := ⟨gw_mem (List.mem_of_getElem? (i := 600) rfl) rfl, gw_mem (List.mem_of_getElem? (i := 601) rfl) rfl⟩
set_option maxRecDepth 100000 in
theorem mk_X3_addHeads : MK mX3_addHeads 1 := ⟨gw_mem (List.mem_of_getElem? (i := 598) rfl) rfl, gw_mem (List.mem_of_getElem? (i := 73) rfl) rfl, by decide +kernel, by decide +kernel, by decide +kernel⟩
set_option maxRecDepth 100000 in
theorem mi_X3_addHeads : MKi mX3_addHeads := ⟨gw_mem (List.mem_of_getElem? (i := 596) rfl) rfl, gw_mem (List.mem_of_getElem? (i := 597) rfl) rfl⟩
set_option maxRecDepth 100000 in
theorem mk_X4_init : MK mX4_init 1 := ⟨gw_mem (List.mem_of_getElem? (i := 129) rfl) rfl, gw_mem (List.mem_of_getElem? (i := 72) rfl) rfl, by decide +kernel, by decide +kernel, by decide +kernel⟩
set_option maxRecDepth 100000 in
theorem mi_X4_init : Cond.instanceMethod yX4_init ∈ gw := gw_mem (List.mem_of_getElem? (i := 128) rfl) rfl
set_option maxRecDepth 100000 in
theorem mk_X6_isBlank : MK mX6_isBlank 1 := ⟨gw_mem (List.mem_of_getElem? (i := 423) rfl) rfl, gw_mem (List.mem_of_getElem? (i := 71) rfl) rfl, by decide +kernel, by decide +kernel, by decide +kernel⟩
set_option maxRecDepth 100000 in
theorem ms_X6_isBlank : Cond.static yX6_isBlank ∈ gw := gw_mem (List.mem_of_getElem? (i := 422) rfl) rfl
set_option maxRecDepth 100000 in
theorem mk_X6_isLetter : MK mX6_isLetter 1 := ⟨gw_mem (List.mem_of_getElem? (i := 426) rfl) rfl, gw_mem (List.mem_of_getElem? (i := 71) rfl) rfl, by decide +kernel, by decide +kernel, by decide +kernel⟩
set_option maxRecDepth 100000 in
theorem ms_X6_isLetter : Cond.static yX6_isLetter ∈ gw := gw_mem (List.mem_of_getElem? (i := 425) rfl) rfl
set_option maxRecDepth 100000 in
theorem mk_X6_passLetters : MK mX6_passLetters 0 := ⟨gw_mem (List.mem_of_getElem? (i := 430) rfl) rfl, gw_mem (List.mem_of_getElem? (i := 71) rfl) rfl, by decide +kernel, by decide +kernel, by decide +kernel⟩
set_option maxRecDepth 100000 in
theorem mi_X6_passLetters : MKi mX6_passLetters := ⟨gw_mem (List.mem_of_getElem? (i := 429) rfl) rfl, gw_mem (List.mem_of_getElem? (i := 1) rfl) rfl⟩
set_option maxRecDepth 100000 in
theorem mk_X6_isFigure : MK mX6_isFigure 1 := ⟨gw_mem (List.mem_of_getElem? (i := 433) rfl) rfl, gw_mem (List.mem_of_getElem? (i := 71) rfl) rfl, by decide +kernel, by decide +kernel, by decide +kernel⟩
set_option maxRecDepth 100000 in
theorem ms_X6_isFigure : Cond.static yX6_isFigure ∈ gw := gw_mem (List.mem_of_getElem? (i := 432) rfl) rfl
set_option maxRecDepth 100000 in
theorem mk_X6_passFigures : MK mX6_passFigures 0 := ⟨gw_mem (List.mem_of_getElem? (i := 437) rfl) rfl, gw_mem (List.mem_of_getElem? (i := 71) rfl) rfl, by decide +kernel, by decide +kernel, by decide +kernel⟩
set_option maxRecDepth 100000 in
theorem mi_X6_passFigures : MKi mX6_passFigures := ⟨gw_mem (List.mem_of_getElem? (i := 436) rfl) rfl, gw_mem (List.mem_of_getElem? (i := 2) rfl) rfl⟩
set_option maxRecDepth 100000 in
theorem mk_X6_step : MK mX6_step 0 := ⟨gw_mem (List.mem_of_getElem? (i := 420) rfl) rfl, gw_mem (List.mem_of_getElem? (i := 71) rfl) rfl, by decide +kernel, by decide +kernel, by decide +kernel⟩
set_option maxRecDepth 100000 in
theorem mi_X6_step : MKi mX6_step := ⟨gw_mem (List.mem_of_getElem? (i := 418) rfl) rfl, gw_mem (List.mem_of_getElem? (i := 419) rfl) rfl⟩
set_option maxRecDepth 100000 in
theorem mk_X6_rewind : MK mX6_rewind 0 := ⟨gw_mem (List.mem_of_getElem? (i := 416) rfl) rfl, gw_mem (List.mem_of_getElem? (i := 71) rfl) rfl, by decide +kernel, by decide +kernel, by decide +kernel⟩
set_option maxRecDepth 100000 in
theorem mi_X6_rewind : MKi mX6_rewind := ⟨gw_mem (List.mem_of_getElem? (i := 414) rfl) rfl, gw_mem (List.mem_of_getElem? (i := 415) rfl) rfl⟩
set_option maxRecDepth 100000 in
theorem mk_X6_isWord : MK mX6_isWord 1 := ⟨gw_mem (List.mem_of_getElem? (i := 450) rfl) rfl, gw_mem (List.mem_of_getElem? (i := 71) rfl) rfl, by decide +kernel, by decide +kernel, by decide +kernel⟩
set_option maxRecDepth 100000 in
theorem mi_X6_isWord : MKi mX6_isWord := ⟨gw_mem (List.mem_of_getElem? (i := 448) rfl) rfl, gw_mem (List.mem_of_getElem? (i := 449) rfl) rfl⟩
set_option maxRecDepth 100000 in
theorem mk_X4_failed : MK mX4_failed 1 := ⟨gw_mem (List.mem_of_getElem? (i := 502) rfl) rfl, gw_mem (List.mem_of_getElem? (i := 72) rfl) rfl, by decide +kernel, by decide +kernel, by decide +kernel⟩
set_option maxRecDepth 100000 in
theorem mi_X4_failed : MKi mX4_failed := ⟨gw_mem (List.mem_of_getElem? (i := 501) rfl) rfl, gw_mem (List.mem_of_getElem? (i := 5) rfl) rfl⟩
set_option maxRecDepth 100000 in
theorem mk_X4_readWord : MK mX4_readWord 2 := ⟨gw_mem (List.mem_of_getElem? (i := 446) rfl) rfl, gw_mem (List.mem_of_getElem? (i := 72) rfl) rfl, by decide +kernel, by decide +kernel, by decide +kernel⟩
set_option maxRecDepth 100000 in
theorem mi_X4_readWord : MKi mX4_readWord := ⟨gw_mem (List.mem_of_getElem? (i := 445) rfl) rfl, gw_mem (List.mem_of_getElem? (i := 4) rfl) rfl⟩
set_option maxRecDepth 100000 in
theorem mk_X4_readNumber : MK mX4_readNumber 3 := ⟨gw_mem (List.mem_of_getElem? (i := 507) rfl) rfl, gw_mem (List.mem_of_getElem? (i := 72) rfl) rfl, by decide +kernel, by decide +kernel, by decide +kernel⟩
set_option maxRecDepth 100000 in
theorem mi_X4_readNumber : MKi mX4_readNumber := ⟨gw_mem (List.mem_of_getElem? (i := 506) rfl) rfl, gw_mem (List.mem_of_getElem? (i := 6) rfl) rfl⟩
set_option maxRecDepth 100000 in
theorem mk_X4_readEnd : MK mX4_readEnd 0 := ⟨gw_mem (List.mem_of_getElem? (i := 511) rfl) rfl, gw_mem (List.mem_of_getElem? (i := 72) rfl) rfl, by decide +kernel, by decide +kernel, by decide +kernel⟩
set_option maxRecDepth 100000 in
theorem mi_X4_readEnd : MKi mX4_readEnd := ⟨gw_mem (List.mem_of_getElem? (i := 510) rfl) rfl, gw_mem (List.mem_of_getElem? (i := 7) rfl) rfl⟩
set_option maxRecDepth 100000 in
theorem mk_X4_readRoom : MK mX4_readRoom 0 := ⟨gw_mem (List.mem_of_getElem? (i := 441) rfl) rfl, gw_mem (List.mem_of_getElem? (i := 72) rfl) rfl, by decide +kernel, by decide +kernel, by decide +kernel⟩
set_option maxRecDepth 100000 in
theorem mi_X4_readRoom : MKi mX4_readRoom := ⟨gw_mem (List.mem_of_getElem? (i := 440) rfl) rfl, gw_mem (List.mem_of_getElem? (i := 3) rfl) rfl⟩
set_option maxRecDepth 100000 in
theorem mk_X4_readDoor : MK mX4_readDoor 0 := ⟨gw_mem (List.mem_of_getElem? (i := 520) rfl) rfl, gw_mem (List.mem_of_getElem? (i := 72) rfl) rfl, by decide +kernel, by decide +kernel, by decide +kernel⟩
set_option maxRecDepth 100000 in
theorem mi_X4_readDoor : MKi mX4_readDoor := ⟨gw_mem (List.mem_of_getElem? (i := 519) rfl) rfl, gw_mem (List.mem_of_getElem? (i := 9) rfl) rfl⟩
set_option maxRecDepth 100000 in
theorem mk_X4_sortNamed : MK mX4_sortNamed 0 := ⟨gw_mem (List.mem_of_getElem? (i := 533) rfl) rfl, gw_mem (List.mem_of_getElem? (i := 72) rfl) rfl, by decide +kernel, by decide +kernel, by decide +kernel⟩
set_option maxRecDepth 100000 in
theorem mi_X4_sortNamed : MKi mX4_sortNamed := ⟨gw_mem (List.mem_of_getElem? (i := 532) rfl) rfl, gw_mem (List.mem_of_getElem? (i := 11) rfl) rfl⟩
set_option maxRecDepth 100000 in
theorem mk_X4_readCrowd : MK mX4_readCrowd 0 := ⟨gw_mem (List.mem_of_getElem? (i := 528) rfl) rfl, gw_mem (List.mem_of_getElem? (i := 72) rfl) rfl, by decide +kernel, by decide +kernel, by decide +kernel⟩
set_option maxRecDepth 100000 in
theorem mi_X4_readCrowd : MKi mX4_readCrowd := ⟨gw_mem (List.mem_of_getElem? (i := 527) rfl) rfl, gw_mem (List.mem_of_getElem? (i := 10) rfl) rfl⟩
set_option maxRecDepth 100000 in
theorem mk_X4_readPart : MK mX4_readPart 0 := ⟨gw_mem (List.mem_of_getElem? (i := 515) rfl) rfl, gw_mem (List.mem_of_getElem? (i := 72) rfl) rfl, by decide +kernel, by decide +kernel, by decide +kernel⟩
set_option maxRecDepth 100000 in
theorem mi_X4_readPart : MKi mX4_readPart := ⟨gw_mem (List.mem_of_getElem? (i := 514) rfl) rfl, gw_mem (List.mem_of_getElem? (i := 8) rfl) rfl⟩
set_option maxRecDepth 100000 in
theorem mk_X4_readTape : MK mX4_readTape 0 := ⟨gw_mem (List.mem_of_getElem? (i := 408) rfl) rfl, gw_mem (List.mem_of_getElem? (i := 72) rfl) rfl, by decide +kernel, by decide +kernel, by decide +kernel⟩
set_option maxRecDepth 100000 in
theorem mi_X4_readTape : MKi mX4_readTape := ⟨gw_mem (List.mem_of_getElem? (i := 406) rfl) rfl, gw_mem (List.mem_of_getElem? (i := 407) rfl) rfl⟩
set_option maxRecDepth 100000 in
theorem mk_X5_init : MK mX5_init 0 := ⟨gw_mem (List.mem_of_getElem? (i := 302) rfl) rfl, gw_mem (List.mem_of_getElem? (i := 77) rfl) rfl, by decide +kernel, by decide +kernel, by decide +kernel⟩
set_option maxRecDepth 100000 in
theorem mi_X5_init : Cond.instanceMethod yX5_init ∈ gw := gw_mem (List.mem_of_getElem? (i := 301) rfl) rfl
set_option maxRecDepth 100000 in
theorem mk_X5_make : MK mX5_make 2 := ⟨gw_mem (List.mem_of_getElem? (i := 368) rfl) rfl, gw_mem (List.mem_of_getElem? (i := 77) rfl) rfl, by decide +kernel, by decide +kernel, by decide +kernel⟩
set_option maxRecDepth 100000 in
theorem mi_X5_make : MKi mX5_make := ⟨gw_mem (List.mem_of_getElem? (i := 366) rfl) rfl, gw_mem (List.mem_of_getElem? (i := 367) rfl) rfl⟩
set_option maxRecDepth 100000 in
theorem mk_X5_holds : MK mX5_holds 2 := ⟨gw_mem (List.mem_of_getElem? (i := 376) rfl) rfl, gw_mem (List.mem_of_getElem? (i := 77) rfl) rfl, by decide +kernel, by decide +kernel, by decide +kernel⟩
set_option maxRecDepth 100000 in
theorem mi_X5_holds : MKi mX5_holds := ⟨gw_mem (List.mem_of_getElem? (i := 374) rfl) rfl, gw_mem (List.mem_of_getElem? (i := 375) rfl) rfl⟩
set_option maxRecDepth 100000 in
theorem mk_X5_put : MK mX5_put 2 := ⟨gw_mem (List.mem_of_getElem? (i := 380) rfl) rfl, gw_mem (List.mem_of_getElem? (i := 77) rfl) rfl, by decide +kernel, by decide +kernel, by decide +kernel⟩
set_option maxRecDepth 100000 in
theorem mi_X5_put : MKi mX5_put := ⟨gw_mem (List.mem_of_getElem? (i := 378) rfl) rfl, gw_mem (List.mem_of_getElem? (i := 379) rfl) rfl⟩
set_option maxRecDepth 100000 in
theorem mk_X5_holdsSets : MK mX5_holdsSets 3 := ⟨gw_mem (List.mem_of_getElem? (i := 586) rfl) rfl, gw_mem (List.mem_of_getElem? (i := 77) rfl) rfl, by decide +kernel, by decide +kernel, by decide +kernel⟩
set_option maxRecDepth 100000 in
theorem mi_X5_holdsSets : MKi mX5_holdsSets := ⟨gw_mem (List.mem_of_getElem? (i := 584) rfl) rfl, gw_mem (List.mem_of_getElem? (i := 585) rfl) rfl⟩
set_option maxRecDepth 100000 in
theorem mk_X5_countBit : MK mX5_countBit 3 := ⟨gw_mem (List.mem_of_getElem? (i := 594) rfl) rfl, gw_mem (List.mem_of_getElem? (i := 77) rfl) rfl, by decide +kernel, by decide +kernel, by decide +kernel⟩
set_option maxRecDepth 100000 in
theorem mi_X5_countBit : MKi mX5_countBit := ⟨gw_mem (List.mem_of_getElem? (i := 592) rfl) rfl, gw_mem (List.mem_of_getElem? (i := 593) rfl) rfl⟩
set_option maxRecDepth 100000 in
theorem mk_X6_init : MK mX6_init 0 := ⟨gw_mem (List.mem_of_getElem? (i := 99) rfl) rfl, gw_mem (List.mem_of_getElem? (i := 71) rfl) rfl, by decide +kernel, by decide +kernel, by decide +kernel⟩
set_option maxRecDepth 100000 in
theorem mi_X6_init : Cond.instanceMethod yX6_init ∈ gw := gw_mem (List.mem_of_getElem? (i := 98) rfl) rfl
set_option maxRecDepth 100000 in
theorem mk_X6_append : MK mX6_append 2 := ⟨gw_mem (List.mem_of_getElem? (i := 400) rfl) rfl, gw_mem (List.mem_of_getElem? (i := 71) rfl) rfl, by decide +kernel, by decide +kernel, by decide +kernel⟩
set_option maxRecDepth 100000 in
theorem mi_X6_append : MKi mX6_append := ⟨gw_mem (List.mem_of_getElem? (i := 398) rfl) rfl, gw_mem (List.mem_of_getElem? (i := 399) rfl) rfl⟩
set_option maxRecDepth 100000 in
theorem mk_X7_init : MK mX7_init 0 := ⟨gw_mem (List.mem_of_getElem? (i := 89) rfl) rfl, gw_mem (List.mem_of_getElem? (i := 70) rfl) rfl, by decide +kernel, by decide +kernel, by decide +kernel⟩
set_option maxRecDepth 100000 in
theorem mi_X7_init : Cond.instanceMethod yX7_init ∈ gw := gw_mem (List.mem_of_getElem? (i := 88) rfl) rfl
set_option maxRecDepth 100000 in
theorem mk_X7_isRow : MK mX7_isRow 1 := ⟨gw_mem (List.mem_of_getElem? (i := 358) rfl) rfl, gw_mem (List.mem_of_getElem? (i := 70) rfl) rfl, by decide +kernel, by decide +kernel, by decide +kernel⟩
set_option maxRecDepth 100000 in
theorem ms_X7_isRow : Cond.static yX7_isRow ∈ gw := gw_mem (List.mem_of_getElem? (i := 357) rfl) rfl
set_option maxRecDepth 100000 in
theorem mk_X7_found : MK mX7_found 1 := ⟨gw_mem (List.mem_of_getElem? (i := 363) rfl) rfl, gw_mem (List.mem_of_getElem? (i := 70) rfl) rfl, by decide +kernel, by decide +kernel, by decide +kernel⟩
set_option maxRecDepth 100000 in
theorem mi_X7_found : MKi mX7_found := ⟨gw_mem (List.mem_of_getElem? (i := 362) rfl) rfl, gw_mem (List.mem_of_getElem? (i := 0) rfl) rfl⟩
set_option maxRecDepth 100000 in
theorem mk_X7_row : MK mX7_row 3 := ⟨gw_mem (List.mem_of_getElem? (i := 355) rfl) rfl, gw_mem (List.mem_of_getElem? (i := 70) rfl) rfl, by decide +kernel, by decide +kernel, by decide +kernel⟩
set_option maxRecDepth 100000 in
theorem mi_X7_row : MKi mX7_row := ⟨gw_mem (List.mem_of_getElem? (i := 353) rfl) rfl, gw_mem (List.mem_of_getElem? (i := 354) rfl) rfl⟩
set_option maxRecDepth 100000 in
theorem mk_X7_set : MK mX7_set 3 := ⟨gw_mem (List.mem_of_getElem? (i := 372) rfl) rfl, gw_mem (List.mem_of_getElem? (i := 70) rfl) rfl, by decide +kernel, by decide +kernel, by decide +kernel⟩
set_option maxRecDepth 100000 in
theorem mi_X7_set : MKi mX7_set := ⟨gw_mem (List.mem_of_getElem? (i := 370) rfl) rfl, gw_mem (List.mem_of_getElem? (i := 371) rfl) rfl⟩
set_option maxRecDepth 100000 in
theorem mk_X7_copy : MK mX7_copy 5 := ⟨gw_mem (List.mem_of_getElem? (i := 384) rfl) rfl, gw_mem (List.mem_of_getElem? (i := 70) rfl) rfl, by decide +kernel, by decide +kernel, by decide +kernel⟩
set_option maxRecDepth 100000 in
theorem mi_X7_copy : MKi mX7_copy := ⟨gw_mem (List.mem_of_getElem? (i := 382) rfl) rfl, gw_mem (List.mem_of_getElem? (i := 383) rfl) rfl⟩
set_option maxRecDepth 100000 in
theorem mk_X7_drop : MK mX7_drop 1 := ⟨gw_mem (List.mem_of_getElem? (i := 391) rfl) rfl, gw_mem (List.mem_of_getElem? (i := 70) rfl) rfl, by decide +kernel, by decide +kernel, by decide +kernel⟩
set_option maxRecDepth 100000 in
theorem mi_X7_drop : MKi mX7_drop := ⟨gw_mem (List.mem_of_getElem? (i := 389) rfl) rfl, gw_mem (List.mem_of_getElem? (i := 390) rfl) rfl⟩
set_option maxRecDepth 100000 in
theorem mk_X7_feed : MK mX7_feed 2 := ⟨gw_mem (List.mem_of_getElem? (i := 395) rfl) rfl, gw_mem (List.mem_of_getElem? (i := 70) rfl) rfl, by decide +kernel, by decide +kernel, by decide +kernel⟩
set_option maxRecDepth 100000 in
theorem mi_X7_feed : MKi mX7_feed := ⟨gw_mem (List.mem_of_getElem? (i := 393) rfl) rfl, gw_mem (List.mem_of_getElem? (i := 394) rfl) rfl⟩
set_option maxRecDepth 100000 in
theorem mk_X7_house : MK mX7_house 0 := ⟨gw_mem (List.mem_of_getElem? (i := 404) rfl) rfl, gw_mem (List.mem_of_getElem? (i := 70) rfl) rfl, by decide +kernel, by decide +kernel, by decide +kernel⟩
set_option maxRecDepth 100000 in
theorem mi_X7_house : MKi mX7_house := ⟨gw_mem (List.mem_of_getElem? (i := 402) rfl) rfl, gw_mem (List.mem_of_getElem? (i := 403) rfl) rfl⟩
set_option maxRecDepth 100000 in
theorem mk_X7_fault : MK mX7_fault 0 := ⟨gw_mem (List.mem_of_getElem? (i := 553) rfl) rfl, gw_mem (List.mem_of_getElem? (i := 70) rfl) rfl, by decide +kernel, by decide +kernel, by decide +kernel⟩
set_option maxRecDepth 100000 in
theorem mi_X7_fault : MKi mX7_fault := ⟨gw_mem (List.mem_of_getElem? (i := 551) rfl) rfl, gw_mem (List.mem_of_getElem? (i := 552) rfl) rfl⟩
set_option maxRecDepth 100000 in
theorem mk_X7_bell : MK mX7_bell 0 := ⟨gw_mem (List.mem_of_getElem? (i := 557) rfl) rfl, gw_mem (List.mem_of_getElem? (i := 70) rfl) rfl, by decide +kernel, by decide +kernel, by decide +kernel⟩
set_option maxRecDepth 100000 in
theorem mi_X7_bell : MKi mX7_bell := ⟨gw_mem (List.mem_of_getElem? (i := 555) rfl) rfl, gw_mem (List.mem_of_getElem? (i := 556) rfl) rfl⟩
set_option maxRecDepth 100000 in
theorem mk_X7_tooManyHeads : MK mX7_tooManyHeads 3 := ⟨gw_mem (List.mem_of_getElem? (i := 590) rfl) rfl, gw_mem (List.mem_of_getElem? (i := 70) rfl) rfl, by decide +kernel, by decide +kernel, by decide +kernel⟩
set_option maxRecDepth 100000 in
theorem mi_X7_tooManyHeads : MKi mX7_tooManyHeads := ⟨gw_mem (List.mem_of_getElem? (i := 589) rfl) rfl, gw_mem (List.mem_of_getElem? (i := 14) rfl) rfl⟩
set_option maxRecDepth 100000 in
theorem mk_X7_bells : MK mX7_bells 3 := ⟨gw_mem (List.mem_of_getElem? (i := 582) rfl) rfl, gw_mem (List.mem_of_getElem? (i := 70) rfl) rfl, by decide +kernel, by decide +kernel, by decide +kernel⟩
set_option maxRecDepth 100000 in
theorem mi_X7_bells : MKi mX7_bells := ⟨gw_mem (List.mem_of_getElem? (i := 580) rfl) rfl, gw_mem (List.mem_of_getElem? (i := 581) rfl) rfl⟩
set_option maxRecDepth 100000 in
theorem mk_X7_door : MK mX7_door 3 := ⟨gw_mem (List.mem_of_getElem? (i := 606) rfl) rfl, gw_mem (List.mem_of_getElem? (i := 70) rfl) rfl, by decide +kernel, by decide +kernel, by decide +kernel⟩
set_option maxRecDepth 100000 in
theorem mi_X7_door : MKi mX7_door := ⟨gw_mem (List.mem_of_getElem? (i := 604) rfl) rfl, gw_mem (List.mem_of_getElem? (i := 605) rfl) rfl⟩
set_option maxRecDepth 100000 in
theorem mk_X7_heads : MK mX7_heads 2 := ⟨gw_mem (List.mem_of_getElem? (i := 619) rfl) rfl, gw_mem (List.mem_of_getElem? (i := 70) rfl) rfl, by decide +kernel, by decide +kernel, by decide +kernel⟩
set_option maxRecDepth 100000 in
theorem mi_X7_heads : MKi mX7_heads := ⟨gw_mem (List.mem_of_getElem? (i := 617) rfl) rfl, gw_mem (List.mem_of_getElem? (i := 618) rfl) rfl⟩
set_option maxRecDepth 100000 in
theorem mk_X7_undo : MK mX7_undo 0 := ⟨gw_mem (List.mem_of_getElem? (i := 627) rfl) rfl, gw_mem (List.mem_of_getElem? (i := 70) rfl) rfl, by decide +kernel, by decide +kernel, by decide +kernel⟩
set_option maxRecDepth 100000 in
theorem mi_X7_undo : MKi mX7_undo := ⟨gw_mem (List.mem_of_getElem? (i := 625) rfl) rfl, gw_mem (List.mem_of_getElem? (i := 626) rfl) rfl⟩
set_option maxRecDepth 100000 in
theorem mk_X7_crowd : MK mX7_crowd 2 := ⟨gw_mem (List.mem_of_getElem? (i := 635) rfl) rfl, gw_mem (List.mem_of_getElem? (i := 70) rfl) rfl, by decide +kernel, by decide +kernel, by decide +kernel⟩
set_option maxRecDepth 100000 in
theorem mi_X7_crowd : MKi mX7_crowd := ⟨gw_mem (List.mem_of_getElem? (i := 633) rfl) rfl, gw_mem (List.mem_of_getElem? (i := 634) rfl) rfl⟩
set_option maxRecDepth 100000 in
theorem mk_X7_room : MK mX7_room 2 := ⟨gw_mem (List.mem_of_getElem? (i := 639) rfl) rfl, gw_mem (List.mem_of_getElem? (i := 70) rfl) rfl, by decide +kernel, by decide +kernel, by decide +kernel⟩
set_option maxRecDepth 100000 in
theorem mi_X7_room : MKi mX7_room := ⟨gw_mem (List.mem_of_getElem? (i := 637) rfl) rfl, gw_mem (List.mem_of_getElem? (i := 638) rfl) rfl⟩
set_option maxRecDepth 100000 in
theorem mk_X7_ahead : MK mX7_ahead 2 := ⟨gw_mem (List.mem_of_getElem? (i := 647) rfl) rfl, gw_mem (List.mem_of_getElem? (i := 70) rfl) rfl, by decide +kernel, by decide +kernel, by decide +kernel⟩
set_option maxRecDepth 100000 in
theorem mi_X7_ahead : MKi mX7_ahead := ⟨gw_mem (List.mem_of_getElem? (i := 645) rfl) rfl, gw_mem (List.mem_of_getElem? (i := 646) rfl) rfl⟩
set_option maxRecDepth 100000 in
theorem mk_X7_roomAhead : MK mX7_roomAhead 3 := ⟨gw_mem (List.mem_of_getElem? (i := 661) rfl) rfl, gw_mem (List.mem_of_getElem? (i := 70) rfl) rfl, by decide +kernel, by decide +kernel, by decide +kernel⟩
set_option maxRecDepth 100000 in
theorem mi_X7_roomAhead : MKi mX7_roomAhead := ⟨gw_mem (List.mem_of_getElem? (i := 659) rfl) rfl, gw_mem (List.mem_of_getElem? (i := 660) rfl) rfl⟩
set_option maxRecDepth 100000 in
theorem mk_X7_rest : MK mX7_rest 1 := ⟨gw_mem (List.mem_of_getElem? (i := 675) rfl) rfl, gw_mem (List.mem_of_getElem? (i := 70) rfl) rfl, by decide +kernel, by decide +kernel, by decide +kernel⟩
set_option maxRecDepth 100000 in
theorem mi_X7_rest : MKi mX7_rest := ⟨gw_mem (List.mem_of_getElem? (i := 673) rfl) rfl, gw_mem (List.mem_of_getElem? (i := 674) rfl) rfl⟩
set_option maxRecDepth 100000 in
theorem mk_X7_fewest : MK mX7_fewest 4 := ⟨gw_mem (List.mem_of_getElem? (i := 696) rfl) rfl, gw_mem (List.mem_of_getElem? (i := 70) rfl) rfl, by decide +kernel, by decide +kernel, by decide +kernel⟩
set_option maxRecDepth 100000 in
theorem mi_X7_fewest : MKi mX7_fewest := ⟨gw_mem (List.mem_of_getElem? (i := 695) rfl) rfl, gw_mem (List.mem_of_getElem? (i := 17) rfl) rfl⟩
set_option maxRecDepth 100000 in
theorem mk_X7_hired : MK mX7_hired 3 := ⟨gw_mem (List.mem_of_getElem? (i := 692) rfl) rfl, gw_mem (List.mem_of_getElem? (i := 70) rfl) rfl, by decide +kernel, by decide +kernel, by decide +kernel⟩
set_option maxRecDepth 100000 in
theorem mi_X7_hired : MKi mX7_hired := ⟨gw_mem (List.mem_of_getElem? (i := 690) rfl) rfl, gw_mem (List.mem_of_getElem? (i := 691) rfl) rfl⟩
set_option maxRecDepth 100000 in
theorem mk_X7_empty : MK mX7_empty 3 := ⟨gw_mem (List.mem_of_getElem? (i := 713) rfl) rfl, gw_mem (List.mem_of_getElem? (i := 70) rfl) rfl, by decide +kernel, by decide +kernel, by decide +kernel⟩
set_option maxRecDepth 100000 in
theorem mi_X7_empty : MKi mX7_empty := ⟨gw_mem (List.mem_of_getElem? (i := 711) rfl) rfl, gw_mem (List.mem_of_getElem? (i := 712) rfl) rfl⟩
set_option maxRecDepth 100000 in
theorem mk_X7_apart : MK mX7_apart 3 := ⟨gw_mem (List.mem_of_getElem? (i := 717) rfl) rfl, gw_mem (List.mem_of_getElem? (i := 70) rfl) rfl, by decide +kernel, by decide +kernel, by decide +kernel⟩
set_option maxRecDepth 100000 in
theorem mi_X7_apart : MKi mX7_apart := ⟨gw_mem (List.mem_of_getElem? (i := 715) rfl) rfl, gw_mem (List.mem_of_getElem? (i := 716) rfl) rfl⟩
set_option maxRecDepth 100000 in
theorem mk_X7_began : MK mX7_began 2 := ⟨gw_mem (List.mem_of_getElem? (i := 735) rfl) rfl, gw_mem (List.mem_of_getElem? (i := 70) rfl) rfl, by decide +kernel, by decide +kernel, by decide +kernel⟩
set_option maxRecDepth 100000 in
theorem mi_X7_began : MKi mX7_began := ⟨gw_mem (List.mem_of_getElem? (i := 733) rfl) rfl, gw_mem (List.mem_of_getElem? (i := 734) rfl) rfl⟩
set_option maxRecDepth 100000 in
theorem mk_X7_image : MK mX7_image 1 := ⟨gw_mem (List.mem_of_getElem? (i := 760) rfl) rfl, gw_mem (List.mem_of_getElem? (i := 70) rfl) rfl, by decide +kernel, by decide +kernel, by decide +kernel⟩
set_option maxRecDepth 100000 in
theorem mi_X7_image : MKi mX7_image := ⟨gw_mem (List.mem_of_getElem? (i := 758) rfl) rfl, gw_mem (List.mem_of_getElem? (i := 759) rfl) rfl⟩
set_option maxRecDepth 100000 in
theorem mk_X7_restore : MK mX7_restore 1 := ⟨gw_mem (List.mem_of_getElem? (i := 764) rfl) rfl, gw_mem (List.mem_of_getElem? (i := 70) rfl) rfl, by decide +kernel, by decide +kernel, by decide +kernel⟩
set_option maxRecDepth 100000 in
theorem mi_X7_restore : MKi mX7_restore := ⟨gw_mem (List.mem_of_getElem? (i := 762) rfl) rfl, gw_mem (List.mem_of_getElem? (i := 763) rfl) rfl⟩
set_option maxRecDepth 100000 in
theorem mk_X7_kind : MK mX7_kind 1 := ⟨gw_mem (List.mem_of_getElem? (i := 768) rfl) rfl, gw_mem (List.mem_of_getElem? (i := 70) rfl) rfl, by decide +kernel, by decide +kernel, by decide +kernel⟩
set_option maxRecDepth 100000 in
theorem mi_X7_kind : MKi mX7_kind := ⟨gw_mem (List.mem_of_getElem? (i := 766) rfl) rfl, gw_mem (List.mem_of_getElem? (i := 767) rfl) rfl⟩
set_option maxRecDepth 100000 in
theorem mk_X7_isA : MK mX7_isA 2 := ⟨gw_mem (List.mem_of_getElem? (i := 775) rfl) rfl, gw_mem (List.mem_of_getElem? (i := 70) rfl) rfl, by decide +kernel, by decide +kernel, by decide +kernel⟩
set_option maxRecDepth 100000 in
theorem ms_X7_isA : Cond.static yX7_isA ∈ gw := gw_mem (List.mem_of_getElem? (i := 774) rfl) rfl
set_option maxRecDepth 100000 in
theorem mk_X7_as : MK mX7_as 2 := ⟨gw_mem (List.mem_of_getElem? (i := 772) rfl) rfl, gw_mem (List.mem_of_getElem? (i := 70) rfl) rfl, by decide +kernel, by decide +kernel, by decide +kernel⟩
set_option maxRecDepth 100000 in
theorem mi_X7_as : MKi mX7_as := ⟨gw_mem (List.mem_of_getElem? (i := 770) rfl) rfl, gw_mem (List.mem_of_getElem? (i := 771) rfl) rfl⟩
set_option maxRecDepth 100000 in
theorem mk_X7_ask : MK mX7_ask 2 := ⟨gw_mem (List.mem_of_getElem? (i := 781) rfl) rfl, gw_mem (List.mem_of_getElem? (i := 70) rfl) rfl, by decide +kernel, by decide +kernel, by decide +kernel⟩
set_option maxRecDepth 100000 in
theorem mi_X7_ask : MKi mX7_ask := ⟨gw_mem (List.mem_of_getElem? (i := 779) rfl) rfl, gw_mem (List.mem_of_getElem? (i := 780) rfl) rfl⟩
set_option maxRecDepth 100000 in
theorem mk_X7_trace : MK mX7_trace 1 := ⟨gw_mem (List.mem_of_getElem? (i := 809) rfl) rfl, gw_mem (List.mem_of_getElem? (i := 70) rfl) rfl, by decide +kernel, by decide +kernel, by decide +kernel⟩
set_option maxRecDepth 100000 in
theorem mi_X7_trace : MKi mX7_trace := ⟨gw_mem (List.mem_of_getElem? (i := 807) rfl) rfl, gw_mem (List.mem_of_getElem? (i := 808) rfl) rfl⟩
set_option maxRecDepth 100000 in
theorem mk_X7_countRows : MK mX7_countRows 0 := ⟨gw_mem (List.mem_of_getElem? (i := 817) rfl) rfl, gw_mem (List.mem_of_getElem? (i := 70) rfl) rfl, by decide +kernel, by decide +kernel, by decide +kernel⟩
set_option maxRecDepth 100000 in
theorem mi_X7_countRows : MKi mX7_countRows := ⟨gw_mem (List.mem_of_getElem? (i := 816) rfl) rfl, gw_mem (List.mem_of_getElem? (i := 28) rfl) rfl⟩
set_option maxRecDepth 100000 in
theorem mk_X7_count : MK mX7_count 1 := ⟨gw_mem (List.mem_of_getElem? (i := 813) rfl) rfl, gw_mem (List.mem_of_getElem? (i := 70) rfl) rfl, by decide +kernel, by decide +kernel, by decide +kernel⟩
set_option maxRecDepth 100000 in
theorem mi_X7_count : MKi mX7_count := ⟨gw_mem (List.mem_of_getElem? (i := 811) rfl) rfl, gw_mem (List.mem_of_getElem? (i := 812) rfl) rfl⟩
set_option maxRecDepth 100000 in
theorem mk_X7_status : MK mX7_status 0 := ⟨gw_mem (List.mem_of_getElem? (i := 821) rfl) rfl, gw_mem (List.mem_of_getElem? (i := 70) rfl) rfl, by decide +kernel, by decide +kernel, by decide +kernel⟩
set_option maxRecDepth 100000 in
theorem mi_X7_status : MKi mX7_status := ⟨gw_mem (List.mem_of_getElem? (i := 819) rfl) rfl, gw_mem (List.mem_of_getElem? (i := 820) rfl) rfl⟩
set_option maxRecDepth 100000 in
theorem mk_X8_init : MK mX8_init 0 := ⟨gw_mem (List.mem_of_getElem? (i := 826) rfl) rfl, gw_mem (List.mem_of_getElem? (i := 78) rfl) rfl, by decide +kernel, by decide +kernel, by decide +kernel⟩
set_option maxRecDepth 100000 in
theorem mi_X8_init : Cond.instanceMethod yX8_init ∈ gw := gw_mem (List.mem_of_getElem? (i := 825) rfl) rfl
set_option maxRecDepth 100000 in
theorem mk_X8_in : MK mX8_in 3 := ⟨gw_mem (List.mem_of_getElem? (i := 936) rfl) rfl, gw_mem (List.mem_of_getElem? (i := 78) rfl) rfl, by decide +kernel, by decide +kernel, by decide +kernel⟩
set_option maxRecDepth 100000 in
theorem ms_X8_in : Cond.static yX8_in ∈ gw := gw_mem (List.mem_of_getElem? (i := 935) rfl) rfl
set_option maxRecDepth 100000 in
theorem mk_X8_finding : MK mX8_finding 1 := ⟨gw_mem (List.mem_of_getElem? (i := 942) rfl) rfl, gw_mem (List.mem_of_getElem? (i := 78) rfl) rfl, by decide +kernel, by decide +kernel, by decide +kernel⟩
set_option maxRecDepth 100000 in
theorem mi_X8_finding : MKi mX8_finding := ⟨gw_mem (List.mem_of_getElem? (i := 941) rfl) rfl, gw_mem (List.mem_of_getElem? (i := 29) rfl) rfl⟩
set_option maxRecDepth 100000 in
theorem mk_X8_isRow : MK mX8_isRow 1 := ⟨gw_mem (List.mem_of_getElem? (i := 932) rfl) rfl, gw_mem (List.mem_of_getElem? (i := 78) rfl) rfl, by decide +kernel, by decide +kernel, by decide +kernel⟩
set_option maxRecDepth 100000 in
theorem ms_X8_isRow : Cond.static yX8_isRow ∈ gw := gw_mem (List.mem_of_getElem? (i := 931) rfl) rfl
set_option maxRecDepth 100000 in
theorem mk_X8_row : MK mX8_row 3 := ⟨gw_mem (List.mem_of_getElem? (i := 929) rfl) rfl, gw_mem (List.mem_of_getElem? (i := 78) rfl) rfl, by decide +kernel, by decide +kernel, by decide +kernel⟩
set_option maxRecDepth 100000 in
theorem mi_X8_row : MKi mX8_row := ⟨gw_mem (List.mem_of_getElem? (i := 927) rfl) rfl, gw_mem (List.mem_of_getElem? (i := 928) rfl) rfl⟩
set_option maxRecDepth 100000 in
theorem mk_X8_set : MK mX8_set 3 := ⟨gw_mem (List.mem_of_getElem? (i := 947) rfl) rfl, gw_mem (List.mem_of_getElem? (i := 78) rfl) rfl, by decide +kernel, by decide +kernel, by decide +kernel⟩
set_option maxRecDepth 100000 in
theorem mi_X8_set : MKi mX8_set := ⟨gw_mem (List.mem_of_getElem? (i := 945) rfl) rfl, gw_mem (List.mem_of_getElem? (i := 946) rfl) rfl⟩
set_option maxRecDepth 100000 in
theorem mk_X8_copy : MK mX8_copy 5 := ⟨gw_mem (List.mem_of_getElem? (i := 951) rfl) rfl, gw_mem (List.mem_of_getElem? (i := 78) rfl) rfl, by decide +kernel, by decide +kernel, by decide +kernel⟩
set_option maxRecDepth 100000 in
theorem mi_X8_copy : MKi mX8_copy := ⟨gw_mem (List.mem_of_getElem? (i := 949) rfl) rfl, gw_mem (List.mem_of_getElem? (i := 950) rfl) rfl⟩
set_option maxRecDepth 100000 in
theorem mk_X8_drop : MK mX8_drop 1 := ⟨gw_mem (List.mem_of_getElem? (i := 955) rfl) rfl, gw_mem (List.mem_of_getElem? (i := 78) rfl) rfl, by decide +kernel, by decide +kernel, by decide +kernel⟩
set_option maxRecDepth 100000 in
theorem mi_X8_drop : MKi mX8_drop := ⟨gw_mem (List.mem_of_getElem? (i := 953) rfl) rfl, gw_mem (List.mem_of_getElem? (i := 954) rfl) rfl⟩
set_option maxRecDepth 100000 in
theorem mk_X8_feed : MK mX8_feed 2 := ⟨gw_mem (List.mem_of_getElem? (i := 959) rfl) rfl, gw_mem (List.mem_of_getElem? (i := 78) rfl) rfl, by decide +kernel, by decide +kernel, by decide +kernel⟩
set_option maxRecDepth 100000 in
theorem mi_X8_feed : MKi mX8_feed := ⟨gw_mem (List.mem_of_getElem? (i := 957) rfl) rfl, gw_mem (List.mem_of_getElem? (i := 958) rfl) rfl⟩
set_option maxRecDepth 100000 in
theorem mk_X8_byteAt : MK mX8_byteAt 1 := ⟨gw_mem (List.mem_of_getElem? (i := 978) rfl) rfl, gw_mem (List.mem_of_getElem? (i := 78) rfl) rfl, by decide +kernel, by decide +kernel, by decide +kernel⟩
set_option maxRecDepth 100000 in
theorem mi_X8_byteAt : MKi mX8_byteAt := ⟨gw_mem (List.mem_of_getElem? (i := 977) rfl) rfl, gw_mem (List.mem_of_getElem? (i := 32) rfl) rfl⟩
set_option maxRecDepth 100000 in
theorem mk_X8_isLetter : MK mX8_isLetter 1 := ⟨gw_mem (List.mem_of_getElem? (i := 982) rfl) rfl, gw_mem (List.mem_of_getElem? (i := 78) rfl) rfl, by decide +kernel, by decide +kernel, by decide +kernel⟩
set_option maxRecDepth 100000 in
theorem ms_X8_isLetter : Cond.static yX8_isLetter ∈ gw := gw_mem (List.mem_of_getElem? (i := 981) rfl) rfl
set_option maxRecDepth 100000 in
theorem mk_X8_isFigure : MK mX8_isFigure 1 := ⟨gw_mem (List.mem_of_getElem? (i := 985) rfl) rfl, gw_mem (List.mem_of_getElem? (i := 78) rfl) rfl, by decide +kernel, by decide +kernel, by decide +kernel⟩
set_option maxRecDepth 100000 in
theorem ms_X8_isFigure : Cond.static yX8_isFigure ∈ gw := gw_mem (List.mem_of_getElem? (i := 984) rfl) rfl
set_option maxRecDepth 100000 in
theorem mk_X8_next : MK mX8_next 0 := ⟨gw_mem (List.mem_of_getElem? (i := 974) rfl) rfl, gw_mem (List.mem_of_getElem? (i := 78) rfl) rfl, by decide +kernel, by decide +kernel, by decide +kernel⟩
set_option maxRecDepth 100000 in
theorem mi_X8_next : MKi mX8_next := ⟨gw_mem (List.mem_of_getElem? (i := 973) rfl) rfl, gw_mem (List.mem_of_getElem? (i := 31) rfl) rfl⟩
set_option maxRecDepth 100000 in
theorem mk_X8_begin : MK mX8_begin 0 := ⟨gw_mem (List.mem_of_getElem? (i := 970) rfl) rfl, gw_mem (List.mem_of_getElem? (i := 78) rfl) rfl, by decide +kernel, by decide +kernel, by decide +kernel⟩
set_option maxRecDepth 100000 in
theorem mi_X8_begin : MKi mX8_begin := ⟨gw_mem (List.mem_of_getElem? (i := 969) rfl) rfl, gw_mem (List.mem_of_getElem? (i := 30) rfl) rfl⟩
set_option maxRecDepth 100000 in
theorem mk_X8_bad : MK mX8_bad 1 := ⟨gw_mem (List.mem_of_getElem? (i := 994) rfl) rfl, gw_mem (List.mem_of_getElem? (i := 78) rfl) rfl, by decide +kernel, by decide +kernel, by decide +kernel⟩
set_option maxRecDepth 100000 in
theorem mi_X8_bad : MKi mX8_bad := ⟨gw_mem (List.mem_of_getElem? (i := 993) rfl) rfl, gw_mem (List.mem_of_getElem? (i := 34) rfl) rfl⟩
set_option maxRecDepth 100000 in
theorem mk_X8_must : MK mX8_must 1 := ⟨gw_mem (List.mem_of_getElem? (i := 1006) rfl) rfl, gw_mem (List.mem_of_getElem? (i := 78) rfl) rfl, by decide +kernel, by decide +kernel, by decide +kernel⟩
set_option maxRecDepth 100000 in
theorem mi_X8_must : MKi mX8_must := ⟨gw_mem (List.mem_of_getElem? (i := 1005) rfl) rfl, gw_mem (List.mem_of_getElem? (i := 37) rfl) rfl⟩
set_option maxRecDepth 100000 in
theorem mk_X8_name : MK mX8_name 0 := ⟨gw_mem (List.mem_of_getElem? (i := 989) rfl) rfl, gw_mem (List.mem_of_getElem? (i := 78) rfl) rfl, by decide +kernel, by decide +kernel, by decide +kernel⟩
set_option maxRecDepth 100000 in
theorem mi_X8_name : MKi mX8_name := ⟨gw_mem (List.mem_of_getElem? (i := 988) rfl) rfl, gw_mem (List.mem_of_getElem? (i := 33) rfl) rfl⟩
set_option maxRecDepth 100000 in
theorem mk_X8_figures : MK mX8_figures 0 := ⟨gw_mem (List.mem_of_getElem? (i := 1014) rfl) rfl, gw_mem (List.mem_of_getElem? (i := 78) rfl) rfl, by decide +kernel, by decide +kernel, by decide +kernel⟩
set_option maxRecDepth 100000 in
theorem mi_X8_figures : MKi mX8_figures := ⟨gw_mem (List.mem_of_getElem? (i := 1013) rfl) rfl, gw_mem (List.mem_of_getElem? (i := 39) rfl) rfl⟩
set_option maxRecDepth 100000 in
theorem mk_X8_number : MK mX8_number 2 := ⟨gw_mem (List.mem_of_getElem? (i := 1010) rfl) rfl, gw_mem (List.mem_of_getElem? (i := 78) rfl) rfl, by decide +kernel, by decide +kernel, by decide +kernel⟩
set_option maxRecDepth 100000 in
theorem mi_X8_number : MKi mX8_number := ⟨gw_mem (List.mem_of_getElem? (i := 1009) rfl) rfl, gw_mem (List.mem_of_getElem? (i := 38) rfl) rfl⟩
set_option maxRecDepth 100000 in
theorem mk_X8_kindBy : MK mX8_kindBy 1 := ⟨gw_mem (List.mem_of_getElem? (i := 1031) rfl) rfl, gw_mem (List.mem_of_getElem? (i := 78) rfl) rfl, by decide +kernel, by decide +kernel, by decide +kernel⟩
set_option maxRecDepth 100000 in
theorem ms_X8_kindBy : Cond.static yX8_kindBy ∈ gw := gw_mem (List.mem_of_getElem? (i := 1030) rfl) rfl
set_option maxRecDepth 100000 in
theorem mk_X8_mustEnd : MK mX8_mustEnd 0 := ⟨gw_mem (List.mem_of_getElem? (i := 1018) rfl) rfl, gw_mem (List.mem_of_getElem? (i := 78) rfl) rfl, by decide +kernel, by decide +kernel, by decide +kernel⟩
set_option maxRecDepth 100000 in
theorem mi_X8_mustEnd : MKi mX8_mustEnd := ⟨gw_mem (List.mem_of_getElem? (i := 1017) rfl) rfl, gw_mem (List.mem_of_getElem? (i := 40) rfl) rfl⟩
set_option maxRecDepth 100000 in
theorem mk_X8_begins : MK mX8_begins 2 := ⟨gw_mem (List.mem_of_getElem? (i := 1002) rfl) rfl, gw_mem (List.mem_of_getElem? (i := 78) rfl) rfl, by decide +kernel, by decide +kernel, by decide +kernel⟩
set_option maxRecDepth 100000 in
theorem mi_X8_begins : MKi mX8_begins := ⟨gw_mem (List.mem_of_getElem? (i := 1001) rfl) rfl, gw_mem (List.mem_of_getElem? (i := 36) rfl) rfl⟩
set_option maxRecDepth 100000 in
theorem mk_X8_readRoom : MK mX8_readRoom 0 := ⟨gw_mem (List.mem_of_getElem? (i := 998) rfl) rfl, gw_mem (List.mem_of_getElem? (i := 78) rfl) rfl, by decide +kernel, by decide +kernel, by decide +kernel⟩
set_option maxRecDepth 100000 in
theorem mi_X8_readRoom : MKi mX8_readRoom := ⟨gw_mem (List.mem_of_getElem? (i := 997) rfl) rfl, gw_mem (List.mem_of_getElem? (i := 35) rfl) rfl⟩
set_option maxRecDepth 100000 in
theorem mk_X8_readDoor : MK mX8_readDoor 0 := ⟨gw_mem (List.mem_of_getElem? (i := 1023) rfl) rfl, gw_mem (List.mem_of_getElem? (i := 78) rfl) rfl, by decide +kernel, by decide +kernel, by decide +kernel⟩
set_option maxRecDepth 100000 in
theorem mi_X8_readDoor : MKi mX8_readDoor := ⟨gw_mem (List.mem_of_getElem? (i := 1022) rfl) rfl, gw_mem (List.mem_of_getElem? (i := 41) rfl) rfl⟩
set_option maxRecDepth 100000 in
theorem mk_X8_readCrowd : MK mX8_readCrowd 0 := ⟨gw_mem (List.mem_of_getElem? (i := 1028) rfl) rfl, gw_mem (List.mem_of_getElem? (i := 78) rfl) rfl, by decide +kernel, by decide +kernel, by decide +kernel⟩
set_option maxRecDepth 100000 in
theorem mi_X8_readCrowd : MKi mX8_readCrowd := ⟨gw_mem (List.mem_of_getElem? (i := 1027) rfl) rfl, gw_mem (List.mem_of_getElem? (i := 42) rfl) rfl⟩
set_option maxRecDepth 100000 in
theorem mk_X8_house : MK mX8_house 0 := ⟨gw_mem (List.mem_of_getElem? (i := 966) rfl) rfl, gw_mem (List.mem_of_getElem? (i := 78) rfl) rfl, by decide +kernel, by decide +kernel, by decide +kernel⟩
set_option maxRecDepth 100000 in
theorem mi_X8_house : MKi mX8_house := ⟨gw_mem (List.mem_of_getElem? (i := 964) rfl) rfl, gw_mem (List.mem_of_getElem? (i := 965) rfl) rfl⟩
set_option maxRecDepth 100000 in
theorem mk_X8_fault : MK mX8_fault 0 := ⟨gw_mem (List.mem_of_getElem? (i := 1041) rfl) rfl, gw_mem (List.mem_of_getElem? (i := 78) rfl) rfl, by decide +kernel, by decide +kernel, by decide +kernel⟩
set_option maxRecDepth 100000 in
theorem mi_X8_fault : MKi mX8_fault := ⟨gw_mem (List.mem_of_getElem? (i := 1039) rfl) rfl, gw_mem (List.mem_of_getElem? (i := 1040) rfl) rfl⟩
set_option maxRecDepth 100000 in
theorem mk_X8_isThere : MK mX8_isThere 0 := ⟨gw_mem (List.mem_of_getElem? (i := 1049) rfl) rfl, gw_mem (List.mem_of_getElem? (i := 78) rfl) rfl, by decide +kernel, by decide +kernel, by decide +kernel⟩
set_option maxRecDepth 100000 in
theorem mi_X8_isThere : MKi mX8_isThere := ⟨gw_mem (List.mem_of_getElem? (i := 1048) rfl) rfl, gw_mem (List.mem_of_getElem? (i := 43) rfl) rfl⟩
set_option maxRecDepth 100000 in
theorem mk_X8_isRoom : MK mX8_isRoom 1 := ⟨gw_mem (List.mem_of_getElem? (i := 1103) rfl) rfl, gw_mem (List.mem_of_getElem? (i := 78) rfl) rfl, by decide +kernel, by decide +kernel, by decide +kernel⟩
set_option maxRecDepth 100000 in
theorem mi_X8_isRoom : MKi mX8_isRoom := ⟨gw_mem (List.mem_of_getElem? (i := 1102) rfl) rfl, gw_mem (List.mem_of_getElem? (i := 54) rfl) rfl⟩
set_option maxRecDepth 100000 in
theorem mk_X8_isCrowd : MK mX8_isCrowd 1 := ⟨gw_mem (List.mem_of_getElem? (i := 1111) rfl) rfl, gw_mem (List.mem_of_getElem? (i := 78) rfl) rfl, by decide +kernel, by decide +kernel, by decide +kernel⟩
set_option maxRecDepth 100000 in
theorem mi_X8_isCrowd : MKi mX8_isCrowd := ⟨gw_mem (List.mem_of_getElem? (i := 1110) rfl) rfl, gw_mem (List.mem_of_getElem? (i := 55) rfl) rfl⟩
set_option maxRecDepth 100000 in
theorem mk_X8_of : MK mX8_of 2 := ⟨gw_mem (List.mem_of_getElem? (i := 1066) rfl) rfl, gw_mem (List.mem_of_getElem? (i := 78) rfl) rfl, by decide +kernel, by decide +kernel, by decide +kernel⟩
set_option maxRecDepth 100000 in
theorem mi_X8_of : MKi mX8_of := ⟨gw_mem (List.mem_of_getElem? (i := 1065) rfl) rfl, gw_mem (List.mem_of_getElem? (i := 47) rfl) rfl⟩
set_option maxRecDepth 100000 in
theorem mk_X8_layNow : MK mX8_layNow 0 := ⟨gw_mem (List.mem_of_getElem? (i := 1062) rfl) rfl, gw_mem (List.mem_of_getElem? (i := 78) rfl) rfl, by decide +kernel, by decide +kernel, by decide +kernel⟩
set_option maxRecDepth 100000 in
theorem mi_X8_layNow : MKi mX8_layNow := ⟨gw_mem (List.mem_of_getElem? (i := 1061) rfl) rfl, gw_mem (List.mem_of_getElem? (i := 46) rfl) rfl⟩
set_option maxRecDepth 100000 in
theorem mk_X8_layCounts : MK mX8_layCounts 0 := ⟨gw_mem (List.mem_of_getElem? (i := 1074) rfl) rfl, gw_mem (List.mem_of_getElem? (i := 78) rfl) rfl, by decide +kernel, by decide +kernel, by decide +kernel⟩
set_option maxRecDepth 100000 in
theorem mi_X8_layCounts : MKi mX8_layCounts := ⟨gw_mem (List.mem_of_getElem? (i := 1073) rfl) rfl, gw_mem (List.mem_of_getElem? (i := 49) rfl) rfl⟩
set_option maxRecDepth 100000 in
theorem mk_X8_draws : MK mX8_draws 2 := ⟨gw_mem (List.mem_of_getElem? (i := 1082) rfl) rfl, gw_mem (List.mem_of_getElem? (i := 78) rfl) rfl, by decide +kernel, by decide +kernel, by decide +kernel⟩
set_option maxRecDepth 100000 in
theorem mi_X8_draws : MKi mX8_draws := ⟨gw_mem (List.mem_of_getElem? (i := 1081) rfl) rfl, gw_mem (List.mem_of_getElem? (i := 51) rfl) rfl⟩
set_option maxRecDepth 100000 in
theorem mk_X8_goesTo : MK mX8_goesTo 1 := ⟨gw_mem (List.mem_of_getElem? (i := 1078) rfl) rfl, gw_mem (List.mem_of_getElem? (i := 78) rfl) rfl, by decide +kernel, by decide +kernel, by decide +kernel⟩
set_option maxRecDepth 100000 in
theorem mi_X8_goesTo : MKi mX8_goesTo := ⟨gw_mem (List.mem_of_getElem? (i := 1077) rfl) rfl, gw_mem (List.mem_of_getElem? (i := 50) rfl) rfl⟩
set_option maxRecDepth 100000 in
theorem mk_X8_goBell : MK mX8_goBell 0 := ⟨gw_mem (List.mem_of_getElem? (i := 1070) rfl) rfl, gw_mem (List.mem_of_getElem? (i := 78) rfl) rfl, by decide +kernel, by decide +kernel, by decide +kernel⟩
set_option maxRecDepth 100000 in
theorem mi_X8_goBell : MKi mX8_goBell := ⟨gw_mem (List.mem_of_getElem? (i := 1069) rfl) rfl, gw_mem (List.mem_of_getElem? (i := 48) rfl) rfl⟩
set_option maxRecDepth 100000 in
theorem mk_X8_goBells : MK mX8_goBells 1 := ⟨gw_mem (List.mem_of_getElem? (i := 1133) rfl) rfl, gw_mem (List.mem_of_getElem? (i := 78) rfl) rfl, by decide +kernel, by decide +kernel, by decide +kernel⟩
set_option maxRecDepth 100000 in
theorem mi_X8_goBells : MKi mX8_goBells := ⟨gw_mem (List.mem_of_getElem? (i := 1132) rfl) rfl, gw_mem (List.mem_of_getElem? (i := 56) rfl) rfl⟩
set_option maxRecDepth 100000 in
theorem mk_X8_keep : MK mX8_keep 0 := ⟨gw_mem (List.mem_of_getElem? (i := 1058) rfl) rfl, gw_mem (List.mem_of_getElem? (i := 78) rfl) rfl, by decide +kernel, by decide +kernel, by decide +kernel⟩
set_option maxRecDepth 100000 in
theorem mi_X8_keep : MKi mX8_keep := ⟨gw_mem (List.mem_of_getElem? (i := 1057) rfl) rfl, gw_mem (List.mem_of_getElem? (i := 45) rfl) rfl⟩
set_option maxRecDepth 100000 in
theorem mk_X8_ring : MK mX8_ring 0 := ⟨gw_mem (List.mem_of_getElem? (i := 1054) rfl) rfl, gw_mem (List.mem_of_getElem? (i := 78) rfl) rfl, by decide +kernel, by decide +kernel, by decide +kernel⟩
set_option maxRecDepth 100000 in
theorem mi_X8_ring : MKi mX8_ring := ⟨gw_mem (List.mem_of_getElem? (i := 1053) rfl) rfl, gw_mem (List.mem_of_getElem? (i := 44) rfl) rfl⟩
set_option maxRecDepth 100000 in
theorem mk_X8_bell : MK mX8_bell 0 := ⟨gw_mem (List.mem_of_getElem? (i := 1045) rfl) rfl, gw_mem (List.mem_of_getElem? (i := 78) rfl) rfl, by decide +kernel, by decide +kernel, by decide +kernel⟩
set_option maxRecDepth 100000 in
theorem mi_X8_bell : MKi mX8_bell := ⟨gw_mem (List.mem_of_getElem? (i := 1043) rfl) rfl, gw_mem (List.mem_of_getElem? (i := 1044) rfl) rfl⟩
set_option maxRecDepth 100000 in
theorem mk_X8_headsOfAll : MK mX8_headsOfAll 0 := ⟨gw_mem (List.mem_of_getElem? (i := 1095) rfl) rfl, gw_mem (List.mem_of_getElem? (i := 78) rfl) rfl, by decide +kernel, by decide +kernel, by decide +kernel⟩
set_option maxRecDepth 100000 in
theorem mi_X8_headsOfAll : MKi mX8_headsOfAll := ⟨gw_mem (List.mem_of_getElem? (i := 1094) rfl) rfl, gw_mem (List.mem_of_getElem? (i := 53) rfl) rfl⟩
set_option maxRecDepth 100000 in
theorem mk_X8_haveRoom : MK mX8_haveRoom 2 := ⟨gw_mem (List.mem_of_getElem? (i := 1091) rfl) rfl, gw_mem (List.mem_of_getElem? (i := 78) rfl) rfl, by decide +kernel, by decide +kernel, by decide +kernel⟩
set_option maxRecDepth 100000 in
theorem mi_X8_haveRoom : MKi mX8_haveRoom := ⟨gw_mem (List.mem_of_getElem? (i := 1090) rfl) rfl, gw_mem (List.mem_of_getElem? (i := 52) rfl) rfl⟩
set_option maxRecDepth 100000 in
theorem mk_X8_bells : MK mX8_bells 3 := ⟨gw_mem (List.mem_of_getElem? (i := 1086) rfl) rfl, gw_mem (List.mem_of_getElem? (i := 78) rfl) rfl, by decide +kernel, by decide +kernel, by decide +kernel⟩
set_option maxRecDepth 100000 in
theorem mi_X8_bells : MKi mX8_bells := ⟨gw_mem (List.mem_of_getElem? (i := 1084) rfl) rfl, gw_mem (List.mem_of_getElem? (i := 1085) rfl) rfl⟩
set_option maxRecDepth 100000 in
theorem mk_X8_door : MK mX8_door 3 := ⟨gw_mem (List.mem_of_getElem? (i := 1099) rfl) rfl, gw_mem (List.mem_of_getElem? (i := 78) rfl) rfl, by decide +kernel, by decide +kernel, by decide +kernel⟩
set_option maxRecDepth 100000 in
theorem mi_X8_door : MKi mX8_door := ⟨gw_mem (List.mem_of_getElem? (i := 1097) rfl) rfl, gw_mem (List.mem_of_getElem? (i := 1098) rfl) rfl⟩
set_option maxRecDepth 100000 in
theorem mk_X8_heads : MK mX8_heads 2 := ⟨gw_mem (List.mem_of_getElem? (i := 1107) rfl) rfl, gw_mem (List.mem_of_getElem? (i := 78) rfl) rfl, by decide +kernel, by decide +kernel, by decide +kernel⟩
set_option maxRecDepth 100000 in
theorem mi_X8_heads : MKi mX8_heads := ⟨gw_mem (List.mem_of_getElem? (i := 1105) rfl) rfl, gw_mem (List.mem_of_getElem? (i := 1106) rfl) rfl⟩
set_option maxRecDepth 100000 in
theorem mk_X8_undo : MK mX8_undo 0 := ⟨gw_mem (List.mem_of_getElem? (i := 1116) rfl) rfl, gw_mem (List.mem_of_getElem? (i := 78) rfl) rfl, by decide +kernel, by decide +kernel, by decide +kernel⟩
set_option maxRecDepth 100000 in
theorem mi_X8_undo : MKi mX8_undo := ⟨gw_mem (List.mem_of_getElem? (i := 1114) rfl) rfl, gw_mem (List.mem_of_getElem? (i := 1115) rfl) rfl⟩
set_option maxRecDepth 100000 in
theorem mk_X8_crowd : MK mX8_crowd 2 := ⟨gw_mem (List.mem_of_getElem? (i := 1120) rfl) rfl, gw_mem (List.mem_of_getElem? (i := 78) rfl) rfl, by decide +kernel, by decide +kernel, by decide +kernel⟩
set_option maxRecDepth 100000 in
theorem mi_X8_crowd : MKi mX8_crowd := ⟨gw_mem (List.mem_of_getElem? (i := 1118) rfl) rfl, gw_mem (List.mem_of_getElem? (i := 1119) rfl) rfl⟩
set_option maxRecDepth 100000 in
theorem mk_X8_room : MK mX8_room 2 := ⟨gw_mem (List.mem_of_getElem? (i := 1124) rfl) rfl, gw_mem (List.mem_of_getElem? (i := 78) rfl) rfl, by decide +kernel, by decide +kernel, by decide +kernel⟩
set_option maxRecDepth 100000 in
theorem mi_X8_room : MKi mX8_room := ⟨gw_mem (List.mem_of_getElem? (i := 1122) rfl) rfl, gw_mem (List.mem_of_getElem? (i := 1123) rfl) rfl⟩
set_option maxRecDepth 100000 in
theorem mk_X8_ahead : MK mX8_ahead 2 := ⟨gw_mem (List.mem_of_getElem? (i := 1128) rfl) rfl, gw_mem (List.mem_of_getElem? (i := 78) rfl) rfl, by decide +kernel, by decide +kernel, by decide +kernel⟩
set_option maxRecDepth 100000 in
theorem mi_X8_ahead : MKi mX8_ahead := ⟨gw_mem (List.mem_of_getElem? (i := 1126) rfl) rfl, gw_mem (List.mem_of_getElem? (i := 1127) rfl) rfl⟩
set_option maxRecDepth 100000 in
theorem mk_X8_roomAhead : MK mX8_roomAhead 3 := ⟨gw_mem (List.mem_of_getElem? (i := 1137) rfl) rfl, gw_mem (List.mem_of_getElem? (i := 78) rfl) rfl, by decide +kernel, by decide +kernel, by decide +kernel⟩
set_option maxRecDepth 100000 in
theorem mi_X8_roomAhead : MKi mX8_roomAhead := ⟨gw_mem (List.mem_of_getElem? (i := 1135) rfl) rfl, gw_mem (List.mem_of_getElem? (i := 1136) rfl) rfl⟩
set_option maxRecDepth 100000 in
theorem mk_X8_restIn : MK mX8_restIn 0 := ⟨gw_mem (List.mem_of_getElem? (i := 1145) rfl) rfl, gw_mem (List.mem_of_getElem? (i := 78) rfl) rfl, by decide +kernel, by decide +kernel, by decide +kernel⟩
set_option maxRecDepth 100000 in
theorem mi_X8_restIn : MKi mX8_restIn := ⟨gw_mem (List.mem_of_getElem? (i := 1144) rfl) rfl, gw_mem (List.mem_of_getElem? (i := 57) rfl) rfl⟩
set_option maxRecDepth 100000 in
theorem mk_X8_ringIn : MK mX8_ringIn 0 := ⟨gw_mem (List.mem_of_getElem? (i := 1149) rfl) rfl, gw_mem (List.mem_of_getElem? (i := 78) rfl) rfl, by decide +kernel, by decide +kernel, by decide +kernel⟩
set_option maxRecDepth 100000 in
theorem mi_X8_ringIn : MKi mX8_ringIn := ⟨gw_mem (List.mem_of_getElem? (i := 1148) rfl) rfl, gw_mem (List.mem_of_getElem? (i := 58) rfl) rfl⟩
set_option maxRecDepth 100000 in
theorem mk_X8_rest : MK mX8_rest 1 := ⟨gw_mem (List.mem_of_getElem? (i := 1141) rfl) rfl, gw_mem (List.mem_of_getElem? (i := 78) rfl) rfl, by decide +kernel, by decide +kernel, by decide +kernel⟩
set_option maxRecDepth 100000 in
theorem mi_X8_rest : MKi mX8_rest := ⟨gw_mem (List.mem_of_getElem? (i := 1139) rfl) rfl, gw_mem (List.mem_of_getElem? (i := 1140) rfl) rfl⟩
set_option maxRecDepth 100000 in
theorem mk_X8_layHired : MK mX8_layHired 2 := ⟨gw_mem (List.mem_of_getElem? (i := 1162) rfl) rfl, gw_mem (List.mem_of_getElem? (i := 78) rfl) rfl, by decide +kernel, by decide +kernel, by decide +kernel⟩
set_option maxRecDepth 100000 in
theorem mi_X8_layHired : MKi mX8_layHired := ⟨gw_mem (List.mem_of_getElem? (i := 1161) rfl) rfl, gw_mem (List.mem_of_getElem? (i := 60) rfl) rfl⟩
set_option maxRecDepth 100000 in
theorem mk_X8_isSo : MK mX8_isSo 2 := ⟨gw_mem (List.mem_of_getElem? (i := 1166) rfl) rfl, gw_mem (List.mem_of_getElem? (i := 78) rfl) rfl, by decide +kernel, by decide +kernel, by decide +kernel⟩
set_option maxRecDepth 100000 in
theorem mi_X8_isSo : MKi mX8_isSo := ⟨gw_mem (List.mem_of_getElem? (i := 1165) rfl) rfl, gw_mem (List.mem_of_getElem? (i := 61) rfl) rfl⟩
set_option maxRecDepth 100000 in
theorem mk_X8_hire : MK mX8_hire 4 := ⟨gw_mem (List.mem_of_getElem? (i := 1158) rfl) rfl, gw_mem (List.mem_of_getElem? (i := 78) rfl) rfl, by decide +kernel, by decide +kernel, by decide +kernel⟩
set_option maxRecDepth 100000 in
theorem mi_X8_hire : MKi mX8_hire := ⟨gw_mem (List.mem_of_getElem? (i := 1157) rfl) rfl, gw_mem (List.mem_of_getElem? (i := 59) rfl) rfl⟩
set_option maxRecDepth 100000 in
theorem mk_X8_hired : MK mX8_hired 3 := ⟨gw_mem (List.mem_of_getElem? (i := 1153) rfl) rfl, gw_mem (List.mem_of_getElem? (i := 78) rfl) rfl, by decide +kernel, by decide +kernel, by decide +kernel⟩
set_option maxRecDepth 100000 in
theorem mi_X8_hired : MKi mX8_hired := ⟨gw_mem (List.mem_of_getElem? (i := 1151) rfl) rfl, gw_mem (List.mem_of_getElem? (i := 1152) rfl) rfl⟩
set_option maxRecDepth 100000 in
theorem mk_X8_empty : MK mX8_empty 3 := ⟨gw_mem (List.mem_of_getElem? (i := 1170) rfl) rfl, gw_mem (List.mem_of_getElem? (i := 78) rfl) rfl, by decide +kernel, by decide +kernel, by decide +kernel⟩
set_option maxRecDepth 100000 in
theorem mi_X8_empty : MKi mX8_empty := ⟨gw_mem (List.mem_of_getElem? (i := 1168) rfl) rfl, gw_mem (List.mem_of_getElem? (i := 1169) rfl) rfl⟩
set_option maxRecDepth 100000 in
theorem mk_X8_areApart : MK mX8_areApart 4 := ⟨gw_mem (List.mem_of_getElem? (i := 1178) rfl) rfl, gw_mem (List.mem_of_getElem? (i := 78) rfl) rfl, by decide +kernel, by decide +kernel, by decide +kernel⟩
set_option maxRecDepth 100000 in
theorem mi_X8_areApart : MKi mX8_areApart := ⟨gw_mem (List.mem_of_getElem? (i := 1177) rfl) rfl, gw_mem (List.mem_of_getElem? (i := 62) rfl) rfl⟩
set_option maxRecDepth 100000 in
theorem mk_X8_apart : MK mX8_apart 3 := ⟨gw_mem (List.mem_of_getElem? (i := 1174) rfl) rfl, gw_mem (List.mem_of_getElem? (i := 78) rfl) rfl, by decide +kernel, by decide +kernel, by decide +kernel⟩
set_option maxRecDepth 100000 in
theorem mi_X8_apart : MKi mX8_apart := ⟨gw_mem (List.mem_of_getElem? (i := 1172) rfl) rfl, gw_mem (List.mem_of_getElem? (i := 1173) rfl) rfl⟩
set_option maxRecDepth 100000 in
theorem mk_X8_layBegan : MK mX8_layBegan 1 := ⟨gw_mem (List.mem_of_getElem? (i := 1188) rfl) rfl, gw_mem (List.mem_of_getElem? (i := 78) rfl) rfl, by decide +kernel, by decide +kernel, by decide +kernel⟩
set_option maxRecDepth 100000 in
theorem mi_X8_layBegan : MKi mX8_layBegan := ⟨gw_mem (List.mem_of_getElem? (i := 1187) rfl) rfl, gw_mem (List.mem_of_getElem? (i := 63) rfl) rfl⟩
set_option maxRecDepth 100000 in
theorem mk_X8_began : MK mX8_began 2 := ⟨gw_mem (List.mem_of_getElem? (i := 1182) rfl) rfl, gw_mem (List.mem_of_getElem? (i := 78) rfl) rfl, by decide +kernel, by decide +kernel, by decide +kernel⟩
set_option maxRecDepth 100000 in
theorem mi_X8_began : MKi mX8_began := ⟨gw_mem (List.mem_of_getElem? (i := 1180) rfl) rfl, gw_mem (List.mem_of_getElem? (i := 1181) rfl) rfl⟩
set_option maxRecDepth 100000 in
theorem mk_X8_image : MK mX8_image 1 := ⟨gw_mem (List.mem_of_getElem? (i := 1192) rfl) rfl, gw_mem (List.mem_of_getElem? (i := 78) rfl) rfl, by decide +kernel, by decide +kernel, by decide +kernel⟩
set_option maxRecDepth 100000 in
theorem mi_X8_image : MKi mX8_image := ⟨gw_mem (List.mem_of_getElem? (i := 1190) rfl) rfl, gw_mem (List.mem_of_getElem? (i := 1191) rfl) rfl⟩
set_option maxRecDepth 100000 in
theorem mk_X8_restore : MK mX8_restore 1 := ⟨gw_mem (List.mem_of_getElem? (i := 1196) rfl) rfl, gw_mem (List.mem_of_getElem? (i := 78) rfl) rfl, by decide +kernel, by decide +kernel, by decide +kernel⟩
set_option maxRecDepth 100000 in
theorem mi_X8_restore : MKi mX8_restore := ⟨gw_mem (List.mem_of_getElem? (i := 1194) rfl) rfl, gw_mem (List.mem_of_getElem? (i := 1195) rfl) rfl⟩
set_option maxRecDepth 100000 in
theorem mk_X8_isOf : MK mX8_isOf 2 := ⟨gw_mem (List.mem_of_getElem? (i := 1208) rfl) rfl, gw_mem (List.mem_of_getElem? (i := 78) rfl) rfl, by decide +kernel, by decide +kernel, by decide +kernel⟩
set_option maxRecDepth 100000 in
theorem ms_X8_isOf : Cond.static yX8_isOf ∈ gw := gw_mem (List.mem_of_getElem? (i := 1207) rfl) rfl
set_option maxRecDepth 100000 in
theorem mk_X8_kind : MK mX8_kind 1 := ⟨gw_mem (List.mem_of_getElem? (i := 1200) rfl) rfl, gw_mem (List.mem_of_getElem? (i := 78) rfl) rfl, by decide +kernel, by decide +kernel, by decide +kernel⟩
set_option maxRecDepth 100000 in
theorem mi_X8_kind : MKi mX8_kind := ⟨gw_mem (List.mem_of_getElem? (i := 1198) rfl) rfl, gw_mem (List.mem_of_getElem? (i := 1199) rfl) rfl⟩
set_option maxRecDepth 100000 in
theorem mk_X8_as : MK mX8_as 2 := ⟨gw_mem (List.mem_of_getElem? (i := 1204) rfl) rfl, gw_mem (List.mem_of_getElem? (i := 78) rfl) rfl, by decide +kernel, by decide +kernel, by decide +kernel⟩
set_option maxRecDepth 100000 in
theorem mi_X8_as : MKi mX8_as := ⟨gw_mem (List.mem_of_getElem? (i := 1202) rfl) rfl, gw_mem (List.mem_of_getElem? (i := 1203) rfl) rfl⟩
set_option maxRecDepth 100000 in
theorem mk_X8_stepped : MK mX8_stepped 1 := ⟨gw_mem (List.mem_of_getElem? (i := 1224) rfl) rfl, gw_mem (List.mem_of_getElem? (i := 78) rfl) rfl, by decide +kernel, by decide +kernel, by decide +kernel⟩
set_option maxRecDepth 100000 in
theorem mi_X8_stepped : MKi mX8_stepped := ⟨gw_mem (List.mem_of_getElem? (i := 1223) rfl) rfl, gw_mem (List.mem_of_getElem? (i := 66) rfl) rfl⟩
set_option maxRecDepth 100000 in
theorem mk_X8_plainSize : MK mX8_plainSize 1 := ⟨gw_mem (List.mem_of_getElem? (i := 1228) rfl) rfl, gw_mem (List.mem_of_getElem? (i := 78) rfl) rfl, by decide +kernel, by decide +kernel, by decide +kernel⟩
set_option maxRecDepth 100000 in
theorem mi_X8_plainSize : MKi mX8_plainSize := ⟨gw_mem (List.mem_of_getElem? (i := 1227) rfl) rfl, gw_mem (List.mem_of_getElem? (i := 67) rfl) rfl⟩
set_option maxRecDepth 100000 in
theorem mk_X8_staySize : MK mX8_staySize 1 := ⟨gw_mem (List.mem_of_getElem? (i := 1220) rfl) rfl, gw_mem (List.mem_of_getElem? (i := 78) rfl) rfl, by decide +kernel, by decide +kernel, by decide +kernel⟩
set_option maxRecDepth 100000 in
theorem mi_X8_staySize : MKi mX8_staySize := ⟨gw_mem (List.mem_of_getElem? (i := 1219) rfl) rfl, gw_mem (List.mem_of_getElem? (i := 65) rfl) rfl⟩
set_option maxRecDepth 100000 in
theorem mk_X8_markOf : MK mX8_markOf 1 := ⟨gw_mem (List.mem_of_getElem? (i := 1232) rfl) rfl, gw_mem (List.mem_of_getElem? (i := 78) rfl) rfl, by decide +kernel, by decide +kernel, by decide +kernel⟩
set_option maxRecDepth 100000 in
theorem mi_X8_markOf : MKi mX8_markOf := ⟨gw_mem (List.mem_of_getElem? (i := 1231) rfl) rfl, gw_mem (List.mem_of_getElem? (i := 68) rfl) rfl⟩
set_option maxRecDepth 100000 in
theorem mk_X8_sizeOf : MK mX8_sizeOf 1 := ⟨gw_mem (List.mem_of_getElem? (i := 1216) rfl) rfl, gw_mem (List.mem_of_getElem? (i := 78) rfl) rfl, by decide +kernel, by decide +kernel, by decide +kernel⟩
set_option maxRecDepth 100000 in
theorem mi_X8_sizeOf : MKi mX8_sizeOf := ⟨gw_mem (List.mem_of_getElem? (i := 1215) rfl) rfl, gw_mem (List.mem_of_getElem? (i := 64) rfl) rfl⟩
set_option maxRecDepth 100000 in
theorem mk_X8_ask : MK mX8_ask 2 := ⟨gw_mem (List.mem_of_getElem? (i := 1212) rfl) rfl, gw_mem (List.mem_of_getElem? (i := 78) rfl) rfl, by decide +kernel, by decide +kernel, by decide +kernel⟩
set_option maxRecDepth 100000 in
theorem mi_X8_ask : MKi mX8_ask := ⟨gw_mem (List.mem_of_getElem? (i := 1210) rfl) rfl, gw_mem (List.mem_of_getElem? (i := 1211) rfl) rfl⟩
set_option maxRecDepth 100000 in
theorem mk_X8_trace : MK mX8_trace 1 := ⟨gw_mem (List.mem_of_getElem? (i := 1236) rfl) rfl, gw_mem (List.mem_of_getElem? (i := 78) rfl) rfl, by decide +kernel, by decide +kernel, by decide +kernel⟩
set_option maxRecDepth 100000 in
theorem mi_X8_trace : MKi mX8_trace := ⟨gw_mem (List.mem_of_getElem? (i := 1234) rfl) rfl, gw_mem (List.mem_of_getElem? (i := 1235) rfl) rfl⟩
set_option maxRecDepth 100000 in
theorem mk_X8_count : MK mX8_count 1 := ⟨gw_mem (List.mem_of_getElem? (i := 1240) rfl) rfl, gw_mem (List.mem_of_getElem? (i := 78) rfl) rfl, by decide +kernel, by decide +kernel, by decide +kernel⟩
set_option maxRecDepth 100000 in
theorem mi_X8_count : MKi mX8_count := ⟨gw_mem (List.mem_of_getElem? (i := 1238) rfl) rfl, gw_mem (List.mem_of_getElem? (i := 1239) rfl) rfl⟩
set_option maxRecDepth 100000 in
theorem mk_X8_status : MK mX8_status 0 := ⟨gw_mem (List.mem_of_getElem? (i := 1244) rfl) rfl, gw_mem (List.mem_of_getElem? (i := 78) rfl) rfl, by decide +kernel, by decide +kernel, by decide +kernel⟩
set_option maxRecDepth 100000 in
theorem mi_X8_status : MKi mX8_status := ⟨gw_mem (List.mem_of_getElem? (i := 1242) rfl) rfl, gw_mem (List.mem_of_getElem? (i := 1243) rfl) rfl⟩
