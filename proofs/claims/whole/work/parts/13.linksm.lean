/-! the methods in the tables -/
theorem mk_X0_init : MK mX0_init 0 := ⟨gw_mem (List.mem_of_getElem? (i := 234) (by decide +kernel)) rfl, gw_mem (List.mem_of_getElem? (i := 74) (by decide +kernel)) rfl, by decide +kernel, by decide +kernel, by decide +kernel⟩
theorem mi_X0_init : Cond.instanceMethod yX0_init ∈ gw := gw_mem (List.mem_of_getElem? (i := 233) (by decide +kernel)) rfl
theorem mk_X0_keep : MK mX0_keep 1 := ⟨gw_mem (List.mem_of_getElem? (i := 562) (by decide +kernel)) rfl, gw_mem (List.mem_of_getElem? (i := 74) (by decide +kernel)) rfl, by decide +kernel, by decide +kernel, by decide +kernel⟩
theorem mi_X0_keep : MKi mX0_keep := ⟨gw_mem (List.mem_of_getElem? (i := 560) (by decide +kernel)) rfl, gw_mem (List.mem_of_getElem? (i := 561) (by decide +kernel)) rfl⟩
theorem mk_X0_takeBack : MK mX0_takeBack 1 := ⟨gw_mem (List.mem_of_getElem? (i := 631) (by decide +kernel)) rfl, gw_mem (List.mem_of_getElem? (i := 74) (by decide +kernel)) rfl, by decide +kernel, by decide +kernel, by decide +kernel⟩
theorem mi_X0_takeBack : MKi mX0_takeBack := ⟨gw_mem (List.mem_of_getElem? (i := 629) (by decide +kernel)) rfl, gw_mem (List.mem_of_getElem? (i := 630) (by decide +kernel)) rfl⟩
theorem mk_X0_forgetAll : MK mX0_forgetAll 0 := ⟨gw_mem (List.mem_of_getElem? (i := 548) (by decide +kernel)) rfl, gw_mem (List.mem_of_getElem? (i := 74) (by decide +kernel)) rfl, by decide +kernel, by decide +kernel, by decide +kernel⟩
theorem mi_X0_forgetAll : MKi mX0_forgetAll := ⟨gw_mem (List.mem_of_getElem? (i := 546) (by decide +kernel)) rfl, gw_mem (List.mem_of_getElem? (i := 547) (by decide +kernel)) rfl⟩
theorem mk_X1_init : MK mX1_init 1 := ⟨gw_mem (List.mem_of_getElem? (i := 285) (by decide +kernel)) rfl, gw_mem (List.mem_of_getElem? (i := 76) (by decide +kernel)) rfl, by decide +kernel, by decide +kernel, by decide +kernel⟩
theorem mi_X1_init : Cond.instanceMethod yX1_init ∈ gw := gw_mem (List.mem_of_getElem? (i := 284) (by decide +kernel)) rfl
theorem mk_X1_nearestBody : MK mX1_nearestBody 2 := ⟨gw_mem (List.mem_of_getElem? (i := 796) (by decide +kernel)) rfl, gw_mem (List.mem_of_getElem? (i := 76) (by decide +kernel)) rfl, by decide +kernel, by decide +kernel, by decide +kernel⟩
theorem ms_X1_nearestBody : Cond.static yX1_nearestBody ∈ gw := gw_mem (List.mem_of_getElem? (i := 795) (by decide +kernel)) rfl
theorem mk_X1_leave : MK mX1_leave 1 := ⟨gw_mem (List.mem_of_getElem? (i := 805) (by decide +kernel)) rfl, gw_mem (List.mem_of_getElem? (i := 76) (by decide +kernel)) rfl, by decide +kernel, by decide +kernel, by decide +kernel⟩
theorem mi_X1_leave : MKi mX1_leave := ⟨gw_mem (List.mem_of_getElem? (i := 804) (by decide +kernel)) rfl, gw_mem (List.mem_of_getElem? (i := 27) (by decide +kernel)) rfl⟩
theorem mk_X1_answer : MK mX1_answer 3 := ⟨gw_mem (List.mem_of_getElem? (i := 789) (by decide +kernel)) rfl, gw_mem (List.mem_of_getElem? (i := 76) (by decide +kernel)) rfl, by decide +kernel, by decide +kernel, by decide +kernel⟩
theorem mi_X1_answer : MKi mX1_answer := ⟨gw_mem (List.mem_of_getElem? (i := 788) (by decide +kernel)) rfl, gw_mem (List.mem_of_getElem? (i := 25) (by decide +kernel)) rfl⟩
theorem mk_X1_runBody : MK mX1_runBody 3 := ⟨gw_mem (List.mem_of_getElem? (i := 801) (by decide +kernel)) rfl, gw_mem (List.mem_of_getElem? (i := 76) (by decide +kernel)) rfl, by decide +kernel, by decide +kernel, by decide +kernel⟩
theorem mi_X1_runBody : MKi mX1_runBody := ⟨gw_mem (List.mem_of_getElem? (i := 800) (by decide +kernel)) rfl, gw_mem (List.mem_of_getElem? (i := 26) (by decide +kernel)) rfl⟩
theorem mk_X1_askAnew : MK mX1_askAnew 2 := ⟨gw_mem (List.mem_of_getElem? (i := 785) (by decide +kernel)) rfl, gw_mem (List.mem_of_getElem? (i := 76) (by decide +kernel)) rfl, by decide +kernel, by decide +kernel, by decide +kernel⟩
theorem mi_X1_askAnew : MKi mX1_askAnew := ⟨gw_mem (List.mem_of_getElem? (i := 783) (by decide +kernel)) rfl, gw_mem (List.mem_of_getElem? (i := 784) (by decide +kernel)) rfl⟩
theorem mk_X3_init : MK mX3_init 0 := ⟨gw_mem (List.mem_of_getElem? (i := 135) (by decide +kernel)) rfl, gw_mem (List.mem_of_getElem? (i := 73) (by decide +kernel)) rfl, by decide +kernel, by decide +kernel, by decide +kernel⟩
theorem mi_X3_init : Cond.instanceMethod yX3_init ∈ gw := gw_mem (List.mem_of_getElem? (i := 134) (by decide +kernel)) rfl
theorem mk_X2_init : MK mX2_init 1 := ⟨gw_mem (List.mem_of_getElem? (i := 251) (by decide +kernel)) rfl, gw_mem (List.mem_of_getElem? (i := 75) (by decide +kernel)) rfl, by decide +kernel, by decide +kernel, by decide +kernel⟩
theorem mi_X2_init : Cond.instanceMethod yX2_init ∈ gw := gw_mem (List.mem_of_getElem? (i := 250) (by decide +kernel)) rfl
theorem mk_X3_take : MK mX3_take 1 := ⟨gw_mem (List.mem_of_getElem? (i := 543) (by decide +kernel)) rfl, gw_mem (List.mem_of_getElem? (i := 73) (by decide +kernel)) rfl, by decide +kernel, by decide +kernel, by decide +kernel⟩
theorem mi_X3_take : MKi mX3_take := ⟨gw_mem (List.mem_of_getElem? (i := 541) (by decide +kernel)) rfl, gw_mem (List.mem_of_getElem? (i := 542) (by decide +kernel)) rfl⟩
theorem mk_X3_countHeads : MK mX3_countHeads 0 := ⟨gw_mem (List.mem_of_getElem? (i := 574) (by decide +kernel)) rfl, gw_mem (List.mem_of_getElem? (i := 73) (by decide +kernel)) rfl, by decide +kernel, by decide +kernel, by decide +kernel⟩
theorem mi_X3_countHeads : MKi mX3_countHeads := ⟨gw_mem (List.mem_of_getElem? (i := 573) (by decide +kernel)) rfl, gw_mem (List.mem_of_getElem? (i := 12) (by decide +kernel)) rfl⟩
theorem mk_X3_goalOf : MK mX3_goalOf 1 := ⟨gw_mem (List.mem_of_getElem? (i := 578) (by decide +kernel)) rfl, gw_mem (List.mem_of_getElem? (i := 73) (by decide +kernel)) rfl, by decide +kernel, by decide +kernel, by decide +kernel⟩
theorem mi_X3_goalOf : MKi mX3_goalOf := ⟨gw_mem (List.mem_of_getElem? (i := 577) (by decide +kernel)) rfl, gw_mem (List.mem_of_getElem? (i := 13) (by decide +kernel)) rfl⟩
theorem mk_X3_ring : MK mX3_ring 0 := ⟨gw_mem (List.mem_of_getElem? (i := 570) (by decide +kernel)) rfl, gw_mem (List.mem_of_getElem? (i := 73) (by decide +kernel)) rfl, by decide +kernel, by decide +kernel, by decide +kernel⟩
theorem mi_X3_ring : MKi mX3_ring := ⟨gw_mem (List.mem_of_getElem? (i := 568) (by decide +kernel)) rfl, gw_mem (List.mem_of_getElem? (i := 569) (by decide +kernel)) rfl⟩
theorem mk_X2_ringTimes : MK mX2_ringTimes 1 := ⟨gw_mem (List.mem_of_getElem? (i := 656) (by decide +kernel)) rfl, gw_mem (List.mem_of_getElem? (i := 75) (by decide +kernel)) rfl, by decide +kernel, by decide +kernel, by decide +kernel⟩
theorem mi_X2_ringTimes : MKi mX2_ringTimes := ⟨gw_mem (List.mem_of_getElem? (i := 655) (by decide +kernel)) rfl, gw_mem (List.mem_of_getElem? (i := 15) (by decide +kernel)) rfl⟩
theorem mk_X2_whereBehind : MK mX2_whereBehind 2 := ⟨gw_mem (List.mem_of_getElem? (i := 651) (by decide +kernel)) rfl, gw_mem (List.mem_of_getElem? (i := 75) (by decide +kernel)) rfl, by decide +kernel, by decide +kernel, by decide +kernel⟩
theorem mi_X2_whereBehind : MKi mX2_whereBehind := ⟨gw_mem (List.mem_of_getElem? (i := 649) (by decide +kernel)) rfl, gw_mem (List.mem_of_getElem? (i := 650) (by decide +kernel)) rfl⟩
theorem mk_X3_headsIn : MK mX3_headsIn 1 := ⟨gw_mem (List.mem_of_getElem? (i := 643) (by decide +kernel)) rfl, gw_mem (List.mem_of_getElem? (i := 73) (by decide +kernel)) rfl, by decide +kernel, by decide +kernel, by decide +kernel⟩
theorem mi_X3_headsIn : MKi mX3_headsIn := ⟨gw_mem (List.mem_of_getElem? (i := 641) (by decide +kernel)) rfl, gw_mem (List.mem_of_getElem? (i := 642) (by decide +kernel)) rfl⟩
theorem mk_X2_headsBehind : MK mX2_headsBehind 2 := ⟨gw_mem (List.mem_of_getElem? (i := 665) (by decide +kernel)) rfl, gw_mem (List.mem_of_getElem? (i := 75) (by decide +kernel)) rfl, by decide +kernel, by decide +kernel, by decide +kernel⟩
theorem mi_X2_headsBehind : MKi mX2_headsBehind := ⟨gw_mem (List.mem_of_getElem? (i := 663) (by decide +kernel)) rfl, gw_mem (List.mem_of_getElem? (i := 664) (by decide +kernel)) rfl⟩
theorem mk_X2_worth : MK mX2_worth 2 := ⟨gw_mem (List.mem_of_getElem? (i := 670) (by decide +kernel)) rfl, gw_mem (List.mem_of_getElem? (i := 75) (by decide +kernel)) rfl, by decide +kernel, by decide +kernel, by decide +kernel⟩
theorem mi_X2_worth : MKi mX2_worth := ⟨gw_mem (List.mem_of_getElem? (i := 668) (by decide +kernel)) rfl, gw_mem (List.mem_of_getElem? (i := 669) (by decide +kernel)) rfl⟩
theorem mk_X2_bellsToRest : MK mX2_bellsToRest 0 := ⟨gw_mem (List.mem_of_getElem? (i := 679) (by decide +kernel)) rfl, gw_mem (List.mem_of_getElem? (i := 75) (by decide +kernel)) rfl, by decide +kernel, by decide +kernel, by decide +kernel⟩
theorem mi_X2_bellsToRest : MKi mX2_bellsToRest := ⟨gw_mem (List.mem_of_getElem? (i := 677) (by decide +kernel)) rfl, gw_mem (List.mem_of_getElem? (i := 678) (by decide +kernel)) rfl⟩
theorem mk_X2_allAsNow : MK mX2_allAsNow 0 := ⟨gw_mem (List.mem_of_getElem? (i := 688) (by decide +kernel)) rfl, gw_mem (List.mem_of_getElem? (i := 75) (by decide +kernel)) rfl, by decide +kernel, by decide +kernel, by decide +kernel⟩
theorem mi_X2_allAsNow : MKi mX2_allAsNow := ⟨gw_mem (List.mem_of_getElem? (i := 687) (by decide +kernel)) rfl, gw_mem (List.mem_of_getElem? (i := 16) (by decide +kernel)) rfl⟩
theorem mk_X2_bellsToRing : MK mX2_bellsToRing 0 := ⟨gw_mem (List.mem_of_getElem? (i := 684) (by decide +kernel)) rfl, gw_mem (List.mem_of_getElem? (i := 75) (by decide +kernel)) rfl, by decide +kernel, by decide +kernel, by decide +kernel⟩
theorem mi_X2_bellsToRing : MKi mX2_bellsToRing := ⟨gw_mem (List.mem_of_getElem? (i := 682) (by decide +kernel)) rfl, gw_mem (List.mem_of_getElem? (i := 683) (by decide +kernel)) rfl⟩
theorem mk_X3_hire : MK mX3_hire 2 := ⟨gw_mem (List.mem_of_getElem? (i := 708) (by decide +kernel)) rfl, gw_mem (List.mem_of_getElem? (i := 73) (by decide +kernel)) rfl, by decide +kernel, by decide +kernel, by decide +kernel⟩
theorem mi_X3_hire : MKi mX3_hire := ⟨gw_mem (List.mem_of_getElem? (i := 706) (by decide +kernel)) rfl, gw_mem (List.mem_of_getElem? (i := 707) (by decide +kernel)) rfl⟩
theorem mk_X2_succeeds : MK mX2_succeeds 5 := ⟨gw_mem (List.mem_of_getElem? (i := 704) (by decide +kernel)) rfl, gw_mem (List.mem_of_getElem? (i := 75) (by decide +kernel)) rfl, by decide +kernel, by decide +kernel, by decide +kernel⟩
theorem mi_X2_succeeds : MKi mX2_succeeds := ⟨gw_mem (List.mem_of_getElem? (i := 703) (by decide +kernel)) rfl, gw_mem (List.mem_of_getElem? (i := 18) (by decide +kernel)) rfl⟩
theorem mk_X2_findHired : MK mX2_findHired 3 := ⟨gw_mem (List.mem_of_getElem? (i := 700) (by decide +kernel)) rfl, gw_mem (List.mem_of_getElem? (i := 75) (by decide +kernel)) rfl, by decide +kernel, by decide +kernel, by decide +kernel⟩
theorem mi_X2_findHired : MKi mX2_findHired := ⟨gw_mem (List.mem_of_getElem? (i := 698) (by decide +kernel)) rfl, gw_mem (List.mem_of_getElem? (i := 699) (by decide +kernel)) rfl⟩
theorem mk_X2_meet : MK mX2_meet 3 := ⟨gw_mem (List.mem_of_getElem? (i := 725) (by decide +kernel)) rfl, gw_mem (List.mem_of_getElem? (i := 75) (by decide +kernel)) rfl, by decide +kernel, by decide +kernel, by decide +kernel⟩
theorem mi_X2_meet : MKi mX2_meet := ⟨gw_mem (List.mem_of_getElem? (i := 724) (by decide +kernel)) rfl, gw_mem (List.mem_of_getElem? (i := 19) (by decide +kernel)) rfl⟩
theorem mk_X3_doorBetween : MK mX3_doorBetween 2 := ⟨gw_mem (List.mem_of_getElem? (i := 614) (by decide +kernel)) rfl, gw_mem (List.mem_of_getElem? (i := 73) (by decide +kernel)) rfl, by decide +kernel, by decide +kernel, by decide +kernel⟩
theorem mi_X3_doorBetween : MKi mX3_doorBetween := ⟨gw_mem (List.mem_of_getElem? (i := 612) (by decide +kernel)) rfl, gw_mem (List.mem_of_getElem? (i := 613) (by decide +kernel)) rfl⟩
theorem mk_X3_putDoor : MK mX3_putDoor 3 := ⟨gw_mem (List.mem_of_getElem? (i := 524) (by decide +kernel)) rfl, gw_mem (List.mem_of_getElem? (i := 73) (by decide +kernel)) rfl, by decide +kernel, by decide +kernel, by decide +kernel⟩
theorem mi_X3_putDoor : MKi mX3_putDoor := ⟨gw_mem (List.mem_of_getElem? (i := 522) (by decide +kernel)) rfl, gw_mem (List.mem_of_getElem? (i := 523) (by decide +kernel)) rfl⟩
theorem mk_X2_partedBy : MK mX2_partedBy 5 := ⟨gw_mem (List.mem_of_getElem? (i := 730) (by decide +kernel)) rfl, gw_mem (List.mem_of_getElem? (i := 75) (by decide +kernel)) rfl, by decide +kernel, by decide +kernel, by decide +kernel⟩
theorem mi_X2_partedBy : MKi mX2_partedBy := ⟨gw_mem (List.mem_of_getElem? (i := 729) (by decide +kernel)) rfl, gw_mem (List.mem_of_getElem? (i := 20) (by decide +kernel)) rfl⟩
theorem mk_X2_doorToShut : MK mX2_doorToShut 3 := ⟨gw_mem (List.mem_of_getElem? (i := 721) (by decide +kernel)) rfl, gw_mem (List.mem_of_getElem? (i := 75) (by decide +kernel)) rfl, by decide +kernel, by decide +kernel, by decide +kernel⟩
theorem mi_X2_doorToShut : MKi mX2_doorToShut := ⟨gw_mem (List.mem_of_getElem? (i := 719) (by decide +kernel)) rfl, gw_mem (List.mem_of_getElem? (i := 720) (by decide +kernel)) rfl⟩
theorem mk_X2_seenFrom : MK mX2_seenFrom 1 := ⟨gw_mem (List.mem_of_getElem? (i := 747) (by decide +kernel)) rfl, gw_mem (List.mem_of_getElem? (i := 75) (by decide +kernel)) rfl, by decide +kernel, by decide +kernel, by decide +kernel⟩
theorem mi_X2_seenFrom : MKi mX2_seenFrom := ⟨gw_mem (List.mem_of_getElem? (i := 746) (by decide +kernel)) rfl, gw_mem (List.mem_of_getElem? (i := 22) (by decide +kernel)) rfl⟩
theorem mk_X2_findSources : MK mX2_findSources 1 := ⟨gw_mem (List.mem_of_getElem? (i := 743) (by decide +kernel)) rfl, gw_mem (List.mem_of_getElem? (i := 75) (by decide +kernel)) rfl, by decide +kernel, by decide +kernel, by decide +kernel⟩
theorem mi_X2_findSources : MKi mX2_findSources := ⟨gw_mem (List.mem_of_getElem? (i := 742) (by decide +kernel)) rfl, gw_mem (List.mem_of_getElem? (i := 21) (by decide +kernel)) rfl⟩
theorem mk_X2_canBegin : MK mX2_canBegin 1 := ⟨gw_mem (List.mem_of_getElem? (i := 751) (by decide +kernel)) rfl, gw_mem (List.mem_of_getElem? (i := 75) (by decide +kernel)) rfl, by decide +kernel, by decide +kernel, by decide +kernel⟩
theorem mi_X2_canBegin : MKi mX2_canBegin := ⟨gw_mem (List.mem_of_getElem? (i := 750) (by decide +kernel)) rfl, gw_mem (List.mem_of_getElem? (i := 23) (by decide +kernel)) rfl⟩
theorem mk_X2_countWay : MK mX2_countWay 1 := ⟨gw_mem (List.mem_of_getElem? (i := 755) (by decide +kernel)) rfl, gw_mem (List.mem_of_getElem? (i := 75) (by decide +kernel)) rfl, by decide +kernel, by decide +kernel, by decide +kernel⟩
theorem mi_X2_countWay : MKi mX2_countWay := ⟨gw_mem (List.mem_of_getElem? (i := 754) (by decide +kernel)) rfl, gw_mem (List.mem_of_getElem? (i := 24) (by decide +kernel)) rfl⟩
theorem mk_X2_findBeginnings : MK mX2_findBeginnings 1 := ⟨gw_mem (List.mem_of_getElem? (i := 739) (by decide +kernel)) rfl, gw_mem (List.mem_of_getElem? (i := 75) (by decide +kernel)) rfl, by decide +kernel, by decide +kernel, by decide +kernel⟩
theorem mi_X2_findBeginnings : MKi mX2_findBeginnings := ⟨gw_mem (List.mem_of_getElem? (i := 737) (by decide +kernel)) rfl, gw_mem (List.mem_of_getElem? (i := 738) (by decide +kernel)) rfl⟩
theorem mk_X3_clear : MK mX3_clear 0 := ⟨gw_mem (List.mem_of_getElem? (i := 412) (by decide +kernel)) rfl, gw_mem (List.mem_of_getElem? (i := 73) (by decide +kernel)) rfl, by decide +kernel, by decide +kernel, by decide +kernel⟩
theorem mi_X3_clear : MKi mX3_clear := ⟨gw_mem (List.mem_of_getElem? (i := 410) (by decide +kernel)) rfl, gw_mem (List.mem_of_getElem? (i := 411) (by decide +kernel)) rfl⟩
theorem mk_X3_isRoom : MK mX3_isRoom 1 := ⟨gw_mem (List.mem_of_getElem? (i := 610) (by decide +kernel)) rfl, gw_mem (List.mem_of_getElem? (i := 73) (by decide +kernel)) rfl, by decide +kernel, by decide +kernel, by decide +kernel⟩
theorem mi_X3_isRoom : MKi mX3_isRoom := ⟨gw_mem (List.mem_of_getElem? (i := 608) (by decide +kernel)) rfl, gw_mem (List.mem_of_getElem? (i := 609) (by decide +kernel)) rfl⟩
theorem mk_X3_isCrowd : MK mX3_isCrowd 1 := ⟨gw_mem (List.mem_of_getElem? (i := 623) (by decide +kernel)) rfl, gw_mem (List.mem_of_getElem? (i := 73) (by decide +kernel)) rfl, by decide +kernel, by decide +kernel, by decide +kernel⟩
theorem mi_X3_isCrowd : MKi mX3_isCrowd := ⟨gw_mem (List.mem_of_getElem? (i := 621) (by decide +kernel)) rfl, gw_mem (List.mem_of_getElem? (i := 622) (by decide +kernel)) rfl⟩
theorem mk_X3_allHeads : MK mX3_allHeads 0 := ⟨gw_mem (List.mem_of_getElem? (i := 602) (by decide +kernel)) rfl, gw_mem (List.mem_of_getElem? (i := 73) (by decide +kernel)) rfl, by decide +kernel, by decide +kernel, by decide +kernel⟩
theorem mi_X3_allHeads : MKi mX3_allHeads := ⟨gw_mem (List.mem_of_getElem? (i := 600) (by decide +kernel)) rfl, gw_mem (List.mem_of_getElem? (i := 601) (by decide +kernel)) rfl⟩
theorem mk_X3_addHeads : MK mX3_addHeads 1 := ⟨gw_mem (List.mem_of_getElem? (i := 598) (by decide +kernel)) rfl, gw_mem (List.mem_of_getElem? (i := 73) (by decide +kernel)) rfl, by decide +kernel, by decide +kernel, by decide +kernel⟩
theorem mi_X3_addHeads : MKi mX3_addHeads := ⟨gw_mem (List.mem_of_getElem? (i := 596) (by decide +kernel)) rfl, gw_mem (List.mem_of_getElem? (i := 597) (by decide +kernel)) rfl⟩
theorem mk_X4_init : MK mX4_init 1 := ⟨gw_mem (List.mem_of_getElem? (i := 129) (by decide +kernel)) rfl, gw_mem (List.mem_of_getElem? (i := 72) (by decide +kernel)) rfl, by decide +kernel, by decide +kernel, by decide +kernel⟩
theorem mi_X4_init : Cond.instanceMethod yX4_init ∈ gw := gw_mem (List.mem_of_getElem? (i := 128) (by decide +kernel)) rfl
theorem mk_X6_isBlank : MK mX6_isBlank 1 := ⟨gw_mem (List.mem_of_getElem? (i := 423) (by decide +kernel)) rfl, gw_mem (List.mem_of_getElem? (i := 71) (by decide +kernel)) rfl, by decide +kernel, by decide +kernel, by decide +kernel⟩
theorem ms_X6_isBlank : Cond.static yX6_isBlank ∈ gw := gw_mem (List.mem_of_getElem? (i := 422) (by decide +kernel)) rfl
theorem mk_X6_isLetter : MK mX6_isLetter 1 := ⟨gw_mem (List.mem_of_getElem? (i := 426) (by decide +kernel)) rfl, gw_mem (List.mem_of_getElem? (i := 71) (by decide +kernel)) rfl, by decide +kernel, by decide +kernel, by decide +kernel⟩
theorem ms_X6_isLetter : Cond.static yX6_isLetter ∈ gw := gw_mem (List.mem_of_getElem? (i := 425) (by decide +kernel)) rfl
theorem mk_X6_passLetters : MK mX6_passLetters 0 := ⟨gw_mem (List.mem_of_getElem? (i := 430) (by decide +kernel)) rfl, gw_mem (List.mem_of_getElem? (i := 71) (by decide +kernel)) rfl, by decide +kernel, by decide +kernel, by decide +kernel⟩
theorem mi_X6_passLetters : MKi mX6_passLetters := ⟨gw_mem (List.mem_of_getElem? (i := 429) (by decide +kernel)) rfl, gw_mem (List.mem_of_getElem? (i := 1) (by decide +kernel)) rfl⟩
theorem mk_X6_isFigure : MK mX6_isFigure 1 := ⟨gw_mem (List.mem_of_getElem? (i := 433) (by decide +kernel)) rfl, gw_mem (List.mem_of_getElem? (i := 71) (by decide +kernel)) rfl, by decide +kernel, by decide +kernel, by decide +kernel⟩
theorem ms_X6_isFigure : Cond.static yX6_isFigure ∈ gw := gw_mem (List.mem_of_getElem? (i := 432) (by decide +kernel)) rfl
theorem mk_X6_passFigures : MK mX6_passFigures 0 := ⟨gw_mem (List.mem_of_getElem? (i := 437) (by decide +kernel)) rfl, gw_mem (List.mem_of_getElem? (i := 71) (by decide +kernel)) rfl, by decide +kernel, by decide +kernel, by decide +kernel⟩
theorem mi_X6_passFigures : MKi mX6_passFigures := ⟨gw_mem (List.mem_of_getElem? (i := 436) (by decide +kernel)) rfl, gw_mem (List.mem_of_getElem? (i := 2) (by decide +kernel)) rfl⟩
theorem mk_X6_step : MK mX6_step 0 := ⟨gw_mem (List.mem_of_getElem? (i := 420) (by decide +kernel)) rfl, gw_mem (List.mem_of_getElem? (i := 71) (by decide +kernel)) rfl, by decide +kernel, by decide +kernel, by decide +kernel⟩
theorem mi_X6_step : MKi mX6_step := ⟨gw_mem (List.mem_of_getElem? (i := 418) (by decide +kernel)) rfl, gw_mem (List.mem_of_getElem? (i := 419) (by decide +kernel)) rfl⟩
theorem mk_X6_rewind : MK mX6_rewind 0 := ⟨gw_mem (List.mem_of_getElem? (i := 416) (by decide +kernel)) rfl, gw_mem (List.mem_of_getElem? (i := 71) (by decide +kernel)) rfl, by decide +kernel, by decide +kernel, by decide +kernel⟩
theorem mi_X6_rewind : MKi mX6_rewind := ⟨gw_mem (List.mem_of_getElem? (i := 414) (by decide +kernel)) rfl, gw_mem (List.mem_of_getElem? (i := 415) (by decide +kernel)) rfl⟩
theorem mk_X6_isWord : MK mX6_isWord 1 := ⟨gw_mem (List.mem_of_getElem? (i := 450) (by decide +kernel)) rfl, gw_mem (List.mem_of_getElem? (i := 71) (by decide +kernel)) rfl, by decide +kernel, by decide +kernel, by decide +kernel⟩
theorem mi_X6_isWord : MKi mX6_isWord := ⟨gw_mem (List.mem_of_getElem? (i := 448) (by decide +kernel)) rfl, gw_mem (List.mem_of_getElem? (i := 449) (by decide +kernel)) rfl⟩
theorem mk_X4_failed : MK mX4_failed 1 := ⟨gw_mem (List.mem_of_getElem? (i := 502) (by decide +kernel)) rfl, gw_mem (List.mem_of_getElem? (i := 72) (by decide +kernel)) rfl, by decide +kernel, by decide +kernel, by decide +kernel⟩
theorem mi_X4_failed : MKi mX4_failed := ⟨gw_mem (List.mem_of_getElem? (i := 501) (by decide +kernel)) rfl, gw_mem (List.mem_of_getElem? (i := 5) (by decide +kernel)) rfl⟩
theorem mk_X4_readWord : MK mX4_readWord 2 := ⟨gw_mem (List.mem_of_getElem? (i := 446) (by decide +kernel)) rfl, gw_mem (List.mem_of_getElem? (i := 72) (by decide +kernel)) rfl, by decide +kernel, by decide +kernel, by decide +kernel⟩
theorem mi_X4_readWord : MKi mX4_readWord := ⟨gw_mem (List.mem_of_getElem? (i := 445) (by decide +kernel)) rfl, gw_mem (List.mem_of_getElem? (i := 4) (by decide +kernel)) rfl⟩
theorem mk_X4_readNumber : MK mX4_readNumber 3 := ⟨gw_mem (List.mem_of_getElem? (i := 507) (by decide +kernel)) rfl, gw_mem (List.mem_of_getElem? (i := 72) (by decide +kernel)) rfl, by decide +kernel, by decide +kernel, by decide +kernel⟩
theorem mi_X4_readNumber : MKi mX4_readNumber := ⟨gw_mem (List.mem_of_getElem? (i := 506) (by decide +kernel)) rfl, gw_mem (List.mem_of_getElem? (i := 6) (by decide +kernel)) rfl⟩
theorem mk_X4_readEnd : MK mX4_readEnd 0 := ⟨gw_mem (List.mem_of_getElem? (i := 511) (by decide +kernel)) rfl, gw_mem (List.mem_of_getElem? (i := 72) (by decide +kernel)) rfl, by decide +kernel, by decide +kernel, by decide +kernel⟩
theorem mi_X4_readEnd : MKi mX4_readEnd := ⟨gw_mem (List.mem_of_getElem? (i := 510) (by decide +kernel)) rfl, gw_mem (List.mem_of_getElem? (i := 7) (by decide +kernel)) rfl⟩
theorem mk_X4_readRoom : MK mX4_readRoom 0 := ⟨gw_mem (List.mem_of_getElem? (i := 441) (by decide +kernel)) rfl, gw_mem (List.mem_of_getElem? (i := 72) (by decide +kernel)) rfl, by decide +kernel, by decide +kernel, by decide +kernel⟩
theorem mi_X4_readRoom : MKi mX4_readRoom := ⟨gw_mem (List.mem_of_getElem? (i := 440) (by decide +kernel)) rfl, gw_mem (List.mem_of_getElem? (i := 3) (by decide +kernel)) rfl⟩
theorem mk_X4_readDoor : MK mX4_readDoor 0 := ⟨gw_mem (List.mem_of_getElem? (i := 520) (by decide +kernel)) rfl, gw_mem (List.mem_of_getElem? (i := 72) (by decide +kernel)) rfl, by decide +kernel, by decide +kernel, by decide +kernel⟩
theorem mi_X4_readDoor : MKi mX4_readDoor := ⟨gw_mem (List.mem_of_getElem? (i := 519) (by decide +kernel)) rfl, gw_mem (List.mem_of_getElem? (i := 9) (by decide +kernel)) rfl⟩
theorem mk_X4_sortNamed : MK mX4_sortNamed 0 := ⟨gw_mem (List.mem_of_getElem? (i := 533) (by decide +kernel)) rfl, gw_mem (List.mem_of_getElem? (i := 72) (by decide +kernel)) rfl, by decide +kernel, by decide +kernel, by decide +kernel⟩
theorem mi_X4_sortNamed : MKi mX4_sortNamed := ⟨gw_mem (List.mem_of_getElem? (i := 532) (by decide +kernel)) rfl, gw_mem (List.mem_of_getElem? (i := 11) (by decide +kernel)) rfl⟩
theorem mk_X4_readCrowd : MK mX4_readCrowd 0 := ⟨gw_mem (List.mem_of_getElem? (i := 528) (by decide +kernel)) rfl, gw_mem (List.mem_of_getElem? (i := 72) (by decide +kernel)) rfl, by decide +kernel, by decide +kernel, by decide +kernel⟩
theorem mi_X4_readCrowd : MKi mX4_readCrowd := ⟨gw_mem (List.mem_of_getElem? (i := 527) (by decide +kernel)) rfl, gw_mem (List.mem_of_getElem? (i := 10) (by decide +kernel)) rfl⟩
theorem mk_X4_readPart : MK mX4_readPart 0 := ⟨gw_mem (List.mem_of_getElem? (i := 515) (by decide +kernel)) rfl, gw_mem (List.mem_of_getElem? (i := 72) (by decide +kernel)) rfl, by decide +kernel, by decide +kernel, by decide +kernel⟩
theorem mi_X4_readPart : MKi mX4_readPart := ⟨gw_mem (List.mem_of_getElem? (i := 514) (by decide +kernel)) rfl, gw_mem (List.mem_of_getElem? (i := 8) (by decide +kernel)) rfl⟩
theorem mk_X4_readTape : MK mX4_readTape 0 := ⟨gw_mem (List.mem_of_getElem? (i := 408) (by decide +kernel)) rfl, gw_mem (List.mem_of_getElem? (i := 72) (by decide +kernel)) rfl, by decide +kernel, by decide +kernel, by decide +kernel⟩
theorem mi_X4_readTape : MKi mX4_readTape := ⟨gw_mem (List.mem_of_getElem? (i := 406) (by decide +kernel)) rfl, gw_mem (List.mem_of_getElem? (i := 407) (by decide +kernel)) rfl⟩
theorem mk_X5_init : MK mX5_init 0 := ⟨gw_mem (List.mem_of_getElem? (i := 302) (by decide +kernel)) rfl, gw_mem (List.mem_of_getElem? (i := 77) (by decide +kernel)) rfl, by decide +kernel, by decide +kernel, by decide +kernel⟩
theorem mi_X5_init : Cond.instanceMethod yX5_init ∈ gw := gw_mem (List.mem_of_getElem? (i := 301) (by decide +kernel)) rfl
theorem mk_X5_make : MK mX5_make 2 := ⟨gw_mem (List.mem_of_getElem? (i := 368) (by decide +kernel)) rfl, gw_mem (List.mem_of_getElem? (i := 77) (by decide +kernel)) rfl, by decide +kernel, by decide +kernel, by decide +kernel⟩
theorem mi_X5_make : MKi mX5_make := ⟨gw_mem (List.mem_of_getElem? (i := 366) (by decide +kernel)) rfl, gw_mem (List.mem_of_getElem? (i := 367) (by decide +kernel)) rfl⟩
theorem mk_X5_holds : MK mX5_holds 2 := ⟨gw_mem (List.mem_of_getElem? (i := 376) (by decide +kernel)) rfl, gw_mem (List.mem_of_getElem? (i := 77) (by decide +kernel)) rfl, by decide +kernel, by decide +kernel, by decide +kernel⟩
theorem mi_X5_holds : MKi mX5_holds := ⟨gw_mem (List.mem_of_getElem? (i := 374) (by decide +kernel)) rfl, gw_mem (List.mem_of_getElem? (i := 375) (by decide +kernel)) rfl⟩
theorem mk_X5_put : MK mX5_put 2 := ⟨gw_mem (List.mem_of_getElem? (i := 380) (by decide +kernel)) rfl, gw_mem (List.mem_of_getElem? (i := 77) (by decide +kernel)) rfl, by decide +kernel, by decide +kernel, by decide +kernel⟩
theorem mi_X5_put : MKi mX5_put := ⟨gw_mem (List.mem_of_getElem? (i := 378) (by decide +kernel)) rfl, gw_mem (List.mem_of_getElem? (i := 379) (by decide +kernel)) rfl⟩
theorem mk_X5_holdsSets : MK mX5_holdsSets 3 := ⟨gw_mem (List.mem_of_getElem? (i := 586) (by decide +kernel)) rfl, gw_mem (List.mem_of_getElem? (i := 77) (by decide +kernel)) rfl, by decide +kernel, by decide +kernel, by decide +kernel⟩
theorem mi_X5_holdsSets : MKi mX5_holdsSets := ⟨gw_mem (List.mem_of_getElem? (i := 584) (by decide +kernel)) rfl, gw_mem (List.mem_of_getElem? (i := 585) (by decide +kernel)) rfl⟩
theorem mk_X5_countBit : MK mX5_countBit 3 := ⟨gw_mem (List.mem_of_getElem? (i := 594) (by decide +kernel)) rfl, gw_mem (List.mem_of_getElem? (i := 77) (by decide +kernel)) rfl, by decide +kernel, by decide +kernel, by decide +kernel⟩
theorem mi_X5_countBit : MKi mX5_countBit := ⟨gw_mem (List.mem_of_getElem? (i := 592) (by decide +kernel)) rfl, gw_mem (List.mem_of_getElem? (i := 593) (by decide +kernel)) rfl⟩
theorem mk_X6_init : MK mX6_init 0 := ⟨gw_mem (List.mem_of_getElem? (i := 99) (by decide +kernel)) rfl, gw_mem (List.mem_of_getElem? (i := 71) (by decide +kernel)) rfl, by decide +kernel, by decide +kernel, by decide +kernel⟩
theorem mi_X6_init : Cond.instanceMethod yX6_init ∈ gw := gw_mem (List.mem_of_getElem? (i := 98) (by decide +kernel)) rfl
theorem mk_X6_append : MK mX6_append 2 := ⟨gw_mem (List.mem_of_getElem? (i := 400) (by decide +kernel)) rfl, gw_mem (List.mem_of_getElem? (i := 71) (by decide +kernel)) rfl, by decide +kernel, by decide +kernel, by decide +kernel⟩
theorem mi_X6_append : MKi mX6_append := ⟨gw_mem (List.mem_of_getElem? (i := 398) (by decide +kernel)) rfl, gw_mem (List.mem_of_getElem? (i := 399) (by decide +kernel)) rfl⟩
theorem mk_X7_init : MK mX7_init 0 := ⟨gw_mem (List.mem_of_getElem? (i := 89) (by decide +kernel)) rfl, gw_mem (List.mem_of_getElem? (i := 70) (by decide +kernel)) rfl, by decide +kernel, by decide +kernel, by decide +kernel⟩
theorem mi_X7_init : Cond.instanceMethod yX7_init ∈ gw := gw_mem (List.mem_of_getElem? (i := 88) (by decide +kernel)) rfl
theorem mk_X7_isRow : MK mX7_isRow 1 := ⟨gw_mem (List.mem_of_getElem? (i := 358) (by decide +kernel)) rfl, gw_mem (List.mem_of_getElem? (i := 70) (by decide +kernel)) rfl, by decide +kernel, by decide +kernel, by decide +kernel⟩
theorem ms_X7_isRow : Cond.static yX7_isRow ∈ gw := gw_mem (List.mem_of_getElem? (i := 357) (by decide +kernel)) rfl
theorem mk_X7_found : MK mX7_found 1 := ⟨gw_mem (List.mem_of_getElem? (i := 363) (by decide +kernel)) rfl, gw_mem (List.mem_of_getElem? (i := 70) (by decide +kernel)) rfl, by decide +kernel, by decide +kernel, by decide +kernel⟩
theorem mi_X7_found : MKi mX7_found := ⟨gw_mem (List.mem_of_getElem? (i := 362) (by decide +kernel)) rfl, gw_mem (List.mem_of_getElem? (i := 0) (by decide +kernel)) rfl⟩
theorem mk_X7_row : MK mX7_row 3 := ⟨gw_mem (List.mem_of_getElem? (i := 355) (by decide +kernel)) rfl, gw_mem (List.mem_of_getElem? (i := 70) (by decide +kernel)) rfl, by decide +kernel, by decide +kernel, by decide +kernel⟩
theorem mi_X7_row : MKi mX7_row := ⟨gw_mem (List.mem_of_getElem? (i := 353) (by decide +kernel)) rfl, gw_mem (List.mem_of_getElem? (i := 354) (by decide +kernel)) rfl⟩
theorem mk_X7_set : MK mX7_set 3 := ⟨gw_mem (List.mem_of_getElem? (i := 372) (by decide +kernel)) rfl, gw_mem (List.mem_of_getElem? (i := 70) (by decide +kernel)) rfl, by decide +kernel, by decide +kernel, by decide +kernel⟩
theorem mi_X7_set : MKi mX7_set := ⟨gw_mem (List.mem_of_getElem? (i := 370) (by decide +kernel)) rfl, gw_mem (List.mem_of_getElem? (i := 371) (by decide +kernel)) rfl⟩
theorem mk_X7_copy : MK mX7_copy 5 := ⟨gw_mem (List.mem_of_getElem? (i := 384) (by decide +kernel)) rfl, gw_mem (List.mem_of_getElem? (i := 70) (by decide +kernel)) rfl, by decide +kernel, by decide +kernel, by decide +kernel⟩
theorem mi_X7_copy : MKi mX7_copy := ⟨gw_mem (List.mem_of_getElem? (i := 382) (by decide +kernel)) rfl, gw_mem (List.mem_of_getElem? (i := 383) (by decide +kernel)) rfl⟩
theorem mk_X7_drop : MK mX7_drop 1 := ⟨gw_mem (List.mem_of_getElem? (i := 391) (by decide +kernel)) rfl, gw_mem (List.mem_of_getElem? (i := 70) (by decide +kernel)) rfl, by decide +kernel, by decide +kernel, by decide +kernel⟩
theorem mi_X7_drop : MKi mX7_drop := ⟨gw_mem (List.mem_of_getElem? (i := 389) (by decide +kernel)) rfl, gw_mem (List.mem_of_getElem? (i := 390) (by decide +kernel)) rfl⟩
theorem mk_X7_feed : MK mX7_feed 2 := ⟨gw_mem (List.mem_of_getElem? (i := 395) (by decide +kernel)) rfl, gw_mem (List.mem_of_getElem? (i := 70) (by decide +kernel)) rfl, by decide +kernel, by decide +kernel, by decide +kernel⟩
theorem mi_X7_feed : MKi mX7_feed := ⟨gw_mem (List.mem_of_getElem? (i := 393) (by decide +kernel)) rfl, gw_mem (List.mem_of_getElem? (i := 394) (by decide +kernel)) rfl⟩
theorem mk_X7_house : MK mX7_house 0 := ⟨gw_mem (List.mem_of_getElem? (i := 404) (by decide +kernel)) rfl, gw_mem (List.mem_of_getElem? (i := 70) (by decide +kernel)) rfl, by decide +kernel, by decide +kernel, by decide +kernel⟩
theorem mi_X7_house : MKi mX7_house := ⟨gw_mem (List.mem_of_getElem? (i := 402) (by decide +kernel)) rfl, gw_mem (List.mem_of_getElem? (i := 403) (by decide +kernel)) rfl⟩
theorem mk_X7_fault : MK mX7_fault 0 := ⟨gw_mem (List.mem_of_getElem? (i := 553) (by decide +kernel)) rfl, gw_mem (List.mem_of_getElem? (i := 70) (by decide +kernel)) rfl, by decide +kernel, by decide +kernel, by decide +kernel⟩
theorem mi_X7_fault : MKi mX7_fault := ⟨gw_mem (List.mem_of_getElem? (i := 551) (by decide +kernel)) rfl, gw_mem (List.mem_of_getElem? (i := 552) (by decide +kernel)) rfl⟩
theorem mk_X7_bell : MK mX7_bell 0 := ⟨gw_mem (List.mem_of_getElem? (i := 557) (by decide +kernel)) rfl, gw_mem (List.mem_of_getElem? (i := 70) (by decide +kernel)) rfl, by decide +kernel, by decide +kernel, by decide +kernel⟩
theorem mi_X7_bell : MKi mX7_bell := ⟨gw_mem (List.mem_of_getElem? (i := 555) (by decide +kernel)) rfl, gw_mem (List.mem_of_getElem? (i := 556) (by decide +kernel)) rfl⟩
theorem mk_X7_tooManyHeads : MK mX7_tooManyHeads 3 := ⟨gw_mem (List.mem_of_getElem? (i := 590) (by decide +kernel)) rfl, gw_mem (List.mem_of_getElem? (i := 70) (by decide +kernel)) rfl, by decide +kernel, by decide +kernel, by decide +kernel⟩
theorem mi_X7_tooManyHeads : MKi mX7_tooManyHeads := ⟨gw_mem (List.mem_of_getElem? (i := 589) (by decide +kernel)) rfl, gw_mem (List.mem_of_getElem? (i := 14) (by decide +kernel)) rfl⟩
theorem mk_X7_bells : MK mX7_bells 3 := ⟨gw_mem (List.mem_of_getElem? (i := 582) (by decide +kernel)) rfl, gw_mem (List.mem_of_getElem? (i := 70) (by decide +kernel)) rfl, by decide +kernel, by decide +kernel, by decide +kernel⟩
theorem mi_X7_bells : MKi mX7_bells := ⟨gw_mem (List.mem_of_getElem? (i := 580) (by decide +kernel)) rfl, gw_mem (List.mem_of_getElem? (i := 581) (by decide +kernel)) rfl⟩
theorem mk_X7_door : MK mX7_door 3 := ⟨gw_mem (List.mem_of_getElem? (i := 606) (by decide +kernel)) rfl, gw_mem (List.mem_of_getElem? (i := 70) (by decide +kernel)) rfl, by decide +kernel, by decide +kernel, by decide +kernel⟩
theorem mi_X7_door : MKi mX7_door := ⟨gw_mem (List.mem_of_getElem? (i := 604) (by decide +kernel)) rfl, gw_mem (List.mem_of_getElem? (i := 605) (by decide +kernel)) rfl⟩
theorem mk_X7_heads : MK mX7_heads 2 := ⟨gw_mem (List.mem_of_getElem? (i := 619) (by decide +kernel)) rfl, gw_mem (List.mem_of_getElem? (i := 70) (by decide +kernel)) rfl, by decide +kernel, by decide +kernel, by decide +kernel⟩
theorem mi_X7_heads : MKi mX7_heads := ⟨gw_mem (List.mem_of_getElem? (i := 617) (by decide +kernel)) rfl, gw_mem (List.mem_of_getElem? (i := 618) (by decide +kernel)) rfl⟩
theorem mk_X7_undo : MK mX7_undo 0 := ⟨gw_mem (List.mem_of_getElem? (i := 627) (by decide +kernel)) rfl, gw_mem (List.mem_of_getElem? (i := 70) (by decide +kernel)) rfl, by decide +kernel, by decide +kernel, by decide +kernel⟩
theorem mi_X7_undo : MKi mX7_undo := ⟨gw_mem (List.mem_of_getElem? (i := 625) (by decide +kernel)) rfl, gw_mem (List.mem_of_getElem? (i := 626) (by decide +kernel)) rfl⟩
theorem mk_X7_crowd : MK mX7_crowd 2 := ⟨gw_mem (List.mem_of_getElem? (i := 635) (by decide +kernel)) rfl, gw_mem (List.mem_of_getElem? (i := 70) (by decide +kernel)) rfl, by decide +kernel, by decide +kernel, by decide +kernel⟩
theorem mi_X7_crowd : MKi mX7_crowd := ⟨gw_mem (List.mem_of_getElem? (i := 633) (by decide +kernel)) rfl, gw_mem (List.mem_of_getElem? (i := 634) (by decide +kernel)) rfl⟩
theorem mk_X7_room : MK mX7_room 2 := ⟨gw_mem (List.mem_of_getElem? (i := 639) (by decide +kernel)) rfl, gw_mem (List.mem_of_getElem? (i := 70) (by decide +kernel)) rfl, by decide +kernel, by decide +kernel, by decide +kernel⟩
theorem mi_X7_room : MKi mX7_room := ⟨gw_mem (List.mem_of_getElem? (i := 637) (by decide +kernel)) rfl, gw_mem (List.mem_of_getElem? (i := 638) (by decide +kernel)) rfl⟩
theorem mk_X7_ahead : MK mX7_ahead 2 := ⟨gw_mem (List.mem_of_getElem? (i := 647) (by decide +kernel)) rfl, gw_mem (List.mem_of_getElem? (i := 70) (by decide +kernel)) rfl, by decide +kernel, by decide +kernel, by decide +kernel⟩
theorem mi_X7_ahead : MKi mX7_ahead := ⟨gw_mem (List.mem_of_getElem? (i := 645) (by decide +kernel)) rfl, gw_mem (List.mem_of_getElem? (i := 646) (by decide +kernel)) rfl⟩
theorem mk_X7_roomAhead : MK mX7_roomAhead 3 := ⟨gw_mem (List.mem_of_getElem? (i := 661) (by decide +kernel)) rfl, gw_mem (List.mem_of_getElem? (i := 70) (by decide +kernel)) rfl, by decide +kernel, by decide +kernel, by decide +kernel⟩
theorem mi_X7_roomAhead : MKi mX7_roomAhead := ⟨gw_mem (List.mem_of_getElem? (i := 659) (by decide +kernel)) rfl, gw_mem (List.mem_of_getElem? (i := 660) (by decide +kernel)) rfl⟩
theorem mk_X7_rest : MK mX7_rest 1 := ⟨gw_mem (List.mem_of_getElem? (i := 675) (by decide +kernel)) rfl, gw_mem (List.mem_of_getElem? (i := 70) (by decide +kernel)) rfl, by decide +kernel, by decide +kernel, by decide +kernel⟩
theorem mi_X7_rest : MKi mX7_rest := ⟨gw_mem (List.mem_of_getElem? (i := 673) (by decide +kernel)) rfl, gw_mem (List.mem_of_getElem? (i := 674) (by decide +kernel)) rfl⟩
theorem mk_X7_fewest : MK mX7_fewest 4 := ⟨gw_mem (List.mem_of_getElem? (i := 696) (by decide +kernel)) rfl, gw_mem (List.mem_of_getElem? (i := 70) (by decide +kernel)) rfl, by decide +kernel, by decide +kernel, by decide +kernel⟩
theorem mi_X7_fewest : MKi mX7_fewest := ⟨gw_mem (List.mem_of_getElem? (i := 695) (by decide +kernel)) rfl, gw_mem (List.mem_of_getElem? (i := 17) (by decide +kernel)) rfl⟩
theorem mk_X7_hired : MK mX7_hired 3 := ⟨gw_mem (List.mem_of_getElem? (i := 692) (by decide +kernel)) rfl, gw_mem (List.mem_of_getElem? (i := 70) (by decide +kernel)) rfl, by decide +kernel, by decide +kernel, by decide +kernel⟩
theorem mi_X7_hired : MKi mX7_hired := ⟨gw_mem (List.mem_of_getElem? (i := 690) (by decide +kernel)) rfl, gw_mem (List.mem_of_getElem? (i := 691) (by decide +kernel)) rfl⟩
theorem mk_X7_empty : MK mX7_empty 3 := ⟨gw_mem (List.mem_of_getElem? (i := 713) (by decide +kernel)) rfl, gw_mem (List.mem_of_getElem? (i := 70) (by decide +kernel)) rfl, by decide +kernel, by decide +kernel, by decide +kernel⟩
theorem mi_X7_empty : MKi mX7_empty := ⟨gw_mem (List.mem_of_getElem? (i := 711) (by decide +kernel)) rfl, gw_mem (List.mem_of_getElem? (i := 712) (by decide +kernel)) rfl⟩
theorem mk_X7_apart : MK mX7_apart 3 := ⟨gw_mem (List.mem_of_getElem? (i := 717) (by decide +kernel)) rfl, gw_mem (List.mem_of_getElem? (i := 70) (by decide +kernel)) rfl, by decide +kernel, by decide +kernel, by decide +kernel⟩
theorem mi_X7_apart : MKi mX7_apart := ⟨gw_mem (List.mem_of_getElem? (i := 715) (by decide +kernel)) rfl, gw_mem (List.mem_of_getElem? (i := 716) (by decide +kernel)) rfl⟩
theorem mk_X7_began : MK mX7_began 2 := ⟨gw_mem (List.mem_of_getElem? (i := 735) (by decide +kernel)) rfl, gw_mem (List.mem_of_getElem? (i := 70) (by decide +kernel)) rfl, by decide +kernel, by decide +kernel, by decide +kernel⟩
theorem mi_X7_began : MKi mX7_began := ⟨gw_mem (List.mem_of_getElem? (i := 733) (by decide +kernel)) rfl, gw_mem (List.mem_of_getElem? (i := 734) (by decide +kernel)) rfl⟩
theorem mk_X7_image : MK mX7_image 1 := ⟨gw_mem (List.mem_of_getElem? (i := 760) (by decide +kernel)) rfl, gw_mem (List.mem_of_getElem? (i := 70) (by decide +kernel)) rfl, by decide +kernel, by decide +kernel, by decide +kernel⟩
theorem mi_X7_image : MKi mX7_image := ⟨gw_mem (List.mem_of_getElem? (i := 758) (by decide +kernel)) rfl, gw_mem (List.mem_of_getElem? (i := 759) (by decide +kernel)) rfl⟩
theorem mk_X7_restore : MK mX7_restore 1 := ⟨gw_mem (List.mem_of_getElem? (i := 764) (by decide +kernel)) rfl, gw_mem (List.mem_of_getElem? (i := 70) (by decide +kernel)) rfl, by decide +kernel, by decide +kernel, by decide +kernel⟩
theorem mi_X7_restore : MKi mX7_restore := ⟨gw_mem (List.mem_of_getElem? (i := 762) (by decide +kernel)) rfl, gw_mem (List.mem_of_getElem? (i := 763) (by decide +kernel)) rfl⟩
theorem mk_X7_kind : MK mX7_kind 1 := ⟨gw_mem (List.mem_of_getElem? (i := 768) (by decide +kernel)) rfl, gw_mem (List.mem_of_getElem? (i := 70) (by decide +kernel)) rfl, by decide +kernel, by decide +kernel, by decide +kernel⟩
theorem mi_X7_kind : MKi mX7_kind := ⟨gw_mem (List.mem_of_getElem? (i := 766) (by decide +kernel)) rfl, gw_mem (List.mem_of_getElem? (i := 767) (by decide +kernel)) rfl⟩
theorem mk_X7_isA : MK mX7_isA 2 := ⟨gw_mem (List.mem_of_getElem? (i := 775) (by decide +kernel)) rfl, gw_mem (List.mem_of_getElem? (i := 70) (by decide +kernel)) rfl, by decide +kernel, by decide +kernel, by decide +kernel⟩
theorem ms_X7_isA : Cond.static yX7_isA ∈ gw := gw_mem (List.mem_of_getElem? (i := 774) (by decide +kernel)) rfl
theorem mk_X7_as : MK mX7_as 2 := ⟨gw_mem (List.mem_of_getElem? (i := 772) (by decide +kernel)) rfl, gw_mem (List.mem_of_getElem? (i := 70) (by decide +kernel)) rfl, by decide +kernel, by decide +kernel, by decide +kernel⟩
theorem mi_X7_as : MKi mX7_as := ⟨gw_mem (List.mem_of_getElem? (i := 770) (by decide +kernel)) rfl, gw_mem (List.mem_of_getElem? (i := 771) (by decide +kernel)) rfl⟩
theorem mk_X7_ask : MK mX7_ask 2 := ⟨gw_mem (List.mem_of_getElem? (i := 781) (by decide +kernel)) rfl, gw_mem (List.mem_of_getElem? (i := 70) (by decide +kernel)) rfl, by decide +kernel, by decide +kernel, by decide +kernel⟩
theorem mi_X7_ask : MKi mX7_ask := ⟨gw_mem (List.mem_of_getElem? (i := 779) (by decide +kernel)) rfl, gw_mem (List.mem_of_getElem? (i := 780) (by decide +kernel)) rfl⟩
theorem mk_X7_trace : MK mX7_trace 1 := ⟨gw_mem (List.mem_of_getElem? (i := 809) (by decide +kernel)) rfl, gw_mem (List.mem_of_getElem? (i := 70) (by decide +kernel)) rfl, by decide +kernel, by decide +kernel, by decide +kernel⟩
theorem mi_X7_trace : MKi mX7_trace := ⟨gw_mem (List.mem_of_getElem? (i := 807) (by decide +kernel)) rfl, gw_mem (List.mem_of_getElem? (i := 808) (by decide +kernel)) rfl⟩
theorem mk_X7_countRows : MK mX7_countRows 0 := ⟨gw_mem (List.mem_of_getElem? (i := 817) (by decide +kernel)) rfl, gw_mem (List.mem_of_getElem? (i := 70) (by decide +kernel)) rfl, by decide +kernel, by decide +kernel, by decide +kernel⟩
theorem mi_X7_countRows : MKi mX7_countRows := ⟨gw_mem (List.mem_of_getElem? (i := 816) (by decide +kernel)) rfl, gw_mem (List.mem_of_getElem? (i := 28) (by decide +kernel)) rfl⟩
theorem mk_X7_count : MK mX7_count 1 := ⟨gw_mem (List.mem_of_getElem? (i := 813) (by decide +kernel)) rfl, gw_mem (List.mem_of_getElem? (i := 70) (by decide +kernel)) rfl, by decide +kernel, by decide +kernel, by decide +kernel⟩
theorem mi_X7_count : MKi mX7_count := ⟨gw_mem (List.mem_of_getElem? (i := 811) (by decide +kernel)) rfl, gw_mem (List.mem_of_getElem? (i := 812) (by decide +kernel)) rfl⟩
theorem mk_X7_status : MK mX7_status 0 := ⟨gw_mem (List.mem_of_getElem? (i := 821) (by decide +kernel)) rfl, gw_mem (List.mem_of_getElem? (i := 70) (by decide +kernel)) rfl, by decide +kernel, by decide +kernel, by decide +kernel⟩
theorem mi_X7_status : MKi mX7_status := ⟨gw_mem (List.mem_of_getElem? (i := 819) (by decide +kernel)) rfl, gw_mem (List.mem_of_getElem? (i := 820) (by decide +kernel)) rfl⟩
theorem mk_X8_init : MK mX8_init 0 := ⟨gw_mem (List.mem_of_getElem? (i := 826) (by decide +kernel)) rfl, gw_mem (List.mem_of_getElem? (i := 78) (by decide +kernel)) rfl, by decide +kernel, by decide +kernel, by decide +kernel⟩
theorem mi_X8_init : Cond.instanceMethod yX8_init ∈ gw := gw_mem (List.mem_of_getElem? (i := 825) (by decide +kernel)) rfl
theorem mk_X8_in : MK mX8_in 3 := ⟨gw_mem (List.mem_of_getElem? (i := 936) (by decide +kernel)) rfl, gw_mem (List.mem_of_getElem? (i := 78) (by decide +kernel)) rfl, by decide +kernel, by decide +kernel, by decide +kernel⟩
theorem ms_X8_in : Cond.static yX8_in ∈ gw := gw_mem (List.mem_of_getElem? (i := 935) (by decide +kernel)) rfl
theorem mk_X8_finding : MK mX8_finding 1 := ⟨gw_mem (List.mem_of_getElem? (i := 942) (by decide +kernel)) rfl, gw_mem (List.mem_of_getElem? (i := 78) (by decide +kernel)) rfl, by decide +kernel, by decide +kernel, by decide +kernel⟩
theorem mi_X8_finding : MKi mX8_finding := ⟨gw_mem (List.mem_of_getElem? (i := 941) (by decide +kernel)) rfl, gw_mem (List.mem_of_getElem? (i := 29) (by decide +kernel)) rfl⟩
theorem mk_X8_isRow : MK mX8_isRow 1 := ⟨gw_mem (List.mem_of_getElem? (i := 932) (by decide +kernel)) rfl, gw_mem (List.mem_of_getElem? (i := 78) (by decide +kernel)) rfl, by decide +kernel, by decide +kernel, by decide +kernel⟩
theorem ms_X8_isRow : Cond.static yX8_isRow ∈ gw := gw_mem (List.mem_of_getElem? (i := 931) (by decide +kernel)) rfl
theorem mk_X8_row : MK mX8_row 3 := ⟨gw_mem (List.mem_of_getElem? (i := 929) (by decide +kernel)) rfl, gw_mem (List.mem_of_getElem? (i := 78) (by decide +kernel)) rfl, by decide +kernel, by decide +kernel, by decide +kernel⟩
theorem mi_X8_row : MKi mX8_row := ⟨gw_mem (List.mem_of_getElem? (i := 927) (by decide +kernel)) rfl, gw_mem (List.mem_of_getElem? (i := 928) (by decide +kernel)) rfl⟩
theorem mk_X8_set : MK mX8_set 3 := ⟨gw_mem (List.mem_of_getElem? (i := 947) (by decide +kernel)) rfl, gw_mem (List.mem_of_getElem? (i := 78) (by decide +kernel)) rfl, by decide +kernel, by decide +kernel, by decide +kernel⟩
theorem mi_X8_set : MKi mX8_set := ⟨gw_mem (List.mem_of_getElem? (i := 945) (by decide +kernel)) rfl, gw_mem (List.mem_of_getElem? (i := 946) (by decide +kernel)) rfl⟩
theorem mk_X8_copy : MK mX8_copy 5 := ⟨gw_mem (List.mem_of_getElem? (i := 951) (by decide +kernel)) rfl, gw_mem (List.mem_of_getElem? (i := 78) (by decide +kernel)) rfl, by decide +kernel, by decide +kernel, by decide +kernel⟩
theorem mi_X8_copy : MKi mX8_copy := ⟨gw_mem (List.mem_of_getElem? (i := 949) (by decide +kernel)) rfl, gw_mem (List.mem_of_getElem? (i := 950) (by decide +kernel)) rfl⟩
theorem mk_X8_drop : MK mX8_drop 1 := ⟨gw_mem (List.mem_of_getElem? (i := 955) (by decide +kernel)) rfl, gw_mem (List.mem_of_getElem? (i := 78) (by decide +kernel)) rfl, by decide +kernel, by decide +kernel, by decide +kernel⟩
theorem mi_X8_drop : MKi mX8_drop := ⟨gw_mem (List.mem_of_getElem? (i := 953) (by decide +kernel)) rfl, gw_mem (List.mem_of_getElem? (i := 954) (by decide +kernel)) rfl⟩
theorem mk_X8_feed : MK mX8_feed 2 := ⟨gw_mem (List.mem_of_getElem? (i := 959) (by decide +kernel)) rfl, gw_mem (List.mem_of_getElem? (i := 78) (by decide +kernel)) rfl, by decide +kernel, by decide +kernel, by decide +kernel⟩
theorem mi_X8_feed : MKi mX8_feed := ⟨gw_mem (List.mem_of_getElem? (i := 957) (by decide +kernel)) rfl, gw_mem (List.mem_of_getElem? (i := 958) (by decide +kernel)) rfl⟩
theorem mk_X8_byteAt : MK mX8_byteAt 1 := ⟨gw_mem (List.mem_of_getElem? (i := 978) (by decide +kernel)) rfl, gw_mem (List.mem_of_getElem? (i := 78) (by decide +kernel)) rfl, by decide +kernel, by decide +kernel, by decide +kernel⟩
theorem mi_X8_byteAt : MKi mX8_byteAt := ⟨gw_mem (List.mem_of_getElem? (i := 977) (by decide +kernel)) rfl, gw_mem (List.mem_of_getElem? (i := 32) (by decide +kernel)) rfl⟩
theorem mk_X8_isLetter : MK mX8_isLetter 1 := ⟨gw_mem (List.mem_of_getElem? (i := 982) (by decide +kernel)) rfl, gw_mem (List.mem_of_getElem? (i := 78) (by decide +kernel)) rfl, by decide +kernel, by decide +kernel, by decide +kernel⟩
theorem ms_X8_isLetter : Cond.static yX8_isLetter ∈ gw := gw_mem (List.mem_of_getElem? (i := 981) (by decide +kernel)) rfl
theorem mk_X8_isFigure : MK mX8_isFigure 1 := ⟨gw_mem (List.mem_of_getElem? (i := 985) (by decide +kernel)) rfl, gw_mem (List.mem_of_getElem? (i := 78) (by decide +kernel)) rfl, by decide +kernel, by decide +kernel, by decide +kernel⟩
theorem ms_X8_isFigure : Cond.static yX8_isFigure ∈ gw := gw_mem (List.mem_of_getElem? (i := 984) (by decide +kernel)) rfl
theorem mk_X8_next : MK mX8_next 0 := ⟨gw_mem (List.mem_of_getElem? (i := 974) (by decide +kernel)) rfl, gw_mem (List.mem_of_getElem? (i := 78) (by decide +kernel)) rfl, by decide +kernel, by decide +kernel, by decide +kernel⟩
theorem mi_X8_next : MKi mX8_next := ⟨gw_mem (List.mem_of_getElem? (i := 973) (by decide +kernel)) rfl, gw_mem (List.mem_of_getElem? (i := 31) (by decide +kernel)) rfl⟩
theorem mk_X8_begin : MK mX8_begin 0 := ⟨gw_mem (List.mem_of_getElem? (i := 970) (by decide +kernel)) rfl, gw_mem (List.mem_of_getElem? (i := 78) (by decide +kernel)) rfl, by decide +kernel, by decide +kernel, by decide +kernel⟩
theorem mi_X8_begin : MKi mX8_begin := ⟨gw_mem (List.mem_of_getElem? (i := 969) (by decide +kernel)) rfl, gw_mem (List.mem_of_getElem? (i := 30) (by decide +kernel)) rfl⟩
theorem mk_X8_bad : MK mX8_bad 1 := ⟨gw_mem (List.mem_of_getElem? (i := 994) (by decide +kernel)) rfl, gw_mem (List.mem_of_getElem? (i := 78) (by decide +kernel)) rfl, by decide +kernel, by decide +kernel, by decide +kernel⟩
theorem mi_X8_bad : MKi mX8_bad := ⟨gw_mem (List.mem_of_getElem? (i := 993) (by decide +kernel)) rfl, gw_mem (List.mem_of_getElem? (i := 34) (by decide +kernel)) rfl⟩
theorem mk_X8_must : MK mX8_must 1 := ⟨gw_mem (List.mem_of_getElem? (i := 1006) (by decide +kernel)) rfl, gw_mem (List.mem_of_getElem? (i := 78) (by decide +kernel)) rfl, by decide +kernel, by decide +kernel, by decide +kernel⟩
theorem mi_X8_must : MKi mX8_must := ⟨gw_mem (List.mem_of_getElem? (i := 1005) (by decide +kernel)) rfl, gw_mem (List.mem_of_getElem? (i := 37) (by decide +kernel)) rfl⟩
theorem mk_X8_name : MK mX8_name 0 := ⟨gw_mem (List.mem_of_getElem? (i := 989) (by decide +kernel)) rfl, gw_mem (List.mem_of_getElem? (i := 78) (by decide +kernel)) rfl, by decide +kernel, by decide +kernel, by decide +kernel⟩
theorem mi_X8_name : MKi mX8_name := ⟨gw_mem (List.mem_of_getElem? (i := 988) (by decide +kernel)) rfl, gw_mem (List.mem_of_getElem? (i := 33) (by decide +kernel)) rfl⟩
theorem mk_X8_figures : MK mX8_figures 0 := ⟨gw_mem (List.mem_of_getElem? (i := 1014) (by decide +kernel)) rfl, gw_mem (List.mem_of_getElem? (i := 78) (by decide +kernel)) rfl, by decide +kernel, by decide +kernel, by decide +kernel⟩
theorem mi_X8_figures : MKi mX8_figures := ⟨gw_mem (List.mem_of_getElem? (i := 1013) (by decide +kernel)) rfl, gw_mem (List.mem_of_getElem? (i := 39) (by decide +kernel)) rfl⟩
theorem mk_X8_number : MK mX8_number 2 := ⟨gw_mem (List.mem_of_getElem? (i := 1010) (by decide +kernel)) rfl, gw_mem (List.mem_of_getElem? (i := 78) (by decide +kernel)) rfl, by decide +kernel, by decide +kernel, by decide +kernel⟩
theorem mi_X8_number : MKi mX8_number := ⟨gw_mem (List.mem_of_getElem? (i := 1009) (by decide +kernel)) rfl, gw_mem (List.mem_of_getElem? (i := 38) (by decide +kernel)) rfl⟩
theorem mk_X8_kindBy : MK mX8_kindBy 1 := ⟨gw_mem (List.mem_of_getElem? (i := 1031) (by decide +kernel)) rfl, gw_mem (List.mem_of_getElem? (i := 78) (by decide +kernel)) rfl, by decide +kernel, by decide +kernel, by decide +kernel⟩
theorem ms_X8_kindBy : Cond.static yX8_kindBy ∈ gw := gw_mem (List.mem_of_getElem? (i := 1030) (by decide +kernel)) rfl
theorem mk_X8_mustEnd : MK mX8_mustEnd 0 := ⟨gw_mem (List.mem_of_getElem? (i := 1018) (by decide +kernel)) rfl, gw_mem (List.mem_of_getElem? (i := 78) (by decide +kernel)) rfl, by decide +kernel, by decide +kernel, by decide +kernel⟩
theorem mi_X8_mustEnd : MKi mX8_mustEnd := ⟨gw_mem (List.mem_of_getElem? (i := 1017) (by decide +kernel)) rfl, gw_mem (List.mem_of_getElem? (i := 40) (by decide +kernel)) rfl⟩
theorem mk_X8_begins : MK mX8_begins 2 := ⟨gw_mem (List.mem_of_getElem? (i := 1002) (by decide +kernel)) rfl, gw_mem (List.mem_of_getElem? (i := 78) (by decide +kernel)) rfl, by decide +kernel, by decide +kernel, by decide +kernel⟩
theorem mi_X8_begins : MKi mX8_begins := ⟨gw_mem (List.mem_of_getElem? (i := 1001) (by decide +kernel)) rfl, gw_mem (List.mem_of_getElem? (i := 36) (by decide +kernel)) rfl⟩
theorem mk_X8_readRoom : MK mX8_readRoom 0 := ⟨gw_mem (List.mem_of_getElem? (i := 998) (by decide +kernel)) rfl, gw_mem (List.mem_of_getElem? (i := 78) (by decide +kernel)) rfl, by decide +kernel, by decide +kernel, by decide +kernel⟩
theorem mi_X8_readRoom : MKi mX8_readRoom := ⟨gw_mem (List.mem_of_getElem? (i := 997) (by decide +kernel)) rfl, gw_mem (List.mem_of_getElem? (i := 35) (by decide +kernel)) rfl⟩
theorem mk_X8_readDoor : MK mX8_readDoor 0 := ⟨gw_mem (List.mem_of_getElem? (i := 1023) (by decide +kernel)) rfl, gw_mem (List.mem_of_getElem? (i := 78) (by decide +kernel)) rfl, by decide +kernel, by decide +kernel, by decide +kernel⟩
theorem mi_X8_readDoor : MKi mX8_readDoor := ⟨gw_mem (List.mem_of_getElem? (i := 1022) (by decide +kernel)) rfl, gw_mem (List.mem_of_getElem? (i := 41) (by decide +kernel)) rfl⟩
theorem mk_X8_readCrowd : MK mX8_readCrowd 0 := ⟨gw_mem (List.mem_of_getElem? (i := 1028) (by decide +kernel)) rfl, gw_mem (List.mem_of_getElem? (i := 78) (by decide +kernel)) rfl, by decide +kernel, by decide +kernel, by decide +kernel⟩
theorem mi_X8_readCrowd : MKi mX8_readCrowd := ⟨gw_mem (List.mem_of_getElem? (i := 1027) (by decide +kernel)) rfl, gw_mem (List.mem_of_getElem? (i := 42) (by decide +kernel)) rfl⟩
theorem mk_X8_house : MK mX8_house 0 := ⟨gw_mem (List.mem_of_getElem? (i := 966) (by decide +kernel)) rfl, gw_mem (List.mem_of_getElem? (i := 78) (by decide +kernel)) rfl, by decide +kernel, by decide +kernel, by decide +kernel⟩
theorem mi_X8_house : MKi mX8_house := ⟨gw_mem (List.mem_of_getElem? (i := 964) (by decide +kernel)) rfl, gw_mem (List.mem_of_getElem? (i := 965) (by decide +kernel)) rfl⟩
theorem mk_X8_fault : MK mX8_fault 0 := ⟨gw_mem (List.mem_of_getElem? (i := 1041) (by decide +kernel)) rfl, gw_mem (List.mem_of_getElem? (i := 78) (by decide +kernel)) rfl, by decide +kernel, by decide +kernel, by decide +kernel⟩
theorem mi_X8_fault : MKi mX8_fault := ⟨gw_mem (List.mem_of_getElem? (i := 1039) (by decide +kernel)) rfl, gw_mem (List.mem_of_getElem? (i := 1040) (by decide +kernel)) rfl⟩
theorem mk_X8_isThere : MK mX8_isThere 0 := ⟨gw_mem (List.mem_of_getElem? (i := 1049) (by decide +kernel)) rfl, gw_mem (List.mem_of_getElem? (i := 78) (by decide +kernel)) rfl, by decide +kernel, by decide +kernel, by decide +kernel⟩
theorem mi_X8_isThere : MKi mX8_isThere := ⟨gw_mem (List.mem_of_getElem? (i := 1048) (by decide +kernel)) rfl, gw_mem (List.mem_of_getElem? (i := 43) (by decide +kernel)) rfl⟩
theorem mk_X8_isRoom : MK mX8_isRoom 1 := ⟨gw_mem (List.mem_of_getElem? (i := 1103) (by decide +kernel)) rfl, gw_mem (List.mem_of_getElem? (i := 78) (by decide +kernel)) rfl, by decide +kernel, by decide +kernel, by decide +kernel⟩
theorem mi_X8_isRoom : MKi mX8_isRoom := ⟨gw_mem (List.mem_of_getElem? (i := 1102) (by decide +kernel)) rfl, gw_mem (List.mem_of_getElem? (i := 54) (by decide +kernel)) rfl⟩
theorem mk_X8_isCrowd : MK mX8_isCrowd 1 := ⟨gw_mem (List.mem_of_getElem? (i := 1111) (by decide +kernel)) rfl, gw_mem (List.mem_of_getElem? (i := 78) (by decide +kernel)) rfl, by decide +kernel, by decide +kernel, by decide +kernel⟩
theorem mi_X8_isCrowd : MKi mX8_isCrowd := ⟨gw_mem (List.mem_of_getElem? (i := 1110) (by decide +kernel)) rfl, gw_mem (List.mem_of_getElem? (i := 55) (by decide +kernel)) rfl⟩
theorem mk_X8_of : MK mX8_of 2 := ⟨gw_mem (List.mem_of_getElem? (i := 1066) (by decide +kernel)) rfl, gw_mem (List.mem_of_getElem? (i := 78) (by decide +kernel)) rfl, by decide +kernel, by decide +kernel, by decide +kernel⟩
theorem mi_X8_of : MKi mX8_of := ⟨gw_mem (List.mem_of_getElem? (i := 1065) (by decide +kernel)) rfl, gw_mem (List.mem_of_getElem? (i := 47) (by decide +kernel)) rfl⟩
theorem mk_X8_layNow : MK mX8_layNow 0 := ⟨gw_mem (List.mem_of_getElem? (i := 1062) (by decide +kernel)) rfl, gw_mem (List.mem_of_getElem? (i := 78) (by decide +kernel)) rfl, by decide +kernel, by decide +kernel, by decide +kernel⟩
theorem mi_X8_layNow : MKi mX8_layNow := ⟨gw_mem (List.mem_of_getElem? (i := 1061) (by decide +kernel)) rfl, gw_mem (List.mem_of_getElem? (i := 46) (by decide +kernel)) rfl⟩
theorem mk_X8_layCounts : MK mX8_layCounts 0 := ⟨gw_mem (List.mem_of_getElem? (i := 1074) (by decide +kernel)) rfl, gw_mem (List.mem_of_getElem? (i := 78) (by decide +kernel)) rfl, by decide +kernel, by decide +kernel, by decide +kernel⟩
theorem mi_X8_layCounts : MKi mX8_layCounts := ⟨gw_mem (List.mem_of_getElem? (i := 1073) (by decide +kernel)) rfl, gw_mem (List.mem_of_getElem? (i := 49) (by decide +kernel)) rfl⟩
theorem mk_X8_draws : MK mX8_draws 2 := ⟨gw_mem (List.mem_of_getElem? (i := 1082) (by decide +kernel)) rfl, gw_mem (List.mem_of_getElem? (i := 78) (by decide +kernel)) rfl, by decide +kernel, by decide +kernel, by decide +kernel⟩
theorem mi_X8_draws : MKi mX8_draws := ⟨gw_mem (List.mem_of_getElem? (i := 1081) (by decide +kernel)) rfl, gw_mem (List.mem_of_getElem? (i := 51) (by decide +kernel)) rfl⟩
theorem mk_X8_goesTo : MK mX8_goesTo 1 := ⟨gw_mem (List.mem_of_getElem? (i := 1078) (by decide +kernel)) rfl, gw_mem (List.mem_of_getElem? (i := 78) (by decide +kernel)) rfl, by decide +kernel, by decide +kernel, by decide +kernel⟩
theorem mi_X8_goesTo : MKi mX8_goesTo := ⟨gw_mem (List.mem_of_getElem? (i := 1077) (by decide +kernel)) rfl, gw_mem (List.mem_of_getElem? (i := 50) (by decide +kernel)) rfl⟩
theorem mk_X8_goBell : MK mX8_goBell 0 := ⟨gw_mem (List.mem_of_getElem? (i := 1070) (by decide +kernel)) rfl, gw_mem (List.mem_of_getElem? (i := 78) (by decide +kernel)) rfl, by decide +kernel, by decide +kernel, by decide +kernel⟩
theorem mi_X8_goBell : MKi mX8_goBell := ⟨gw_mem (List.mem_of_getElem? (i := 1069) (by decide +kernel)) rfl, gw_mem (List.mem_of_getElem? (i := 48) (by decide +kernel)) rfl⟩
theorem mk_X8_goBells : MK mX8_goBells 1 := ⟨gw_mem (List.mem_of_getElem? (i := 1133) (by decide +kernel)) rfl, gw_mem (List.mem_of_getElem? (i := 78) (by decide +kernel)) rfl, by decide +kernel, by decide +kernel, by decide +kernel⟩
theorem mi_X8_goBells : MKi mX8_goBells := ⟨gw_mem (List.mem_of_getElem? (i := 1132) (by decide +kernel)) rfl, gw_mem (List.mem_of_getElem? (i := 56) (by decide +kernel)) rfl⟩
theorem mk_X8_keep : MK mX8_keep 0 := ⟨gw_mem (List.mem_of_getElem? (i := 1058) (by decide +kernel)) rfl, gw_mem (List.mem_of_getElem? (i := 78) (by decide +kernel)) rfl, by decide +kernel, by decide +kernel, by decide +kernel⟩
theorem mi_X8_keep : MKi mX8_keep := ⟨gw_mem (List.mem_of_getElem? (i := 1057) (by decide +kernel)) rfl, gw_mem (List.mem_of_getElem? (i := 45) (by decide +kernel)) rfl⟩
theorem mk_X8_ring : MK mX8_ring 0 := ⟨gw_mem (List.mem_of_getElem? (i := 1054) (by decide +kernel)) rfl, gw_mem (List.mem_of_getElem? (i := 78) (by decide +kernel)) rfl, by decide +kernel, by decide +kernel, by decide +kernel⟩
theorem mi_X8_ring : MKi mX8_ring := ⟨gw_mem (List.mem_of_getElem? (i := 1053) (by decide +kernel)) rfl, gw_mem (List.mem_of_getElem? (i := 44) (by decide +kernel)) rfl⟩
theorem mk_X8_bell : MK mX8_bell 0 := ⟨gw_mem (List.mem_of_getElem? (i := 1045) (by decide +kernel)) rfl, gw_mem (List.mem_of_getElem? (i := 78) (by decide +kernel)) rfl, by decide +kernel, by decide +kernel, by decide +kernel⟩
theorem mi_X8_bell : MKi mX8_bell := ⟨gw_mem (List.mem_of_getElem? (i := 1043) (by decide +kernel)) rfl, gw_mem (List.mem_of_getElem? (i := 1044) (by decide +kernel)) rfl⟩
theorem mk_X8_headsOfAll : MK mX8_headsOfAll 0 := ⟨gw_mem (List.mem_of_getElem? (i := 1095) (by decide +kernel)) rfl, gw_mem (List.mem_of_getElem? (i := 78) (by decide +kernel)) rfl, by decide +kernel, by decide +kernel, by decide +kernel⟩
theorem mi_X8_headsOfAll : MKi mX8_headsOfAll := ⟨gw_mem (List.mem_of_getElem? (i := 1094) (by decide +kernel)) rfl, gw_mem (List.mem_of_getElem? (i := 53) (by decide +kernel)) rfl⟩
theorem mk_X8_haveRoom : MK mX8_haveRoom 2 := ⟨gw_mem (List.mem_of_getElem? (i := 1091) (by decide +kernel)) rfl, gw_mem (List.mem_of_getElem? (i := 78) (by decide +kernel)) rfl, by decide +kernel, by decide +kernel, by decide +kernel⟩
theorem mi_X8_haveRoom : MKi mX8_haveRoom := ⟨gw_mem (List.mem_of_getElem? (i := 1090) (by decide +kernel)) rfl, gw_mem (List.mem_of_getElem? (i := 52) (by decide +kernel)) rfl⟩
theorem mk_X8_bells : MK mX8_bells 3 := ⟨gw_mem (List.mem_of_getElem? (i := 1086) (by decide +kernel)) rfl, gw_mem (List.mem_of_getElem? (i := 78) (by decide +kernel)) rfl, by decide +kernel, by decide +kernel, by decide +kernel⟩
theorem mi_X8_bells : MKi mX8_bells := ⟨gw_mem (List.mem_of_getElem? (i := 1084) (by decide +kernel)) rfl, gw_mem (List.mem_of_getElem? (i := 1085) (by decide +kernel)) rfl⟩
theorem mk_X8_door : MK mX8_door 3 := ⟨gw_mem (List.mem_of_getElem? (i := 1099) (by decide +kernel)) rfl, gw_mem (List.mem_of_getElem? (i := 78) (by decide +kernel)) rfl, by decide +kernel, by decide +kernel, by decide +kernel⟩
theorem mi_X8_door : MKi mX8_door := ⟨gw_mem (List.mem_of_getElem? (i := 1097) (by decide +kernel)) rfl, gw_mem (List.mem_of_getElem? (i := 1098) (by decide +kernel)) rfl⟩
theorem mk_X8_heads : MK mX8_heads 2 := ⟨gw_mem (List.mem_of_getElem? (i := 1107) (by decide +kernel)) rfl, gw_mem (List.mem_of_getElem? (i := 78) (by decide +kernel)) rfl, by decide +kernel, by decide +kernel, by decide +kernel⟩
theorem mi_X8_heads : MKi mX8_heads := ⟨gw_mem (List.mem_of_getElem? (i := 1105) (by decide +kernel)) rfl, gw_mem (List.mem_of_getElem? (i := 1106) (by decide +kernel)) rfl⟩
theorem mk_X8_undo : MK mX8_undo 0 := ⟨gw_mem (List.mem_of_getElem? (i := 1116) (by decide +kernel)) rfl, gw_mem (List.mem_of_getElem? (i := 78) (by decide +kernel)) rfl, by decide +kernel, by decide +kernel, by decide +kernel⟩
theorem mi_X8_undo : MKi mX8_undo := ⟨gw_mem (List.mem_of_getElem? (i := 1114) (by decide +kernel)) rfl, gw_mem (List.mem_of_getElem? (i := 1115) (by decide +kernel)) rfl⟩
theorem mk_X8_crowd : MK mX8_crowd 2 := ⟨gw_mem (List.mem_of_getElem? (i := 1120) (by decide +kernel)) rfl, gw_mem (List.mem_of_getElem? (i := 78) (by decide +kernel)) rfl, by decide +kernel, by decide +kernel, by decide +kernel⟩
theorem mi_X8_crowd : MKi mX8_crowd := ⟨gw_mem (List.mem_of_getElem? (i := 1118) (by decide +kernel)) rfl, gw_mem (List.mem_of_getElem? (i := 1119) (by decide +kernel)) rfl⟩
theorem mk_X8_room : MK mX8_room 2 := ⟨gw_mem (List.mem_of_getElem? (i := 1124) (by decide +kernel)) rfl, gw_mem (List.mem_of_getElem? (i := 78) (by decide +kernel)) rfl, by decide +kernel, by decide +kernel, by decide +kernel⟩
theorem mi_X8_room : MKi mX8_room := ⟨gw_mem (List.mem_of_getElem? (i := 1122) (by decide +kernel)) rfl, gw_mem (List.mem_of_getElem? (i := 1123) (by decide +kernel)) rfl⟩
theorem mk_X8_ahead : MK mX8_ahead 2 := ⟨gw_mem (List.mem_of_getElem? (i := 1128) (by decide +kernel)) rfl, gw_mem (List.mem_of_getElem? (i := 78) (by decide +kernel)) rfl, by decide +kernel, by decide +kernel, by decide +kernel⟩
theorem mi_X8_ahead : MKi mX8_ahead := ⟨gw_mem (List.mem_of_getElem? (i := 1126) (by decide +kernel)) rfl, gw_mem (List.mem_of_getElem? (i := 1127) (by decide +kernel)) rfl⟩
theorem mk_X8_roomAhead : MK mX8_roomAhead 3 := ⟨gw_mem (List.mem_of_getElem? (i := 1137) (by decide +kernel)) rfl, gw_mem (List.mem_of_getElem? (i := 78) (by decide +kernel)) rfl, by decide +kernel, by decide +kernel, by decide +kernel⟩
theorem mi_X8_roomAhead : MKi mX8_roomAhead := ⟨gw_mem (List.mem_of_getElem? (i := 1135) (by decide +kernel)) rfl, gw_mem (List.mem_of_getElem? (i := 1136) (by decide +kernel)) rfl⟩
theorem mk_X8_restIn : MK mX8_restIn 0 := ⟨gw_mem (List.mem_of_getElem? (i := 1145) (by decide +kernel)) rfl, gw_mem (List.mem_of_getElem? (i := 78) (by decide +kernel)) rfl, by decide +kernel, by decide +kernel, by decide +kernel⟩
theorem mi_X8_restIn : MKi mX8_restIn := ⟨gw_mem (List.mem_of_getElem? (i := 1144) (by decide +kernel)) rfl, gw_mem (List.mem_of_getElem? (i := 57) (by decide +kernel)) rfl⟩
theorem mk_X8_ringIn : MK mX8_ringIn 0 := ⟨gw_mem (List.mem_of_getElem? (i := 1149) (by decide +kernel)) rfl, gw_mem (List.mem_of_getElem? (i := 78) (by decide +kernel)) rfl, by decide +kernel, by decide +kernel, by decide +kernel⟩
theorem mi_X8_ringIn : MKi mX8_ringIn := ⟨gw_mem (List.mem_of_getElem? (i := 1148) (by decide +kernel)) rfl, gw_mem (List.mem_of_getElem? (i := 58) (by decide +kernel)) rfl⟩
theorem mk_X8_rest : MK mX8_rest 1 := ⟨gw_mem (List.mem_of_getElem? (i := 1141) (by decide +kernel)) rfl, gw_mem (List.mem_of_getElem? (i := 78) (by decide +kernel)) rfl, by decide +kernel, by decide +kernel, by decide +kernel⟩
theorem mi_X8_rest : MKi mX8_rest := ⟨gw_mem (List.mem_of_getElem? (i := 1139) (by decide +kernel)) rfl, gw_mem (List.mem_of_getElem? (i := 1140) (by decide +kernel)) rfl⟩
theorem mk_X8_layHired : MK mX8_layHired 2 := ⟨gw_mem (List.mem_of_getElem? (i := 1162) (by decide +kernel)) rfl, gw_mem (List.mem_of_getElem? (i := 78) (by decide +kernel)) rfl, by decide +kernel, by decide +kernel, by decide +kernel⟩
theorem mi_X8_layHired : MKi mX8_layHired := ⟨gw_mem (List.mem_of_getElem? (i := 1161) (by decide +kernel)) rfl, gw_mem (List.mem_of_getElem? (i := 60) (by decide +kernel)) rfl⟩
theorem mk_X8_isSo : MK mX8_isSo 2 := ⟨gw_mem (List.mem_of_getElem? (i := 1166) (by decide +kernel)) rfl, gw_mem (List.mem_of_getElem? (i := 78) (by decide +kernel)) rfl, by decide +kernel, by decide +kernel, by decide +kernel⟩
theorem mi_X8_isSo : MKi mX8_isSo := ⟨gw_mem (List.mem_of_getElem? (i := 1165) (by decide +kernel)) rfl, gw_mem (List.mem_of_getElem? (i := 61) (by decide +kernel)) rfl⟩
theorem mk_X8_hire : MK mX8_hire 4 := ⟨gw_mem (List.mem_of_getElem? (i := 1158) (by decide +kernel)) rfl, gw_mem (List.mem_of_getElem? (i := 78) (by decide +kernel)) rfl, by decide +kernel, by decide +kernel, by decide +kernel⟩
theorem mi_X8_hire : MKi mX8_hire := ⟨gw_mem (List.mem_of_getElem? (i := 1157) (by decide +kernel)) rfl, gw_mem (List.mem_of_getElem? (i := 59) (by decide +kernel)) rfl⟩
theorem mk_X8_hired : MK mX8_hired 3 := ⟨gw_mem (List.mem_of_getElem? (i := 1153) (by decide +kernel)) rfl, gw_mem (List.mem_of_getElem? (i := 78) (by decide +kernel)) rfl, by decide +kernel, by decide +kernel, by decide +kernel⟩
theorem mi_X8_hired : MKi mX8_hired := ⟨gw_mem (List.mem_of_getElem? (i := 1151) (by decide +kernel)) rfl, gw_mem (List.mem_of_getElem? (i := 1152) (by decide +kernel)) rfl⟩
theorem mk_X8_empty : MK mX8_empty 3 := ⟨gw_mem (List.mem_of_getElem? (i := 1170) (by decide +kernel)) rfl, gw_mem (List.mem_of_getElem? (i := 78) (by decide +kernel)) rfl, by decide +kernel, by decide +kernel, by decide +kernel⟩
theorem mi_X8_empty : MKi mX8_empty := ⟨gw_mem (List.mem_of_getElem? (i := 1168) (by decide +kernel)) rfl, gw_mem (List.mem_of_getElem? (i := 1169) (by decide +kernel)) rfl⟩
theorem mk_X8_areApart : MK mX8_areApart 4 := ⟨gw_mem (List.mem_of_getElem? (i := 1178) (by decide +kernel)) rfl, gw_mem (List.mem_of_getElem? (i := 78) (by decide +kernel)) rfl, by decide +kernel, by decide +kernel, by decide +kernel⟩
theorem mi_X8_areApart : MKi mX8_areApart := ⟨gw_mem (List.mem_of_getElem? (i := 1177) (by decide +kernel)) rfl, gw_mem (List.mem_of_getElem? (i := 62) (by decide +kernel)) rfl⟩
theorem mk_X8_apart : MK mX8_apart 3 := ⟨gw_mem (List.mem_of_getElem? (i := 1174) (by decide +kernel)) rfl, gw_mem (List.mem_of_getElem? (i := 78) (by decide +kernel)) rfl, by decide +kernel, by decide +kernel, by decide +kernel⟩
theorem mi_X8_apart : MKi mX8_apart := ⟨gw_mem (List.mem_of_getElem? (i := 1172) (by decide +kernel)) rfl, gw_mem (List.mem_of_getElem? (i := 1173) (by decide +kernel)) rfl⟩
theorem mk_X8_layBegan : MK mX8_layBegan 1 := ⟨gw_mem (List.mem_of_getElem? (i := 1188) (by decide +kernel)) rfl, gw_mem (List.mem_of_getElem? (i := 78) (by decide +kernel)) rfl, by decide +kernel, by decide +kernel, by decide +kernel⟩
theorem mi_X8_layBegan : MKi mX8_layBegan := ⟨gw_mem (List.mem_of_getElem? (i := 1187) (by decide +kernel)) rfl, gw_mem (List.mem_of_getElem? (i := 63) (by decide +kernel)) rfl⟩
theorem mk_X8_began : MK mX8_began 2 := ⟨gw_mem (List.mem_of_getElem? (i := 1182) (by decide +kernel)) rfl, gw_mem (List.mem_of_getElem? (i := 78) (by decide +kernel)) rfl, by decide +kernel, by decide +kernel, by decide +kernel⟩
theorem mi_X8_began : MKi mX8_began := ⟨gw_mem (List.mem_of_getElem? (i := 1180) (by decide +kernel)) rfl, gw_mem (List.mem_of_getElem? (i := 1181) (by decide +kernel)) rfl⟩
theorem mk_X8_image : MK mX8_image 1 := ⟨gw_mem (List.mem_of_getElem? (i := 1192) (by decide +kernel)) rfl, gw_mem (List.mem_of_getElem? (i := 78) (by decide +kernel)) rfl, by decide +kernel, by decide +kernel, by decide +kernel⟩
theorem mi_X8_image : MKi mX8_image := ⟨gw_mem (List.mem_of_getElem? (i := 1190) (by decide +kernel)) rfl, gw_mem (List.mem_of_getElem? (i := 1191) (by decide +kernel)) rfl⟩
theorem mk_X8_restore : MK mX8_restore 1 := ⟨gw_mem (List.mem_of_getElem? (i := 1196) (by decide +kernel)) rfl, gw_mem (List.mem_of_getElem? (i := 78) (by decide +kernel)) rfl, by decide +kernel, by decide +kernel, by decide +kernel⟩
theorem mi_X8_restore : MKi mX8_restore := ⟨gw_mem (List.mem_of_getElem? (i := 1194) (by decide +kernel)) rfl, gw_mem (List.mem_of_getElem? (i := 1195) (by decide +kernel)) rfl⟩
theorem mk_X8_isOf : MK mX8_isOf 2 := ⟨gw_mem (List.mem_of_getElem? (i := 1208) (by decide +kernel)) rfl, gw_mem (List.mem_of_getElem? (i := 78) (by decide +kernel)) rfl, by decide +kernel, by decide +kernel, by decide +kernel⟩
theorem ms_X8_isOf : Cond.static yX8_isOf ∈ gw := gw_mem (List.mem_of_getElem? (i := 1207) (by decide +kernel)) rfl
theorem mk_X8_kind : MK mX8_kind 1 := ⟨gw_mem (List.mem_of_getElem? (i := 1200) (by decide +kernel)) rfl, gw_mem (List.mem_of_getElem? (i := 78) (by decide +kernel)) rfl, by decide +kernel, by decide +kernel, by decide +kernel⟩
theorem mi_X8_kind : MKi mX8_kind := ⟨gw_mem (List.mem_of_getElem? (i := 1198) (by decide +kernel)) rfl, gw_mem (List.mem_of_getElem? (i := 1199) (by decide +kernel)) rfl⟩
theorem mk_X8_as : MK mX8_as 2 := ⟨gw_mem (List.mem_of_getElem? (i := 1204) (by decide +kernel)) rfl, gw_mem (List.mem_of_getElem? (i := 78) (by decide +kernel)) rfl, by decide +kernel, by decide +kernel, by decide +kernel⟩
theorem mi_X8_as : MKi mX8_as := ⟨gw_mem (List.mem_of_getElem? (i := 1202) (by decide +kernel)) rfl, gw_mem (List.mem_of_getElem? (i := 1203) (by decide +kernel)) rfl⟩
theorem mk_X8_stepped : MK mX8_stepped 1 := ⟨gw_mem (List.mem_of_getElem? (i := 1224) (by decide +kernel)) rfl, gw_mem (List.mem_of_getElem? (i := 78) (by decide +kernel)) rfl, by decide +kernel, by decide +kernel, by decide +kernel⟩
theorem mi_X8_stepped : MKi mX8_stepped := ⟨gw_mem (List.mem_of_getElem? (i := 1223) (by decide +kernel)) rfl, gw_mem (List.mem_of_getElem? (i := 66) (by decide +kernel)) rfl⟩
theorem mk_X8_plainSize : MK mX8_plainSize 1 := ⟨gw_mem (List.mem_of_getElem? (i := 1228) (by decide +kernel)) rfl, gw_mem (List.mem_of_getElem? (i := 78) (by decide +kernel)) rfl, by decide +kernel, by decide +kernel, by decide +kernel⟩
theorem mi_X8_plainSize : MKi mX8_plainSize := ⟨gw_mem (List.mem_of_getElem? (i := 1227) (by decide +kernel)) rfl, gw_mem (List.mem_of_getElem? (i := 67) (by decide +kernel)) rfl⟩
theorem mk_X8_staySize : MK mX8_staySize 1 := ⟨gw_mem (List.mem_of_getElem? (i := 1220) (by decide +kernel)) rfl, gw_mem (List.mem_of_getElem? (i := 78) (by decide +kernel)) rfl, by decide +kernel, by decide +kernel, by decide +kernel⟩
theorem mi_X8_staySize : MKi mX8_staySize := ⟨gw_mem (List.mem_of_getElem? (i := 1219) (by decide +kernel)) rfl, gw_mem (List.mem_of_getElem? (i := 65) (by decide +kernel)) rfl⟩
theorem mk_X8_markOf : MK mX8_markOf 1 := ⟨gw_mem (List.mem_of_getElem? (i := 1232) (by decide +kernel)) rfl, gw_mem (List.mem_of_getElem? (i := 78) (by decide +kernel)) rfl, by decide +kernel, by decide +kernel, by decide +kernel⟩
theorem mi_X8_markOf : MKi mX8_markOf := ⟨gw_mem (List.mem_of_getElem? (i := 1231) (by decide +kernel)) rfl, gw_mem (List.mem_of_getElem? (i := 68) (by decide +kernel)) rfl⟩
theorem mk_X8_sizeOf : MK mX8_sizeOf 1 := ⟨gw_mem (List.mem_of_getElem? (i := 1216) (by decide +kernel)) rfl, gw_mem (List.mem_of_getElem? (i := 78) (by decide +kernel)) rfl, by decide +kernel, by decide +kernel, by decide +kernel⟩
theorem mi_X8_sizeOf : MKi mX8_sizeOf := ⟨gw_mem (List.mem_of_getElem? (i := 1215) (by decide +kernel)) rfl, gw_mem (List.mem_of_getElem? (i := 64) (by decide +kernel)) rfl⟩
theorem mk_X8_ask : MK mX8_ask 2 := ⟨gw_mem (List.mem_of_getElem? (i := 1212) (by decide +kernel)) rfl, gw_mem (List.mem_of_getElem? (i := 78) (by decide +kernel)) rfl, by decide +kernel, by decide +kernel, by decide +kernel⟩
theorem mi_X8_ask : MKi mX8_ask := ⟨gw_mem (List.mem_of_getElem? (i := 1210) (by decide +kernel)) rfl, gw_mem (List.mem_of_getElem? (i := 1211) (by decide +kernel)) rfl⟩
theorem mk_X8_trace : MK mX8_trace 1 := ⟨gw_mem (List.mem_of_getElem? (i := 1236) (by decide +kernel)) rfl, gw_mem (List.mem_of_getElem? (i := 78) (by decide +kernel)) rfl, by decide +kernel, by decide +kernel, by decide +kernel⟩
theorem mi_X8_trace : MKi mX8_trace := ⟨gw_mem (List.mem_of_getElem? (i := 1234) (by decide +kernel)) rfl, gw_mem (List.mem_of_getElem? (i := 1235) (by decide +kernel)) rfl⟩
theorem mk_X8_count : MK mX8_count 1 := ⟨gw_mem (List.mem_of_getElem? (i := 1240) (by decide +kernel)) rfl, gw_mem (List.mem_of_getElem? (i := 78) (by decide +kernel)) rfl, by decide +kernel, by decide +kernel, by decide +kernel⟩
theorem mi_X8_count : MKi mX8_count := ⟨gw_mem (List.mem_of_getElem? (i := 1238) (by decide +kernel)) rfl, gw_mem (List.mem_of_getElem? (i := 1239) (by decide +kernel)) rfl⟩
theorem mk_X8_status : MK mX8_status 0 := ⟨gw_mem (List.mem_of_getElem? (i := 1244) (by decide +kernel)) rfl, gw_mem (List.mem_of_getElem? (i := 78) (by decide +kernel)) rfl, by decide +kernel, by decide +kernel, by decide +kernel⟩
theorem mi_X8_status : MKi mX8_status := ⟨gw_mem (List.mem_of_getElem? (i := 1242) (by decide +kernel)) rfl, gw_mem (List.mem_of_getElem? (i := 1243) (by decide +kernel)) rfl⟩
