section
theorem nhJ7 : RJ7 ≠ "java/lang/invoke/MethodHandle" ∧ RJ7 ≠ "java/lang/invoke/VarHandle" := ⟨by decide +kernel, by decide +kernel⟩
theorem nhJ9 : RJ9 ≠ "java/lang/invoke/MethodHandle" ∧ RJ9 ≠ "java/lang/invoke/VarHandle" := ⟨by decide +kernel, by decide +kernel⟩
theorem nhL : RL ≠ "java/lang/invoke/MethodHandle" ∧ RL ≠ "java/lang/invoke/VarHandle" := ⟨by decide +kernel, by decide +kernel⟩
theorem nhX0 : RX0 ≠ "java/lang/invoke/MethodHandle" ∧ RX0 ≠ "java/lang/invoke/VarHandle" := ⟨by decide +kernel, by decide +kernel⟩
theorem nhX1 : RX1 ≠ "java/lang/invoke/MethodHandle" ∧ RX1 ≠ "java/lang/invoke/VarHandle" := ⟨by decide +kernel, by decide +kernel⟩
theorem nhX2 : RX2 ≠ "java/lang/invoke/MethodHandle" ∧ RX2 ≠ "java/lang/invoke/VarHandle" := ⟨by decide +kernel, by decide +kernel⟩
theorem nhX3 : RX3 ≠ "java/lang/invoke/MethodHandle" ∧ RX3 ≠ "java/lang/invoke/VarHandle" := ⟨by decide +kernel, by decide +kernel⟩
theorem nhX4 : RX4 ≠ "java/lang/invoke/MethodHandle" ∧ RX4 ≠ "java/lang/invoke/VarHandle" := ⟨by decide +kernel, by decide +kernel⟩
theorem nhX5 : RX5 ≠ "java/lang/invoke/MethodHandle" ∧ RX5 ≠ "java/lang/invoke/VarHandle" := ⟨by decide +kernel, by decide +kernel⟩
theorem nhX6 : RX6 ≠ "java/lang/invoke/MethodHandle" ∧ RX6 ≠ "java/lang/invoke/VarHandle" := ⟨by decide +kernel, by decide +kernel⟩
theorem nhX7 : RX7 ≠ "java/lang/invoke/MethodHandle" ∧ RX7 ≠ "java/lang/invoke/VarHandle" := ⟨by decide +kernel, by decide +kernel⟩
theorem nhX8 : RX8 ≠ "java/lang/invoke/MethodHandle" ∧ RX8 ≠ "java/lang/invoke/VarHandle" := ⟨by decide +kernel, by decide +kernel⟩
theorem nhX9 : RX9 ≠ "java/lang/invoke/MethodHandle" ∧ RX9 ≠ "java/lang/invoke/VarHandle" := ⟨by decide +kernel, by decide +kernel⟩
abbrev mX0_init : XY := (yX0_init, cX0_init, 1, none)
abbrev mX0_gather : XY := (yX0_gather, cX0_gather, 4, none)
set_option maxRecDepth 100000 in
theorem mdX0_gather : MD mX0_gather 1 := ⟨at_x 498 rfl rfl, at_x 72 rfl rfl, ⟨nhX0.1, nhX0.2, by decide +kernel⟩, by decide⟩
set_option maxRecDepth 100000 in
theorem mvX0_gather : MV mX0_gather := ⟨at_x 496 rfl rfl, at_x 497 rfl rfl⟩
abbrev mX0_put : XY := (yX0_put, cX0_put, 5, none)
set_option maxRecDepth 100000 in
theorem mdX0_put : MD mX0_put 2 := ⟨at_x 509 rfl rfl, at_x 72 rfl rfl, ⟨nhX0.1, nhX0.2, by decide +kernel⟩, by decide⟩
set_option maxRecDepth 100000 in
theorem mvX0_put : MV mX0_put := ⟨at_x 508 rfl rfl, at_x 5 rfl rfl⟩
abbrev mX1_init : XY := (yX1_init, cX1_init, 1, none)
abbrev mX1_copyFrom : XY := (yX1_copyFrom, cX1_copyFrom, 3, none)
set_option maxRecDepth 100000 in
theorem mdX1_copyFrom : MD mX1_copyFrom 1 := ⟨at_x 697 rfl rfl, at_x 70 rfl rfl, ⟨nhX1.1, nhX1.2, by decide +kernel⟩, by decide⟩
set_option maxRecDepth 100000 in
theorem mvX1_copyFrom : MV mX1_copyFrom := ⟨at_x 695 rfl rfl, at_x 696 rfl rfl⟩
abbrev mX1_hasCandidate : XY := (yX1_hasCandidate, cX1_hasCandidate, 2, some .boolean)
set_option maxRecDepth 100000 in
theorem mdX1_hasCandidate : MD mX1_hasCandidate 1 := ⟨at_x 461 rfl rfl, at_x 70 rfl rfl, ⟨nhX1.1, nhX1.2, by decide +kernel⟩, by decide⟩
set_option maxRecDepth 100000 in
theorem mvX1_hasCandidate : MV mX1_hasCandidate := ⟨at_x 459 rfl rfl, at_x 460 rfl rfl⟩
abbrev mX1_hasBallot : XY := (yX1_hasBallot, cX1_hasBallot, 2, some .boolean)
set_option maxRecDepth 100000 in
theorem mdX1_hasBallot : MD mX1_hasBallot 1 := ⟨at_x 449 rfl rfl, at_x 70 rfl rfl, ⟨nhX1.1, nhX1.2, by decide +kernel⟩, by decide⟩
set_option maxRecDepth 100000 in
theorem mvX1_hasBallot : MV mX1_hasBallot := ⟨at_x 447 rfl rfl, at_x 448 rfl rfl⟩
abbrev mX1_together : XY := (yX1_together, cX1_together, 4, some .long)
set_option maxRecDepth 100000 in
theorem mdX1_together : MD mX1_together 0 := ⟨at_x 716 rfl rfl, at_x 70 rfl rfl, ⟨nhX1.1, nhX1.2, by decide +kernel⟩, by decide⟩
set_option maxRecDepth 100000 in
theorem mvX1_together : MV mX1_together := ⟨at_x 714 rfl rfl, at_x 715 rfl rfl⟩
abbrev mX1_placeInLot : XY := (yX1_placeInLot, cX1_placeInLot, 3, some .int)
set_option maxRecDepth 100000 in
theorem mdX1_placeInLot : MD mX1_placeInLot 1 := ⟨at_x 588 rfl rfl, at_x 70 rfl rfl, ⟨nhX1.1, nhX1.2, by decide +kernel⟩, by decide⟩
set_option maxRecDepth 100000 in
theorem mvX1_placeInLot : MV mX1_placeInLot := ⟨at_x 586 rfl rfl, at_x 587 rfl rfl⟩
abbrev mX1_firstHere : XY := (yX1_firstHere, cX1_firstHere, 3, some .int)
set_option maxRecDepth 100000 in
theorem mdX1_firstHere : MD mX1_firstHere 1 := ⟨at_x 596 rfl rfl, at_x 70 rfl rfl, ⟨nhX1.1, nhX1.2, by decide +kernel⟩, by decide⟩
set_option maxRecDepth 100000 in
theorem mvX1_firstHere : MV mX1_firstHere := ⟨at_x 594 rfl rfl, at_x 595 rfl rfl⟩
abbrev mX1_manyFirst : XY := (yX1_manyFirst, cX1_manyFirst, 4, some .int)
set_option maxRecDepth 100000 in
theorem mdX1_manyFirst : MD mX1_manyFirst 1 := ⟨at_x 592 rfl rfl, at_x 70 rfl rfl, ⟨nhX1.1, nhX1.2, by decide +kernel⟩, by decide⟩
set_option maxRecDepth 100000 in
theorem mvX1_manyFirst : MV mX1_manyFirst := ⟨at_x 590 rfl rfl, at_x 591 rfl rfl⟩
abbrev mX1_manyAhead : XY := (yX1_manyAhead, cX1_manyAhead, 5, some .int)
set_option maxRecDepth 100000 in
theorem mdX1_manyAhead : MD mX1_manyAhead 2 := ⟨at_x 670 rfl rfl, at_x 70 rfl rfl, ⟨nhX1.1, nhX1.2, by decide +kernel⟩, by decide⟩
set_option maxRecDepth 100000 in
theorem mvX1_manyAhead : MV mX1_manyAhead := ⟨at_x 668 rfl rfl, at_x 669 rfl rfl⟩
abbrev mX1_isSeenSo : XY := (yX1_isSeenSo, cX1_isSeenSo, 3, some .boolean)
set_option maxRecDepth 100000 in
theorem mdX1_isSeenSo : MD mX1_isSeenSo 1 := ⟨at_x 728 rfl rfl, at_x 70 rfl rfl, ⟨nhX1.1, nhX1.2, by decide +kernel⟩, by decide⟩
set_option maxRecDepth 100000 in
theorem mvX1_isSeenSo : MV mX1_isSeenSo := ⟨at_x 726 rfl rfl, at_x 727 rfl rfl⟩
abbrev mX1_suffer : XY := (yX1_suffer, cX1_suffer, 3, none)
set_option maxRecDepth 100000 in
theorem mdX1_suffer : MD mX1_suffer 2 := ⟨at_x 740 rfl rfl, at_x 70 rfl rfl, ⟨nhX1.1, nhX1.2, by decide +kernel⟩, by decide⟩
set_option maxRecDepth 100000 in
theorem mvX1_suffer : MV mX1_suffer := ⟨at_x 738 rfl rfl, at_x 739 rfl rfl⟩
abbrev mX1_emptyLedBy : XY := (yX1_emptyLedBy, cX1_emptyLedBy, 3, none)
set_option maxRecDepth 100000 in
theorem mdX1_emptyLedBy : MD mX1_emptyLedBy 1 := ⟨at_x 745 rfl rfl, at_x 70 rfl rfl, ⟨nhX1.1, nhX1.2, by decide +kernel⟩, by decide⟩
set_option maxRecDepth 100000 in
theorem mvX1_emptyLedBy : MV mX1_emptyLedBy := ⟨at_x 744 rfl rfl, at_x 21 rfl rfl⟩
abbrev mX2_isRow : XY := (yX2_isRow, cX2_isRow, 6, some .boolean)
set_option maxRecDepth 100000 in
theorem mdX2_isRow : MD mX2_isRow 2 := ⟨at_x 417 rfl rfl, at_x 78 rfl rfl, ⟨nhX2.1, nhX2.2, by decide +kernel⟩, by decide⟩
set_option maxRecDepth 100000 in
theorem msX2_isRow : Cond.static mX2_isRow.1 ∈ xtbl := at_x 416 rfl rfl
abbrev mX2_filledUp : XY := (yX2_filledUp, cX2_filledUp, 3, some .int)
set_option maxRecDepth 100000 in
theorem mdX2_filledUp : MD mX2_filledUp 1 := ⟨at_x 441 rfl rfl, at_x 78 rfl rfl, ⟨nhX2.1, nhX2.2, by decide +kernel⟩, by decide⟩
set_option maxRecDepth 100000 in
theorem msX2_filledUp : Cond.static mX2_filledUp.1 ∈ xtbl := at_x 440 rfl rfl
abbrev mX2_asTold : XY := (yX2_asTold, cX2_asTold, 3, some .int)
set_option maxRecDepth 100000 in
theorem mdX2_asTold : MD mX2_asTold 1 := ⟨at_x 662 rfl rfl, at_x 78 rfl rfl, ⟨nhX2.1, nhX2.2, by decide +kernel⟩, by decide⟩
set_option maxRecDepth 100000 in
theorem msX2_asTold : Cond.static mX2_asTold.1 ∈ xtbl := at_x 661 rfl rfl
abbrev mX2_at : XY := (yX2_at, cX2_at, 2, some .int)
set_option maxRecDepth 100000 in
theorem mdX2_at : MD mX2_at 2 := ⟨at_x 504 rfl rfl, at_x 78 rfl rfl, ⟨nhX2.1, nhX2.2, by decide +kernel⟩, by decide⟩
set_option maxRecDepth 100000 in
theorem msX2_at : Cond.static mX2_at.1 ∈ xtbl := at_x 503 rfl rfl
abbrev mX2_length : XY := (yX2_length, cX2_length, 3, some .int)
set_option maxRecDepth 100000 in
theorem mdX2_length : MD mX2_length 1 := ⟨at_x 605 rfl rfl, at_x 78 rfl rfl, ⟨nhX2.1, nhX2.2, by decide +kernel⟩, by decide⟩
set_option maxRecDepth 100000 in
theorem msX2_length : Cond.static mX2_length.1 ∈ xtbl := at_x 604 rfl rfl
abbrev mX2_placeOf : XY := (yX2_placeOf, cX2_placeOf, 3, some .int)
set_option maxRecDepth 100000 in
theorem mdX2_placeOf : MD mX2_placeOf 2 := ⟨at_x 673 rfl rfl, at_x 78 rfl rfl, ⟨nhX2.1, nhX2.2, by decide +kernel⟩, by decide⟩
set_option maxRecDepth 100000 in
theorem msX2_placeOf : Cond.static mX2_placeOf.1 ∈ xtbl := at_x 672 rfl rfl
abbrev mX2_leftOf : XY := (yX2_leftOf, cX2_leftOf, 5, some .int)
set_option maxRecDepth 100000 in
theorem mdX2_leftOf : MD mX2_leftOf 2 := ⟨at_x 501 rfl rfl, at_x 78 rfl rfl, ⟨nhX2.1, nhX2.2, by decide +kernel⟩, by decide⟩
set_option maxRecDepth 100000 in
theorem msX2_leftOf : Cond.static mX2_leftOf.1 ∈ xtbl := at_x 500 rfl rfl
abbrev mX2_ledBy : XY := (yX2_ledBy, cX2_ledBy, 5, some .int)
set_option maxRecDepth 100000 in
theorem mdX2_ledBy : MD mX2_ledBy 2 := ⟨at_x 708 rfl rfl, at_x 78 rfl rfl, ⟨nhX2.1, nhX2.2, by decide +kernel⟩, by decide⟩
set_option maxRecDepth 100000 in
theorem msX2_ledBy : Cond.static mX2_ledBy.1 ∈ xtbl := at_x 707 rfl rfl
abbrev mX3_init : XY := (yX3_init, cX3_init, 1, none)
abbrev mX4_init : XY := (yX4_init, cX4_init, 3, none)
abbrev mX4_stageAt : XY := (yX4_stageAt, cX4_stageAt, 2, some (.object "KeepCount$Stage"))
set_option maxRecDepth 100000 in
theorem mdX4_stageAt : MD mX4_stageAt 1 := ⟨at_x 624 rfl rfl, at_x 71 rfl rfl, ⟨nhX4.1, nhX4.2, by decide +kernel⟩, by decide⟩
set_option maxRecDepth 100000 in
theorem mvX4_stageAt : MV mX4_stageAt := ⟨at_x 622 rfl rfl, at_x 623 rfl rfl⟩
abbrev mX4_work : XY := (yX4_work, cX4_work, 4, none)
set_option maxRecDepth 100000 in
theorem mdX4_work : MD mX4_work 0 := ⟨at_x 494 rfl rfl, at_x 71 rfl rfl, ⟨nhX4.1, nhX4.2, by decide +kernel⟩, by decide⟩
set_option maxRecDepth 100000 in
theorem mvX4_work : MV mX4_work := ⟨at_x 492 rfl rfl, at_x 493 rfl rfl⟩
abbrev mX4_begin : XY := (yX4_begin, cX4_begin, 3, none)
set_option maxRecDepth 100000 in
theorem mdX4_begin : MD mX4_begin 0 := ⟨at_x 513 rfl rfl, at_x 71 rfl rfl, ⟨nhX4.1, nhX4.2, by decide +kernel⟩, by decide⟩
set_option maxRecDepth 100000 in
theorem mvX4_begin : MV mX4_begin := ⟨at_x 512 rfl rfl, at_x 6 rfl rfl⟩
abbrev mX4_fill : XY := (yX4_fill, cX4_fill, 2, none)
set_option maxRecDepth 100000 in
theorem mdX4_fill : MD mX4_fill 1 := ⟨at_x 518 rfl rfl, at_x 71 rfl rfl, ⟨nhX4.1, nhX4.2, by decide +kernel⟩, by decide⟩
set_option maxRecDepth 100000 in
theorem mvX4_fill : MV mX4_fill := ⟨at_x 517 rfl rfl, at_x 7 rfl rfl⟩
abbrev mX4_goByRounds : XY := (yX4_goByRounds, cX4_goByRounds, 6, none)
set_option maxRecDepth 100000 in
theorem mdX4_goByRounds : MD mX4_goByRounds 2 := ⟨at_x 553 rfl rfl, at_x 71 rfl rfl, ⟨nhX4.1, nhX4.2, by decide +kernel⟩, by decide⟩
set_option maxRecDepth 100000 in
theorem mvX4_goByRounds : MV mX4_goByRounds := ⟨at_x 552 rfl rfl, at_x 12 rfl rfl⟩
abbrev mX4_turnKeeps : XY := (yX4_turnKeeps, cX4_turnKeeps, 4, none)
set_option maxRecDepth 100000 in
theorem mdX4_turnKeeps : MD mX4_turnKeeps 0 := ⟨at_x 557 rfl rfl, at_x 71 rfl rfl, ⟨nhX4.1, nhX4.2, by decide +kernel⟩, by decide⟩
set_option maxRecDepth 100000 in
theorem mvX4_turnKeeps : MV mX4_turnKeeps := ⟨at_x 556 rfl rfl, at_x 13 rfl rfl⟩
abbrev mX4_workOut : XY := (yX4_workOut, cX4_workOut, 2, none)
set_option maxRecDepth 100000 in
theorem mdX4_workOut : MD mX4_workOut 0 := ⟨at_x 522 rfl rfl, at_x 71 rfl rfl, ⟨nhX4.1, nhX4.2, by decide +kernel⟩, by decide⟩
set_option maxRecDepth 100000 in
theorem mvX4_workOut : MV mX4_workOut := ⟨at_x 521 rfl rfl, at_x 8 rfl rfl⟩
abbrev mX4_passOn : XY := (yX4_passOn, cX4_passOn, 10, some .long)
set_option maxRecDepth 100000 in
theorem mdX4_passOn : MD mX4_passOn 2 := ⟨at_x 529 rfl rfl, at_x 71 rfl rfl, ⟨nhX4.1, nhX4.2, by decide +kernel⟩, by decide⟩
set_option maxRecDepth 100000 in
theorem mvX4_passOn : MV mX4_passOn := ⟨at_x 528 rfl rfl, at_x 9 rfl rfl⟩
abbrev mX4_surplus : XY := (yX4_surplus, cX4_surplus, 4, some .long)
set_option maxRecDepth 100000 in
theorem mdX4_surplus : MD mX4_surplus 0 := ⟨at_x 564 rfl rfl, at_x 71 rfl rfl, ⟨nhX4.1, nhX4.2, by decide +kernel⟩, by decide⟩
set_option maxRecDepth 100000 in
theorem mvX4_surplus : MV mX4_surplus := ⟨at_x 563 rfl rfl, at_x 14 rfl rfl⟩
abbrev mX4_note : XY := (yX4_note, cX4_note, 6, none)
set_option maxRecDepth 100000 in
theorem mdX4_note : MD mX4_note 3 := ⟨at_x 537 rfl rfl, at_x 71 rfl rfl, ⟨nhX4.1, nhX4.2, by decide +kernel⟩, by decide⟩
set_option maxRecDepth 100000 in
theorem mvX4_note : MV mX4_note := ⟨at_x 536 rfl rfl, at_x 10 rfl rfl⟩
abbrev mX4_whoReachesQuota : XY := (yX4_whoReachesQuota, cX4_whoReachesQuota, 3, some .int)
set_option maxRecDepth 100000 in
theorem mdX4_whoReachesQuota : MD mX4_whoReachesQuota 0 := ⟨at_x 571 rfl rfl, at_x 71 rfl rfl, ⟨nhX4.1, nhX4.2, by decide +kernel⟩, by decide⟩
set_option maxRecDepth 100000 in
theorem mvX4_whoReachesQuota : MV mX4_whoReachesQuota := ⟨at_x 570 rfl rfl, at_x 15 rfl rfl⟩
abbrev mX4_elect : XY := (yX4_elect, cX4_elect, 5, none)
set_option maxRecDepth 100000 in
theorem mdX4_elect : MD mX4_elect 2 := ⟨at_x 545 rfl rfl, at_x 71 rfl rfl, ⟨nhX4.1, nhX4.2, by decide +kernel⟩, by decide⟩
set_option maxRecDepth 100000 in
theorem mvX4_elect : MV mX4_elect := ⟨at_x 544 rfl rfl, at_x 11 rfl rfl⟩
abbrev mX4_exclude : XY := (yX4_exclude, cX4_exclude, 4, none)
set_option maxRecDepth 100000 in
theorem mdX4_exclude : MD mX4_exclude 1 := ⟨at_x 575 rfl rfl, at_x 71 rfl rfl, ⟨nhX4.1, nhX4.2, by decide +kernel⟩, by decide⟩
set_option maxRecDepth 100000 in
theorem mvX4_exclude : MV mX4_exclude := ⟨at_x 574 rfl rfl, at_x 16 rfl rfl⟩
abbrev mX4_whoHasFewest : XY := (yX4_whoHasFewest, cX4_whoHasFewest, 7, some .int)
set_option maxRecDepth 100000 in
theorem mdX4_whoHasFewest : MD mX4_whoHasFewest 2 := ⟨at_x 579 rfl rfl, at_x 71 rfl rfl, ⟨nhX4.1, nhX4.2, by decide +kernel⟩, by decide⟩
set_option maxRecDepth 100000 in
theorem mvX4_whoHasFewest : MV mX4_whoHasFewest := ⟨at_x 578 rfl rfl, at_x 17 rfl rfl⟩
abbrev mX4_lastInLot : XY := (yX4_lastInLot, cX4_lastInLot, 3, some .int)
set_option maxRecDepth 100000 in
theorem mdX4_lastInLot : MD mX4_lastInLot 1 := ⟨at_x 584 rfl rfl, at_x 71 rfl rfl, ⟨nhX4.1, nhX4.2, by decide +kernel⟩, by decide⟩
set_option maxRecDepth 100000 in
theorem mvX4_lastInLot : MV mX4_lastInLot := ⟨at_x 583 rfl rfl, at_x 18 rfl rfl⟩
abbrev mX4_whoIs : XY := (yX4_whoIs, cX4_whoIs, 4, some .int)
set_option maxRecDepth 100000 in
theorem mdX4_whoIs : MD mX4_whoIs 1 := ⟨at_x 541 rfl rfl, at_x 71 rfl rfl, ⟨nhX4.1, nhX4.2, by decide +kernel⟩, by decide⟩
set_option maxRecDepth 100000 in
theorem mvX4_whoIs : MV mX4_whoIs := ⟨at_x 539 rfl rfl, at_x 540 rfl rfl⟩
abbrev mX4_whoIsHere : XY := (yX4_whoIsHere, cX4_whoIsHere, 1, some .int)
set_option maxRecDepth 100000 in
theorem mdX4_whoIsHere : MD mX4_whoIsHere 0 := ⟨at_x 654 rfl rfl, at_x 71 rfl rfl, ⟨nhX4.1, nhX4.2, by decide +kernel⟩, by decide⟩
set_option maxRecDepth 100000 in
theorem mvX4_whoIsHere : MV mX4_whoIsHere := ⟨at_x 652 rfl rfl, at_x 653 rfl rfl⟩
abbrev mX4_leader : XY := (yX4_leader, cX4_leader, 9, some .int)
set_option maxRecDepth 100000 in
theorem mdX4_leader : MD mX4_leader 3 := ⟨at_x 549 rfl rfl, at_x 71 rfl rfl, ⟨nhX4.1, nhX4.2, by decide +kernel⟩, by decide⟩
set_option maxRecDepth 100000 in
theorem mvX4_leader : MV mX4_leader := ⟨at_x 547 rfl rfl, at_x 548 rfl rfl⟩
abbrev mX4_rankAt : XY := (yX4_rankAt, cX4_rankAt, 5, some .int)
set_option maxRecDepth 100000 in
theorem mdX4_rankAt : MD mX4_rankAt 1 := ⟨at_x 645 rfl rfl, at_x 71 rfl rfl, ⟨nhX4.1, nhX4.2, by decide +kernel⟩, by decide⟩
set_option maxRecDepth 100000 in
theorem mvX4_rankAt : MV mX4_rankAt := ⟨at_x 643 rfl rfl, at_x 644 rfl rfl⟩
abbrev mX5_init : XY := (yX5_init, cX5_init, 1, none)
abbrev mX5_become : XY := (yX5_become, cX5_become, 3, none)
set_option maxRecDepth 100000 in
theorem mdX5_become : MD mX5_become 2 := ⟨at_x 815 rfl rfl, at_x 76 rfl rfl, ⟨nhX5.1, nhX5.2, by decide +kernel⟩, by decide⟩
set_option maxRecDepth 100000 in
theorem mvX5_become : MV mX5_become := ⟨at_x 813 rfl rfl, at_x 814 rfl rfl⟩
abbrev mX5_fitted : XY := (yX5_fitted, cX5_fitted, 3, some .long)
set_option maxRecDepth 100000 in
theorem mdX5_fitted : MD mX5_fitted 1 := ⟨at_x 824 rfl rfl, at_x 76 rfl rfl, ⟨nhX5.1, nhX5.2, by decide +kernel⟩, by decide⟩
set_option maxRecDepth 100000 in
theorem mvX5_fitted : MV mX5_fitted := ⟨at_x 822 rfl rfl, at_x 823 rfl rfl⟩
abbrev mX5_hasRoom : XY := (yX5_hasRoom, cX5_hasRoom, 3, some .boolean)
set_option maxRecDepth 100000 in
theorem mdX5_hasRoom : MD mX5_hasRoom 2 := ⟨at_x 836 rfl rfl, at_x 76 rfl rfl, ⟨nhX5.1, nhX5.2, by decide +kernel⟩, by decide⟩
set_option maxRecDepth 100000 in
theorem mvX5_hasRoom : MV mX5_hasRoom := ⟨at_x 834 rfl rfl, at_x 835 rfl rfl⟩
abbrev mX6_init : XY := (yX6_init, cX6_init, 1, none)
abbrev mX6_sign : XY := (yX6_sign, cX6_sign, 1, some .int)
set_option maxRecDepth 100000 in
theorem mdX6_sign : MD mX6_sign 0 := ⟨at_x 765 rfl rfl, at_x 74 rfl rfl, ⟨nhX6.1, nhX6.2, by decide +kernel⟩, by decide⟩
set_option maxRecDepth 100000 in
theorem mvX6_sign : MV mX6_sign := ⟨at_x 764 rfl rfl, at_x 23 rfl rfl⟩
abbrev mX6_faultToldTo : XY := (yX6_faultToldTo, cX6_faultToldTo, 4, some .int)
set_option maxRecDepth 100000 in
theorem mdX6_faultToldTo : MD mX6_faultToldTo 1 := ⟨at_x 757 rfl rfl, at_x 74 rfl rfl, ⟨nhX6.1, nhX6.2, by decide +kernel⟩, by decide⟩
set_option maxRecDepth 100000 in
theorem mvX6_faultToldTo : MV mX6_faultToldTo := ⟨at_x 755 rfl rfl, at_x 756 rfl rfl⟩
abbrev mX6_readsClause : XY := (yX6_readsClause, cX6_readsClause, 2, some .boolean)
set_option maxRecDepth 100000 in
theorem mdX6_readsClause : MD mX6_readsClause 1 := ⟨at_x 761 rfl rfl, at_x 74 rfl rfl, ⟨nhX6.1, nhX6.2, by decide +kernel⟩, by decide⟩
set_option maxRecDepth 100000 in
theorem mvX6_readsClause : MV mX6_readsClause := ⟨at_x 760 rfl rfl, at_x 22 rfl rfl⟩
abbrev mX6_readsBallot : XY := (yX6_readsBallot, cX6_readsBallot, 2, some .boolean)
set_option maxRecDepth 100000 in
theorem mdX6_readsBallot : MD mX6_readsBallot 1 := ⟨at_x 769 rfl rfl, at_x 74 rfl rfl, ⟨nhX6.1, nhX6.2, by decide +kernel⟩, by decide⟩
set_option maxRecDepth 100000 in
theorem mvX6_readsBallot : MV mX6_readsBallot := ⟨at_x 768 rfl rfl, at_x 24 rfl rfl⟩
abbrev mX6_number : XY := (yX6_number, cX6_number, 4, some .int)
set_option maxRecDepth 100000 in
theorem mdX6_number : MD mX6_number 1 := ⟨at_x 773 rfl rfl, at_x 74 rfl rfl, ⟨nhX6.1, nhX6.2, by decide +kernel⟩, by decide⟩
set_option maxRecDepth 100000 in
theorem mvX6_number : MV mX6_number := ⟨at_x 772 rfl rfl, at_x 25 rfl rfl⟩
abbrev mX7_init : XY := (yX7_init, cX7_init, 1, none)
abbrev mX7_begin : XY := (yX7_begin, cX7_begin, 3, none)
set_option maxRecDepth 100000 in
theorem mdX7_begin : MD mX7_begin 2 := ⟨at_x 433 rfl rfl, at_x 75 rfl rfl, ⟨nhX7.1, nhX7.2, by decide +kernel⟩, by decide⟩
set_option maxRecDepth 100000 in
theorem mvX7_begin : MV mX7_begin := ⟨at_x 431 rfl rfl, at_x 432 rfl rfl⟩
abbrev mX7_addCause : XY := (yX7_addCause, cX7_addCause, 3, none)
set_option maxRecDepth 100000 in
theorem mdX7_addCause : MD mX7_addCause 2 := ⟨at_x 437 rfl rfl, at_x 75 rfl rfl, ⟨nhX7.1, nhX7.2, by decide +kernel⟩, by decide⟩
set_option maxRecDepth 100000 in
theorem mvX7_addCause : MV mX7_addCause := ⟨at_x 435 rfl rfl, at_x 436 rfl rfl⟩
abbrev mX8_init : XY := (yX8_init, cX8_init, 2, none)
abbrev mX8_candidate : XY := (yX8_candidate, cX8_candidate, 2, some .int)
set_option maxRecDepth 100000 in
theorem mdX8_candidate : MD mX8_candidate 0 := ⟨at_x 410 rfl rfl, at_x 69 rfl rfl, ⟨nhX8.1, nhX8.2, by decide +kernel⟩, by decide⟩
set_option maxRecDepth 100000 in
theorem mvX8_candidate : MV mX8_candidate := ⟨at_x 408 rfl rfl, at_x 409 rfl rfl⟩
abbrev mX8_ballot : XY := (yX8_ballot, cX8_ballot, 4, some .int)
set_option maxRecDepth 100000 in
theorem mdX8_ballot : MD mX8_ballot 2 := ⟨at_x 414 rfl rfl, at_x 69 rfl rfl, ⟨nhX8.1, nhX8.2, by decide +kernel⟩, by decide⟩
set_option maxRecDepth 100000 in
theorem mvX8_ballot : MV mX8_ballot := ⟨at_x 412 rfl rfl, at_x 413 rfl rfl⟩
abbrev mX8_many : XY := (yX8_many, cX8_many, 4, some .int)
set_option maxRecDepth 100000 in
theorem mdX8_many : MD mX8_many 2 := ⟨at_x 445 rfl rfl, at_x 69 rfl rfl, ⟨nhX8.1, nhX8.2, by decide +kernel⟩, by decide⟩
set_option maxRecDepth 100000 in
theorem mvX8_many : MV mX8_many := ⟨at_x 443 rfl rfl, at_x 444 rfl rfl⟩
abbrev mX8_drop : XY := (yX8_drop, cX8_drop, 1, some .int)
set_option maxRecDepth 100000 in
theorem mdX8_drop : MD mX8_drop 0 := ⟨at_x 453 rfl rfl, at_x 69 rfl rfl, ⟨nhX8.1, nhX8.2, by decide +kernel⟩, by decide⟩
set_option maxRecDepth 100000 in
theorem mvX8_drop : MV mX8_drop := ⟨at_x 451 rfl rfl, at_x 452 rfl rfl⟩
abbrev mX8_gone : XY := (yX8_gone, cX8_gone, 4, some .int)
set_option maxRecDepth 100000 in
theorem mdX8_gone : MD mX8_gone 2 := ⟨at_x 457 rfl rfl, at_x 69 rfl rfl, ⟨nhX8.1, nhX8.2, by decide +kernel⟩, by decide⟩
set_option maxRecDepth 100000 in
theorem mvX8_gone : MV mX8_gone := ⟨at_x 455 rfl rfl, at_x 456 rfl rfl⟩
abbrev mX8_set : XY := (yX8_set, cX8_set, 3, some .int)
set_option maxRecDepth 100000 in
theorem mdX8_set : MD mX8_set 2 := ⟨at_x 465 rfl rfl, at_x 69 rfl rfl, ⟨nhX8.1, nhX8.2, by decide +kernel⟩, by decide⟩
set_option maxRecDepth 100000 in
theorem mvX8_set : MV mX8_set := ⟨at_x 463 rfl rfl, at_x 464 rfl rfl⟩
abbrev mX8_putSeats : XY := (yX8_putSeats, cX8_putSeats, 3, some .int)
set_option maxRecDepth 100000 in
theorem mdX8_putSeats : MD mX8_putSeats 1 := ⟨at_x 469 rfl rfl, at_x 69 rfl rfl, ⟨nhX8.1, nhX8.2, by decide +kernel⟩, by decide⟩
set_option maxRecDepth 100000 in
theorem mvX8_putSeats : MV mX8_putSeats := ⟨at_x 468 rfl rfl, at_x 1 rfl rfl⟩
abbrev mX8_putLimit : XY := (yX8_putLimit, cX8_putLimit, 3, some .int)
set_option maxRecDepth 100000 in
theorem mdX8_putLimit : MD mX8_putLimit 1 := ⟨at_x 474 rfl rfl, at_x 69 rfl rfl, ⟨nhX8.1, nhX8.2, by decide +kernel⟩, by decide⟩
set_option maxRecDepth 100000 in
theorem mvX8_putLimit : MV mX8_putLimit := ⟨at_x 473 rfl rfl, at_x 2 rfl rfl⟩
abbrev mX8_putRounds : XY := (yX8_putRounds, cX8_putRounds, 3, some .int)
set_option maxRecDepth 100000 in
theorem mdX8_putRounds : MD mX8_putRounds 1 := ⟨at_x 478 rfl rfl, at_x 69 rfl rfl, ⟨nhX8.1, nhX8.2, by decide +kernel⟩, by decide⟩
set_option maxRecDepth 100000 in
theorem mvX8_putRounds : MV mX8_putRounds := ⟨at_x 477 rfl rfl, at_x 3 rfl rfl⟩
abbrev mX8_swap : XY := (yX8_swap, cX8_swap, 4, some .int)
set_option maxRecDepth 100000 in
theorem mdX8_swap : MD mX8_swap 2 := ⟨at_x 482 rfl rfl, at_x 69 rfl rfl, ⟨nhX8.1, nhX8.2, by decide +kernel⟩, by decide⟩
set_option maxRecDepth 100000 in
theorem mvX8_swap : MV mX8_swap := ⟨at_x 480 rfl rfl, at_x 481 rfl rfl⟩
abbrev mX8_isOver : XY := (yX8_isOver, cX8_isOver, 7, some .boolean)
set_option maxRecDepth 100000 in
theorem mdX8_isOver : MD mX8_isOver 2 := ⟨at_x 425 rfl rfl, at_x 69 rfl rfl, ⟨nhX8.1, nhX8.2, by decide +kernel⟩, by decide⟩
set_option maxRecDepth 100000 in
theorem mvX8_isOver : MV mX8_isOver := ⟨at_x 424 rfl rfl, at_x 0 rfl rfl⟩
abbrev mX8_tallied : XY := (yX8_tallied, cX8_tallied, 1, some (.object "KeepCount$Tally"))
set_option maxRecDepth 100000 in
theorem mdX8_tallied : MD mX8_tallied 0 := ⟨at_x 490 rfl rfl, at_x 69 rfl rfl, ⟨nhX8.1, nhX8.2, by decide +kernel⟩, by decide⟩
set_option maxRecDepth 100000 in
theorem mvX8_tallied : MV mX8_tallied := ⟨at_x 489 rfl rfl, at_x 4 rfl rfl⟩
abbrev mX8_of : XY := (yX8_of, cX8_of, 3, some .int)
set_option maxRecDepth 100000 in
theorem mdX8_of : MD mX8_of 2 := ⟨at_x 486 rfl rfl, at_x 69 rfl rfl, ⟨nhX8.1, nhX8.2, by decide +kernel⟩, by decide⟩
set_option maxRecDepth 100000 in
theorem mvX8_of : MV mX8_of := ⟨at_x 484 rfl rfl, at_x 485 rfl rfl⟩
abbrev mX8_ballotOf : XY := (yX8_ballotOf, cX8_ballotOf, 3, some .int)
set_option maxRecDepth 100000 in
theorem mdX8_ballotOf : MD mX8_ballotOf 2 := ⟨at_x 602 rfl rfl, at_x 69 rfl rfl, ⟨nhX8.1, nhX8.2, by decide +kernel⟩, by decide⟩
set_option maxRecDepth 100000 in
theorem mvX8_ballotOf : MV mX8_ballotOf := ⟨at_x 600 rfl rfl, at_x 601 rfl rfl⟩
abbrev mX8_rowOf : XY := (yX8_rowOf, cX8_rowOf, 4, some .int)
set_option maxRecDepth 100000 in
theorem mdX8_rowOf : MD mX8_rowOf 2 := ⟨at_x 610 rfl rfl, at_x 69 rfl rfl, ⟨nhX8.1, nhX8.2, by decide +kernel⟩, by decide⟩
set_option maxRecDepth 100000 in
theorem mvX8_rowOf : MV mX8_rowOf := ⟨at_x 608 rfl rfl, at_x 609 rfl rfl⟩
abbrev mX8_told : XY := (yX8_told, cX8_told, 2, some .int)
set_option maxRecDepth 100000 in
theorem mdX8_told : MD mX8_told 1 := ⟨at_x 615 rfl rfl, at_x 69 rfl rfl, ⟨nhX8.1, nhX8.2, by decide +kernel⟩, by decide⟩
set_option maxRecDepth 100000 in
theorem mvX8_told : MV mX8_told := ⟨at_x 613 rfl rfl, at_x 614 rfl rfl⟩
abbrev mX8_stageOf : XY := (yX8_stageOf, cX8_stageOf, 4, some .int)
set_option maxRecDepth 100000 in
theorem mdX8_stageOf : MD mX8_stageOf 2 := ⟨at_x 620 rfl rfl, at_x 69 rfl rfl, ⟨nhX8.1, nhX8.2, by decide +kernel⟩, by decide⟩
set_option maxRecDepth 100000 in
theorem mvX8_stageOf : MV mX8_stageOf := ⟨at_x 618 rfl rfl, at_x 619 rfl rfl⟩
abbrev mX8_amount : XY := (yX8_amount, cX8_amount, 4, some .long)
set_option maxRecDepth 100000 in
theorem mdX8_amount : MD mX8_amount 2 := ⟨at_x 628 rfl rfl, at_x 69 rfl rfl, ⟨nhX8.1, nhX8.2, by decide +kernel⟩, by decide⟩
set_option maxRecDepth 100000 in
theorem mvX8_amount : MV mX8_amount := ⟨at_x 626 rfl rfl, at_x 627 rfl rfl⟩
abbrev mX8_votes : XY := (yX8_votes, cX8_votes, 5, some .long)
set_option maxRecDepth 100000 in
theorem mdX8_votes : MD mX8_votes 3 := ⟨at_x 633 rfl rfl, at_x 69 rfl rfl, ⟨nhX8.1, nhX8.2, by decide +kernel⟩, by decide⟩
set_option maxRecDepth 100000 in
theorem mvX8_votes : MV mX8_votes := ⟨at_x 631 rfl rfl, at_x 632 rfl rfl⟩
abbrev mX8_elected : XY := (yX8_elected, cX8_elected, 3, some .int)
set_option maxRecDepth 100000 in
theorem mdX8_elected : MD mX8_elected 1 := ⟨at_x 637 rfl rfl, at_x 69 rfl rfl, ⟨nhX8.1, nhX8.2, by decide +kernel⟩, by decide⟩
set_option maxRecDepth 100000 in
theorem mvX8_elected : MV mX8_elected := ⟨at_x 635 rfl rfl, at_x 636 rfl rfl⟩
abbrev mX8_ranked : XY := (yX8_ranked, cX8_ranked, 2, some .int)
set_option maxRecDepth 100000 in
theorem mdX8_ranked : MD mX8_ranked 1 := ⟨at_x 641 rfl rfl, at_x 69 rfl rfl, ⟨nhX8.1, nhX8.2, by decide +kernel⟩, by decide⟩
set_option maxRecDepth 100000 in
theorem mvX8_ranked : MV mX8_ranked := ⟨at_x 639 rfl rfl, at_x 640 rfl rfl⟩
abbrev mX8_standing : XY := (yX8_standing, cX8_standing, 5, some .int)
set_option maxRecDepth 100000 in
theorem mdX8_standing : MD mX8_standing 2 := ⟨at_x 650 rfl rfl, at_x 69 rfl rfl, ⟨nhX8.1, nhX8.2, by decide +kernel⟩, by decide⟩
set_option maxRecDepth 100000 in
theorem mvX8_standing : MV mX8_standing := ⟨at_x 648 rfl rfl, at_x 649 rfl rfl⟩
abbrev mX8_pile : XY := (yX8_pile, cX8_pile, 4, some .int)
set_option maxRecDepth 100000 in
theorem mdX8_pile : MD mX8_pile 2 := ⟨at_x 659 rfl rfl, at_x 69 rfl rfl, ⟨nhX8.1, nhX8.2, by decide +kernel⟩, by decide⟩
set_option maxRecDepth 100000 in
theorem mvX8_pile : MV mX8_pile := ⟨at_x 657 rfl rfl, at_x 658 rfl rfl⟩
abbrev mX8_preferred : XY := (yX8_preferred, cX8_preferred, 3, some .int)
set_option maxRecDepth 100000 in
theorem mdX8_preferred : MD mX8_preferred 2 := ⟨at_x 666 rfl rfl, at_x 69 rfl rfl, ⟨nhX8.1, nhX8.2, by decide +kernel⟩, by decide⟩
set_option maxRecDepth 100000 in
theorem mvX8_preferred : MV mX8_preferred := ⟨at_x 664 rfl rfl, at_x 665 rfl rfl⟩
abbrev mX8_best : XY := (yX8_best, cX8_best, 2, some .int)
set_option maxRecDepth 100000 in
theorem mdX8_best : MD mX8_best 0 := ⟨at_x 677 rfl rfl, at_x 69 rfl rfl, ⟨nhX8.1, nhX8.2, by decide +kernel⟩, by decide⟩
set_option maxRecDepth 100000 in
theorem mvX8_best : MV mX8_best := ⟨at_x 675 rfl rfl, at_x 676 rfl rfl⟩
abbrev mX8_beatsAll : XY := (yX8_beatsAll, cX8_beatsAll, 4, some .boolean)
set_option maxRecDepth 100000 in
theorem mdX8_beatsAll : MD mX8_beatsAll 1 := ⟨at_x 681 rfl rfl, at_x 69 rfl rfl, ⟨nhX8.1, nhX8.2, by decide +kernel⟩, by decide⟩
set_option maxRecDepth 100000 in
theorem mvX8_beatsAll : MV mX8_beatsAll := ⟨at_x 680 rfl rfl, at_x 19 rfl rfl⟩
abbrev mX8_share : XY := (yX8_share, cX8_share, 9, some .long)
set_option maxRecDepth 100000 in
theorem mdX8_share : MD mX8_share 3 := ⟨at_x 685 rfl rfl, at_x 69 rfl rfl, ⟨nhX8.1, nhX8.2, by decide +kernel⟩, by decide⟩
set_option maxRecDepth 100000 in
theorem mvX8_share : MV mX8_share := ⟨at_x 683 rfl rfl, at_x 684 rfl rfl⟩
abbrev mX8_commonDivisor : XY := (yX8_commonDivisor, cX8_commonDivisor, 11, some .long)
set_option maxRecDepth 100000 in
theorem mdX8_commonDivisor : MD mX8_commonDivisor 2 := ⟨at_x 688 rfl rfl, at_x 69 rfl rfl, ⟨nhX8.1, nhX8.2, by decide +kernel⟩, by decide⟩
set_option maxRecDepth 100000 in
theorem msX8_commonDivisor : Cond.static mX8_commonDivisor.1 ∈ xtbl := at_x 687 rfl rfl
abbrev mX8_cut : XY := (yX8_cut, cX8_cut, 4, some .long)
set_option maxRecDepth 100000 in
theorem mdX8_cut : MD mX8_cut 2 := ⟨at_x 533 rfl rfl, at_x 69 rfl rfl, ⟨nhX8.1, nhX8.2, by decide +kernel⟩, by decide⟩
set_option maxRecDepth 100000 in
theorem msX8_cut : Cond.static mX8_cut.1 ∈ xtbl := at_x 532 rfl rfl
abbrev mX8_electedInThought : XY := (yX8_electedInThought, cX8_electedInThought, 1, some .int)
set_option maxRecDepth 100000 in
theorem mdX8_electedInThought : MD mX8_electedInThought 0 := ⟨at_x 701 rfl rfl, at_x 69 rfl rfl, ⟨nhX8.1, nhX8.2, by decide +kernel⟩, by decide⟩
set_option maxRecDepth 100000 in
theorem mvX8_electedInThought : MV mX8_electedInThought := ⟨at_x 700 rfl rfl, at_x 20 rfl rfl⟩
abbrev mX8_without : XY := (yX8_without, cX8_without, 2, some .int)
set_option maxRecDepth 100000 in
theorem mdX8_without : MD mX8_without 1 := ⟨at_x 693 rfl rfl, at_x 69 rfl rfl, ⟨nhX8.1, nhX8.2, by decide +kernel⟩, by decide⟩
set_option maxRecDepth 100000 in
theorem mvX8_without : MV mX8_without := ⟨at_x 691 rfl rfl, at_x 692 rfl rfl⟩
abbrev mX8_raised : XY := (yX8_raised, cX8_raised, 3, some .int)
set_option maxRecDepth 100000 in
theorem mdX8_raised : MD mX8_raised 2 := ⟨at_x 705 rfl rfl, at_x 69 rfl rfl, ⟨nhX8.1, nhX8.2, by decide +kernel⟩, by decide⟩
set_option maxRecDepth 100000 in
theorem mvX8_raised : MV mX8_raised := ⟨at_x 703 rfl rfl, at_x 704 rfl rfl⟩
abbrev mX8_needs : XY := (yX8_needs, cX8_needs, 7, some .int)
set_option maxRecDepth 100000 in
theorem mdX8_needs : MD mX8_needs 2 := ⟨at_x 712 rfl rfl, at_x 69 rfl rfl, ⟨nhX8.1, nhX8.2, by decide +kernel⟩, by decide⟩
set_option maxRecDepth 100000 in
theorem mvX8_needs : MV mX8_needs := ⟨at_x 710 rfl rfl, at_x 711 rfl rfl⟩
abbrev mX8_see : XY := (yX8_see, cX8_see, 3, some .int)
set_option maxRecDepth 100000 in
theorem mdX8_see : MD mX8_see 2 := ⟨at_x 720 rfl rfl, at_x 69 rfl rfl, ⟨nhX8.1, nhX8.2, by decide +kernel⟩, by decide⟩
set_option maxRecDepth 100000 in
theorem mvX8_see : MV mX8_see := ⟨at_x 718 rfl rfl, at_x 719 rfl rfl⟩
abbrev mX8_fits : XY := (yX8_fits, cX8_fits, 5, some .int)
set_option maxRecDepth 100000 in
theorem mdX8_fits : MD mX8_fits 1 := ⟨at_x 724 rfl rfl, at_x 69 rfl rfl, ⟨nhX8.1, nhX8.2, by decide +kernel⟩, by decide⟩
set_option maxRecDepth 100000 in
theorem mvX8_fits : MV mX8_fits := ⟨at_x 722 rfl rfl, at_x 723 rfl rfl⟩
abbrev mX8_event : XY := (yX8_event, cX8_event, 3, some .int)
set_option maxRecDepth 100000 in
theorem mdX8_event : MD mX8_event 2 := ⟨at_x 732 rfl rfl, at_x 69 rfl rfl, ⟨nhX8.1, nhX8.2, by decide +kernel⟩, by decide⟩
set_option maxRecDepth 100000 in
theorem mvX8_event : MV mX8_event := ⟨at_x 730 rfl rfl, at_x 731 rfl rfl⟩
abbrev mX8_after : XY := (yX8_after, cX8_after, 2, some .int)
set_option maxRecDepth 100000 in
theorem mdX8_after : MD mX8_after 0 := ⟨at_x 736 rfl rfl, at_x 69 rfl rfl, ⟨nhX8.1, nhX8.2, by decide +kernel⟩, by decide⟩
set_option maxRecDepth 100000 in
theorem mvX8_after : MV mX8_after := ⟨at_x 734 rfl rfl, at_x 735 rfl rfl⟩
abbrev mX8_feed : XY := (yX8_feed, cX8_feed, 2, some .int)
set_option maxRecDepth 100000 in
theorem mdX8_feed : MD mX8_feed 1 := ⟨at_x 749 rfl rfl, at_x 69 rfl rfl, ⟨nhX8.1, nhX8.2, by decide +kernel⟩, by decide⟩
set_option maxRecDepth 100000 in
theorem mvX8_feed : MV mX8_feed := ⟨at_x 747 rfl rfl, at_x 748 rfl rfl⟩
abbrev mX8_read : XY := (yX8_read, cX8_read, 4, some .int)
set_option maxRecDepth 100000 in
theorem mdX8_read : MD mX8_read 0 := ⟨at_x 753 rfl rfl, at_x 69 rfl rfl, ⟨nhX8.1, nhX8.2, by decide +kernel⟩, by decide⟩
set_option maxRecDepth 100000 in
theorem mvX8_read : MV mX8_read := ⟨at_x 751 rfl rfl, at_x 752 rfl rfl⟩
abbrev mX8_isDone : XY := (yX8_isDone, cX8_isDone, 4, some .boolean)
set_option maxRecDepth 100000 in
theorem mdX8_isDone : MD mX8_isDone 3 := ⟨at_x 779 rfl rfl, at_x 69 rfl rfl, ⟨nhX8.1, nhX8.2, by decide +kernel⟩, by decide⟩
set_option maxRecDepth 100000 in
theorem mvX8_isDone : MV mX8_isDone := ⟨at_x 778 rfl rfl, at_x 26 rfl rfl⟩
abbrev mX8_cause : XY := (yX8_cause, cX8_cause, 3, some .int)
set_option maxRecDepth 100000 in
theorem mdX8_cause : MD mX8_cause 2 := ⟨at_x 787 rfl rfl, at_x 69 rfl rfl, ⟨nhX8.1, nhX8.2, by decide +kernel⟩, by decide⟩
set_option maxRecDepth 100000 in
theorem mvX8_cause : MV mX8_cause := ⟨at_x 785 rfl rfl, at_x 786 rfl rfl⟩
abbrev mX8_tapeAt : XY := (yX8_tapeAt, cX8_tapeAt, 2, some (.object "KeepCount$Tape"))
set_option maxRecDepth 100000 in
theorem mdX8_tapeAt : MD mX8_tapeAt 1 := ⟨at_x 795 rfl rfl, at_x 69 rfl rfl, ⟨nhX8.1, nhX8.2, by decide +kernel⟩, by decide⟩
set_option maxRecDepth 100000 in
theorem mvX8_tapeAt : MV mX8_tapeAt := ⟨at_x 794 rfl rfl, at_x 27 rfl rfl⟩
abbrev mX8_judge : XY := (yX8_judge, cX8_judge, 7, some .int)
set_option maxRecDepth 100000 in
theorem mdX8_judge : MD mX8_judge 3 := ⟨at_x 791 rfl rfl, at_x 69 rfl rfl, ⟨nhX8.1, nhX8.2, by decide +kernel⟩, by decide⟩
set_option maxRecDepth 100000 in
theorem mvX8_judge : MV mX8_judge := ⟨at_x 789 rfl rfl, at_x 790 rfl rfl⟩
abbrev mX8_image : XY := (yX8_image, cX8_image, 1, some .int)
set_option maxRecDepth 100000 in
theorem mdX8_image : MD mX8_image 0 := ⟨at_x 799 rfl rfl, at_x 69 rfl rfl, ⟨nhX8.1, nhX8.2, by decide +kernel⟩, by decide⟩
set_option maxRecDepth 100000 in
theorem mvX8_image : MV mX8_image := ⟨at_x 797 rfl rfl, at_x 798 rfl rfl⟩
abbrev mX8_undo : XY := (yX8_undo, cX8_undo, 1, some .int)
set_option maxRecDepth 100000 in
theorem mdX8_undo : MD mX8_undo 0 := ⟨at_x 803 rfl rfl, at_x 69 rfl rfl, ⟨nhX8.1, nhX8.2, by decide +kernel⟩, by decide⟩
set_option maxRecDepth 100000 in
theorem mvX8_undo : MV mX8_undo := ⟨at_x 801 rfl rfl, at_x 802 rfl rfl⟩
abbrev mX8_count : XY := (yX8_count, cX8_count, 2, some .int)
set_option maxRecDepth 100000 in
theorem mdX8_count : MD mX8_count 1 := ⟨at_x 807 rfl rfl, at_x 69 rfl rfl, ⟨nhX8.1, nhX8.2, by decide +kernel⟩, by decide⟩
set_option maxRecDepth 100000 in
theorem mvX8_count : MV mX8_count := ⟨at_x 805 rfl rfl, at_x 806 rfl rfl⟩
abbrev mX8_tape : XY := (yX8_tape, cX8_tape, 5, some .int)
set_option maxRecDepth 100000 in
theorem mdX8_tape : MD mX8_tape 3 := ⟨at_x 811 rfl rfl, at_x 69 rfl rfl, ⟨nhX8.1, nhX8.2, by decide +kernel⟩, by decide⟩
set_option maxRecDepth 100000 in
theorem mvX8_tape : MV mX8_tape := ⟨at_x 809 rfl rfl, at_x 810 rfl rfl⟩
abbrev mX8_item : XY := (yX8_item, cX8_item, 6, some .int)
set_option maxRecDepth 100000 in
theorem mdX8_item : MD mX8_item 3 := ⟨at_x 820 rfl rfl, at_x 69 rfl rfl, ⟨nhX8.1, nhX8.2, by decide +kernel⟩, by decide⟩
set_option maxRecDepth 100000 in
theorem mvX8_item : MV mX8_item := ⟨at_x 818 rfl rfl, at_x 819 rfl rfl⟩
abbrev mX8_peek : XY := (yX8_peek, cX8_peek, 4, some .long)
set_option maxRecDepth 100000 in
theorem mdX8_peek : MD mX8_peek 2 := ⟨at_x 828 rfl rfl, at_x 69 rfl rfl, ⟨nhX8.1, nhX8.2, by decide +kernel⟩, by decide⟩
set_option maxRecDepth 100000 in
theorem mvX8_peek : MV mX8_peek := ⟨at_x 826 rfl rfl, at_x 827 rfl rfl⟩
abbrev mX8_shift : XY := (yX8_shift, cX8_shift, 8, some .int)
set_option maxRecDepth 100000 in
theorem mdX8_shift : MD mX8_shift 5 := ⟨at_x 832 rfl rfl, at_x 69 rfl rfl, ⟨nhX8.1, nhX8.2, by decide +kernel⟩, by decide⟩
set_option maxRecDepth 100000 in
theorem mvX8_shift : MV mX8_shift := ⟨at_x 830 rfl rfl, at_x 831 rfl rfl⟩
abbrev mX9_init : XY := (yX9_init, cX9_init, 1, none)
abbrev mX9_in : XY := (yX9_in, cX9_in, 6, some .boolean)
set_option maxRecDepth 100000 in
theorem mdX9_in : MD mX9_in 3 := ⟨at_x 1071 rfl rfl, at_x 77 rfl rfl, ⟨nhX9.1, nhX9.2, by decide +kernel⟩, by decide⟩
set_option maxRecDepth 100000 in
theorem msX9_in : Cond.static mX9_in.1 ∈ xtbl := at_x 1070 rfl rfl
abbrev mX9_isOne : XY := (yX9_isOne, cX9_isOne, 2, some .boolean)
set_option maxRecDepth 100000 in
theorem mdX9_isOne : MD mX9_isOne 1 := ⟨at_x 1104 rfl rfl, at_x 77 rfl rfl, ⟨nhX9.1, nhX9.2, by decide +kernel⟩, by decide⟩
set_option maxRecDepth 100000 in
theorem mvX9_isOne : MV mX9_isOne := ⟨at_x 1103 rfl rfl, at_x 32 rfl rfl⟩
abbrev mX9_isBallot : XY := (yX9_isBallot, cX9_isBallot, 2, some .boolean)
set_option maxRecDepth 100000 in
theorem mdX9_isBallot : MD mX9_isBallot 1 := ⟨at_x 1092 rfl rfl, at_x 77 rfl rfl, ⟨nhX9.1, nhX9.2, by decide +kernel⟩, by decide⟩
set_option maxRecDepth 100000 in
theorem mvX9_isBallot : MV mX9_isBallot := ⟨at_x 1091 rfl rfl, at_x 31 rfl rfl⟩
abbrev mX9_has : XY := (yX9_has, cX9_has, 2, some .boolean)
set_option maxRecDepth 100000 in
theorem mdX9_has : MD mX9_has 2 := ⟨at_x 1074 rfl rfl, at_x 77 rfl rfl, ⟨nhX9.1, nhX9.2, by decide +kernel⟩, by decide⟩
set_option maxRecDepth 100000 in
theorem msX9_has : Cond.static mX9_has.1 ∈ xtbl := at_x 1073 rfl rfl
abbrev mX9_lengthOf : XY := (yX9_lengthOf, cX9_lengthOf, 3, some .int)
set_option maxRecDepth 100000 in
theorem mdX9_lengthOf : MD mX9_lengthOf 1 := ⟨at_x 1136 rfl rfl, at_x 77 rfl rfl, ⟨nhX9.1, nhX9.2, by decide +kernel⟩, by decide⟩
set_option maxRecDepth 100000 in
theorem msX9_lengthOf : Cond.static mX9_lengthOf.1 ∈ xtbl := at_x 1135 rfl rfl
abbrev mX9_digitAt : XY := (yX9_digitAt, cX9_digitAt, 4, some .int)
set_option maxRecDepth 100000 in
theorem mdX9_digitAt : MD mX9_digitAt 2 := ⟨at_x 1139 rfl rfl, at_x 77 rfl rfl, ⟨nhX9.1, nhX9.2, by decide +kernel⟩, by decide⟩
set_option maxRecDepth 100000 in
theorem msX9_digitAt : Cond.static mX9_digitAt.1 ∈ xtbl := at_x 1138 rfl rfl
abbrev mX9_left : XY := (yX9_left, cX9_left, 5, some .int)
set_option maxRecDepth 100000 in
theorem mdX9_left : MD mX9_left 1 := ⟨at_x 1133 rfl rfl, at_x 77 rfl rfl, ⟨nhX9.1, nhX9.2, by decide +kernel⟩, by decide⟩
set_option maxRecDepth 100000 in
theorem mvX9_left : MV mX9_left := ⟨at_x 1132 rfl rfl, at_x 35 rfl rfl⟩
abbrev mX9_firstOver : XY := (yX9_firstOver, cX9_firstOver, 5, some .int)
set_option maxRecDepth 100000 in
theorem mdX9_firstOver : MD mX9_firstOver 1 := ⟨at_x 1079 rfl rfl, at_x 77 rfl rfl, ⟨nhX9.1, nhX9.2, by decide +kernel⟩, by decide⟩
set_option maxRecDepth 100000 in
theorem mvX9_firstOver : MV mX9_firstOver := ⟨at_x 1078 rfl rfl, at_x 29 rfl rfl⟩
abbrev mX9_over : XY := (yX9_over, cX9_over, 2, some .int)
set_option maxRecDepth 100000 in
theorem mdX9_over : MD mX9_over 1 := ⟨at_x 1084 rfl rfl, at_x 77 rfl rfl, ⟨nhX9.1, nhX9.2, by decide +kernel⟩, by decide⟩
set_option maxRecDepth 100000 in
theorem mvX9_over : MV mX9_over := ⟨at_x 1083 rfl rfl, at_x 30 rfl rfl⟩
abbrev mX9_candidate : XY := (yX9_candidate, cX9_candidate, 1, some .int)
set_option maxRecDepth 100000 in
theorem mdX9_candidate : MD mX9_candidate 0 := ⟨at_x 1059 rfl rfl, at_x 77 rfl rfl, ⟨nhX9.1, nhX9.2, by decide +kernel⟩, by decide⟩
set_option maxRecDepth 100000 in
theorem mvX9_candidate : MV mX9_candidate := ⟨at_x 1057 rfl rfl, at_x 1058 rfl rfl⟩
abbrev mX9_isRow : XY := (yX9_isRow, cX9_isRow, 5, some .boolean)
set_option maxRecDepth 100000 in
theorem mdX9_isRow : MD mX9_isRow 1 := ⟨at_x 1067 rfl rfl, at_x 77 rfl rfl, ⟨nhX9.1, nhX9.2, by decide +kernel⟩, by decide⟩
set_option maxRecDepth 100000 in
theorem mvX9_isRow : MV mX9_isRow := ⟨at_x 1066 rfl rfl, at_x 28 rfl rfl⟩
abbrev mX9_ballot : XY := (yX9_ballot, cX9_ballot, 4, some .int)
set_option maxRecDepth 100000 in
theorem mdX9_ballot : MD mX9_ballot 2 := ⟨at_x 1063 rfl rfl, at_x 77 rfl rfl, ⟨nhX9.1, nhX9.2, by decide +kernel⟩, by decide⟩
set_option maxRecDepth 100000 in
theorem mvX9_ballot : MV mX9_ballot := ⟨at_x 1061 rfl rfl, at_x 1062 rfl rfl⟩
abbrev mX9_many : XY := (yX9_many, cX9_many, 5, some .int)
set_option maxRecDepth 100000 in
theorem mdX9_many : MD mX9_many 2 := ⟨at_x 1088 rfl rfl, at_x 77 rfl rfl, ⟨nhX9.1, nhX9.2, by decide +kernel⟩, by decide⟩
set_option maxRecDepth 100000 in
theorem mvX9_many : MV mX9_many := ⟨at_x 1086 rfl rfl, at_x 1087 rfl rfl⟩
abbrev mX9_drop : XY := (yX9_drop, cX9_drop, 1, some .int)
set_option maxRecDepth 100000 in
theorem mdX9_drop : MD mX9_drop 0 := ⟨at_x 1096 rfl rfl, at_x 77 rfl rfl, ⟨nhX9.1, nhX9.2, by decide +kernel⟩, by decide⟩
set_option maxRecDepth 100000 in
theorem mvX9_drop : MV mX9_drop := ⟨at_x 1094 rfl rfl, at_x 1095 rfl rfl⟩
abbrev mX9_gone : XY := (yX9_gone, cX9_gone, 4, some .int)
set_option maxRecDepth 100000 in
theorem mdX9_gone : MD mX9_gone 2 := ⟨at_x 1100 rfl rfl, at_x 77 rfl rfl, ⟨nhX9.1, nhX9.2, by decide +kernel⟩, by decide⟩
set_option maxRecDepth 100000 in
theorem mvX9_gone : MV mX9_gone := ⟨at_x 1098 rfl rfl, at_x 1099 rfl rfl⟩
abbrev mX9_set : XY := (yX9_set, cX9_set, 4, some .int)
set_option maxRecDepth 100000 in
theorem mdX9_set : MD mX9_set 2 := ⟨at_x 1108 rfl rfl, at_x 77 rfl rfl, ⟨nhX9.1, nhX9.2, by decide +kernel⟩, by decide⟩
set_option maxRecDepth 100000 in
theorem mvX9_set : MV mX9_set := ⟨at_x 1106 rfl rfl, at_x 1107 rfl rfl⟩
abbrev mX9_swap : XY := (yX9_swap, cX9_swap, 4, some .int)
set_option maxRecDepth 100000 in
theorem mdX9_swap : MD mX9_swap 2 := ⟨at_x 1116 rfl rfl, at_x 77 rfl rfl, ⟨nhX9.1, nhX9.2, by decide +kernel⟩, by decide⟩
set_option maxRecDepth 100000 in
theorem mvX9_swap : MV mX9_swap := ⟨at_x 1114 rfl rfl, at_x 1115 rfl rfl⟩
abbrev mX9_lotOf : XY := (yX9_lotOf, cX9_lotOf, 3, some .int)
set_option maxRecDepth 100000 in
theorem mdX9_lotOf : MD mX9_lotOf 1 := ⟨at_x 1179 rfl rfl, at_x 77 rfl rfl, ⟨nhX9.1, nhX9.2, by decide +kernel⟩, by decide⟩
set_option maxRecDepth 100000 in
theorem mvX9_lotOf : MV mX9_lotOf := ⟨at_x 1178 rfl rfl, at_x 44 rfl rfl⟩
abbrev mX9_keyOf : XY := (yX9_keyOf, cX9_keyOf, 3, some .int)
set_option maxRecDepth 100000 in
theorem mdX9_keyOf : MD mX9_keyOf 1 := ⟨at_x 1146 rfl rfl, at_x 77 rfl rfl, ⟨nhX9.1, nhX9.2, by decide +kernel⟩, by decide⟩
set_option maxRecDepth 100000 in
theorem msX9_keyOf : Cond.static mX9_keyOf.1 ∈ xtbl := at_x 1145 rfl rfl
abbrev mX9_comesTo : XY := (yX9_comesTo, cX9_comesTo, 6, none)
set_option maxRecDepth 100000 in
theorem mdX9_comesTo : MD mX9_comesTo 2 := ⟨at_x 1143 rfl rfl, at_x 77 rfl rfl, ⟨nhX9.1, nhX9.2, by decide +kernel⟩, by decide⟩
set_option maxRecDepth 100000 in
theorem mvX9_comesTo : MV mX9_comesTo := ⟨at_x 1142 rfl rfl, at_x 36 rfl rfl⟩
abbrev mX9_tellPiles : XY := (yX9_tellPiles, cX9_tellPiles, 3, none)
set_option maxRecDepth 100000 in
theorem mdX9_tellPiles : MD mX9_tellPiles 0 := ⟨at_x 1129 rfl rfl, at_x 77 rfl rfl, ⟨nhX9.1, nhX9.2, by decide +kernel⟩, by decide⟩
set_option maxRecDepth 100000 in
theorem mvX9_tellPiles : MV mX9_tellPiles := ⟨at_x 1128 rfl rfl, at_x 34 rfl rfl⟩
abbrev mX9_many_ : XY := (yX9_many_, cX9_many_, 4, some .int)
set_option maxRecDepth 100000 in
theorem mdX9_many_ : MD mX9_many_ 1 := ⟨at_x 1151 rfl rfl, at_x 77 rfl rfl, ⟨nhX9.1, nhX9.2, by decide +kernel⟩, by decide⟩
set_option maxRecDepth 100000 in
theorem mvX9_many_ : MV mX9_many_ := ⟨at_x 1150 rfl rfl, at_x 37 rfl rfl⟩
abbrev mX9_tellVotes : XY := (yX9_tellVotes, cX9_tellVotes, 8, none)
set_option maxRecDepth 100000 in
theorem mdX9_tellVotes : MD mX9_tellVotes 0 := ⟨at_x 1159 rfl rfl, at_x 77 rfl rfl, ⟨nhX9.1, nhX9.2, by decide +kernel⟩, by decide⟩
set_option maxRecDepth 100000 in
theorem mvX9_tellVotes : MV mX9_tellVotes := ⟨at_x 1158 rfl rfl, at_x 39 rfl rfl⟩
abbrev mX9_isAhead : XY := (yX9_isAhead, cX9_isAhead, 3, some .boolean)
set_option maxRecDepth 100000 in
theorem mdX9_isAhead : MD mX9_isAhead 2 := ⟨at_x 1175 rfl rfl, at_x 77 rfl rfl, ⟨nhX9.1, nhX9.2, by decide +kernel⟩, by decide⟩
set_option maxRecDepth 100000 in
theorem mvX9_isAhead : MV mX9_isAhead := ⟨at_x 1174 rfl rfl, at_x 43 rfl rfl⟩
abbrev mX9_becomesElected : XY := (yX9_becomesElected, cX9_becomesElected, 2, none)
set_option maxRecDepth 100000 in
theorem mdX9_becomesElected : MD mX9_becomesElected 1 := ⟨at_x 1163 rfl rfl, at_x 77 rfl rfl, ⟨nhX9.1, nhX9.2, by decide +kernel⟩, by decide⟩
set_option maxRecDepth 100000 in
theorem mvX9_becomesElected : MV mX9_becomesElected := ⟨at_x 1162 rfl rfl, at_x 40 rfl rfl⟩
abbrev mX9_lines : XY := (yX9_lines, cX9_lines, 3, none)
set_option maxRecDepth 100000 in
theorem mdX9_lines : MD mX9_lines 0 := ⟨at_x 1171 rfl rfl, at_x 77 rfl rfl, ⟨nhX9.1, nhX9.2, by decide +kernel⟩, by decide⟩
set_option maxRecDepth 100000 in
theorem mvX9_lines : MV mX9_lines := ⟨at_x 1170 rfl rfl, at_x 42 rfl rfl⟩
abbrev mX9_fills : XY := (yX9_fills, cX9_fills, 2, none)
set_option maxRecDepth 100000 in
theorem mdX9_fills : MD mX9_fills 0 := ⟨at_x 1155 rfl rfl, at_x 77 rfl rfl, ⟨nhX9.1, nhX9.2, by decide +kernel⟩, by decide⟩
set_option maxRecDepth 100000 in
theorem mvX9_fills : MV mX9_fills := ⟨at_x 1154 rfl rfl, at_x 38 rfl rfl⟩
abbrev mX9_keepsAnew : XY := (yX9_keepsAnew, cX9_keepsAnew, 4, none)
set_option maxRecDepth 100000 in
theorem mdX9_keepsAnew : MD mX9_keepsAnew 0 := ⟨at_x 1187 rfl rfl, at_x 77 rfl rfl, ⟨nhX9.1, nhX9.2, by decide +kernel⟩, by decide⟩
set_option maxRecDepth 100000 in
theorem mvX9_keepsAnew : MV mX9_keepsAnew := ⟨at_x 1186 rfl rfl, at_x 46 rfl rfl⟩
abbrev mX9_elects : XY := (yX9_elects, cX9_elects, 4, some .boolean)
set_option maxRecDepth 100000 in
theorem mdX9_elects : MD mX9_elects 0 := ⟨at_x 1196 rfl rfl, at_x 77 rfl rfl, ⟨nhX9.1, nhX9.2, by decide +kernel⟩, by decide⟩
set_option maxRecDepth 100000 in
theorem mvX9_elects : MV mX9_elects := ⟨at_x 1195 rfl rfl, at_x 48 rfl rfl⟩
abbrev mX9_tellSurplus : XY := (yX9_tellSurplus, cX9_tellSurplus, 2, none)
set_option maxRecDepth 100000 in
theorem mdX9_tellSurplus : MD mX9_tellSurplus 0 := ⟨at_x 1192 rfl rfl, at_x 77 rfl rfl, ⟨nhX9.1, nhX9.2, by decide +kernel⟩, by decide⟩
set_option maxRecDepth 100000 in
theorem mvX9_tellSurplus : MV mX9_tellSurplus := ⟨at_x 1191 rfl rfl, at_x 47 rfl rfl⟩
abbrev mX9_goesRather : XY := (yX9_goesRather, cX9_goesRather, 8, some .boolean)
set_option maxRecDepth 100000 in
theorem mdX9_goesRather : MD mX9_goesRather 2 := ⟨at_x 1204 rfl rfl, at_x 77 rfl rfl, ⟨nhX9.1, nhX9.2, by decide +kernel⟩, by decide⟩
set_option maxRecDepth 100000 in
theorem mvX9_goesRather : MV mX9_goesRather := ⟨at_x 1203 rfl rfl, at_x 50 rfl rfl⟩
abbrev mX9_worst : XY := (yX9_worst, cX9_worst, 3, some .int)
set_option maxRecDepth 100000 in
theorem mdX9_worst : MD mX9_worst 0 := ⟨at_x 1200 rfl rfl, at_x 77 rfl rfl, ⟨nhX9.1, nhX9.2, by decide +kernel⟩, by decide⟩
set_option maxRecDepth 100000 in
theorem mvX9_worst : MV mX9_worst := ⟨at_x 1199 rfl rfl, at_x 49 rfl rfl⟩
abbrev mX9_endsStage : XY := (yX9_endsStage, cX9_endsStage, 3, none)
set_option maxRecDepth 100000 in
theorem mdX9_endsStage : MD mX9_endsStage 1 := ⟨at_x 1167 rfl rfl, at_x 77 rfl rfl, ⟨nhX9.1, nhX9.2, by decide +kernel⟩, by decide⟩
set_option maxRecDepth 100000 in
theorem mvX9_endsStage : MV mX9_endsStage := ⟨at_x 1166 rfl rfl, at_x 41 rfl rfl⟩
abbrev mX9_goesStage : XY := (yX9_goesStage, cX9_goesStage, 5, none)
set_option maxRecDepth 100000 in
theorem mdX9_goesStage : MD mX9_goesStage 1 := ⟨at_x 1183 rfl rfl, at_x 77 rfl rfl, ⟨nhX9.1, nhX9.2, by decide +kernel⟩, by decide⟩
set_option maxRecDepth 100000 in
theorem mvX9_goesStage : MV mX9_goesStage := ⟨at_x 1182 rfl rfl, at_x 45 rfl rfl⟩
abbrev mX9_counts : XY := (yX9_counts, cX9_counts, 2, none)
set_option maxRecDepth 100000 in
theorem mdX9_counts : MD mX9_counts 0 := ⟨at_x 1125 rfl rfl, at_x 77 rfl rfl, ⟨nhX9.1, nhX9.2, by decide +kernel⟩, by decide⟩
set_option maxRecDepth 100000 in
theorem mvX9_counts : MV mX9_counts := ⟨at_x 1124 rfl rfl, at_x 33 rfl rfl⟩
abbrev mX9_electedSet : XY := (yX9_electedSet, cX9_electedSet, 3, some .int)
set_option maxRecDepth 100000 in
theorem mdX9_electedSet : MD mX9_electedSet 0 := ⟨at_x 1225 rfl rfl, at_x 77 rfl rfl, ⟨nhX9.1, nhX9.2, by decide +kernel⟩, by decide⟩
set_option maxRecDepth 100000 in
theorem mvX9_electedSet : MV mX9_electedSet := ⟨at_x 1224 rfl rfl, at_x 52 rfl rfl⟩
abbrev mX9_firstMany : XY := (yX9_firstMany, cX9_firstMany, 5, some .int)
set_option maxRecDepth 100000 in
theorem mdX9_firstMany : MD mX9_firstMany 1 := ⟨at_x 1208 rfl rfl, at_x 77 rfl rfl, ⟨nhX9.1, nhX9.2, by decide +kernel⟩, by decide⟩
set_option maxRecDepth 100000 in
theorem mvX9_firstMany : MV mX9_firstMany := ⟨at_x 1207 rfl rfl, at_x 51 rfl rfl⟩
abbrev mX9_of : XY := (yX9_of, cX9_of, 3, some .int)
set_option maxRecDepth 100000 in
theorem mdX9_of : MD mX9_of 2 := ⟨at_x 1120 rfl rfl, at_x 77 rfl rfl, ⟨nhX9.1, nhX9.2, by decide +kernel⟩, by decide⟩
set_option maxRecDepth 100000 in
theorem mvX9_of : MV mX9_of := ⟨at_x 1118 rfl rfl, at_x 1119 rfl rfl⟩
abbrev mX9_ballotOf : XY := (yX9_ballotOf, cX9_ballotOf, 4, some .int)
set_option maxRecDepth 100000 in
theorem mdX9_ballotOf : MD mX9_ballotOf 2 := ⟨at_x 1212 rfl rfl, at_x 77 rfl rfl, ⟨nhX9.1, nhX9.2, by decide +kernel⟩, by decide⟩
set_option maxRecDepth 100000 in
theorem mvX9_ballotOf : MV mX9_ballotOf := ⟨at_x 1210 rfl rfl, at_x 1211 rfl rfl⟩
abbrev mX9_rowOf : XY := (yX9_rowOf, cX9_rowOf, 3, some .int)
set_option maxRecDepth 100000 in
theorem mdX9_rowOf : MD mX9_rowOf 2 := ⟨at_x 1216 rfl rfl, at_x 77 rfl rfl, ⟨nhX9.1, nhX9.2, by decide +kernel⟩, by decide⟩
set_option maxRecDepth 100000 in
theorem mvX9_rowOf : MV mX9_rowOf := ⟨at_x 1214 rfl rfl, at_x 1215 rfl rfl⟩
abbrev mX9_told : XY := (yX9_told, cX9_told, 3, some .int)
set_option maxRecDepth 100000 in
theorem mdX9_told : MD mX9_told 1 := ⟨at_x 1220 rfl rfl, at_x 77 rfl rfl, ⟨nhX9.1, nhX9.2, by decide +kernel⟩, by decide⟩
set_option maxRecDepth 100000 in
theorem mvX9_told : MV mX9_told := ⟨at_x 1218 rfl rfl, at_x 1219 rfl rfl⟩
abbrev mX9_isStage : XY := (yX9_isStage, cX9_isStage, 2, some .boolean)
set_option maxRecDepth 100000 in
theorem mdX9_isStage : MD mX9_isStage 1 := ⟨at_x 1233 rfl rfl, at_x 77 rfl rfl, ⟨nhX9.1, nhX9.2, by decide +kernel⟩, by decide⟩
set_option maxRecDepth 100000 in
theorem mvX9_isStage : MV mX9_isStage := ⟨at_x 1232 rfl rfl, at_x 53 rfl rfl⟩
abbrev mX9_stageOf : XY := (yX9_stageOf, cX9_stageOf, 3, some .int)
set_option maxRecDepth 100000 in
theorem mdX9_stageOf : MD mX9_stageOf 2 := ⟨at_x 1229 rfl rfl, at_x 77 rfl rfl, ⟨nhX9.1, nhX9.2, by decide +kernel⟩, by decide⟩
set_option maxRecDepth 100000 in
theorem mvX9_stageOf : MV mX9_stageOf := ⟨at_x 1227 rfl rfl, at_x 1228 rfl rfl⟩
abbrev mX9_amount : XY := (yX9_amount, cX9_amount, 3, some .long)
set_option maxRecDepth 100000 in
theorem mdX9_amount : MD mX9_amount 2 := ⟨at_x 1237 rfl rfl, at_x 77 rfl rfl, ⟨nhX9.1, nhX9.2, by decide +kernel⟩, by decide⟩
set_option maxRecDepth 100000 in
theorem mvX9_amount : MV mX9_amount := ⟨at_x 1235 rfl rfl, at_x 1236 rfl rfl⟩
abbrev mX9_votes : XY := (yX9_votes, cX9_votes, 4, some .long)
set_option maxRecDepth 100000 in
theorem mdX9_votes : MD mX9_votes 3 := ⟨at_x 1242 rfl rfl, at_x 77 rfl rfl, ⟨nhX9.1, nhX9.2, by decide +kernel⟩, by decide⟩
set_option maxRecDepth 100000 in
theorem mvX9_votes : MV mX9_votes := ⟨at_x 1240 rfl rfl, at_x 1241 rfl rfl⟩
abbrev mX9_elected : XY := (yX9_elected, cX9_elected, 2, some .int)
set_option maxRecDepth 100000 in
theorem mdX9_elected : MD mX9_elected 1 := ⟨at_x 1246 rfl rfl, at_x 77 rfl rfl, ⟨nhX9.1, nhX9.2, by decide +kernel⟩, by decide⟩
set_option maxRecDepth 100000 in
theorem mvX9_elected : MV mX9_elected := ⟨at_x 1244 rfl rfl, at_x 1245 rfl rfl⟩
abbrev mX9_ranksBy : XY := (yX9_ranksBy, cX9_ranksBy, 8, some .int)
set_option maxRecDepth 100000 in
theorem mdX9_ranksBy : MD mX9_ranksBy 3 := ⟨at_x 1256 rfl rfl, at_x 77 rfl rfl, ⟨nhX9.1, nhX9.2, by decide +kernel⟩, by decide⟩
set_option maxRecDepth 100000 in
theorem mvX9_ranksBy : MV mX9_ranksBy := ⟨at_x 1255 rfl rfl, at_x 54 rfl rfl⟩
abbrev mX9_isBefore : XY := (yX9_isBefore, cX9_isBefore, 8, some .boolean)
set_option maxRecDepth 100000 in
theorem mdX9_isBefore : MD mX9_isBefore 3 := ⟨at_x 1260 rfl rfl, at_x 77 rfl rfl, ⟨nhX9.1, nhX9.2, by decide +kernel⟩, by decide⟩
set_option maxRecDepth 100000 in
theorem mvX9_isBefore : MV mX9_isBefore := ⟨at_x 1259 rfl rfl, at_x 55 rfl rfl⟩
abbrev mX9_ranked : XY := (yX9_ranked, cX9_ranked, 4, some .int)
set_option maxRecDepth 100000 in
theorem mdX9_ranked : MD mX9_ranked 1 := ⟨at_x 1250 rfl rfl, at_x 77 rfl rfl, ⟨nhX9.1, nhX9.2, by decide +kernel⟩, by decide⟩
set_option maxRecDepth 100000 in
theorem mvX9_ranked : MV mX9_ranked := ⟨at_x 1248 rfl rfl, at_x 1249 rfl rfl⟩
abbrev mX9_standing : XY := (yX9_standing, cX9_standing, 4, some .int)
set_option maxRecDepth 100000 in
theorem mdX9_standing : MD mX9_standing 2 := ⟨at_x 1264 rfl rfl, at_x 77 rfl rfl, ⟨nhX9.1, nhX9.2, by decide +kernel⟩, by decide⟩
set_option maxRecDepth 100000 in
theorem mvX9_standing : MV mX9_standing := ⟨at_x 1262 rfl rfl, at_x 1263 rfl rfl⟩
abbrev mX9_pile : XY := (yX9_pile, cX9_pile, 3, some .int)
set_option maxRecDepth 100000 in
theorem mdX9_pile : MD mX9_pile 2 := ⟨at_x 1268 rfl rfl, at_x 77 rfl rfl, ⟨nhX9.1, nhX9.2, by decide +kernel⟩, by decide⟩
set_option maxRecDepth 100000 in
theorem mvX9_pile : MV mX9_pile := ⟨at_x 1266 rfl rfl, at_x 1267 rfl rfl⟩
abbrev mX9_isTwo : XY := (yX9_isTwo, cX9_isTwo, 3, some .boolean)
set_option maxRecDepth 100000 in
theorem mdX9_isTwo : MD mX9_isTwo 2 := ⟨at_x 1276 rfl rfl, at_x 77 rfl rfl, ⟨nhX9.1, nhX9.2, by decide +kernel⟩, by decide⟩
set_option maxRecDepth 100000 in
theorem mvX9_isTwo : MV mX9_isTwo := ⟨at_x 1275 rfl rfl, at_x 56 rfl rfl⟩
abbrev mX9_preferredTo : XY := (yX9_preferredTo, cX9_preferredTo, 9, some .int)
set_option maxRecDepth 100000 in
theorem mdX9_preferredTo : MD mX9_preferredTo 2 := ⟨at_x 1280 rfl rfl, at_x 77 rfl rfl, ⟨nhX9.1, nhX9.2, by decide +kernel⟩, by decide⟩
set_option maxRecDepth 100000 in
theorem mvX9_preferredTo : MV mX9_preferredTo := ⟨at_x 1279 rfl rfl, at_x 57 rfl rfl⟩
abbrev mX9_preferred : XY := (yX9_preferred, cX9_preferred, 3, some .int)
set_option maxRecDepth 100000 in
theorem mdX9_preferred : MD mX9_preferred 2 := ⟨at_x 1272 rfl rfl, at_x 77 rfl rfl, ⟨nhX9.1, nhX9.2, by decide +kernel⟩, by decide⟩
set_option maxRecDepth 100000 in
theorem mvX9_preferred : MV mX9_preferred := ⟨at_x 1270 rfl rfl, at_x 1271 rfl rfl⟩
abbrev mX9_isBest : XY := (yX9_isBest, cX9_isBest, 4, some .boolean)
set_option maxRecDepth 100000 in
theorem mdX9_isBest : MD mX9_isBest 1 := ⟨at_x 1288 rfl rfl, at_x 77 rfl rfl, ⟨nhX9.1, nhX9.2, by decide +kernel⟩, by decide⟩
set_option maxRecDepth 100000 in
theorem mvX9_isBest : MV mX9_isBest := ⟨at_x 1287 rfl rfl, at_x 58 rfl rfl⟩
abbrev mX9_best : XY := (yX9_best, cX9_best, 2, some .int)
set_option maxRecDepth 100000 in
theorem mdX9_best : MD mX9_best 0 := ⟨at_x 1284 rfl rfl, at_x 77 rfl rfl, ⟨nhX9.1, nhX9.2, by decide +kernel⟩, by decide⟩
set_option maxRecDepth 100000 in
theorem mvX9_best : MV mX9_best := ⟨at_x 1282 rfl rfl, at_x 1283 rfl rfl⟩
abbrev mX9_lowest : XY := (yX9_lowest, cX9_lowest, 11, some .long)
set_option maxRecDepth 100000 in
theorem mdX9_lowest : MD mX9_lowest 3 := ⟨at_x 1295 rfl rfl, at_x 77 rfl rfl, ⟨nhX9.1, nhX9.2, by decide +kernel⟩, by decide⟩
set_option maxRecDepth 100000 in
theorem msX9_lowest : Cond.static mX9_lowest.1 ∈ xtbl := at_x 1294 rfl rfl
abbrev mX9_share : XY := (yX9_share, cX9_share, 4, some .long)
set_option maxRecDepth 100000 in
theorem mdX9_share : MD mX9_share 3 := ⟨at_x 1292 rfl rfl, at_x 77 rfl rfl, ⟨nhX9.1, nhX9.2, by decide +kernel⟩, by decide⟩
set_option maxRecDepth 100000 in
theorem mvX9_share : MV mX9_share := ⟨at_x 1290 rfl rfl, at_x 1291 rfl rfl⟩
abbrev mX9_without : XY := (yX9_without, cX9_without, 4, some .int)
set_option maxRecDepth 100000 in
theorem mdX9_without : MD mX9_without 1 := ⟨at_x 1299 rfl rfl, at_x 77 rfl rfl, ⟨nhX9.1, nhX9.2, by decide +kernel⟩, by decide⟩
set_option maxRecDepth 100000 in
theorem mvX9_without : MV mX9_without := ⟨at_x 1297 rfl rfl, at_x 1298 rfl rfl⟩
abbrev mX9_raised : XY := (yX9_raised, cX9_raised, 6, some .int)
set_option maxRecDepth 100000 in
theorem mdX9_raised : MD mX9_raised 2 := ⟨at_x 1303 rfl rfl, at_x 77 rfl rfl, ⟨nhX9.1, nhX9.2, by decide +kernel⟩, by decide⟩
set_option maxRecDepth 100000 in
theorem mvX9_raised : MV mX9_raised := ⟨at_x 1301 rfl rfl, at_x 1302 rfl rfl⟩
abbrev mX9_needs : XY := (yX9_needs, cX9_needs, 5, some .int)
set_option maxRecDepth 100000 in
theorem mdX9_needs : MD mX9_needs 2 := ⟨at_x 1307 rfl rfl, at_x 77 rfl rfl, ⟨nhX9.1, nhX9.2, by decide +kernel⟩, by decide⟩
set_option maxRecDepth 100000 in
theorem mvX9_needs : MV mX9_needs := ⟨at_x 1305 rfl rfl, at_x 1306 rfl rfl⟩
abbrev mX9_see : XY := (yX9_see, cX9_see, 3, some .int)
set_option maxRecDepth 100000 in
theorem mdX9_see : MD mX9_see 2 := ⟨at_x 1312 rfl rfl, at_x 77 rfl rfl, ⟨nhX9.1, nhX9.2, by decide +kernel⟩, by decide⟩
set_option maxRecDepth 100000 in
theorem mvX9_see : MV mX9_see := ⟨at_x 1310 rfl rfl, at_x 1311 rfl rfl⟩
abbrev mX9_isAsSeen : XY := (yX9_isAsSeen, cX9_isAsSeen, 3, some .boolean)
set_option maxRecDepth 100000 in
theorem mdX9_isAsSeen : MD mX9_isAsSeen 0 := ⟨at_x 1320 rfl rfl, at_x 77 rfl rfl, ⟨nhX9.1, nhX9.2, by decide +kernel⟩, by decide⟩
set_option maxRecDepth 100000 in
theorem mvX9_isAsSeen : MV mX9_isAsSeen := ⟨at_x 1319 rfl rfl, at_x 59 rfl rfl⟩
abbrev mX9_fits : XY := (yX9_fits, cX9_fits, 6, some .int)
set_option maxRecDepth 100000 in
theorem mdX9_fits : MD mX9_fits 1 := ⟨at_x 1316 rfl rfl, at_x 77 rfl rfl, ⟨nhX9.1, nhX9.2, by decide +kernel⟩, by decide⟩
set_option maxRecDepth 100000 in
theorem mvX9_fits : MV mX9_fits := ⟨at_x 1314 rfl rfl, at_x 1315 rfl rfl⟩
abbrev mX9_event : XY := (yX9_event, cX9_event, 3, some .int)
set_option maxRecDepth 100000 in
theorem mdX9_event : MD mX9_event 2 := ⟨at_x 1324 rfl rfl, at_x 77 rfl rfl, ⟨nhX9.1, nhX9.2, by decide +kernel⟩, by decide⟩
set_option maxRecDepth 100000 in
theorem mvX9_event : MV mX9_event := ⟨at_x 1322 rfl rfl, at_x 1323 rfl rfl⟩
abbrev mX9_happens : XY := (yX9_happens, cX9_happens, 5, none)
set_option maxRecDepth 100000 in
theorem mdX9_happens : MD mX9_happens 2 := ⟨at_x 1332 rfl rfl, at_x 77 rfl rfl, ⟨nhX9.1, nhX9.2, by decide +kernel⟩, by decide⟩
set_option maxRecDepth 100000 in
theorem mvX9_happens : MV mX9_happens := ⟨at_x 1331 rfl rfl, at_x 60 rfl rfl⟩
abbrev mX9_after : XY := (yX9_after, cX9_after, 3, some .int)
set_option maxRecDepth 100000 in
theorem mdX9_after : MD mX9_after 0 := ⟨at_x 1328 rfl rfl, at_x 77 rfl rfl, ⟨nhX9.1, nhX9.2, by decide +kernel⟩, by decide⟩
set_option maxRecDepth 100000 in
theorem mvX9_after : MV mX9_after := ⟨at_x 1326 rfl rfl, at_x 1327 rfl rfl⟩
abbrev mX9_feed : XY := (yX9_feed, cX9_feed, 2, some .int)
set_option maxRecDepth 100000 in
theorem mdX9_feed : MD mX9_feed 1 := ⟨at_x 1336 rfl rfl, at_x 77 rfl rfl, ⟨nhX9.1, nhX9.2, by decide +kernel⟩, by decide⟩
set_option maxRecDepth 100000 in
theorem mvX9_feed : MV mX9_feed := ⟨at_x 1334 rfl rfl, at_x 1335 rfl rfl⟩
abbrev mX9_signAt : XY := (yX9_signAt, cX9_signAt, 2, some .int)
set_option maxRecDepth 100000 in
theorem mdX9_signAt : MD mX9_signAt 1 := ⟨at_x 1349 rfl rfl, at_x 77 rfl rfl, ⟨nhX9.1, nhX9.2, by decide +kernel⟩, by decide⟩
set_option maxRecDepth 100000 in
theorem mvX9_signAt : MV mX9_signAt := ⟨at_x 1348 rfl rfl, at_x 62 rfl rfl⟩
abbrev mX9_fails : XY := (yX9_fails, cX9_fails, 2, none)
set_option maxRecDepth 100000 in
theorem mdX9_fails : MD mX9_fails 1 := ⟨at_x 1353 rfl rfl, at_x 77 rfl rfl, ⟨nhX9.1, nhX9.2, by decide +kernel⟩, by decide⟩
set_option maxRecDepth 100000 in
theorem mvX9_fails : MV mX9_fails := ⟨at_x 1352 rfl rfl, at_x 63 rfl rfl⟩
abbrev mX9_numberRead : XY := (yX9_numberRead, cX9_numberRead, 4, some .int)
set_option maxRecDepth 100000 in
theorem mdX9_numberRead : MD mX9_numberRead 1 := ⟨at_x 1357 rfl rfl, at_x 77 rfl rfl, ⟨nhX9.1, nhX9.2, by decide +kernel⟩, by decide⟩
set_option maxRecDepth 100000 in
theorem mvX9_numberRead : MV mX9_numberRead := ⟨at_x 1356 rfl rfl, at_x 64 rfl rfl⟩
abbrev mX9_clauseRead : XY := (yX9_clauseRead, cX9_clauseRead, 2, none)
set_option maxRecDepth 100000 in
theorem mdX9_clauseRead : MD mX9_clauseRead 0 := ⟨at_x 1345 rfl rfl, at_x 77 rfl rfl, ⟨nhX9.1, nhX9.2, by decide +kernel⟩, by decide⟩
set_option maxRecDepth 100000 in
theorem mvX9_clauseRead : MV mX9_clauseRead := ⟨at_x 1344 rfl rfl, at_x 61 rfl rfl⟩
abbrev mX9_done : XY := (yX9_done, cX9_done, 2, some .int)
set_option maxRecDepth 100000 in
theorem mdX9_done : MD mX9_done 1 := ⟨at_x 1367 rfl rfl, at_x 77 rfl rfl, ⟨nhX9.1, nhX9.2, by decide +kernel⟩, by decide⟩
set_option maxRecDepth 100000 in
theorem mvX9_done : MV mX9_done := ⟨at_x 1366 rfl rfl, at_x 66 rfl rfl⟩
abbrev mX9_faulty : XY := (yX9_faulty, cX9_faulty, 2, some .int)
set_option maxRecDepth 100000 in
theorem mdX9_faulty : MD mX9_faulty 0 := ⟨at_x 1363 rfl rfl, at_x 77 rfl rfl, ⟨nhX9.1, nhX9.2, by decide +kernel⟩, by decide⟩
set_option maxRecDepth 100000 in
theorem mvX9_faulty : MV mX9_faulty := ⟨at_x 1362 rfl rfl, at_x 65 rfl rfl⟩
abbrev mX9_read : XY := (yX9_read, cX9_read, 4, some .int)
set_option maxRecDepth 100000 in
theorem mdX9_read : MD mX9_read 0 := ⟨at_x 1341 rfl rfl, at_x 77 rfl rfl, ⟨nhX9.1, nhX9.2, by decide +kernel⟩, by decide⟩
set_option maxRecDepth 100000 in
theorem mvX9_read : MV mX9_read := ⟨at_x 1339 rfl rfl, at_x 1340 rfl rfl⟩
abbrev mX9_cause : XY := (yX9_cause, cX9_cause, 3, some .int)
set_option maxRecDepth 100000 in
theorem mdX9_cause : MD mX9_cause 2 := ⟨at_x 1375 rfl rfl, at_x 77 rfl rfl, ⟨nhX9.1, nhX9.2, by decide +kernel⟩, by decide⟩
set_option maxRecDepth 100000 in
theorem mvX9_cause : MV mX9_cause := ⟨at_x 1373 rfl rfl, at_x 1374 rfl rfl⟩
abbrev mX9_judge : XY := (yX9_judge, cX9_judge, 5, some .int)
set_option maxRecDepth 100000 in
theorem mdX9_judge : MD mX9_judge 3 := ⟨at_x 1379 rfl rfl, at_x 77 rfl rfl, ⟨nhX9.1, nhX9.2, by decide +kernel⟩, by decide⟩
set_option maxRecDepth 100000 in
theorem mvX9_judge : MV mX9_judge := ⟨at_x 1377 rfl rfl, at_x 1378 rfl rfl⟩
abbrev mX9_image : XY := (yX9_image, cX9_image, 1, some .int)
set_option maxRecDepth 100000 in
theorem mdX9_image : MD mX9_image 0 := ⟨at_x 1387 rfl rfl, at_x 77 rfl rfl, ⟨nhX9.1, nhX9.2, by decide +kernel⟩, by decide⟩
set_option maxRecDepth 100000 in
theorem mvX9_image : MV mX9_image := ⟨at_x 1385 rfl rfl, at_x 1386 rfl rfl⟩
abbrev mX9_undo : XY := (yX9_undo, cX9_undo, 1, some .int)
set_option maxRecDepth 100000 in
theorem mdX9_undo : MD mX9_undo 0 := ⟨at_x 1391 rfl rfl, at_x 77 rfl rfl, ⟨nhX9.1, nhX9.2, by decide +kernel⟩, by decide⟩
set_option maxRecDepth 100000 in
theorem mvX9_undo : MV mX9_undo := ⟨at_x 1389 rfl rfl, at_x 1390 rfl rfl⟩
abbrev mX9_count : XY := (yX9_count, cX9_count, 2, some .int)
set_option maxRecDepth 100000 in
theorem mdX9_count : MD mX9_count 1 := ⟨at_x 1395 rfl rfl, at_x 77 rfl rfl, ⟨nhX9.1, nhX9.2, by decide +kernel⟩, by decide⟩
set_option maxRecDepth 100000 in
theorem mvX9_count : MV mX9_count := ⟨at_x 1393 rfl rfl, at_x 1394 rfl rfl⟩
abbrev mX9_isTape : XY := (yX9_isTape, cX9_isTape, 1, some .boolean)
set_option maxRecDepth 100000 in
theorem mdX9_isTape : MD mX9_isTape 1 := ⟨at_x 1382 rfl rfl, at_x 77 rfl rfl, ⟨nhX9.1, nhX9.2, by decide +kernel⟩, by decide⟩
set_option maxRecDepth 100000 in
theorem msX9_isTape : Cond.static mX9_isTape.1 ∈ xtbl := at_x 1381 rfl rfl
abbrev mX9_tape : XY := (yX9_tape, cX9_tape, 5, some .int)
set_option maxRecDepth 100000 in
theorem mdX9_tape : MD mX9_tape 3 := ⟨at_x 1399 rfl rfl, at_x 77 rfl rfl, ⟨nhX9.1, nhX9.2, by decide +kernel⟩, by decide⟩
set_option maxRecDepth 100000 in
theorem mvX9_tape : MV mX9_tape := ⟨at_x 1397 rfl rfl, at_x 1398 rfl rfl⟩
abbrev mX9_refusal : XY := (yX9_refusal, cX9_refusal, 3, some .int)
set_option maxRecDepth 100000 in
theorem mdX9_refusal : MD mX9_refusal 2 := ⟨at_x 1409 rfl rfl, at_x 77 rfl rfl, ⟨nhX9.1, nhX9.2, by decide +kernel⟩, by decide⟩
set_option maxRecDepth 100000 in
theorem mvX9_refusal : MV mX9_refusal := ⟨at_x 1408 rfl rfl, at_x 67 rfl rfl⟩
abbrev mX9_item : XY := (yX9_item, cX9_item, 7, some .int)
set_option maxRecDepth 100000 in
theorem mdX9_item : MD mX9_item 3 := ⟨at_x 1405 rfl rfl, at_x 77 rfl rfl, ⟨nhX9.1, nhX9.2, by decide +kernel⟩, by decide⟩
set_option maxRecDepth 100000 in
theorem mvX9_item : MV mX9_item := ⟨at_x 1403 rfl rfl, at_x 1404 rfl rfl⟩
abbrev mX9_peek : XY := (yX9_peek, cX9_peek, 3, some .long)
set_option maxRecDepth 100000 in
theorem mdX9_peek : MD mX9_peek 2 := ⟨at_x 1413 rfl rfl, at_x 77 rfl rfl, ⟨nhX9.1, nhX9.2, by decide +kernel⟩, by decide⟩
set_option maxRecDepth 100000 in
theorem mvX9_peek : MV mX9_peek := ⟨at_x 1411 rfl rfl, at_x 1412 rfl rfl⟩
abbrev mX9_shift : XY := (yX9_shift, cX9_shift, 6, some .int)
set_option maxRecDepth 100000 in
theorem mdX9_shift : MD mX9_shift 5 := ⟨at_x 1417 rfl rfl, at_x 77 rfl rfl, ⟨nhX9.1, nhX9.2, by decide +kernel⟩, by decide⟩
set_option maxRecDepth 100000 in
theorem mvX9_shift : MV mX9_shift := ⟨at_x 1415 rfl rfl, at_x 1416 rfl rfl⟩
abbrev mJ9_max_7cf53 : XY := (yJ9_max_7cf53, cJ9_max_7cf53, 2, some .int)
abbrev mJ9_max_f86c9 : XY := (yJ9_max_f86c9, cJ9_max_f86c9, 4, some .long)
abbrev mJ9_min_f86c9 : XY := (yJ9_min_f86c9, cJ9_min_f86c9, 4, some .long)
abbrev mJ7_fill_d0a16 : XY := (yJ7_fill_d0a16, cJ7_fill_d0a16, 5, none)
set_option maxRecDepth 100000 in
theorem mdJ7_fill_d0a16 : MD mJ7_fill_d0a16 2 := ⟨at_x 525 rfl rfl, at_x 80 rfl rfl, ⟨nhJ7.1, nhJ7.2, by decide +kernel⟩, by decide⟩
set_option maxRecDepth 100000 in
theorem msJ7_fill_d0a16 : Cond.static mJ7_fill_d0a16.1 ∈ xtbl := at_x 524 rfl rfl
set_option maxRecDepth 100000 in
theorem flX8_14 : FL RX8 14 7 0 := ⟨RX8, TX8, 10, tyX8, rfl, by decide, x_ps inX8 gdX8, tyX8_ok, nmX8, Or.inl (at_x 376 rfl rfl), rfl, Or.inr (Or.inr (Or.inr rfl))⟩
set_option maxRecDepth 100000 in
theorem flX8_18 : FL RX8 18 7 1 := ⟨RX8, TX8, 10, tyX8, rfl, by decide, x_ps inX8 gdX8, tyX8_ok, nmX8, Or.inl (at_x 377 rfl rfl), rfl, Or.inr (Or.inr (Or.inr rfl))⟩
set_option maxRecDepth 100000 in
theorem flX8_21 : FL RX8 21 7 2 := ⟨RX8, TX8, 10, tyX8, rfl, by decide, x_ps inX8 gdX8, tyX8_ok, nmX8, Or.inl (at_x 378 rfl rfl), rfl, Or.inr (Or.inr (Or.inr rfl))⟩
set_option maxRecDepth 100000 in
theorem flX8_24 : FL RX8 24 7 3 := ⟨RX8, TX8, 10, tyX8, rfl, by decide, x_ps inX8 gdX8, tyX8_ok, nmX8, Or.inl (at_x 379 rfl rfl), rfl, Or.inr (Or.inr (Or.inl ⟨rfl, rfl, rfl⟩))⟩
set_option maxRecDepth 100000 in
theorem flX8_33 : FL RX8 33 7 4 := ⟨RX8, TX8, 10, tyX8, rfl, by decide, x_ps inX8 gdX8, tyX8_ok, nmX8, Or.inl (at_x 380 rfl rfl), rfl, Or.inr (Or.inr (Or.inr rfl))⟩
set_option maxRecDepth 100000 in
theorem flX8_37 : FL RX8 37 7 5 := ⟨RX8, TX8, 10, tyX8, rfl, by decide, x_ps inX8 gdX8, tyX8_ok, nmX8, Or.inl (at_x 381 rfl rfl), rfl, Or.inr (Or.inr (Or.inr rfl))⟩
set_option maxRecDepth 100000 in
theorem flX8_40 : FL RX8 40 7 6 := ⟨RX8, TX8, 10, tyX8, rfl, by decide, x_ps inX8 gdX8, tyX8_ok, nmX8, Or.inl (at_x 382 rfl rfl), rfl, Or.inr (Or.inr (Or.inl ⟨rfl, rfl, rfl⟩))⟩
set_option maxRecDepth 100000 in
theorem flX8_46 : FL RX8 46 7 7 := ⟨RX8, TX8, 10, tyX8, rfl, by decide, x_ps inX8 gdX8, tyX8_ok, nmX8, Or.inl (at_x 383 rfl rfl), rfl, Or.inr (Or.inr (Or.inr rfl))⟩
set_option maxRecDepth 100000 in
theorem flX8_53 : FL RX8 53 7 8 := ⟨RX8, TX8, 10, tyX8, rfl, by decide, x_ps inX8 gdX8, tyX8_ok, nmX8, Or.inl (at_x 384 rfl rfl), rfl, Or.inr (Or.inr (Or.inr rfl))⟩
set_option maxRecDepth 100000 in
theorem flX8_59 : FL RX8 59 7 9 := ⟨RX8, TX8, 10, tyX8, rfl, by decide, x_ps inX8 gdX8, tyX8_ok, nmX8, Or.inl (at_x 385 rfl rfl), rfl, Or.inr (Or.inr (Or.inr rfl))⟩
set_option maxRecDepth 100000 in
theorem flX8_64 : FL RX8 64 1 0 := ⟨RX1, TX1, 15, tyX1, rfl, by decide, x_ps inX1 gdX1, tyX1_ok, nmX1, Or.inr ⟨"KeepCount", at_x 97 rfl rfl⟩, rfl, Or.inl ⟨rfl, rfl, rfl⟩⟩
set_option maxRecDepth 100000 in
theorem flX8_68 : FL RX8 68 1 1 := ⟨RX1, TX1, 15, tyX1, rfl, by decide, x_ps inX1 gdX1, tyX1_ok, nmX1, Or.inr ⟨"KeepCount", at_x 100 rfl rfl⟩, rfl, Or.inr (Or.inr (Or.inr rfl))⟩
set_option maxRecDepth 100000 in
theorem flX8_72 : FL RX8 72 1 2 := ⟨RX1, TX1, 15, tyX1, rfl, by decide, x_ps inX1 gdX1, tyX1_ok, nmX1, Or.inr ⟨"KeepCount", at_x 104 rfl rfl⟩, rfl, Or.inr (Or.inr (Or.inr rfl))⟩
set_option maxRecDepth 100000 in
theorem flX8_83 : FL RX8 83 1 3 := ⟨RX1, TX1, 15, tyX1, rfl, by decide, x_ps inX1 gdX1, tyX1_ok, nmX1, Or.inr ⟨"KeepCount", at_x 108 rfl rfl⟩, rfl, Or.inl ⟨rfl, rfl, rfl⟩⟩
set_option maxRecDepth 100000 in
theorem flX8_89 : FL RX8 89 1 4 := ⟨RX1, TX1, 15, tyX1, rfl, by decide, x_ps inX1 gdX1, tyX1_ok, nmX1, Or.inr ⟨"KeepCount", at_x 111 rfl rfl⟩, rfl, Or.inr (Or.inr (Or.inr rfl))⟩
set_option maxRecDepth 100000 in
theorem flX8_96 : FL RX8 96 1 5 := ⟨RX1, TX1, 15, tyX1, rfl, by decide, x_ps inX1 gdX1, tyX1_ok, nmX1, Or.inr ⟨"KeepCount", at_x 114 rfl rfl⟩, rfl, Or.inr (Or.inr (Or.inr rfl))⟩
set_option maxRecDepth 100000 in
theorem flX8_116 : FL RX8 116 1 6 := ⟨RX1, TX1, 15, tyX1, rfl, by decide, x_ps inX1 gdX1, tyX1_ok, nmX1, Or.inr ⟨"KeepCount", at_x 117 rfl rfl⟩, rfl, Or.inl ⟨rfl, rfl, rfl⟩⟩
set_option maxRecDepth 100000 in
theorem flX8_119 : FL RX8 119 1 7 := ⟨RX1, TX1, 15, tyX1, rfl, by decide, x_ps inX1 gdX1, tyX1_ok, nmX1, Or.inr ⟨"KeepCount", at_x 120 rfl rfl⟩, rfl, Or.inl ⟨rfl, rfl, rfl⟩⟩
set_option maxRecDepth 100000 in
theorem flX8_122 : FL RX8 122 1 8 := ⟨RX1, TX1, 15, tyX1, rfl, by decide, x_ps inX1 gdX1, tyX1_ok, nmX1, Or.inr ⟨"KeepCount", at_x 123 rfl rfl⟩, rfl, Or.inl ⟨rfl, rfl, rfl⟩⟩
set_option maxRecDepth 100000 in
theorem flX8_147 : FL RX8 147 3 2 := ⟨RX4, TX4, 14, tyX4, rfl, by decide, x_ps inX4 gdX4, tyX4_ok, nmX4, Or.inr ⟨"KeepCount", at_x 255 rfl rfl⟩, rfl, Or.inr (Or.inr (Or.inr rfl))⟩
set_option maxRecDepth 100000 in
theorem flX8_150 : FL RX8 150 3 3 := ⟨RX4, TX4, 14, tyX4, rfl, by decide, x_ps inX4 gdX4, tyX4_ok, nmX4, Or.inr ⟨"KeepCount", at_x 257 rfl rfl⟩, rfl, Or.inr (Or.inr (Or.inr rfl))⟩
set_option maxRecDepth 100000 in
theorem flX8_168 : FL RX8 168 3 7 := ⟨RX4, TX4, 14, tyX4, rfl, by decide, x_ps inX4 gdX4, tyX4_ok, nmX4, Or.inr ⟨"KeepCount", at_x 264 rfl rfl⟩, rfl, Or.inl ⟨rfl, rfl, rfl⟩⟩
set_option maxRecDepth 100000 in
theorem flX8_171 : FL RX8 171 3 5 := ⟨RX4, TX4, 14, tyX4, rfl, by decide, x_ps inX4 gdX4, tyX4_ok, nmX4, Or.inr ⟨"KeepCount", at_x 261 rfl rfl⟩, rfl, Or.inl ⟨rfl, rfl, rfl⟩⟩
set_option maxRecDepth 100000 in
theorem flX8_177 : FL RX8 177 3 1 := ⟨RX4, TX4, 14, tyX4, rfl, by decide, x_ps inX4 gdX4, tyX4_ok, nmX4, Or.inr ⟨"KeepCount", at_x 253 rfl rfl⟩, rfl, Or.inr (Or.inr (Or.inr rfl))⟩
set_option maxRecDepth 100000 in
theorem flX8_181 : FL RX8 181 0 0 := ⟨RX0, TX0, 3, tyX0, rfl, by decide, x_ps inX0 gdX0, tyX0_ok, nmX0, Or.inr ⟨"KeepCount", at_x 183 rfl rfl⟩, rfl, Or.inl ⟨rfl, rfl, rfl⟩⟩
set_option maxRecDepth 100000 in
theorem flX8_190 : FL RX8 190 2 0 := ⟨RX3, TX3, 9, tyX3, rfl, by decide, x_ps inX3 gdX3, tyX3_ok, nmX3, Or.inr ⟨"KeepCount", at_x 206 rfl rfl⟩, rfl, Or.inl ⟨rfl, rfl, rfl⟩⟩
set_option maxRecDepth 100000 in
theorem flX8_193 : FL RX8 193 2 1 := ⟨RX3, TX3, 9, tyX3, rfl, by decide, x_ps inX3 gdX3, tyX3_ok, nmX3, Or.inr ⟨"KeepCount", at_x 209 rfl rfl⟩, rfl, Or.inl ⟨rfl, rfl, rfl⟩⟩
set_option maxRecDepth 100000 in
theorem flX8_196 : FL RX8 196 2 2 := ⟨RX3, TX3, 9, tyX3, rfl, by decide, x_ps inX3 gdX3, tyX3_ok, nmX3, Or.inr ⟨"KeepCount", at_x 212 rfl rfl⟩, rfl, Or.inl ⟨rfl, rfl, rfl⟩⟩
set_option maxRecDepth 100000 in
theorem flX8_201 : FL RX8 201 2 3 := ⟨RX3, TX3, 9, tyX3, rfl, by decide, x_ps inX3 gdX3, tyX3_ok, nmX3, Or.inr ⟨"KeepCount", at_x 215 rfl rfl⟩, rfl, Or.inr (Or.inl ⟨rfl, rfl, rfl⟩)⟩
set_option maxRecDepth 100000 in
theorem flX8_205 : FL RX8 205 2 4 := ⟨RX3, TX3, 9, tyX3, rfl, by decide, x_ps inX3 gdX3, tyX3_ok, nmX3, Or.inr ⟨"KeepCount", at_x 218 rfl rfl⟩, rfl, Or.inr (Or.inl ⟨rfl, rfl, rfl⟩)⟩
set_option maxRecDepth 100000 in
theorem flX8_208 : FL RX8 208 2 5 := ⟨RX3, TX3, 9, tyX3, rfl, by decide, x_ps inX3 gdX3, tyX3_ok, nmX3, Or.inr ⟨"KeepCount", at_x 221 rfl rfl⟩, rfl, Or.inr (Or.inl ⟨rfl, rfl, rfl⟩)⟩
set_option maxRecDepth 100000 in
theorem flX8_211 : FL RX8 211 2 6 := ⟨RX3, TX3, 9, tyX3, rfl, by decide, x_ps inX3 gdX3, tyX3_ok, nmX3, Or.inr ⟨"KeepCount", at_x 224 rfl rfl⟩, rfl, Or.inr (Or.inl ⟨rfl, rfl, rfl⟩)⟩
set_option maxRecDepth 100000 in
theorem flX8_214 : FL RX8 214 2 7 := ⟨RX3, TX3, 9, tyX3, rfl, by decide, x_ps inX3 gdX3, tyX3_ok, nmX3, Or.inr ⟨"KeepCount", at_x 227 rfl rfl⟩, rfl, Or.inr (Or.inr (Or.inr rfl))⟩
set_option maxRecDepth 100000 in
theorem flX8_218 : FL RX8 218 2 8 := ⟨RX3, TX3, 9, tyX3, rfl, by decide, x_ps inX3 gdX3, tyX3_ok, nmX3, Or.inr ⟨"KeepCount", at_x 230 rfl rfl⟩, rfl, Or.inr (Or.inr (Or.inr rfl))⟩
set_option maxRecDepth 100000 in
theorem flX8_221 : FL RX8 221 3 4 := ⟨RX4, TX4, 14, tyX4, rfl, by decide, x_ps inX4 gdX4, tyX4_ok, nmX4, Or.inr ⟨"KeepCount", at_x 259 rfl rfl⟩, rfl, Or.inr (Or.inr (Or.inr rfl))⟩
set_option maxRecDepth 100000 in
theorem flX8_235 : FL RX8 235 0 1 := ⟨RX0, TX0, 3, tyX0, rfl, by decide, x_ps inX0 gdX0, tyX0_ok, nmX0, Or.inr ⟨"KeepCount", at_x 186 rfl rfl⟩, rfl, Or.inr (Or.inr (Or.inr rfl))⟩
set_option maxRecDepth 100000 in
theorem flX8_239 : FL RX8 239 0 2 := ⟨RX0, TX0, 3, tyX0, rfl, by decide, x_ps inX0 gdX0, tyX0_ok, nmX0, Or.inr ⟨"KeepCount", at_x 189 rfl rfl⟩, rfl, Or.inr (Or.inr (Or.inr rfl))⟩
set_option maxRecDepth 100000 in
theorem flX8_266 : FL RX8 266 1 9 := ⟨RX1, TX1, 15, tyX1, rfl, by decide, x_ps inX1 gdX1, tyX1_ok, nmX1, Or.inr ⟨"KeepCount", at_x 125 rfl rfl⟩, rfl, Or.inl ⟨rfl, rfl, rfl⟩⟩
set_option maxRecDepth 100000 in
theorem flX8_269 : FL RX8 269 1 10 := ⟨RX1, TX1, 15, tyX1, rfl, by decide, x_ps inX1 gdX1, tyX1_ok, nmX1, Or.inr ⟨"KeepCount", at_x 127 rfl rfl⟩, rfl, Or.inr (Or.inr (Or.inr rfl))⟩
set_option maxRecDepth 100000 in
theorem flX8_272 : FL RX8 272 1 11 := ⟨RX1, TX1, 15, tyX1, rfl, by decide, x_ps inX1 gdX1, tyX1_ok, nmX1, Or.inr ⟨"KeepCount", at_x 129 rfl rfl⟩, rfl, Or.inr (Or.inr (Or.inr rfl))⟩
set_option maxRecDepth 100000 in
theorem flX8_278 : FL RX8 278 1 12 := ⟨RX1, TX1, 15, tyX1, rfl, by decide, x_ps inX1 gdX1, tyX1_ok, nmX1, Or.inr ⟨"KeepCount", at_x 131 rfl rfl⟩, rfl, Or.inl ⟨rfl, rfl, rfl⟩⟩
set_option maxRecDepth 100000 in
theorem flX8_281 : FL RX8 281 1 13 := ⟨RX1, TX1, 15, tyX1, rfl, by decide, x_ps inX1 gdX1, tyX1_ok, nmX1, Or.inr ⟨"KeepCount", at_x 133 rfl rfl⟩, rfl, Or.inr (Or.inr (Or.inr rfl))⟩
set_option maxRecDepth 100000 in
theorem flX8_284 : FL RX8 284 1 14 := ⟨RX1, TX1, 15, tyX1, rfl, by decide, x_ps inX1 gdX1, tyX1_ok, nmX1, Or.inr ⟨"KeepCount", at_x 135 rfl rfl⟩, rfl, Or.inr (Or.inr (Or.inr rfl))⟩
set_option maxRecDepth 100000 in
theorem flX8_290 : FL RX8 290 5 0 := ⟨RX6, TX6, 8, tyX6, rfl, by decide, x_ps inX6 gdX6, tyX6_ok, nmX6, Or.inr ⟨"KeepCount", at_x 307 rfl rfl⟩, rfl, Or.inl ⟨rfl, rfl, rfl⟩⟩
set_option maxRecDepth 100000 in
theorem flX8_291 : FL RX8 291 5 1 := ⟨RX6, TX6, 8, tyX6, rfl, by decide, x_ps inX6 gdX6, tyX6_ok, nmX6, Or.inr ⟨"KeepCount", at_x 309 rfl rfl⟩, rfl, Or.inr (Or.inr (Or.inr rfl))⟩
set_option maxRecDepth 100000 in
theorem flX8_298 : FL RX8 298 5 2 := ⟨RX6, TX6, 8, tyX6, rfl, by decide, x_ps inX6 gdX6, tyX6_ok, nmX6, Or.inr ⟨"KeepCount", at_x 311 rfl rfl⟩, rfl, Or.inl ⟨rfl, rfl, rfl⟩⟩
set_option maxRecDepth 100000 in
theorem flX8_301 : FL RX8 301 5 3 := ⟨RX6, TX6, 8, tyX6, rfl, by decide, x_ps inX6 gdX6, tyX6_ok, nmX6, Or.inr ⟨"KeepCount", at_x 313 rfl rfl⟩, rfl, Or.inr (Or.inr (Or.inr rfl))⟩
set_option maxRecDepth 100000 in
theorem flX8_304 : FL RX8 304 5 4 := ⟨RX6, TX6, 8, tyX6, rfl, by decide, x_ps inX6 gdX6, tyX6_ok, nmX6, Or.inr ⟨"KeepCount", at_x 315 rfl rfl⟩, rfl, Or.inr (Or.inr (Or.inr rfl))⟩
set_option maxRecDepth 100000 in
theorem flX8_307 : FL RX8 307 5 5 := ⟨RX6, TX6, 8, tyX6, rfl, by decide, x_ps inX6 gdX6, tyX6_ok, nmX6, Or.inr ⟨"KeepCount", at_x 317 rfl rfl⟩, rfl, Or.inr (Or.inr (Or.inr rfl))⟩
set_option maxRecDepth 100000 in
theorem flX8_327 : FL RX8 327 6 0 := ⟨RX7, TX7, 3, tyX7, rfl, by decide, x_ps inX7 gdX7, tyX7_ok, nmX7, Or.inr ⟨"KeepCount", at_x 344 rfl rfl⟩, rfl, Or.inl ⟨rfl, rfl, rfl⟩⟩
set_option maxRecDepth 100000 in
theorem flX8_328 : FL RX8 328 6 1 := ⟨RX7, TX7, 3, tyX7, rfl, by decide, x_ps inX7 gdX7, tyX7_ok, nmX7, Or.inr ⟨"KeepCount", at_x 346 rfl rfl⟩, rfl, Or.inr (Or.inr (Or.inr rfl))⟩
set_option maxRecDepth 100000 in
theorem flX8_331 : FL RX8 331 6 2 := ⟨RX7, TX7, 3, tyX7, rfl, by decide, x_ps inX7 gdX7, tyX7_ok, nmX7, Or.inr ⟨"KeepCount", at_x 348 rfl rfl⟩, rfl, Or.inr (Or.inr (Or.inr rfl))⟩
set_option maxRecDepth 100000 in
theorem flX8_338 : FL RX8 338 4 0 := ⟨RX5, TX5, 3, tyX5, rfl, by decide, x_ps inX5 gdX5, tyX5_ok, nmX5, Or.inr ⟨"KeepCount", at_x 364 rfl rfl⟩, rfl, Or.inl ⟨rfl, rfl, rfl⟩⟩
set_option maxRecDepth 100000 in
theorem flX8_340 : FL RX8 340 4 1 := ⟨RX5, TX5, 3, tyX5, rfl, by decide, x_ps inX5 gdX5, tyX5_ok, nmX5, Or.inr ⟨"KeepCount", at_x 366 rfl rfl⟩, rfl, Or.inl ⟨rfl, rfl, rfl⟩⟩
set_option maxRecDepth 100000 in
theorem flX8_341 : FL RX8 341 4 2 := ⟨RX5, TX5, 3, tyX5, rfl, by decide, x_ps inX5 gdX5, tyX5_ok, nmX5, Or.inr ⟨"KeepCount", at_x 368 rfl rfl⟩, rfl, Or.inr (Or.inr (Or.inr rfl))⟩
set_option maxRecDepth 100000 in
theorem flX0_9 : FL RX0 9 0 0 := ⟨RX0, TX0, 3, tyX0, rfl, by decide, x_ps inX0 gdX0, tyX0_ok, nmX0, Or.inl (at_x 181 rfl rfl), rfl, Or.inl ⟨rfl, rfl, rfl⟩⟩
set_option maxRecDepth 100000 in
theorem flX0_15 : FL RX0 15 0 1 := ⟨RX0, TX0, 3, tyX0, rfl, by decide, x_ps inX0 gdX0, tyX0_ok, nmX0, Or.inl (at_x 184 rfl rfl), rfl, Or.inr (Or.inr (Or.inr rfl))⟩
set_option maxRecDepth 100000 in
theorem flX0_19 : FL RX0 19 0 2 := ⟨RX0, TX0, 3, tyX0, rfl, by decide, x_ps inX0 gdX0, tyX0_ok, nmX0, Or.inl (at_x 187 rfl rfl), rfl, Or.inr (Or.inr (Or.inr rfl))⟩
set_option maxRecDepth 100000 in
theorem flX0_22 : FL RX0 22 1 3 := ⟨RX1, TX1, 15, tyX1, rfl, by decide, x_ps inX1 gdX1, tyX1_ok, nmX1, Or.inr ⟨"KeepCount", at_x 107 rfl rfl⟩, rfl, Or.inl ⟨rfl, rfl, rfl⟩⟩
set_option maxRecDepth 100000 in
theorem flX0_27 : FL RX0 27 1 4 := ⟨RX1, TX1, 15, tyX1, rfl, by decide, x_ps inX1 gdX1, tyX1_ok, nmX1, Or.inr ⟨"KeepCount", at_x 110 rfl rfl⟩, rfl, Or.inr (Or.inr (Or.inr rfl))⟩
set_option maxRecDepth 100000 in
theorem flX0_28 : FL RX0 28 1 2 := ⟨RX1, TX1, 15, tyX1, rfl, by decide, x_ps inX1 gdX1, tyX1_ok, nmX1, Or.inr ⟨"KeepCount", at_x 103 rfl rfl⟩, rfl, Or.inr (Or.inr (Or.inr rfl))⟩
set_option maxRecDepth 100000 in
theorem flX0_38 : FL RX0 38 1 5 := ⟨RX1, TX1, 15, tyX1, rfl, by decide, x_ps inX1 gdX1, tyX1_ok, nmX1, Or.inr ⟨"KeepCount", at_x 113 rfl rfl⟩, rfl, Or.inr (Or.inr (Or.inr rfl))⟩
set_option maxRecDepth 100000 in
theorem flX1_9 : FL RX1 9 1 0 := ⟨RX1, TX1, 15, tyX1, rfl, by decide, x_ps inX1 gdX1, tyX1_ok, nmX1, Or.inl (at_x 96 rfl rfl), rfl, Or.inl ⟨rfl, rfl, rfl⟩⟩
set_option maxRecDepth 100000 in
theorem flX1_15 : FL RX1 15 1 1 := ⟨RX1, TX1, 15, tyX1, rfl, by decide, x_ps inX1 gdX1, tyX1_ok, nmX1, Or.inl (at_x 99 rfl rfl), rfl, Or.inr (Or.inr (Or.inr rfl))⟩
set_option maxRecDepth 100000 in
theorem flX1_19 : FL RX1 19 1 2 := ⟨RX1, TX1, 15, tyX1, rfl, by decide, x_ps inX1 gdX1, tyX1_ok, nmX1, Or.inl (at_x 102 rfl rfl), rfl, Or.inr (Or.inr (Or.inr rfl))⟩
set_option maxRecDepth 100000 in
theorem flX1_23 : FL RX1 23 1 3 := ⟨RX1, TX1, 15, tyX1, rfl, by decide, x_ps inX1 gdX1, tyX1_ok, nmX1, Or.inl (at_x 106 rfl rfl), rfl, Or.inl ⟨rfl, rfl, rfl⟩⟩
set_option maxRecDepth 100000 in
theorem flX1_26 : FL RX1 26 1 4 := ⟨RX1, TX1, 15, tyX1, rfl, by decide, x_ps inX1 gdX1, tyX1_ok, nmX1, Or.inl (at_x 109 rfl rfl), rfl, Or.inr (Or.inr (Or.inr rfl))⟩
set_option maxRecDepth 100000 in
theorem flX1_29 : FL RX1 29 1 5 := ⟨RX1, TX1, 15, tyX1, rfl, by decide, x_ps inX1 gdX1, tyX1_ok, nmX1, Or.inl (at_x 112 rfl rfl), rfl, Or.inr (Or.inr (Or.inr rfl))⟩
set_option maxRecDepth 100000 in
theorem flX1_32 : FL RX1 32 1 6 := ⟨RX1, TX1, 15, tyX1, rfl, by decide, x_ps inX1 gdX1, tyX1_ok, nmX1, Or.inl (at_x 115 rfl rfl), rfl, Or.inl ⟨rfl, rfl, rfl⟩⟩
set_option maxRecDepth 100000 in
theorem flX1_35 : FL RX1 35 1 7 := ⟨RX1, TX1, 15, tyX1, rfl, by decide, x_ps inX1 gdX1, tyX1_ok, nmX1, Or.inl (at_x 118 rfl rfl), rfl, Or.inl ⟨rfl, rfl, rfl⟩⟩
set_option maxRecDepth 100000 in
theorem flX1_38 : FL RX1 38 1 8 := ⟨RX1, TX1, 15, tyX1, rfl, by decide, x_ps inX1 gdX1, tyX1_ok, nmX1, Or.inl (at_x 121 rfl rfl), rfl, Or.inl ⟨rfl, rfl, rfl⟩⟩
set_option maxRecDepth 100000 in
theorem flX1_41 : FL RX1 41 1 9 := ⟨RX1, TX1, 15, tyX1, rfl, by decide, x_ps inX1 gdX1, tyX1_ok, nmX1, Or.inl (at_x 124 rfl rfl), rfl, Or.inl ⟨rfl, rfl, rfl⟩⟩
set_option maxRecDepth 100000 in
theorem flX1_44 : FL RX1 44 1 10 := ⟨RX1, TX1, 15, tyX1, rfl, by decide, x_ps inX1 gdX1, tyX1_ok, nmX1, Or.inl (at_x 126 rfl rfl), rfl, Or.inr (Or.inr (Or.inr rfl))⟩
set_option maxRecDepth 100000 in
theorem flX1_47 : FL RX1 47 1 11 := ⟨RX1, TX1, 15, tyX1, rfl, by decide, x_ps inX1 gdX1, tyX1_ok, nmX1, Or.inl (at_x 128 rfl rfl), rfl, Or.inr (Or.inr (Or.inr rfl))⟩
set_option maxRecDepth 100000 in
theorem flX1_50 : FL RX1 50 1 12 := ⟨RX1, TX1, 15, tyX1, rfl, by decide, x_ps inX1 gdX1, tyX1_ok, nmX1, Or.inl (at_x 130 rfl rfl), rfl, Or.inl ⟨rfl, rfl, rfl⟩⟩
set_option maxRecDepth 100000 in
theorem flX1_53 : FL RX1 53 1 13 := ⟨RX1, TX1, 15, tyX1, rfl, by decide, x_ps inX1 gdX1, tyX1_ok, nmX1, Or.inl (at_x 132 rfl rfl), rfl, Or.inr (Or.inr (Or.inr rfl))⟩
set_option maxRecDepth 100000 in
theorem flX1_56 : FL RX1 56 1 14 := ⟨RX1, TX1, 15, tyX1, rfl, by decide, x_ps inX1 gdX1, tyX1_ok, nmX1, Or.inl (at_x 134 rfl rfl), rfl, Or.inr (Or.inr (Or.inr rfl))⟩
set_option maxRecDepth 100000 in
theorem flX3_9 : FL RX3 9 2 0 := ⟨RX3, TX3, 9, tyX3, rfl, by decide, x_ps inX3 gdX3, tyX3_ok, nmX3, Or.inl (at_x 204 rfl rfl), rfl, Or.inl ⟨rfl, rfl, rfl⟩⟩
set_option maxRecDepth 100000 in
theorem flX3_15 : FL RX3 15 2 1 := ⟨RX3, TX3, 9, tyX3, rfl, by decide, x_ps inX3 gdX3, tyX3_ok, nmX3, Or.inl (at_x 207 rfl rfl), rfl, Or.inl ⟨rfl, rfl, rfl⟩⟩
set_option maxRecDepth 100000 in
theorem flX3_18 : FL RX3 18 2 2 := ⟨RX3, TX3, 9, tyX3, rfl, by decide, x_ps inX3 gdX3, tyX3_ok, nmX3, Or.inl (at_x 210 rfl rfl), rfl, Or.inl ⟨rfl, rfl, rfl⟩⟩
set_option maxRecDepth 100000 in
theorem flX3_21 : FL RX3 21 2 3 := ⟨RX3, TX3, 9, tyX3, rfl, by decide, x_ps inX3 gdX3, tyX3_ok, nmX3, Or.inl (at_x 213 rfl rfl), rfl, Or.inr (Or.inl ⟨rfl, rfl, rfl⟩)⟩
set_option maxRecDepth 100000 in
theorem flX3_25 : FL RX3 25 2 4 := ⟨RX3, TX3, 9, tyX3, rfl, by decide, x_ps inX3 gdX3, tyX3_ok, nmX3, Or.inl (at_x 216 rfl rfl), rfl, Or.inr (Or.inl ⟨rfl, rfl, rfl⟩)⟩
set_option maxRecDepth 100000 in
theorem flX3_28 : FL RX3 28 2 5 := ⟨RX3, TX3, 9, tyX3, rfl, by decide, x_ps inX3 gdX3, tyX3_ok, nmX3, Or.inl (at_x 219 rfl rfl), rfl, Or.inr (Or.inl ⟨rfl, rfl, rfl⟩)⟩
set_option maxRecDepth 100000 in
theorem flX3_31 : FL RX3 31 2 6 := ⟨RX3, TX3, 9, tyX3, rfl, by decide, x_ps inX3 gdX3, tyX3_ok, nmX3, Or.inl (at_x 222 rfl rfl), rfl, Or.inr (Or.inl ⟨rfl, rfl, rfl⟩)⟩
set_option maxRecDepth 100000 in
theorem flX3_34 : FL RX3 34 2 7 := ⟨RX3, TX3, 9, tyX3, rfl, by decide, x_ps inX3 gdX3, tyX3_ok, nmX3, Or.inl (at_x 225 rfl rfl), rfl, Or.inr (Or.inr (Or.inr rfl))⟩
set_option maxRecDepth 100000 in
theorem flX3_38 : FL RX3 38 2 8 := ⟨RX3, TX3, 9, tyX3, rfl, by decide, x_ps inX3 gdX3, tyX3_ok, nmX3, Or.inl (at_x 228 rfl rfl), rfl, Or.inr (Or.inr (Or.inr rfl))⟩
set_option maxRecDepth 100000 in
theorem flX4_12 : FL RX4 12 3 1 := ⟨RX4, TX4, 14, tyX4, rfl, by decide, x_ps inX4 gdX4, tyX4_ok, nmX4, Or.inl (at_x 252 rfl rfl), rfl, Or.inr (Or.inr (Or.inr rfl))⟩
set_option maxRecDepth 100000 in
theorem flX4_18 : FL RX4 18 3 2 := ⟨RX4, TX4, 14, tyX4, rfl, by decide, x_ps inX4 gdX4, tyX4_ok, nmX4, Or.inl (at_x 254 rfl rfl), rfl, Or.inr (Or.inr (Or.inr rfl))⟩
set_option maxRecDepth 100000 in
theorem flX4_22 : FL RX4 22 3 3 := ⟨RX4, TX4, 14, tyX4, rfl, by decide, x_ps inX4 gdX4, tyX4_ok, nmX4, Or.inl (at_x 256 rfl rfl), rfl, Or.inr (Or.inr (Or.inr rfl))⟩
set_option maxRecDepth 100000 in
theorem flX4_25 : FL RX4 25 3 4 := ⟨RX4, TX4, 14, tyX4, rfl, by decide, x_ps inX4 gdX4, tyX4_ok, nmX4, Or.inl (at_x 258 rfl rfl), rfl, Or.inr (Or.inr (Or.inr rfl))⟩
set_option maxRecDepth 100000 in
theorem flX4_28 : FL RX4 28 3 5 := ⟨RX4, TX4, 14, tyX4, rfl, by decide, x_ps inX4 gdX4, tyX4_ok, nmX4, Or.inl (at_x 260 rfl rfl), rfl, Or.inl ⟨rfl, rfl, rfl⟩⟩
set_option maxRecDepth 100000 in
theorem flX4_32 : FL RX4 32 3 6 := ⟨RX4, TX4, 14, tyX4, rfl, by decide, x_ps inX4 gdX4, tyX4_ok, nmX4, Or.inl (at_x 262 rfl rfl), rfl, Or.inl ⟨rfl, rfl, rfl⟩⟩
set_option maxRecDepth 100000 in
theorem flX4_35 : FL RX4 35 3 7 := ⟨RX4, TX4, 14, tyX4, rfl, by decide, x_ps inX4 gdX4, tyX4_ok, nmX4, Or.inl (at_x 263 rfl rfl), rfl, Or.inl ⟨rfl, rfl, rfl⟩⟩
set_option maxRecDepth 100000 in
theorem flX4_40 : FL RX4 40 3 8 := ⟨RX4, TX4, 14, tyX4, rfl, by decide, x_ps inX4 gdX4, tyX4_ok, nmX4, Or.inl (at_x 265 rfl rfl), rfl, Or.inr (Or.inr (Or.inr rfl))⟩
set_option maxRecDepth 100000 in
theorem flX4_44 : FL RX4 44 3 9 := ⟨RX4, TX4, 14, tyX4, rfl, by decide, x_ps inX4 gdX4, tyX4_ok, nmX4, Or.inl (at_x 266 rfl rfl), rfl, Or.inr (Or.inr (Or.inr rfl))⟩
set_option maxRecDepth 100000 in
theorem flX4_48 : FL RX4 48 3 10 := ⟨RX4, TX4, 14, tyX4, rfl, by decide, x_ps inX4 gdX4, tyX4_ok, nmX4, Or.inl (at_x 267 rfl rfl), rfl, Or.inr (Or.inr (Or.inr rfl))⟩
set_option maxRecDepth 100000 in
theorem flX4_51 : FL RX4 51 3 11 := ⟨RX4, TX4, 14, tyX4, rfl, by decide, x_ps inX4 gdX4, tyX4_ok, nmX4, Or.inl (at_x 268 rfl rfl), rfl, Or.inr (Or.inl ⟨rfl, rfl, rfl⟩)⟩
set_option maxRecDepth 100000 in
theorem flX4_55 : FL RX4 55 3 12 := ⟨RX4, TX4, 14, tyX4, rfl, by decide, x_ps inX4 gdX4, tyX4_ok, nmX4, Or.inl (at_x 269 rfl rfl), rfl, Or.inr (Or.inl ⟨rfl, rfl, rfl⟩)⟩
set_option maxRecDepth 100000 in
theorem flX4_58 : FL RX4 58 3 13 := ⟨RX4, TX4, 14, tyX4, rfl, by decide, x_ps inX4 gdX4, tyX4_ok, nmX4, Or.inl (at_x 270 rfl rfl), rfl, Or.inr (Or.inl ⟨rfl, rfl, rfl⟩)⟩
set_option maxRecDepth 100000 in
theorem flX4_61 : FL RX4 61 3 0 := ⟨RX4, TX4, 14, tyX4, rfl, by decide, x_ps inX4 gdX4, tyX4_ok, nmX4, Or.inl (at_x 251 rfl rfl), rfl, Or.inr (Or.inr (Or.inr rfl))⟩
set_option maxRecDepth 100000 in
theorem flX4_73 : FL RX4 73 1 6 := ⟨RX1, TX1, 15, tyX1, rfl, by decide, x_ps inX1 gdX1, tyX1_ok, nmX1, Or.inr ⟨"KeepCount", at_x 116 rfl rfl⟩, rfl, Or.inl ⟨rfl, rfl, rfl⟩⟩
set_option maxRecDepth 100000 in
theorem flX4_78 : FL RX4 78 2 2 := ⟨RX3, TX3, 9, tyX3, rfl, by decide, x_ps inX3 gdX3, tyX3_ok, nmX3, Or.inr ⟨"KeepCount", at_x 211 rfl rfl⟩, rfl, Or.inl ⟨rfl, rfl, rfl⟩⟩
set_option maxRecDepth 100000 in
theorem flX4_81 : FL RX4 81 2 1 := ⟨RX3, TX3, 9, tyX3, rfl, by decide, x_ps inX3 gdX3, tyX3_ok, nmX3, Or.inr ⟨"KeepCount", at_x 208 rfl rfl⟩, rfl, Or.inl ⟨rfl, rfl, rfl⟩⟩
set_option maxRecDepth 100000 in
theorem flX4_92 : FL RX4 92 1 0 := ⟨RX1, TX1, 15, tyX1, rfl, by decide, x_ps inX1 gdX1, tyX1_ok, nmX1, Or.inr ⟨"KeepCount", at_x 98 rfl rfl⟩, rfl, Or.inl ⟨rfl, rfl, rfl⟩⟩
set_option maxRecDepth 100000 in
theorem flX4_95 : FL RX4 95 1 2 := ⟨RX1, TX1, 15, tyX1, rfl, by decide, x_ps inX1 gdX1, tyX1_ok, nmX1, Or.inr ⟨"KeepCount", at_x 105 rfl rfl⟩, rfl, Or.inr (Or.inr (Or.inr rfl))⟩
set_option maxRecDepth 100000 in
theorem flX4_116 : FL RX4 116 1 8 := ⟨RX1, TX1, 15, tyX1, rfl, by decide, x_ps inX1 gdX1, tyX1_ok, nmX1, Or.inr ⟨"KeepCount", at_x 122 rfl rfl⟩, rfl, Or.inl ⟨rfl, rfl, rfl⟩⟩
set_option maxRecDepth 100000 in
theorem flX4_130 : FL RX4 130 1 7 := ⟨RX1, TX1, 15, tyX1, rfl, by decide, x_ps inX1 gdX1, tyX1_ok, nmX1, Or.inr ⟨"KeepCount", at_x 119 rfl rfl⟩, rfl, Or.inl ⟨rfl, rfl, rfl⟩⟩
set_option maxRecDepth 100000 in
theorem flX4_147 : FL RX4 147 0 0 := ⟨RX0, TX0, 3, tyX0, rfl, by decide, x_ps inX0 gdX0, tyX0_ok, nmX0, Or.inr ⟨"KeepCount", at_x 182 rfl rfl⟩, rfl, Or.inl ⟨rfl, rfl, rfl⟩⟩
set_option maxRecDepth 100000 in
theorem flX4_150 : FL RX4 150 0 1 := ⟨RX0, TX0, 3, tyX0, rfl, by decide, x_ps inX0 gdX0, tyX0_ok, nmX0, Or.inr ⟨"KeepCount", at_x 185 rfl rfl⟩, rfl, Or.inr (Or.inr (Or.inr rfl))⟩
set_option maxRecDepth 100000 in
theorem flX4_153 : FL RX4 153 0 2 := ⟨RX0, TX0, 3, tyX0, rfl, by decide, x_ps inX0 gdX0, tyX0_ok, nmX0, Or.inr ⟨"KeepCount", at_x 188 rfl rfl⟩, rfl, Or.inr (Or.inr (Or.inr rfl))⟩
set_option maxRecDepth 100000 in
theorem flX4_172 : FL RX4 172 2 0 := ⟨RX3, TX3, 9, tyX3, rfl, by decide, x_ps inX3 gdX3, tyX3_ok, nmX3, Or.inr ⟨"KeepCount", at_x 205 rfl rfl⟩, rfl, Or.inl ⟨rfl, rfl, rfl⟩⟩
set_option maxRecDepth 100000 in
theorem flX4_173 : FL RX4 173 2 3 := ⟨RX3, TX3, 9, tyX3, rfl, by decide, x_ps inX3 gdX3, tyX3_ok, nmX3, Or.inr ⟨"KeepCount", at_x 214 rfl rfl⟩, rfl, Or.inr (Or.inl ⟨rfl, rfl, rfl⟩)⟩
set_option maxRecDepth 100000 in
theorem flX4_174 : FL RX4 174 2 4 := ⟨RX3, TX3, 9, tyX3, rfl, by decide, x_ps inX3 gdX3, tyX3_ok, nmX3, Or.inr ⟨"KeepCount", at_x 217 rfl rfl⟩, rfl, Or.inr (Or.inl ⟨rfl, rfl, rfl⟩)⟩
set_option maxRecDepth 100000 in
theorem flX4_175 : FL RX4 175 2 5 := ⟨RX3, TX3, 9, tyX3, rfl, by decide, x_ps inX3 gdX3, tyX3_ok, nmX3, Or.inr ⟨"KeepCount", at_x 220 rfl rfl⟩, rfl, Or.inr (Or.inl ⟨rfl, rfl, rfl⟩)⟩
set_option maxRecDepth 100000 in
theorem flX4_177 : FL RX4 177 2 6 := ⟨RX3, TX3, 9, tyX3, rfl, by decide, x_ps inX3 gdX3, tyX3_ok, nmX3, Or.inr ⟨"KeepCount", at_x 223 rfl rfl⟩, rfl, Or.inr (Or.inl ⟨rfl, rfl, rfl⟩)⟩
set_option maxRecDepth 100000 in
theorem flX4_178 : FL RX4 178 2 7 := ⟨RX3, TX3, 9, tyX3, rfl, by decide, x_ps inX3 gdX3, tyX3_ok, nmX3, Or.inr ⟨"KeepCount", at_x 226 rfl rfl⟩, rfl, Or.inr (Or.inr (Or.inr rfl))⟩
set_option maxRecDepth 100000 in
theorem flX4_179 : FL RX4 179 2 8 := ⟨RX3, TX3, 9, tyX3, rfl, by decide, x_ps inX3 gdX3, tyX3_ok, nmX3, Or.inr ⟨"KeepCount", at_x 229 rfl rfl⟩, rfl, Or.inr (Or.inr (Or.inr rfl))⟩
set_option maxRecDepth 100000 in
theorem flX4_195 : FL RX4 195 1 1 := ⟨RX1, TX1, 15, tyX1, rfl, by decide, x_ps inX1 gdX1, tyX1_ok, nmX1, Or.inr ⟨"KeepCount", at_x 101 rfl rfl⟩, rfl, Or.inr (Or.inr (Or.inr rfl))⟩
set_option maxRecDepth 100000 in
theorem flX5_9 : FL RX5 9 4 0 := ⟨RX5, TX5, 3, tyX5, rfl, by decide, x_ps inX5 gdX5, tyX5_ok, nmX5, Or.inl (at_x 363 rfl rfl), rfl, Or.inl ⟨rfl, rfl, rfl⟩⟩
set_option maxRecDepth 100000 in
theorem flX5_15 : FL RX5 15 4 1 := ⟨RX5, TX5, 3, tyX5, rfl, by decide, x_ps inX5 gdX5, tyX5_ok, nmX5, Or.inl (at_x 365 rfl rfl), rfl, Or.inl ⟨rfl, rfl, rfl⟩⟩
set_option maxRecDepth 100000 in
theorem flX5_18 : FL RX5 18 4 2 := ⟨RX5, TX5, 3, tyX5, rfl, by decide, x_ps inX5 gdX5, tyX5_ok, nmX5, Or.inl (at_x 367 rfl rfl), rfl, Or.inr (Or.inr (Or.inr rfl))⟩
set_option maxRecDepth 100000 in
theorem flX6_9 : FL RX6 9 5 0 := ⟨RX6, TX6, 8, tyX6, rfl, by decide, x_ps inX6 gdX6, tyX6_ok, nmX6, Or.inl (at_x 306 rfl rfl), rfl, Or.inl ⟨rfl, rfl, rfl⟩⟩
set_option maxRecDepth 100000 in
theorem flX6_15 : FL RX6 15 5 1 := ⟨RX6, TX6, 8, tyX6, rfl, by decide, x_ps inX6 gdX6, tyX6_ok, nmX6, Or.inl (at_x 308 rfl rfl), rfl, Or.inr (Or.inr (Or.inr rfl))⟩
set_option maxRecDepth 100000 in
theorem flX6_19 : FL RX6 19 5 2 := ⟨RX6, TX6, 8, tyX6, rfl, by decide, x_ps inX6 gdX6, tyX6_ok, nmX6, Or.inl (at_x 310 rfl rfl), rfl, Or.inl ⟨rfl, rfl, rfl⟩⟩
set_option maxRecDepth 100000 in
theorem flX6_22 : FL RX6 22 5 3 := ⟨RX6, TX6, 8, tyX6, rfl, by decide, x_ps inX6 gdX6, tyX6_ok, nmX6, Or.inl (at_x 312 rfl rfl), rfl, Or.inr (Or.inr (Or.inr rfl))⟩
set_option maxRecDepth 100000 in
theorem flX6_25 : FL RX6 25 5 4 := ⟨RX6, TX6, 8, tyX6, rfl, by decide, x_ps inX6 gdX6, tyX6_ok, nmX6, Or.inl (at_x 314 rfl rfl), rfl, Or.inr (Or.inr (Or.inr rfl))⟩
set_option maxRecDepth 100000 in
theorem flX6_28 : FL RX6 28 5 5 := ⟨RX6, TX6, 8, tyX6, rfl, by decide, x_ps inX6 gdX6, tyX6_ok, nmX6, Or.inl (at_x 316 rfl rfl), rfl, Or.inr (Or.inr (Or.inr rfl))⟩
set_option maxRecDepth 100000 in
theorem flX6_31 : FL RX6 31 5 6 := ⟨RX6, TX6, 8, tyX6, rfl, by decide, x_ps inX6 gdX6, tyX6_ok, nmX6, Or.inl (at_x 318 rfl rfl), rfl, Or.inl ⟨rfl, rfl, rfl⟩⟩
set_option maxRecDepth 100000 in
theorem flX6_34 : FL RX6 34 5 7 := ⟨RX6, TX6, 8, tyX6, rfl, by decide, x_ps inX6 gdX6, tyX6_ok, nmX6, Or.inl (at_x 319 rfl rfl), rfl, Or.inr (Or.inr (Or.inl ⟨rfl, rfl, rfl⟩))⟩
set_option maxRecDepth 100000 in
theorem flX7_7 : FL RX7 7 6 0 := ⟨RX7, TX7, 3, tyX7, rfl, by decide, x_ps inX7 gdX7, tyX7_ok, nmX7, Or.inl (at_x 343 rfl rfl), rfl, Or.inl ⟨rfl, rfl, rfl⟩⟩
set_option maxRecDepth 100000 in
theorem flX7_13 : FL RX7 13 6 1 := ⟨RX7, TX7, 3, tyX7, rfl, by decide, x_ps inX7 gdX7, tyX7_ok, nmX7, Or.inl (at_x 345 rfl rfl), rfl, Or.inr (Or.inr (Or.inr rfl))⟩
set_option maxRecDepth 100000 in
theorem flX7_17 : FL RX7 17 6 2 := ⟨RX7, TX7, 3, tyX7, rfl, by decide, x_ps inX7 gdX7, tyX7_ok, nmX7, Or.inl (at_x 347 rfl rfl), rfl, Or.inr (Or.inr (Or.inr rfl))⟩
set_option maxRecDepth 100000 in
theorem flX9_11 : FL RX9 11 8 2 := ⟨RX9, TX9, 69, tyX9, rfl, by decide, x_ps inX9 gdX9, tyX9_ok, nmX9, Or.inl (at_x 850 rfl rfl), rfl, Or.inr (Or.inr (Or.inr rfl))⟩
set_option maxRecDepth 100000 in
theorem flX9_15 : FL RX9 15 8 3 := ⟨RX9, TX9, 69, tyX9, rfl, by decide, x_ps inX9 gdX9, tyX9_ok, nmX9, Or.inl (at_x 851 rfl rfl), rfl, Or.inr (Or.inr (Or.inr rfl))⟩
set_option maxRecDepth 100000 in
theorem flX9_19 : FL RX9 19 8 4 := ⟨RX9, TX9, 69, tyX9, rfl, by decide, x_ps inX9 gdX9, tyX9_ok, nmX9, Or.inl (at_x 852 rfl rfl), rfl, Or.inr (Or.inr (Or.inr rfl))⟩
set_option maxRecDepth 100000 in
theorem flX9_22 : FL RX9 22 8 5 := ⟨RX9, TX9, 69, tyX9, rfl, by decide, x_ps inX9 gdX9, tyX9_ok, nmX9, Or.inl (at_x 853 rfl rfl), rfl, Or.inr (Or.inr (Or.inr rfl))⟩
set_option maxRecDepth 100000 in
theorem flX9_25 : FL RX9 25 8 6 := ⟨RX9, TX9, 69, tyX9, rfl, by decide, x_ps inX9 gdX9, tyX9_ok, nmX9, Or.inl (at_x 854 rfl rfl), rfl, Or.inl ⟨rfl, rfl, rfl⟩⟩
set_option maxRecDepth 100000 in
theorem flX9_29 : FL RX9 29 8 7 := ⟨RX9, TX9, 69, tyX9, rfl, by decide, x_ps inX9 gdX9, tyX9_ok, nmX9, Or.inl (at_x 855 rfl rfl), rfl, Or.inl ⟨rfl, rfl, rfl⟩⟩
set_option maxRecDepth 100000 in
theorem flX9_32 : FL RX9 32 8 8 := ⟨RX9, TX9, 69, tyX9, rfl, by decide, x_ps inX9 gdX9, tyX9_ok, nmX9, Or.inl (at_x 856 rfl rfl), rfl, Or.inl ⟨rfl, rfl, rfl⟩⟩
set_option maxRecDepth 100000 in
theorem flX9_35 : FL RX9 35 8 11 := ⟨RX9, TX9, 69, tyX9, rfl, by decide, x_ps inX9 gdX9, tyX9_ok, nmX9, Or.inl (at_x 859 rfl rfl), rfl, Or.inr (Or.inr (Or.inr rfl))⟩
set_option maxRecDepth 100000 in
theorem flX9_38 : FL RX9 38 8 12 := ⟨RX9, TX9, 69, tyX9, rfl, by decide, x_ps inX9 gdX9, tyX9_ok, nmX9, Or.inl (at_x 860 rfl rfl), rfl, Or.inr (Or.inr (Or.inr rfl))⟩
set_option maxRecDepth 100000 in
theorem flX9_41 : FL RX9 41 8 13 := ⟨RX9, TX9, 69, tyX9, rfl, by decide, x_ps inX9 gdX9, tyX9_ok, nmX9, Or.inl (at_x 861 rfl rfl), rfl, Or.inr (Or.inr (Or.inr rfl))⟩
set_option maxRecDepth 100000 in
theorem flX9_44 : FL RX9 44 8 14 := ⟨RX9, TX9, 69, tyX9, rfl, by decide, x_ps inX9 gdX9, tyX9_ok, nmX9, Or.inl (at_x 862 rfl rfl), rfl, Or.inr (Or.inr (Or.inr rfl))⟩
set_option maxRecDepth 100000 in
theorem flX9_47 : FL RX9 47 8 16 := ⟨RX9, TX9, 69, tyX9, rfl, by decide, x_ps inX9 gdX9, tyX9_ok, nmX9, Or.inl (at_x 864 rfl rfl), rfl, Or.inr (Or.inr (Or.inr rfl))⟩
set_option maxRecDepth 100000 in
theorem flX9_50 : FL RX9 50 8 17 := ⟨RX9, TX9, 69, tyX9, rfl, by decide, x_ps inX9 gdX9, tyX9_ok, nmX9, Or.inl (at_x 865 rfl rfl), rfl, Or.inr (Or.inr (Or.inr rfl))⟩
set_option maxRecDepth 100000 in
theorem flX9_53 : FL RX9 53 8 19 := ⟨RX9, TX9, 69, tyX9, rfl, by decide, x_ps inX9 gdX9, tyX9_ok, nmX9, Or.inl (at_x 867 rfl rfl), rfl, Or.inr (Or.inr (Or.inr rfl))⟩
set_option maxRecDepth 100000 in
theorem flX9_56 : FL RX9 56 8 20 := ⟨RX9, TX9, 69, tyX9, rfl, by decide, x_ps inX9 gdX9, tyX9_ok, nmX9, Or.inl (at_x 868 rfl rfl), rfl, Or.inr (Or.inr (Or.inr rfl))⟩
set_option maxRecDepth 100000 in
theorem flX9_59 : FL RX9 59 8 21 := ⟨RX9, TX9, 69, tyX9, rfl, by decide, x_ps inX9 gdX9, tyX9_ok, nmX9, Or.inl (at_x 869 rfl rfl), rfl, Or.inr (Or.inr (Or.inr rfl))⟩
set_option maxRecDepth 100000 in
theorem flX9_62 : FL RX9 62 8 24 := ⟨RX9, TX9, 69, tyX9, rfl, by decide, x_ps inX9 gdX9, tyX9_ok, nmX9, Or.inl (at_x 872 rfl rfl), rfl, Or.inr (Or.inr (Or.inr rfl))⟩
set_option maxRecDepth 100000 in
theorem flX9_65 : FL RX9 65 8 25 := ⟨RX9, TX9, 69, tyX9, rfl, by decide, x_ps inX9 gdX9, tyX9_ok, nmX9, Or.inl (at_x 873 rfl rfl), rfl, Or.inr (Or.inr (Or.inr rfl))⟩
set_option maxRecDepth 100000 in
theorem flX9_68 : FL RX9 68 8 26 := ⟨RX9, TX9, 69, tyX9, rfl, by decide, x_ps inX9 gdX9, tyX9_ok, nmX9, Or.inl (at_x 874 rfl rfl), rfl, Or.inr (Or.inr (Or.inr rfl))⟩
set_option maxRecDepth 100000 in
theorem flX9_71 : FL RX9 71 8 27 := ⟨RX9, TX9, 69, tyX9, rfl, by decide, x_ps inX9 gdX9, tyX9_ok, nmX9, Or.inl (at_x 875 rfl rfl), rfl, Or.inr (Or.inr (Or.inr rfl))⟩
set_option maxRecDepth 100000 in
theorem flX9_74 : FL RX9 74 8 28 := ⟨RX9, TX9, 69, tyX9, rfl, by decide, x_ps inX9 gdX9, tyX9_ok, nmX9, Or.inl (at_x 876 rfl rfl), rfl, Or.inr (Or.inr (Or.inr rfl))⟩
set_option maxRecDepth 100000 in
theorem flX9_78 : FL RX9 78 8 33 := ⟨RX9, TX9, 69, tyX9, rfl, by decide, x_ps inX9 gdX9, tyX9_ok, nmX9, Or.inl (at_x 881 rfl rfl), rfl, Or.inr (Or.inr (Or.inr rfl))⟩
set_option maxRecDepth 100000 in
theorem flX9_81 : FL RX9 81 8 34 := ⟨RX9, TX9, 69, tyX9, rfl, by decide, x_ps inX9 gdX9, tyX9_ok, nmX9, Or.inl (at_x 882 rfl rfl), rfl, Or.inr (Or.inr (Or.inr rfl))⟩
set_option maxRecDepth 100000 in
theorem flX9_84 : FL RX9 84 8 35 := ⟨RX9, TX9, 69, tyX9, rfl, by decide, x_ps inX9 gdX9, tyX9_ok, nmX9, Or.inl (at_x 883 rfl rfl), rfl, Or.inr (Or.inr (Or.inr rfl))⟩
set_option maxRecDepth 100000 in
theorem flX9_87 : FL RX9 87 8 36 := ⟨RX9, TX9, 69, tyX9, rfl, by decide, x_ps inX9 gdX9, tyX9_ok, nmX9, Or.inl (at_x 884 rfl rfl), rfl, Or.inr (Or.inr (Or.inr rfl))⟩
set_option maxRecDepth 100000 in
theorem flX9_90 : FL RX9 90 8 37 := ⟨RX9, TX9, 69, tyX9, rfl, by decide, x_ps inX9 gdX9, tyX9_ok, nmX9, Or.inl (at_x 885 rfl rfl), rfl, Or.inr (Or.inr (Or.inr rfl))⟩
set_option maxRecDepth 100000 in
theorem flX9_93 : FL RX9 93 8 38 := ⟨RX9, TX9, 69, tyX9, rfl, by decide, x_ps inX9 gdX9, tyX9_ok, nmX9, Or.inl (at_x 886 rfl rfl), rfl, Or.inr (Or.inr (Or.inr rfl))⟩
set_option maxRecDepth 100000 in
theorem flX9_96 : FL RX9 96 8 39 := ⟨RX9, TX9, 69, tyX9, rfl, by decide, x_ps inX9 gdX9, tyX9_ok, nmX9, Or.inl (at_x 887 rfl rfl), rfl, Or.inr (Or.inr (Or.inr rfl))⟩
set_option maxRecDepth 100000 in
theorem flX9_99 : FL RX9 99 8 40 := ⟨RX9, TX9, 69, tyX9, rfl, by decide, x_ps inX9 gdX9, tyX9_ok, nmX9, Or.inl (at_x 888 rfl rfl), rfl, Or.inr (Or.inr (Or.inr rfl))⟩
set_option maxRecDepth 100000 in
theorem flX9_102 : FL RX9 102 8 41 := ⟨RX9, TX9, 69, tyX9, rfl, by decide, x_ps inX9 gdX9, tyX9_ok, nmX9, Or.inl (at_x 889 rfl rfl), rfl, Or.inr (Or.inr (Or.inr rfl))⟩
set_option maxRecDepth 100000 in
theorem flX9_105 : FL RX9 105 8 42 := ⟨RX9, TX9, 69, tyX9, rfl, by decide, x_ps inX9 gdX9, tyX9_ok, nmX9, Or.inl (at_x 890 rfl rfl), rfl, Or.inr (Or.inr (Or.inr rfl))⟩
set_option maxRecDepth 100000 in
theorem flX9_108 : FL RX9 108 8 43 := ⟨RX9, TX9, 69, tyX9, rfl, by decide, x_ps inX9 gdX9, tyX9_ok, nmX9, Or.inl (at_x 891 rfl rfl), rfl, Or.inr (Or.inr (Or.inr rfl))⟩
set_option maxRecDepth 100000 in
theorem flX9_111 : FL RX9 111 8 44 := ⟨RX9, TX9, 69, tyX9, rfl, by decide, x_ps inX9 gdX9, tyX9_ok, nmX9, Or.inl (at_x 892 rfl rfl), rfl, Or.inr (Or.inr (Or.inr rfl))⟩
set_option maxRecDepth 100000 in
theorem flX9_114 : FL RX9 114 8 45 := ⟨RX9, TX9, 69, tyX9, rfl, by decide, x_ps inX9 gdX9, tyX9_ok, nmX9, Or.inl (at_x 893 rfl rfl), rfl, Or.inr (Or.inr (Or.inr rfl))⟩
set_option maxRecDepth 100000 in
theorem flX9_117 : FL RX9 117 8 52 := ⟨RX9, TX9, 69, tyX9, rfl, by decide, x_ps inX9 gdX9, tyX9_ok, nmX9, Or.inl (at_x 900 rfl rfl), rfl, Or.inr (Or.inr (Or.inr rfl))⟩
set_option maxRecDepth 100000 in
theorem flX9_120 : FL RX9 120 8 53 := ⟨RX9, TX9, 69, tyX9, rfl, by decide, x_ps inX9 gdX9, tyX9_ok, nmX9, Or.inl (at_x 901 rfl rfl), rfl, Or.inr (Or.inr (Or.inr rfl))⟩
set_option maxRecDepth 100000 in
theorem flX9_123 : FL RX9 123 8 54 := ⟨RX9, TX9, 69, tyX9, rfl, by decide, x_ps inX9 gdX9, tyX9_ok, nmX9, Or.inl (at_x 902 rfl rfl), rfl, Or.inr (Or.inr (Or.inr rfl))⟩
set_option maxRecDepth 100000 in
theorem flX9_126 : FL RX9 126 8 56 := ⟨RX9, TX9, 69, tyX9, rfl, by decide, x_ps inX9 gdX9, tyX9_ok, nmX9, Or.inl (at_x 904 rfl rfl), rfl, Or.inr (Or.inr (Or.inr rfl))⟩
set_option maxRecDepth 100000 in
theorem flX9_129 : FL RX9 129 8 57 := ⟨RX9, TX9, 69, tyX9, rfl, by decide, x_ps inX9 gdX9, tyX9_ok, nmX9, Or.inl (at_x 905 rfl rfl), rfl, Or.inr (Or.inr (Or.inr rfl))⟩
set_option maxRecDepth 100000 in
theorem flX9_132 : FL RX9 132 8 58 := ⟨RX9, TX9, 69, tyX9, rfl, by decide, x_ps inX9 gdX9, tyX9_ok, nmX9, Or.inl (at_x 906 rfl rfl), rfl, Or.inr (Or.inr (Or.inr rfl))⟩
set_option maxRecDepth 100000 in
theorem flX9_135 : FL RX9 135 8 59 := ⟨RX9, TX9, 69, tyX9, rfl, by decide, x_ps inX9 gdX9, tyX9_ok, nmX9, Or.inl (at_x 907 rfl rfl), rfl, Or.inr (Or.inr (Or.inr rfl))⟩
set_option maxRecDepth 100000 in
theorem flX9_138 : FL RX9 138 8 60 := ⟨RX9, TX9, 69, tyX9, rfl, by decide, x_ps inX9 gdX9, tyX9_ok, nmX9, Or.inl (at_x 908 rfl rfl), rfl, Or.inr (Or.inr (Or.inr rfl))⟩
set_option maxRecDepth 100000 in
theorem flX9_141 : FL RX9 141 8 61 := ⟨RX9, TX9, 69, tyX9, rfl, by decide, x_ps inX9 gdX9, tyX9_ok, nmX9, Or.inl (at_x 909 rfl rfl), rfl, Or.inr (Or.inr (Or.inr rfl))⟩
set_option maxRecDepth 100000 in
theorem flX9_144 : FL RX9 144 8 62 := ⟨RX9, TX9, 69, tyX9, rfl, by decide, x_ps inX9 gdX9, tyX9_ok, nmX9, Or.inl (at_x 910 rfl rfl), rfl, Or.inr (Or.inr (Or.inr rfl))⟩
set_option maxRecDepth 100000 in
theorem flX9_147 : FL RX9 147 8 63 := ⟨RX9, TX9, 69, tyX9, rfl, by decide, x_ps inX9 gdX9, tyX9_ok, nmX9, Or.inl (at_x 911 rfl rfl), rfl, Or.inr (Or.inr (Or.inr rfl))⟩
set_option maxRecDepth 100000 in
theorem flX9_150 : FL RX9 150 8 64 := ⟨RX9, TX9, 69, tyX9, rfl, by decide, x_ps inX9 gdX9, tyX9_ok, nmX9, Or.inl (at_x 912 rfl rfl), rfl, Or.inr (Or.inr (Or.inr rfl))⟩
set_option maxRecDepth 100000 in
theorem flX9_153 : FL RX9 153 8 65 := ⟨RX9, TX9, 69, tyX9, rfl, by decide, x_ps inX9 gdX9, tyX9_ok, nmX9, Or.inl (at_x 913 rfl rfl), rfl, Or.inr (Or.inr (Or.inr rfl))⟩
set_option maxRecDepth 100000 in
theorem flX9_156 : FL RX9 156 8 66 := ⟨RX9, TX9, 69, tyX9, rfl, by decide, x_ps inX9 gdX9, tyX9_ok, nmX9, Or.inl (at_x 914 rfl rfl), rfl, Or.inr (Or.inr (Or.inr rfl))⟩
set_option maxRecDepth 100000 in
theorem flX9_161 : FL RX9 161 8 67 := ⟨RX9, TX9, 69, tyX9, rfl, by decide, x_ps inX9 gdX9, tyX9_ok, nmX9, Or.inl (at_x 915 rfl rfl), rfl, Or.inr (Or.inr (Or.inr rfl))⟩
set_option maxRecDepth 100000 in
theorem flX9_164 : FL RX9 164 8 68 := ⟨RX9, TX9, 69, tyX9, rfl, by decide, x_ps inX9 gdX9, tyX9_ok, nmX9, Or.inl (at_x 916 rfl rfl), rfl, Or.inr (Or.inr (Or.inr rfl))⟩
set_option maxRecDepth 100000 in
theorem flX9_167 : FL RX9 167 8 0 := ⟨RX9, TX9, 69, tyX9, rfl, by decide, x_ps inX9 gdX9, tyX9_ok, nmX9, Or.inl (at_x 848 rfl rfl), rfl, Or.inl ⟨rfl, rfl, rfl⟩⟩
set_option maxRecDepth 100000 in
theorem flX9_174 : FL RX9 174 8 1 := ⟨RX9, TX9, 69, tyX9, rfl, by decide, x_ps inX9 gdX9, tyX9_ok, nmX9, Or.inl (at_x 849 rfl rfl), rfl, Or.inl ⟨rfl, rfl, rfl⟩⟩
set_option maxRecDepth 100000 in
theorem flX9_187 : FL RX9 187 8 15 := ⟨RX9, TX9, 69, tyX9, rfl, by decide, x_ps inX9 gdX9, tyX9_ok, nmX9, Or.inl (at_x 863 rfl rfl), rfl, Or.inl ⟨rfl, rfl, rfl⟩⟩
set_option maxRecDepth 100000 in
theorem flX9_225 : FL RX9 225 8 18 := ⟨RX9, TX9, 69, tyX9, rfl, by decide, x_ps inX9 gdX9, tyX9_ok, nmX9, Or.inl (at_x 866 rfl rfl), rfl, Or.inl ⟨rfl, rfl, rfl⟩⟩
set_option maxRecDepth 100000 in
theorem flX9_235 : FL RX9 235 8 30 := ⟨RX9, TX9, 69, tyX9, rfl, by decide, x_ps inX9 gdX9, tyX9_ok, nmX9, Or.inl (at_x 878 rfl rfl), rfl, Or.inr (Or.inl ⟨rfl, rfl, rfl⟩)⟩
set_option maxRecDepth 100000 in
theorem flX9_239 : FL RX9 239 8 32 := ⟨RX9, TX9, 69, tyX9, rfl, by decide, x_ps inX9 gdX9, tyX9_ok, nmX9, Or.inl (at_x 880 rfl rfl), rfl, Or.inr (Or.inl ⟨rfl, rfl, rfl⟩)⟩
set_option maxRecDepth 100000 in
theorem flX9_242 : FL RX9 242 8 29 := ⟨RX9, TX9, 69, tyX9, rfl, by decide, x_ps inX9 gdX9, tyX9_ok, nmX9, Or.inl (at_x 877 rfl rfl), rfl, Or.inr (Or.inl ⟨rfl, rfl, rfl⟩)⟩
set_option maxRecDepth 100000 in
theorem flX9_248 : FL RX9 248 8 22 := ⟨RX9, TX9, 69, tyX9, rfl, by decide, x_ps inX9 gdX9, tyX9_ok, nmX9, Or.inl (at_x 870 rfl rfl), rfl, Or.inl ⟨rfl, rfl, rfl⟩⟩
set_option maxRecDepth 100000 in
theorem flX9_251 : FL RX9 251 8 23 := ⟨RX9, TX9, 69, tyX9, rfl, by decide, x_ps inX9 gdX9, tyX9_ok, nmX9, Or.inl (at_x 871 rfl rfl), rfl, Or.inl ⟨rfl, rfl, rfl⟩⟩
set_option maxRecDepth 100000 in
theorem flX9_260 : FL RX9 260 8 31 := ⟨RX9, TX9, 69, tyX9, rfl, by decide, x_ps inX9 gdX9, tyX9_ok, nmX9, Or.inl (at_x 879 rfl rfl), rfl, Or.inr (Or.inl ⟨rfl, rfl, rfl⟩)⟩
set_option maxRecDepth 100000 in
theorem flX9_360 : FL RX9 360 8 9 := ⟨RX9, TX9, 69, tyX9, rfl, by decide, x_ps inX9 gdX9, tyX9_ok, nmX9, Or.inl (at_x 857 rfl rfl), rfl, Or.inl ⟨rfl, rfl, rfl⟩⟩
set_option maxRecDepth 100000 in
theorem flX9_366 : FL RX9 366 8 10 := ⟨RX9, TX9, 69, tyX9, rfl, by decide, x_ps inX9 gdX9, tyX9_ok, nmX9, Or.inl (at_x 858 rfl rfl), rfl, Or.inl ⟨rfl, rfl, rfl⟩⟩
set_option maxRecDepth 100000 in
theorem flX9_374 : FL RX9 374 8 46 := ⟨RX9, TX9, 69, tyX9, rfl, by decide, x_ps inX9 gdX9, tyX9_ok, nmX9, Or.inl (at_x 894 rfl rfl), rfl, Or.inl ⟨rfl, rfl, rfl⟩⟩
set_option maxRecDepth 100000 in
theorem flX9_377 : FL RX9 377 8 48 := ⟨RX9, TX9, 69, tyX9, rfl, by decide, x_ps inX9 gdX9, tyX9_ok, nmX9, Or.inl (at_x 896 rfl rfl), rfl, Or.inl ⟨rfl, rfl, rfl⟩⟩
set_option maxRecDepth 100000 in
theorem flX9_380 : FL RX9 380 8 47 := ⟨RX9, TX9, 69, tyX9, rfl, by decide, x_ps inX9 gdX9, tyX9_ok, nmX9, Or.inl (at_x 895 rfl rfl), rfl, Or.inl ⟨rfl, rfl, rfl⟩⟩
set_option maxRecDepth 100000 in
theorem flX9_383 : FL RX9 383 8 51 := ⟨RX9, TX9, 69, tyX9, rfl, by decide, x_ps inX9 gdX9, tyX9_ok, nmX9, Or.inl (at_x 899 rfl rfl), rfl, Or.inr (Or.inr (Or.inl ⟨rfl, rfl, rfl⟩))⟩
set_option maxRecDepth 100000 in
theorem flX9_397 : FL RX9 397 8 50 := ⟨RX9, TX9, 69, tyX9, rfl, by decide, x_ps inX9 gdX9, tyX9_ok, nmX9, Or.inl (at_x 898 rfl rfl), rfl, Or.inl ⟨rfl, rfl, rfl⟩⟩
set_option maxRecDepth 100000 in
theorem flX9_400 : FL RX9 400 8 49 := ⟨RX9, TX9, 69, tyX9, rfl, by decide, x_ps inX9 gdX9, tyX9_ok, nmX9, Or.inl (at_x 897 rfl rfl), rfl, Or.inl ⟨rfl, rfl, rfl⟩⟩
set_option maxRecDepth 100000 in
theorem flX9_431 : FL RX9 431 8 55 := ⟨RX9, TX9, 69, tyX9, rfl, by decide, x_ps inX9 gdX9, tyX9_ok, nmX9, Or.inl (at_x 903 rfl rfl), rfl, Or.inr (Or.inr (Or.inl ⟨rfl, rfl, rfl⟩))⟩
set_option maxRecDepth 100000 in
theorem mlX8_76 : Cond.methodLink RX8 76 mX2_isRow.1 ∈ xtbl := at_x 415 rfl rfl
set_option maxRecDepth 100000 in
theorem mlX8_86 : Cond.methodLink RX8 86 mX8_isOver.1 ∈ xtbl := at_x 422 rfl rfl
set_option maxRecDepth 100000 in
theorem mlX8_92 : Cond.methodLink RX8 92 mX2_filledUp.1 ∈ xtbl := at_x 439 rfl rfl
set_option maxRecDepth 100000 in
theorem mlX8_99 : Cond.methodLink RX8 99 mX1_hasBallot.1 ∈ xtbl := at_x 446 rfl rfl
set_option maxRecDepth 100000 in
theorem mlX8_103 : Cond.methodLink RX8 103 mX1_hasCandidate.1 ∈ xtbl := at_x 458 rfl rfl
set_option maxRecDepth 100000 in
theorem mlX8_106 : Cond.methodLink RX8 106 mX8_putSeats.1 ∈ xtbl := at_x 466 rfl rfl
set_option maxRecDepth 100000 in
theorem mlX8_110 : Cond.methodLink RX8 110 mX8_putLimit.1 ∈ xtbl := at_x 471 rfl rfl
set_option maxRecDepth 100000 in
theorem mlX8_113 : Cond.methodLink RX8 113 mX8_putRounds.1 ∈ xtbl := at_x 475 rfl rfl
set_option maxRecDepth 100000 in
theorem mlX8_125 : Cond.methodLink RX8 125 Lib.Math.max.name ∈ xtbl := at_x 426 rfl rfl
set_option maxRecDepth 100000 in
theorem mlX8_133 : Cond.methodLink RX8 133 mX7_begin.1 ∈ xtbl := at_x 430 rfl rfl
set_option maxRecDepth 100000 in
theorem mlX8_137 : Cond.methodLink RX8 137 mX7_addCause.1 ∈ xtbl := at_x 438 rfl rfl
set_option maxRecDepth 100000 in
theorem mlX8_140 : Cond.methodLink RX8 140 mX4_work.1 ∈ xtbl := at_x 491 rfl rfl
set_option maxRecDepth 100000 in
theorem mlX8_143 : Cond.methodLink RX8 143 mX8_tallied.1 ∈ xtbl := at_x 487 rfl rfl
set_option maxRecDepth 100000 in
theorem mlX8_153 : Cond.methodLink RX8 153 mX1_placeInLot.1 ∈ xtbl := at_x 585 rfl rfl
set_option maxRecDepth 100000 in
theorem mlX8_156 : Cond.methodLink RX8 156 mX1_manyFirst.1 ∈ xtbl := at_x 589 rfl rfl
set_option maxRecDepth 100000 in
theorem mlX8_159 : Cond.methodLink RX8 159 mX2_length.1 ∈ xtbl := at_x 603 rfl rfl
set_option maxRecDepth 100000 in
theorem mlX8_162 : Cond.methodLink RX8 162 mX1_firstHere.1 ∈ xtbl := at_x 606 rfl rfl
set_option maxRecDepth 100000 in
theorem mlX8_165 : Cond.methodLink RX8 165 mX2_at.1 ∈ xtbl := at_x 611 rfl rfl
set_option maxRecDepth 100000 in
theorem mlX8_174 : Cond.methodLink RX8 174 mX4_whoIs.1 ∈ xtbl := at_x 616 rfl rfl
set_option maxRecDepth 100000 in
theorem mlX8_186 : Cond.methodLink RX8 186 mX4_stageAt.1 ∈ xtbl := at_x 621 rfl rfl
set_option maxRecDepth 100000 in
theorem mlX8_224 : Cond.methodLink RX8 224 mX4_rankAt.1 ∈ xtbl := at_x 642 rfl rfl
set_option maxRecDepth 100000 in
theorem mlX8_227 : Cond.methodLink RX8 227 mX4_whoIsHere.1 ∈ xtbl := at_x 651 rfl rfl
set_option maxRecDepth 100000 in
theorem mlX8_231 : Cond.methodLink RX8 231 mX4_leader.1 ∈ xtbl := at_x 655 rfl rfl
set_option maxRecDepth 100000 in
theorem mlX8_236 : Cond.methodLink RX8 236 mX2_asTold.1 ∈ xtbl := at_x 660 rfl rfl
set_option maxRecDepth 100000 in
theorem mlX8_240 : Cond.methodLink RX8 240 mX1_manyAhead.1 ∈ xtbl := at_x 667 rfl rfl
set_option maxRecDepth 100000 in
theorem mlX8_243 : Cond.methodLink RX8 243 mX8_beatsAll.1 ∈ xtbl := at_x 678 rfl rfl
set_option maxRecDepth 100000 in
theorem mlX8_246 : Cond.methodLink RX8 246 mX8_commonDivisor.1 ∈ xtbl := at_x 686 rfl rfl
set_option maxRecDepth 100000 in
theorem mlX8_250 : Cond.methodLink RX8 250 mX8_cut.1 ∈ xtbl := at_x 689 rfl rfl
set_option maxRecDepth 100000 in
theorem mlX8_253 : Cond.methodLink RX8 253 mX1_copyFrom.1 ∈ xtbl := at_x 694 rfl rfl
set_option maxRecDepth 100000 in
theorem mlX8_256 : Cond.methodLink RX8 256 mX8_electedInThought.1 ∈ xtbl := at_x 698 rfl rfl
set_option maxRecDepth 100000 in
theorem mlX8_259 : Cond.methodLink RX8 259 mX2_ledBy.1 ∈ xtbl := at_x 706 rfl rfl
set_option maxRecDepth 100000 in
theorem mlX8_262 : Cond.methodLink RX8 262 mX1_together.1 ∈ xtbl := at_x 713 rfl rfl
set_option maxRecDepth 100000 in
theorem mlX8_275 : Cond.methodLink RX8 275 mX1_isSeenSo.1 ∈ xtbl := at_x 725 rfl rfl
set_option maxRecDepth 100000 in
theorem mlX8_287 : Cond.methodLink RX8 287 mX1_suffer.1 ∈ xtbl := at_x 737 rfl rfl
set_option maxRecDepth 100000 in
theorem mlX8_294 : Cond.methodLink RX8 294 mX6_faultToldTo.1 ∈ xtbl := at_x 754 rfl rfl
set_option maxRecDepth 100000 in
theorem mlX8_310 : Cond.methodLink RX8 310 mX8_isDone.1 ∈ xtbl := at_x 776 rfl rfl
set_option maxRecDepth 100000 in
theorem mlX8_314 : Cond.methodLink RX8 314 mX8_candidate.1 ∈ xtbl := at_x 780 rfl rfl
set_option maxRecDepth 100000 in
theorem mlX8_317 : Cond.methodLink RX8 317 mX8_ballot.1 ∈ xtbl := at_x 781 rfl rfl
set_option maxRecDepth 100000 in
theorem mlX8_320 : Cond.methodLink RX8 320 mX8_set.1 ∈ xtbl := at_x 782 rfl rfl
set_option maxRecDepth 100000 in
theorem mlX8_323 : Cond.methodLink RX8 323 mX8_gone.1 ∈ xtbl := at_x 783 rfl rfl
set_option maxRecDepth 100000 in
theorem mlX8_334 : Cond.methodLink RX8 334 mX8_tapeAt.1 ∈ xtbl := at_x 792 rfl rfl
set_option maxRecDepth 100000 in
theorem mlX8_344 : Cond.methodLink RX8 344 mX5_become.1 ∈ xtbl := at_x 812 rfl rfl
set_option maxRecDepth 100000 in
theorem mlX8_347 : Cond.methodLink RX8 347 mX5_fitted.1 ∈ xtbl := at_x 821 rfl rfl
set_option maxRecDepth 100000 in
theorem mlX8_351 : Cond.methodLink RX8 351 mX5_hasRoom.1 ∈ xtbl := at_x 833 rfl rfl
set_option maxRecDepth 100000 in
theorem mlX8_354 : Cond.methodLink RX8 354 arraycopyName ∈ xtbl := at_x 837 rfl rfl
set_option maxRecDepth 100000 in
theorem mlX0_32 : Cond.methodLink RX0 32 mX2_leftOf.1 ∈ xtbl := at_x 499 rfl rfl
set_option maxRecDepth 100000 in
theorem mlX0_39 : Cond.methodLink RX0 39 mX0_put.1 ∈ xtbl := at_x 506 rfl rfl
set_option maxRecDepth 100000 in
theorem mlX1_59 : Cond.methodLink RX1 59 mX2_leftOf.1 ∈ xtbl := at_x 597 rfl rfl
set_option maxRecDepth 100000 in
theorem mlX1_65 : Cond.methodLink RX1 65 mX2_at.1 ∈ xtbl := at_x 598 rfl rfl
set_option maxRecDepth 100000 in
theorem mlX1_69 : Cond.methodLink RX1 69 mX1_firstHere.1 ∈ xtbl := at_x 593 rfl rfl
set_option maxRecDepth 100000 in
theorem mlX1_73 : Cond.methodLink RX1 73 mX2_placeOf.1 ∈ xtbl := at_x 671 rfl rfl
set_option maxRecDepth 100000 in
theorem mlX1_76 : Cond.methodLink RX1 76 mX1_hasCandidate.1 ∈ xtbl := at_x 741 rfl rfl
set_option maxRecDepth 100000 in
theorem mlX1_80 : Cond.methodLink RX1 80 mX1_emptyLedBy.1 ∈ xtbl := at_x 742 rfl rfl
set_option maxRecDepth 100000 in
theorem mlX2_14 : Cond.methodLink RX2 14 mX2_at.1 ∈ xtbl := at_x 502 rfl rfl
set_option maxRecDepth 100000 in
theorem mlX2_20 : Cond.methodLink RX2 20 mX2_filledUp.1 ∈ xtbl := at_x 505 rfl rfl
set_option maxRecDepth 100000 in
theorem mlX4_66 : Cond.methodLink RX4 66 mX0_gather.1 ∈ xtbl := at_x 495 rfl rfl
set_option maxRecDepth 100000 in
theorem mlX4_70 : Cond.methodLink RX4 70 mX4_begin.1 ∈ xtbl := at_x 510 rfl rfl
set_option maxRecDepth 100000 in
theorem mlX4_84 : Cond.methodLink RX4 84 mX4_fill.1 ∈ xtbl := at_x 515 rfl rfl
set_option maxRecDepth 100000 in
theorem mlX4_88 : Cond.methodLink RX4 88 mX4_goByRounds.1 ∈ xtbl := at_x 550 rfl rfl
set_option maxRecDepth 100000 in
theorem mlX4_101 : Cond.methodLink RX4 101 mX4_workOut.1 ∈ xtbl := at_x 519 rfl rfl
set_option maxRecDepth 100000 in
theorem mlX4_104 : Cond.methodLink RX4 104 mX4_note.1 ∈ xtbl := at_x 534 rfl rfl
set_option maxRecDepth 100000 in
theorem mlX4_108 : Cond.methodLink RX4 108 mX4_whoIs.1 ∈ xtbl := at_x 538 rfl rfl
set_option maxRecDepth 100000 in
theorem mlX4_112 : Cond.methodLink RX4 112 mX4_elect.1 ∈ xtbl := at_x 542 rfl rfl
set_option maxRecDepth 100000 in
theorem mlX4_119 : Cond.methodLink RX4 119 mX4_turnKeeps.1 ∈ xtbl := at_x 554 rfl rfl
set_option maxRecDepth 100000 in
theorem mlX4_122 : Cond.methodLink RX4 122 mX4_surplus.1 ∈ xtbl := at_x 561 rfl rfl
set_option maxRecDepth 100000 in
theorem mlX4_126 : Cond.methodLink RX4 126 mX4_whoReachesQuota.1 ∈ xtbl := at_x 568 rfl rfl
set_option maxRecDepth 100000 in
theorem mlX4_133 : Cond.methodLink RX4 133 mX4_exclude.1 ∈ xtbl := at_x 572 rfl rfl
set_option maxRecDepth 100000 in
theorem mlX4_136 : Cond.methodLink RX4 136 Lib.MathLoose.min_long.x ∈ xtbl := at_x 558 rfl rfl
set_option maxRecDepth 100000 in
theorem mlX4_142 : Cond.methodLink RX4 142 mJ7_fill_d0a16.1 ∈ xtbl := at_x 523 rfl rfl
set_option maxRecDepth 100000 in
theorem mlX4_156 : Cond.methodLink RX4 156 mX4_passOn.1 ∈ xtbl := at_x 526 rfl rfl
set_option maxRecDepth 100000 in
theorem mlX4_160 : Cond.methodLinkNest RX4 160 mX8_cut.1 "KeepCount" ∈ xtbl := at_x 531 rfl rfl
set_option maxRecDepth 100000 in
theorem mlX4_163 : Cond.methodLink RX4 163 mX2_at.1 ∈ xtbl := at_x 530 rfl rfl
set_option maxRecDepth 100000 in
theorem mlX4_169 : Cond.methodLink RX4 169 Lib.MathLoose.max_long.x ∈ xtbl := at_x 565 rfl rfl
set_option maxRecDepth 100000 in
theorem mlX4_180 : Cond.methodLink RX4 180 mX4_leader.1 ∈ xtbl := at_x 546 rfl rfl
set_option maxRecDepth 100000 in
theorem mlX4_184 : Cond.methodLink RX4 184 mX4_whoHasFewest.1 ∈ xtbl := at_x 576 rfl rfl
set_option maxRecDepth 100000 in
theorem mlX4_188 : Cond.methodLink RX4 188 mX4_lastInLot.1 ∈ xtbl := at_x 581 rfl rfl
set_option maxRecDepth 100000 in
theorem mlX4_198 : Cond.methodLink RX4 198 mX4_stageAt.1 ∈ xtbl := at_x 646 rfl rfl
set_option maxRecDepth 100000 in
theorem mlX5_22 : Cond.methodLink RX5 22 mJ7_fill_d0a16.1 ∈ xtbl := at_x 816 rfl rfl
set_option maxRecDepth 100000 in
theorem mlX6_38 : Cond.methodLink RX6 38 mX6_readsClause.1 ∈ xtbl := at_x 758 rfl rfl
set_option maxRecDepth 100000 in
theorem mlX6_42 : Cond.methodLink RX6 42 mX7_begin.1 ∈ xtbl := at_x 774 rfl rfl
set_option maxRecDepth 100000 in
theorem mlX6_48 : Cond.methodLink RX6 48 mX7_addCause.1 ∈ xtbl := at_x 775 rfl rfl
set_option maxRecDepth 100000 in
theorem mlX6_51 : Cond.methodLink RX6 51 mX6_sign.1 ∈ xtbl := at_x 762 rfl rfl
set_option maxRecDepth 100000 in
theorem mlX6_55 : Cond.methodLink RX6 55 mX6_readsBallot.1 ∈ xtbl := at_x 766 rfl rfl
set_option maxRecDepth 100000 in
theorem mlX6_58 : Cond.methodLink RX6 58 mX6_number.1 ∈ xtbl := at_x 770 rfl rfl
set_option maxRecDepth 100000 in
theorem mlX7_20 : Cond.methodLink RX7 20 mX7_addCause.1 ∈ xtbl := at_x 434 rfl rfl
set_option maxRecDepth 100000 in
theorem mlL_13 : Cond.methodLink RL 13 mX8_candidate.1 ∈ xtbl := at_x 407 rfl rfl
set_option maxRecDepth 100000 in
theorem mlL_17 : Cond.methodLink RL 17 mX9_candidate.1 ∈ xtbl := at_x 1056 rfl rfl
set_option maxRecDepth 100000 in
theorem mlL_18 : Cond.methodLink RL 18 mX8_ballot.1 ∈ xtbl := at_x 411 rfl rfl
set_option maxRecDepth 100000 in
theorem mlL_22 : Cond.methodLink RL 22 mX9_ballot.1 ∈ xtbl := at_x 1060 rfl rfl
set_option maxRecDepth 100000 in
theorem mlL_23 : Cond.methodLink RL 23 mX8_many.1 ∈ xtbl := at_x 442 rfl rfl
set_option maxRecDepth 100000 in
theorem mlL_26 : Cond.methodLink RL 26 mX9_many.1 ∈ xtbl := at_x 1085 rfl rfl
set_option maxRecDepth 100000 in
theorem mlL_27 : Cond.methodLink RL 27 mX8_drop.1 ∈ xtbl := at_x 450 rfl rfl
set_option maxRecDepth 100000 in
theorem mlL_30 : Cond.methodLink RL 30 mX9_drop.1 ∈ xtbl := at_x 1093 rfl rfl
set_option maxRecDepth 100000 in
theorem mlL_31 : Cond.methodLink RL 31 mX8_gone.1 ∈ xtbl := at_x 454 rfl rfl
set_option maxRecDepth 100000 in
theorem mlL_35 : Cond.methodLink RL 35 mX9_gone.1 ∈ xtbl := at_x 1097 rfl rfl
set_option maxRecDepth 100000 in
theorem mlL_36 : Cond.methodLink RL 36 mX8_set.1 ∈ xtbl := at_x 462 rfl rfl
set_option maxRecDepth 100000 in
theorem mlL_39 : Cond.methodLink RL 39 mX9_set.1 ∈ xtbl := at_x 1105 rfl rfl
set_option maxRecDepth 100000 in
theorem mlL_40 : Cond.methodLink RL 40 mX8_swap.1 ∈ xtbl := at_x 479 rfl rfl
set_option maxRecDepth 100000 in
theorem mlL_43 : Cond.methodLink RL 43 mX9_swap.1 ∈ xtbl := at_x 1113 rfl rfl
set_option maxRecDepth 100000 in
theorem mlL_44 : Cond.methodLink RL 44 mX8_of.1 ∈ xtbl := at_x 483 rfl rfl
set_option maxRecDepth 100000 in
theorem mlL_47 : Cond.methodLink RL 47 mX9_of.1 ∈ xtbl := at_x 1117 rfl rfl
set_option maxRecDepth 100000 in
theorem mlL_48 : Cond.methodLink RL 48 mX8_ballotOf.1 ∈ xtbl := at_x 599 rfl rfl
set_option maxRecDepth 100000 in
theorem mlL_51 : Cond.methodLink RL 51 mX9_ballotOf.1 ∈ xtbl := at_x 1209 rfl rfl
set_option maxRecDepth 100000 in
theorem mlL_52 : Cond.methodLink RL 52 mX8_rowOf.1 ∈ xtbl := at_x 607 rfl rfl
set_option maxRecDepth 100000 in
theorem mlL_55 : Cond.methodLink RL 55 mX9_rowOf.1 ∈ xtbl := at_x 1213 rfl rfl
set_option maxRecDepth 100000 in
theorem mlL_56 : Cond.methodLink RL 56 mX8_told.1 ∈ xtbl := at_x 612 rfl rfl
set_option maxRecDepth 100000 in
theorem mlL_60 : Cond.methodLink RL 60 mX9_told.1 ∈ xtbl := at_x 1217 rfl rfl
set_option maxRecDepth 100000 in
theorem mlL_61 : Cond.methodLink RL 61 mX8_stageOf.1 ∈ xtbl := at_x 617 rfl rfl
set_option maxRecDepth 100000 in
theorem mlL_64 : Cond.methodLink RL 64 mX9_stageOf.1 ∈ xtbl := at_x 1226 rfl rfl
set_option maxRecDepth 100000 in
theorem mlL_65 : Cond.methodLink RL 65 mX8_amount.1 ∈ xtbl := at_x 625 rfl rfl
set_option maxRecDepth 100000 in
theorem mlL_69 : Cond.methodLink RL 69 mX9_amount.1 ∈ xtbl := at_x 1234 rfl rfl
set_option maxRecDepth 100000 in
theorem mlL_70 : Cond.methodLink RL 70 mX8_votes.1 ∈ xtbl := at_x 630 rfl rfl
set_option maxRecDepth 100000 in
theorem mlL_74 : Cond.methodLink RL 74 mX9_votes.1 ∈ xtbl := at_x 1239 rfl rfl
set_option maxRecDepth 100000 in
theorem mlL_75 : Cond.methodLink RL 75 mX8_elected.1 ∈ xtbl := at_x 634 rfl rfl
set_option maxRecDepth 100000 in
theorem mlL_78 : Cond.methodLink RL 78 mX9_elected.1 ∈ xtbl := at_x 1243 rfl rfl
set_option maxRecDepth 100000 in
theorem mlL_79 : Cond.methodLink RL 79 mX8_ranked.1 ∈ xtbl := at_x 638 rfl rfl
set_option maxRecDepth 100000 in
theorem mlL_82 : Cond.methodLink RL 82 mX9_ranked.1 ∈ xtbl := at_x 1247 rfl rfl
set_option maxRecDepth 100000 in
theorem mlL_83 : Cond.methodLink RL 83 mX8_standing.1 ∈ xtbl := at_x 647 rfl rfl
set_option maxRecDepth 100000 in
theorem mlL_86 : Cond.methodLink RL 86 mX9_standing.1 ∈ xtbl := at_x 1261 rfl rfl
set_option maxRecDepth 100000 in
theorem mlL_87 : Cond.methodLink RL 87 mX8_pile.1 ∈ xtbl := at_x 656 rfl rfl
set_option maxRecDepth 100000 in
theorem mlL_90 : Cond.methodLink RL 90 mX9_pile.1 ∈ xtbl := at_x 1265 rfl rfl
set_option maxRecDepth 100000 in
theorem mlL_91 : Cond.methodLink RL 91 mX8_preferred.1 ∈ xtbl := at_x 663 rfl rfl
set_option maxRecDepth 100000 in
theorem mlL_94 : Cond.methodLink RL 94 mX9_preferred.1 ∈ xtbl := at_x 1269 rfl rfl
set_option maxRecDepth 100000 in
theorem mlL_95 : Cond.methodLink RL 95 mX8_best.1 ∈ xtbl := at_x 674 rfl rfl
set_option maxRecDepth 100000 in
theorem mlL_98 : Cond.methodLink RL 98 mX9_best.1 ∈ xtbl := at_x 1281 rfl rfl
set_option maxRecDepth 100000 in
theorem mlL_99 : Cond.methodLink RL 99 mX8_share.1 ∈ xtbl := at_x 682 rfl rfl
set_option maxRecDepth 100000 in
theorem mlL_102 : Cond.methodLink RL 102 mX9_share.1 ∈ xtbl := at_x 1289 rfl rfl
set_option maxRecDepth 100000 in
theorem mlL_103 : Cond.methodLink RL 103 mX8_without.1 ∈ xtbl := at_x 690 rfl rfl
set_option maxRecDepth 100000 in
theorem mlL_106 : Cond.methodLink RL 106 mX9_without.1 ∈ xtbl := at_x 1296 rfl rfl
set_option maxRecDepth 100000 in
theorem mlL_107 : Cond.methodLink RL 107 mX8_raised.1 ∈ xtbl := at_x 702 rfl rfl
set_option maxRecDepth 100000 in
theorem mlL_110 : Cond.methodLink RL 110 mX9_raised.1 ∈ xtbl := at_x 1300 rfl rfl
set_option maxRecDepth 100000 in
theorem mlL_111 : Cond.methodLink RL 111 mX8_needs.1 ∈ xtbl := at_x 709 rfl rfl
set_option maxRecDepth 100000 in
theorem mlL_114 : Cond.methodLink RL 114 mX9_needs.1 ∈ xtbl := at_x 1304 rfl rfl
set_option maxRecDepth 100000 in
theorem mlL_115 : Cond.methodLink RL 115 mX8_see.1 ∈ xtbl := at_x 717 rfl rfl
set_option maxRecDepth 100000 in
theorem mlL_118 : Cond.methodLink RL 118 mX9_see.1 ∈ xtbl := at_x 1309 rfl rfl
set_option maxRecDepth 100000 in
theorem mlL_119 : Cond.methodLink RL 119 mX8_fits.1 ∈ xtbl := at_x 721 rfl rfl
set_option maxRecDepth 100000 in
theorem mlL_122 : Cond.methodLink RL 122 mX9_fits.1 ∈ xtbl := at_x 1313 rfl rfl
set_option maxRecDepth 100000 in
theorem mlL_123 : Cond.methodLink RL 123 mX8_event.1 ∈ xtbl := at_x 729 rfl rfl
set_option maxRecDepth 100000 in
theorem mlL_126 : Cond.methodLink RL 126 mX9_event.1 ∈ xtbl := at_x 1321 rfl rfl
set_option maxRecDepth 100000 in
theorem mlL_127 : Cond.methodLink RL 127 mX8_after.1 ∈ xtbl := at_x 733 rfl rfl
set_option maxRecDepth 100000 in
theorem mlL_130 : Cond.methodLink RL 130 mX9_after.1 ∈ xtbl := at_x 1325 rfl rfl
set_option maxRecDepth 100000 in
theorem mlL_131 : Cond.methodLink RL 131 mX8_feed.1 ∈ xtbl := at_x 746 rfl rfl
set_option maxRecDepth 100000 in
theorem mlL_134 : Cond.methodLink RL 134 mX9_feed.1 ∈ xtbl := at_x 1333 rfl rfl
set_option maxRecDepth 100000 in
theorem mlL_135 : Cond.methodLink RL 135 mX8_read.1 ∈ xtbl := at_x 750 rfl rfl
set_option maxRecDepth 100000 in
theorem mlL_138 : Cond.methodLink RL 138 mX9_read.1 ∈ xtbl := at_x 1338 rfl rfl
set_option maxRecDepth 100000 in
theorem mlL_139 : Cond.methodLink RL 139 mX8_cause.1 ∈ xtbl := at_x 784 rfl rfl
set_option maxRecDepth 100000 in
theorem mlL_142 : Cond.methodLink RL 142 mX9_cause.1 ∈ xtbl := at_x 1372 rfl rfl
set_option maxRecDepth 100000 in
theorem mlL_143 : Cond.methodLink RL 143 mX8_judge.1 ∈ xtbl := at_x 788 rfl rfl
set_option maxRecDepth 100000 in
theorem mlL_147 : Cond.methodLink RL 147 mX9_judge.1 ∈ xtbl := at_x 1376 rfl rfl
set_option maxRecDepth 100000 in
theorem mlL_148 : Cond.methodLink RL 148 mX8_image.1 ∈ xtbl := at_x 796 rfl rfl
set_option maxRecDepth 100000 in
theorem mlL_151 : Cond.methodLink RL 151 mX9_image.1 ∈ xtbl := at_x 1384 rfl rfl
set_option maxRecDepth 100000 in
theorem mlL_152 : Cond.methodLink RL 152 mX8_undo.1 ∈ xtbl := at_x 800 rfl rfl
set_option maxRecDepth 100000 in
theorem mlL_155 : Cond.methodLink RL 155 mX9_undo.1 ∈ xtbl := at_x 1388 rfl rfl
set_option maxRecDepth 100000 in
theorem mlL_156 : Cond.methodLink RL 156 mX8_count.1 ∈ xtbl := at_x 804 rfl rfl
set_option maxRecDepth 100000 in
theorem mlL_159 : Cond.methodLink RL 159 mX9_count.1 ∈ xtbl := at_x 1392 rfl rfl
set_option maxRecDepth 100000 in
theorem mlL_160 : Cond.methodLink RL 160 mX8_tape.1 ∈ xtbl := at_x 808 rfl rfl
set_option maxRecDepth 100000 in
theorem mlL_163 : Cond.methodLink RL 163 mX9_tape.1 ∈ xtbl := at_x 1396 rfl rfl
set_option maxRecDepth 100000 in
theorem mlL_166 : Cond.methodLink RL 166 mX8_item.1 ∈ xtbl := at_x 817 rfl rfl
set_option maxRecDepth 100000 in
theorem mlL_170 : Cond.methodLink RL 170 mX9_item.1 ∈ xtbl := at_x 1402 rfl rfl
set_option maxRecDepth 100000 in
theorem mlL_171 : Cond.methodLink RL 171 mX8_peek.1 ∈ xtbl := at_x 825 rfl rfl
set_option maxRecDepth 100000 in
theorem mlL_174 : Cond.methodLink RL 174 mX9_peek.1 ∈ xtbl := at_x 1410 rfl rfl
set_option maxRecDepth 100000 in
theorem mlL_175 : Cond.methodLink RL 175 mX8_shift.1 ∈ xtbl := at_x 829 rfl rfl
set_option maxRecDepth 100000 in
theorem mlL_179 : Cond.methodLink RL 179 mX9_shift.1 ∈ xtbl := at_x 1414 rfl rfl
set_option maxRecDepth 100000 in
theorem mlX9_170 : Cond.methodLink RX9 170 mX9_in.1 ∈ xtbl := at_x 1069 rfl rfl
set_option maxRecDepth 100000 in
theorem mlX9_177 : Cond.methodLink RX9 177 mX9_lengthOf.1 ∈ xtbl := at_x 1134 rfl rfl
set_option maxRecDepth 100000 in
theorem mlX9_181 : Cond.methodLink RX9 181 mX9_digitAt.1 ∈ xtbl := at_x 1137 rfl rfl
set_option maxRecDepth 100000 in
theorem mlX9_192 : Cond.methodLink RX9 192 mX9_has.1 ∈ xtbl := at_x 1072 rfl rfl
set_option maxRecDepth 100000 in
theorem mlX9_196 : Cond.methodLink RX9 196 mX9_isRow.1 ∈ xtbl := at_x 1064 rfl rfl
set_option maxRecDepth 100000 in
theorem mlX9_202 : Cond.methodLink RX9 202 mX9_firstOver.1 ∈ xtbl := at_x 1076 rfl rfl
set_option maxRecDepth 100000 in
theorem mlX9_205 : Cond.methodLink RX9 205 mX9_over.1 ∈ xtbl := at_x 1081 rfl rfl
set_option maxRecDepth 100000 in
theorem mlX9_208 : Cond.methodLink RX9 208 mX9_isBallot.1 ∈ xtbl := at_x 1089 rfl rfl
set_option maxRecDepth 100000 in
theorem mlX9_211 : Cond.methodLink RX9 211 mX9_isOne.1 ∈ xtbl := at_x 1101 rfl rfl
set_option maxRecDepth 100000 in
theorem mlX9_222 : Cond.methodLink RX9 222 mX9_keyOf.1 ∈ xtbl := at_x 1144 rfl rfl
set_option maxRecDepth 100000 in
theorem mlX9_228 : Cond.methodLink RX9 228 mX9_left.1 ∈ xtbl := at_x 1130 rfl rfl
set_option maxRecDepth 100000 in
theorem mlX9_231 : Cond.methodLink RX9 231 mX9_comesTo.1 ∈ xtbl := at_x 1140 rfl rfl
set_option maxRecDepth 100000 in
theorem mlX9_245 : Cond.methodLink RX9 245 mX9_lotOf.1 ∈ xtbl := at_x 1176 rfl rfl
set_option maxRecDepth 100000 in
theorem mlX9_254 : Cond.methodLink RX9 254 mX9_isAhead.1 ∈ xtbl := at_x 1172 rfl rfl
set_option maxRecDepth 100000 in
theorem mlX9_257 : Cond.methodLink RX9 257 mX9_tellVotes.1 ∈ xtbl := at_x 1156 rfl rfl
set_option maxRecDepth 100000 in
theorem mlX9_263 : Cond.methodLink RX9 263 mX9_becomesElected.1 ∈ xtbl := at_x 1160 rfl rfl
set_option maxRecDepth 100000 in
theorem mlX9_267 : Cond.methodLink RX9 267 mX9_endsStage.1 ∈ xtbl := at_x 1164 rfl rfl
set_option maxRecDepth 100000 in
theorem mlX9_270 : Cond.methodLink RX9 270 Lib.MathLoose.min_long.x ∈ xtbl := at_x 1188 rfl rfl
set_option maxRecDepth 100000 in
theorem mlX9_276 : Cond.methodLink RX9 276 mX9_many_.1 ∈ xtbl := at_x 1148 rfl rfl
set_option maxRecDepth 100000 in
theorem mlX9_279 : Cond.methodLink RX9 279 mX9_goesRather.1 ∈ xtbl := at_x 1201 rfl rfl
set_option maxRecDepth 100000 in
theorem mlX9_282 : Cond.methodLink RX9 282 mX9_lines.1 ∈ xtbl := at_x 1168 rfl rfl
set_option maxRecDepth 100000 in
theorem mlX9_285 : Cond.methodLink RX9 285 mX9_keepsAnew.1 ∈ xtbl := at_x 1184 rfl rfl
set_option maxRecDepth 100000 in
theorem mlX9_288 : Cond.methodLink RX9 288 mX9_tellSurplus.1 ∈ xtbl := at_x 1189 rfl rfl
set_option maxRecDepth 100000 in
theorem mlX9_291 : Cond.methodLink RX9 291 mX9_elects.1 ∈ xtbl := at_x 1193 rfl rfl
set_option maxRecDepth 100000 in
theorem mlX9_295 : Cond.methodLink RX9 295 mX9_worst.1 ∈ xtbl := at_x 1197 rfl rfl
set_option maxRecDepth 100000 in
theorem mlX9_299 : Cond.methodLink RX9 299 mX9_tellPiles.1 ∈ xtbl := at_x 1126 rfl rfl
set_option maxRecDepth 100000 in
theorem mlX9_303 : Cond.methodLink RX9 303 mX9_fills.1 ∈ xtbl := at_x 1152 rfl rfl
set_option maxRecDepth 100000 in
theorem mlX9_306 : Cond.methodLink RX9 306 mX9_goesStage.1 ∈ xtbl := at_x 1180 rfl rfl
set_option maxRecDepth 100000 in
theorem mlX9_310 : Cond.methodLink RX9 310 mX9_counts.1 ∈ xtbl := at_x 1122 rfl rfl
set_option maxRecDepth 100000 in
theorem mlX9_315 : Cond.methodLink RX9 315 mX9_firstMany.1 ∈ xtbl := at_x 1205 rfl rfl
set_option maxRecDepth 100000 in
theorem mlX9_320 : Cond.methodLink RX9 320 mX9_electedSet.1 ∈ xtbl := at_x 1222 rfl rfl
set_option maxRecDepth 100000 in
theorem mlX9_323 : Cond.methodLink RX9 323 mX9_isStage.1 ∈ xtbl := at_x 1230 rfl rfl
set_option maxRecDepth 100000 in
theorem mlX9_328 : Cond.methodLink RX9 328 mX9_isBefore.1 ∈ xtbl := at_x 1257 rfl rfl
set_option maxRecDepth 100000 in
theorem mlX9_332 : Cond.methodLink RX9 332 arraycopyName ∈ xtbl := at_x 1251 rfl rfl
set_option maxRecDepth 100000 in
theorem mlX9_338 : Cond.methodLink RX9 338 Lib.Math.max.name ∈ xtbl := at_x 1252 rfl rfl
set_option maxRecDepth 100000 in
theorem mlX9_341 : Cond.methodLink RX9 341 mX9_ranksBy.1 ∈ xtbl := at_x 1253 rfl rfl
set_option maxRecDepth 100000 in
theorem mlX9_345 : Cond.methodLink RX9 345 mX9_isTwo.1 ∈ xtbl := at_x 1273 rfl rfl
set_option maxRecDepth 100000 in
theorem mlX9_348 : Cond.methodLink RX9 348 mX9_preferredTo.1 ∈ xtbl := at_x 1277 rfl rfl
set_option maxRecDepth 100000 in
theorem mlX9_351 : Cond.methodLink RX9 351 mX9_isBest.1 ∈ xtbl := at_x 1285 rfl rfl
set_option maxRecDepth 100000 in
theorem mlX9_354 : Cond.methodLink RX9 354 mX9_lowest.1 ∈ xtbl := at_x 1293 rfl rfl
set_option maxRecDepth 100000 in
theorem mlX9_363 : Cond.methodLink RX9 363 mX9_isAsSeen.1 ∈ xtbl := at_x 1317 rfl rfl
set_option maxRecDepth 100000 in
theorem mlX9_369 : Cond.methodLink RX9 369 mX9_happens.1 ∈ xtbl := at_x 1329 rfl rfl
set_option maxRecDepth 100000 in
theorem mlX9_387 : Cond.methodLink RX9 387 mX9_signAt.1 ∈ xtbl := at_x 1346 rfl rfl
set_option maxRecDepth 100000 in
theorem mlX9_394 : Cond.methodLink RX9 394 mX9_fails.1 ∈ xtbl := at_x 1350 rfl rfl
set_option maxRecDepth 100000 in
theorem mlX9_403 : Cond.methodLink RX9 403 mX9_numberRead.1 ∈ xtbl := at_x 1354 rfl rfl
set_option maxRecDepth 100000 in
theorem mlX9_406 : Cond.methodLink RX9 406 mX9_candidate.1 ∈ xtbl := at_x 1368 rfl rfl
set_option maxRecDepth 100000 in
theorem mlX9_409 : Cond.methodLink RX9 409 mX9_ballot.1 ∈ xtbl := at_x 1369 rfl rfl
set_option maxRecDepth 100000 in
theorem mlX9_412 : Cond.methodLink RX9 412 mX9_set.1 ∈ xtbl := at_x 1370 rfl rfl
set_option maxRecDepth 100000 in
theorem mlX9_415 : Cond.methodLink RX9 415 mX9_gone.1 ∈ xtbl := at_x 1371 rfl rfl
set_option maxRecDepth 100000 in
theorem mlX9_419 : Cond.methodLink RX9 419 mX9_clauseRead.1 ∈ xtbl := at_x 1342 rfl rfl
set_option maxRecDepth 100000 in
theorem mlX9_422 : Cond.methodLink RX9 422 mX9_faulty.1 ∈ xtbl := at_x 1360 rfl rfl
set_option maxRecDepth 100000 in
theorem mlX9_425 : Cond.methodLink RX9 425 mX9_done.1 ∈ xtbl := at_x 1364 rfl rfl
set_option maxRecDepth 100000 in
theorem mlX9_428 : Cond.methodLink RX9 428 mX9_isTape.1 ∈ xtbl := at_x 1380 rfl rfl
set_option maxRecDepth 100000 in
theorem mlX9_440 : Cond.methodLink RX9 440 mX9_refusal.1 ∈ xtbl := at_x 1406 rfl rfl
set_option maxRecDepth 100000 in
theorem csX8_82 : Cond.constant RX8 82 (1000000 : Int32) ∈ xtbl := at_x 421 rfl rfl
set_option maxRecDepth 100000 in
theorem csX8_109 : Cond.constant RX8 109 (1000000000 : Int32) ∈ xtbl := at_x 470 rfl rfl
set_option maxRecDepth 100000 in
theorem csX8_131 : Cond.constantLong RX8 131 (4611686 : Int64) ∈ xtbl := at_x 429 rfl rfl
set_option maxRecDepth 100000 in
theorem csX8_199 : Cond.constantLong RX8 199 (-9223372036854775808 : Int64) ∈ xtbl := at_x 629 rfl rfl
set_option maxRecDepth 100000 in
theorem csX2_7 : Cond.constant RX2 7 (99999999 : Int32) ∈ xtbl := at_x 418 rfl rfl
set_option maxRecDepth 100000 in
theorem csX4_99 : Cond.constantLong RX4 99 (1000000 : Int64) ∈ xtbl := at_x 514 rfl rfl
set_option maxRecDepth 100000 in
theorem csX4_193 : Cond.constantLong RX4 193 (9223372036854775807 : Int64) ∈ xtbl := at_x 580 rfl rfl
set_option maxRecDepth 100000 in
theorem csL_164 : Cond.constantLong RL 164 (4294967295 : Int64) ∈ xtbl := at_x 1418 rfl rfl
set_option maxRecDepth 100000 in
theorem csX9_185 : Cond.constantLong RX9 185 (4611686 : Int64) ∈ xtbl := at_x 1080 rfl rfl
set_option maxRecDepth 100000 in
theorem csX9_190 : Cond.constantLong RX9 190 (99999999 : Int64) ∈ xtbl := at_x 1068 rfl rfl
set_option maxRecDepth 100000 in
theorem csX9_200 : Cond.constantLong RX9 200 (1000000 : Int64) ∈ xtbl := at_x 1075 rfl rfl
set_option maxRecDepth 100000 in
theorem csX9_214 : Cond.constantLong RX9 214 (2 : Int64) ∈ xtbl := at_x 1109 rfl rfl
set_option maxRecDepth 100000 in
theorem csX9_216 : Cond.constantLong RX9 216 (7 : Int64) ∈ xtbl := at_x 1110 rfl rfl
set_option maxRecDepth 100000 in
theorem csX9_218 : Cond.constantLong RX9 218 (1000000000 : Int64) ∈ xtbl := at_x 1111 rfl rfl
set_option maxRecDepth 100000 in
theorem csX9_220 : Cond.constantLong RX9 220 (20 : Int64) ∈ xtbl := at_x 1112 rfl rfl
set_option maxRecDepth 100000 in
theorem csX9_302 : Cond.constant RX9 302 (1000000 : Int32) ∈ xtbl := at_x 1147 rfl rfl
set_option maxRecDepth 100000 in
theorem csX9_313 : Cond.constantLong RX9 313 (3 : Int64) ∈ xtbl := at_x 1121 rfl rfl
set_option maxRecDepth 100000 in
theorem csX9_318 : Cond.constantLong RX9 318 (8 : Int64) ∈ xtbl := at_x 1221 rfl rfl
set_option maxRecDepth 100000 in
theorem csX9_326 : Cond.constantLong RX9 326 (-9223372036854775808 : Int64) ∈ xtbl := at_x 1238 rfl rfl
set_option maxRecDepth 100000 in
theorem csX9_358 : Cond.constantLong RX9 358 (10000 : Int64) ∈ xtbl := at_x 1308 rfl rfl
set_option maxRecDepth 100000 in
theorem csX9_372 : Cond.constantLong RX9 372 (127 : Int64) ∈ xtbl := at_x 1337 rfl rfl
set_option maxRecDepth 100000 in
theorem csX9_390 : Cond.constantLong RX9 390 (48 : Int64) ∈ xtbl := at_x 1358 rfl rfl
set_option maxRecDepth 100000 in
theorem csX9_392 : Cond.constantLong RX9 392 (57 : Int64) ∈ xtbl := at_x 1359 rfl rfl
set_option maxRecDepth 100000 in
theorem csX9_434 : Cond.constantLong RX9 434 (5 : Int64) ∈ xtbl := at_x 1383 rfl rfl
set_option maxRecDepth 100000 in
theorem csX9_436 : Cond.constantLong RX9 436 (-1 : Int64) ∈ xtbl := at_x 1400 rfl rfl
set_option maxRecDepth 100000 in
theorem csX9_438 : Cond.constantLong RX9 438 (4 : Int64) ∈ xtbl := at_x 1401 rfl rfl
set_option maxRecDepth 100000 in
theorem gsX2_8 : Cond.fieldLinkNest RX2 8 "KeepCount" "PLACES" "[I" "KeepCount" ∈ xtbl := at_x 419 rfl rfl
theorem sh_all {P : Nat → Bool} (h : xcells.all P = true) {o k n : Nat} (e : Sh o = (k, n)) (hk : k ≠ 9) : P o = true := List.all_eq_true.mp h o (Sh_mem e hk)
theorem ob_0 {o : Nat} (h : Sh o = (10, 3)) : o ∈ ([1020, 2020] : List Nat) := by
  have e := sh_all (P := fun o => decide (Sh o = (10, 3) → o ∈ ([1020, 2020] : List Nat))) (by decide +kernel) h (by decide)
  exact of_decide_eq_true e h
theorem sf_0_1 {o : Nat} (h : Sh o = (10, 3)) : Sh (o + 2) = (1, 25) := (by decide +kernel : ∀ o ∈ ([1020, 2020] : List Nat), Sh (o + 2) = (1, 25)) o (ob_0 h)
theorem sf_0_2 {o : Nat} (h : Sh o = (10, 3)) : Sh (o + 3) = (1, 25) := (by decide +kernel : ∀ o ∈ ([1020, 2020] : List Nat), Sh (o + 3) = (1, 25)) o (ob_0 h)
theorem ob_1 {o : Nat} (h : Sh o = (11, 15)) : o ∈ ([11000, 12000, 13000] : List Nat) := by
  have e := sh_all (P := fun o => decide (Sh o = (11, 15) → o ∈ ([11000, 12000, 13000] : List Nat))) (by decide +kernel) h (by decide)
  exact of_decide_eq_true e h
theorem sf_1_1 {o : Nat} (h : Sh o = (11, 15)) : Sh (o + 2) = (1, 8) := (by decide +kernel : ∀ o ∈ ([11000, 12000, 13000] : List Nat), Sh (o + 2) = (1, 8)) o (ob_1 h)
theorem sf_1_2 {o : Nat} (h : Sh o = (11, 15)) : Sh (o + 3) = (3, 8) := (by decide +kernel : ∀ o ∈ ([11000, 12000, 13000] : List Nat), Sh (o + 3) = (3, 8)) o (ob_1 h)
theorem sf_1_4 {o : Nat} (h : Sh o = (11, 15)) : Sh (o + 5) = (1, 25) := (by decide +kernel : ∀ o ∈ ([11000, 12000, 13000] : List Nat), Sh (o + 5) = (1, 25)) o (ob_1 h)
theorem sf_1_5 {o : Nat} (h : Sh o = (11, 15)) : Sh (o + 6) = (1, 25) := (by decide +kernel : ∀ o ∈ ([11000, 12000, 13000] : List Nat), Sh (o + 6) = (1, 25)) o (ob_1 h)
theorem sf_1_10 {o : Nat} (h : Sh o = (11, 15)) : Sh (o + 11) = (1, 5) := (by decide +kernel : ∀ o ∈ ([11000, 12000, 13000] : List Nat), Sh (o + 11) = (1, 5)) o (ob_1 h)
theorem sf_1_11 {o : Nat} (h : Sh o = (11, 15)) : Sh (o + 12) = (3, 5) := (by decide +kernel : ∀ o ∈ ([11000, 12000, 13000] : List Nat), Sh (o + 12) = (3, 5)) o (ob_1 h)
theorem sf_1_13 {o : Nat} (h : Sh o = (11, 15)) : Sh (o + 14) = (1, 8) := (by decide +kernel : ∀ o ∈ ([11000, 12000, 13000] : List Nat), Sh (o + 14) = (1, 8)) o (ob_1 h)
theorem sf_1_14 {o : Nat} (h : Sh o = (11, 15)) : Sh (o + 15) = (1, 8) := (by decide +kernel : ∀ o ∈ ([11000, 12000, 13000] : List Nat), Sh (o + 15) = (1, 8)) o (ob_1 h)
theorem ob_2 {o : Nat} (h : Sh o = (12, 9)) : o ∈ ([1045, 1061, 1077, 1093, 1109, 1125, 1141, 1157, 2045, 2061, 2077, 2093, 2109, 2125, 2141, 2157] : List Nat) := by
  have e := sh_all (P := fun o => decide (Sh o = (12, 9) → o ∈ ([1045, 1061, 1077, 1093, 1109, 1125, 1141, 1157, 2045, 2061, 2077, 2093, 2109, 2125, 2141, 2157] : List Nat))) (by decide +kernel) h (by decide)
  exact of_decide_eq_true e h
theorem sf_2_7 {o : Nat} (h : Sh o = (12, 9)) : Sh (o + 8) = (2, 8) := (by decide +kernel : ∀ o ∈ ([1045, 1061, 1077, 1093, 1109, 1125, 1141, 1157, 2045, 2061, 2077, 2093, 2109, 2125, 2141, 2157] : List Nat), Sh (o + 8) = (2, 8)) o (ob_2 h)
theorem sf_2_8 {o : Nat} (h : Sh o = (12, 9)) : Sh (o + 9) = (2, 8) := (by decide +kernel : ∀ o ∈ ([1045, 1061, 1077, 1093, 1109, 1125, 1141, 1157, 2045, 2061, 2077, 2093, 2109, 2125, 2141, 2157] : List Nat), Sh (o + 9) = (2, 8)) o (ob_2 h)
theorem ob_3 {o : Nat} (h : Sh o = (13, 14)) : o ∈ ([1000, 2000] : List Nat) := by
  have e := sh_all (P := fun o => decide (Sh o = (13, 14) → o ∈ ([1000, 2000] : List Nat))) (by decide +kernel) h (by decide)
  exact of_decide_eq_true e h
theorem sf_3_0 {o : Nat} (h : Sh o = (13, 14)) : Sh (o + 10000) = (11, 15) := (by decide +kernel : ∀ o ∈ ([1000, 2000] : List Nat), Sh (o + 10000) = (11, 15)) o (ob_3 h)
theorem sf_3_1 {o : Nat} (h : Sh o = (13, 14)) : Sh (o + 20) = (10, 3) := (by decide +kernel : ∀ o ∈ ([1000, 2000] : List Nat), Sh (o + 20) = (10, 3)) o (ob_3 h)
theorem sf_3_2 {o : Nat} (h : Sh o = (13, 14)) : Sh (o + 3) = (1, 8) := (by decide +kernel : ∀ o ∈ ([1000, 2000] : List Nat), Sh (o + 3) = (1, 8)) o (ob_3 h)
theorem sf_3_3 {o : Nat} (h : Sh o = (13, 14)) : Sh (o + 4) = (1, 8) := (by decide +kernel : ∀ o ∈ ([1000, 2000] : List Nat), Sh (o + 4) = (1, 8)) o (ob_3 h)
theorem sf_3_4 {o : Nat} (h : Sh o = (13, 14)) : Sh (o + 5) = (1, 8) := (by decide +kernel : ∀ o ∈ ([1000, 2000] : List Nat), Sh (o + 5) = (1, 8)) o (ob_3 h)
theorem sf_3_8 {o : Nat} (h : Sh o = (13, 14)) : Sh (o + 9) = (4, 8) := (by decide +kernel : ∀ o ∈ ([1000, 2000] : List Nat), Sh (o + 9) = (4, 8)) o (ob_3 h)
theorem sf_3_9 {o : Nat} (h : Sh o = (13, 14)) : Sh (o + 10) = (2, 8) := (by decide +kernel : ∀ o ∈ ([1000, 2000] : List Nat), Sh (o + 10) = (2, 8)) o (ob_3 h)
theorem sf_3_10 {o : Nat} (h : Sh o = (13, 14)) : Sh (o + 11) = (2, 8) := (by decide +kernel : ∀ o ∈ ([1000, 2000] : List Nat), Sh (o + 11) = (2, 8)) o (ob_3 h)
theorem ob_4 {o : Nat} (h : Sh o = (14, 3)) : o ∈ ([56, 72, 88, 104, 120, 136] : List Nat) := by
  have e := sh_all (P := fun o => decide (Sh o = (14, 3) → o ∈ ([56, 72, 88, 104, 120, 136] : List Nat))) (by decide +kernel) h (by decide)
  exact of_decide_eq_true e h
theorem sf_4_2 {o : Nat} (h : Sh o = (14, 3)) : Sh (o + 3) = (2, 60) := (by decide +kernel : ∀ o ∈ ([56, 72, 88, 104, 120, 136] : List Nat), Sh (o + 3) = (2, 60)) o (ob_4 h)
theorem ob_5 {o : Nat} (h : Sh o = (15, 8)) : o ∈ ([210] : List Nat) := by
  have e := sh_all (P := fun o => decide (Sh o = (15, 8) → o ∈ ([210] : List Nat))) (by decide +kernel) h (by decide)
  exact of_decide_eq_true e h
theorem sf_5_1 {o : Nat} (h : Sh o = (15, 8)) : Sh (o + 2) = (1, 100) := (by decide +kernel : ∀ o ∈ ([210] : List Nat), Sh (o + 2) = (1, 100)) o (ob_5 h)
theorem sf_5_3 {o : Nat} (h : Sh o = (15, 8)) : Sh (o + 4) = (1, 12) := (by decide +kernel : ∀ o ∈ ([210] : List Nat), Sh (o + 4) = (1, 12)) o (ob_5 h)
theorem sf_5_4 {o : Nat} (h : Sh o = (15, 8)) : Sh (o + 5) = (1, 12) := (by decide +kernel : ∀ o ∈ ([210] : List Nat), Sh (o + 5) = (1, 12)) o (ob_5 h)
theorem sf_5_5 {o : Nat} (h : Sh o = (15, 8)) : Sh (o + 6) = (1, 12) := (by decide +kernel : ∀ o ∈ ([210] : List Nat), Sh (o + 6) = (1, 12)) o (ob_5 h)
theorem ob_6 {o : Nat} (h : Sh o = (16, 3)) : o ∈ ([310] : List Nat) := by
  have e := sh_all (P := fun o => decide (Sh o = (16, 3) → o ∈ ([310] : List Nat))) (by decide +kernel) h (by decide)
  exact of_decide_eq_true e h
theorem sf_6_1 {o : Nat} (h : Sh o = (16, 3)) : Sh (o + 2) = (1, 3) := (by decide +kernel : ∀ o ∈ ([310] : List Nat), Sh (o + 2) = (1, 3)) o (ob_6 h)
theorem sf_6_2 {o : Nat} (h : Sh o = (16, 3)) : Sh (o + 3) = (1, 3) := (by decide +kernel : ∀ o ∈ ([310] : List Nat), Sh (o + 3) = (1, 3)) o (ob_6 h)
theorem ob_7 {o : Nat} (h : Sh o = (17, 10)) : o ∈ ([10] : List Nat) := by
  have e := sh_all (P := fun o => decide (Sh o = (17, 10) → o ∈ ([10] : List Nat))) (by decide +kernel) h (by decide)
  exact of_decide_eq_true e h
theorem sf_7_0 {o : Nat} (h : Sh o = (17, 10)) : Sh (o + 10990) = (11, 15) := (by decide +kernel : ∀ o ∈ ([10] : List Nat), Sh (o + 10990) = (11, 15)) o (ob_7 h)
theorem sf_7_1 {o : Nat} (h : Sh o = (17, 10)) : Sh (o + 11990) = (11, 15) := (by decide +kernel : ∀ o ∈ ([10] : List Nat), Sh (o + 11990) = (11, 15)) o (ob_7 h)
theorem sf_7_2 {o : Nat} (h : Sh o = (17, 10)) : Sh (o + 12990) = (11, 15) := (by decide +kernel : ∀ o ∈ ([10] : List Nat), Sh (o + 12990) = (11, 15)) o (ob_7 h)
theorem sf_7_4 {o : Nat} (h : Sh o = (17, 10)) : Sh (o + 990) = (13, 14) := (by decide +kernel : ∀ o ∈ ([10] : List Nat), Sh (o + 990) = (13, 14)) o (ob_7 h)
theorem sf_7_5 {o : Nat} (h : Sh o = (17, 10)) : Sh (o + 1990) = (13, 14) := (by decide +kernel : ∀ o ∈ ([10] : List Nat), Sh (o + 1990) = (13, 14)) o (ob_7 h)
theorem sf_7_7 {o : Nat} (h : Sh o = (17, 10)) : Sh (o + 200) = (15, 8) := (by decide +kernel : ∀ o ∈ ([10] : List Nat), Sh (o + 200) = (15, 8)) o (ob_7 h)
theorem sf_7_8 {o : Nat} (h : Sh o = (17, 10)) : Sh (o + 300) = (16, 3) := (by decide +kernel : ∀ o ∈ ([10] : List Nat), Sh (o + 300) = (16, 3)) o (ob_7 h)
theorem sf_7_9 {o : Nat} (h : Sh o = (17, 10)) : Sh (o + 10) = (5, 6) := (by decide +kernel : ∀ o ∈ ([10] : List Nat), Sh (o + 10) = (5, 6)) o (ob_7 h)
theorem ob_8 {o : Nat} (h : Sh o = (18, 69)) : o ∈ ([20000] : List Nat) := by
  have e := sh_all (P := fun o => decide (Sh o = (18, 69) → o ∈ ([20000] : List Nat))) (by decide +kernel) h (by decide)
  exact of_decide_eq_true e h
theorem sf_8_2 {o : Nat} (h : Sh o = (18, 69)) : Sh (o + 3) = (3, 8) := (by decide +kernel : ∀ o ∈ ([20000] : List Nat), Sh (o + 3) = (3, 8)) o (ob_8 h)
theorem sf_8_3 {o : Nat} (h : Sh o = (18, 69)) : Sh (o + 4) = (1, 8) := (by decide +kernel : ∀ o ∈ ([20000] : List Nat), Sh (o + 4) = (1, 8)) o (ob_8 h)
theorem sf_8_4 {o : Nat} (h : Sh o = (18, 69)) : Sh (o + 5) = (1, 25) := (by decide +kernel : ∀ o ∈ ([20000] : List Nat), Sh (o + 5) = (1, 25)) o (ob_8 h)
theorem sf_8_5 {o : Nat} (h : Sh o = (18, 69)) : Sh (o + 6) = (1, 25) := (by decide +kernel : ∀ o ∈ ([20000] : List Nat), Sh (o + 6) = (1, 25)) o (ob_8 h)
theorem sf_8_11 {o : Nat} (h : Sh o = (18, 69)) : Sh (o + 12) = (1, 5) := (by decide +kernel : ∀ o ∈ ([20000] : List Nat), Sh (o + 12) = (1, 5)) o (ob_8 h)
theorem sf_8_12 {o : Nat} (h : Sh o = (18, 69)) : Sh (o + 13) = (1, 8) := (by decide +kernel : ∀ o ∈ ([20000] : List Nat), Sh (o + 13) = (1, 8)) o (ob_8 h)
theorem sf_8_13 {o : Nat} (h : Sh o = (18, 69)) : Sh (o + 14) = (1, 8) := (by decide +kernel : ∀ o ∈ ([20000] : List Nat), Sh (o + 14) = (1, 8)) o (ob_8 h)
theorem sf_8_14 {o : Nat} (h : Sh o = (18, 69)) : Sh (o + 15) = (3, 5) := (by decide +kernel : ∀ o ∈ ([20000] : List Nat), Sh (o + 15) = (3, 5)) o (ob_8 h)
theorem sf_8_16 {o : Nat} (h : Sh o = (18, 69)) : Sh (o + 17) = (1, 3) := (by decide +kernel : ∀ o ∈ ([20000] : List Nat), Sh (o + 17) = (1, 3)) o (ob_8 h)
theorem sf_8_17 {o : Nat} (h : Sh o = (18, 69)) : Sh (o + 18) = (1, 3) := (by decide +kernel : ∀ o ∈ ([20000] : List Nat), Sh (o + 18) = (1, 3)) o (ob_8 h)
theorem sf_8_19 {o : Nat} (h : Sh o = (18, 69)) : Sh (o + 20) = (1, 25) := (by decide +kernel : ∀ o ∈ ([20000] : List Nat), Sh (o + 20) = (1, 25)) o (ob_8 h)
theorem sf_8_20 {o : Nat} (h : Sh o = (18, 69)) : Sh (o + 21) = (1, 25) := (by decide +kernel : ∀ o ∈ ([20000] : List Nat), Sh (o + 21) = (1, 25)) o (ob_8 h)
theorem sf_8_21 {o : Nat} (h : Sh o = (18, 69)) : Sh (o + 22) = (1, 25) := (by decide +kernel : ∀ o ∈ ([20000] : List Nat), Sh (o + 22) = (1, 25)) o (ob_8 h)
theorem sf_8_24 {o : Nat} (h : Sh o = (18, 69)) : Sh (o + 25) = (1, 8) := (by decide +kernel : ∀ o ∈ ([20000] : List Nat), Sh (o + 25) = (1, 8)) o (ob_8 h)
theorem sf_8_25 {o : Nat} (h : Sh o = (18, 69)) : Sh (o + 26) = (1, 8) := (by decide +kernel : ∀ o ∈ ([20000] : List Nat), Sh (o + 26) = (1, 8)) o (ob_8 h)
theorem sf_8_26 {o : Nat} (h : Sh o = (18, 69)) : Sh (o + 27) = (1, 8) := (by decide +kernel : ∀ o ∈ ([20000] : List Nat), Sh (o + 27) = (1, 8)) o (ob_8 h)
theorem sf_8_27 {o : Nat} (h : Sh o = (18, 69)) : Sh (o + 28) = (1, 8) := (by decide +kernel : ∀ o ∈ ([20000] : List Nat), Sh (o + 28) = (1, 8)) o (ob_8 h)
theorem sf_8_28 {o : Nat} (h : Sh o = (18, 69)) : Sh (o + 29) = (2, 8) := (by decide +kernel : ∀ o ∈ ([20000] : List Nat), Sh (o + 29) = (2, 8)) o (ob_8 h)
theorem sf_8_33 {o : Nat} (h : Sh o = (18, 69)) : Sh (o + 34) = (2, 72) := (by decide +kernel : ∀ o ∈ ([20000] : List Nat), Sh (o + 34) = (2, 72)) o (ob_8 h)
theorem sf_8_34 {o : Nat} (h : Sh o = (18, 69)) : Sh (o + 35) = (2, 9) := (by decide +kernel : ∀ o ∈ ([20000] : List Nat), Sh (o + 35) = (2, 9)) o (ob_8 h)
theorem sf_8_35 {o : Nat} (h : Sh o = (18, 69)) : Sh (o + 36) = (2, 9) := (by decide +kernel : ∀ o ∈ ([20000] : List Nat), Sh (o + 36) = (2, 9)) o (ob_8 h)
theorem sf_8_36 {o : Nat} (h : Sh o = (18, 69)) : Sh (o + 37) = (2, 9) := (by decide +kernel : ∀ o ∈ ([20000] : List Nat), Sh (o + 37) = (2, 9)) o (ob_8 h)
theorem sf_8_37 {o : Nat} (h : Sh o = (18, 69)) : Sh (o + 38) = (2, 9) := (by decide +kernel : ∀ o ∈ ([20000] : List Nat), Sh (o + 38) = (2, 9)) o (ob_8 h)
theorem sf_8_38 {o : Nat} (h : Sh o = (18, 69)) : Sh (o + 39) = (1, 72) := (by decide +kernel : ∀ o ∈ ([20000] : List Nat), Sh (o + 39) = (1, 72)) o (ob_8 h)
theorem sf_8_39 {o : Nat} (h : Sh o = (18, 69)) : Sh (o + 40) = (1, 9) := (by decide +kernel : ∀ o ∈ ([20000] : List Nat), Sh (o + 40) = (1, 9)) o (ob_8 h)
theorem sf_8_40 {o : Nat} (h : Sh o = (18, 69)) : Sh (o + 41) = (1, 9) := (by decide +kernel : ∀ o ∈ ([20000] : List Nat), Sh (o + 41) = (1, 9)) o (ob_8 h)
theorem sf_8_41 {o : Nat} (h : Sh o = (18, 69)) : Sh (o + 42) = (1, 9) := (by decide +kernel : ∀ o ∈ ([20000] : List Nat), Sh (o + 42) = (1, 9)) o (ob_8 h)
theorem sf_8_42 {o : Nat} (h : Sh o = (18, 69)) : Sh (o + 43) = (1, 8) := (by decide +kernel : ∀ o ∈ ([20000] : List Nat), Sh (o + 43) = (1, 8)) o (ob_8 h)
theorem sf_8_43 {o : Nat} (h : Sh o = (18, 69)) : Sh (o + 44) = (3, 8) := (by decide +kernel : ∀ o ∈ ([20000] : List Nat), Sh (o + 44) = (3, 8)) o (ob_8 h)
theorem sf_8_44 {o : Nat} (h : Sh o = (18, 69)) : Sh (o + 45) = (1, 25) := (by decide +kernel : ∀ o ∈ ([20000] : List Nat), Sh (o + 45) = (1, 25)) o (ob_8 h)
theorem sf_8_45 {o : Nat} (h : Sh o = (18, 69)) : Sh (o + 46) = (1, 100) := (by decide +kernel : ∀ o ∈ ([20000] : List Nat), Sh (o + 46) = (1, 100)) o (ob_8 h)
theorem sf_8_52 {o : Nat} (h : Sh o = (18, 69)) : Sh (o + 53) = (1, 12) := (by decide +kernel : ∀ o ∈ ([20000] : List Nat), Sh (o + 53) = (1, 12)) o (ob_8 h)
theorem sf_8_53 {o : Nat} (h : Sh o = (18, 69)) : Sh (o + 54) = (1, 12) := (by decide +kernel : ∀ o ∈ ([20000] : List Nat), Sh (o + 54) = (1, 12)) o (ob_8 h)
theorem sf_8_54 {o : Nat} (h : Sh o = (18, 69)) : Sh (o + 55) = (1, 12) := (by decide +kernel : ∀ o ∈ ([20000] : List Nat), Sh (o + 55) = (1, 12)) o (ob_8 h)
theorem sf_8_56 {o : Nat} (h : Sh o = (18, 69)) : Sh (o + 57) = (1, 7) := (by decide +kernel : ∀ o ∈ ([20000] : List Nat), Sh (o + 57) = (1, 7)) o (ob_8 h)
theorem sf_8_57 {o : Nat} (h : Sh o = (18, 69)) : Sh (o + 58) = (1, 8) := (by decide +kernel : ∀ o ∈ ([20000] : List Nat), Sh (o + 58) = (1, 8)) o (ob_8 h)
theorem sf_8_58 {o : Nat} (h : Sh o = (18, 69)) : Sh (o + 59) = (1, 25) := (by decide +kernel : ∀ o ∈ ([20000] : List Nat), Sh (o + 59) = (1, 25)) o (ob_8 h)
theorem sf_8_59 {o : Nat} (h : Sh o = (18, 69)) : Sh (o + 60) = (1, 25) := (by decide +kernel : ∀ o ∈ ([20000] : List Nat), Sh (o + 60) = (1, 25)) o (ob_8 h)
theorem sf_8_60 {o : Nat} (h : Sh o = (18, 69)) : Sh (o + 61) = (1, 5) := (by decide +kernel : ∀ o ∈ ([20000] : List Nat), Sh (o + 61) = (1, 5)) o (ob_8 h)
theorem sf_8_61 {o : Nat} (h : Sh o = (18, 69)) : Sh (o + 62) = (1, 8) := (by decide +kernel : ∀ o ∈ ([20000] : List Nat), Sh (o + 62) = (1, 8)) o (ob_8 h)
theorem sf_8_62 {o : Nat} (h : Sh o = (18, 69)) : Sh (o + 63) = (1, 8) := (by decide +kernel : ∀ o ∈ ([20000] : List Nat), Sh (o + 63) = (1, 8)) o (ob_8 h)
theorem sf_8_63 {o : Nat} (h : Sh o = (18, 69)) : Sh (o + 64) = (3, 8) := (by decide +kernel : ∀ o ∈ ([20000] : List Nat), Sh (o + 64) = (3, 8)) o (ob_8 h)
theorem sf_8_64 {o : Nat} (h : Sh o = (18, 69)) : Sh (o + 65) = (3, 5) := (by decide +kernel : ∀ o ∈ ([20000] : List Nat), Sh (o + 65) = (3, 5)) o (ob_8 h)
theorem sf_8_65 {o : Nat} (h : Sh o = (18, 69)) : Sh (o + 66) = (1, 6) := (by decide +kernel : ∀ o ∈ ([20000] : List Nat), Sh (o + 66) = (1, 6)) o (ob_8 h)
theorem sf_8_66 {o : Nat} (h : Sh o = (18, 69)) : Sh (o + 67) = (1, 6) := (by decide +kernel : ∀ o ∈ ([20000] : List Nat), Sh (o + 67) = (1, 6)) o (ob_8 h)
theorem sf_8_67 {o : Nat} (h : Sh o = (18, 69)) : Sh (o + 68) = (6, 6) := (by decide +kernel : ∀ o ∈ ([20000] : List Nat), Sh (o + 68) = (6, 6)) o (ob_8 h)
theorem sf_8_68 {o : Nat} (h : Sh o = (18, 69)) : Sh (o + 69) = (2, 60) := (by decide +kernel : ∀ o ∈ ([20000] : List Nat), Sh (o + 69) = (2, 60)) o (ob_8 h)
theorem or_4 {o : Nat} (h : Sh o = (4, 8)) : o ∈ ([1009, 2009] : List Nat) := by
  have e := sh_all (P := fun o => decide (Sh o = (4, 8) → o ∈ ([1009, 2009] : List Nat))) (by decide +kernel) h (by decide)
  exact of_decide_eq_true e h
theorem sr_4 {o j : Nat} (h : Sh o = (4, 8)) (hj : j < 8) : Sh (o + 36 + 16 * j) = (12, 9) := (by decide +kernel : ∀ o ∈ ([1009, 2009] : List Nat), ∀ j, j < 8 → Sh (o + 36 + 16 * j) = (12, 9)) o (or_4 h) j hj
theorem or_5 {o : Nat} (h : Sh o = (5, 6)) : o ∈ ([20] : List Nat) := by
  have e := sh_all (P := fun o => decide (Sh o = (5, 6) → o ∈ ([20] : List Nat))) (by decide +kernel) h (by decide)
  exact of_decide_eq_true e h
theorem sr_5 {o j : Nat} (h : Sh o = (5, 6)) (hj : j < 6) : Sh (o + 36 + 16 * j) = (14, 3) := (by decide +kernel : ∀ o ∈ ([20] : List Nat), ∀ j, j < 6 → Sh (o + 36 + 16 * j) = (14, 3)) o (or_5 h) j hj
theorem or_6 {o : Nat} (h : Sh o = (6, 6)) : o ∈ ([20068] : List Nat) := by
  have e := sh_all (P := fun o => decide (Sh o = (6, 6) → o ∈ ([20068] : List Nat))) (by decide +kernel) h (by decide)
  exact of_decide_eq_true e h
theorem sr_6 {o j : Nat} (h : Sh o = (6, 6)) (hj : j < 6) : Sh (o + 36 + 16 * j) = (2, 60) := (by decide +kernel : ∀ o ∈ ([20068] : List Nat), ∀ j, j < 6 → Sh (o + 36 + 16 * j) = (2, 60)) o (or_6 h) j hj
end
