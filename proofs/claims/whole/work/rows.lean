section
-- ===== PART A: goes FIRST, ahead of the names: the tables' words, and 'selects' of the private methods out of them =====
/-- a private method of a class that the tables say can be made, by its rows of tables_1 -/
def lw_okq (q : MethodName × Nat) : Prop := (q.1.cls ≠ "java/lang/invoke/MethodHandle" ∧ q.1.cls ≠ "java/lang/invoke/VarHandle") ∧ Cond.instantiable q.1.cls q.2 ∈ tables_1 ∧ Cond.privateMethod q.1 ∈ tables_1 ∧ Cond.instanceMethod q.1 ∈ tables_1
theorem lw_p0 : lw_okq (⟨"KeepCount", "isOver", "(II)Z"⟩, 10) := ⟨⟨by decide +kernel, by decide +kernel⟩, List.mem_of_getElem? (i := 15) (by decide +kernel), List.mem_of_getElem? (i := 355) (by decide +kernel), List.mem_of_getElem? (i := 356) (by decide +kernel)⟩
theorem lw_p1 : lw_okq (⟨"KeepCount", "putSeats", "(I)I"⟩, 10) := ⟨⟨by decide +kernel, by decide +kernel⟩, List.mem_of_getElem? (i := 15) (by decide +kernel), List.mem_of_getElem? (i := 399) (by decide +kernel), List.mem_of_getElem? (i := 400) (by decide +kernel)⟩
theorem lw_p2 : lw_okq (⟨"KeepCount", "putLimit", "(I)I"⟩, 10) := ⟨⟨by decide +kernel, by decide +kernel⟩, List.mem_of_getElem? (i := 15) (by decide +kernel), List.mem_of_getElem? (i := 404) (by decide +kernel), List.mem_of_getElem? (i := 405) (by decide +kernel)⟩
theorem lw_p3 : lw_okq (⟨"KeepCount", "putRounds", "(I)I"⟩, 10) := ⟨⟨by decide +kernel, by decide +kernel⟩, List.mem_of_getElem? (i := 15) (by decide +kernel), List.mem_of_getElem? (i := 408) (by decide +kernel), List.mem_of_getElem? (i := 409) (by decide +kernel)⟩
theorem lw_p4 : lw_okq (⟨"KeepCount", "tallied", "()LKeepCount$Tally;"⟩, 10) := ⟨⟨by decide +kernel, by decide +kernel⟩, List.mem_of_getElem? (i := 15) (by decide +kernel), List.mem_of_getElem? (i := 420) (by decide +kernel), List.mem_of_getElem? (i := 421) (by decide +kernel)⟩
theorem lw_p5 : lw_okq (⟨"KeepCount$Piles", "put", "(II)V"⟩, 3) := ⟨⟨by decide +kernel, by decide +kernel⟩, List.mem_of_getElem? (i := 108) (by decide +kernel), List.mem_of_getElem? (i := 439) (by decide +kernel), List.mem_of_getElem? (i := 440) (by decide +kernel)⟩
theorem lw_p6 : lw_okq (⟨"KeepCount$Tally", "begin", "()V"⟩, 14) := ⟨⟨by decide +kernel, by decide +kernel⟩, List.mem_of_getElem? (i := 102) (by decide +kernel), List.mem_of_getElem? (i := 443) (by decide +kernel), List.mem_of_getElem? (i := 444) (by decide +kernel)⟩
theorem lw_p7 : lw_okq (⟨"KeepCount$Tally", "fill", "(LKeepCount$Stage;)V"⟩, 14) := ⟨⟨by decide +kernel, by decide +kernel⟩, List.mem_of_getElem? (i := 102) (by decide +kernel), List.mem_of_getElem? (i := 448) (by decide +kernel), List.mem_of_getElem? (i := 449) (by decide +kernel)⟩
theorem lw_p8 : lw_okq (⟨"KeepCount$Tally", "workOut", "()V"⟩, 14) := ⟨⟨by decide +kernel, by decide +kernel⟩, List.mem_of_getElem? (i := 102) (by decide +kernel), List.mem_of_getElem? (i := 452) (by decide +kernel), List.mem_of_getElem? (i := 453) (by decide +kernel)⟩
theorem lw_p9 : lw_okq (⟨"KeepCount$Tally", "passOn", "(IJ)J"⟩, 14) := ⟨⟨by decide +kernel, by decide +kernel⟩, List.mem_of_getElem? (i := 102) (by decide +kernel), List.mem_of_getElem? (i := 459) (by decide +kernel), List.mem_of_getElem? (i := 460) (by decide +kernel)⟩
theorem lw_p10 : lw_okq (⟨"KeepCount$Tally", "note", "(LKeepCount$Stage;IJ)V"⟩, 14) := ⟨⟨by decide +kernel, by decide +kernel⟩, List.mem_of_getElem? (i := 102) (by decide +kernel), List.mem_of_getElem? (i := 467) (by decide +kernel), List.mem_of_getElem? (i := 468) (by decide +kernel)⟩
theorem lw_p11 : lw_okq (⟨"KeepCount$Tally", "elect", "(LKeepCount$Stage;I)V"⟩, 14) := ⟨⟨by decide +kernel, by decide +kernel⟩, List.mem_of_getElem? (i := 102) (by decide +kernel), List.mem_of_getElem? (i := 475) (by decide +kernel), List.mem_of_getElem? (i := 476) (by decide +kernel)⟩
theorem lw_p12 : lw_okq (⟨"KeepCount$Tally", "goByRounds", "(LKeepCount$Stage;Z)V"⟩, 14) := ⟨⟨by decide +kernel, by decide +kernel⟩, List.mem_of_getElem? (i := 102) (by decide +kernel), List.mem_of_getElem? (i := 483) (by decide +kernel), List.mem_of_getElem? (i := 484) (by decide +kernel)⟩
theorem lw_p13 : lw_okq (⟨"KeepCount$Tally", "turnKeeps", "()V"⟩, 14) := ⟨⟨by decide +kernel, by decide +kernel⟩, List.mem_of_getElem? (i := 102) (by decide +kernel), List.mem_of_getElem? (i := 487) (by decide +kernel), List.mem_of_getElem? (i := 488) (by decide +kernel)⟩
theorem lw_p14 : lw_okq (⟨"KeepCount$Tally", "surplus", "()J"⟩, 14) := ⟨⟨by decide +kernel, by decide +kernel⟩, List.mem_of_getElem? (i := 102) (by decide +kernel), List.mem_of_getElem? (i := 494) (by decide +kernel), List.mem_of_getElem? (i := 495) (by decide +kernel)⟩
theorem lw_p15 : lw_okq (⟨"KeepCount$Tally", "whoReachesQuota", "()I"⟩, 14) := ⟨⟨by decide +kernel, by decide +kernel⟩, List.mem_of_getElem? (i := 102) (by decide +kernel), List.mem_of_getElem? (i := 501) (by decide +kernel), List.mem_of_getElem? (i := 502) (by decide +kernel)⟩
def lw_privs_1 : List (MethodName × Nat) := [(⟨"KeepCount", "isOver", "(II)Z"⟩, 10), (⟨"KeepCount", "putSeats", "(I)I"⟩, 10), (⟨"KeepCount", "putLimit", "(I)I"⟩, 10), (⟨"KeepCount", "putRounds", "(I)I"⟩, 10), (⟨"KeepCount", "tallied", "()LKeepCount$Tally;"⟩, 10), (⟨"KeepCount$Piles", "put", "(II)V"⟩, 3), (⟨"KeepCount$Tally", "begin", "()V"⟩, 14), (⟨"KeepCount$Tally", "fill", "(LKeepCount$Stage;)V"⟩, 14), (⟨"KeepCount$Tally", "workOut", "()V"⟩, 14), (⟨"KeepCount$Tally", "passOn", "(IJ)J"⟩, 14), (⟨"KeepCount$Tally", "note", "(LKeepCount$Stage;IJ)V"⟩, 14), (⟨"KeepCount$Tally", "elect", "(LKeepCount$Stage;I)V"⟩, 14), (⟨"KeepCount$Tally", "goByRounds", "(LKeepCount$Stage;Z)V"⟩, 14), (⟨"KeepCount$Tally", "turnKeeps", "()V"⟩, 14), (⟨"KeepCount$Tally", "surplus", "()J"⟩, 14), (⟨"KeepCount$Tally", "whoReachesQuota", "()I"⟩, 14)]
theorem lw_r1 : ∀ q ∈ lw_privs_1, lw_okq q := List.forall_mem_cons.mpr ⟨lw_p0, List.forall_mem_cons.mpr ⟨lw_p1, List.forall_mem_cons.mpr ⟨lw_p2, List.forall_mem_cons.mpr ⟨lw_p3, List.forall_mem_cons.mpr ⟨lw_p4, List.forall_mem_cons.mpr ⟨lw_p5, List.forall_mem_cons.mpr ⟨lw_p6, List.forall_mem_cons.mpr ⟨lw_p7, List.forall_mem_cons.mpr ⟨lw_p8, List.forall_mem_cons.mpr ⟨lw_p9, List.forall_mem_cons.mpr ⟨lw_p10, List.forall_mem_cons.mpr ⟨lw_p11, List.forall_mem_cons.mpr ⟨lw_p12, List.forall_mem_cons.mpr ⟨lw_p13, List.forall_mem_cons.mpr ⟨lw_p14, List.forall_mem_cons.mpr ⟨lw_p15, fun _ h => absurd h List.not_mem_nil⟩⟩⟩⟩⟩⟩⟩⟩⟩⟩⟩⟩⟩⟩⟩⟩
theorem lw_p16 : lw_okq (⟨"KeepCount$Tally", "exclude", "(LKeepCount$Stage;)V"⟩, 14) := ⟨⟨by decide +kernel, by decide +kernel⟩, List.mem_of_getElem? (i := 102) (by decide +kernel), List.mem_of_getElem? (i := 505) (by decide +kernel), List.mem_of_getElem? (i := 506) (by decide +kernel)⟩
theorem lw_p17 : lw_okq (⟨"KeepCount$Tally", "whoHasFewest", "([JI)I"⟩, 14) := ⟨⟨by decide +kernel, by decide +kernel⟩, List.mem_of_getElem? (i := 102) (by decide +kernel), List.mem_of_getElem? (i := 509) (by decide +kernel), List.mem_of_getElem? (i := 510) (by decide +kernel)⟩
theorem lw_p18 : lw_okq (⟨"KeepCount$Tally", "lastInLot", "(I)I"⟩, 14) := ⟨⟨by decide +kernel, by decide +kernel⟩, List.mem_of_getElem? (i := 102) (by decide +kernel), List.mem_of_getElem? (i := 514) (by decide +kernel), List.mem_of_getElem? (i := 515) (by decide +kernel)⟩
theorem lw_p19 : lw_okq (⟨"KeepCount", "beatsAll", "(I)Z"⟩, 10) := ⟨⟨by decide +kernel, by decide +kernel⟩, List.mem_of_getElem? (i := 15) (by decide +kernel), List.mem_of_getElem? (i := 611) (by decide +kernel), List.mem_of_getElem? (i := 612) (by decide +kernel)⟩
theorem lw_p20 : lw_okq (⟨"KeepCount", "electedInThought", "()I"⟩, 10) := ⟨⟨by decide +kernel, by decide +kernel⟩, List.mem_of_getElem? (i := 15) (by decide +kernel), List.mem_of_getElem? (i := 631) (by decide +kernel), List.mem_of_getElem? (i := 632) (by decide +kernel)⟩
theorem lw_p21 : lw_okq (⟨"KeepCount$Poll", "emptyLedBy", "(I)V"⟩, 15) := ⟨⟨by decide +kernel, by decide +kernel⟩, List.mem_of_getElem? (i := 23) (by decide +kernel), List.mem_of_getElem? (i := 675) (by decide +kernel), List.mem_of_getElem? (i := 676) (by decide +kernel)⟩
theorem lw_p22 : lw_okq (⟨"KeepCount$Text", "readsClause", "(I)Z"⟩, 8) := ⟨⟨by decide +kernel, by decide +kernel⟩, List.mem_of_getElem? (i := 233) (by decide +kernel), List.mem_of_getElem? (i := 691) (by decide +kernel), List.mem_of_getElem? (i := 692) (by decide +kernel)⟩
theorem lw_p23 : lw_okq (⟨"KeepCount$Text", "sign", "()I"⟩, 8) := ⟨⟨by decide +kernel, by decide +kernel⟩, List.mem_of_getElem? (i := 233) (by decide +kernel), List.mem_of_getElem? (i := 695) (by decide +kernel), List.mem_of_getElem? (i := 696) (by decide +kernel)⟩
theorem lw_p24 : lw_okq (⟨"KeepCount$Text", "readsBallot", "(I)Z"⟩, 8) := ⟨⟨by decide +kernel, by decide +kernel⟩, List.mem_of_getElem? (i := 233) (by decide +kernel), List.mem_of_getElem? (i := 699) (by decide +kernel), List.mem_of_getElem? (i := 700) (by decide +kernel)⟩
theorem lw_p25 : lw_okq (⟨"KeepCount$Text", "number", "(I)I"⟩, 8) := ⟨⟨by decide +kernel, by decide +kernel⟩, List.mem_of_getElem? (i := 233) (by decide +kernel), List.mem_of_getElem? (i := 703) (by decide +kernel), List.mem_of_getElem? (i := 704) (by decide +kernel)⟩
theorem lw_p26 : lw_okq (⟨"KeepCount", "isDone", "(III)Z"⟩, 10) := ⟨⟨by decide +kernel, by decide +kernel⟩, List.mem_of_getElem? (i := 15) (by decide +kernel), List.mem_of_getElem? (i := 709) (by decide +kernel), List.mem_of_getElem? (i := 710) (by decide +kernel)⟩
theorem lw_p27 : lw_okq (⟨"KeepCount", "tapeAt", "(I)LKeepCount$Tape;"⟩, 10) := ⟨⟨by decide +kernel, by decide +kernel⟩, List.mem_of_getElem? (i := 15) (by decide +kernel), List.mem_of_getElem? (i := 725) (by decide +kernel), List.mem_of_getElem? (i := 726) (by decide +kernel)⟩
theorem lw_p28 : lw_okq (⟨"KeepCountModel", "isRow", "(I)Z"⟩, 69) := ⟨⟨by decide +kernel, by decide +kernel⟩, List.mem_of_getElem? (i := 773) (by decide +kernel), List.mem_of_getElem? (i := 997) (by decide +kernel), List.mem_of_getElem? (i := 998) (by decide +kernel)⟩
theorem lw_p29 : lw_okq (⟨"KeepCountModel", "firstOver", "(I)I"⟩, 69) := ⟨⟨by decide +kernel, by decide +kernel⟩, List.mem_of_getElem? (i := 773) (by decide +kernel), List.mem_of_getElem? (i := 1009) (by decide +kernel), List.mem_of_getElem? (i := 1010) (by decide +kernel)⟩
theorem lw_p30 : lw_okq (⟨"KeepCountModel", "over", "(I)I"⟩, 69) := ⟨⟨by decide +kernel, by decide +kernel⟩, List.mem_of_getElem? (i := 773) (by decide +kernel), List.mem_of_getElem? (i := 1014) (by decide +kernel), List.mem_of_getElem? (i := 1015) (by decide +kernel)⟩
theorem lw_p31 : lw_okq (⟨"KeepCountModel", "isBallot", "(I)Z"⟩, 69) := ⟨⟨by decide +kernel, by decide +kernel⟩, List.mem_of_getElem? (i := 773) (by decide +kernel), List.mem_of_getElem? (i := 1022) (by decide +kernel), List.mem_of_getElem? (i := 1023) (by decide +kernel)⟩
def lw_privs_2 : List (MethodName × Nat) := [(⟨"KeepCount$Tally", "exclude", "(LKeepCount$Stage;)V"⟩, 14), (⟨"KeepCount$Tally", "whoHasFewest", "([JI)I"⟩, 14), (⟨"KeepCount$Tally", "lastInLot", "(I)I"⟩, 14), (⟨"KeepCount", "beatsAll", "(I)Z"⟩, 10), (⟨"KeepCount", "electedInThought", "()I"⟩, 10), (⟨"KeepCount$Poll", "emptyLedBy", "(I)V"⟩, 15), (⟨"KeepCount$Text", "readsClause", "(I)Z"⟩, 8), (⟨"KeepCount$Text", "sign", "()I"⟩, 8), (⟨"KeepCount$Text", "readsBallot", "(I)Z"⟩, 8), (⟨"KeepCount$Text", "number", "(I)I"⟩, 8), (⟨"KeepCount", "isDone", "(III)Z"⟩, 10), (⟨"KeepCount", "tapeAt", "(I)LKeepCount$Tape;"⟩, 10), (⟨"KeepCountModel", "isRow", "(I)Z"⟩, 69), (⟨"KeepCountModel", "firstOver", "(I)I"⟩, 69), (⟨"KeepCountModel", "over", "(I)I"⟩, 69), (⟨"KeepCountModel", "isBallot", "(I)Z"⟩, 69)]
theorem lw_r2 : ∀ q ∈ lw_privs_2, lw_okq q := List.forall_mem_cons.mpr ⟨lw_p16, List.forall_mem_cons.mpr ⟨lw_p17, List.forall_mem_cons.mpr ⟨lw_p18, List.forall_mem_cons.mpr ⟨lw_p19, List.forall_mem_cons.mpr ⟨lw_p20, List.forall_mem_cons.mpr ⟨lw_p21, List.forall_mem_cons.mpr ⟨lw_p22, List.forall_mem_cons.mpr ⟨lw_p23, List.forall_mem_cons.mpr ⟨lw_p24, List.forall_mem_cons.mpr ⟨lw_p25, List.forall_mem_cons.mpr ⟨lw_p26, List.forall_mem_cons.mpr ⟨lw_p27, List.forall_mem_cons.mpr ⟨lw_p28, List.forall_mem_cons.mpr ⟨lw_p29, List.forall_mem_cons.mpr ⟨lw_p30, List.forall_mem_cons.mpr ⟨lw_p31, fun _ h => absurd h List.not_mem_nil⟩⟩⟩⟩⟩⟩⟩⟩⟩⟩⟩⟩⟩⟩⟩⟩
theorem lw_p32 : lw_okq (⟨"KeepCountModel", "isOne", "(I)Z"⟩, 69) := ⟨⟨by decide +kernel, by decide +kernel⟩, List.mem_of_getElem? (i := 773) (by decide +kernel), List.mem_of_getElem? (i := 1034) (by decide +kernel), List.mem_of_getElem? (i := 1035) (by decide +kernel)⟩
theorem lw_p33 : lw_okq (⟨"KeepCountModel", "counts", "()V"⟩, 69) := ⟨⟨by decide +kernel, by decide +kernel⟩, List.mem_of_getElem? (i := 773) (by decide +kernel), List.mem_of_getElem? (i := 1055) (by decide +kernel), List.mem_of_getElem? (i := 1056) (by decide +kernel)⟩
theorem lw_p34 : lw_okq (⟨"KeepCountModel", "tellPiles", "()V"⟩, 69) := ⟨⟨by decide +kernel, by decide +kernel⟩, List.mem_of_getElem? (i := 773) (by decide +kernel), List.mem_of_getElem? (i := 1059) (by decide +kernel), List.mem_of_getElem? (i := 1060) (by decide +kernel)⟩
theorem lw_p35 : lw_okq (⟨"KeepCountModel", "left", "(I)I"⟩, 69) := ⟨⟨by decide +kernel, by decide +kernel⟩, List.mem_of_getElem? (i := 773) (by decide +kernel), List.mem_of_getElem? (i := 1063) (by decide +kernel), List.mem_of_getElem? (i := 1064) (by decide +kernel)⟩
theorem lw_p36 : lw_okq (⟨"KeepCountModel", "comesTo", "(II)V"⟩, 69) := ⟨⟨by decide +kernel, by decide +kernel⟩, List.mem_of_getElem? (i := 773) (by decide +kernel), List.mem_of_getElem? (i := 1073) (by decide +kernel), List.mem_of_getElem? (i := 1074) (by decide +kernel)⟩
theorem lw_p37 : lw_okq (⟨"KeepCountModel", "many", "(I)I"⟩, 69) := ⟨⟨by decide +kernel, by decide +kernel⟩, List.mem_of_getElem? (i := 773) (by decide +kernel), List.mem_of_getElem? (i := 1081) (by decide +kernel), List.mem_of_getElem? (i := 1082) (by decide +kernel)⟩
theorem lw_p38 : lw_okq (⟨"KeepCountModel", "fills", "()V"⟩, 69) := ⟨⟨by decide +kernel, by decide +kernel⟩, List.mem_of_getElem? (i := 773) (by decide +kernel), List.mem_of_getElem? (i := 1085) (by decide +kernel), List.mem_of_getElem? (i := 1086) (by decide +kernel)⟩
theorem lw_p39 : lw_okq (⟨"KeepCountModel", "tellVotes", "()V"⟩, 69) := ⟨⟨by decide +kernel, by decide +kernel⟩, List.mem_of_getElem? (i := 773) (by decide +kernel), List.mem_of_getElem? (i := 1089) (by decide +kernel), List.mem_of_getElem? (i := 1090) (by decide +kernel)⟩
theorem lw_p40 : lw_okq (⟨"KeepCountModel", "becomesElected", "(I)V"⟩, 69) := ⟨⟨by decide +kernel, by decide +kernel⟩, List.mem_of_getElem? (i := 773) (by decide +kernel), List.mem_of_getElem? (i := 1093) (by decide +kernel), List.mem_of_getElem? (i := 1094) (by decide +kernel)⟩
theorem lw_p41 : lw_okq (⟨"KeepCountModel", "endsStage", "(I)V"⟩, 69) := ⟨⟨by decide +kernel, by decide +kernel⟩, List.mem_of_getElem? (i := 773) (by decide +kernel), List.mem_of_getElem? (i := 1097) (by decide +kernel), List.mem_of_getElem? (i := 1098) (by decide +kernel)⟩
theorem lw_p42 : lw_okq (⟨"KeepCountModel", "lines", "()V"⟩, 69) := ⟨⟨by decide +kernel, by decide +kernel⟩, List.mem_of_getElem? (i := 773) (by decide +kernel), List.mem_of_getElem? (i := 1101) (by decide +kernel), List.mem_of_getElem? (i := 1102) (by decide +kernel)⟩
theorem lw_p43 : lw_okq (⟨"KeepCountModel", "isAhead", "(II)Z"⟩, 69) := ⟨⟨by decide +kernel, by decide +kernel⟩, List.mem_of_getElem? (i := 773) (by decide +kernel), List.mem_of_getElem? (i := 1105) (by decide +kernel), List.mem_of_getElem? (i := 1106) (by decide +kernel)⟩
theorem lw_p44 : lw_okq (⟨"KeepCountModel", "lotOf", "(I)I"⟩, 69) := ⟨⟨by decide +kernel, by decide +kernel⟩, List.mem_of_getElem? (i := 773) (by decide +kernel), List.mem_of_getElem? (i := 1109) (by decide +kernel), List.mem_of_getElem? (i := 1110) (by decide +kernel)⟩
theorem lw_p45 : lw_okq (⟨"KeepCountModel", "goesStage", "(Z)V"⟩, 69) := ⟨⟨by decide +kernel, by decide +kernel⟩, List.mem_of_getElem? (i := 773) (by decide +kernel), List.mem_of_getElem? (i := 1113) (by decide +kernel), List.mem_of_getElem? (i := 1114) (by decide +kernel)⟩
theorem lw_p46 : lw_okq (⟨"KeepCountModel", "keepsAnew", "()V"⟩, 69) := ⟨⟨by decide +kernel, by decide +kernel⟩, List.mem_of_getElem? (i := 773) (by decide +kernel), List.mem_of_getElem? (i := 1117) (by decide +kernel), List.mem_of_getElem? (i := 1118) (by decide +kernel)⟩
theorem lw_p47 : lw_okq (⟨"KeepCountModel", "tellSurplus", "()V"⟩, 69) := ⟨⟨by decide +kernel, by decide +kernel⟩, List.mem_of_getElem? (i := 773) (by decide +kernel), List.mem_of_getElem? (i := 1122) (by decide +kernel), List.mem_of_getElem? (i := 1123) (by decide +kernel)⟩
def lw_privs_3 : List (MethodName × Nat) := [(⟨"KeepCountModel", "isOne", "(I)Z"⟩, 69), (⟨"KeepCountModel", "counts", "()V"⟩, 69), (⟨"KeepCountModel", "tellPiles", "()V"⟩, 69), (⟨"KeepCountModel", "left", "(I)I"⟩, 69), (⟨"KeepCountModel", "comesTo", "(II)V"⟩, 69), (⟨"KeepCountModel", "many", "(I)I"⟩, 69), (⟨"KeepCountModel", "fills", "()V"⟩, 69), (⟨"KeepCountModel", "tellVotes", "()V"⟩, 69), (⟨"KeepCountModel", "becomesElected", "(I)V"⟩, 69), (⟨"KeepCountModel", "endsStage", "(I)V"⟩, 69), (⟨"KeepCountModel", "lines", "()V"⟩, 69), (⟨"KeepCountModel", "isAhead", "(II)Z"⟩, 69), (⟨"KeepCountModel", "lotOf", "(I)I"⟩, 69), (⟨"KeepCountModel", "goesStage", "(Z)V"⟩, 69), (⟨"KeepCountModel", "keepsAnew", "()V"⟩, 69), (⟨"KeepCountModel", "tellSurplus", "()V"⟩, 69)]
theorem lw_r3 : ∀ q ∈ lw_privs_3, lw_okq q := List.forall_mem_cons.mpr ⟨lw_p32, List.forall_mem_cons.mpr ⟨lw_p33, List.forall_mem_cons.mpr ⟨lw_p34, List.forall_mem_cons.mpr ⟨lw_p35, List.forall_mem_cons.mpr ⟨lw_p36, List.forall_mem_cons.mpr ⟨lw_p37, List.forall_mem_cons.mpr ⟨lw_p38, List.forall_mem_cons.mpr ⟨lw_p39, List.forall_mem_cons.mpr ⟨lw_p40, List.forall_mem_cons.mpr ⟨lw_p41, List.forall_mem_cons.mpr ⟨lw_p42, List.forall_mem_cons.mpr ⟨lw_p43, List.forall_mem_cons.mpr ⟨lw_p44, List.forall_mem_cons.mpr ⟨lw_p45, List.forall_mem_cons.mpr ⟨lw_p46, List.forall_mem_cons.mpr ⟨lw_p47, fun _ h => absurd h List.not_mem_nil⟩⟩⟩⟩⟩⟩⟩⟩⟩⟩⟩⟩⟩⟩⟩⟩
theorem lw_p48 : lw_okq (⟨"KeepCountModel", "elects", "()Z"⟩, 69) := ⟨⟨by decide +kernel, by decide +kernel⟩, List.mem_of_getElem? (i := 773) (by decide +kernel), List.mem_of_getElem? (i := 1126) (by decide +kernel), List.mem_of_getElem? (i := 1127) (by decide +kernel)⟩
theorem lw_p49 : lw_okq (⟨"KeepCountModel", "worst", "()I"⟩, 69) := ⟨⟨by decide +kernel, by decide +kernel⟩, List.mem_of_getElem? (i := 773) (by decide +kernel), List.mem_of_getElem? (i := 1130) (by decide +kernel), List.mem_of_getElem? (i := 1131) (by decide +kernel)⟩
theorem lw_p50 : lw_okq (⟨"KeepCountModel", "goesRather", "(II)Z"⟩, 69) := ⟨⟨by decide +kernel, by decide +kernel⟩, List.mem_of_getElem? (i := 773) (by decide +kernel), List.mem_of_getElem? (i := 1134) (by decide +kernel), List.mem_of_getElem? (i := 1135) (by decide +kernel)⟩
theorem lw_p51 : lw_okq (⟨"KeepCountModel", "firstMany", "(I)I"⟩, 69) := ⟨⟨by decide +kernel, by decide +kernel⟩, List.mem_of_getElem? (i := 773) (by decide +kernel), List.mem_of_getElem? (i := 1138) (by decide +kernel), List.mem_of_getElem? (i := 1139) (by decide +kernel)⟩
theorem lw_p52 : lw_okq (⟨"KeepCountModel", "electedSet", "()I"⟩, 69) := ⟨⟨by decide +kernel, by decide +kernel⟩, List.mem_of_getElem? (i := 773) (by decide +kernel), List.mem_of_getElem? (i := 1155) (by decide +kernel), List.mem_of_getElem? (i := 1156) (by decide +kernel)⟩
theorem lw_p53 : lw_okq (⟨"KeepCountModel", "isStage", "(I)Z"⟩, 69) := ⟨⟨by decide +kernel, by decide +kernel⟩, List.mem_of_getElem? (i := 773) (by decide +kernel), List.mem_of_getElem? (i := 1163) (by decide +kernel), List.mem_of_getElem? (i := 1164) (by decide +kernel)⟩
theorem lw_p54 : lw_okq (⟨"KeepCountModel", "ranksBy", "(III)I"⟩, 69) := ⟨⟨by decide +kernel, by decide +kernel⟩, List.mem_of_getElem? (i := 773) (by decide +kernel), List.mem_of_getElem? (i := 1186) (by decide +kernel), List.mem_of_getElem? (i := 1187) (by decide +kernel)⟩
theorem lw_p55 : lw_okq (⟨"KeepCountModel", "isBefore", "(III)Z"⟩, 69) := ⟨⟨by decide +kernel, by decide +kernel⟩, List.mem_of_getElem? (i := 773) (by decide +kernel), List.mem_of_getElem? (i := 1190) (by decide +kernel), List.mem_of_getElem? (i := 1191) (by decide +kernel)⟩
theorem lw_p56 : lw_okq (⟨"KeepCountModel", "isTwo", "(II)Z"⟩, 69) := ⟨⟨by decide +kernel, by decide +kernel⟩, List.mem_of_getElem? (i := 773) (by decide +kernel), List.mem_of_getElem? (i := 1206) (by decide +kernel), List.mem_of_getElem? (i := 1207) (by decide +kernel)⟩
theorem lw_p57 : lw_okq (⟨"KeepCountModel", "preferredTo", "(II)I"⟩, 69) := ⟨⟨by decide +kernel, by decide +kernel⟩, List.mem_of_getElem? (i := 773) (by decide +kernel), List.mem_of_getElem? (i := 1210) (by decide +kernel), List.mem_of_getElem? (i := 1211) (by decide +kernel)⟩
theorem lw_p58 : lw_okq (⟨"KeepCountModel", "isBest", "(I)Z"⟩, 69) := ⟨⟨by decide +kernel, by decide +kernel⟩, List.mem_of_getElem? (i := 773) (by decide +kernel), List.mem_of_getElem? (i := 1218) (by decide +kernel), List.mem_of_getElem? (i := 1219) (by decide +kernel)⟩
theorem lw_p59 : lw_okq (⟨"KeepCountModel", "isAsSeen", "()Z"⟩, 69) := ⟨⟨by decide +kernel, by decide +kernel⟩, List.mem_of_getElem? (i := 773) (by decide +kernel), List.mem_of_getElem? (i := 1250) (by decide +kernel), List.mem_of_getElem? (i := 1251) (by decide +kernel)⟩
theorem lw_p60 : lw_okq (⟨"KeepCountModel", "happens", "(II)V"⟩, 69) := ⟨⟨by decide +kernel, by decide +kernel⟩, List.mem_of_getElem? (i := 773) (by decide +kernel), List.mem_of_getElem? (i := 1262) (by decide +kernel), List.mem_of_getElem? (i := 1263) (by decide +kernel)⟩
theorem lw_p61 : lw_okq (⟨"KeepCountModel", "clauseRead", "()V"⟩, 69) := ⟨⟨by decide +kernel, by decide +kernel⟩, List.mem_of_getElem? (i := 773) (by decide +kernel), List.mem_of_getElem? (i := 1275) (by decide +kernel), List.mem_of_getElem? (i := 1276) (by decide +kernel)⟩
theorem lw_p62 : lw_okq (⟨"KeepCountModel", "signAt", "(I)I"⟩, 69) := ⟨⟨by decide +kernel, by decide +kernel⟩, List.mem_of_getElem? (i := 773) (by decide +kernel), List.mem_of_getElem? (i := 1279) (by decide +kernel), List.mem_of_getElem? (i := 1280) (by decide +kernel)⟩
theorem lw_p63 : lw_okq (⟨"KeepCountModel", "fails", "(Z)V"⟩, 69) := ⟨⟨by decide +kernel, by decide +kernel⟩, List.mem_of_getElem? (i := 773) (by decide +kernel), List.mem_of_getElem? (i := 1283) (by decide +kernel), List.mem_of_getElem? (i := 1284) (by decide +kernel)⟩
def lw_privs_4 : List (MethodName × Nat) := [(⟨"KeepCountModel", "elects", "()Z"⟩, 69), (⟨"KeepCountModel", "worst", "()I"⟩, 69), (⟨"KeepCountModel", "goesRather", "(II)Z"⟩, 69), (⟨"KeepCountModel", "firstMany", "(I)I"⟩, 69), (⟨"KeepCountModel", "electedSet", "()I"⟩, 69), (⟨"KeepCountModel", "isStage", "(I)Z"⟩, 69), (⟨"KeepCountModel", "ranksBy", "(III)I"⟩, 69), (⟨"KeepCountModel", "isBefore", "(III)Z"⟩, 69), (⟨"KeepCountModel", "isTwo", "(II)Z"⟩, 69), (⟨"KeepCountModel", "preferredTo", "(II)I"⟩, 69), (⟨"KeepCountModel", "isBest", "(I)Z"⟩, 69), (⟨"KeepCountModel", "isAsSeen", "()Z"⟩, 69), (⟨"KeepCountModel", "happens", "(II)V"⟩, 69), (⟨"KeepCountModel", "clauseRead", "()V"⟩, 69), (⟨"KeepCountModel", "signAt", "(I)I"⟩, 69), (⟨"KeepCountModel", "fails", "(Z)V"⟩, 69)]
theorem lw_r4 : ∀ q ∈ lw_privs_4, lw_okq q := List.forall_mem_cons.mpr ⟨lw_p48, List.forall_mem_cons.mpr ⟨lw_p49, List.forall_mem_cons.mpr ⟨lw_p50, List.forall_mem_cons.mpr ⟨lw_p51, List.forall_mem_cons.mpr ⟨lw_p52, List.forall_mem_cons.mpr ⟨lw_p53, List.forall_mem_cons.mpr ⟨lw_p54, List.forall_mem_cons.mpr ⟨lw_p55, List.forall_mem_cons.mpr ⟨lw_p56, List.forall_mem_cons.mpr ⟨lw_p57, List.forall_mem_cons.mpr ⟨lw_p58, List.forall_mem_cons.mpr ⟨lw_p59, List.forall_mem_cons.mpr ⟨lw_p60, List.forall_mem_cons.mpr ⟨lw_p61, List.forall_mem_cons.mpr ⟨lw_p62, List.forall_mem_cons.mpr ⟨lw_p63, fun _ h => absurd h List.not_mem_nil⟩⟩⟩⟩⟩⟩⟩⟩⟩⟩⟩⟩⟩⟩⟩⟩
theorem lw_p64 : lw_okq (⟨"KeepCountModel", "numberRead", "(I)I"⟩, 69) := ⟨⟨by decide +kernel, by decide +kernel⟩, List.mem_of_getElem? (i := 773) (by decide +kernel), List.mem_of_getElem? (i := 1287) (by decide +kernel), List.mem_of_getElem? (i := 1288) (by decide +kernel)⟩
theorem lw_p65 : lw_okq (⟨"KeepCountModel", "faulty", "()I"⟩, 69) := ⟨⟨by decide +kernel, by decide +kernel⟩, List.mem_of_getElem? (i := 773) (by decide +kernel), List.mem_of_getElem? (i := 1293) (by decide +kernel), List.mem_of_getElem? (i := 1294) (by decide +kernel)⟩
theorem lw_p66 : lw_okq (⟨"KeepCountModel", "done", "(I)I"⟩, 69) := ⟨⟨by decide +kernel, by decide +kernel⟩, List.mem_of_getElem? (i := 773) (by decide +kernel), List.mem_of_getElem? (i := 1297) (by decide +kernel), List.mem_of_getElem? (i := 1298) (by decide +kernel)⟩
theorem lw_p67 : lw_okq (⟨"KeepCountModel", "refusal", "(II)I"⟩, 69) := ⟨⟨by decide +kernel, by decide +kernel⟩, List.mem_of_getElem? (i := 773) (by decide +kernel), List.mem_of_getElem? (i := 1339) (by decide +kernel), List.mem_of_getElem? (i := 1340) (by decide +kernel)⟩
def lw_privs_5 : List (MethodName × Nat) := [(⟨"KeepCountModel", "numberRead", "(I)I"⟩, 69), (⟨"KeepCountModel", "faulty", "()I"⟩, 69), (⟨"KeepCountModel", "done", "(I)I"⟩, 69), (⟨"KeepCountModel", "refusal", "(II)I"⟩, 69)]
theorem lw_r5 : ∀ q ∈ lw_privs_5, lw_okq q := List.forall_mem_cons.mpr ⟨lw_p64, List.forall_mem_cons.mpr ⟨lw_p65, List.forall_mem_cons.mpr ⟨lw_p66, List.forall_mem_cons.mpr ⟨lw_p67, fun _ h => absurd h List.not_mem_nil⟩⟩⟩⟩
def lw_privs : List (MethodName × Nat) := lw_privs_1 ++ (lw_privs_2 ++ (lw_privs_3 ++ (lw_privs_4 ++ (lw_privs_5))))
def lw_tbl : List Cond := k2_sels lw_privs ++ tables_1
theorem lw_privs_ok : ∀ q ∈ lw_privs, lw_okq q := by
  show ∀ q ∈ lw_privs_1 ++ (lw_privs_2 ++ (lw_privs_3 ++ (lw_privs_4 ++ (lw_privs_5)))), lw_okq q
  exact List.forall_mem_append.mpr ⟨lw_r1, List.forall_mem_append.mpr ⟨lw_r2, List.forall_mem_append.mpr ⟨lw_r3, List.forall_mem_append.mpr ⟨lw_r4, lw_r5⟩⟩⟩⟩
theorem mem_ps {big ws : List Cond} (ps : List Nat) (hp : ws = ps.filterMap (fun i => big[i]?)) : ∀ w ∈ ws, w ∈ big := by
  intro w hw
  rw [hp] at hw
  obtain ⟨i, -, hi⟩ := List.mem_filterMap.mp hw
  exact List.mem_of_getElem? hi
theorem at_tbl {w : Cond} (i : Nat) (h : lw_tbl[i]? = some w) : w ∈ lw_tbl := List.mem_of_getElem? h
def RX0 : String := "KeepCount$Piles"
def TX0 : u_T := fun k => match k with
  | 0 => ("KeepCount$Piles", "size", "I", false)
  | 1 => ("KeepCount$Piles", "row", "[I", true)
  | _ => ("KeepCount$Piles", "heap", "[I", true)
def tyX0 : Nat → FieldType := fun k => match k with
  | 0 => .int
  | 1 => .array .int
  | _ => .array .int
abbrev wsX00 : List Cond := u_ws RX0 TX0 3
theorem nmX0 : ∀ a, a < 3 → ∀ b, b < 3 → a ≠ b → (TX0 a).2.1 ≠ (TX0 b).2.1 := by decide +kernel
theorem tyX0_ok : ∀ k, k < 3 → parseFieldDescriptor (TX0 k).2.2.1 = some (tyX0 k) := by decide +kernel
abbrev cX0_init : ByteArray := prog_2_method_1_code
def yX0_init : MethodName := ⟨RX0, "<init>", "()V"⟩
abbrev cX0_gather : ByteArray := prog_2_method_2_code
def yX0_gather : MethodName := ⟨RX0, "gather", "(LKeepCount$Poll;)V"⟩
abbrev cX0_put : ByteArray := prog_2_method_3_code
def yX0_put : MethodName := ⟨RX0, "put", "(II)V"⟩
def RX1 : String := "KeepCount$Poll"
def TX1 : u_T := fun k => match k with
  | 0 => ("KeepCount$Poll", "candidates", "I", false)
  | 1 => ("KeepCount$Poll", "lot", "[I", true)
  | 2 => ("KeepCount$Poll", "away", "[Z", true)
  | 3 => ("KeepCount$Poll", "ballots", "I", false)
  | 4 => ("KeepCount$Poll", "row", "[I", true)
  | 5 => ("KeepCount$Poll", "heap", "[I", true)
  | 6 => ("KeepCount$Poll", "seats", "I", false)
  | 7 => ("KeepCount$Poll", "limit", "I", false)
  | 8 => ("KeepCount$Poll", "rounds", "I", false)
  | 9 => ("KeepCount$Poll", "seen", "I", false)
  | 10 => ("KeepCount$Poll", "seenWho", "[I", true)
  | 11 => ("KeepCount$Poll", "seenIs", "[Z", true)
  | 12 => ("KeepCount$Poll", "events", "I", false)
  | 13 => ("KeepCount$Poll", "eventWhat", "[I", true)
  | _ => ("KeepCount$Poll", "eventNumber", "[I", true)
def tyX1 : Nat → FieldType := fun k => match k with
  | 0 => .int
  | 1 => .array .int
  | 2 => .array .boolean
  | 3 => .int
  | 4 => .array .int
  | 5 => .array .int
  | 6 => .int
  | 7 => .int
  | 8 => .int
  | 9 => .int
  | 10 => .array .int
  | 11 => .array .boolean
  | 12 => .int
  | 13 => .array .int
  | _ => .array .int
abbrev wsX10 : List Cond := u_ws RX1 TX1 15
theorem nmX1 : ∀ a, a < 15 → ∀ b, b < 15 → a ≠ b → (TX1 a).2.1 ≠ (TX1 b).2.1 := by decide +kernel
theorem tyX1_ok : ∀ k, k < 15 → parseFieldDescriptor (TX1 k).2.2.1 = some (tyX1 k) := by decide +kernel
abbrev cX1_init : ByteArray := prog_3_method_1_code
def yX1_init : MethodName := ⟨RX1, "<init>", "()V"⟩
abbrev cX1_copyFrom : ByteArray := prog_3_method_2_code
def yX1_copyFrom : MethodName := ⟨RX1, "copyFrom", "(LKeepCount$Poll;)V"⟩
abbrev cX1_hasCandidate : ByteArray := prog_3_method_3_code
def yX1_hasCandidate : MethodName := ⟨RX1, "hasCandidate", "(I)Z"⟩
abbrev cX1_hasBallot : ByteArray := prog_3_method_4_code
def yX1_hasBallot : MethodName := ⟨RX1, "hasBallot", "(I)Z"⟩
abbrev cX1_together : ByteArray := prog_3_method_5_code
def yX1_together : MethodName := ⟨RX1, "together", "()J"⟩
abbrev cX1_placeInLot : ByteArray := prog_3_method_6_code
def yX1_placeInLot : MethodName := ⟨RX1, "placeInLot", "(I)I"⟩
abbrev cX1_firstHere : ByteArray := prog_3_method_7_code
def yX1_firstHere : MethodName := ⟨RX1, "firstHere", "(I)I"⟩
abbrev cX1_manyFirst : ByteArray := prog_3_method_8_code
def yX1_manyFirst : MethodName := ⟨RX1, "manyFirst", "(I)I"⟩
abbrev cX1_manyAhead : ByteArray := prog_3_method_9_code
def yX1_manyAhead : MethodName := ⟨RX1, "manyAhead", "(II)I"⟩
abbrev cX1_isSeenSo : ByteArray := prog_3_method_10_code
def yX1_isSeenSo : MethodName := ⟨RX1, "isSeenSo", "(I)Z"⟩
abbrev cX1_suffer : ByteArray := prog_3_method_11_code
def yX1_suffer : MethodName := ⟨RX1, "suffer", "(II)V"⟩
abbrev cX1_emptyLedBy : ByteArray := prog_3_method_12_code
def yX1_emptyLedBy : MethodName := ⟨RX1, "emptyLedBy", "(I)V"⟩
def RX2 : String := "KeepCount$Row"
def TX2 : u_T := fun k => match k with
  | _ => ("", "", "", false)
def tyX2 : Nat → FieldType := fun k => match k with
  | _ => .int
abbrev wsX20 : List Cond := u_ws RX2 TX2 0
theorem nmX2 : ∀ a, a < 0 → ∀ b, b < 0 → a ≠ b → (TX2 a).2.1 ≠ (TX2 b).2.1 := by decide +kernel
theorem tyX2_ok : ∀ k, k < 0 → parseFieldDescriptor (TX2 k).2.2.1 = some (tyX2 k) := by decide +kernel
abbrev cX2_isRow : ByteArray := prog_4_method_2_code
def yX2_isRow : MethodName := ⟨RX2, "isRow", "(II)Z"⟩
abbrev cX2_filledUp : ByteArray := prog_4_method_3_code
def yX2_filledUp : MethodName := ⟨RX2, "filledUp", "(I)I"⟩
abbrev cX2_asTold : ByteArray := prog_4_method_4_code
def yX2_asTold : MethodName := ⟨RX2, "asTold", "(I)I"⟩
abbrev cX2_at : ByteArray := prog_4_method_5_code
def yX2_at : MethodName := ⟨RX2, "at", "(II)I"⟩
abbrev cX2_length : ByteArray := prog_4_method_6_code
def yX2_length : MethodName := ⟨RX2, "length", "(I)I"⟩
abbrev cX2_placeOf : ByteArray := prog_4_method_7_code
def yX2_placeOf : MethodName := ⟨RX2, "placeOf", "(II)I"⟩
abbrev cX2_leftOf : ByteArray := prog_4_method_8_code
def yX2_leftOf : MethodName := ⟨RX2, "leftOf", "(I[Z)I"⟩
abbrev cX2_ledBy : ByteArray := prog_4_method_9_code
def yX2_ledBy : MethodName := ⟨RX2, "ledBy", "(II)I"⟩
def RX3 : String := "KeepCount$Stage"
def TX3 : u_T := fun k => match k with
  | 0 => ("KeepCount$Stage", "rounds", "I", false)
  | 1 => ("KeepCount$Stage", "out", "I", false)
  | 2 => ("KeepCount$Stage", "in", "I", false)
  | 3 => ("KeepCount$Stage", "quota", "J", false)
  | 4 => ("KeepCount$Stage", "excess", "J", false)
  | 5 => ("KeepCount$Stage", "surplus", "J", false)
  | 6 => ("KeepCount$Stage", "total", "J", false)
  | 7 => ("KeepCount$Stage", "got", "[J", true)
  | _ => ("KeepCount$Stage", "keep", "[J", true)
def tyX3 : Nat → FieldType := fun k => match k with
  | 0 => .int
  | 1 => .int
  | 2 => .int
  | 3 => .long
  | 4 => .long
  | 5 => .long
  | 6 => .long
  | 7 => .array .long
  | _ => .array .long
abbrev wsX30 : List Cond := u_ws RX3 TX3 9
theorem nmX3 : ∀ a, a < 9 → ∀ b, b < 9 → a ≠ b → (TX3 a).2.1 ≠ (TX3 b).2.1 := by decide +kernel
theorem tyX3_ok : ∀ k, k < 9 → parseFieldDescriptor (TX3 k).2.2.1 = some (tyX3 k) := by decide +kernel
abbrev cX3_init : ByteArray := prog_5_method_1_code
def yX3_init : MethodName := ⟨RX3, "<init>", "()V"⟩
def RX4 : String := "KeepCount$Tally"
def TX4 : u_T := fun k => match k with
  | 0 => ("KeepCount$Tally", "poll", "LKeepCount$Poll;", true)
  | 1 => ("KeepCount$Tally", "piles", "LKeepCount$Piles;", true)
  | 2 => ("KeepCount$Tally", "fate", "[I", true)
  | 3 => ("KeepCount$Tally", "when", "[I", true)
  | 4 => ("KeepCount$Tally", "order", "[I", true)
  | 5 => ("KeepCount$Tally", "elects", "I", false)
  | 6 => ("KeepCount$Tally", "hopefuls", "I", false)
  | 7 => ("KeepCount$Tally", "stages", "I", false)
  | 8 => ("KeepCount$Tally", "stage", "[LKeepCount$Stage;", true)
  | 9 => ("KeepCount$Tally", "keep", "[J", true)
  | 10 => ("KeepCount$Tally", "got", "[J", true)
  | 11 => ("KeepCount$Tally", "quota", "J", false)
  | 12 => ("KeepCount$Tally", "excess", "J", false)
  | _ => ("KeepCount$Tally", "total", "J", false)
def tyX4 : Nat → FieldType := fun k => match k with
  | 0 => .object "KeepCount$Poll"
  | 1 => .object "KeepCount$Piles"
  | 2 => .array .int
  | 3 => .array .int
  | 4 => .array .int
  | 5 => .int
  | 6 => .int
  | 7 => .int
  | 8 => .array (.object "KeepCount$Stage")
  | 9 => .array .long
  | 10 => .array .long
  | 11 => .long
  | 12 => .long
  | _ => .long
abbrev wsX40 : List Cond := u_ws RX4 TX4 14
theorem nmX4 : ∀ a, a < 14 → ∀ b, b < 14 → a ≠ b → (TX4 a).2.1 ≠ (TX4 b).2.1 := by decide +kernel
theorem tyX4_ok : ∀ k, k < 14 → parseFieldDescriptor (TX4 k).2.2.1 = some (tyX4 k) := by decide +kernel
abbrev cX4_init : ByteArray := prog_6_method_1_code
def yX4_init : MethodName := ⟨RX4, "<init>", "(LKeepCount$Poll;)V"⟩
abbrev cX4_stageAt : ByteArray := prog_6_method_2_code
def yX4_stageAt : MethodName := ⟨RX4, "stageAt", "(I)LKeepCount$Stage;"⟩
abbrev cX4_work : ByteArray := prog_6_method_3_code
def yX4_work : MethodName := ⟨RX4, "work", "()V"⟩
abbrev cX4_begin : ByteArray := prog_6_method_4_code
def yX4_begin : MethodName := ⟨RX4, "begin", "()V"⟩
abbrev cX4_fill : ByteArray := prog_6_method_5_code
def yX4_fill : MethodName := ⟨RX4, "fill", "(LKeepCount$Stage;)V"⟩
abbrev cX4_goByRounds : ByteArray := prog_6_method_6_code
def yX4_goByRounds : MethodName := ⟨RX4, "goByRounds", "(LKeepCount$Stage;Z)V"⟩
abbrev cX4_turnKeeps : ByteArray := prog_6_method_7_code
def yX4_turnKeeps : MethodName := ⟨RX4, "turnKeeps", "()V"⟩
abbrev cX4_workOut : ByteArray := prog_6_method_8_code
def yX4_workOut : MethodName := ⟨RX4, "workOut", "()V"⟩
abbrev cX4_passOn : ByteArray := prog_6_method_9_code
def yX4_passOn : MethodName := ⟨RX4, "passOn", "(IJ)J"⟩
abbrev cX4_surplus : ByteArray := prog_6_method_10_code
def yX4_surplus : MethodName := ⟨RX4, "surplus", "()J"⟩
abbrev cX4_note : ByteArray := prog_6_method_11_code
def yX4_note : MethodName := ⟨RX4, "note", "(LKeepCount$Stage;IJ)V"⟩
abbrev cX4_whoReachesQuota : ByteArray := prog_6_method_12_code
def yX4_whoReachesQuota : MethodName := ⟨RX4, "whoReachesQuota", "()I"⟩
abbrev cX4_elect : ByteArray := prog_6_method_13_code
def yX4_elect : MethodName := ⟨RX4, "elect", "(LKeepCount$Stage;I)V"⟩
abbrev cX4_exclude : ByteArray := prog_6_method_14_code
def yX4_exclude : MethodName := ⟨RX4, "exclude", "(LKeepCount$Stage;)V"⟩
abbrev cX4_whoHasFewest : ByteArray := prog_6_method_15_code
def yX4_whoHasFewest : MethodName := ⟨RX4, "whoHasFewest", "([JI)I"⟩
abbrev cX4_lastInLot : ByteArray := prog_6_method_16_code
def yX4_lastInLot : MethodName := ⟨RX4, "lastInLot", "(I)I"⟩
abbrev cX4_whoIs : ByteArray := prog_6_method_17_code
def yX4_whoIs : MethodName := ⟨RX4, "whoIs", "(I)I"⟩
abbrev cX4_whoIsHere : ByteArray := prog_6_method_18_code
def yX4_whoIsHere : MethodName := ⟨RX4, "whoIsHere", "()I"⟩
abbrev cX4_leader : ByteArray := prog_6_method_19_code
def yX4_leader : MethodName := ⟨RX4, "leader", "([JII)I"⟩
abbrev cX4_rankAt : ByteArray := prog_6_method_20_code
def yX4_rankAt : MethodName := ⟨RX4, "rankAt", "(I)I"⟩
def RX5 : String := "KeepCount$Tape"
def TX5 : u_T := fun k => match k with
  | 0 => ("KeepCount$Tape", "sort", "I", false)
  | 1 => ("KeepCount$Tape", "size", "I", false)
  | _ => ("KeepCount$Tape", "items", "[J", true)
def tyX5 : Nat → FieldType := fun k => match k with
  | 0 => .int
  | 1 => .int
  | _ => .array .long
abbrev wsX50 : List Cond := u_ws RX5 TX5 3
theorem nmX5 : ∀ a, a < 3 → ∀ b, b < 3 → a ≠ b → (TX5 a).2.1 ≠ (TX5 b).2.1 := by decide +kernel
theorem tyX5_ok : ∀ k, k < 3 → parseFieldDescriptor (TX5 k).2.2.1 = some (tyX5 k) := by decide +kernel
abbrev cX5_init : ByteArray := prog_7_method_1_code
def yX5_init : MethodName := ⟨RX5, "<init>", "()V"⟩
abbrev cX5_become : ByteArray := prog_7_method_2_code
def yX5_become : MethodName := ⟨RX5, "become", "(II)V"⟩
abbrev cX5_fitted : ByteArray := prog_7_method_3_code
def yX5_fitted : MethodName := ⟨RX5, "fitted", "(J)J"⟩
abbrev cX5_hasRoom : ByteArray := prog_7_method_4_code
def yX5_hasRoom : MethodName := ⟨RX5, "hasRoom", "(II)Z"⟩
def RX6 : String := "KeepCount$Text"
def TX6 : u_T := fun k => match k with
  | 0 => ("KeepCount$Text", "size", "I", false)
  | 1 => ("KeepCount$Text", "signs", "[I", true)
  | 2 => ("KeepCount$Text", "clauses", "I", false)
  | 3 => ("KeepCount$Text", "kind", "[I", true)
  | 4 => ("KeepCount$Text", "first", "[I", true)
  | 5 => ("KeepCount$Text", "second", "[I", true)
  | 6 => ("KeepCount$Text", "place", "I", false)
  | _ => ("KeepCount$Text", "lacksNumber", "Z", false)
def tyX6 : Nat → FieldType := fun k => match k with
  | 0 => .int
  | 1 => .array .int
  | 2 => .int
  | 3 => .array .int
  | 4 => .array .int
  | 5 => .array .int
  | 6 => .int
  | _ => .boolean
abbrev wsX60 : List Cond := u_ws RX6 TX6 8
theorem nmX6 : ∀ a, a < 8 → ∀ b, b < 8 → a ≠ b → (TX6 a).2.1 ≠ (TX6 b).2.1 := by decide +kernel
theorem tyX6_ok : ∀ k, k < 8 → parseFieldDescriptor (TX6 k).2.2.1 = some (tyX6 k) := by decide +kernel
abbrev cX6_init : ByteArray := prog_8_method_1_code
def yX6_init : MethodName := ⟨RX6, "<init>", "()V"⟩
abbrev cX6_sign : ByteArray := prog_8_method_2_code
def yX6_sign : MethodName := ⟨RX6, "sign", "()I"⟩
abbrev cX6_faultToldTo : ByteArray := prog_8_method_3_code
def yX6_faultToldTo : MethodName := ⟨RX6, "faultToldTo", "(LKeepCount$Trouble;)I"⟩
abbrev cX6_readsClause : ByteArray := prog_8_method_4_code
def yX6_readsClause : MethodName := ⟨RX6, "readsClause", "(I)Z"⟩
abbrev cX6_readsBallot : ByteArray := prog_8_method_5_code
def yX6_readsBallot : MethodName := ⟨RX6, "readsBallot", "(I)Z"⟩
abbrev cX6_number : ByteArray := prog_8_method_6_code
def yX6_number : MethodName := ⟨RX6, "number", "(I)I"⟩
def RX7 : String := "KeepCount$Trouble"
def TX7 : u_T := fun k => match k with
  | 0 => ("KeepCount$Trouble", "size", "I", false)
  | 1 => ("KeepCount$Trouble", "sort", "[I", true)
  | _ => ("KeepCount$Trouble", "number", "[I", true)
def tyX7 : Nat → FieldType := fun k => match k with
  | 0 => .int
  | 1 => .array .int
  | _ => .array .int
abbrev wsX70 : List Cond := u_ws RX7 TX7 3
theorem nmX7 : ∀ a, a < 3 → ∀ b, b < 3 → a ≠ b → (TX7 a).2.1 ≠ (TX7 b).2.1 := by decide +kernel
theorem tyX7_ok : ∀ k, k < 3 → parseFieldDescriptor (TX7 k).2.2.1 = some (tyX7 k) := by decide +kernel
abbrev cX7_init : ByteArray := prog_9_method_1_code
def yX7_init : MethodName := ⟨RX7, "<init>", "()V"⟩
abbrev cX7_begin : ByteArray := prog_9_method_2_code
def yX7_begin : MethodName := ⟨RX7, "begin", "(II)V"⟩
abbrev cX7_addCause : ByteArray := prog_9_method_3_code
def yX7_addCause : MethodName := ⟨RX7, "addCause", "(II)V"⟩
def RX8 : String := "KeepCount"
def TX8 : u_T := fun k => match k with
  | 0 => ("KeepCount", "poll", "LKeepCount$Poll;", true)
  | 1 => ("KeepCount", "thought", "LKeepCount$Poll;", true)
  | 2 => ("KeepCount", "picture", "LKeepCount$Poll;", true)
  | 3 => ("KeepCount", "pictured", "Z", false)
  | 4 => ("KeepCount", "pollTally", "LKeepCount$Tally;", true)
  | 5 => ("KeepCount", "thoughtTally", "LKeepCount$Tally;", true)
  | 6 => ("KeepCount", "fresh", "Z", false)
  | 7 => ("KeepCount", "text", "LKeepCount$Text;", true)
  | 8 => ("KeepCount", "trouble", "LKeepCount$Trouble;", true)
  | _ => ("KeepCount", "tapes", "[LKeepCount$Tape;", true)
def tyX8 : Nat → FieldType := fun k => match k with
  | 0 => .object "KeepCount$Poll"
  | 1 => .object "KeepCount$Poll"
  | 2 => .object "KeepCount$Poll"
  | 3 => .boolean
  | 4 => .object "KeepCount$Tally"
  | 5 => .object "KeepCount$Tally"
  | 6 => .boolean
  | 7 => .object "KeepCount$Text"
  | 8 => .object "KeepCount$Trouble"
  | _ => .array (.object "KeepCount$Tape")
abbrev wsX80 : List Cond := u_ws RX8 TX8 10
theorem nmX8 : ∀ a, a < 10 → ∀ b, b < 10 → a ≠ b → (TX8 a).2.1 ≠ (TX8 b).2.1 := by decide +kernel
theorem tyX8_ok : ∀ k, k < 10 → parseFieldDescriptor (TX8 k).2.2.1 = some (tyX8 k) := by decide +kernel
abbrev cX8_init : ByteArray := prog_1_method_1_code
def yX8_init : MethodName := ⟨RX8, "<init>", "()V"⟩
abbrev cX8_candidate : ByteArray := prog_1_method_2_code
def yX8_candidate : MethodName := ⟨RX8, "candidate", "()I"⟩
abbrev cX8_ballot : ByteArray := prog_1_method_3_code
def yX8_ballot : MethodName := ⟨RX8, "ballot", "(II)I"⟩
abbrev cX8_many : ByteArray := prog_1_method_4_code
def yX8_many : MethodName := ⟨RX8, "many", "(II)I"⟩
abbrev cX8_drop : ByteArray := prog_1_method_5_code
def yX8_drop : MethodName := ⟨RX8, "drop", "()I"⟩
abbrev cX8_gone : ByteArray := prog_1_method_6_code
def yX8_gone : MethodName := ⟨RX8, "gone", "(IZ)I"⟩
abbrev cX8_set : ByteArray := prog_1_method_7_code
def yX8_set : MethodName := ⟨RX8, "set", "(II)I"⟩
abbrev cX8_putSeats : ByteArray := prog_1_method_8_code
def yX8_putSeats : MethodName := ⟨RX8, "putSeats", "(I)I"⟩
abbrev cX8_putLimit : ByteArray := prog_1_method_9_code
def yX8_putLimit : MethodName := ⟨RX8, "putLimit", "(I)I"⟩
abbrev cX8_putRounds : ByteArray := prog_1_method_10_code
def yX8_putRounds : MethodName := ⟨RX8, "putRounds", "(I)I"⟩
abbrev cX8_swap : ByteArray := prog_1_method_11_code
def yX8_swap : MethodName := ⟨RX8, "swap", "(II)I"⟩
abbrev cX8_isOver : ByteArray := prog_1_method_12_code
def yX8_isOver : MethodName := ⟨RX8, "isOver", "(II)Z"⟩
abbrev cX8_tallied : ByteArray := prog_1_method_13_code
def yX8_tallied : MethodName := ⟨RX8, "tallied", "()LKeepCount$Tally;"⟩
abbrev cX8_of : ByteArray := prog_1_method_14_code
def yX8_of : MethodName := ⟨RX8, "of", "(II)I"⟩
abbrev cX8_ballotOf : ByteArray := prog_1_method_15_code
def yX8_ballotOf : MethodName := ⟨RX8, "ballotOf", "(II)I"⟩
abbrev cX8_rowOf : ByteArray := prog_1_method_16_code
def yX8_rowOf : MethodName := ⟨RX8, "rowOf", "(II)I"⟩
abbrev cX8_told : ByteArray := prog_1_method_17_code
def yX8_told : MethodName := ⟨RX8, "told", "(I)I"⟩
abbrev cX8_stageOf : ByteArray := prog_1_method_18_code
def yX8_stageOf : MethodName := ⟨RX8, "stageOf", "(II)I"⟩
abbrev cX8_amount : ByteArray := prog_1_method_19_code
def yX8_amount : MethodName := ⟨RX8, "amount", "(II)J"⟩
abbrev cX8_votes : ByteArray := prog_1_method_20_code
def yX8_votes : MethodName := ⟨RX8, "votes", "(III)J"⟩
abbrev cX8_elected : ByteArray := prog_1_method_21_code
def yX8_elected : MethodName := ⟨RX8, "elected", "(I)I"⟩
abbrev cX8_ranked : ByteArray := prog_1_method_22_code
def yX8_ranked : MethodName := ⟨RX8, "ranked", "(I)I"⟩
abbrev cX8_standing : ByteArray := prog_1_method_23_code
def yX8_standing : MethodName := ⟨RX8, "standing", "(II)I"⟩
abbrev cX8_pile : ByteArray := prog_1_method_24_code
def yX8_pile : MethodName := ⟨RX8, "pile", "(II)I"⟩
abbrev cX8_preferred : ByteArray := prog_1_method_25_code
def yX8_preferred : MethodName := ⟨RX8, "preferred", "(II)I"⟩
abbrev cX8_best : ByteArray := prog_1_method_26_code
def yX8_best : MethodName := ⟨RX8, "best", "()I"⟩
abbrev cX8_beatsAll : ByteArray := prog_1_method_27_code
def yX8_beatsAll : MethodName := ⟨RX8, "beatsAll", "(I)Z"⟩
abbrev cX8_share : ByteArray := prog_1_method_28_code
def yX8_share : MethodName := ⟨RX8, "share", "(III)J"⟩
abbrev cX8_commonDivisor : ByteArray := prog_1_method_29_code
def yX8_commonDivisor : MethodName := ⟨RX8, "commonDivisor", "(JJ)J"⟩
abbrev cX8_cut : ByteArray := prog_1_method_30_code
def yX8_cut : MethodName := ⟨RX8, "cut", "(JJ)J"⟩
abbrev cX8_electedInThought : ByteArray := prog_1_method_31_code
def yX8_electedInThought : MethodName := ⟨RX8, "electedInThought", "()I"⟩
abbrev cX8_without : ByteArray := prog_1_method_32_code
def yX8_without : MethodName := ⟨RX8, "without", "(I)I"⟩
abbrev cX8_raised : ByteArray := prog_1_method_33_code
def yX8_raised : MethodName := ⟨RX8, "raised", "(II)I"⟩
abbrev cX8_needs : ByteArray := prog_1_method_34_code
def yX8_needs : MethodName := ⟨RX8, "needs", "(II)I"⟩
abbrev cX8_see : ByteArray := prog_1_method_35_code
def yX8_see : MethodName := ⟨RX8, "see", "(IZ)I"⟩
abbrev cX8_fits : ByteArray := prog_1_method_36_code
def yX8_fits : MethodName := ⟨RX8, "fits", "(I)I"⟩
abbrev cX8_event : ByteArray := prog_1_method_37_code
def yX8_event : MethodName := ⟨RX8, "event", "(II)I"⟩
abbrev cX8_after : ByteArray := prog_1_method_38_code
def yX8_after : MethodName := ⟨RX8, "after", "()I"⟩
abbrev cX8_feed : ByteArray := prog_1_method_39_code
def yX8_feed : MethodName := ⟨RX8, "feed", "(I)I"⟩
abbrev cX8_read : ByteArray := prog_1_method_40_code
def yX8_read : MethodName := ⟨RX8, "read", "()I"⟩
abbrev cX8_isDone : ByteArray := prog_1_method_41_code
def yX8_isDone : MethodName := ⟨RX8, "isDone", "(III)Z"⟩
abbrev cX8_cause : ByteArray := prog_1_method_42_code
def yX8_cause : MethodName := ⟨RX8, "cause", "(II)I"⟩
abbrev cX8_tapeAt : ByteArray := prog_1_method_43_code
def yX8_tapeAt : MethodName := ⟨RX8, "tapeAt", "(I)LKeepCount$Tape;"⟩
abbrev cX8_judge : ByteArray := prog_1_method_44_code
def yX8_judge : MethodName := ⟨RX8, "judge", "(III)I"⟩
abbrev cX8_image : ByteArray := prog_1_method_45_code
def yX8_image : MethodName := ⟨RX8, "image", "()I"⟩
abbrev cX8_undo : ByteArray := prog_1_method_46_code
def yX8_undo : MethodName := ⟨RX8, "undo", "()I"⟩
abbrev cX8_count : ByteArray := prog_1_method_47_code
def yX8_count : MethodName := ⟨RX8, "count", "(I)I"⟩
abbrev cX8_tape : ByteArray := prog_1_method_48_code
def yX8_tape : MethodName := ⟨RX8, "tape", "(III)I"⟩
abbrev cX8_item : ByteArray := prog_1_method_49_code
def yX8_item : MethodName := ⟨RX8, "item", "(IIJ)I"⟩
abbrev cX8_peek : ByteArray := prog_1_method_50_code
def yX8_peek : MethodName := ⟨RX8, "peek", "(II)J"⟩
abbrev cX8_shift : ByteArray := prog_1_method_51_code
def yX8_shift : MethodName := ⟨RX8, "shift", "(IIIII)I"⟩
def RX9 : String := "KeepCountModel"
def TX9 : u_T := fun k => match k with
  | 0 => ("KeepCountModel", "people", "I", false)
  | 1 => ("KeepCountModel", "ballots", "I", false)
  | 2 => ("KeepCountModel", "isGone", "[Z", true)
  | 3 => ("KeepCountModel", "lot", "[I", true)
  | 4 => ("KeepCountModel", "rows", "[I", true)
  | 5 => ("KeepCountModel", "manies", "[I", true)
  | 6 => ("KeepCountModel", "seats", "I", false)
  | 7 => ("KeepCountModel", "limit", "I", false)
  | 8 => ("KeepCountModel", "rounds", "I", false)
  | 9 => ("KeepCountModel", "seen", "I", false)
  | 10 => ("KeepCountModel", "events", "I", false)
  | 11 => ("KeepCountModel", "seenWho", "[I", true)
  | 12 => ("KeepCountModel", "eventWhat", "[I", true)
  | 13 => ("KeepCountModel", "eventOf", "[I", true)
  | 14 => ("KeepCountModel", "seenSo", "[Z", true)
  | 15 => ("KeepCountModel", "troubles", "I", false)
  | 16 => ("KeepCountModel", "sorts", "[I", true)
  | 17 => ("KeepCountModel", "tells", "[I", true)
  | 18 => ("KeepCountModel", "piles", "I", false)
  | 19 => ("KeepCountModel", "pileRow", "[I", true)
  | 20 => ("KeepCountModel", "pileKey", "[I", true)
  | 21 => ("KeepCountModel", "pileMany", "[I", true)
  | 22 => ("KeepCountModel", "stages", "I", false)
  | 23 => ("KeepCountModel", "electedMany", "I", false)
  | 24 => ("KeepCountModel", "state", "[I", true)
  | 25 => ("KeepCountModel", "keep", "[I", true)
  | 26 => ("KeepCountModel", "stageOfOne", "[I", true)
  | 27 => ("KeepCountModel", "elected", "[I", true)
  | 28 => ("KeepCountModel", "vote", "[J", true)
  | 29 => ("KeepCountModel", "quota", "J", false)
  | 30 => ("KeepCountModel", "excess", "J", false)
  | 31 => ("KeepCountModel", "surplus", "J", false)
  | 32 => ("KeepCountModel", "allVotes", "J", false)
  | 33 => ("KeepCountModel", "votesOf", "[J", true)
  | 34 => ("KeepCountModel", "quotas", "[J", true)
  | 35 => ("KeepCountModel", "excesses", "[J", true)
  | 36 => ("KeepCountModel", "surpluses", "[J", true)
  | 37 => ("KeepCountModel", "wholes", "[J", true)
  | 38 => ("KeepCountModel", "keepsOf", "[I", true)
  | 39 => ("KeepCountModel", "roundsOf", "[I", true)
  | 40 => ("KeepCountModel", "outOf", "[I", true)
  | 41 => ("KeepCountModel", "inOf", "[I", true)
  | 42 => ("KeepCountModel", "ranks", "[I", true)
  | 43 => ("KeepCountModel", "goneWas", "[Z", true)
  | 44 => ("KeepCountModel", "maniesWere", "[I", true)
  | 45 => ("KeepCountModel", "text", "[I", true)
  | 46 => ("KeepCountModel", "texted", "I", false)
  | 47 => ("KeepCountModel", "at", "I", false)
  | 48 => ("KeepCountModel", "fault", "I", false)
  | 49 => ("KeepCountModel", "clauses", "I", false)
  | 50 => ("KeepCountModel", "begun", "I", false)
  | 51 => ("KeepCountModel", "isNumber", "Z", false)
  | 52 => ("KeepCountModel", "words", "[I", true)
  | 53 => ("KeepCountModel", "firsts", "[I", true)
  | 54 => ("KeepCountModel", "seconds", "[I", true)
  | 55 => ("KeepCountModel", "hasImage", "Z", false)
  | 56 => ("KeepCountModel", "imageNumbers", "[I", true)
  | 57 => ("KeepCountModel", "imageLot", "[I", true)
  | 58 => ("KeepCountModel", "imageRows", "[I", true)
  | 59 => ("KeepCountModel", "imageManies", "[I", true)
  | 60 => ("KeepCountModel", "imageWho", "[I", true)
  | 61 => ("KeepCountModel", "imageWhat", "[I", true)
  | 62 => ("KeepCountModel", "imageOf", "[I", true)
  | 63 => ("KeepCountModel", "imageGone", "[Z", true)
  | 64 => ("KeepCountModel", "imageSo", "[Z", true)
  | 65 => ("KeepCountModel", "tapeSort", "[I", true)
  | 66 => ("KeepCountModel", "lengths", "[I", true)
  | 67 => ("KeepCountModel", "items", "[[J", true)
  | _ => ("KeepCountModel", "passed", "[J", true)
def tyX9 : Nat → FieldType := fun k => match k with
  | 0 => .int
  | 1 => .int
  | 2 => .array .boolean
  | 3 => .array .int
  | 4 => .array .int
  | 5 => .array .int
  | 6 => .int
  | 7 => .int
  | 8 => .int
  | 9 => .int
  | 10 => .int
  | 11 => .array .int
  | 12 => .array .int
  | 13 => .array .int
  | 14 => .array .boolean
  | 15 => .int
  | 16 => .array .int
  | 17 => .array .int
  | 18 => .int
  | 19 => .array .int
  | 20 => .array .int
  | 21 => .array .int
  | 22 => .int
  | 23 => .int
  | 24 => .array .int
  | 25 => .array .int
  | 26 => .array .int
  | 27 => .array .int
  | 28 => .array .long
  | 29 => .long
  | 30 => .long
  | 31 => .long
  | 32 => .long
  | 33 => .array .long
  | 34 => .array .long
  | 35 => .array .long
  | 36 => .array .long
  | 37 => .array .long
  | 38 => .array .int
  | 39 => .array .int
  | 40 => .array .int
  | 41 => .array .int
  | 42 => .array .int
  | 43 => .array .boolean
  | 44 => .array .int
  | 45 => .array .int
  | 46 => .int
  | 47 => .int
  | 48 => .int
  | 49 => .int
  | 50 => .int
  | 51 => .boolean
  | 52 => .array .int
  | 53 => .array .int
  | 54 => .array .int
  | 55 => .boolean
  | 56 => .array .int
  | 57 => .array .int
  | 58 => .array .int
  | 59 => .array .int
  | 60 => .array .int
  | 61 => .array .int
  | 62 => .array .int
  | 63 => .array .boolean
  | 64 => .array .boolean
  | 65 => .array .int
  | 66 => .array .int
  | 67 => .array (.array .long)
  | _ => .array .long
abbrev wsX90 : List Cond := u_ws RX9 TX9 69
theorem nmX9 : ∀ a, a < 69 → ∀ b, b < 69 → a ≠ b → (TX9 a).2.1 ≠ (TX9 b).2.1 := by decide +kernel
theorem tyX9_ok : ∀ k, k < 69 → parseFieldDescriptor (TX9 k).2.2.1 = some (tyX9 k) := by decide +kernel
abbrev cX9_init : ByteArray := prog_11_method_1_code
def yX9_init : MethodName := ⟨RX9, "<init>", "()V"⟩
abbrev cX9_in : ByteArray := prog_11_method_2_code
def yX9_in : MethodName := ⟨RX9, "in", "(JJJ)Z"⟩
abbrev cX9_isOne : ByteArray := prog_11_method_3_code
def yX9_isOne : MethodName := ⟨RX9, "isOne", "(I)Z"⟩
abbrev cX9_isBallot : ByteArray := prog_11_method_4_code
def yX9_isBallot : MethodName := ⟨RX9, "isBallot", "(I)Z"⟩
abbrev cX9_has : ByteArray := prog_11_method_5_code
def yX9_has : MethodName := ⟨RX9, "has", "(II)Z"⟩
abbrev cX9_lengthOf : ByteArray := prog_11_method_6_code
def yX9_lengthOf : MethodName := ⟨RX9, "lengthOf", "(I)I"⟩
abbrev cX9_digitAt : ByteArray := prog_11_method_7_code
def yX9_digitAt : MethodName := ⟨RX9, "digitAt", "(II)I"⟩
abbrev cX9_left : ByteArray := prog_11_method_8_code
def yX9_left : MethodName := ⟨RX9, "left", "(I)I"⟩
abbrev cX9_firstOver : ByteArray := prog_11_method_9_code
def yX9_firstOver : MethodName := ⟨RX9, "firstOver", "(I)I"⟩
abbrev cX9_over : ByteArray := prog_11_method_10_code
def yX9_over : MethodName := ⟨RX9, "over", "(I)I"⟩
abbrev cX9_candidate : ByteArray := prog_11_method_11_code
def yX9_candidate : MethodName := ⟨RX9, "candidate", "()I"⟩
abbrev cX9_isRow : ByteArray := prog_11_method_12_code
def yX9_isRow : MethodName := ⟨RX9, "isRow", "(I)Z"⟩
abbrev cX9_ballot : ByteArray := prog_11_method_13_code
def yX9_ballot : MethodName := ⟨RX9, "ballot", "(II)I"⟩
abbrev cX9_many : ByteArray := prog_11_method_14_code
def yX9_many : MethodName := ⟨RX9, "many", "(II)I"⟩
abbrev cX9_drop : ByteArray := prog_11_method_15_code
def yX9_drop : MethodName := ⟨RX9, "drop", "()I"⟩
abbrev cX9_gone : ByteArray := prog_11_method_16_code
def yX9_gone : MethodName := ⟨RX9, "gone", "(IZ)I"⟩
abbrev cX9_set : ByteArray := prog_11_method_17_code
def yX9_set : MethodName := ⟨RX9, "set", "(II)I"⟩
abbrev cX9_swap : ByteArray := prog_11_method_18_code
def yX9_swap : MethodName := ⟨RX9, "swap", "(II)I"⟩
abbrev cX9_lotOf : ByteArray := prog_11_method_19_code
def yX9_lotOf : MethodName := ⟨RX9, "lotOf", "(I)I"⟩
abbrev cX9_keyOf : ByteArray := prog_11_method_20_code
def yX9_keyOf : MethodName := ⟨RX9, "keyOf", "(I)I"⟩
abbrev cX9_comesTo : ByteArray := prog_11_method_21_code
def yX9_comesTo : MethodName := ⟨RX9, "comesTo", "(II)V"⟩
abbrev cX9_tellPiles : ByteArray := prog_11_method_22_code
def yX9_tellPiles : MethodName := ⟨RX9, "tellPiles", "()V"⟩
abbrev cX9_many_ : ByteArray := prog_11_method_23_code
def yX9_many_ : MethodName := ⟨RX9, "many", "(I)I"⟩
abbrev cX9_tellVotes : ByteArray := prog_11_method_24_code
def yX9_tellVotes : MethodName := ⟨RX9, "tellVotes", "()V"⟩
abbrev cX9_isAhead : ByteArray := prog_11_method_25_code
def yX9_isAhead : MethodName := ⟨RX9, "isAhead", "(II)Z"⟩
abbrev cX9_becomesElected : ByteArray := prog_11_method_26_code
def yX9_becomesElected : MethodName := ⟨RX9, "becomesElected", "(I)V"⟩
abbrev cX9_lines : ByteArray := prog_11_method_27_code
def yX9_lines : MethodName := ⟨RX9, "lines", "()V"⟩
abbrev cX9_fills : ByteArray := prog_11_method_28_code
def yX9_fills : MethodName := ⟨RX9, "fills", "()V"⟩
abbrev cX9_keepsAnew : ByteArray := prog_11_method_29_code
def yX9_keepsAnew : MethodName := ⟨RX9, "keepsAnew", "()V"⟩
abbrev cX9_elects : ByteArray := prog_11_method_30_code
def yX9_elects : MethodName := ⟨RX9, "elects", "()Z"⟩
abbrev cX9_tellSurplus : ByteArray := prog_11_method_31_code
def yX9_tellSurplus : MethodName := ⟨RX9, "tellSurplus", "()V"⟩
abbrev cX9_goesRather : ByteArray := prog_11_method_32_code
def yX9_goesRather : MethodName := ⟨RX9, "goesRather", "(II)Z"⟩
abbrev cX9_worst : ByteArray := prog_11_method_33_code
def yX9_worst : MethodName := ⟨RX9, "worst", "()I"⟩
abbrev cX9_endsStage : ByteArray := prog_11_method_34_code
def yX9_endsStage : MethodName := ⟨RX9, "endsStage", "(I)V"⟩
abbrev cX9_goesStage : ByteArray := prog_11_method_35_code
def yX9_goesStage : MethodName := ⟨RX9, "goesStage", "(Z)V"⟩
abbrev cX9_counts : ByteArray := prog_11_method_36_code
def yX9_counts : MethodName := ⟨RX9, "counts", "()V"⟩
abbrev cX9_electedSet : ByteArray := prog_11_method_37_code
def yX9_electedSet : MethodName := ⟨RX9, "electedSet", "()I"⟩
abbrev cX9_firstMany : ByteArray := prog_11_method_38_code
def yX9_firstMany : MethodName := ⟨RX9, "firstMany", "(I)I"⟩
abbrev cX9_of : ByteArray := prog_11_method_39_code
def yX9_of : MethodName := ⟨RX9, "of", "(II)I"⟩
abbrev cX9_ballotOf : ByteArray := prog_11_method_40_code
def yX9_ballotOf : MethodName := ⟨RX9, "ballotOf", "(II)I"⟩
abbrev cX9_rowOf : ByteArray := prog_11_method_41_code
def yX9_rowOf : MethodName := ⟨RX9, "rowOf", "(II)I"⟩
abbrev cX9_told : ByteArray := prog_11_method_42_code
def yX9_told : MethodName := ⟨RX9, "told", "(I)I"⟩
abbrev cX9_isStage : ByteArray := prog_11_method_43_code
def yX9_isStage : MethodName := ⟨RX9, "isStage", "(I)Z"⟩
abbrev cX9_stageOf : ByteArray := prog_11_method_44_code
def yX9_stageOf : MethodName := ⟨RX9, "stageOf", "(II)I"⟩
abbrev cX9_amount : ByteArray := prog_11_method_45_code
def yX9_amount : MethodName := ⟨RX9, "amount", "(II)J"⟩
abbrev cX9_votes : ByteArray := prog_11_method_46_code
def yX9_votes : MethodName := ⟨RX9, "votes", "(III)J"⟩
abbrev cX9_elected : ByteArray := prog_11_method_47_code
def yX9_elected : MethodName := ⟨RX9, "elected", "(I)I"⟩
abbrev cX9_ranksBy : ByteArray := prog_11_method_48_code
def yX9_ranksBy : MethodName := ⟨RX9, "ranksBy", "(III)I"⟩
abbrev cX9_isBefore : ByteArray := prog_11_method_49_code
def yX9_isBefore : MethodName := ⟨RX9, "isBefore", "(III)Z"⟩
abbrev cX9_ranked : ByteArray := prog_11_method_50_code
def yX9_ranked : MethodName := ⟨RX9, "ranked", "(I)I"⟩
abbrev cX9_standing : ByteArray := prog_11_method_51_code
def yX9_standing : MethodName := ⟨RX9, "standing", "(II)I"⟩
abbrev cX9_pile : ByteArray := prog_11_method_52_code
def yX9_pile : MethodName := ⟨RX9, "pile", "(II)I"⟩
abbrev cX9_isTwo : ByteArray := prog_11_method_53_code
def yX9_isTwo : MethodName := ⟨RX9, "isTwo", "(II)Z"⟩
abbrev cX9_preferredTo : ByteArray := prog_11_method_54_code
def yX9_preferredTo : MethodName := ⟨RX9, "preferredTo", "(II)I"⟩
abbrev cX9_preferred : ByteArray := prog_11_method_55_code
def yX9_preferred : MethodName := ⟨RX9, "preferred", "(II)I"⟩
abbrev cX9_isBest : ByteArray := prog_11_method_56_code
def yX9_isBest : MethodName := ⟨RX9, "isBest", "(I)Z"⟩
abbrev cX9_best : ByteArray := prog_11_method_57_code
def yX9_best : MethodName := ⟨RX9, "best", "()I"⟩
abbrev cX9_lowest : ByteArray := prog_11_method_58_code
def yX9_lowest : MethodName := ⟨RX9, "lowest", "(JJI)J"⟩
abbrev cX9_share : ByteArray := prog_11_method_59_code
def yX9_share : MethodName := ⟨RX9, "share", "(III)J"⟩
abbrev cX9_without : ByteArray := prog_11_method_60_code
def yX9_without : MethodName := ⟨RX9, "without", "(I)I"⟩
abbrev cX9_raised : ByteArray := prog_11_method_61_code
def yX9_raised : MethodName := ⟨RX9, "raised", "(II)I"⟩
abbrev cX9_needs : ByteArray := prog_11_method_62_code
def yX9_needs : MethodName := ⟨RX9, "needs", "(II)I"⟩
abbrev cX9_see : ByteArray := prog_11_method_63_code
def yX9_see : MethodName := ⟨RX9, "see", "(IZ)I"⟩
abbrev cX9_isAsSeen : ByteArray := prog_11_method_64_code
def yX9_isAsSeen : MethodName := ⟨RX9, "isAsSeen", "()Z"⟩
abbrev cX9_fits : ByteArray := prog_11_method_65_code
def yX9_fits : MethodName := ⟨RX9, "fits", "(I)I"⟩
abbrev cX9_event : ByteArray := prog_11_method_66_code
def yX9_event : MethodName := ⟨RX9, "event", "(II)I"⟩
abbrev cX9_happens : ByteArray := prog_11_method_67_code
def yX9_happens : MethodName := ⟨RX9, "happens", "(II)V"⟩
abbrev cX9_after : ByteArray := prog_11_method_68_code
def yX9_after : MethodName := ⟨RX9, "after", "()I"⟩
abbrev cX9_feed : ByteArray := prog_11_method_69_code
def yX9_feed : MethodName := ⟨RX9, "feed", "(I)I"⟩
abbrev cX9_signAt : ByteArray := prog_11_method_70_code
def yX9_signAt : MethodName := ⟨RX9, "signAt", "(I)I"⟩
abbrev cX9_fails : ByteArray := prog_11_method_71_code
def yX9_fails : MethodName := ⟨RX9, "fails", "(Z)V"⟩
abbrev cX9_numberRead : ByteArray := prog_11_method_72_code
def yX9_numberRead : MethodName := ⟨RX9, "numberRead", "(I)I"⟩
abbrev cX9_clauseRead : ByteArray := prog_11_method_73_code
def yX9_clauseRead : MethodName := ⟨RX9, "clauseRead", "()V"⟩
abbrev cX9_done : ByteArray := prog_11_method_74_code
def yX9_done : MethodName := ⟨RX9, "done", "(I)I"⟩
abbrev cX9_faulty : ByteArray := prog_11_method_75_code
def yX9_faulty : MethodName := ⟨RX9, "faulty", "()I"⟩
abbrev cX9_read : ByteArray := prog_11_method_76_code
def yX9_read : MethodName := ⟨RX9, "read", "()I"⟩
abbrev cX9_cause : ByteArray := prog_11_method_77_code
def yX9_cause : MethodName := ⟨RX9, "cause", "(II)I"⟩
abbrev cX9_judge : ByteArray := prog_11_method_78_code
def yX9_judge : MethodName := ⟨RX9, "judge", "(III)I"⟩
abbrev cX9_image : ByteArray := prog_11_method_79_code
def yX9_image : MethodName := ⟨RX9, "image", "()I"⟩
abbrev cX9_undo : ByteArray := prog_11_method_80_code
def yX9_undo : MethodName := ⟨RX9, "undo", "()I"⟩
abbrev cX9_count : ByteArray := prog_11_method_81_code
def yX9_count : MethodName := ⟨RX9, "count", "(I)I"⟩
abbrev cX9_isTape : ByteArray := prog_11_method_82_code
def yX9_isTape : MethodName := ⟨RX9, "isTape", "(I)Z"⟩
abbrev cX9_tape : ByteArray := prog_11_method_83_code
def yX9_tape : MethodName := ⟨RX9, "tape", "(III)I"⟩
abbrev cX9_refusal : ByteArray := prog_11_method_84_code
def yX9_refusal : MethodName := ⟨RX9, "refusal", "(II)I"⟩
abbrev cX9_item : ByteArray := prog_11_method_85_code
def yX9_item : MethodName := ⟨RX9, "item", "(IIJ)I"⟩
abbrev cX9_peek : ByteArray := prog_11_method_86_code
def yX9_peek : MethodName := ⟨RX9, "peek", "(II)J"⟩
abbrev cX9_shift : ByteArray := prog_11_method_87_code
def yX9_shift : MethodName := ⟨RX9, "shift", "(IIIII)I"⟩
def RJ9 : String := "java/lang/Math"
def TJ9 : u_T := fun k => match k with
  | _ => ("", "", "", false)
def tyJ9 : Nat → FieldType := fun k => match k with
  | _ => .int
abbrev wsJ90 : List Cond := u_ws RJ9 TJ9 0
theorem nmJ9 : ∀ a, a < 0 → ∀ b, b < 0 → a ≠ b → (TJ9 a).2.1 ≠ (TJ9 b).2.1 := by decide +kernel
theorem tyJ9_ok : ∀ k, k < 0 → parseFieldDescriptor (TJ9 k).2.2.1 = some (tyJ9 k) := by decide +kernel
abbrev cJ9_max_7cf53 : ByteArray := prog_12_method_65_code
def yJ9_max_7cf53 : MethodName := ⟨RJ9, "max", "(II)I"⟩
abbrev cJ9_max_f86c9 : ByteArray := prog_12_method_66_code
def yJ9_max_f86c9 : MethodName := ⟨RJ9, "max", "(JJ)J"⟩
abbrev cJ9_min_f86c9 : ByteArray := prog_12_method_70_code
def yJ9_min_f86c9 : MethodName := ⟨RJ9, "min", "(JJ)J"⟩
def RJ10 : String := "java/lang/System"
def TJ10 : u_T := fun k => match k with
  | _ => ("", "", "", false)
def tyJ10 : Nat → FieldType := fun k => match k with
  | _ => .int
abbrev wsJ100 : List Cond := u_ws RJ10 TJ10 0
theorem nmJ10 : ∀ a, a < 0 → ∀ b, b < 0 → a ≠ b → (TJ10 a).2.1 ≠ (TJ10 b).2.1 := by decide +kernel
theorem tyJ10_ok : ∀ k, k < 0 → parseFieldDescriptor (TJ10 k).2.2.1 = some (tyJ10 k) := by decide +kernel
def RJ7 : String := "java/util/Arrays"
def TJ7 : u_T := fun k => match k with
  | _ => ("", "", "", false)
def tyJ7 : Nat → FieldType := fun k => match k with
  | _ => .int
abbrev wsJ70 : List Cond := u_ws RJ7 TJ7 0
theorem nmJ7 : ∀ a, a < 0 → ∀ b, b < 0 → a ≠ b → (TJ7 a).2.1 ≠ (TJ7 b).2.1 := by decide +kernel
theorem tyJ7_ok : ∀ k, k < 0 → parseFieldDescriptor (TJ7 k).2.2.1 = some (tyJ7 k) := by decide +kernel
abbrev cJ7_fill_d0a16 : ByteArray := prog_14_method_101_code
def yJ7_fill_d0a16 : MethodName := ⟨RJ7, "fill", "([JJ)V"⟩
def RL : String := "KeepCountLaw"
abbrev cL_law : ByteArray := code
def yL_law : MethodName := ⟨RL, "law", "([I)Z"⟩
abbrev vwCl : List vw_C := [(RX0, TX0, 3), (RX1, TX1, 15), (RX3, TX3, 9), (RX4, TX4, 14), (RX5, TX5, 3), (RX6, TX6, 8), (RX7, TX7, 3), (RX8, TX8, 10), (RX9, TX9, 69)]
set_option maxRecDepth 100000 in
theorem inX0 : ∀ w ∈ u_ws RX0 TX0 3, w ∈ lw_tbl := mem_ps [190, 192, 194] (by decide +kernel)
theorem gdX0 : (u_ws RX0 TX0 3).all goodWord = true := by decide +kernel
set_option maxRecDepth 100000 in
theorem inX1 : ∀ w ∈ u_ws RX1 TX1 15, w ∈ lw_tbl := mem_ps [136, 138, 140, 142, 144, 146, 148, 150, 152, 154, 156, 158, 160, 162, 164] (by decide +kernel)
theorem gdX1 : (u_ws RX1 TX1 15).all goodWord = true := by decide +kernel
set_option maxRecDepth 100000 in
theorem inX2 : ∀ w ∈ u_ws RX2 TX2 0, w ∈ lw_tbl := mem_ps [] (by decide +kernel)
theorem gdX2 : (u_ws RX2 TX2 0).all goodWord = true := by decide +kernel
set_option maxRecDepth 100000 in
theorem inX3 : ∀ w ∈ u_ws RX3 TX3 9, w ∈ lw_tbl := mem_ps [231, 233, 235, 237, 239, 241, 243, 245, 247] (by decide +kernel)
theorem gdX3 : (u_ws RX3 TX3 9).all goodWord = true := by decide +kernel
set_option maxRecDepth 100000 in
theorem inX4 : ∀ w ∈ u_ws RX4 TX4 14, w ∈ lw_tbl := mem_ps [271, 273, 275, 277, 279, 281, 283, 285, 287, 289, 291, 293, 295, 297] (by decide +kernel)
theorem gdX4 : (u_ws RX4 TX4 14).all goodWord = true := by decide +kernel
set_option maxRecDepth 100000 in
theorem inX5 : ∀ w ∈ u_ws RX5 TX5 3, w ∈ lw_tbl := mem_ps [369, 371, 373] (by decide +kernel)
theorem gdX5 : (u_ws RX5 TX5 3).all goodWord = true := by decide +kernel
set_option maxRecDepth 100000 in
theorem inX6 : ∀ w ∈ u_ws RX6 TX6 8, w ∈ lw_tbl := mem_ps [320, 322, 324, 326, 328, 330, 332, 334] (by decide +kernel)
theorem gdX6 : (u_ws RX6 TX6 8).all goodWord = true := by decide +kernel
set_option maxRecDepth 100000 in
theorem inX7 : ∀ w ∈ u_ws RX7 TX7 3, w ∈ lw_tbl := mem_ps [349, 351, 353] (by decide +kernel)
theorem gdX7 : (u_ws RX7 TX7 3).all goodWord = true := by decide +kernel
set_option maxRecDepth 100000 in
theorem inX8 : ∀ w ∈ u_ws RX8 TX8 10, w ∈ lw_tbl := mem_ps [386, 388, 390, 392, 394, 396, 398, 400, 402, 404] (by decide +kernel)
theorem gdX8 : (u_ws RX8 TX8 10).all goodWord = true := by decide +kernel
set_option maxRecDepth 100000 in
theorem inX9 : ∀ w ∈ u_ws RX9 TX9 69, w ∈ lw_tbl := mem_ps [917, 919, 921, 923, 925, 927, 929, 931, 933, 935, 937, 939, 941, 943, 945, 947, 949, 951, 953, 955, 957, 959, 961, 963, 965, 967, 969, 971, 973, 975, 977, 979, 981, 983, 985, 987, 989, 991, 993, 995, 997, 999, 1001, 1003, 1005, 1007, 1009, 1011, 1013, 1015, 1017, 1019, 1021, 1023, 1025, 1027, 1029, 1031, 1033, 1035, 1037, 1039, 1041, 1043, 1045, 1047, 1049, 1051, 1053] (by decide +kernel)
theorem gdX9 : (u_ws RX9 TX9 69).all goodWord = true := by decide +kernel
end
section
section
/-! ===== an abstract machine: cells by index, their contents whole numbers; references are fixed by the layout ===== -/
/-- the tables' words that a method's contract can hand on -/
def xnw : Cond → Bool
  | .fieldLinkNest .. => true
  | .methodLinkNest .. => true
  | _ => false
def xgood : List Cond := lw_tbl.filter goodWord
def xtbl : List Cond := lw_tbl.filter (fun w => goodWord w || xnw w)
theorem at_x {w : Cond} (i : Nat) (h : lw_tbl[i]? = some w) (hg : (goodWord w || xnw w) = true) : w ∈ xtbl := List.mem_filter.mpr ⟨List.mem_of_getElem? h, hg⟩
theorem x_good {w : Cond} (h : w ∈ xtbl) (hg : goodWord w = true) : w ∈ xgood := List.mem_filter.mpr ⟨(List.mem_filter.mp h).1, hg⟩
theorem x_of_good {w : Cond} (h : w ∈ xgood) : w ∈ xtbl ∧ goodWord w = true := ⟨List.mem_filter.mpr ⟨(List.mem_filter.mp h).1, by rw [(List.mem_filter.mp h).2]; rfl⟩, (List.mem_filter.mp h).2⟩
theorem x_ps {ws : List Cond} (hm : ∀ w ∈ ws, w ∈ lw_tbl) (h : ws.all goodWord = true) : ∀ w ∈ ws, w ∈ xtbl := fun w hw => List.mem_filter.mpr ⟨hm w hw, by rw [List.all_eq_true.mp h w hw]; rfl⟩
def XNw (U : State) : Prop := ∀ w ∈ xtbl, xnw w = true → va_Nw w U
theorem XNw.warm {s U : State} (hW : s.WarmedH U.vm) (h : XNw s) : XNw U := by
  intro w hw hn
  have h2 := h w hw hn
  cases w <;> first | exact va_Nw.warmF hW h2 | exact va_Nw.warmM hW h2 | (cases hn)
theorem XNw.same {u U : State} (hv : u.vm = U.vm) (h : XNw u) : XNw U := by
  intro w hw hn
  have h2 := h w hw hn
  cases w <;> first | exact va_Nw.same rfl hv h2 | (cases hn)
theorem XNw.of {s : State} {args : Array Value} (h : ∀ w ∈ xtbl, w.before args s = true) : XNw s := by
  intro w hw hn
  have h2 := h w hw
  cases w <;> first | exact va_Nw.of rfl h2 | (cases hn)
theorem XNw.all {s : State} {args : Array Value} (h : XNw s) (hg : ∀ w ∈ xgood, w.before args s = true) : ∀ w ∈ xtbl, w.before args s = true := by
  intro w hw
  rcases Bool.or_eq_true_iff.mp (List.mem_filter.mp hw).2 with g | g
  · exact hg w (x_good hw g)
  · have h2 := h w hw g
    cases w <;> first | exact va_Nw.use rfl h2 | (cases g)
abbrev XV : Type := Int ⊕ (Int ⊕ Option Nat)
def XI (v : Int) : XV := .inl v
def XL (v : Int) : XV := .inr (.inl v)
def XR (a : Nat) : XV := .inr (.inr (some a))
def XN : XV := .inr (.inr none)
abbrev Mem : Type := Nat → Nat → Int
/-- launch, classes' numbers, addresses, array classes, the script's length and values -/
abbrev XC : Type := Launch × va_G × (Nat → Nat) × (Nat → ClassId) × Nat × (Nat → Int32)
abbrev XC.ad (X : XC) : Nat → Nat := X.2.2.1
abbrev XC.ca (X : XC) : Nat → ClassId := X.2.2.2.1
/-- a method: name, bytes, locals, what it returns -/
abbrev XY : Type := MethodName × ByteArray × Nat × Option FieldType
def xc (ad : Nat → Nat) (v : XV) : Value := match v with
  | .inl v => .int (Int32.ofInt v)
  | .inr (.inl v) => .long (Int64.ofInt v)
  | .inr (.inr (some a)) => .ref (ad a)
  | .inr (.inr none) => .null
def i32 (v : Int) : Prop := -2147483648 ≤ v ∧ v ≤ 2147483647
def i64 (v : Int) : Prop := -9223372036854775808 ≤ v ∧ v ≤ 9223372036854775807
def xok (v : XV) : Prop := match v with
  | .inl v => i32 v
  | .inr (.inl v) => i64 v
  | _ => True
def xlong (v : XV) : Bool := match v with
  | .inr (.inl _) => true
  | _ => false
def wr (M : Mem) (a j : Nat) (v : Int) : Mem := fun b k => if b = a ∧ k = j then v else M b k
def cpM (M : Mem) (a i b j n : Nat) : Mem := fun x k => if x = b ∧ j ≤ k ∧ k < j + n then M a (i + (k - j)) else M x k
/-- the layout: index, kind (1 int, 2 long, 3 boolean, 4 Stage, 5 Tape, 6 rows of longs; 10 + its class an object), length -/
def shL : List (Nat × Nat × Nat) := [(10, 17, 10), (20, 5, 6), (56, 14, 3), (59, 2, 60), (72, 14, 3), (75, 2, 60), (88, 14, 3), (91, 2, 60), (104, 14, 3), (107, 2, 60), (120, 14, 3), (123, 2, 60), (136, 14, 3), (139, 2, 60), (210, 15, 8), (212, 1, 100), (214, 1, 12), (215, 1, 12), (216, 1, 12), (310, 16, 3), (312, 1, 3), (313, 1, 3), (1000, 13, 14), (1003, 1, 8), (1004, 1, 8), (1005, 1, 8), (1009, 4, 8), (1010, 2, 8), (1011, 2, 8), (1020, 10, 3), (1022, 1, 25), (1023, 1, 25), (1045, 12, 9), (1053, 2, 8), (1054, 2, 8), (1061, 12, 9), (1069, 2, 8), (1070, 2, 8), (1077, 12, 9), (1085, 2, 8), (1086, 2, 8), (1093, 12, 9), (1101, 2, 8), (1102, 2, 8), (1109, 12, 9), (1117, 2, 8), (1118, 2, 8), (1125, 12, 9), (1133, 2, 8), (1134, 2, 8), (1141, 12, 9), (1149, 2, 8), (1150, 2, 8), (1157, 12, 9), (1165, 2, 8), (1166, 2, 8), (2000, 13, 14), (2003, 1, 8), (2004, 1, 8), (2005, 1, 8), (2009, 4, 8), (2010, 2, 8), (2011, 2, 8), (2020, 10, 3), (2022, 1, 25), (2023, 1, 25), (2045, 12, 9), (2053, 2, 8), (2054, 2, 8), (2061, 12, 9), (2069, 2, 8), (2070, 2, 8), (2077, 12, 9), (2085, 2, 8), (2086, 2, 8), (2093, 12, 9), (2101, 2, 8), (2102, 2, 8), (2109, 12, 9), (2117, 2, 8), (2118, 2, 8), (2125, 12, 9), (2133, 2, 8), (2134, 2, 8), (2141, 12, 9), (2149, 2, 8), (2150, 2, 8), (2157, 12, 9), (2165, 2, 8), (2166, 2, 8), (11000, 11, 15), (11002, 1, 8), (11003, 3, 8), (11005, 1, 25), (11006, 1, 25), (11011, 1, 5), (11012, 3, 5), (11014, 1, 8), (11015, 1, 8), (12000, 11, 15), (12002, 1, 8), (12003, 3, 8), (12005, 1, 25), (12006, 1, 25), (12011, 1, 5), (12012, 3, 5), (12014, 1, 8), (12015, 1, 8), (13000, 11, 15), (13002, 1, 8), (13003, 3, 8), (13005, 1, 25), (13006, 1, 25), (13011, 1, 5), (13012, 3, 5), (13014, 1, 8), (13015, 1, 8), (20000, 18, 69), (20003, 3, 8), (20004, 1, 8), (20005, 1, 25), (20006, 1, 25), (20012, 1, 5), (20013, 1, 8), (20014, 1, 8), (20015, 3, 5), (20017, 1, 3), (20018, 1, 3), (20020, 1, 25), (20021, 1, 25), (20022, 1, 25), (20025, 1, 8), (20026, 1, 8), (20027, 1, 8), (20028, 1, 8), (20029, 2, 8), (20034, 2, 72), (20035, 2, 9), (20036, 2, 9), (20037, 2, 9), (20038, 2, 9), (20039, 1, 72), (20040, 1, 9), (20041, 1, 9), (20042, 1, 9), (20043, 1, 8), (20044, 3, 8), (20045, 1, 25), (20046, 1, 100), (20053, 1, 12), (20054, 1, 12), (20055, 1, 12), (20057, 1, 7), (20058, 1, 8), (20059, 1, 25), (20060, 1, 25), (20061, 1, 5), (20062, 1, 8), (20063, 1, 8), (20064, 3, 8), (20065, 3, 5), (20066, 1, 6), (20067, 1, 6), (20068, 6, 6), (20069, 2, 60), (20104, 2, 60), (20120, 2, 60), (20136, 2, 60), (20152, 2, 60), (20168, 2, 60), (20184, 2, 60)]
/-- fields: kind (0 int, 1 long, 2 boolean, 3 a reference), how far on -/
def fkL : List (List (Nat × Nat)) := [[(0, 0), (3, 2), (3, 3)],
  [(0, 0), (3, 2), (3, 3), (0, 0), (3, 5), (3, 6), (0, 0), (0, 0), (0, 0), (0, 0), (3, 11), (3, 12), (0, 0), (3, 14), (3, 15)],
  [(0, 0), (0, 0), (0, 0), (1, 0), (1, 0), (1, 0), (1, 0), (3, 8), (3, 9)],
  [(3, 10000), (3, 20), (3, 3), (3, 4), (3, 5), (0, 0), (0, 0), (0, 0), (3, 9), (3, 10), (3, 11), (1, 0), (1, 0), (1, 0)],
  [(0, 0), (0, 0), (3, 3)],
  [(0, 0), (3, 2), (0, 0), (3, 4), (3, 5), (3, 6), (0, 0), (2, 0)],
  [(0, 0), (3, 2), (3, 3)],
  [(3, 10990), (3, 11990), (3, 12990), (2, 0), (3, 990), (3, 1990), (2, 0), (3, 200), (3, 300), (3, 10)],
  [(0, 0), (0, 0), (3, 3), (3, 4), (3, 5), (3, 6), (0, 0), (0, 0), (0, 0), (0, 0), (0, 0), (3, 12), (3, 13), (3, 14), (3, 15), (0, 0), (3, 17), (3, 18), (0, 0), (3, 20), (3, 21), (3, 22), (0, 0), (0, 0), (3, 25), (3, 26), (3, 27), (3, 28), (3, 29), (1, 0), (1, 0), (1, 0), (1, 0), (3, 34), (3, 35), (3, 36), (3, 37), (3, 38), (3, 39), (3, 40), (3, 41), (3, 42), (3, 43), (3, 44), (3, 45), (3, 46), (0, 0), (0, 0), (0, 0), (0, 0), (0, 0), (2, 0), (3, 53), (3, 54), (3, 55), (2, 0), (3, 57), (3, 58), (3, 59), (3, 60), (3, 61), (3, 62), (3, 63), (3, 64), (3, 65), (3, 66), (3, 67), (3, 68), (3, 69)]]
def shF : List (Nat × Nat × Nat) → Nat → Nat × Nat
  | [], _ => (9, 0)
  | (a, k) :: r, i => if i = a then k else shF r i
def Sh (i : Nat) : Nat × Nat := shF shL i
def FK (ci k : Nat) : Nat × Nat := (fkL.getD ci []).getD k (9, 0)
def xfv (ad : Nat → Nat) (M : Mem) (i ci k : Nat) : Value := match (FK ci k).1 with
  | 0 => .int (Int32.ofInt (M i k))
  | 1 => .long (Int64.ofInt (M i k))
  | 2 => .int (Int32.ofInt (M i k))
  | _ => .ref (ad (i + (FK ci k).2))
def xrf (ad : Nat → Nat) (i n j : Nat) : Option Nat := if j < n then some (ad (i + 36 + 16 * j)) else none
def xcont (X : XC) (M : Mem) (i : Nat) : va_E := match (Sh i).1 with
  | 1 => .inl (X.ca 0, (Sh i).2, .inl (fun j => Int32.ofInt (M i j)))
  | 2 => .inl (X.ca 1, (Sh i).2, .inr (.inl (fun j => Int64.ofInt (M i j))))
  | 3 => .inl (X.ca 2, (Sh i).2, .inl (fun j => Int32.ofInt (M i j)))
  | 4 => .inl (X.ca 3, (Sh i).2, .inr (.inr (.inr (.inr (xrf X.ad i (Sh i).2)))))
  | 5 => .inl (X.ca 4, (Sh i).2, .inr (.inr (.inr (.inr (xrf X.ad i (Sh i).2)))))
  | 6 => .inl (X.ca 5, (Sh i).2, .inr (.inr (.inr (.inr (xrf X.ad i (Sh i).2)))))
  | k => .inr (k - 10, (List.range (Sh i).2).map (xfv X.ad M i (k - 10)))
def xkind (i j : Nat) : Nat := match (Sh i).1 with
  | 1 => 0
  | 2 => 1
  | 3 => 2
  | 4 => 9
  | 5 => 9
  | 6 => 9
  | k => if 10 ≤ k then (FK (k - 10) j).1 else 9
def xrg (k : Nat) (v : Int) : Prop := match k with
  | 0 => i32 v
  | 1 => i64 v
  | 2 => v = 0 ∨ v = 1
  | _ => True
def MR (M : Mem) : Prop := ∀ i j, xrg (xkind i j) (M i j)
def xcells : List Nat := shL.map (·.1)
def wsM (X : XC) (M : Mem) : va_W := xcells.map (fun i => (X.ad i, xcont X M i))
def XA (X : XC) : Nat → Prop := fun q => ∃ i, i ∈ xcells ∧ q = X.ad i
def XInj (X : XC) : Prop := ∀ i j, i ∈ xcells → j ∈ xcells → X.ad i = X.ad j → i = j
def xtys (X : XC) : List (ClassId × FieldType) := [(X.ca 0, .int), (X.ca 1, .long), (X.ca 2, .boolean), (X.ca 3, .object "KeepCount$Stage"), (X.ca 4, .object "KeepCount$Tape"), (X.ca 5, .array .long)]
def xpl (j : Nat) : Int := ([10000000, 1000000, 100000, 10000, 1000, 100, 10, 1] : List Int).getD j 0
/-- what never changes: the static PLACES (index 7), the script (index 5) -/
def XSt (X : XC) (U : State) (H : Heap) : Prop := va_Z "KeepCount" "PLACES" "[I" (.ref (X.ad 7)) (XA X) U H ∧ va_T .int (X.ad 7) 8 (fun j => .int (Int32.ofInt (xpl j))) (XA X) U H ∧ va_X (X.ad 5) X.2.2.2.2.1 X.2.2.2.2.2 U H ∧ X.ad 5 < H.size ∧ ¬ XA X (X.ad 5)
def xls (X : XC) (ls : List (Nat × XV)) : List (Nat × Value) := ls.map (fun q => (q.1, xc X.ad q.2))
def xst (X : XC) (st : List XV) : List Value := st.map (xc X.ad)
def XCtx (X : XC) (Y : XY) (d : Nat) (p : Program) (R : Room) (s : State) (m : MethodId) (args : Array Value) (meth : Method) (c : Code) (cells slots : Nat) : Prop :=
  p.tables.exec = Jvm.exec ∧ c.code = Y.2.1 ∧ c.maxLocals = Y.2.2.1 ∧ s.vm.findClass Y.1.cls = some m.cls ∧ (∀ w ∈ xtbl, w.before args s = true) ∧ va_K X.2.1 vwCl (xtys X) s ∧ XInj X ∧ XSt X s s.heap ∧ d ≤ R.frames ∧ 37 * d ≤ R.locals ∧ cells ≤ R.cells ∧ slots ≤ R.slots
def XRet (Y : XY) (pc : Nat) (r : Option XV) : Prop := match r with
  | none => decode Y.2.1 pc = .ok (.return_, 1) ∧ Y.2.2.2 = none
  | some (.inl v) => decode Y.2.1 pc = .ok (.ireturn, 1) ∧ (Y.2.2.2 = some .int ∨ (Y.2.2.2 = some .boolean ∧ (v = 0 ∨ v = 1)))
  | some (.inr (.inl _)) => decode Y.2.1 pc = .ok (.lreturn, 1) ∧ Y.2.2.2 = some .long
  | some (.inr (.inr _)) => decode Y.2.1 pc = .ok (.areturn, 1) ∧ ∃ n, Y.2.2.2 = some (.object n)
def XF (X : XC) (M : Mem) (s : State) (H : Heap) (locs : List Loc) : Prop := va_P X.2.1 vwCl (wsM X M) H ∧ va_S (XA X) s.heap H locs
/-- from here the method ends, and what it answers and leaves is as Post says -/
def Go (X : XC) (Y : XY) (d pc : Nat) (ls : List (Nat × XV)) (st : List XV) (M : Mem) (Post : Option XV → Mem → Prop) : Prop :=
  (∀ q ∈ ls, xok q.2) → (∀ v ∈ st, xok v) → MR M →
  ∀ (p : Program) (e : Env) (R : Room) (s : State) (m : MethodId) (args : Array Value) (below : List Frame) (meth : Method) (c : Code) (cells slots : Nat) (Q : State → Prop) (H : Heap) (locs : List Loc) (lsA : Array Slot),
    XCtx X Y d p R s m args meth c cells slots → XF X M s H locs → lv_has lsA Y.2.2.1 (xls X ls) →
    (∀ (r : Option XV) (M' : Mem) (H' : Heap) (locs' : List Loc) (pc' : Nat) (lsA' : Array Slot), Post r M' → XRet Y pc' r → (∀ v ∈ r, xok v) → MR M' → XF X M' s H' locs' →
      W p X.1 e R s m args below meth c H' locs' cells slots Q (F0 m pc' lsA' (xst X r.toList))) →
    W p X.1 e R s m args below meth c H locs cells slots Q (F0 m pc lsA (xst X st))
def xrm (d : Nat) : Room := { frames := d, cells := 0, slots := 0, locals := 37 * d }
def xws (Y : XY) : List Cond := .code Y.1 Y.2.1 Y.2.2.1 Y.2.2.2 :: xgood
def Wd (X : XC) (M : Mem) (U : State) : Prop := va_P X.2.1 vwCl (wsM X M) U.heap ∧ va_K X.2.1 vwCl (xtys X) U ∧ XInj X ∧ XSt X U U.heap ∧ XNw U
def QP (X : XC) (Post : Option XV → Mem → Prop) : Array Value → State → Outcome → State → Prop := fun _ st o t =>
  ∃ (r : Option XV) (M' : Mem), Post r M' ∧ (∀ v ∈ r, xok v) ∧ MR M' ∧ o = .returned (r.map (xc X.ad)) ∧ va_P X.2.1 vwCl (wsM X M') t.heap ∧ va_F (XA X) st t
/-- a method's contract: called with as at M, it ends as Post says -/
def Ct (X : XC) (Y : XY) (d : Nat) (as : List XV) (M : Mem) (Post : Option XV → Mem → Prop) : Prop :=
  (∀ v ∈ as, xok v) → MR M → Met X.1 Y.1 (xws Y) (xrm d) (va_Pc (as.map (xc X.ad)) (Wd X M)) (QP X Post) 0 0 (XA X)
/-! ===== numbers ===== -/
theorem i32_eq {v : Int} (h : i32 v) : (Int32.ofInt v).toInt = v := Int32.toInt_ofInt_of_le (by have := h.1; omega) (by have := h.2; omega)
theorem i64_eq {v : Int} (h : i64 v) : (Int64.ofInt v).toInt = v := Int64.toInt_ofInt_of_le (by have := h.1; omega) (by have := h.2; omega)
theorem i32_lt {a b : Int} (ha : i32 a) (hb : i32 b) : Int32.ofInt a < Int32.ofInt b ↔ a < b := by rw [Int32.lt_iff_toInt_lt, i32_eq ha, i32_eq hb]
theorem i32_le {a b : Int} (ha : i32 a) (hb : i32 b) : Int32.ofInt a ≤ Int32.ofInt b ↔ a ≤ b := by rw [Int32.le_iff_toInt_le, i32_eq ha, i32_eq hb]
theorem i32_inj {a b : Int} (ha : i32 a) (hb : i32 b) : Int32.ofInt a = Int32.ofInt b ↔ a = b := by rw [← Int32.toInt_inj, i32_eq ha, i32_eq hb]
theorem i64_lt {a b : Int} (ha : i64 a) (hb : i64 b) : Int64.ofInt a < Int64.ofInt b ↔ a < b := by rw [Int64.lt_iff_toInt_lt, i64_eq ha, i64_eq hb]
theorem i64_inj {a b : Int} (ha : i64 a) (hb : i64 b) : Int64.ofInt a = Int64.ofInt b ↔ a = b := by rw [← Int64.toInt_inj, i64_eq ha, i64_eq hb]
theorem i32_0 : i32 0 := by constructor <;> decide
theorem i32_to (x : Int32) : i32 x.toInt := ⟨by have := Int32.le_toInt x; omega, by have := Int32.toInt_lt x; omega⟩
theorem i64_to (x : Int64) : i64 x.toInt := ⟨by have := Int64.le_toInt x; omega, by have := Int64.toInt_lt x; omega⟩
theorem i32_64 {v : Int} (h : i32 v) : i64 v := ⟨by have := h.1; omega, by have := h.2; omega⟩
theorem i32_nat {v : Int} (h : i32 v) (h0 : 0 ≤ v) : (Int32.ofInt v).toNatClampNeg = v.toNat := by
  show (Int32.ofInt v).toInt.toNat = _
  rw [i32_eq h]
theorem i32_vin {v : Int} {n : Nat} (h : i32 v) (h0 : 0 ≤ v) (hn : v < n) : vp_in (Int32.ofInt v) n := vp_in_iff.mpr (by rw [i32_eq h]; exact ⟨h0, hn⟩)
/-! ===== the world by index ===== -/
theorem shF_mem : ∀ (l : List (Nat × Nat × Nat)) (i : Nat), (shF l i).1 ≠ 9 → i ∈ l.map (·.1)
  | [], i, h => absurd rfl h
  | (a, k) :: r, i, h => by
    by_cases e : i = a
    · subst e; exact List.mem_cons_self
    · have h2 : (shF r i).1 ≠ 9 := by
        intro q
        apply h
        show (if i = a then k else shF r i).1 = 9
        rw [if_neg e]
        exact q
      exact List.mem_cons_of_mem _ (shF_mem r i h2)
theorem Sh_mem {i k n : Nat} (h : Sh i = (k, n)) (hk : k ≠ 9) : i ∈ xcells := shF_mem shL i (by show (Sh i).1 ≠ 9; rw [h]; exact hk)
theorem xcells_nd : va_nd xcells = true := by decide +kernel
theorem xat {i : Nat} (h : i ∈ xcells) : ∃ q : Nat, xcells[q]? = some i := List.getElem?_of_mem h
theorem ws_at (X : XC) (M : Mem) {q i : Nat} (h : xcells[q]? = some i) : (wsM X M)[q]? = some (X.ad i, xcont X M i) := by
  rw [wsM, List.getElem?_map, h]; rfl
theorem ws_set (X : XC) {M M' : Mem} {q i : Nat} (h : xcells[q]? = some i) (ho : ∀ j, j ≠ i → M' j = M j) : (wsM X M).set q (X.ad i, xcont X M' i) = wsM X M' := by
  have hl : q < xcells.length := (List.getElem?_eq_some_iff.mp h).1
  apply List.ext_getElem?
  intro k
  by_cases hk : k = q
  · subst hk
    rw [List.getElem?_set_self (by rw [wsM, List.length_map]; exact hl), ws_at X M' h]
  · rw [List.getElem?_set_ne (Ne.symm hk), wsM, wsM, List.getElem?_map, List.getElem?_map]
    cases hj : xcells[k]? with
    | none => rfl
    | some j =>
      have hne : j ≠ i := fun e => hk (va_nd_inj xcells xcells_nd k q i (e ▸ hj) h)
      show some (X.ad j, xcont X M j) = some (X.ad j, xcont X M' j)
      have he : xcont X M j = xcont X M' j := by
        have this := ho j hne
        have hx : ∀ ci, xfv X.ad M j ci = xfv X.ad M' j ci := fun ci => by funext k; simp only [xfv, this]
        simp only [xcont, this, hx]
      rw [he]
theorem wsD (X : XC) (M : Mem) (h : XInj X) : va_D (XA X) (wsM X M) := by
  have key : ∀ (k : Nat) (q : Nat × va_E), (wsM X M)[k]? = some q → ∃ i, xcells[k]? = some i ∧ q = (X.ad i, xcont X M i) := by
    intro k q hk
    rw [wsM, List.getElem?_map] at hk
    cases hi : xcells[k]? with
    | none => rw [hi] at hk; cases hk
    | some i => rw [hi] at hk; exact ⟨i, rfl, (Option.some.inj hk).symm⟩
  refine ⟨fun i j p q hi hj e => ?_, fun k q hk => ?_⟩
  · obtain ⟨a, ha, rfl⟩ := key i p hi
    obtain ⟨b, hb, rfl⟩ := key j q hj
    have hab : a = b := h a b (List.mem_of_getElem? ha) (List.mem_of_getElem? hb) e
    subst hab
    exact va_nd_inj xcells xcells_nd i j a ha hb
  · obtain ⟨a, ha, rfl⟩ := key k q hk
    exact ⟨a, List.mem_of_getElem? ha, rfl⟩
theorem xcont1 (X : XC) (M : Mem) {i n : Nat} (h : Sh i = (1, n)) : xcont X M i = .inl (X.ca 0, n, .inl (fun j => Int32.ofInt (M i j))) := by simp only [xcont, h]
theorem xcont2 (X : XC) (M : Mem) {i n : Nat} (h : Sh i = (2, n)) : xcont X M i = .inl (X.ca 1, n, .inr (.inl (fun j => Int64.ofInt (M i j)))) := by simp only [xcont, h]
theorem xcont3 (X : XC) (M : Mem) {i n : Nat} (h : Sh i = (3, n)) : xcont X M i = .inl (X.ca 2, n, .inl (fun j => Int32.ofInt (M i j))) := by simp only [xcont, h]
theorem xcont4 (X : XC) (M : Mem) {i n : Nat} (h : Sh i = (4, n)) : xcont X M i = .inl (X.ca 3, n, .inr (.inr (.inr (.inr (xrf X.ad i n))))) := by simp only [xcont, h]
theorem xcont5 (X : XC) (M : Mem) {i n : Nat} (h : Sh i = (5, n)) : xcont X M i = .inl (X.ca 4, n, .inr (.inr (.inr (.inr (xrf X.ad i n))))) := by simp only [xcont, h]
theorem xcont6 (X : XC) (M : Mem) {i n : Nat} (h : Sh i = (6, n)) : xcont X M i = .inl (X.ca 5, n, .inr (.inr (.inr (.inr (xrf X.ad i n))))) := by simp only [xcont, h]
theorem xcontO (X : XC) (M : Mem) {i ci n : Nat} (h : Sh i = (10 + ci, n)) : xcont X M i = .inr (ci, (List.range n).map (xfv X.ad M i ci)) := by
  have e : 10 + ci - 10 = ci := by omega
  have h1 : 10 + ci ≠ 1 := by omega
  have h2 : 10 + ci ≠ 2 := by omega
  have h3 : 10 + ci ≠ 3 := by omega
  have h4 : 10 + ci ≠ 4 := by omega
  have h5 : 10 + ci ≠ 5 := by omega
  have h6 : 10 + ci ≠ 6 := by omega
  unfold xcont
  rw [h]
  dsimp only
  split <;> first | contradiction | (rw [e])
end
end
section
section
theorem go_stp {X : XC} {Y : XY} {d pc pc' : Nat} {ls : List (Nat × XV)} {st st' : List XV} {M : Mem} {Post : Option XV → Mem → Prop}
    (h : ∀ {p : Program} {e : Env} {R : Room} {s : State} {m : MethodId} {args : Array Value} {below : List Frame} {meth : Method} {c : Code} {cells slots : Nat} {Q : State → Prop} {H : Heap} {locs : List Loc} {lsA : Array Slot}, p.tables.exec = Jvm.exec → c.code = Y.2.1 → s.vm.findClass Y.1.cls = some m.cls → (∀ w ∈ xtbl, w.before args s = true) → lv_has lsA Y.2.2.1 (xls X ls) → (∀ q ∈ ls, xok q.2) → (∀ v ∈ st, xok v) →
      W p X.1 e R s m args below meth c H locs cells slots Q (F0 m pc' lsA (xst X st')) → W p X.1 e R s m args below meth c H locs cells slots Q (F0 m pc lsA (xst X st)))
    (hok : (∀ q ∈ ls, xok q.2) → (∀ v ∈ st, xok v) → ∀ v ∈ st', xok v) (k : Go X Y d pc' ls st' M Post) : Go X Y d pc ls st M Post := by
  intro o1 o2 o3 p e R s m args below meth c cells slots Q H locs lsA C F hl K
  exact h C.1 C.2.1 C.2.2.2.1 C.2.2.2.2.1 hl o1 o2 (k o1 (hok o1 o2) o3 p e R s m args below meth c cells slots Q H locs lsA C F hl K)
variable {X : XC} {Y : XY} {d pc : Nat} {ls ls' : List (Nat × XV)} {st : List XV} {M : Mem} {Post : Option XV → Mem → Prop}
theorem ok_c {v : XV} {st : List XV} (h : xok v) (hs : ∀ w ∈ st, xok w) : ∀ w ∈ v :: st, xok w := List.forall_mem_cons.mpr ⟨h, hs⟩
theorem ok_cI {v : Int} {st : List XV} (h : i32 v) (hs : ∀ w ∈ st, xok w) : ∀ w ∈ XI v :: st, xok w := ok_c h hs
theorem ok_cL {v : Int} {st : List XV} (h : i64 v) (hs : ∀ w ∈ st, xok w) : ∀ w ∈ XL v :: st, xok w := ok_c h hs
theorem ok_cN {st : List XV} (hs : ∀ w ∈ st, xok w) : ∀ w ∈ XN :: st, xok w := ok_c (v := XN) True.intro hs
theorem ok_cR {a : Nat} {st : List XV} (hs : ∀ w ∈ st, xok w) : ∀ w ∈ XR a :: st, xok w := ok_c (v := XR a) True.intro hs
theorem ok_hI {v : Int} {st : List XV} (h : ∀ w ∈ XI v :: st, xok w) : i32 v := h _ List.mem_cons_self
theorem ok_hL {v : Int} {st : List XV} (h : ∀ w ∈ XL v :: st, xok w) : i64 v := h _ List.mem_cons_self
theorem ok_h {v : XV} {st : List XV} (h : ∀ w ∈ v :: st, xok w) : xok v := h v List.mem_cons_self
theorem ok_t {v : XV} {st : List XV} (h : ∀ w ∈ v :: st, xok w) : ∀ w ∈ st, xok w := fun w hw => h w (List.mem_cons_of_mem _ hw)
-- constants
theorem g_iconst {n v : Int} (hd : decode Y.2.1 pc = .ok (.iconst n, 1)) (hv : n = v) (ho : i32 v) (k : Go X Y d (pc + 1) ls (XI v :: st) M Post) : Go X Y d pc ls st M Post :=
  go_stp (fun hx hb _ _ _ _ _ q => lv_iconst hx hb hd (by rw [hv]) q) (fun _ h => ok_cI ho h) k
theorem g_bipush {n v : Int} (hd : decode Y.2.1 pc = .ok (.bipush n, 2)) (hv : (Int8.ofInt n).toInt32 = Int32.ofInt v) (ho : i32 v) (k : Go X Y d (pc + 2) ls (XI v :: st) M Post) : Go X Y d pc ls st M Post :=
  go_stp (fun hx hb _ _ _ _ _ q => lv_bipush hx hb hd hv q) (fun _ h => ok_cI ho h) k
theorem g_sipush {n v : Int} (hd : decode Y.2.1 pc = .ok (.sipush n, 3)) (hv : (Int16.ofInt n).toInt32 = Int32.ofInt v) (ho : i32 v) (k : Go X Y d (pc + 3) ls (XI v :: st) M Post) : Go X Y d pc ls st M Post :=
  go_stp (fun hx hb _ _ _ _ _ q => lv_sipush hx hb hd hv q) (fun _ h => ok_cI ho h) k
theorem g_lconst {n : Fin 2} {v : Int} (hd : decode Y.2.1 pc = .ok (.lconst n, 1)) (hv : Int64.ofNat n.val = Int64.ofInt v) (ho : i64 v) (k : Go X Y d (pc + 1) ls (XL v :: st) M Post) : Go X Y d pc ls st M Post :=
  go_stp (fun hx hb _ _ _ _ _ q => lv_lconst hx hb hd hv q) (fun _ h => ok_cL ho h) k
theorem g_null (hd : decode Y.2.1 pc = .ok (.aconst_null, 1)) (k : Go X Y d (pc + 1) ls (XN :: st) M Post) : Go X Y d pc ls st M Post :=
  go_stp (fun hx hb _ _ _ _ _ q => lv_null hx hb hd q) (fun _ h => ok_cN h) k
theorem g_ldc {idx : Nat} {v : Int} {w : Int32} (hd : decode Y.2.1 pc = .ok (.ldc idx, 2)) (hw : Cond.constant Y.1.cls idx w ∈ xtbl) (hv : w = Int32.ofInt v) (ho : i32 v) (k : Go X Y d (pc + 2) ls (XI v :: st) M Post) : Go X Y d pc ls st M Post :=
  go_stp (fun hx hb hown hts _ _ _ q => lv_ldc hx hb hown (hts _ (hv ▸ hw)) hd q) (fun _ h => ok_cI ho h) k
theorem g_ldcw {idx : Nat} {v : Int} {w : Int32} (hd : decode Y.2.1 pc = .ok (.ldc_w idx, 3)) (hw : Cond.constant Y.1.cls idx w ∈ xtbl) (hv : w = Int32.ofInt v) (ho : i32 v) (k : Go X Y d (pc + 3) ls (XI v :: st) M Post) : Go X Y d pc ls st M Post :=
  go_stp (fun hx hb hown hts _ _ _ q => lv_ldcw hx hb hown (hts _ (hv ▸ hw)) hd q) (fun _ h => ok_cI ho h) k
theorem g_ldc2 {idx : Nat} {v : Int} {w : Int64} (hd : decode Y.2.1 pc = .ok (.ldc2_w idx, 3)) (hw : Cond.constantLong Y.1.cls idx w ∈ xtbl) (hv : w = Int64.ofInt v) (ho : i64 v) (k : Go X Y d (pc + 3) ls (XL v :: st) M Post) : Go X Y d pc ls st M Post :=
  go_stp (fun hx hb hown hts _ _ _ q => lv_ldc2 hx hb hown (hts _ (hv ▸ hw)) hd q) (fun _ h => ok_cL ho h) k
-- locals
theorem x_lk {lsA : Array Slot} {nL j i : Nat} {v : XV} (hl : lv_has lsA nL (xls X ls)) (h : ls[j]? = some (i, v)) : lsA[i]? = some (.val (xc X.ad v)) := by
  refine lv_at hl j ?_
  rw [xls, List.getElem?_map, h]; rfl
theorem x_lo {j i : Nat} {v : XV} (o : ∀ q ∈ ls, xok q.2) (h : ls[j]? = some (i, v)) : xok v := o (i, v) (List.mem_of_getElem? h)
theorem g_iload_n {n : Fin 4} {v : Int} (j : Nat) (hd : decode Y.2.1 pc = .ok (.iload_n n, 1)) (hl : ls[j]? = some (n.val, XI v)) (k : Go X Y d (pc + 1) ls (XI v :: st) M Post) : Go X Y d pc ls st M Post :=
  go_stp (fun hx hb _ _ hl2 _ _ q => lv_iload_n hx hb hd rfl (x_lk hl2 hl) q) (fun o h => ok_c (x_lo o hl) h) k
theorem g_iload {n : Nat} {v : Int} (j : Nat) (hd : decode Y.2.1 pc = .ok (.iload n, 2)) (hl : ls[j]? = some (n, XI v)) (k : Go X Y d (pc + 2) ls (XI v :: st) M Post) : Go X Y d pc ls st M Post :=
  go_stp (fun hx hb _ _ hl2 _ _ q => lv_iload hx hb hd (x_lk hl2 hl) q) (fun o h => ok_c (x_lo o hl) h) k
theorem g_lload_n {n : Fin 4} {v : Int} (j : Nat) (hd : decode Y.2.1 pc = .ok (.lload_n n, 1)) (hl : ls[j]? = some (n.val, XL v)) (k : Go X Y d (pc + 1) ls (XL v :: st) M Post) : Go X Y d pc ls st M Post :=
  go_stp (fun hx hb _ _ hl2 _ _ q => lv_lload_n hx hb hd rfl (x_lk hl2 hl) q) (fun o h => ok_c (x_lo o hl) h) k
theorem g_lload {n : Nat} {v : Int} (j : Nat) (hd : decode Y.2.1 pc = .ok (.lload n, 2)) (hl : ls[j]? = some (n, XL v)) (k : Go X Y d (pc + 2) ls (XL v :: st) M Post) : Go X Y d pc ls st M Post :=
  go_stp (fun hx hb _ _ hl2 _ _ q => lv_lload hx hb hd (x_lk hl2 hl) q) (fun o h => ok_c (x_lo o hl) h) k
theorem g_aload_n {n : Fin 4} {a : Nat} (j : Nat) (hd : decode Y.2.1 pc = .ok (.aload_n n, 1)) (hl : ls[j]? = some (n.val, XR a)) (k : Go X Y d (pc + 1) ls (XR a :: st) M Post) : Go X Y d pc ls st M Post :=
  go_stp (fun hx hb _ _ hl2 _ _ q => lv_aload_n hx hb hd rfl (x_lk hl2 hl) q) (fun o h => ok_c (x_lo o hl) h) k
theorem g_aload {n : Nat} {a : Nat} (j : Nat) (hd : decode Y.2.1 pc = .ok (.aload n, 2)) (hl : ls[j]? = some (n, XR a)) (k : Go X Y d (pc + 2) ls (XR a :: st) M Post) : Go X Y d pc ls st M Post :=
  go_stp (fun hx hb _ _ hl2 _ _ q => lv_aload hx hb hd (x_lk hl2 hl) q) (fun o h => ok_c (x_lo o hl) h) k
theorem g_aload_nN {n : Fin 4} (j : Nat) (hd : decode Y.2.1 pc = .ok (.aload_n n, 1)) (hl : ls[j]? = some (n.val, XN)) (k : Go X Y d (pc + 1) ls (XN :: st) M Post) : Go X Y d pc ls st M Post :=
  go_stp (fun hx hb _ _ hl2 _ _ q => lv_aload_nN hx hb hd rfl (x_lk hl2 hl) q) (fun o h => ok_c (x_lo o hl) h) k
theorem g_aloadN {n : Nat} (j : Nat) (hd : decode Y.2.1 pc = .ok (.aload n, 2)) (hl : ls[j]? = some (n, XN)) (k : Go X Y d (pc + 2) ls (XN :: st) M Post) : Go X Y d pc ls st M Post :=
  go_stp (fun hx hb _ _ hl2 _ _ q => lv_aloadN hx hb hd (x_lk hl2 hl) q) (fun o h => ok_c (x_lo o hl) h) k
def xs1 (i : Nat) (v : XV) (ls : List (Nat × XV)) : List (Nat × XV) := (i, v) :: ls.filter (fun q => !(q.1 == i) && !(q.1 + 1 == i && xlong q.2))
def xs2 (i : Nat) (v : XV) (ls : List (Nat × XV)) : List (Nat × XV) := (i, v) :: ls.filter (fun q => !(q.1 == i) && (!(q.1 == i + 1) && !(q.1 + 1 == i && xlong q.2)))
theorem xlong_cat (ad : Nat → Nat) (v : XV) : ((xc ad v).category == 2) = xlong v := by
  rcases v with v | v | v | v <;> rfl
theorem xs1_eq (X : XC) (i : Nat) (v : XV) (ls : List (Nat × XV)) : (i, xc X.ad v) :: (xls X ls).filter (fun q => !(q.1 == i) && !(q.1 + 1 == i && q.2.category == 2)) = xls X (xs1 i v ls) := by
  rw [xs1, xls, xls, List.map_cons, List.filter_map]
  congr 2
  apply List.filter_congr
  intro q _
  simp only [Function.comp, xlong_cat]
theorem xs2_eq (X : XC) (i : Nat) (v : XV) (ls : List (Nat × XV)) : (i, xc X.ad v) :: (xls X ls).filter (fun q => !(q.1 == i) && (!(q.1 == i + 1) && !(q.1 + 1 == i && q.2.category == 2))) = xls X (xs2 i v ls) := by
  rw [xs2, xls, xls, List.map_cons, List.filter_map]
  congr 2
  apply List.filter_congr
  intro q _
  simp only [Function.comp, xlong_cat]
theorem xs1_ok {i : Nat} {v : XV} (o : ∀ q ∈ ls, xok q.2) (h : xok v) : ∀ q ∈ xs1 i v ls, xok q.2 := fun q hq => (List.mem_cons.mp hq).elim (fun e => e ▸ h) (fun hq => o q (List.mem_filter.mp hq).1)
theorem xs2_ok {i : Nat} {v : XV} (o : ∀ q ∈ ls, xok q.2) (h : xok v) : ∀ q ∈ xs2 i v ls, xok q.2 := fun q hq => (List.mem_cons.mp hq).elim (fun e => e ▸ h) (fun hq => o q (List.mem_filter.mp hq).1)
theorem go_str {X : XC} {Y : XY} {d pc pc' : Nat} {ls ls' : List (Nat × XV)} {st st' : List XV} {M : Mem} {Post : Option XV → Mem → Prop}
    (h : ∀ {p : Program} {e : Env} {R : Room} {s : State} {m : MethodId} {args : Array Value} {below : List Frame} {meth : Method} {c : Code} {cells slots : Nat} {Q : State → Prop} {H : Heap} {locs : List Loc} {lsA : Array Slot}, p.tables.exec = Jvm.exec → c.code = Y.2.1 → lv_has lsA Y.2.2.1 (xls X ls) →
      (∀ lsA' : Array Slot, lv_has lsA' Y.2.2.1 (xls X ls') → W p X.1 e R s m args below meth c H locs cells slots Q (F0 m pc' lsA' (xst X st'))) → W p X.1 e R s m args below meth c H locs cells slots Q (F0 m pc lsA (xst X st)))
    (hok : (∀ q ∈ ls, xok q.2) → (∀ v ∈ st, xok v) → (∀ q ∈ ls', xok q.2) ∧ ∀ v ∈ st', xok v) (k : Go X Y d pc' ls' st' M Post) : Go X Y d pc ls st M Post := by
  intro o1 o2 o3 p e R s m args below meth c cells slots Q H locs lsA C F hl K
  exact h C.1 C.2.1 hl (fun lsA' hl' => k (hok o1 o2).1 (hok o1 o2).2 o3 p e R s m args below meth c cells slots Q H locs lsA' C F hl' K)
theorem g_istore_n {n : Fin 4} {v : Int} (hd : decode Y.2.1 pc = .ok (.istore_n n, 1)) (hn : n.val < Y.2.2.1) (hl : xs1 n.val (XI v) ls = ls') (k : Go X Y d (pc + 1) ls' st M Post) : Go X Y d pc ls (XI v :: st) M Post :=
  go_str (fun hx hb hh kk => lv_istore_n hx hb hd rfl hh hn (hl ▸ xs1_eq X n.val (XI v) ls) kk) (fun o h => ⟨hl ▸ xs1_ok o (ok_h h), ok_t h⟩) k
theorem g_istore {n : Nat} {v : Int} (hd : decode Y.2.1 pc = .ok (.istore n, 2)) (hn : n < Y.2.2.1) (hl : xs1 n (XI v) ls = ls') (k : Go X Y d (pc + 2) ls' st M Post) : Go X Y d pc ls (XI v :: st) M Post :=
  go_str (fun hx hb hh kk => lv_istore hx hb hd hh hn (hl ▸ xs1_eq X n (XI v) ls) kk) (fun o h => ⟨hl ▸ xs1_ok o (ok_h h), ok_t h⟩) k
theorem g_astore_n {n : Fin 4} {a : Nat} (hd : decode Y.2.1 pc = .ok (.astore_n n, 1)) (hn : n.val < Y.2.2.1) (hl : xs1 n.val (XR a) ls = ls') (k : Go X Y d (pc + 1) ls' st M Post) : Go X Y d pc ls (XR a :: st) M Post :=
  go_str (fun hx hb hh kk => lv_astore_n hx hb hd rfl hh hn (hl ▸ xs1_eq X n.val (XR a) ls) kk) (fun o h => ⟨hl ▸ xs1_ok o (ok_h h), ok_t h⟩) k
theorem g_astore {n : Nat} {a : Nat} (hd : decode Y.2.1 pc = .ok (.astore n, 2)) (hn : n < Y.2.2.1) (hl : xs1 n (XR a) ls = ls') (k : Go X Y d (pc + 2) ls' st M Post) : Go X Y d pc ls (XR a :: st) M Post :=
  go_str (fun hx hb hh kk => lv_astore hx hb hd hh hn (hl ▸ xs1_eq X n (XR a) ls) kk) (fun o h => ⟨hl ▸ xs1_ok o (ok_h h), ok_t h⟩) k
theorem g_astore_nN {n : Fin 4} (hd : decode Y.2.1 pc = .ok (.astore_n n, 1)) (hn : n.val < Y.2.2.1) (hl : xs1 n.val XN ls = ls') (k : Go X Y d (pc + 1) ls' st M Post) : Go X Y d pc ls (XN :: st) M Post :=
  go_str (fun hx hb hh kk => lv_astore_nN hx hb hd rfl hh hn (hl ▸ xs1_eq X n.val XN ls) kk) (fun o h => ⟨hl ▸ xs1_ok o (ok_h h), ok_t h⟩) k
theorem g_astoreN {n : Nat} (hd : decode Y.2.1 pc = .ok (.astore n, 2)) (hn : n < Y.2.2.1) (hl : xs1 n XN ls = ls') (k : Go X Y d (pc + 2) ls' st M Post) : Go X Y d pc ls (XN :: st) M Post :=
  go_str (fun hx hb hh kk => lv_astoreN hx hb hd hh hn (hl ▸ xs1_eq X n XN ls) kk) (fun o h => ⟨hl ▸ xs1_ok o (ok_h h), ok_t h⟩) k
theorem g_lstore_n {n : Fin 4} {v : Int} (hd : decode Y.2.1 pc = .ok (.lstore_n n, 1)) (hn : n.val + 1 < Y.2.2.1) (hl : xs2 n.val (XL v) ls = ls') (k : Go X Y d (pc + 1) ls' st M Post) : Go X Y d pc ls (XL v :: st) M Post :=
  go_str (fun hx hb hh kk => lv_lstore_n hx hb hd rfl hh hn (hl ▸ xs2_eq X n.val (XL v) ls) kk) (fun o h => ⟨hl ▸ xs2_ok o (ok_h h), ok_t h⟩) k
theorem g_lstore {n : Nat} {v : Int} (hd : decode Y.2.1 pc = .ok (.lstore n, 2)) (hn : n + 1 < Y.2.2.1) (hl : xs2 n (XL v) ls = ls') (k : Go X Y d (pc + 2) ls' st M Post) : Go X Y d pc ls (XL v :: st) M Post :=
  go_str (fun hx hb hh kk => lv_lstore hx hb hd hh hn (hl ▸ xs2_eq X n (XL v) ls) kk) (fun o h => ⟨hl ▸ xs2_ok o (ok_h h), ok_t h⟩) k
theorem g_iinc {n : Nat} {w : Int} {v v' : Int} (j : Nat) (hd : decode Y.2.1 pc = .ok (.iinc n w, 3)) (hj : ls[j]? = some (n, XI v)) (hv : v + w = v') (ho : i32 v') (hn : n < Y.2.2.1) (hl : xs1 n (XI v') ls = ls') (k : Go X Y d (pc + 3) ls' st M Post) : Go X Y d pc ls st M Post :=
  go_str (fun hx hb hh kk => lv_iinc hx hb hd hh (k := j) (x := Int32.ofInt v) (v := Int32.ofInt v') (by rw [xls, List.getElem?_map, hj]; rfl) (by rw [← hv, Int32.ofInt_add]) hn (hl ▸ xs1_eq X n (XI v') ls) kk) (fun o h => ⟨hl ▸ xs1_ok o ho, h⟩) k
-- arithmetic
theorem g_iadd {a b v : Int} (hd : decode Y.2.1 pc = .ok (.iadd, 1)) (hv : a + b = v) (ho : i32 v) (k : Go X Y d (pc + 1) ls (XI v :: st) M Post) : Go X Y d pc ls (XI b :: XI a :: st) M Post :=
  go_stp (fun hx hb _ _ _ _ _ q => lv_iadd hx hb hd (by rw [← Int32.ofInt_add, hv]; exact q)) (fun _ h => ok_cI ho (ok_t (ok_t h))) k
theorem g_isub {a b v : Int} (hd : decode Y.2.1 pc = .ok (.isub, 1)) (hv : a - b = v) (ho : i32 v) (k : Go X Y d (pc + 1) ls (XI v :: st) M Post) : Go X Y d pc ls (XI b :: XI a :: st) M Post :=
  go_stp (fun hx hb _ _ _ _ _ q => lv_isub hx hb hd (by rw [← Int32.ofInt_sub, hv]; exact q)) (fun _ h => ok_cI ho (ok_t (ok_t h))) k
theorem g_imul {a b v : Int} (hd : decode Y.2.1 pc = .ok (.imul, 1)) (hv : a * b = v) (ho : i32 v) (k : Go X Y d (pc + 1) ls (XI v :: st) M Post) : Go X Y d pc ls (XI b :: XI a :: st) M Post :=
  go_stp (fun hx hb _ _ _ _ _ q => lv_imul hx hb hd (by rw [← Int32.ofInt_mul, hv]; exact q)) (fun _ h => ok_cI ho (ok_t (ok_t h))) k
theorem g_ladd {a b v : Int} (hd : decode Y.2.1 pc = .ok (.ladd, 1)) (hv : a + b = v) (ho : i64 v) (k : Go X Y d (pc + 1) ls (XL v :: st) M Post) : Go X Y d pc ls (XL b :: XL a :: st) M Post :=
  go_stp (fun hx hb _ _ _ _ _ q => lv_ladd hx hb hd (by rw [← Int64.ofInt_add, hv]; exact q)) (fun _ h => ok_cL ho (ok_t (ok_t h))) k
theorem g_lsub {a b v : Int} (hd : decode Y.2.1 pc = .ok (.lsub, 1)) (hv : a - b = v) (ho : i64 v) (k : Go X Y d (pc + 1) ls (XL v :: st) M Post) : Go X Y d pc ls (XL b :: XL a :: st) M Post :=
  go_stp (fun hx hb _ _ _ _ _ q => lv_lsub hx hb hd (by rw [← Int64.ofInt_sub, hv]; exact q)) (fun _ h => ok_cL ho (ok_t (ok_t h))) k
theorem g_lmul {a b v : Int} (hd : decode Y.2.1 pc = .ok (.lmul, 1)) (hv : a * b = v) (ho : i64 v) (k : Go X Y d (pc + 1) ls (XL v :: st) M Post) : Go X Y d pc ls (XL b :: XL a :: st) M Post :=
  go_stp (fun hx hb _ _ _ _ _ q => lv_lmul hx hb hd (by rw [← Int64.ofInt_mul, hv]; exact q)) (fun _ h => ok_cL ho (ok_t (ok_t h))) k
theorem i32_div {a b : Int} (ha : i32 a) (hb : i32 b) (h0 : 0 ≤ a) (h1 : 0 < b) : Int32.ofInt a / Int32.ofInt b = Int32.ofInt (a / b) := by
  rw [← Int32.toInt_inj, Int32.toInt_div_of_ne_right _ _ (by rw [show (-1 : Int32) = Int32.ofInt (-1) from rfl, Ne, i32_inj hb (by constructor <;> decide)]; omega), i32_eq ha, i32_eq hb, Int.tdiv_eq_ediv_of_nonneg h0, i32_eq]
  have := Int.ediv_nonneg h0 (Int.le_of_lt h1)
  have h3 := Int.ediv_le_self b h0
  exact ⟨by omega, by have := ha.2; omega⟩
theorem i64_div {a b : Int} (ha : i64 a) (hb : i64 b) (h0 : 0 ≤ a) (h1 : 0 < b) : Int64.ofInt a / Int64.ofInt b = Int64.ofInt (a / b) := by
  rw [← Int64.toInt_inj, Int64.toInt_div_of_ne_right _ _ (by rw [show (-1 : Int64) = Int64.ofInt (-1) from rfl, Ne, i64_inj hb (by constructor <;> decide)]; omega), i64_eq ha, i64_eq hb, Int.tdiv_eq_ediv_of_nonneg h0, i64_eq]
  have := Int.ediv_nonneg h0 (Int.le_of_lt h1)
  have h3 := Int.ediv_le_self b h0
  exact ⟨by omega, by have := ha.2; omega⟩
theorem ok_div {a b : Int} (ha : i32 a) (h0 : 0 ≤ a) (h1 : 0 < b) : i32 (a / b) := by
  have := Int.ediv_nonneg h0 (Int.le_of_lt h1)
  have h3 := Int.ediv_le_self b h0
  exact ⟨by omega, by have := ha.2; omega⟩
theorem ok_divL {a b : Int} (ha : i64 a) (h0 : 0 ≤ a) (h1 : 0 < b) : i64 (a / b) := by
  have := Int.ediv_nonneg h0 (Int.le_of_lt h1)
  have h3 := Int.ediv_le_self b h0
  exact ⟨by omega, by have := ha.2; omega⟩
theorem ok_mod {a b : Int} (ha : i32 a) (h0 : 0 ≤ a) (h1 : 0 < b) : i32 (a % b) := by
  have := Int.emod_nonneg a (Int.ne_of_gt h1)
  have h3 : a % b ≤ a := by rw [Int.emod_def]; have := Int.mul_nonneg (Int.le_of_lt h1) (Int.ediv_nonneg h0 (Int.le_of_lt h1)); omega
  exact ⟨by omega, by have := ha.2; omega⟩
theorem ok_modL {a b : Int} (ha : i64 a) (h0 : 0 ≤ a) (h1 : 0 < b) : i64 (a % b) := by
  have := Int.emod_nonneg a (Int.ne_of_gt h1)
  have h3 : a % b ≤ a := by rw [Int.emod_def]; have := Int.mul_nonneg (Int.le_of_lt h1) (Int.ediv_nonneg h0 (Int.le_of_lt h1)); omega
  exact ⟨by omega, by have := ha.2; omega⟩
theorem g_idiv {a b v : Int} (hd : decode Y.2.1 pc = .ok (.idiv, 1)) (h0 : 0 ≤ a) (h1 : 0 < b) (hv : a / b = v) (k : Go X Y d (pc + 1) ls (XI v :: st) M Post) : Go X Y d pc ls (XI b :: XI a :: st) M Post :=
  go_stp (fun hx hb _ _ _ _ o q => lv_idiv hx hb hd (fun z => by have := (i32_inj (ok_hI o) i32_0).mp z; omega) (by rw [i32_div (ok_hI (ok_t o)) (ok_hI o) h0 h1, hv]; exact q)) (fun _ h => ok_cI (hv ▸ ok_div (ok_hI (ok_t h)) h0 h1) (ok_t (ok_t h))) k
theorem g_irem {a b v : Int} (hd : decode Y.2.1 pc = .ok (.irem, 1)) (h0 : 0 ≤ a) (h1 : 0 < b) (hv : a % b = v) (k : Go X Y d (pc + 1) ls (XI v :: st) M Post) : Go X Y d pc ls (XI b :: XI a :: st) M Post :=
  go_stp (fun hx hb _ _ _ _ o q => lv_irem hx hb hd (fun z => by have := (i32_inj (ok_hI o) i32_0).mp z; omega) (by rw [i32_div (ok_hI (ok_t o)) (ok_hI o) h0 h1, ← Int32.ofInt_mul, ← Int32.ofInt_sub, show a - a / b * b = v by rw [← hv, Int.emod_def, Int.mul_comm]]; exact q)) (fun _ h => ok_cI (hv ▸ ok_mod (ok_hI (ok_t h)) h0 h1) (ok_t (ok_t h))) k
theorem g_ldiv {a b v : Int} (hd : decode Y.2.1 pc = .ok (.ldiv, 1)) (h0 : 0 ≤ a) (h1 : 0 < b) (hv : a / b = v) (k : Go X Y d (pc + 1) ls (XL v :: st) M Post) : Go X Y d pc ls (XL b :: XL a :: st) M Post :=
  go_stp (fun hx hb _ _ _ _ o q => lv_ldiv hx hb hd (fun z => by have := (i64_inj (ok_hL o) (i32_64 i32_0)).mp z; omega) (by rw [i64_div (ok_hL (ok_t o)) (ok_hL o) h0 h1, hv]; exact q)) (fun _ h => ok_cL (hv ▸ ok_divL (ok_hL (ok_t h)) h0 h1) (ok_t (ok_t h))) k
theorem g_lrem {a b v : Int} (hd : decode Y.2.1 pc = .ok (.lrem, 1)) (h0 : 0 ≤ a) (h1 : 0 < b) (hv : a % b = v) (k : Go X Y d (pc + 1) ls (XL v :: st) M Post) : Go X Y d pc ls (XL b :: XL a :: st) M Post :=
  go_stp (fun hx hb _ _ _ _ o q => lv_lrem hx hb hd (fun z => by have := (i64_inj (ok_hL o) (i32_64 i32_0)).mp z; omega) (by rw [i64_div (ok_hL (ok_t o)) (ok_hL o) h0 h1, ← Int64.ofInt_mul, ← Int64.ofInt_sub, show a - a / b * b = v by rw [← hv, Int.emod_def, Int.mul_comm]]; exact q)) (fun _ h => ok_cL (hv ▸ ok_modL (ok_hL (ok_t h)) h0 h1) (ok_t (ok_t h))) k
-- bits
def bAnd (a b : Int) : Int := (Int32.ofInt a &&& Int32.ofInt b).toInt
def bOr (a b : Int) : Int := (Int32.ofInt a ||| Int32.ofInt b).toInt
def bXor (a b : Int) : Int := (Int32.ofInt a ^^^ Int32.ofInt b).toInt
def bShl (a b : Int) : Int := (Int32.ofInt a <<< (Int32.ofInt b &&& 31)).toInt
def bShr (a b : Int) : Int := (Int32.ofInt a >>> (Int32.ofInt b &&& 31)).toInt
def bLand (a b : Int) : Int := (Int64.ofInt a &&& Int64.ofInt b).toInt
def bLor (a b : Int) : Int := (Int64.ofInt a ||| Int64.ofInt b).toInt
def bLshl (a b : Int) : Int := (Int64.ofInt a <<< ((Int32.ofInt b).toInt64 &&& 63)).toInt
def w32 (a : Int) : Int := (Int32.ofInt a).toInt
def w8 (a : Int) : Int := (Int32.ofInt a).toInt8.toInt32.toInt
def w16 (a : Int) : Int := (Int32.ofInt a).toInt16.toInt32.toInt
theorem l2i_e (a : Int) : (Int64.ofInt a).toInt32 = Int32.ofInt (w32 a) := by rw [Int64.toInt32_ofInt]; exact (Int32.ofInt_toInt _).symm
theorem i2b_e (a : Int) : (Int32.ofInt a).toInt8.toInt32 = Int32.ofInt (w8 a) := (Int32.ofInt_toInt _).symm
theorem i2s_e (a : Int) : (Int32.ofInt a).toInt16.toInt32 = Int32.ofInt (w16 a) := (Int32.ofInt_toInt _).symm
theorem g_iand {a b : Int} (hd : decode Y.2.1 pc = .ok (.iand, 1)) (k : Go X Y d (pc + 1) ls (XI (bAnd a b) :: st) M Post) : Go X Y d pc ls (XI b :: XI a :: st) M Post :=
  go_stp (fun hx hb _ _ _ _ _ q => lv_iand hx hb hd (by rw [← Int32.ofInt_toInt (Int32.ofInt a &&& Int32.ofInt b)]; exact q)) (fun _ h => ok_cI (i32_to _) (ok_t (ok_t h))) k
theorem g_ior {a b : Int} (hd : decode Y.2.1 pc = .ok (.ior, 1)) (k : Go X Y d (pc + 1) ls (XI (bOr a b) :: st) M Post) : Go X Y d pc ls (XI b :: XI a :: st) M Post :=
  go_stp (fun hx hb _ _ _ _ _ q => lv_ior hx hb hd (by rw [← Int32.ofInt_toInt (Int32.ofInt a ||| Int32.ofInt b)]; exact q)) (fun _ h => ok_cI (i32_to _) (ok_t (ok_t h))) k
theorem g_ixor {a b : Int} (hd : decode Y.2.1 pc = .ok (.ixor, 1)) (k : Go X Y d (pc + 1) ls (XI (bXor a b) :: st) M Post) : Go X Y d pc ls (XI b :: XI a :: st) M Post :=
  go_stp (fun hx hb _ _ _ _ _ q => lv_ixor hx hb hd (by rw [← Int32.ofInt_toInt (Int32.ofInt a ^^^ Int32.ofInt b)]; exact q)) (fun _ h => ok_cI (i32_to _) (ok_t (ok_t h))) k
theorem g_ishl {a b : Int} (hd : decode Y.2.1 pc = .ok (.ishl, 1)) (k : Go X Y d (pc + 1) ls (XI (bShl a b) :: st) M Post) : Go X Y d pc ls (XI b :: XI a :: st) M Post :=
  go_stp (fun hx hb _ _ _ _ _ q => lv_ishl hx hb hd (by rw [← Int32.ofInt_toInt (Int32.ofInt a <<< (Int32.ofInt b &&& 31))]; exact q)) (fun _ h => ok_cI (i32_to _) (ok_t (ok_t h))) k
theorem g_ishr {a b : Int} (hd : decode Y.2.1 pc = .ok (.ishr, 1)) (k : Go X Y d (pc + 1) ls (XI (bShr a b) :: st) M Post) : Go X Y d pc ls (XI b :: XI a :: st) M Post :=
  go_stp (fun hx hb _ _ _ _ _ q => lv_ishr hx hb hd (by rw [← Int32.ofInt_toInt (Int32.ofInt a >>> (Int32.ofInt b &&& 31))]; exact q)) (fun _ h => ok_cI (i32_to _) (ok_t (ok_t h))) k
theorem g_land {a b : Int} (hd : decode Y.2.1 pc = .ok (.land, 1)) (k : Go X Y d (pc + 1) ls (XL (bLand a b) :: st) M Post) : Go X Y d pc ls (XL b :: XL a :: st) M Post :=
  go_stp (fun hx hb _ _ _ _ _ q => lv_land hx hb hd (by rw [← Int64.ofInt_toInt (Int64.ofInt a &&& Int64.ofInt b)]; exact q)) (fun _ h => ok_cL (i64_to _) (ok_t (ok_t h))) k
theorem g_lor {a b : Int} (hd : decode Y.2.1 pc = .ok (.lor, 1)) (k : Go X Y d (pc + 1) ls (XL (bLor a b) :: st) M Post) : Go X Y d pc ls (XL b :: XL a :: st) M Post :=
  go_stp (fun hx hb _ _ _ _ _ q => lv_lor hx hb hd (by rw [← Int64.ofInt_toInt (Int64.ofInt a ||| Int64.ofInt b)]; exact q)) (fun _ h => ok_cL (i64_to _) (ok_t (ok_t h))) k
theorem g_lshl {a b : Int} (hd : decode Y.2.1 pc = .ok (.lshl, 1)) (k : Go X Y d (pc + 1) ls (XL (bLshl a b) :: st) M Post) : Go X Y d pc ls (XI b :: XL a :: st) M Post :=
  go_stp (fun hx hb _ _ _ _ _ q => lv_lshl hx hb hd rfl (by rw [← Int64.ofInt_toInt (Int64.ofInt a <<< ((Int32.ofInt b).toInt64 &&& 63))]; exact q)) (fun _ h => ok_cL (i64_to _) (ok_t (ok_t h))) k
theorem g_i2l {a : Int} (hd : decode Y.2.1 pc = .ok (.i2l, 1)) (k : Go X Y d (pc + 1) ls (XL a :: st) M Post) : Go X Y d pc ls (XI a :: st) M Post :=
  go_stp (fun hx hb _ _ _ _ o q => lv_i2l hx hb hd (by rw [← Int64.toInt_inj, Int32.toInt_toInt64, i32_eq (ok_hI o), i64_eq (i32_64 (ok_hI o))]) q) (fun _ h => ok_cL (i32_64 (ok_hI h)) (ok_t h)) k
theorem g_l2i {a : Int} (hd : decode Y.2.1 pc = .ok (.l2i, 1)) (k : Go X Y d (pc + 1) ls (XI (w32 a) :: st) M Post) : Go X Y d pc ls (XL a :: st) M Post :=
  go_stp (fun hx hb _ _ _ _ o q => lv_l2i hx hb hd (l2i_e a) q) (fun _ h => ok_cI (i32_to _) (ok_t h)) k
theorem g_i2b {a : Int} (hd : decode Y.2.1 pc = .ok (.i2b, 1)) (k : Go X Y d (pc + 1) ls (XI (w8 a) :: st) M Post) : Go X Y d pc ls (XI a :: st) M Post :=
  go_stp (fun hx hb _ _ _ _ o q => lv_i2b hx hb hd (i2b_e a) q) (fun _ h => ok_cI (i32_to _) (ok_t h)) k
theorem g_i2s {a : Int} (hd : decode Y.2.1 pc = .ok (.i2s, 1)) (k : Go X Y d (pc + 1) ls (XI (w16 a) :: st) M Post) : Go X Y d pc ls (XI a :: st) M Post :=
  go_stp (fun hx hb _ _ _ _ o q => lv_i2s hx hb hd (i2s_e a) q) (fun _ h => ok_cI (i32_to _) (ok_t h)) k
-- the stack
theorem g_dupI {a : Int} (hd : decode Y.2.1 pc = .ok (.dup, 1)) (k : Go X Y d (pc + 1) ls (XI a :: XI a :: st) M Post) : Go X Y d pc ls (XI a :: st) M Post :=
  go_stp (fun hx hb _ _ _ _ o q => lv_dup hx hb hd rfl q) (fun _ h => ok_c (ok_h h) h) k
theorem g_dupR {a : Nat} (hd : decode Y.2.1 pc = .ok (.dup, 1)) (k : Go X Y d (pc + 1) ls (XR a :: XR a :: st) M Post) : Go X Y d pc ls (XR a :: st) M Post :=
  go_stp (fun hx hb _ _ _ _ o q => lv_dup hx hb hd rfl q) (fun _ h => ok_c (ok_h h) h) k
theorem g_dup2RI {a : Nat} {i : Int} (hd : decode Y.2.1 pc = .ok (.dup2, 1)) (k : Go X Y d (pc + 1) ls (XI i :: XR a :: XI i :: XR a :: st) M Post) : Go X Y d pc ls (XI i :: XR a :: st) M Post :=
  go_stp (fun hx hb _ _ _ _ o q => lv_dup2_11 hx hb hd rfl rfl q) (fun _ h => ok_c (ok_h h) (ok_c (ok_h (ok_t h)) h)) k
end
end
section
section
variable {X : XC} {Y : XY} {d pc : Nat} {ls ls' : List (Nat × XV)} {st : List XV} {M : Mem} {Post : Option XV → Mem → Prop}
theorem go_br {X : XC} {Y : XY} {d pc p1 p2 : Nat} {ls : List (Nat × XV)} {st st' : List XV} {M : Mem} {Post : Option XV → Mem → Prop} {P : Prop}
    (h : ∀ {p : Program} {e : Env} {R : Room} {s : State} {m : MethodId} {args : Array Value} {below : List Frame} {meth : Method} {c : Code} {cells slots : Nat} {Q : State → Prop} {H : Heap} {locs : List Loc} {lsA : Array Slot}, p.tables.exec = Jvm.exec → c.code = Y.2.1 → (∀ v ∈ st, xok v) →
      (P → W p X.1 e R s m args below meth c H locs cells slots Q (F0 m p1 lsA (xst X st'))) → (¬ P → W p X.1 e R s m args below meth c H locs cells slots Q (F0 m p2 lsA (xst X st'))) → W p X.1 e R s m args below meth c H locs cells slots Q (F0 m pc lsA (xst X st)))
    (hok : (∀ v ∈ st, xok v) → ∀ v ∈ st', xok v) (k1 : P → Go X Y d p1 ls st' M Post) (k2 : ¬ P → Go X Y d p2 ls st' M Post) : Go X Y d pc ls st M Post := by
  intro o1 o2 o3 p e R s m args below meth c cells slots Q H locs lsA C F hl K
  exact h C.1 C.2.1 o2 (fun z => k1 z o1 (hok o2) o3 p e R s m args below meth c cells slots Q H locs lsA C F hl K) (fun z => k2 z o1 (hok o2) o3 p e R s m args below meth c cells slots Q H locs lsA C F hl K)
theorem g_goto {off : Int} {tgt : Nat} (hd : decode Y.2.1 pc = .ok (.goto off, 3)) (ht : (pc : Int) + off = (tgt : Int)) (k : Go X Y d tgt ls st M Post) : Go X Y d pc ls st M Post :=
  go_stp (fun hx hb _ _ _ _ _ q => lv_goto hx hb hd ht q) (fun _ h => h) k
theorem g_icmp_eq {a b off : Int} {tgt : Nat} (hd : decode Y.2.1 pc = .ok (.if_icmp .eq off, 3)) (ht : (pc : Int) + off = (tgt : Int)) (k1 : a = b → Go X Y d tgt ls st M Post) (k2 : ¬ a = b → Go X Y d (pc + 3) ls st M Post) : Go X Y d pc ls (XI b :: XI a :: st) M Post :=
  go_br (fun hx hb o q1 q2 => lv_icmp_eq hx hb hd ht (fun z => q1 ((i32_inj (ok_hI (ok_t o)) (ok_hI o)).mp z)) (fun z => q2 (fun y => z ((i32_inj (ok_hI (ok_t o)) (ok_hI o)).mpr y)))) (fun h => ok_t (ok_t h)) k1 k2
theorem g_if_eq {a off : Int} {tgt : Nat} (hd : decode Y.2.1 pc = .ok (.ifCond .eq off, 3)) (ht : (pc : Int) + off = (tgt : Int)) (k1 : a = 0 → Go X Y d tgt ls st M Post) (k2 : ¬ a = 0 → Go X Y d (pc + 3) ls st M Post) : Go X Y d pc ls (XI a :: st) M Post :=
  go_br (fun hx hb o q1 q2 => lv_if_eq hx hb hd ht (fun z => q1 ((i32_inj (ok_hI o) i32_0).mp z)) (fun z => q2 (fun y => z ((i32_inj (ok_hI o) i32_0).mpr y)))) (fun h => ok_t h) k1 k2
theorem g_icmp_lt {a b off : Int} {tgt : Nat} (hd : decode Y.2.1 pc = .ok (.if_icmp .lt off, 3)) (ht : (pc : Int) + off = (tgt : Int)) (k1 : a < b → Go X Y d tgt ls st M Post) (k2 : ¬ a < b → Go X Y d (pc + 3) ls st M Post) : Go X Y d pc ls (XI b :: XI a :: st) M Post :=
  go_br (fun hx hb o q1 q2 => lv_icmp_lt hx hb hd ht (fun z => q1 ((i32_lt (ok_hI (ok_t o)) (ok_hI o)).mp z)) (fun z => q2 (fun y => z ((i32_lt (ok_hI (ok_t o)) (ok_hI o)).mpr y)))) (fun h => ok_t (ok_t h)) k1 k2
theorem g_if_lt {a off : Int} {tgt : Nat} (hd : decode Y.2.1 pc = .ok (.ifCond .lt off, 3)) (ht : (pc : Int) + off = (tgt : Int)) (k1 : a < 0 → Go X Y d tgt ls st M Post) (k2 : ¬ a < 0 → Go X Y d (pc + 3) ls st M Post) : Go X Y d pc ls (XI a :: st) M Post :=
  go_br (fun hx hb o q1 q2 => lv_if_lt hx hb hd ht (fun z => q1 ((i32_lt (ok_hI o) i32_0).mp z)) (fun z => q2 (fun y => z ((i32_lt (ok_hI o) i32_0).mpr y)))) (fun h => ok_t h) k1 k2
theorem g_icmp_ge {a b off : Int} {tgt : Nat} (hd : decode Y.2.1 pc = .ok (.if_icmp .ge off, 3)) (ht : (pc : Int) + off = (tgt : Int)) (k1 : b ≤ a → Go X Y d tgt ls st M Post) (k2 : ¬ b ≤ a → Go X Y d (pc + 3) ls st M Post) : Go X Y d pc ls (XI b :: XI a :: st) M Post :=
  go_br (fun hx hb o q1 q2 => lv_icmp_ge hx hb hd ht (fun z => q1 ((i32_le (ok_hI o) (ok_hI (ok_t o))).mp z)) (fun z => q2 (fun y => z ((i32_le (ok_hI o) (ok_hI (ok_t o))).mpr y)))) (fun h => ok_t (ok_t h)) k1 k2
theorem g_if_ge {a off : Int} {tgt : Nat} (hd : decode Y.2.1 pc = .ok (.ifCond .ge off, 3)) (ht : (pc : Int) + off = (tgt : Int)) (k1 : 0 ≤ a → Go X Y d tgt ls st M Post) (k2 : ¬ 0 ≤ a → Go X Y d (pc + 3) ls st M Post) : Go X Y d pc ls (XI a :: st) M Post :=
  go_br (fun hx hb o q1 q2 => lv_if_ge hx hb hd ht (fun z => q1 ((i32_le i32_0 (ok_hI o)).mp z)) (fun z => q2 (fun y => z ((i32_le i32_0 (ok_hI o)).mpr y)))) (fun h => ok_t h) k1 k2
theorem g_icmp_gt {a b off : Int} {tgt : Nat} (hd : decode Y.2.1 pc = .ok (.if_icmp .gt off, 3)) (ht : (pc : Int) + off = (tgt : Int)) (k1 : b < a → Go X Y d tgt ls st M Post) (k2 : ¬ b < a → Go X Y d (pc + 3) ls st M Post) : Go X Y d pc ls (XI b :: XI a :: st) M Post :=
  go_br (fun hx hb o q1 q2 => lv_icmp_gt hx hb hd ht (fun z => q1 ((i32_lt (ok_hI o) (ok_hI (ok_t o))).mp z)) (fun z => q2 (fun y => z ((i32_lt (ok_hI o) (ok_hI (ok_t o))).mpr y)))) (fun h => ok_t (ok_t h)) k1 k2
theorem g_if_gt {a off : Int} {tgt : Nat} (hd : decode Y.2.1 pc = .ok (.ifCond .gt off, 3)) (ht : (pc : Int) + off = (tgt : Int)) (k1 : 0 < a → Go X Y d tgt ls st M Post) (k2 : ¬ 0 < a → Go X Y d (pc + 3) ls st M Post) : Go X Y d pc ls (XI a :: st) M Post :=
  go_br (fun hx hb o q1 q2 => lv_if_gt hx hb hd ht (fun z => q1 ((i32_lt i32_0 (ok_hI o)).mp z)) (fun z => q2 (fun y => z ((i32_lt i32_0 (ok_hI o)).mpr y)))) (fun h => ok_t h) k1 k2
theorem g_icmp_le {a b off : Int} {tgt : Nat} (hd : decode Y.2.1 pc = .ok (.if_icmp .le off, 3)) (ht : (pc : Int) + off = (tgt : Int)) (k1 : a ≤ b → Go X Y d tgt ls st M Post) (k2 : ¬ a ≤ b → Go X Y d (pc + 3) ls st M Post) : Go X Y d pc ls (XI b :: XI a :: st) M Post :=
  go_br (fun hx hb o q1 q2 => lv_icmp_le hx hb hd ht (fun z => q1 ((i32_le (ok_hI (ok_t o)) (ok_hI o)).mp z)) (fun z => q2 (fun y => z ((i32_le (ok_hI (ok_t o)) (ok_hI o)).mpr y)))) (fun h => ok_t (ok_t h)) k1 k2
theorem g_if_le {a off : Int} {tgt : Nat} (hd : decode Y.2.1 pc = .ok (.ifCond .le off, 3)) (ht : (pc : Int) + off = (tgt : Int)) (k1 : a ≤ 0 → Go X Y d tgt ls st M Post) (k2 : ¬ a ≤ 0 → Go X Y d (pc + 3) ls st M Post) : Go X Y d pc ls (XI a :: st) M Post :=
  go_br (fun hx hb o q1 q2 => lv_if_le hx hb hd ht (fun z => q1 ((i32_le (ok_hI o) i32_0).mp z)) (fun z => q2 (fun y => z ((i32_le (ok_hI o) i32_0).mpr y)))) (fun h => ok_t h) k1 k2
theorem g_icmp_ne {a b off : Int} {tgt : Nat} (hd : decode Y.2.1 pc = .ok (.if_icmp .ne off, 3)) (ht : (pc : Int) + off = (tgt : Int)) (k1 : ¬ a = b → Go X Y d tgt ls st M Post) (k2 : a = b → Go X Y d (pc + 3) ls st M Post) : Go X Y d pc ls (XI b :: XI a :: st) M Post :=
  go_br (P := ¬ a = b) (fun hx hb o q1 q2 => lv_icmp_ne hx hb hd ht (fun z => q1 (fun y => z ((i32_inj (ok_hI (ok_t o)) (ok_hI o)).mpr y))) (fun z => q2 (fun y => y ((i32_inj (ok_hI (ok_t o)) (ok_hI o)).mp z)))) (fun h => ok_t (ok_t h)) k1 (fun z => k2 (Classical.not_not.mp z))
theorem g_if_ne {a off : Int} {tgt : Nat} (hd : decode Y.2.1 pc = .ok (.ifCond .ne off, 3)) (ht : (pc : Int) + off = (tgt : Int)) (k1 : ¬ a = 0 → Go X Y d tgt ls st M Post) (k2 : a = 0 → Go X Y d (pc + 3) ls st M Post) : Go X Y d pc ls (XI a :: st) M Post :=
  go_br (P := ¬ a = 0) (fun hx hb o q1 q2 => lv_if_ne hx hb hd ht (fun z => q1 (fun y => z ((i32_inj (ok_hI o) i32_0).mpr y))) (fun z => q2 (fun y => y ((i32_inj (ok_hI o) i32_0).mp z)))) (fun h => ok_t h) k1 (fun z => k2 (Classical.not_not.mp z))
theorem lg_cases {a b : Int} (ha : i64 a) (hb : i64 b) : (a < b ∧ lg_cmp (Int64.ofInt a) (Int64.ofInt b) = -1) ∨ (a = b ∧ lg_cmp (Int64.ofInt a) (Int64.ofInt b) = 0) ∨ (b < a ∧ lg_cmp (Int64.ofInt a) (Int64.ofInt b) = 1) := by
  rcases Int.lt_trichotomy a b with h | h | h
  · refine Or.inl ⟨h, ?_⟩
    unfold lg_cmp
    rw [if_neg (fun z => by have := (i64_lt hb ha).mp z; omega), if_neg (fun z => by have := (i64_inj ha hb).mp z; omega)]
  · refine Or.inr (Or.inl ⟨h, ?_⟩)
    unfold lg_cmp
    rw [if_neg (fun z => by have := (i64_lt hb ha).mp z; omega), if_pos ((i64_inj ha hb).mpr h)]
  · refine Or.inr (Or.inr ⟨h, ?_⟩)
    unfold lg_cmp
    rw [if_pos ((i64_lt hb ha).mpr h)]
theorem g_lcmp_eq {a b off : Int} {tgt : Nat} (hd : decode Y.2.1 pc = .ok (.lcmp, 1)) (hd2 : decode Y.2.1 (pc + 1) = .ok (.ifCond .eq off, 3)) (ht : ((pc + 1 : Nat) : Int) + off = (tgt : Int)) (k1 : a = b → Go X Y d tgt ls st M Post) (k2 : ¬ a = b → Go X Y d (pc + 4) ls st M Post) : Go X Y d pc ls (XL b :: XL a :: st) M Post := by
  refine go_br (P := a = b) (p1 := tgt) (p2 := pc + 4) (st' := st) (fun hx hb o q1 q2 => W.lcmp hx hb hd ?_) (fun h => ok_t (ok_t h)) (fun z => k1 z) (fun z => k2 (by omega))
  have ha := ok_hL (ok_t o)
  have hc := ok_hL o
  rcases lg_cases ha hc with ⟨h, e⟩ | ⟨h, e⟩ | ⟨h, e⟩ <;> rw [e] <;> refine lv_if_eq hx hb hd2 ht (fun z => ?_) (fun z => ?_) <;> first | (exact q1 (by omega)) | (exact q2 (by omega)) | (exact absurd z (by decide))
theorem g_lcmp_ne {a b off : Int} {tgt : Nat} (hd : decode Y.2.1 pc = .ok (.lcmp, 1)) (hd2 : decode Y.2.1 (pc + 1) = .ok (.ifCond .ne off, 3)) (ht : ((pc + 1 : Nat) : Int) + off = (tgt : Int)) (k1 : ¬ a = b → Go X Y d tgt ls st M Post) (k2 : a = b → Go X Y d (pc + 4) ls st M Post) : Go X Y d pc ls (XL b :: XL a :: st) M Post := by
  refine go_br (P := ¬ a = b) (p1 := tgt) (p2 := pc + 4) (st' := st) (fun hx hb o q1 q2 => W.lcmp hx hb hd ?_) (fun h => ok_t (ok_t h)) (fun z => k1 z) (fun z => k2 (by omega))
  have ha := ok_hL (ok_t o)
  have hc := ok_hL o
  rcases lg_cases ha hc with ⟨h, e⟩ | ⟨h, e⟩ | ⟨h, e⟩ <;> rw [e] <;> refine lv_if_ne hx hb hd2 ht (fun z => ?_) (fun z => ?_) <;> first | (exact q1 (by omega)) | (exact q2 (by omega)) | (exact absurd z (by decide))
theorem g_lcmp_lt {a b off : Int} {tgt : Nat} (hd : decode Y.2.1 pc = .ok (.lcmp, 1)) (hd2 : decode Y.2.1 (pc + 1) = .ok (.ifCond .lt off, 3)) (ht : ((pc + 1 : Nat) : Int) + off = (tgt : Int)) (k1 : a < b → Go X Y d tgt ls st M Post) (k2 : ¬ a < b → Go X Y d (pc + 4) ls st M Post) : Go X Y d pc ls (XL b :: XL a :: st) M Post := by
  refine go_br (P := a < b) (p1 := tgt) (p2 := pc + 4) (st' := st) (fun hx hb o q1 q2 => W.lcmp hx hb hd ?_) (fun h => ok_t (ok_t h)) (fun z => k1 z) (fun z => k2 (by omega))
  have ha := ok_hL (ok_t o)
  have hc := ok_hL o
  rcases lg_cases ha hc with ⟨h, e⟩ | ⟨h, e⟩ | ⟨h, e⟩ <;> rw [e] <;> refine lv_if_lt hx hb hd2 ht (fun z => ?_) (fun z => ?_) <;> first | (exact q1 (by omega)) | (exact q2 (by omega)) | (exact absurd z (by decide))
theorem g_lcmp_ge {a b off : Int} {tgt : Nat} (hd : decode Y.2.1 pc = .ok (.lcmp, 1)) (hd2 : decode Y.2.1 (pc + 1) = .ok (.ifCond .ge off, 3)) (ht : ((pc + 1 : Nat) : Int) + off = (tgt : Int)) (k1 : b ≤ a → Go X Y d tgt ls st M Post) (k2 : ¬ b ≤ a → Go X Y d (pc + 4) ls st M Post) : Go X Y d pc ls (XL b :: XL a :: st) M Post := by
  refine go_br (P := b ≤ a) (p1 := tgt) (p2 := pc + 4) (st' := st) (fun hx hb o q1 q2 => W.lcmp hx hb hd ?_) (fun h => ok_t (ok_t h)) (fun z => k1 z) (fun z => k2 (by omega))
  have ha := ok_hL (ok_t o)
  have hc := ok_hL o
  rcases lg_cases ha hc with ⟨h, e⟩ | ⟨h, e⟩ | ⟨h, e⟩ <;> rw [e] <;> refine lv_if_ge hx hb hd2 ht (fun z => ?_) (fun z => ?_) <;> first | (exact q1 (by omega)) | (exact q2 (by omega)) | (exact absurd z (by decide))
theorem g_lcmp_gt {a b off : Int} {tgt : Nat} (hd : decode Y.2.1 pc = .ok (.lcmp, 1)) (hd2 : decode Y.2.1 (pc + 1) = .ok (.ifCond .gt off, 3)) (ht : ((pc + 1 : Nat) : Int) + off = (tgt : Int)) (k1 : b < a → Go X Y d tgt ls st M Post) (k2 : ¬ b < a → Go X Y d (pc + 4) ls st M Post) : Go X Y d pc ls (XL b :: XL a :: st) M Post := by
  refine go_br (P := b < a) (p1 := tgt) (p2 := pc + 4) (st' := st) (fun hx hb o q1 q2 => W.lcmp hx hb hd ?_) (fun h => ok_t (ok_t h)) (fun z => k1 z) (fun z => k2 (by omega))
  have ha := ok_hL (ok_t o)
  have hc := ok_hL o
  rcases lg_cases ha hc with ⟨h, e⟩ | ⟨h, e⟩ | ⟨h, e⟩ <;> rw [e] <;> refine lv_if_gt hx hb hd2 ht (fun z => ?_) (fun z => ?_) <;> first | (exact q1 (by omega)) | (exact q2 (by omega)) | (exact absurd z (by decide))
theorem g_lcmp_le {a b off : Int} {tgt : Nat} (hd : decode Y.2.1 pc = .ok (.lcmp, 1)) (hd2 : decode Y.2.1 (pc + 1) = .ok (.ifCond .le off, 3)) (ht : ((pc + 1 : Nat) : Int) + off = (tgt : Int)) (k1 : a ≤ b → Go X Y d tgt ls st M Post) (k2 : ¬ a ≤ b → Go X Y d (pc + 4) ls st M Post) : Go X Y d pc ls (XL b :: XL a :: st) M Post := by
  refine go_br (P := a ≤ b) (p1 := tgt) (p2 := pc + 4) (st' := st) (fun hx hb o q1 q2 => W.lcmp hx hb hd ?_) (fun h => ok_t (ok_t h)) (fun z => k1 z) (fun z => k2 (by omega))
  have ha := ok_hL (ok_t o)
  have hc := ok_hL o
  rcases lg_cases ha hc with ⟨h, e⟩ | ⟨h, e⟩ | ⟨h, e⟩ <;> rw [e] <;> refine lv_if_le hx hb hd2 ht (fun z => ?_) (fun z => ?_) <;> first | (exact q1 (by omega)) | (exact q2 (by omega)) | (exact absurd z (by decide))
theorem g_ifnullR {a : Nat} {off : Int} (hd : decode Y.2.1 pc = .ok (.ifnull off, 3)) (k : Go X Y d (pc + 3) ls st M Post) : Go X Y d pc ls (XR a :: st) M Post :=
  go_stp (fun hx hb _ _ _ _ _ q => lv_ifnull hx hb hd q) (fun _ h => ok_t h) k
theorem g_ifnullN {off : Int} {tgt : Nat} (hd : decode Y.2.1 pc = .ok (.ifnull off, 3)) (ht : (pc : Int) + off = (tgt : Int)) (k : Go X Y d tgt ls st M Post) : Go X Y d pc ls (XN :: st) M Post :=
  go_stp (fun hx hb _ _ _ _ _ q => lv_ifnullN hx hb hd ht q) (fun _ h => ok_t h) k
theorem g_ifnonnullR {a : Nat} {off : Int} {tgt : Nat} (hd : decode Y.2.1 pc = .ok (.ifnonnull off, 3)) (ht : (pc : Int) + off = (tgt : Int)) (k : Go X Y d tgt ls st M Post) : Go X Y d pc ls (XR a :: st) M Post :=
  go_stp (fun hx hb _ _ _ _ _ q => lv_ifnonnull hx hb hd ht q) (fun _ h => ok_t h) k
theorem g_ifnonnullN {off : Int} (hd : decode Y.2.1 pc = .ok (.ifnonnull off, 3)) (k : Go X Y d (pc + 3) ls st M Post) : Go X Y d pc ls (XN :: st) M Post :=
  go_stp (fun hx hb _ _ _ _ _ q => lv_ifnonnullN hx hb hd q) (fun _ h => ok_t h) k
theorem g_tswIn {a dflt lo hi off : Int} {offs : Array Int} {len tgt : Nat} (hd : decode Y.2.1 pc = .ok (.tableswitch dflt lo hi offs, len)) (h1 : lo ≤ a) (h2 : a ≤ hi) (ho : offs[(a - lo).toNat]? = some off) (ht : (pc : Int) + off = (tgt : Int)) (k : Go X Y d tgt ls st M Post) : Go X Y d pc ls (XI a :: st) M Post :=
  go_stp (fun hx hb _ _ _ _ o q => lv_tableIn hx hb hd (x := Int32.ofInt a) (by rw [i32_eq (ok_hI o)]; omega) (by rw [i32_eq (ok_hI o)]; omega) (by rw [i32_eq (ok_hI o)]; exact ho) ht q) (fun _ h => ok_t h) k
theorem g_tswOut {a dflt lo hi : Int} {offs : Array Int} {len tgt : Nat} (hd : decode Y.2.1 pc = .ok (.tableswitch dflt lo hi offs, len)) (h : a < lo ∨ hi < a) (ht : (pc : Int) + dflt = (tgt : Int)) (k : Go X Y d tgt ls st M Post) : Go X Y d pc ls (XI a :: st) M Post :=
  go_stp (fun hx hb _ _ _ _ o q => lv_tableOut hx hb hd (x := Int32.ofInt a) (by rw [i32_eq (ok_hI o)]; exact h) ht q) (fun _ h => ok_t h) k
theorem g_lsw {a dflt off : Int} {ps : Array (Int × Int)} {len tgt : Nat} (hd : decode Y.2.1 pc = .ok (.lookupswitch dflt ps, len)) (hp : (ps.toList.zip (ps.toList.drop 1)).all (fun (a, next) => a.1 < next.1) = true) (ho : Op.lookupswitch.offset ps.toList dflt a = off) (ht : (pc : Int) + off = (tgt : Int)) (k : Go X Y d tgt ls st M Post) : Go X Y d pc ls (XI a :: st) M Post :=
  go_stp (fun hx hb _ _ _ _ o q => lv_lookup hx hb hd (x := Int32.ofInt a) hp (by rw [i32_eq (ok_hI o)]; exact ho) ht q) (fun _ h => ok_t h) k
-- returns
theorem go_ret {r : Option XV} (h : XRet Y pc r) (hp : Post r M) : Go X Y d pc ls r.toList M Post := by
  intro o1 o2 o3 p e R s m args below meth c cells slots Q H locs lsA C F hl K
  exact K r M H locs pc lsA hp h (fun v hv => o2 v (by cases hv; exact List.mem_singleton.mpr rfl)) o3 F
theorem g_ireturn {v : Int} (hd : decode Y.2.1 pc = .ok (.ireturn, 1)) (hr : Y.2.2.2 = some .int) (hp : Post (some (XI v)) M) : Go X Y d pc ls [XI v] M Post := go_ret (r := some (XI v)) ⟨hd, Or.inl hr⟩ hp
theorem g_zreturn {v : Int} (hd : decode Y.2.1 pc = .ok (.ireturn, 1)) (hr : Y.2.2.2 = some .boolean) (hv : v = 0 ∨ v = 1) (hp : Post (some (XI v)) M) : Go X Y d pc ls [XI v] M Post := go_ret (r := some (XI v)) ⟨hd, Or.inr ⟨hr, hv⟩⟩ hp
theorem g_lreturn {v : Int} (hd : decode Y.2.1 pc = .ok (.lreturn, 1)) (hr : Y.2.2.2 = some .long) (hp : Post (some (XL v)) M) : Go X Y d pc ls [XL v] M Post := go_ret (r := some (XL v)) ⟨hd, hr⟩ hp
theorem g_areturn {a : Nat} {n : String} (hd : decode Y.2.1 pc = .ok (.areturn, 1)) (hr : Y.2.2.2 = some (.object n)) (hp : Post (some (XR a)) M) : Go X Y d pc ls [XR a] M Post := go_ret (r := some (XR a)) ⟨hd, n, hr⟩ hp
theorem g_areturnN {n : String} (hd : decode Y.2.1 pc = .ok (.areturn, 1)) (hr : Y.2.2.2 = some (.object n)) (hp : Post (some XN) M) : Go X Y d pc ls [XN] M Post := go_ret (r := some XN) ⟨hd, n, hr⟩ hp
theorem g_return (hd : decode Y.2.1 pc = .ok (.return_, 1)) (hr : Y.2.2.2 = none) (hp : Post none M) : Go X Y d pc ls [] M Post := go_ret (r := none) ⟨hd, hr⟩ hp
theorem Go.mono {P2 : Option XV → Mem → Prop} (k : Go X Y d pc ls st M Post) (h : ∀ r M', Post r M' → P2 r M') : Go X Y d pc ls st M P2 := by
  intro o1 o2 o3 p e R s m args below meth c cells slots Q H locs lsA C F hl K
  exact k o1 o2 o3 p e R s m args below meth c cells slots Q H locs lsA C F hl (fun r M' H' locs' pc' lsA' hp => K r M' H' locs' pc' lsA' (h r M' hp))
/-- what is known of the values, and of the memory -/
theorem Go.ok (h : (∀ q ∈ ls, xok q.2) → (∀ v ∈ st, xok v) → MR M → Go X Y d pc ls st M Post) : Go X Y d pc ls st M Post := fun o1 o2 o3 => h o1 o2 o3 o1 o2 o3
-- fields
def FL (own : String) (idx ci k : Nat) : Prop := ∃ (C : String) (T : u_T) (N : Nat) (ty0 : Nat → FieldType), vwCl[ci]? = some (C, T, N) ∧ k < N ∧ (∀ w ∈ u_ws C T N, w ∈ xtbl) ∧ (∀ k, k < N → parseFieldDescriptor (T k).2.2.1 = some (ty0 k)) ∧ (∀ a, a < N → ∀ b, b < N → a ≠ b → (T a).2.1 ≠ (T b).2.1) ∧
  (Cond.fieldLink own idx C (T k).2.1 (T k).2.2.1 ∈ xtbl ∨ ∃ host, Cond.fieldLinkNest own idx C (T k).2.1 (T k).2.2.1 host ∈ xtbl) ∧ (T k).1 = C ∧
  (((FK ci k).1 = 0 ∧ (T k).2.2.1 = "I" ∧ (T k).2.2.2 = false) ∨ ((FK ci k).1 = 1 ∧ (T k).2.2.1 = "J" ∧ (T k).2.2.2 = false) ∨ ((FK ci k).1 = 2 ∧ (T k).2.2.1 = "Z" ∧ (T k).2.2.2 = false) ∨ (FK ci k).1 = 3)
theorem fs_at (X : XC) (M : Mem) (o ci : Nat) {k N : Nat} (h : k < N) : ((List.range N).map (xfv X.ad M o ci))[k]? = some (xfv X.ad M o ci k) := by
  rw [List.getElem?_map, List.getElem?_range h]; rfl
theorem go_get {ci k N idx o : Nat} {v : XV} (hd : decode Y.2.1 pc = .ok (.getfield idx, 3)) (hf : FL Y.1.cls idx ci k) (ho : Sh o = (10 + ci, N)) (hk : k < N) (hv : xfv X.ad M o ci k = xc X.ad v) (hok : MR M → xok v) (kk : Go X Y d (pc + 3) ls (v :: st) M Post) : Go X Y d pc ls (XR o :: st) M Post := by
  intro o1 o2 o3 p e R s m args below meth c cells slots Q H locs lsA C F hl K
  obtain ⟨Cn, T, N', ty0, hc, hkN, hin, hty, hnm, hlk, hdc, -⟩ := hf
  have hmem : o ∈ xcells := Sh_mem ho (by omega)
  obtain ⟨q, hq⟩ := xat hmem
  have hat := ws_at X M hq
  rw [xcontO X M ho] at hat
  have k2 := kk o1 (ok_c (hok o3) (ok_t o2)) o3 p e R s m args below meth c cells slots Q H locs lsA C F hl K
  obtain ⟨hx, hb, hml, hown, hts, hK, hI, hSt, hfr, hlo, hce, hsl⟩ := C
  have hfs : ((List.range N).map (xfv X.ad M o ci))[k]? = some (xc X.ad v) := (fs_at X M o ci hk).trans (congrArg some hv)
  rcases hlk with hlk | ⟨host, hlk⟩
  · exact va_get hx hb hts hin hown hK F.1 q hat hc k hkN (hts _ hlk) (fun x h => by rw [hdc] at h; exact h) hfs hd k2
  · exact va_getN hx hb hts hin hown hK F.1 q hat hc k hkN (hts _ hlk) (fun x h => by rw [hdc] at h; exact h) hfs hd k2
theorem xkO {o ci N k : Nat} (ho : Sh o = (10 + ci, N)) : xkind o k = (FK ci k).1 := by
  have e : 10 + ci - 10 = ci := by omega
  have h1 : 10 + ci ≠ 1 := by omega
  have h2 : 10 + ci ≠ 2 := by omega
  have h3 : 10 + ci ≠ 3 := by omega
  have h4 : 10 + ci ≠ 4 := by omega
  have h5 : 10 + ci ≠ 5 := by omega
  have h6 : 10 + ci ≠ 6 := by omega
  unfold xkind
  rw [ho]
  dsimp only
  split <;> first | contradiction | (rw [if_pos (by omega), e])
theorem g_getI {ci k N idx o : Nat} (hd : decode Y.2.1 pc = .ok (.getfield idx, 3)) (hf : FL Y.1.cls idx ci k) (hk : k < N) (hF : FK ci k = (0, 0)) (ho : Sh o = (10 + ci, N)) (kk : Go X Y d (pc + 3) ls (XI (M o k) :: st) M Post) : Go X Y d pc ls (XR o :: st) M Post :=
  go_get hd hf ho hk (by rw [xfv, hF]; rfl) (fun h => by have := h o k; rw [xkO ho, hF] at this; exact this) kk
theorem g_getZ {ci k N idx o : Nat} (hd : decode Y.2.1 pc = .ok (.getfield idx, 3)) (hf : FL Y.1.cls idx ci k) (hk : k < N) (hF : FK ci k = (2, 0)) (ho : Sh o = (10 + ci, N)) (kk : Go X Y d (pc + 3) ls (XI (M o k) :: st) M Post) : Go X Y d pc ls (XR o :: st) M Post :=
  go_get hd hf ho hk (by rw [xfv, hF]; rfl) (fun h => by have := h o k; rw [xkO ho, hF] at this; rcases this with e | e <;> (show i32 _; rw [e]; constructor <;> decide)) kk
theorem g_getJ {ci k N idx o : Nat} (hd : decode Y.2.1 pc = .ok (.getfield idx, 3)) (hf : FL Y.1.cls idx ci k) (hk : k < N) (hF : FK ci k = (1, 0)) (ho : Sh o = (10 + ci, N)) (kk : Go X Y d (pc + 3) ls (XL (M o k) :: st) M Post) : Go X Y d pc ls (XR o :: st) M Post :=
  go_get hd hf ho hk (by rw [xfv, hF]; rfl) (fun h => by have := h o k; rw [xkO ho, hF] at this; exact this) kk
theorem g_getR {ci k N idx o δ : Nat} (hd : decode Y.2.1 pc = .ok (.getfield idx, 3)) (hf : FL Y.1.cls idx ci k) (hk : k < N) (hF : FK ci k = (3, δ)) (ho : Sh o = (10 + ci, N)) (kk : Go X Y d (pc + 3) ls (XR (o + δ) :: st) M Post) : Go X Y d pc ls (XR o :: st) M Post :=
  go_get (v := XR (o + δ)) hd hf ho hk (by rw [xfv, hF]; rfl) (fun _ => True.intro) kk
theorem wr_ne {a j b : Nat} {v : Int} (h : b ≠ a) : wr M a j v b = M b := by
  funext k; unfold wr; rw [if_neg (fun z => h z.1)]
theorem wr_at {a j k : Nat} {v : Int} : wr M a j v a k = if k = j then v else M a k := by
  unfold wr
  by_cases h : k = j
  · rw [if_pos ⟨rfl, h⟩, if_pos h]
  · rw [if_neg (fun z => h z.2), if_neg h]
theorem MR_wr {a j : Nat} {v : Int} (h : MR M) (hv : xrg (xkind a j) v) : MR (wr M a j v) := by
  intro b k
  unfold wr
  by_cases e : b = a ∧ k = j
  · rw [if_pos e, e.1, e.2]; exact hv
  · rw [if_neg e]; exact h b k
theorem fs_set (X : XC) {o ci k N : Nat} {v : Int} {w : Value} (hk : k < N) (hw : xfv X.ad (wr M o k v) o ci k = w) : ((List.range N).map (xfv X.ad M o ci)).set k w = (List.range N).map (xfv X.ad (wr M o k v) o ci) := by
  apply List.ext_getElem?
  intro j
  by_cases hj : j = k
  · subst hj
    rw [List.getElem?_set_self (by rw [List.length_map, List.length_range]; exact hk), fs_at X _ o ci hk, hw]
  · rw [List.getElem?_set_ne (Ne.symm hj)]
    by_cases hjN : j < N
    · rw [fs_at X _ o ci hjN, fs_at X _ o ci hjN]
      simp only [xfv, wr_at, if_neg hj]
    · rw [List.getElem?_eq_none (by rw [List.length_map, List.length_range]; omega), List.getElem?_eq_none (by rw [List.length_map, List.length_range]; omega)]
end
end
section
section
variable {X : XC} {Y : XY} {d pc : Nat} {ls ls' : List (Nat × XV)} {st : List XV} {M : Mem} {Post : Option XV → Mem → Prop}
theorem go_put {ci k N idx o : Nat} {v : Int} {w : Value} {ty : FieldType} (hd : decode Y.2.1 pc = .ok (.putfield idx, 3)) (hf : FL Y.1.cls idx ci k) (ho : Sh o = (10 + ci, N)) (hk : k < N) (x : XV) (hxw : xc X.ad x = w) (hw : xfv X.ad (wr M o k v) o ci k = w) (hty : ∀ (C : String) (T : u_T) (N : Nat), vwCl[ci]? = some (C, T, N) → (((FK ci k).1 = 0 ∧ (T k).2.2.1 = "I" ∧ (T k).2.2.2 = false) ∨ ((FK ci k).1 = 1 ∧ (T k).2.2.1 = "J" ∧ (T k).2.2.2 = false) ∨ ((FK ci k).1 = 2 ∧ (T k).2.2.1 = "Z" ∧ (T k).2.2.2 = false) ∨ (FK ci k).1 = 3) → (T k).2.2.2 = false ∧ parseFieldDescriptor (T k).2.2.1 = some ty) (hn : narrow ty w = w) (hfit : fits ty w = true) (hrg : xok x → xrg (xkind o k) v)
    (kk : Go X Y d (pc + 3) ls st (wr M o k v) Post) : Go X Y d pc ls (x :: XR o :: st) M Post := by
  intro o1 o2 o3 p e R s m args below meth c cells slots Q H locs lsA C F hl K
  obtain ⟨Cn, T, N', ty0, hc, hkN, hin, hty0, hnm, hlk, hdc, hkd⟩ := hf
  have hmem : o ∈ xcells := Sh_mem ho (by omega)
  obtain ⟨q, hq⟩ := xat hmem
  have hat := ws_at X M hq
  rw [xcontO X M ho] at hat
  have k2 := fun (H1 : Heap) (locs1 : List Loc) (F1 : XF X (wr M o k v) s H1 locs1) => kk o1 (ok_t (ok_t o2)) (MR_wr o3 (hrg (ok_h o2))) p e R s m args below meth c cells slots Q H1 locs1 lsA C F1 hl K
  have hset : (wsM X M).set q (X.ad o, .inr (ci, ((List.range N).map (xfv X.ad M o ci)).set k w)) = wsM X (wr M o k v) := by
    rw [fs_set X hk hw, ← xcontO X (wr M o k v) ho]
    exact ws_set X hq (fun j hj => wr_ne hj)
  obtain ⟨hx, hb, hml, hown, hts, hK, hI, hSt, hfr, hlo, hce, hsl⟩ := C
  obtain ⟨h1, h2⟩ := hty Cn T N' hc hkd
  have hlen : k < ((List.range N).map (xfv X.ad M o ci)).length := by rw [List.length_map, List.length_range]; exact hk
  show W p X.1 e R s m args below meth c H locs cells slots Q (F0 m pc lsA (xc X.ad x :: .ref (X.ad o) :: xst X st))
  rw [hxw]
  rcases hlk with hlk | ⟨host, hlk⟩
  · exact va_put hx hb hts hin ty0 hty0 hnm hown hK F.1 (wsD X M hI) F.2 q hat hc k hkN (hts _ hlk) (fun x h => by rw [hdc] at h; exact h) h1 h2 hn hfit hlen hd (fun H1 locs1 a1 _ a3 => k2 H1 locs1 ⟨hset ▸ a1, a3⟩)
  · exact va_putN hx hb hts hin ty0 hty0 hnm hown hK F.1 (wsD X M hI) F.2 q hat hc k hkN (hts _ hlk) (fun x h => by rw [hdc] at h; exact h) h1 h2 hn hfit hlen hd (fun H1 locs1 a1 _ a3 => k2 H1 locs1 ⟨hset ▸ a1, a3⟩)
theorem g_putI {ci k N idx o : Nat} {v : Int} (hd : decode Y.2.1 pc = .ok (.putfield idx, 3)) (hf : FL Y.1.cls idx ci k) (hk : k < N) (hF : FK ci k = (0, 0)) (ho : Sh o = (10 + ci, N)) (kk : Go X Y d (pc + 3) ls st (wr M o k v) Post) : Go X Y d pc ls (XI v :: XR o :: st) M Post :=
  go_put (ty := .int) hd hf ho hk (XI v) rfl (by rw [xfv, hF, wr_at, if_pos rfl]; rfl) (fun C T N _ h => by
    rw [hF] at h
    rcases h with ⟨_, h1, h2⟩ | ⟨h, _⟩ | ⟨h, _⟩ | h
    · exact ⟨h2, by rw [h1]; decide +kernel⟩
    · exact absurd h (by decide)
    · exact absurd h (by decide)
    · exact absurd h (by decide)) rfl rfl (fun h => by rw [xkO ho, hF]; exact h) kk
theorem g_putJ {ci k N idx o : Nat} {v : Int} (hd : decode Y.2.1 pc = .ok (.putfield idx, 3)) (hf : FL Y.1.cls idx ci k) (hk : k < N) (hF : FK ci k = (1, 0)) (ho : Sh o = (10 + ci, N)) (kk : Go X Y d (pc + 3) ls st (wr M o k v) Post) : Go X Y d pc ls (XL v :: XR o :: st) M Post :=
  go_put (ty := .long) hd hf ho hk (XL v) rfl (by rw [xfv, hF, wr_at, if_pos rfl]; rfl) (fun C T N _ h => by
    rw [hF] at h
    rcases h with ⟨h, _⟩ | ⟨_, h1, h2⟩ | ⟨h, _⟩ | h
    · exact absurd h (by decide)
    · exact ⟨h2, by rw [h1]; decide +kernel⟩
    · exact absurd h (by decide)
    · exact absurd h (by decide)) rfl rfl (fun h => by rw [xkO ho, hF]; exact h) kk
theorem z01 {v : Int} (h : v = 0 ∨ v = 1) : narrow .boolean (.int (Int32.ofInt v)) = .int (Int32.ofInt v) ∧ fits .boolean (.int (Int32.ofInt v)) = true := by
  rcases h with rfl | rfl <;> exact ⟨rfl, rfl⟩
theorem g_putZ {ci k N idx o : Nat} {v : Int} (hd : decode Y.2.1 pc = .ok (.putfield idx, 3)) (hf : FL Y.1.cls idx ci k) (hk : k < N) (hF : FK ci k = (2, 0)) (ho : Sh o = (10 + ci, N)) (hv : v = 0 ∨ v = 1) (kk : Go X Y d (pc + 3) ls st (wr M o k v) Post) : Go X Y d pc ls (XI v :: XR o :: st) M Post :=
  go_put (ty := .boolean) hd hf ho hk (XI v) rfl (by rw [xfv, hF, wr_at, if_pos rfl]; rfl) (fun C T N _ h => by
    rw [hF] at h
    rcases h with ⟨h, _⟩ | ⟨h, _⟩ | ⟨_, h1, h2⟩ | h
    · exact absurd h (by decide)
    · exact absurd h (by decide)
    · exact ⟨h2, by rw [h1]; decide +kernel⟩
    · exact absurd h (by decide)) (z01 hv).1 (z01 hv).2 (fun h => by rw [xkO ho, hF]; exact hv) kk
-- arrays: reading
theorem xk1 {i n j : Nat} (h : Sh i = (1, n)) : xkind i j = 0 := by unfold xkind; rw [h]; rfl
theorem xk2 {i n j : Nat} (h : Sh i = (2, n)) : xkind i j = 1 := by unfold xkind; rw [h]; rfl
theorem xk3 {i n j : Nat} (h : Sh i = (3, n)) : xkind i j = 2 := by unfold xkind; rw [h]; rfl
theorem MR_i {i n j : Nat} (o : MR M) (h : Sh i = (1, n)) : i32 (M i j) := by have := o i j; rw [xk1 h] at this; exact this
theorem MR_l {i n j : Nat} (o : MR M) (h : Sh i = (2, n)) : i64 (M i j) := by have := o i j; rw [xk2 h] at this; exact this
theorem MR_z {i n j : Nat} (o : MR M) (h : Sh i = (3, n)) : M i j = 0 ∨ M i j = 1 := by have := o i j; rw [xk3 h] at this; exact this
theorem g_iald {a n : Nat} {i : Int} (hd : decode Y.2.1 pc = .ok (.iaload, 1)) (ha : Sh a = (1, n)) (h0 : 0 ≤ i) (h1 : i < n) (kk : Go X Y d (pc + 1) ls (XI (M a i.toNat) :: st) M Post) : Go X Y d pc ls (XI i :: XR a :: st) M Post := by
  intro o1 o2 o3 p e R s m args below meth c cells slots Q H locs lsA C F hl K
  obtain ⟨q, hq⟩ := xat (Sh_mem ha (by decide))
  have hat := ws_at X M hq
  rw [xcont1 X M ha] at hat
  have k2 := kk o1 (ok_cI (MR_i o3 ha) (ok_t (ok_t o2))) o3 p e R s m args below meth c cells slots Q H locs lsA C F hl K
  rw [← i32_nat (ok_hI o2) h0] at k2
  exact va_iald C.1 C.2.1 C.2.2.2.2.2.1 F.1 q 0 hat rfl (i32_vin (ok_hI o2) h0 h1) hd k2
theorem g_zald {a n : Nat} {i : Int} (hd : decode Y.2.1 pc = .ok (.baload, 1)) (ha : Sh a = (3, n)) (h0 : 0 ≤ i) (h1 : i < n) (kk : Go X Y d (pc + 1) ls (XI (M a i.toNat) :: st) M Post) : Go X Y d pc ls (XI i :: XR a :: st) M Post := by
  intro o1 o2 o3 p e R s m args below meth c cells slots Q H locs lsA C F hl K
  obtain ⟨q, hq⟩ := xat (Sh_mem ha (by decide))
  have hat := ws_at X M hq
  rw [xcont3 X M ha] at hat
  have k2 := kk o1 (ok_cI (by rcases MR_z (j := i.toNat) o3 ha with z | z <;> (rw [z]; constructor <;> decide)) (ok_t (ok_t o2))) o3 p e R s m args below meth c cells slots Q H locs lsA C F hl K
  rw [← i32_nat (ok_hI o2) h0] at k2
  exact va_zald C.1 C.2.1 C.2.2.2.2.2.1 F.1 q 2 hat rfl (i32_vin (ok_hI o2) h0 h1) hd k2
theorem g_lald {a n : Nat} {i : Int} (hd : decode Y.2.1 pc = .ok (.laload, 1)) (ha : Sh a = (2, n)) (h0 : 0 ≤ i) (h1 : i < n) (kk : Go X Y d (pc + 1) ls (XL (M a i.toNat) :: st) M Post) : Go X Y d pc ls (XI i :: XR a :: st) M Post := by
  intro o1 o2 o3 p e R s m args below meth c cells slots Q H locs lsA C F hl K
  obtain ⟨q, hq⟩ := xat (Sh_mem ha (by decide))
  have hat := ws_at X M hq
  rw [xcont2 X M ha] at hat
  have k2 := kk o1 (ok_cL (MR_l o3 ha) (ok_t (ok_t o2))) o3 p e R s m args below meth c cells slots Q H locs lsA C F hl K
  rw [← i32_nat (ok_hI o2) h0] at k2
  exact va_lald C.1 C.2.1 C.2.2.2.2.2.1 F.1 q 1 hat rfl (i32_vin (ok_hI o2) h0 h1) hd k2
theorem xrf_at {X : XC} {a n j : Nat} (h : j < n) : va_rf (xrf X.ad a n j) = xc X.ad (XR (a + 36 + 16 * j)) := by unfold xrf; rw [if_pos h]; rfl
theorem g_aald {a n kd : Nat} {i : Int} (hd : decode Y.2.1 pc = .ok (.aaload, 1)) (ha : Sh a = (kd, n)) (hkd : kd = 4 ∨ kd = 5 ∨ kd = 6) (h0 : 0 ≤ i) (h1 : i < n) (kk : Go X Y d (pc + 1) ls (XR (a + 36 + 16 * i.toNat) :: st) M Post) : Go X Y d pc ls (XI i :: XR a :: st) M Post := by
  intro o1 o2 o3 p e R s m args below meth c cells slots Q H locs lsA C F hl K
  obtain ⟨q, hq⟩ := xat (Sh_mem ha (by omega))
  have hat := ws_at X M hq
  have k2 := kk o1 (ok_cR (ok_t (ok_t o2))) o3 p e R s m args below meth c cells slots Q H locs lsA C F hl K
  have k3 : W p X.1 e R s m args below meth c H locs cells slots Q (F0 m (pc + 1) lsA (va_rf (xrf X.ad a n (Int32.ofInt i).toNatClampNeg) :: xst X st)) := by
    rw [i32_nat (ok_hI o2) h0, xrf_at (by omega)]; exact k2
  have hlt : (Int32.ofInt i).toNatClampNeg < n := by rw [i32_nat (ok_hI o2) h0]; omega
  rcases hkd with rfl | rfl | rfl
  · rw [xcont4 X M ha] at hat
    exact va_aldq C.1 C.2.1 C.2.2.2.2.2.1 F.1 q 3 hat rfl (i32_vin (ok_hI o2) h0 h1) hd k3
  · rw [xcont5 X M ha] at hat
    exact va_aldq C.1 C.2.1 C.2.2.2.2.2.1 F.1 q 4 hat rfl (i32_vin (ok_hI o2) h0 h1) hd k3
  · rw [xcont6 X M ha] at hat
    exact W.aald (v := va_rf (xrf X.ad a n (Int32.ofInt i).toNatClampNeg)) (ty := .array .long) C.1 C.2.1 (F.1 q _ hat) ((C.2.2.2.2.2.1.2 5 _ rfl).1 n (fun j => va_rf (xrf X.ad a n j))) rfl (fun z => by cases z) (by show ¬ (_ ∨ (arrV _ _ _).slots.size ≤ _); rw [arrV_size]; exact i32_vin (ok_hI o2) h0 h1) (by show (arrV _ _ _).slots[_]? = _; rw [arrV_read _ _ hlt]) rfl rfl hd k3
theorem g_alen {a n kd : Nat} (hd : decode Y.2.1 pc = .ok (.arraylength, 1)) (ha : Sh a = (kd, n)) (hkd : 1 ≤ kd ∧ kd ≤ 6) (hn : n < 1000) (kk : Go X Y d (pc + 1) ls (XI n :: st) M Post) : Go X Y d pc ls (XR a :: st) M Post := by
  intro o1 o2 o3 p e R s m args below meth c cells slots Q H locs lsA C F hl K
  obtain ⟨q, hq⟩ := xat (Sh_mem ha (by omega))
  have hat := ws_at X M hq
  have k2 := kk o1 (ok_cI (by constructor <;> omega) (ok_t o2)) o3 p e R s m args below meth c cells slots Q H locs lsA C F hl K
  have hv : Int32.ofNat n = Int32.ofInt (n : Int) := Int32.ofInt_eq_ofNat.symm
  rcases (show kd = 1 ∨ kd = 2 ∨ kd = 3 ∨ kd = 4 ∨ kd = 5 ∨ kd = 6 by omega) with rfl | rfl | rfl | rfl | rfl | rfl
  · rw [xcont1 X M ha] at hat; exact va_alen C.1 C.2.1 C.2.2.2.2.2.1 F.1 q 0 hat rfl hv hd k2
  · rw [xcont2 X M ha] at hat; exact va_alen C.1 C.2.1 C.2.2.2.2.2.1 F.1 q 1 hat rfl hv hd k2
  · rw [xcont3 X M ha] at hat; exact va_alen C.1 C.2.1 C.2.2.2.2.2.1 F.1 q 2 hat rfl hv hd k2
  · rw [xcont4 X M ha] at hat; exact va_alen C.1 C.2.1 C.2.2.2.2.2.1 F.1 q 3 hat rfl hv hd k2
  · rw [xcont5 X M ha] at hat; exact va_alen C.1 C.2.1 C.2.2.2.2.2.1 F.1 q 4 hat rfl hv hd k2
  · rw [xcont6 X M ha] at hat; exact va_alen C.1 C.2.1 C.2.2.2.2.2.1 F.1 q 5 hat rfl hv hd k2
-- the static PLACES (7), the script (5)
theorem g_gets {idx : Nat} (hd : decode Y.2.1 pc = .ok (.getstatic idx, 3)) (hw : Cond.fieldLinkNest Y.1.cls idx "KeepCount" "PLACES" "[I" "KeepCount" ∈ xtbl) (kk : Go X Y d (pc + 3) ls (XR 7 :: st) M Post) : Go X Y d pc ls st M Post := by
  intro o1 o2 o3 p e R s m args below meth c cells slots Q H locs lsA C F hl K
  have k2 := kk o1 (ok_cR o2) o3 p e R s m args below meth c cells slots Q H locs lsA C F hl K
  obtain ⟨hx, hb, hml, hown, hts, hK, hI, hSt, -⟩ := C
  exact va_getsN hx hb hSt.1 F.2 hown (hts _ hw) (fun x h => h) hd k2
theorem g_alenC (hd : decode Y.2.1 pc = .ok (.arraylength, 1)) (kk : Go X Y d (pc + 1) ls (XI 8 :: st) M Post) : Go X Y d pc ls (XR 7 :: st) M Post := by
  intro o1 o2 o3 p e R s m args below meth c cells slots Q H locs lsA C F hl K
  have k2 := kk o1 (ok_cI (by constructor <;> decide) (ok_t o2)) o3 p e R s m args below meth c cells slots Q H locs lsA C F hl K
  obtain ⟨hx, hb, hml, hown, hts, hK, hI, hSt, -⟩ := C
  exact va_tlen hx hb hSt.2.1 F.2 (v := Int32.ofInt 8) rfl hd k2
theorem xpl_ok (j : Nat) : i32 (xpl j) := by
  by_cases h : j < 8
  · rcases (show j = 0 ∨ j = 1 ∨ j = 2 ∨ j = 3 ∨ j = 4 ∨ j = 5 ∨ j = 6 ∨ j = 7 by omega) with rfl | rfl | rfl | rfl | rfl | rfl | rfl | rfl <;> (constructor <;> decide)
  · have : xpl j = 0 := by unfold xpl; rw [List.getD_eq_getElem?_getD, List.getElem?_eq_none (by show 8 ≤ j; omega)]; rfl
    rw [this]; exact i32_0
theorem g_ialdC {i : Int} (hd : decode Y.2.1 pc = .ok (.iaload, 1)) (h0 : 0 ≤ i) (h1 : i < 8) (kk : Go X Y d (pc + 1) ls (XI (xpl i.toNat) :: st) M Post) : Go X Y d pc ls (XI i :: XR 7 :: st) M Post := by
  intro o1 o2 o3 p e R s m args below meth c cells slots Q H locs lsA C F hl K
  have k2 := kk o1 (ok_cI (xpl_ok _) (ok_t (ok_t o2))) o3 p e R s m args below meth c cells slots Q H locs lsA C F hl K
  obtain ⟨hx, hb, hml, hown, hts, hK, hI, hSt, -⟩ := C
  rw [← i32_nat (ok_hI o2) h0] at k2
  exact va_ti hx hb hSt.2.1 F.2 (i32_vin (n := 8) (ok_hI o2) h0 h1) rfl hd k2
theorem g_alenS (hL : X.2.2.2.2.1 < 2147483648) (hd : decode Y.2.1 pc = .ok (.arraylength, 1)) (kk : Go X Y d (pc + 1) ls (XI (X.2.2.2.2.1 : Nat) :: st) M Post) : Go X Y d pc ls (XR 5 :: st) M Post := by
  intro o1 o2 o3 p e R s m args below meth c cells slots Q H locs lsA C F hl K
  have k2 := kk o1 (ok_cI (by constructor <;> omega) (ok_t o2)) o3 p e R s m args below meth c cells slots Q H locs lsA C F hl K
  obtain ⟨hx, hb, hml, hown, hts, hK, hI, hSt, -⟩ := C
  refine va_slen hx hb hSt.2.2.1 hSt.2.2.2.1 hSt.2.2.2.2 F.2 hd ?_
  rw [← Int32.ofInt_eq_ofNat]; exact k2
theorem g_ialdS {i : Int} (hd : decode Y.2.1 pc = .ok (.iaload, 1)) (h0 : 0 ≤ i) (h1 : i < X.2.2.2.2.1) (kk : Go X Y d (pc + 1) ls (XI (X.2.2.2.2.2 i.toNat).toInt :: st) M Post) : Go X Y d pc ls (XI i :: XR 5 :: st) M Post := by
  intro o1 o2 o3 p e R s m args below meth c cells slots Q H locs lsA C F hl K
  have k2 := kk o1 (ok_cI (i32_to _) (ok_t (ok_t o2))) o3 p e R s m args below meth c cells slots Q H locs lsA C F hl K
  obtain ⟨hx, hb, hml, hown, hts, hK, hI, hSt, -⟩ := C
  refine va_sld hx hb hSt.2.2.1 hSt.2.2.2.1 hSt.2.2.2.2 F.2 (i32_vin (ok_hI o2) h0 h1) hd ?_
  rw [i32_nat (ok_hI o2) h0, ← Int32.ofInt_toInt (X.2.2.2.2.2 i.toNat)]; exact k2
end
end
section
section
variable {X : XC} {Y : XY} {d pc : Nat} {ls ls' : List (Nat × XV)} {st : List XV} {M : Mem} {Post : Option XV → Mem → Prop}
theorem g_iast {a n : Nat} {i v : Int} (hd : decode Y.2.1 pc = .ok (.iastore, 1)) (ha : Sh a = (1, n)) (h0 : 0 ≤ i) (h1 : i < n) (kk : Go X Y d (pc + 1) ls st (wr M a i.toNat v) Post) : Go X Y d pc ls (XI v :: XI i :: XR a :: st) M Post := by
  intro o1 o2 o3 p e R s m args below meth c cells slots Q H locs lsA C F hl K
  obtain ⟨q, hq⟩ := xat (Sh_mem ha (by decide))
  have hat := ws_at X M hq
  rw [xcont1 X M ha] at hat
  refine va_iast C.1 C.2.1 C.2.2.2.2.2.1 F.1 (wsD X M C.2.2.2.2.2.2.1) F.2 q 0 hat rfl (i32_vin (ok_hI (ok_t o2)) h0 h1) hd (fun H1 locs1 a1 _ a3 => ?_)
  refine kk o1 (ok_t (ok_t (ok_t o2))) (MR_wr o3 (by rw [xk1 ha]; exact ok_hI o2)) p e R s m args below meth c cells slots Q H1 locs1 lsA C ⟨?_, a3⟩ hl K
  rw [← ws_set X hq (fun j hj => wr_ne hj), xcont1 X (wr M a i.toNat v) ha]
  rw [i32_nat (ok_hI (ok_t o2)) h0] at a1
  have e : upd (fun j => Int32.ofInt (M a j)) i.toNat (Int32.ofInt v) = fun j => Int32.ofInt (wr M a i.toNat v a j) := by
    funext j; rw [wr_at]; unfold upd; by_cases h : j = i.toNat
    · rw [if_pos h, if_pos h]
    · rw [if_neg h, if_neg h]
  rw [e] at a1
  exact a1
theorem z01n {v : Int} (h : v = 0 ∨ v = 1) : vp_nar .boolean (Int32.ofInt v) = Int32.ofInt v := by rcases h with rfl | rfl <;> rfl
theorem g_zast {a n : Nat} {i v : Int} (hd : decode Y.2.1 pc = .ok (.bastore, 1)) (ha : Sh a = (3, n)) (h0 : 0 ≤ i) (h1 : i < n) (hv : v = 0 ∨ v = 1) (kk : Go X Y d (pc + 1) ls st (wr M a i.toNat v) Post) : Go X Y d pc ls (XI v :: XI i :: XR a :: st) M Post := by
  intro o1 o2 o3 p e R s m args below meth c cells slots Q H locs lsA C F hl K
  obtain ⟨q, hq⟩ := xat (Sh_mem ha (by decide))
  have hat := ws_at X M hq
  rw [xcont3 X M ha] at hat
  refine va_zast C.1 C.2.1 C.2.2.2.2.2.1 F.1 (wsD X M C.2.2.2.2.2.2.1) F.2 q 2 hat rfl (i32_vin (ok_hI (ok_t o2)) h0 h1) hd (fun H1 locs1 a1 _ a3 => ?_)
  refine kk o1 (ok_t (ok_t (ok_t o2))) (MR_wr o3 (by rw [xk3 ha]; exact hv)) p e R s m args below meth c cells slots Q H1 locs1 lsA C ⟨?_, a3⟩ hl K
  rw [← ws_set X hq (fun j hj => wr_ne hj), xcont3 X (wr M a i.toNat v) ha]
  rw [i32_nat (ok_hI (ok_t o2)) h0, z01n hv] at a1
  have e : upd (fun j => Int32.ofInt (M a j)) i.toNat (Int32.ofInt v) = fun j => Int32.ofInt (wr M a i.toNat v a j) := by
    funext j; rw [wr_at]; unfold upd; by_cases h : j = i.toNat
    · rw [if_pos h, if_pos h]
    · rw [if_neg h, if_neg h]
  rw [e] at a1
  exact a1
theorem g_last {a n : Nat} {i v : Int} (hd : decode Y.2.1 pc = .ok (.lastore, 1)) (ha : Sh a = (2, n)) (h0 : 0 ≤ i) (h1 : i < n) (kk : Go X Y d (pc + 1) ls st (wr M a i.toNat v) Post) : Go X Y d pc ls (XL v :: XI i :: XR a :: st) M Post := by
  intro o1 o2 o3 p e R s m args below meth c cells slots Q H locs lsA C F hl K
  obtain ⟨q, hq⟩ := xat (Sh_mem ha (by decide))
  have hat := ws_at X M hq
  rw [xcont2 X M ha] at hat
  refine va_last C.1 C.2.1 C.2.2.2.2.2.1 F.1 (wsD X M C.2.2.2.2.2.2.1) F.2 q 1 hat rfl (i32_vin (ok_hI (ok_t o2)) h0 h1) hd (fun H1 locs1 a1 _ a3 => ?_)
  refine kk o1 (ok_t (ok_t (ok_t o2))) (MR_wr o3 (by rw [xk2 ha]; exact ok_hL o2)) p e R s m args below meth c cells slots Q H1 locs1 lsA C ⟨?_, a3⟩ hl K
  rw [← ws_set X hq (fun j hj => wr_ne hj), xcont2 X (wr M a i.toNat v) ha]
  rw [i32_nat (ok_hI (ok_t o2)) h0] at a1
  have e : vp_updL (fun j => Int64.ofInt (M a j)) i.toNat (Int64.ofInt v) = fun j => Int64.ofInt (wr M a i.toNat v a j) := by
    funext j; rw [wr_at]; unfold vp_updL; by_cases h : j = i.toNat
    · rw [if_pos h, if_pos h]
    · rw [if_neg h, if_neg h]
  rw [e] at a1
  exact a1
-- arraycopy
theorem w_nat : Cond.native arraycopyName ∈ xtbl := at_x 839 (by decide +kernel) rfl
theorem w_stt : Cond.static arraycopyName ∈ xtbl := at_x 838 (by decide +kernel) rfl
theorem w_inS : Cond.initialized "java/lang/System" ∈ xtbl := at_x 81 (by decide +kernel) rfl
theorem cp_ne {a i b j n x : Nat} (h : x ≠ b) : cpM M a i b j n x = M x := by
  funext k; unfold cpM; rw [if_neg (fun z => h z.1)]
theorem cp_at {a i b j n k : Nat} : cpM M a i b j n b k = if j ≤ k ∧ k < j + n then M a (i + (k - j)) else M b k := by
  unfold cpM
  by_cases h : j ≤ k ∧ k < j + n
  · rw [if_pos ⟨rfl, h⟩, if_pos h]
  · rw [if_neg (fun z => h z.2), if_neg h]
theorem MR_cp {a i b j n : Nat} (h : MR M) (hk : ∀ x y, xkind a x = xkind b y) : MR (cpM M a i b j n) := by
  intro x k
  unfold cpM
  by_cases e : x = b ∧ j ≤ k ∧ k < j + n
  · rw [if_pos e, e.1]; rw [← hk (i + (k - j)) k]; exact h a _
  · rw [if_neg e]; exact h x k
def xcat (st : List XV) : Nat := (st.map (fun v => if xlong v then 2 else 1)).sum
theorem xcat_eq (X : XC) : ∀ st : List XV, ((xst X st).map fun v => v.category).sum = xcat st
  | [] => rfl
  | v :: st => by
    have h := xcat_eq X st
    show (xc X.ad v).category + ((xst X st).map fun v => v.category).sum = (if xlong v then 2 else 1) + xcat st
    rw [h]
    rcases v with v | v | v | v <;> rfl
theorem g_copy {a b kd n0 n1 idx : Nat} {sp dp n : Int} (hd : decode Y.2.1 pc = .ok (.invokestatic idx, 3)) (hw : Cond.methodLink Y.1.cls idx arraycopyName ∈ xtbl) (ha : Sh a = (kd, n0)) (hb0 : Sh b = (kd, n1)) (hkd : kd = 1 ∨ kd = 2 ∨ kd = 3) (h1 : 0 ≤ sp) (h2 : 0 ≤ dp) (h3 : 0 ≤ n) (h4 : sp + n ≤ n0) (h5 : dp + n ≤ n1) (hst : xcat st ≤ 8)
    (kk : Go X Y (d + 1) (pc + 3) ls st (cpM M a sp.toNat b dp.toNat n.toNat) Post) : Go X Y (d + 1) pc ls (XI n :: XI dp :: XR b :: XI sp :: XR a :: st) M Post := by
  intro o1 o2 o3 p e R s m args below meth c cells slots Q H locs lsA C F hl K
  obtain ⟨q0, hq0⟩ := xat (Sh_mem ha (by omega))
  obtain ⟨q1, hq1⟩ := xat (Sh_mem hb0 (by omega))
  have hat0 := ws_at X M hq0
  have hat1 := ws_at X M hq1
  have okn := ok_hI o2
  have okd := ok_hI (ok_t o2)
  have oks := ok_hI (ok_t (ok_t (ok_t o2)))
  obtain ⟨hx, hb, hml, hown, hts, hK, hI, hSt, hfr, hlo, hce, hsl⟩ := id C
  have e1 := i32_nat oks h1
  have e2 := i32_nat okd h2
  have e3 := i32_nat okn h3
  have n1' : ¬ Int32.ofInt sp < 0 := fun z => by have := (i32_lt oks i32_0).mp z; omega
  have n2' : ¬ Int32.ofInt dp < 0 := fun z => by have := (i32_lt okd i32_0).mp z; omega
  have n3' : ¬ Int32.ofInt n < 0 := fun z => by have := (i32_lt okn i32_0).mp z; omega
  have hloc : ((xst X st).map fun v => v.category).sum + (nativeFrameWords "java/lang/System" "arraycopy" 5 + 11) ≤ R.locals := by
    rw [xcat_eq]
    have : nativeFrameWords "java/lang/System" "arraycopy" 5 ≤ 18 := by decide +kernel
    omega
  have fin : ∀ (H1 : Heap) (locs1 : List Loc), va_P X.2.1 vwCl (wsM X (cpM M a sp.toNat b dp.toNat n.toNat)) H1 → va_S (XA X) s.heap H1 locs1 → (∀ x y, xkind a x = xkind b y) → W p X.1 e R s m args below meth c H1 locs1 cells slots Q (F0 m (pc + 3) lsA (xst X st)) := fun H1 locs1 a1 a3 hk =>
    kk o1 (ok_t (ok_t (ok_t (ok_t (ok_t o2))))) (MR_cp o3 hk) p e R s m args below meth c cells slots Q H1 locs1 lsA C ⟨a1, a3⟩ hl K
  rcases hkd with rfl | rfl | rfl
  · rw [xcont1 X M ha] at hat0
    rw [xcont1 X M hb0] at hat1
    refine va_copyi hx hb (hml.trans hl.1.symm) hown (hts _ hw) (hts _ w_nat) (hts _ w_stt) (hts _ w_inS) hK F.1 (wsD X M hI) F.2 q0 q1 0 0 hat0 hat1 rfl rfl rfl n1' n2' n3' (by rw [e1, e3]; omega) (by rw [e2, e3]; omega) (fun i hi => rfl) (by omega) hloc hd (fun H1 locs1 a1 _ a3 => ?_)
    rw [e1, e2, e3] at a1
    refine fin H1 locs1 ?_ a3 (fun x y => by rw [xk1 ha, xk1 hb0])
    rw [← ws_set X hq1 (fun j hj => cp_ne hj), xcont1 X _ hb0]
    have e : va_cpy (fun j => Int32.ofInt (M a j)) (fun j => Int32.ofInt (M b j)) sp.toNat dp.toNat n.toNat = fun j => Int32.ofInt (cpM M a sp.toNat b dp.toNat n.toNat b j) := by
      funext j; rw [cp_at]; unfold va_cpy; by_cases h : dp.toNat ≤ j ∧ j < dp.toNat + n.toNat
      · rw [if_pos h, if_pos h]
      · rw [if_neg h, if_neg h]
    rw [e] at a1
    exact a1
  · rw [xcont2 X M ha] at hat0
    rw [xcont2 X M hb0] at hat1
    refine va_copyl hx hb (hml.trans hl.1.symm) hown (hts _ hw) (hts _ w_nat) (hts _ w_stt) (hts _ w_inS) hK F.1 (wsD X M hI) F.2 q0 q1 1 1 hat0 hat1 rfl rfl rfl n1' n2' n3' (by rw [e1, e3]; omega) (by rw [e2, e3]; omega) (fun i hi => rfl) (by omega) hloc hd (fun H1 locs1 a1 _ a3 => ?_)
    rw [e1, e2, e3] at a1
    refine fin H1 locs1 ?_ a3 (fun x y => by rw [xk2 ha, xk2 hb0])
    rw [← ws_set X hq1 (fun j hj => cp_ne hj), xcont2 X _ hb0]
    have e : va_cpy (fun j => Int64.ofInt (M a j)) (fun j => Int64.ofInt (M b j)) sp.toNat dp.toNat n.toNat = fun j => Int64.ofInt (cpM M a sp.toNat b dp.toNat n.toNat b j) := by
      funext j; rw [cp_at]; unfold va_cpy; by_cases h : dp.toNat ≤ j ∧ j < dp.toNat + n.toNat
      · rw [if_pos h, if_pos h]
      · rw [if_neg h, if_neg h]
    rw [e] at a1
    exact a1
  · rw [xcont3 X M ha] at hat0
    rw [xcont3 X M hb0] at hat1
    refine va_copyi (ty := .boolean) hx hb (hml.trans hl.1.symm) hown (hts _ hw) (hts _ w_nat) (hts _ w_stt) (hts _ w_inS) hK F.1 (wsD X M hI) F.2 q0 q1 2 2 hat0 hat1 rfl rfl rfl n1' n2' n3' (by rw [e1, e3]; omega) (by rw [e2, e3]; omega) (fun i hi => (z01 (MR_z o3 ha)).2) (by omega) hloc hd (fun H1 locs1 a1 _ a3 => ?_)
    rw [e1, e2, e3] at a1
    refine fin H1 locs1 ?_ a3 (fun x y => by rw [xk3 ha, xk3 hb0])
    rw [← ws_set X hq1 (fun j hj => cp_ne hj), xcont3 X _ hb0]
    have e : va_cpy (fun j => Int32.ofInt (M a j)) (fun j => Int32.ofInt (M b j)) sp.toNat dp.toNat n.toNat = fun j => Int32.ofInt (cpM M a sp.toNat b dp.toNat n.toNat b j) := by
      funext j; rw [cp_at]; unfold va_cpy; by_cases h : dp.toNat ≤ j ∧ j < dp.toNat + n.toNat
      · rw [if_pos h, if_pos h]
      · rw [if_neg h, if_neg h]
    rw [e] at a1
    exact a1
end
end
section
section
variable {X : XC} {Y : XY} {d pc : Nat} {ls ls' : List (Nat × XV)} {st : List XV} {M : Mem} {Post : Option XV → Mem → Prop}
-- Math
theorem w_maxI : Cond.static Lib.Math.max.name ∈ xtbl ∧ Cond.initialized "java/lang/Math" ∈ xtbl ∧ Cond.code Lib.Math.max.name Lib.Math.max.code 2 (some .int) ∈ xtbl := ⟨at_x 427 (by decide +kernel) rfl, at_x 79 (by decide +kernel) rfl, at_x 428 (by decide +kernel) rfl⟩
theorem w_maxL : Cond.static Lib.MathLoose.max_long.x ∈ xtbl ∧ Cond.code Lib.MathLoose.max_long.x Lib.MathLoose.max_long.code 4 (some .long) ∈ xtbl := ⟨at_x 566 (by decide +kernel) rfl, at_x 567 (by decide +kernel) rfl⟩
theorem w_minL : Cond.static Lib.MathLoose.min_long.x ∈ xtbl ∧ Cond.code Lib.MathLoose.min_long.x Lib.MathLoose.min_long.code 4 (some .long) ∈ xtbl := ⟨at_x 559 (by decide +kernel) rfl, at_x 560 (by decide +kernel) rfl⟩
theorem g_maxI {a b : Int} {idx : Nat} (hd : decode Y.2.1 pc = .ok (.invokestatic idx, 3)) (hw : Cond.methodLink Y.1.cls idx Lib.Math.max.name ∈ xtbl) (hst : xcat st ≤ 8) (kk : Go X Y (d + 1) (pc + 3) ls (XI (if a < b then b else a) :: st) M Post) : Go X Y (d + 1) pc ls (XI b :: XI a :: st) M Post := by
  intro o1 o2 o3 p e R s m args below meth c cells slots Q H locs lsA C F hl K
  have oa := ok_hI (ok_t o2)
  have ob := ok_hI o2
  have k2 := kk o1 (ok_cI (by split <;> assumption) (ok_t (ok_t o2))) o3 p e R s m args below meth c cells slots Q H locs lsA C F hl K
  obtain ⟨hx, hb, hml, hown, hts, hK, hI, hSt, hfr, hlo, hce, hsl⟩ := id C
  refine va_mmax hx hb (hml.trans hl.1.symm) hown (hts _ hw) (hts _ w_maxI.1) (hts _ w_maxI.2.1) (hts _ w_maxI.2.2) (by omega) (by rw [show ((List.map (xc X.ad) st).map fun v => v.category).sum = xcat st from xcat_eq X st]; omega) hce hsl hd ?_
  have e : (if Int32.ofInt a < Int32.ofInt b then Int32.ofInt b else Int32.ofInt a) = Int32.ofInt (if a < b then b else a) := by
    by_cases h : a < b
    · rw [if_pos h, if_pos ((i32_lt oa ob).mpr h)]
    · rw [if_neg h, if_neg (fun z => h ((i32_lt oa ob).mp z))]
  rw [e]; exact k2
theorem g_maxL {a b : Int} {idx : Nat} (hd : decode Y.2.1 pc = .ok (.invokestatic idx, 3)) (hw : Cond.methodLink Y.1.cls idx Lib.MathLoose.max_long.x ∈ xtbl) (hst : xcat st ≤ 8) (kk : Go X Y (d + 1) (pc + 3) ls (XL (if b < a then a else b) :: st) M Post) : Go X Y (d + 1) pc ls (XL b :: XL a :: st) M Post := by
  intro o1 o2 o3 p e R s m args below meth c cells slots Q H locs lsA C F hl K
  have oa := ok_hL (ok_t o2)
  have ob := ok_hL o2
  have k2 := kk o1 (ok_cL (by split <;> assumption) (ok_t (ok_t o2))) o3 p e R s m args below meth c cells slots Q H locs lsA C F hl K
  obtain ⟨hx, hb, hml, hown, hts, hK, hI, hSt, hfr, hlo, hce, hsl⟩ := id C
  refine va_mmax_long hx hb (hml.trans hl.1.symm) hown (hts _ hw) (hts _ w_maxL.1) (hts _ w_maxI.2.1) (hts _ w_maxL.2) (by omega) (by rw [show ((List.map (xc X.ad) st).map fun v => v.category).sum = xcat st from xcat_eq X st]; omega) hce hsl hd ?_
  have e : (if Int64.ofInt b < Int64.ofInt a then Int64.ofInt a else Int64.ofInt b) = Int64.ofInt (if b < a then a else b) := by
    by_cases h : b < a
    · rw [if_pos h, if_pos ((i64_lt ob oa).mpr h)]
    · rw [if_neg h, if_neg (fun z => h ((i64_lt ob oa).mp z))]
  rw [e]; exact k2
theorem g_minL {a b : Int} {idx : Nat} (hd : decode Y.2.1 pc = .ok (.invokestatic idx, 3)) (hw : Cond.methodLink Y.1.cls idx Lib.MathLoose.min_long.x ∈ xtbl) (hst : xcat st ≤ 8) (kk : Go X Y (d + 1) (pc + 3) ls (XL (if a < b then a else b) :: st) M Post) : Go X Y (d + 1) pc ls (XL b :: XL a :: st) M Post := by
  intro o1 o2 o3 p e R s m args below meth c cells slots Q H locs lsA C F hl K
  have oa := ok_hL (ok_t o2)
  have ob := ok_hL o2
  have k2 := kk o1 (ok_cL (by split <;> assumption) (ok_t (ok_t o2))) o3 p e R s m args below meth c cells slots Q H locs lsA C F hl K
  obtain ⟨hx, hb, hml, hown, hts, hK, hI, hSt, hfr, hlo, hce, hsl⟩ := id C
  refine va_mmin_long hx hb (hml.trans hl.1.symm) hown (hts _ hw) (hts _ w_minL.1) (hts _ w_maxI.2.1) (hts _ w_minL.2) (by omega) (by rw [show ((List.map (xc X.ad) st).map fun v => v.category).sum = xcat st from xcat_eq X st]; omega) hce hsl hd ?_
  have e : (if Int64.ofInt b < Int64.ofInt a then Int64.ofInt b else Int64.ofInt a) = Int64.ofInt (if a < b then a else b) := by
    by_cases h : a < b
    · rw [if_pos h, if_neg (fun z => by have := (i64_lt ob oa).mp z; omega)]
    · rcases Int.lt_trichotomy a b with h2 | h2 | h2
      · exact absurd h2 h
      · rw [h2, if_neg (Int.lt_irrefl b), if_neg (fun z => by have := (i64_lt ob ob).mp z; omega)]
      · rw [if_neg h, if_pos ((i64_lt ob oa).mpr h2)]
  first | (rw [e]; exact k2) | (
    have e2 : (if Int64.ofInt a < Int64.ofInt b then Int64.ofInt a else Int64.ofInt b) = Int64.ofInt (if a < b then a else b) := by
      by_cases h : a < b
      · rw [if_pos h, if_pos ((i64_lt oa ob).mpr h)]
      · rw [if_neg h, if_neg (fun z => h ((i64_lt oa ob).mp z))]
    rw [e2]; exact k2)
-- the world that never changes
theorem XSt.kept {U : State} {H H1 : Heap} (h : XSt X U H) (hsz : H.size ≤ H1.size) (hq : ∀ a : Nat, a < H.size → ¬ XA X a → H1[a]? = H[a]?) : XSt X U H1 :=
  ⟨h.1.kept hq, h.2.1.kept hq, h.2.2.1.kept (hq _ h.2.2.2.1 h.2.2.2.2), Nat.lt_of_lt_of_le h.2.2.2.1 hsz, h.2.2.2.2⟩
theorem XSt.moved {u U : State} {H : Heap} (hvm : u.vm.Alike U.vm) (h : XSt X u H) : XSt X U H := ⟨h.1.moved hvm, h.2.1.moved hvm, h.2.2.1.moved hvm, h.2.2.2⟩
theorem goodY {Y' : XY} (hc : Cond.code Y'.1 Y'.2.1 Y'.2.2.1 Y'.2.2.2 ∈ xtbl) {ws : List Cond} (hm : ∀ w ∈ ws, w ∈ xtbl ∧ goodWord w = true) : GoodIn xtbl (ws ++ xws Y') := by
  intro w hw
  have h : w ∈ xtbl ∧ goodWord w = true := by
    rcases List.mem_append.mp hw with h | h
    · exact hm w h
    · rcases List.mem_cons.mp h with h | h
      · rw [h]; exact ⟨hc, rfl⟩
      · exact x_of_good h
  exact ⟨h.1, good_of_word h.2⟩
theorem blindW (X : XC) (M : Mem) (av : List Value) : FrameBlind (va_Pc av (Wd X M)) := fun a U g mk q => ⟨q.1, q.2.1, va_K.moved (u := U) (U := U.calling g mk a) (Vm.Alike.refl U.vm) q.2.2.1, q.2.2.2.1, XSt.moved (u := U) (U := U.calling g mk a) (Vm.Alike.refl U.vm) q.2.2.2.2.1, XNw.same (u := U) (U := U.calling g mk a) rfl q.2.2.2.2.2⟩
/-- of a method: the tables' words -/
def MD (Y' : XY) (n : Nat) : Prop := Cond.code Y'.1 Y'.2.1 Y'.2.2.1 Y'.2.2.2 ∈ xtbl ∧ Cond.initialized Y'.1.cls ∈ xtbl ∧ (Y'.1.cls ≠ "java/lang/invoke/MethodHandle" ∧ Y'.1.cls ≠ "java/lang/invoke/VarHandle" ∧ (parseMethodDescriptor Y'.1.desc).map (fun d => d.parameters.length) = some n) ∧ Y'.2.2.1 ≤ 18
def MV (Y' : XY) : Prop := Cond.instanceMethod Y'.1 ∈ xtbl ∧ Cond.selects Y'.1.cls Y'.1 Y'.1 ∈ xtbl
theorem go_after {Y' : XY} {as : List XV} {Pq : Option XV → Mem → Prop} {p : Program} {e : Env} {R : Room} {s : State} {m : MethodId} {args : Array Value} {below : List Frame} {meth : Method} {c : Code} {cells slots : Nat} {Q : State → Prop} {H : Heap} {locs : List Loc} {lsA : Array Slot} {st0 : List Value} {aa : Array Value}
    (hr : va_Run p X.1 e R s m args below meth c H locs cells slots 0 0 (F0 m pc lsA st0) (xst X st) (QP X Pq aa) (XA X)) (k : ∀ r M', Pq r M' → Go X Y d (pc + 3) ls (r.toList ++ st) M' Post)
    (o1 : ∀ q ∈ ls, xok q.2) (o2 : ∀ v ∈ st, xok v) (C : XCtx X Y d p R s m args meth c cells slots) (F : XF X M s H locs) (hl : lv_has lsA Y.2.2.1 (xls X ls))
    (K : ∀ (r : Option XV) (M' : Mem) (H' : Heap) (locs' : List Loc) (pc' : Nat) (lsA' : Array Slot), Post r M' → XRet Y pc' r → (∀ v ∈ r, xok v) → MR M' → XF X M' s H' locs' →
      W p X.1 e R s m args below meth c H' locs' cells slots Q (F0 m pc' lsA' (xst X r.toList))) : W p X.1 e R s m args below meth c H locs cells slots Q (F0 m pc lsA st0) := by
  intro T hT Xs
  obtain ⟨v, st₀, t, T', L, h0, X', hL, e1, e2, ⟨r, M', hp, hro, hMR, hv, hPP, hFF⟩, step⟩ := hr T hT Xs
  cases hv
  have hS : va_S (XA X) s.heap T'.heap (locs ++ L) := by
    obtain ⟨z1, z2⟩ := hFF
    rw [h0] at z1 z2
    refine ⟨Nat.le_trans F.2.1 (by rw [e1]; exact z1), fun q h1 h2 => ?_, fun q hq => ?_⟩
    · rw [e1, z2 q (Nat.lt_of_lt_of_le h1 F.2.1) h2]; exact F.2.2.1 q h1 h2
    · rcases List.mem_append.mp hq with h | h
      · exact F.2.2.2 q h
      · exact hL q h
  have ho : ∀ w ∈ r.toList ++ st, xok w := fun w hw => by
    rcases List.mem_append.mp hw with h | h
    · exact hro w (by cases r with | none => cases h | some x => exact (List.mem_singleton.mp h) ▸ rfl)
    · exact o2 w h
  have k2 := k r M' hp o1 ho hMR p e R s m args below meth c cells slots Q T'.heap (locs ++ L) lsA C ⟨by rw [e1]; exact hPP, hS⟩ hl K
  obtain ⟨t2, a1, b1⟩ := k2 T' rfl X'
  refine ⟨t2, step t2 ?_, b1⟩
  have es : (r.map (xc X.ad)).toList ++ xst X st = xst X (r.toList ++ st) := by
    cases r <;> simp [xst]
  show Steps p.tables e below (T'.setTop (F0 m (pc + 3) lsA ((r.map (xc X.ad)).toList ++ xst X st))) t2
  rw [es]; exact a1
theorem xst_rev (X : XC) (as st : List XV) : xst X (as.reverse ++ st) = (as.map (xc X.ad)).reverse ++ xst X st := by
  unfold xst; rw [List.map_append, List.map_reverse]
theorem g_callV {Y' : XY} {as : List XV} {o ci n N idx : Nat} {Pq : Option XV → Mem → Prop} (hd : decode Y.2.1 pc = .ok (.invokevirtual idx, 3)) (hw : Cond.methodLink Y.1.cls idx Y'.1 ∈ xtbl) (hm : MD Y' n) (hv : MV Y') (hn : as.length = n) (ho : Sh o = (10 + ci, N)) (hci : (vwCl[ci]?).map (·.1) = some Y'.1.cls) (hst : xcat st ≤ 8)
    (hc : Ct X Y' d (XR o :: as) M Pq) {st0 : List XV} (h0 : as.reverse ++ XR o :: st = st0) (k : ∀ r M', Pq r M' → Go X Y (d + 1) (pc + 3) ls (r.toList ++ st) M' Post) : Go X Y (d + 1) pc ls st0 M Post := by
  subst h0
  intro o1 o2 o3 p e R s m args below meth c cells slots Q H locs lsA C F hl K
  have o4 : ∀ v ∈ XR o :: as, xok v := fun v hv => by
    rcases List.mem_cons.mp hv with h | h
    · rw [h]; exact True.intro
    · exact o2 v (List.mem_append_left _ (List.mem_reverse.mpr h))
  have o5 : ∀ v ∈ st, xok v := fun v hv => o2 v (List.mem_append_right _ (List.mem_cons_of_mem _ hv))
  obtain ⟨hx, hb, hml, hown, hts, hK, hI, hSt, hfr, hlo, hce, hsl⟩ := id C
  obtain ⟨q, hq⟩ := xat (Sh_mem ho (by omega))
  have hat := ws_at X M hq
  rw [xcontO X M ho] at hat
  obtain ⟨vc, hvc, hvn⟩ : ∃ vc, vwCl[ci]? = some vc ∧ vc.1 = Y'.1.cls := by
    cases h : vwCl[ci]? with
    | none => rw [h] at hci; cases hci
    | some vc => rw [h] at hci; exact ⟨vc, rfl, Option.some.inj hci⟩
  have hrec := va_recv hK F.1 hvc hat
  rw [hvn] at hrec
  have hG : GoodIn xtbl (wsV Y.1.cls idx Y'.1.cls Y'.1 (xws Y')) := goodY hm.1 (fun w hw' => by
    simp only [List.mem_cons, List.not_mem_nil, or_false] at hw'
    rcases hw' with h | h | h | h
    · rw [h]; exact ⟨hw, rfl⟩
    · rw [h]; exact ⟨hv.1, rfl⟩
    · rw [h]; exact ⟨hv.2, rfl⟩
    · rw [h]; exact ⟨hm.2.1, rfl⟩)
  have run := va_runV (l := X.1) (e := e) (below := below) (meth := meth) (locs := locs) (cells := cells) (slots := slots) (As := as.map (xc X.ad)) (rest := xst X st) (g := F0 m pc lsA (xst X (as.reverse ++ XR o :: st))) ⟨hx, hb, hml, hown, hts⟩ (hc o4 o3) (cwV n hts hG rfl rfl rfl ⟨rfl, hm.2.2.1⟩ ⟨hfr, by have := hm.2.2.2; show 8 + (Y'.2.2.1 + 11) + 37 * d ≤ R.locals; omega⟩)
    ⟨blindW X M _, hrec, fun U hU hW => ⟨rfl, by rw [hU]; exact F.1, va_K.moved hW.alike hK, hI, (XSt.kept hSt (by rw [hU]; exact F.2.1) (fun a h1 h2 => by rw [hU]; exact F.2.2.1 a h1 h2)).moved hW.alike, (XNw.of hts).warm hW⟩⟩
    rfl (by rw [List.length_map]; exact hn) hl.1 (xst_rev X as (XR o :: st)) (lv_room (by rw [xcat_eq]; exact hst)) hd ⟨hce, hsl⟩
  exact go_after (Y' := Y') (as := as) run k o1 o5 C F hl K
theorem g_callS {Y' : XY} {as : List XV} {n idx : Nat} {Pq : Option XV → Mem → Prop} (hd : decode Y.2.1 pc = .ok (.invokestatic idx, 3)) (hw : Cond.methodLink Y.1.cls idx Y'.1 ∈ xtbl) (hm : MD Y' n) (hv : Cond.static Y'.1 ∈ xtbl) (hn : as.length = n) (hst : xcat st ≤ 8)
    (hc : Ct X Y' d as M Pq) {st0 : List XV} (h0 : as.reverse ++ st = st0) (k : ∀ r M', Pq r M' → Go X Y (d + 1) (pc + 3) ls (r.toList ++ st) M' Post) : Go X Y (d + 1) pc ls st0 M Post := by
  subst h0
  intro o1 o2 o3 p e R s m args below meth c cells slots Q H locs lsA C F hl K
  have o4 : ∀ v ∈ as, xok v := fun v hv => o2 v (List.mem_append_left _ (List.mem_reverse.mpr hv))
  have o5 : ∀ v ∈ st, xok v := fun v hv => o2 v (List.mem_append_right _ hv)
  obtain ⟨hx, hb, hml, hown, hts, hK, hI, hSt, hfr, hlo, hce, hsl⟩ := id C
  have hG : GoodIn xtbl (va_wsS Y.1.cls idx Y'.1 (xws Y')) := goodY hm.1 (fun w hw' => by
    simp only [List.mem_cons, List.not_mem_nil, or_false] at hw'
    rcases hw' with h | h | h
    · rw [h]; exact ⟨hw, rfl⟩
    · rw [h]; exact ⟨hv, rfl⟩
    · rw [h]; exact ⟨hm.2.1, rfl⟩)
  have run := va_runS (l := X.1) (e := e) (below := below) (meth := meth) (locs := locs) (cells := cells) (slots := slots) (As := as.map (xc X.ad)) (rest := xst X st) (g := F0 m pc lsA (xst X (as.reverse ++ st))) ⟨hx, hb, hml, hown, hts⟩ (hc o4 o3) (va_cwS n hts hG rfl rfl rfl hm.2.2.1 ⟨hfr, by have := hm.2.2.2; show 8 + (Y'.2.2.1 + 11) + 37 * d ≤ R.locals; omega⟩)
    ⟨blindW X M _, fun U hU hW => ⟨rfl, by rw [hU]; exact F.1, va_K.moved hW.alike hK, hI, (XSt.kept hSt (by rw [hU]; exact F.2.1) (fun a h1 h2 => by rw [hU]; exact F.2.2.1 a h1 h2)).moved hW.alike, (XNw.of hts).warm hW⟩⟩
    rfl (by rw [List.length_map]; exact hn) hl.1 (xst_rev X as st) (lv_room (by rw [xcat_eq]; exact hst)) hd ⟨hce, hsl⟩
  exact go_after (Y' := Y') (as := as) run k o1 o5 C F hl K
/-- a nest mate's private static method -/
theorem g_callN {Y' : XY} {as : List XV} {n idx : Nat} {host : String} {Pq : Option XV → Mem → Prop} (hd : decode Y.2.1 pc = .ok (.invokestatic idx, 3)) (hw : Cond.methodLinkNest Y.1.cls idx Y'.1 host ∈ xtbl) (hm : MD Y' n) (hv : Cond.static Y'.1 ∈ xtbl) (hn : as.length = n) (hst : xcat st ≤ 8)
    (hc : Ct X Y' d as M Pq) {st0 : List XV} (h0 : as.reverse ++ st = st0) (k : ∀ r M', Pq r M' → Go X Y (d + 1) (pc + 3) ls (r.toList ++ st) M' Post) : Go X Y (d + 1) pc ls st0 M Post := by
  subst h0
  intro o1 o2 o3 p e R s m args below meth c cells slots Q H locs lsA C F hl K
  have o4 : ∀ v ∈ as, xok v := fun v hv => o2 v (List.mem_append_left _ (List.mem_reverse.mpr hv))
  have o5 : ∀ v ∈ st, xok v := fun v hv => o2 v (List.mem_append_right _ hv)
  obtain ⟨hx, hb, hml, hown, hts, hK, hI, hSt, hfr, hlo, hce, hsl⟩ := id C
  have hG : GoodIn xtbl (xws Y') := goodY (ws := []) hm.1 (fun w hw' => by cases hw')
  have run := va_runSN (l := X.1) (e := e) (below := below) (meth := meth) (locs := locs) (cells := cells) (slots := slots) (host := host) (As := as.map (xc X.ad)) (rest := xst X st) (g := F0 m pc lsA (xst X (as.reverse ++ st))) ⟨hx, hb, hml, hown, hts⟩ (hc o4 o3) ⟨va_cnB n hts hG rfl rfl rfl (va_Nw.of rfl (hts _ hw)) (hts _ hm.2.1) hm.2.2.1 ⟨hfr, by have := hm.2.2.2; show 8 + (Y'.2.2.1 + 11) + 37 * d ≤ R.locals; omega⟩, hts _ hv, trivial⟩
    ⟨blindW X M _, fun U hU hW => ⟨rfl, by rw [hU]; exact F.1, va_K.moved hW.alike hK, hI, (XSt.kept hSt (by rw [hU]; exact F.2.1) (fun a h1 h2 => by rw [hU]; exact F.2.2.1 a h1 h2)).moved hW.alike, (XNw.of hts).warm hW⟩⟩
    rfl (by rw [List.length_map]; exact hn) hl.1 (xst_rev X as st) (lv_room (by rw [xcat_eq]; exact hst)) hd ⟨hce, hsl⟩
  exact go_after (Y' := Y') (as := as) run k o1 o5 C F hl K
-- contracts
def xargs : Nat → List XV → List (Nat × XV)
  | _, [] => []
  | i, v :: vs => (i, v) :: xargs (if xlong v then i + 2 else i + 1) vs
theorem xargs_eq (X : XC) : ∀ (i : Nat) (as : List XV), lv_args i (as.map (xc X.ad)) = xls X (xargs i as)
  | _, [] => rfl
  | i, v :: vs => by
    show (i, xc X.ad v) :: lv_args (if (xc X.ad v).category = 2 then i + 2 else i + 1) (vs.map (xc X.ad)) = (i, xc X.ad v) :: xls X (xargs (if xlong v then i + 2 else i + 1) vs)
    rw [xargs_eq X _ vs]
    rcases v with v | v | v | v <;> rfl
theorem xsl_len (X : XC) : ∀ as : List XV, (lg_sl (as.map (xc X.ad))).length = xcat as
  | [] => rfl
  | v :: vs => by
    have h := xsl_len X vs
    unfold lg_sl at h ⊢
    rw [List.map_cons, List.flatMap_cons, List.length_append, h]
    rcases v with v | v | v | v <;> rfl
theorem xargs_ok : ∀ (i : Nat) (as : List XV), (∀ v ∈ as, xok v) → ∀ q ∈ xargs i as, xok q.2
  | _, [], _, q, hq => by cases hq
  | i, v :: vs, h, q, hq => by
    rcases List.mem_cons.mp hq with e | e
    · rw [e]; exact ok_h h
    · exact xargs_ok _ vs (ok_t h) q e
theorem ct_go {as : List XV} (hy : plainName Y.1.cls = true) (hn : xcat as ≤ Y.2.2.1) (hl : xargs 0 as = ls) (k : Go X Y d 0 ls [] M Post) : Ct X Y d as M Post := by
  subst hl
  intro oa om
  refine Met.ofW (cc := Y.2.1) (maxL := Y.2.2.1) (ret := Y.2.2.2) hy rfl ?_
  intro p e s m args below meth c s₁ B hml hv
  obtain ⟨rfl, hP, hK, hI, hSt, hNw⟩ := hv
  have hts0 := atoms_spec (ws := xws Y) B.pre
  have hts : ∀ w ∈ xtbl, w.before (as.map (xc X.ad)).toArray s = true := hNw.all (fun w h => hts0 w (List.mem_cons_of_mem _ h))
  have hr := B.returns
  have hlocks := B.notSynchronized
  rw [lg_entry_eq]
  have hl := lv_entry (as.map (xc X.ad)) (n := Y.2.2.1) (by rw [xsl_len]; exact hn)
  rw [xargs_eq] at hl
  refine k (xargs_ok 0 as oa) (fun _ h => by cases h) om p e _ s m _ below meth c 0 0 _ s.heap [] _ ⟨B.exec, B.bytes, hml, findClass_of_methodNamed B.named, hts, hK, hI, hSt, Nat.le_refl _, Nat.le_refl _, Nat.le_refl _, Nat.le_refl _⟩ ⟨hP, va_S.rf⟩ hl ?_
  intro r M' H' locs' pc' lsA' hp hret hro hMR F
  have hq : ∀ t : State, t.heap = H' → s.WarmedH t.vm → QP X Post (as.map (xc X.ad)).toArray s (.returned (r.map (xc X.ad))) t := fun t ht _ => ⟨r, M', hp, hro, hMR, rfl, by rw [ht]; exact F.1, F.2.F ht⟩
  have hf : ∀ q ∈ locs', XA X q.base := F.2.2.2
  rcases r with _ | (v | v | v | v)
  · exact W.vret B.exec B.bytes (hr.trans hret.2) hq hf hret.1
  · rcases hret.2 with h | ⟨h, h01⟩
    · exact W.iret B.exec B.bytes (hr.trans h) hq hf hret.1
    · exact W.zret (ty := .boolean) B.exec B.bytes (hr.trans h) (z01 h01).1 hq hf hret.1
  · exact W.lret B.exec B.bytes (hr.trans hret.2) hq hf hret.1
  · obtain ⟨hd, n, h⟩ := hret
    exact W.aret (rt := .object n) B.exec B.bytes (hr.trans h) (Or.inl ⟨n, rfl⟩) (Or.inl rfl) hq hf hd
  · obtain ⟨hd, n, h⟩ := hret
    exact W.aret (rt := .object n) B.exec B.bytes (hr.trans h) (Or.inl ⟨n, rfl⟩) (Or.inr ⟨_, rfl⟩) hq hf hd
theorem Ct.ok {as : List XV} (h : (∀ v ∈ as, xok v) → MR M → Ct X Y d as M Post) : Ct X Y d as M Post := fun o1 o2 => h o1 o2 o1 o2
theorem Go.okM (h : MR M → Go X Y d pc ls st M Post) : Go X Y d pc ls st M Post := fun o1 o2 o3 => h o3 o1 o2 o3
end
end
section
section
variable {X : XC} {Y : XY} {d pc : Nat} {ls ls' : List (Nat × XV)} {st : List XV} {M : Mem} {Post : Option XV → Mem → Prop}
/-! what the walks use -/
def nm {α : Type} {β : Type} (x : α) (k : α → β) : β := k x
theorem nm_s {α β : Type} {x y : α} {k : α → β} {r : β} (e : y = x) (h : nm x k = r) : k y = r := by subst e; exact h
theorem chk_some {α : Type} {c : Prop} [Decidable c] {k : Option α} {x : α} (h : (if c then k else none) = some x) : c ∧ k = some x := by
  by_cases hc : c
  · rw [if_pos hc] at h; exact ⟨hc, h⟩
  · rw [if_neg hc] at h; cases h
theorem bnd_some {α β : Type} {x : Option α} {k : α → Option β} {r : β} (h : Option.bind x k = some r) : ∃ q, x = some q ∧ k q = some r := by
  cases x with
  | none => cases h
  | some q => exact ⟨q, rfl, h⟩
/-- a reference that may be null -/
abbrev oc {α : Type} (x : Option Nat) (n : Option α) (s : Nat → Option α) : Option α := match x with
  | none => n
  | some a => s a
theorem ifp {α : Type} {c : Prop} [Decidable c] {a b x : α} (hc : c) (h : (if c then a else b) = x) : a = x := by rw [if_pos hc] at h; exact h
theorem ifn {α : Type} {c : Prop} [Decidable c] {a b x : α} (hc : ¬ c) (h : (if c then a else b) = x) : b = x := by rw [if_neg hc] at h; exact h
theorem oc_n {α : Type} {x : Option Nat} {n : Option α} {s : Nat → Option α} {r : Option α} (e : x = none) (h : oc x n s = r) : n = r := by subst e; exact h
theorem oc_s {α : Type} {x : Option Nat} {n : Option α} {s : Nat → Option α} {r : Option α} {a : Nat} (e : x = some a) (h : oc x n s = r) : s a = r := by subst e; exact h
/-- a loop that may return -/
abbrev lr {α β γ : Type} (x : Option (α ⊕ β)) (f : α → γ) (k : β → Option γ) : Option γ := match x with
  | none => none
  | some (.inl a) => some (f a)
  | some (.inr b) => k b
theorem lr_some {α β γ : Type} {x : Option (α ⊕ β)} {f : α → γ} {k : β → Option γ} {r : γ} (h : lr x f k = some r) : ∃ q, x = some q ∧ (∀ a, q = .inl a → f a = r) ∧ (∀ b, q = .inr b → k b = some r) := by
  rcases x with _ | (a | b)
  · cases h
  · exact ⟨.inl a, rfl, (fun a' e => by cases e; exact Option.some.inj h), (fun b e => by cases e)⟩
  · exact ⟨.inr b, rfl, (fun a e => by cases e), (fun b' e => by cases e; exact h)⟩
theorem i32l {v : Int} (h : decide (-2147483648 ≤ v ∧ v ≤ 2147483647) = true) : i32 v := (of_decide_eq_true h : -2147483648 ≤ v ∧ v ≤ 2147483647)
theorem i64l {v : Int} (h : decide (-9223372036854775808 ≤ v ∧ v ≤ 9223372036854775807) = true) : i64 v := (of_decide_eq_true h : -9223372036854775808 ≤ v ∧ v ≤ 9223372036854775807)
theorem tn_lt {i : Int} {n : Nat} (h0 : 0 ≤ i) (h1 : i < (n : Int)) : i.toNat < n := by omega
theorem g_nmM (k : ∀ M1 : Mem, M1 = M → Go X Y d pc ls st M1 Post) : Go X Y d pc ls st M Post := k M rfl
theorem g_nmI {v : Int} (k : ∀ w : Int, w = v → Go X Y d pc ls (XI w :: st) M Post) : Go X Y d pc ls (XI v :: st) M Post := k v rfl
theorem g_nmL {v : Int} (k : ∀ w : Int, w = v → Go X Y d pc ls (XL w :: st) M Post) : Go X Y d pc ls (XL v :: st) M Post := k v rfl
theorem g_bip {n : Int} (hd : decode Y.2.1 pc = .ok (.bipush n, 2)) (h : decide (-128 ≤ n ∧ n ≤ 127) = true) (k : Go X Y d (pc + 2) ls (XI n :: st) M Post) : Go X Y d pc ls st M Post := by
  have h2 := of_decide_eq_true h
  exact g_bipush hd (Int8.toInt32_ofInt (by show (-128 : Int) ≤ n; exact h2.1) (by show n ≤ (127 : Int); exact h2.2)) ⟨by omega, by omega⟩ k
theorem g_sip {n : Int} (hd : decode Y.2.1 pc = .ok (.sipush n, 3)) (h : decide (-32768 ≤ n ∧ n ≤ 32767) = true) (k : Go X Y d (pc + 3) ls (XI n :: st) M Post) : Go X Y d pc ls st M Post := by
  have h2 := of_decide_eq_true h
  exact g_sipush hd (Int16.toInt32_ofInt (by show (-32768 : Int) ≤ n; exact h2.1) (by show n ≤ (32767 : Int); exact h2.2)) ⟨by omega, by omega⟩ k
theorem g_alenV {a n kd : Nat} (v : Int) (hd : decode Y.2.1 pc = .ok (.arraylength, 1)) (ha : Sh a = (kd, n)) (hkd : decide (1 ≤ kd ∧ kd ≤ 6) = true) (hn : decide (n < 1000) = true) (hv : (n : Int) = v) (kk : Go X Y d (pc + 1) ls (XI v :: st) M Post) : Go X Y d pc ls (XR a :: st) M Post := by
  subst hv; exact g_alen hd ha (of_decide_eq_true hkd) (of_decide_eq_true hn) kk
theorem g_pc {pc' : Nat} (h : pc = pc') (k : Go X Y d pc' ls st M Post) : Go X Y d pc ls st M Post := by subst h; exact k
theorem g_sub (ks : List Nat) (h : ks.filterMap (fun k => ls[k]?) = ls') (k : Go X Y d pc ls' st M Post) : Go X Y d pc ls st M Post := by
  subst h
  intro o1 o2 o3 p e R s m args below meth c cells slots Q H locs lsA C F hl K
  refine k (fun q hq => ?_) o2 o3 p e R s m args below meth c cells slots Q H locs lsA C F (lv_sub hl ks ?_) K
  · obtain ⟨i, -, hi⟩ := List.mem_filterMap.mp hq
    exact o1 q (List.mem_of_getElem? hi)
  · unfold lv_pick xls
    rw [List.map_filterMap]
    congr 1
    funext i
    rw [List.getElem?_map]
def pI (q : Int × Mem) : Option XV → Mem → Prop := fun r M' => r = some (XI q.1) ∧ M' = q.2
def pJ (q : Int × Mem) : Option XV → Mem → Prop := fun r M' => r = some (XL q.1) ∧ M' = q.2
def pV (q : Int × Mem) : Option XV → Mem → Prop := fun r M' => r = none ∧ M' = q.2
def xoR : Option Nat → XV
  | none => XN
  | some a => XR a
def pR (q : Option Nat × Mem) : Option XV → Mem → Prop := fun r M' => r = some (xoR q.1) ∧ M' = q.2
section CV
variable {Y' : XY} {as : List XV} {o ci n N idx : Nat} {host : String}
theorem v_I {q : Int × Mem} (hd : decode Y.2.1 pc = .ok (.invokevirtual idx, 3)) (hw : Cond.methodLink Y.1.cls idx Y'.1 ∈ xtbl) (hm : MD Y' n) (hv : MV Y') (hn : as.length = n) (ho : Sh o = (10 + ci, N)) (hci : (vwCl[ci]?).map (·.1) = some Y'.1.cls) (hst : xcat st ≤ 8)
    (hc : Ct X Y' d (XR o :: as) M (pI q)) {st0 : List XV} (h0 : as.reverse ++ XR o :: st = st0) (k : Go X Y (d + 1) (pc + 3) ls (XI q.1 :: st) q.2 Post) : Go X Y (d + 1) pc ls st0 M Post :=
  g_callV hd hw hm hv hn ho hci hst hc h0 (fun r M' h => by obtain ⟨rfl, rfl⟩ := h; exact k)
theorem v_J {q : Int × Mem} (hd : decode Y.2.1 pc = .ok (.invokevirtual idx, 3)) (hw : Cond.methodLink Y.1.cls idx Y'.1 ∈ xtbl) (hm : MD Y' n) (hv : MV Y') (hn : as.length = n) (ho : Sh o = (10 + ci, N)) (hci : (vwCl[ci]?).map (·.1) = some Y'.1.cls) (hst : xcat st ≤ 8)
    (hc : Ct X Y' d (XR o :: as) M (pJ q)) {st0 : List XV} (h0 : as.reverse ++ XR o :: st = st0) (k : Go X Y (d + 1) (pc + 3) ls (XL q.1 :: st) q.2 Post) : Go X Y (d + 1) pc ls st0 M Post :=
  g_callV hd hw hm hv hn ho hci hst hc h0 (fun r M' h => by obtain ⟨rfl, rfl⟩ := h; exact k)
theorem v_V {q : Int × Mem} (hd : decode Y.2.1 pc = .ok (.invokevirtual idx, 3)) (hw : Cond.methodLink Y.1.cls idx Y'.1 ∈ xtbl) (hm : MD Y' n) (hv : MV Y') (hn : as.length = n) (ho : Sh o = (10 + ci, N)) (hci : (vwCl[ci]?).map (·.1) = some Y'.1.cls) (hst : xcat st ≤ 8)
    (hc : Ct X Y' d (XR o :: as) M (pV q)) {st0 : List XV} (h0 : as.reverse ++ XR o :: st = st0) (k : Go X Y (d + 1) (pc + 3) ls st q.2 Post) : Go X Y (d + 1) pc ls st0 M Post :=
  g_callV hd hw hm hv hn ho hci hst hc h0 (fun r M' h => by obtain ⟨rfl, rfl⟩ := h; exact k)
theorem v_R {q : Option Nat × Mem} (hd : decode Y.2.1 pc = .ok (.invokevirtual idx, 3)) (hw : Cond.methodLink Y.1.cls idx Y'.1 ∈ xtbl) (hm : MD Y' n) (hv : MV Y') (hn : as.length = n) (ho : Sh o = (10 + ci, N)) (hci : (vwCl[ci]?).map (·.1) = some Y'.1.cls) (hst : xcat st ≤ 8)
    (hc : Ct X Y' d (XR o :: as) M (pR q)) {st0 : List XV} (h0 : as.reverse ++ XR o :: st = st0) (k1 : q.1 = none → Go X Y (d + 1) (pc + 3) ls (XN :: st) q.2 Post) (k2 : ∀ a, q.1 = some a → Go X Y (d + 1) (pc + 3) ls (XR a :: st) q.2 Post) : Go X Y (d + 1) pc ls st0 M Post :=
  g_callV hd hw hm hv hn ho hci hst hc h0 (fun r M' h => by
    obtain ⟨rfl, rfl⟩ := h
    cases hq : q.1 with
    | none => exact k1 hq
    | some a => exact k2 a hq)
theorem s_I {q : Int × Mem} (hd : decode Y.2.1 pc = .ok (.invokestatic idx, 3)) (hw : Cond.methodLink Y.1.cls idx Y'.1 ∈ xtbl) (hm : MD Y' n) (hv : Cond.static Y'.1 ∈ xtbl) (hn : as.length = n) (hst : xcat st ≤ 8)
    (hc : Ct X Y' d as M (pI q)) {st0 : List XV} (h0 : as.reverse ++ st = st0) (k : Go X Y (d + 1) (pc + 3) ls (XI q.1 :: st) q.2 Post) : Go X Y (d + 1) pc ls st0 M Post :=
  g_callS hd hw hm hv hn hst hc h0 (fun r M' h => by obtain ⟨rfl, rfl⟩ := h; exact k)
theorem s_J {q : Int × Mem} (hd : decode Y.2.1 pc = .ok (.invokestatic idx, 3)) (hw : Cond.methodLink Y.1.cls idx Y'.1 ∈ xtbl) (hm : MD Y' n) (hv : Cond.static Y'.1 ∈ xtbl) (hn : as.length = n) (hst : xcat st ≤ 8)
    (hc : Ct X Y' d as M (pJ q)) {st0 : List XV} (h0 : as.reverse ++ st = st0) (k : Go X Y (d + 1) (pc + 3) ls (XL q.1 :: st) q.2 Post) : Go X Y (d + 1) pc ls st0 M Post :=
  g_callS hd hw hm hv hn hst hc h0 (fun r M' h => by obtain ⟨rfl, rfl⟩ := h; exact k)
theorem s_V {q : Int × Mem} (hd : decode Y.2.1 pc = .ok (.invokestatic idx, 3)) (hw : Cond.methodLink Y.1.cls idx Y'.1 ∈ xtbl) (hm : MD Y' n) (hv : Cond.static Y'.1 ∈ xtbl) (hn : as.length = n) (hst : xcat st ≤ 8)
    (hc : Ct X Y' d as M (pV q)) {st0 : List XV} (h0 : as.reverse ++ st = st0) (k : Go X Y (d + 1) (pc + 3) ls st q.2 Post) : Go X Y (d + 1) pc ls st0 M Post :=
  g_callS hd hw hm hv hn hst hc h0 (fun r M' h => by obtain ⟨rfl, rfl⟩ := h; exact k)
theorem n_J {q : Int × Mem} (hd : decode Y.2.1 pc = .ok (.invokestatic idx, 3)) (hw : Cond.methodLinkNest Y.1.cls idx Y'.1 host ∈ xtbl) (hm : MD Y' n) (hv : Cond.static Y'.1 ∈ xtbl) (hn : as.length = n) (hst : xcat st ≤ 8)
    (hc : Ct X Y' d as M (pJ q)) {st0 : List XV} (h0 : as.reverse ++ st = st0) (k : Go X Y (d + 1) (pc + 3) ls (XL q.1 :: st) q.2 Post) : Go X Y (d + 1) pc ls st0 M Post :=
  g_callN hd hw hm hv hn hst hc h0 (fun r M' h => by obtain ⟨rfl, rfl⟩ := h; exact k)
end CV
end
end
section
section
def fX2_at (x0 : Int) (x1 : Int) (M : Mem) : Option (Int × Mem) := (if x1 < 0 then some ((-1), M) else (if 8 ≤ x1 then some ((-1), M) else if 0 ≤ x1 ∧ x1 < 8 then (if 0 < (xpl (Int.toNat x1)) then if 0 ≤ x1 ∧ x1 < 8 then if 0 ≤ x0 ∧ 0 < (xpl (Int.toNat x1)) then if 0 ≤ (x0 / (xpl (Int.toNat x1))) then if -2147483648 ≤ (((x0 / (xpl (Int.toNat x1))) % 10) - 1) ∧ (((x0 / (xpl (Int.toNat x1))) % 10) - 1) ≤ 2147483647 then some ((((x0 / (xpl (Int.toNat x1))) % 10) - 1), M) else none else none else none else none else some ((-1), M)) else none))
def fX2_filledUp_l4  : Nat → Int → Int → Mem → Option (Int × Int × Mem)
  | 0, _, _, _ => none
  | n + 1, x1, x2, M => (if 8 ≤ x2 then some (x1, x2, M) else Option.bind ((if (xpl (Int.toNat 0)) ≤ x1 then some (x1) else if -2147483648 ≤ (x1 * 10) ∧ (x1 * 10) ≤ 2147483647 then nm ((x1 * 10)) (fun v8 => some (v8)) else none) : Option (Int)) (fun t5 => if -2147483648 ≤ (x2 + 1) ∧ (x2 + 1) ≤ 2147483647 then fX2_filledUp_l4  n t5 (x2 + 1) M else none))
def fX2_filledUp (x0 : Int) (M : Mem) : Option (Int × Mem) := Option.bind (fX2_filledUp_l4  1000 x0 1 M) (fun z10 => some (z10.1, z10.2.2))
def fX2_leftOf_l4 (x0 : Int) (x1 : Nat) : Nat → Int → Int → Mem → Option (Int × Int × Mem)
  | 0, _, _, _ => none
  | n + 1, x2, x3, M => (if 8 ≤ x3 then some (x2, x3, M) else Option.bind (fX2_at x0 x3 M) (fun q2 => nm (q2.1) (fun v3 => Option.bind ((if v3 < 0 then some (x2) else (if 8 ≤ v3 then some (x2) else if 0 ≤ v3 ∧ v3 < 8 then (if (q2.2 x1 (Int.toNat v3)) = 0 then if -2147483648 ≤ (x2 * 10) ∧ (x2 * 10) ≤ 2147483647 then if -2147483648 ≤ ((x2 * 10) + v3) ∧ ((x2 * 10) + v3) ≤ 2147483647 then if -2147483648 ≤ (((x2 * 10) + v3) + 1) ∧ (((x2 * 10) + v3) + 1) ≤ 2147483647 then nm ((((x2 * 10) + v3) + 1)) (fun v20 => some (v20)) else none else none else none else some (x2)) else none)) : Option (Int)) (fun t12 => if -2147483648 ≤ (x3 + 1) ∧ (x3 + 1) ≤ 2147483647 then fX2_leftOf_l4 x0 x1 n t12 (x3 + 1) q2.2 else none))))
def fX2_leftOf (x0 : Int) (x1 : Nat) (M : Mem) : Option (Int × Mem) := Option.bind (fX2_leftOf_l4 x0 x1 1000 0 0 M) (fun z22 => Option.bind (fX2_filledUp z22.1 z22.2.2) (fun q23 => some (q23.1, q23.2)))
def fX0_put_l2 (x0 : Nat) (x1 : Int) (x2 : Int) : Nat → Int → Mem → Option (Int × Mem)
  | 0, _, _ => none
  | n + 1, x3, M => (if (M x0 0) ≤ x3 then some (x3, M) else if 0 ≤ x3 ∧ x3 < 25 then (if x1 ≤ (M (x0 + 2) (Int.toNat x3)) then some (x3, M) else if -2147483648 ≤ (x3 + 1) ∧ (x3 + 1) ≤ 2147483647 then fX0_put_l2 x0 x1 x2 n (x3 + 1) M else none) else none)
def fX0_put_l75 (x0 : Nat) (x1 : Int) (x2 : Int) (x3 : Int) : Nat → Int → Mem → Option (Int × Mem)
  | 0, _, _ => none
  | n + 1, x4, M => (if x4 ≤ x3 then some (x4, M) else if -2147483648 ≤ (x4 - 1) ∧ (x4 - 1) ≤ 2147483647 then if 0 ≤ (x4 - 1) ∧ (x4 - 1) < 25 then if 0 ≤ x4 ∧ x4 < 25 then nm (wr M (x0 + 2) (Int.toNat x4) (M (x0 + 2) (Int.toNat (x4 - 1)))) (fun M39 => if -2147483648 ≤ (x4 - 1) ∧ (x4 - 1) ≤ 2147483647 then if 0 ≤ (x4 - 1) ∧ (x4 - 1) < 25 then if 0 ≤ x4 ∧ x4 < 25 then nm (wr M39 (x0 + 3) (Int.toNat x4) (M39 (x0 + 3) (Int.toNat (x4 - 1)))) (fun M43 => if -2147483648 ≤ (x4 + (-1)) ∧ (x4 + (-1)) ≤ 2147483647 then fX0_put_l75 x0 x1 x2 x3 n (x4 + (-1)) M43 else none) else none else none else none) else none else none else none)
def fX0_put (x0 : Nat) (x1 : Int) (x2 : Int) (M : Mem) : Option (Int × Mem) := Option.bind (fX0_put_l2 x0 x1 x2 1000 0 M) (fun z5 => Option.bind ((if (z5.2 x0 0) ≤ z5.1 then (if 25 ≤ (z5.2 x0 0) then some (z5.2) else nm ((z5.2 x0 0)) (fun v34 => Option.bind (fX0_put_l75 x0 x1 x2 z5.1 1000 v34 z5.2) (fun z45 => if 0 ≤ z5.1 ∧ z5.1 < 25 then nm (wr z45.2 (x0 + 2) (Int.toNat z5.1) x1) (fun M47 => if 0 ≤ z5.1 ∧ z5.1 < 25 then nm (wr M47 (x0 + 3) (Int.toNat z5.1) x2) (fun M49 => if -2147483648 ≤ ((M49 x0 0) + 1) ∧ ((M49 x0 0) + 1) ≤ 2147483647 then nm (wr M49 x0 0 ((M49 x0 0) + 1)) (fun M51 => some (M51)) else none) else none) else none))) else if 0 ≤ z5.1 ∧ z5.1 < 25 then (if (z5.2 (x0 + 2) (Int.toNat z5.1)) = x1 then if 0 ≤ z5.1 ∧ z5.1 < 25 then if -2147483648 ≤ ((z5.2 (x0 + 3) (Int.toNat z5.1)) + x2) ∧ ((z5.2 (x0 + 3) (Int.toNat z5.1)) + x2) ≤ 2147483647 then if 0 ≤ z5.1 ∧ z5.1 < 25 then nm (wr z5.2 (x0 + 3) (Int.toNat z5.1) ((z5.2 (x0 + 3) (Int.toNat z5.1)) + x2)) (fun M66 => some (M66)) else none else none else none else (if 25 ≤ (z5.2 x0 0) then some (z5.2) else nm ((z5.2 x0 0)) (fun v55 => Option.bind (fX0_put_l75 x0 x1 x2 z5.1 1000 v55 z5.2) (fun z56 => if 0 ≤ z5.1 ∧ z5.1 < 25 then nm (wr z56.2 (x0 + 2) (Int.toNat z5.1) x1) (fun M58 => if 0 ≤ z5.1 ∧ z5.1 < 25 then nm (wr M58 (x0 + 3) (Int.toNat z5.1) x2) (fun M60 => if -2147483648 ≤ ((M60 x0 0) + 1) ∧ ((M60 x0 0) + 1) ≤ 2147483647 then nm (wr M60 x0 0 ((M60 x0 0) + 1)) (fun M62 => some (M62)) else none) else none) else none)))) else none) : Option (Mem)) (fun t31 => some (0, t31)))
def fX0_gather_l7 (x0 : Nat) (x1 : Nat) : Nat → Int → Mem → Option (Int × Mem)
  | 0, _, _ => none
  | n + 1, x2, M => (if (M x1 3) ≤ x2 then some (x2, M) else if 0 ≤ x2 ∧ x2 < 25 then Option.bind (fX2_leftOf (M (x1 + 5) (Int.toNat x2)) (x1 + 3) M) (fun q4 => nm (q4.1) (fun v5 => Option.bind ((if v5 = 0 then some (q4.2) else if 0 ≤ x2 ∧ x2 < 25 then (if (q4.2 (x1 + 6) (Int.toNat x2)) = 0 then some (q4.2) else if 0 ≤ x2 ∧ x2 < 25 then Option.bind (fX0_put x0 v5 (q4.2 (x1 + 6) (Int.toNat x2)) q4.2) (fun q16 => some (q16.2)) else none) else none) : Option (Mem)) (fun t11 => if -2147483648 ≤ (x2 + 1) ∧ (x2 + 1) ≤ 2147483647 then fX0_gather_l7 x0 x1 n (x2 + 1) t11 else none))) else none)
def fX0_gather (x0 : Nat) (x1 : Nat) (M : Mem) : Option (Int × Mem) := nm (wr M x0 0 0) (fun M1 => Option.bind (fX0_gather_l7 x0 x1 1000 0 M1) (fun z18 => some (0, z18.2)))
def fX1_copyFrom_l58 (x0 : Nat) (x1 : Nat) : Nat → Int → Mem → Option (Int × Mem)
  | 0, _, _ => none
  | n + 1, x2, M => (if 8 ≤ x2 then some (x2, M) else if 0 ≤ x2 ∧ x2 < 8 then if 0 ≤ x2 ∧ x2 < 8 then nm (wr M (x0 + 2) (Int.toNat x2) (M (x1 + 2) (Int.toNat x2))) (fun M11 => if 0 ≤ x2 ∧ x2 < 8 then if 0 ≤ x2 ∧ x2 < 8 then if (M11 (x1 + 3) (Int.toNat x2)) = 0 ∨ (M11 (x1 + 3) (Int.toNat x2)) = 1 then nm (wr M11 (x0 + 3) (Int.toNat x2) (M11 (x1 + 3) (Int.toNat x2))) (fun M15 => if -2147483648 ≤ (x2 + 1) ∧ (x2 + 1) ≤ 2147483647 then fX1_copyFrom_l58 x0 x1 n (x2 + 1) M15 else none) else none else none else none) else none else none)
def fX1_copyFrom_l96 (x0 : Nat) (x1 : Nat) : Nat → Int → Mem → Option (Int × Mem)
  | 0, _, _ => none
  | n + 1, x2, M => (if 24 ≤ x2 then some (x2, M) else if 0 ≤ x2 ∧ x2 < 25 then if 0 ≤ x2 ∧ x2 < 25 then nm (wr M (x0 + 5) (Int.toNat x2) (M (x1 + 5) (Int.toNat x2))) (fun M21 => if 0 ≤ x2 ∧ x2 < 25 then if 0 ≤ x2 ∧ x2 < 25 then nm (wr M21 (x0 + 6) (Int.toNat x2) (M21 (x1 + 6) (Int.toNat x2))) (fun M24 => if -2147483648 ≤ (x2 + 1) ∧ (x2 + 1) ≤ 2147483647 then fX1_copyFrom_l96 x0 x1 n (x2 + 1) M24 else none) else none else none) else none else none)
def fX1_copyFrom_l134 (x0 : Nat) (x1 : Nat) : Nat → Int → Mem → Option (Int × Mem)
  | 0, _, _ => none
  | n + 1, x2, M => (if 5 ≤ x2 then some (x2, M) else if 0 ≤ x2 ∧ x2 < 5 then if 0 ≤ x2 ∧ x2 < 5 then nm (wr M (x0 + 11) (Int.toNat x2) (M (x1 + 11) (Int.toNat x2))) (fun M30 => if 0 ≤ x2 ∧ x2 < 5 then if 0 ≤ x2 ∧ x2 < 5 then if (M30 (x1 + 12) (Int.toNat x2)) = 0 ∨ (M30 (x1 + 12) (Int.toNat x2)) = 1 then nm (wr M30 (x0 + 12) (Int.toNat x2) (M30 (x1 + 12) (Int.toNat x2))) (fun M34 => if -2147483648 ≤ (x2 + 1) ∧ (x2 + 1) ≤ 2147483647 then fX1_copyFrom_l134 x0 x1 n (x2 + 1) M34 else none) else none else none else none) else none else none)
def fX1_copyFrom_l171 (x0 : Nat) (x1 : Nat) : Nat → Int → Mem → Option (Int × Mem)
  | 0, _, _ => none
  | n + 1, x2, M => (if 8 ≤ x2 then some (x2, M) else if 0 ≤ x2 ∧ x2 < 8 then if 0 ≤ x2 ∧ x2 < 8 then nm (wr M (x0 + 14) (Int.toNat x2) (M (x1 + 14) (Int.toNat x2))) (fun M40 => if 0 ≤ x2 ∧ x2 < 8 then if 0 ≤ x2 ∧ x2 < 8 then nm (wr M40 (x0 + 15) (Int.toNat x2) (M40 (x1 + 15) (Int.toNat x2))) (fun M43 => if -2147483648 ≤ (x2 + 1) ∧ (x2 + 1) ≤ 2147483647 then fX1_copyFrom_l171 x0 x1 n (x2 + 1) M43 else none) else none else none) else none else none)
def fX1_copyFrom (x0 : Nat) (x1 : Nat) (M : Mem) : Option (Int × Mem) := nm (wr M x0 0 (M x1 0)) (fun M1 => nm (wr M1 x0 3 (M1 x1 3)) (fun M2 => nm (wr M2 x0 6 (M2 x1 6)) (fun M3 => nm (wr M3 x0 7 (M3 x1 7)) (fun M4 => nm (wr M4 x0 8 (M4 x1 8)) (fun M5 => nm (wr M5 x0 9 (M5 x1 9)) (fun M6 => nm (wr M6 x0 12 (M6 x1 12)) (fun M7 => Option.bind (fX1_copyFrom_l58 x0 x1 1000 0 M7) (fun z17 => Option.bind (fX1_copyFrom_l96 x0 x1 1000 0 z17.2) (fun z26 => Option.bind (fX1_copyFrom_l134 x0 x1 1000 0 z26.2) (fun z36 => Option.bind (fX1_copyFrom_l171 x0 x1 1000 0 z36.2) (fun z45 => some (0, z45.2))))))))))))
def fX1_hasCandidate (x0 : Nat) (x1 : Int) (M : Mem) : Option (Int × Mem) := Option.bind ((if x1 < 0 then some (0) else (if (M x0 0) ≤ x1 then some (0) else some (1))) : Option (Int)) (fun t3 => if t3 = 0 ∨ t3 = 1 then some (t3, M) else none)
def fX1_hasBallot (x0 : Nat) (x1 : Int) (M : Mem) : Option (Int × Mem) := Option.bind ((if x1 < 0 then some (0) else (if (M x0 3) ≤ x1 then some (0) else some (1))) : Option (Int)) (fun t3 => if t3 = 0 ∨ t3 = 1 then some (t3, M) else none)
def fX1_together_l4 (x0 : Nat) : Nat → Int → Int → Mem → Option (Int × Int × Mem)
  | 0, _, _, _ => none
  | n + 1, x1, x3, M => (if (M x0 3) ≤ x3 then some (x1, x3, M) else if 0 ≤ x3 ∧ x3 < 25 then if -9223372036854775808 ≤ (x1 + (M (x0 + 6) (Int.toNat x3))) ∧ (x1 + (M (x0 + 6) (Int.toNat x3))) ≤ 9223372036854775807 then nm ((x1 + (M (x0 + 6) (Int.toNat x3)))) (fun v4 => if -2147483648 ≤ (x3 + 1) ∧ (x3 + 1) ≤ 2147483647 then fX1_together_l4 x0 n v4 (x3 + 1) M else none) else none else none)
def fX1_together (x0 : Nat) (M : Mem) : Option (Int × Mem) := Option.bind (fX1_together_l4 x0 1000 0 0 M) (fun z6 => some (z6.1, z6.2.2))
def fX1_placeInLot_l2 (x0 : Nat) (x1 : Int) : Nat → Int → Mem → Option ((Int × Mem) ⊕ (Int × Mem))
  | 0, _, _ => none
  | n + 1, x2, M => (if (M x0 0) ≤ x2 then some (.inl ((-1), M)) else if 0 ≤ x2 ∧ x2 < 8 then (if (M (x0 + 2) (Int.toNat x2)) = x1 then some (.inl (x2, M)) else if -2147483648 ≤ (x2 + 1) ∧ (x2 + 1) ≤ 2147483647 then fX1_placeInLot_l2 x0 x1 n (x2 + 1) M else none) else none)
def fX1_placeInLot (x0 : Nat) (x1 : Int) (M : Mem) : Option (Int × Mem) := lr (fX1_placeInLot_l2 x0 x1 1000 0 M) (fun r => r) (fun _ => none)
def fX1_firstHere (x0 : Nat) (x1 : Int) (M : Mem) : Option (Int × Mem) := if 0 ≤ x1 ∧ x1 < 25 then Option.bind (fX2_leftOf (M (x0 + 5) (Int.toNat x1)) (x0 + 3) M) (fun q2 => Option.bind (fX2_at q2.1 0 q2.2) (fun q3 => nm (q3.1) (fun v4 => Option.bind ((if 0 ≤ v4 then some (v4) else some ((-5))) : Option (Int)) (fun t6 => some (t6, q3.2))))) else none
def fX1_manyFirst_l4 (x0 : Nat) (x1 : Int) : Nat → Int → Int → Mem → Option (Int × Int × Mem)
  | 0, _, _, _ => none
  | n + 1, x2, x3, M => (if (M x0 3) ≤ x3 then some (x2, x3, M) else Option.bind (fX1_firstHere x0 x3 M) (fun q2 => Option.bind ((if q2.1 = x1 then if 0 ≤ x3 ∧ x3 < 25 then if -2147483648 ≤ (x2 + (q2.2 (x0 + 6) (Int.toNat x3))) ∧ (x2 + (q2.2 (x0 + 6) (Int.toNat x3))) ≤ 2147483647 then nm ((x2 + (q2.2 (x0 + 6) (Int.toNat x3)))) (fun v11 => some (v11)) else none else none else some (x2)) : Option (Int)) (fun t7 => if -2147483648 ≤ (x3 + 1) ∧ (x3 + 1) ≤ 2147483647 then fX1_manyFirst_l4 x0 x1 n t7 (x3 + 1) q2.2 else none)))
def fX1_manyFirst (x0 : Nat) (x1 : Int) (M : Mem) : Option (Int × Mem) := Option.bind (fX1_manyFirst_l4 x0 x1 1000 0 0 M) (fun z13 => some (z13.1, z13.2.2))
def fX2_placeOf_l2 (x0 : Int) (x1 : Int) : Nat → Int → Mem → Option ((Int × Mem) ⊕ (Int × Mem))
  | 0, _, _ => none
  | n + 1, x2, M => (if 8 ≤ x2 then some (.inl (8, M)) else Option.bind (fX2_at x0 x2 M) (fun q2 => (if q2.1 = x1 then some (.inl (x2, q2.2)) else if -2147483648 ≤ (x2 + 1) ∧ (x2 + 1) ≤ 2147483647 then fX2_placeOf_l2 x0 x1 n (x2 + 1) q2.2 else none)))
def fX2_placeOf (x0 : Int) (x1 : Int) (M : Mem) : Option (Int × Mem) := lr (fX2_placeOf_l2 x0 x1 1000 0 M) (fun r => r) (fun _ => none)
def fX1_manyAhead_l5 (x0 : Nat) (x1 : Int) (x2 : Int) : Nat → Int → Int → Mem → Option (Int × Int × Mem)
  | 0, _, _, _ => none
  | n + 1, x3, x4, M => (if (M x0 3) ≤ x4 then some (x3, x4, M) else if 0 ≤ x4 ∧ x4 < 25 then Option.bind (fX2_placeOf (M (x0 + 5) (Int.toNat x4)) x1 M) (fun q3 => if 0 ≤ x4 ∧ x4 < 25 then Option.bind (fX2_placeOf (q3.2 (x0 + 5) (Int.toNat x4)) x2 q3.2) (fun q5 => Option.bind ((if q5.1 ≤ q3.1 then some (x3) else if 0 ≤ x4 ∧ x4 < 25 then if -2147483648 ≤ (x3 + (q5.2 (x0 + 6) (Int.toNat x4))) ∧ (x3 + (q5.2 (x0 + 6) (Int.toNat x4))) ≤ 2147483647 then nm ((x3 + (q5.2 (x0 + 6) (Int.toNat x4)))) (fun v14 => some (v14)) else none else none) : Option (Int)) (fun t10 => if -2147483648 ≤ (x4 + 1) ∧ (x4 + 1) ≤ 2147483647 then fX1_manyAhead_l5 x0 x1 x2 n t10 (x4 + 1) q5.2 else none)) else none) else none)
def fX1_manyAhead (x0 : Nat) (x1 : Int) (x2 : Int) (M : Mem) : Option (Int × Mem) := Option.bind (fX1_manyAhead_l5 x0 x1 x2 1000 0 0 M) (fun z16 => some (z16.1, z16.2.2))
def fX1_isSeenSo_l2 (x0 : Nat) (x1 : Int) : Nat → Int → Mem → Option ((Int × Mem) ⊕ (Int × Mem))
  | 0, _, _ => none
  | n + 1, x2, M => (if (M x0 9) ≤ x2 then some (.inl (1, M)) else if 0 ≤ x2 ∧ x2 < 5 then Option.bind ((if (bAnd (bShr x1 (M (x0 + 11) (Int.toNat x2))) 1) = 0 then some (0) else some (1)) : Option (Int)) (fun t4 => if 0 ≤ x2 ∧ x2 < 5 then (if t4 = (M (x0 + 12) (Int.toNat x2)) then if -2147483648 ≤ (x2 + 1) ∧ (x2 + 1) ≤ 2147483647 then fX1_isSeenSo_l2 x0 x1 n (x2 + 1) M else none else some (.inl (0, M))) else none) else none)
def fX1_isSeenSo (x0 : Nat) (x1 : Int) (M : Mem) : Option (Int × Mem) := lr (fX1_isSeenSo_l2 x0 x1 1000 0 M) (fun r => r) (fun _ => none)
def fX1_emptyLedBy_l2 (x0 : Nat) (x1 : Int) : Nat → Int → Mem → Option (Int × Mem)
  | 0, _, _ => none
  | n + 1, x2, M => (if (M x0 3) ≤ x2 then some (x2, M) else Option.bind (fX1_firstHere x0 x2 M) (fun q2 => Option.bind ((if q2.1 = x1 then if 0 ≤ x2 ∧ x2 < 25 then nm (wr q2.2 (x0 + 6) (Int.toNat x2) 0) (fun M9 => some (M9)) else none else some (q2.2)) : Option (Mem)) (fun t6 => if -2147483648 ≤ (x2 + 1) ∧ (x2 + 1) ≤ 2147483647 then fX1_emptyLedBy_l2 x0 x1 n (x2 + 1) t6 else none)))
def fX1_emptyLedBy (x0 : Nat) (x1 : Int) (M : Mem) : Option (Int × Mem) := Option.bind (fX1_emptyLedBy_l2 x0 x1 1000 0 M) (fun z11 => some (0, z11.2))
def fX1_suffer (x0 : Nat) (x1 : Int) (x2 : Int) (M : Mem) : Option (Int × Mem) := (if x1 = 2 then nm (wr M x0 6 x2) (fun M23 => some (0, M23)) else Option.bind (fX1_hasCandidate x0 x2 M) (fun q2 => (if q2.1 = 0 then some (0, q2.2) else Option.bind ((if x1 = 0 then if 0 ≤ x2 ∧ x2 < 8 then nm (wr q2.2 (x0 + 3) (Int.toNat x2) 1) (fun M16 => some (M16)) else none else if x1 = 1 then if 0 ≤ x2 ∧ x2 < 8 then nm (wr q2.2 (x0 + 3) (Int.toNat x2) 0) (fun M19 => some (M19)) else none else if x1 = 2 then some (q2.2) else if x1 = 3 then Option.bind (fX1_emptyLedBy x0 x2 q2.2) (fun q22 => some (q22.2)) else some (q2.2)) : Option (Mem)) (fun t13 => some (0, t13)))))
def fX2_isRow_l20 (x1 : Int) : Nat → Int → Int → Int → Mem → Option ((Int × Mem) ⊕ (Int × Int × Int × Mem))
  | 0, _, _, _, _ => none
  | n + 1, x2, x3, x4, M => (if 8 ≤ x4 then some (.inl (1, M)) else (if x3 ≤ 0 then some (.inl (1, M)) else if 0 ≤ x3 then nm ((x3 % 10)) (fun v6 => (if v6 < 1 then some (.inl (0, M)) else (if x1 < v6 then some (.inl (0, M)) else (if (bAnd (bShr x2 v6) 1) = 0 then nm ((bOr x2 (bShl 1 v6))) (fun v10 => if 0 ≤ x3 then nm ((x3 / 10)) (fun v12 => if -2147483648 ≤ (x4 + 1) ∧ (x4 + 1) ≤ 2147483647 then fX2_isRow_l20 x1 n v10 v12 (x4 + 1) M else none) else none) else some (.inl (0, M)))))) else none))
def fX2_isRow (x0 : Int) (x1 : Int) (M : Mem) : Option (Int × Mem) := (if x0 < 1 then some (0, M) else (if x0 ≤ 99999999 then lr (fX2_isRow_l20 x1 1000 0 x0 0 M) (fun r => r) (fun _ => none) else some (0, M)))
def fX2_asTold_l4  : Nat → Int → Int → Mem → Option (Int × Int × Mem)
  | 0, _, _, _ => none
  | n + 1, x1, x2, M => (if 8 ≤ x2 then some (x1, x2, M) else if 0 ≤ x1 then Option.bind ((if (x1 % 10) = 0 then if 0 ≤ x1 then nm ((x1 / 10)) (fun v9 => some (v9)) else none else some (x1)) : Option (Int)) (fun t6 => if -2147483648 ≤ (x2 + 1) ∧ (x2 + 1) ≤ 2147483647 then fX2_asTold_l4  n t6 (x2 + 1) M else none) else none)
def fX2_asTold (x0 : Int) (M : Mem) : Option (Int × Mem) := Option.bind (fX2_asTold_l4  1000 x0 1 M) (fun z11 => some (z11.1, z11.2.2))
def fX2_length_l4 (x0 : Int) : Nat → Int → Int → Mem → Option (Int × Int × Mem)
  | 0, _, _, _ => none
  | n + 1, x1, x2, M => (if 8 ≤ x2 then some (x1, x2, M) else Option.bind (fX2_at x0 x2 M) (fun q2 => Option.bind ((if q2.1 < 0 then some (x1) else if -2147483648 ≤ (x1 + 1) ∧ (x1 + 1) ≤ 2147483647 then some ((x1 + 1)) else none) : Option (Int)) (fun t5 => if -2147483648 ≤ (x2 + 1) ∧ (x2 + 1) ≤ 2147483647 then fX2_length_l4 x0 n t5 (x2 + 1) q2.2 else none)))
def fX2_length (x0 : Int) (M : Mem) : Option (Int × Mem) := Option.bind (fX2_length_l4 x0 1000 0 0 M) (fun z9 => some (z9.1, z9.2.2))
def fX2_ledBy_l6 (x0 : Int) (x1 : Int) : Nat → Int → Int → Mem → Option (Int × Int × Mem)
  | 0, _, _, _ => none
  | n + 1, x2, x3, M => (if 8 ≤ x3 then some (x2, x3, M) else Option.bind (fX2_at x1 x3 M) (fun q4 => nm (q4.1) (fun v5 => Option.bind ((if v5 < 0 then some (x2) else (if v5 = x0 then some (x2) else if -2147483648 ≤ (x2 * 10) ∧ (x2 * 10) ≤ 2147483647 then if -2147483648 ≤ ((x2 * 10) + v5) ∧ ((x2 * 10) + v5) ≤ 2147483647 then if -2147483648 ≤ (((x2 * 10) + v5) + 1) ∧ (((x2 * 10) + v5) + 1) ≤ 2147483647 then nm ((((x2 * 10) + v5) + 1)) (fun v18 => some (v18)) else none else none else none)) : Option (Int)) (fun t12 => if -2147483648 ≤ (x3 + 1) ∧ (x3 + 1) ≤ 2147483647 then fX2_ledBy_l6 x0 x1 n t12 (x3 + 1) q4.2 else none))))
def fX2_ledBy (x0 : Int) (x1 : Int) (M : Mem) : Option (Int × Mem) := if -2147483648 ≤ (x0 + 1) ∧ (x0 + 1) ≤ 2147483647 then nm ((x0 + 1)) (fun v2 => Option.bind (fX2_ledBy_l6 x0 x1 1000 v2 0 M) (fun z20 => Option.bind (fX2_filledUp z20.1 z20.2.2) (fun q21 => some (q21.1, q21.2)))) else none
def fX4_stageAt (x0 : Nat) (x1 : Int) (M : Mem) : Option (Option Nat × Mem) := (if x1 < 0 then some (none, M) else (if (M x0 7) ≤ x1 then some (none, M) else (if x1 < 8 then if 0 ≤ x1 ∧ x1 < 8 then some (some ((x0 + 9) + 36 + 16 * Int.toNat x1), M) else none else some (none, M))))
def fX4_begin_l17 (x0 : Nat) : Nat → Int → Mem → Option (Int × Mem)
  | 0, _, _ => none
  | n + 1, x1, M => (if (M (x0 + 10000) 0) ≤ x1 then some (x1, M) else if 0 ≤ x1 ∧ x1 < 8 then Option.bind ((if (M ((x0 + 10000) + 3) (Int.toNat x1)) = 0 then some (1) else some (0)) : Option (Int)) (fun t7 => Option.bind ((if t7 = 0 then some (0) else some (1)) : Option (Int)) (fun t10 => if 0 ≤ x1 ∧ x1 < 8 then nm (wr M (x0 + 3) (Int.toNat x1) t10) (fun M13 => Option.bind ((if t7 = 0 then some (0) else some (1000000)) : Option (Int)) (fun t15 => if 0 ≤ x1 ∧ x1 < 8 then nm (wr M13 (x0 + 10) (Int.toNat x1) t15) (fun M18 => if 0 ≤ x1 ∧ x1 < 8 then nm (wr M18 (x0 + 4) (Int.toNat x1) (-5)) (fun M20 => Option.bind ((if t7 = 0 then some (0) else some (1)) : Option (Int)) (fun t22 => if -2147483648 ≤ ((M20 x0 6) + t22) ∧ ((M20 x0 6) + t22) ≤ 2147483647 then nm (wr M20 x0 6 ((M20 x0 6) + t22)) (fun M25 => if -2147483648 ≤ (x1 + 1) ∧ (x1 + 1) ≤ 2147483647 then fX4_begin_l17 x0 n (x1 + 1) M25 else none) else none)) else none) else none)) else none)) else none)
def fX4_begin (x0 : Nat) (M : Mem) : Option (Int × Mem) := nm (wr M x0 7 0) (fun M1 => nm (wr M1 x0 5 0) (fun M2 => nm (wr M2 x0 6 0) (fun M3 => Option.bind (fX4_begin_l17 x0 1000 0 M3) (fun z27 => some (0, z27.2)))))
def fJ7_fill_d0a16_l6 (x0 : Nat) (x1 : Int) (x4 : Int) : Nat → Int → Mem → Option (Int × Mem)
  | 0, _, _ => none
  | n + 1, x3, M => (if x4 ≤ x3 then some (x3, M) else if 0 ≤ x3 ∧ x3 < 8 then nm (wr M x0 (Int.toNat x3) x1) (fun M3 => if -2147483648 ≤ (x3 + 1) ∧ (x3 + 1) ≤ 2147483647 then fJ7_fill_d0a16_l6 x0 x1 x4 n (x3 + 1) M3 else none) else none)
def fJ7_fill_d0a16 (x0 : Nat) (x1 : Int) (M : Mem) : Option (Int × Mem) := Option.bind (fJ7_fill_d0a16_l6 x0 x1 8 1000 0 M) (fun z5 => some (0, z5.2))
def fJ7_fill_d0a16_60_l6 (x0 : Nat) (x1 : Int) (x4 : Int) : Nat → Int → Mem → Option (Int × Mem)
  | 0, _, _ => none
  | n + 1, x3, M => (if x4 ≤ x3 then some (x3, M) else if 0 ≤ x3 ∧ x3 < 60 then nm (wr M x0 (Int.toNat x3) x1) (fun M3 => if -2147483648 ≤ (x3 + 1) ∧ (x3 + 1) ≤ 2147483647 then fJ7_fill_d0a16_60_l6 x0 x1 x4 n (x3 + 1) M3 else none) else none)
def fJ7_fill_d0a16_60 (x0 : Nat) (x1 : Int) (M : Mem) : Option (Int × Mem) := Option.bind (fJ7_fill_d0a16_60_l6 x0 x1 60 1000 0 M) (fun z5 => some (0, z5.2))
def fX4_passOn_l6 (x0 : Nat) (x1 : Int) : Nat → Int → Int → Mem → Option ((Int × Mem) ⊕ (Int × Int × Mem))
  | 0, _, _, _ => none
  | n + 1, x4, x6, M => (if 8 ≤ x6 then some (.inl (x4, M)) else Option.bind (fX2_at x1 x6 M) (fun q2 => nm (q2.1) (fun v3 => (if v3 < 0 then some (.inl (x4, q2.2)) else (if v3 < 8 then if 0 ≤ v3 ∧ v3 < 8 then if -9223372036854775808 ≤ (x4 * (q2.2 (x0 + 10) (Int.toNat v3))) ∧ (x4 * (q2.2 (x0 + 10) (Int.toNat v3))) ≤ 9223372036854775807 then if 0 ≤ (x4 * (q2.2 (x0 + 10) (Int.toNat v3))) then nm (((x4 * (q2.2 (x0 + 10) (Int.toNat v3))) / 1000000)) (fun v9 => if 0 ≤ v3 ∧ v3 < 8 then if -9223372036854775808 ≤ ((q2.2 (x0 + 11) (Int.toNat v3)) + v9) ∧ ((q2.2 (x0 + 11) (Int.toNat v3)) + v9) ≤ 9223372036854775807 then if 0 ≤ v3 ∧ v3 < 8 then nm (wr q2.2 (x0 + 11) (Int.toNat v3) ((q2.2 (x0 + 11) (Int.toNat v3)) + v9)) (fun M13 => if -9223372036854775808 ≤ (x4 - v9) ∧ (x4 - v9) ≤ 9223372036854775807 then nm ((x4 - v9)) (fun v15 => if -2147483648 ≤ (x6 + 1) ∧ (x6 + 1) ≤ 2147483647 then fX4_passOn_l6 x0 x1 n v15 (x6 + 1) M13 else none) else none) else none else none else none) else none else none else none else some (.inl (x4, q2.2)))))))
def fX4_passOn (x0 : Nat) (x1 : Int) (x2 : Int) (M : Mem) : Option (Int × Mem) := lr (fX4_passOn_l6 x0 x1 1000 x2 0 M) (fun r => r) (fun _ => none)
def fX8_cut (x0 : Int) (x2 : Int) (M : Mem) : Option (Int × Mem) := Option.bind ((if x2 ≤ 0 then some (0) else if 0 ≤ x0 ∧ 0 < x2 then some ((x0 / x2)) else none) : Option (Int)) (fun t3 => some (t3, M))
def fX4_workOut_l15 (x0 : Nat) : Nat → Int → Mem → Option (Int × Mem)
  | 0, _, _ => none
  | n + 1, x1, M => (if (M (x0 + 20) 0) ≤ x1 then some (x1, M) else if 0 ≤ x1 ∧ x1 < 25 then if 0 ≤ x1 ∧ x1 < 25 then if -9223372036854775808 ≤ ((M ((x0 + 20) + 3) (Int.toNat x1)) * 1000000) ∧ ((M ((x0 + 20) + 3) (Int.toNat x1)) * 1000000) ≤ 9223372036854775807 then Option.bind (fX4_passOn x0 (M ((x0 + 20) + 2) (Int.toNat x1)) ((M ((x0 + 20) + 3) (Int.toNat x1)) * 1000000) M) (fun q7 => if -9223372036854775808 ≤ ((M x0 12) + q7.1) ∧ ((M x0 12) + q7.1) ≤ 9223372036854775807 then nm (wr q7.2 x0 12 ((M x0 12) + q7.1)) (fun M9 => if -2147483648 ≤ (x1 + 1) ∧ (x1 + 1) ≤ 2147483647 then fX4_workOut_l15 x0 n (x1 + 1) M9 else none) else none) else none else none else none)
def fX4_workOut_l75 (x0 : Nat) : Nat → Int → Mem → Option (Int × Mem)
  | 0, _, _ => none
  | n + 1, x1, M => (if (M (x0 + 10000) 0) ≤ x1 then some (x1, M) else if 0 ≤ x1 ∧ x1 < 8 then if -9223372036854775808 ≤ ((M x0 13) + (M (x0 + 11) (Int.toNat x1))) ∧ ((M x0 13) + (M (x0 + 11) (Int.toNat x1))) ≤ 9223372036854775807 then nm (wr M x0 13 ((M x0 13) + (M (x0 + 11) (Int.toNat x1)))) (fun M16 => if -2147483648 ≤ (x1 + 1) ∧ (x1 + 1) ≤ 2147483647 then fX4_workOut_l75 x0 n (x1 + 1) M16 else none) else none else none)
def fX4_workOut (x0 : Nat) (M : Mem) : Option (Int × Mem) := Option.bind (fJ7_fill_d0a16 (x0 + 11) 0 M) (fun q1 => nm (wr q1.2 x0 12 0) (fun M2 => Option.bind (fX4_workOut_l15 x0 1000 0 M2) (fun z11 => nm (wr z11.2 x0 13 0) (fun M12 => Option.bind (fX4_workOut_l75 x0 1000 0 M12) (fun z18 => if -2147483648 ≤ ((z18.2 (x0 + 10000) 6) + 1) ∧ ((z18.2 (x0 + 10000) 6) + 1) ≤ 2147483647 then Option.bind (fX8_cut (z18.2 x0 13) ((z18.2 (x0 + 10000) 6) + 1) z18.2) (fun q20 => if -9223372036854775808 ≤ (q20.1 + 1) ∧ (q20.1 + 1) ≤ 9223372036854775807 then nm (wr q20.2 x0 11 (q20.1 + 1)) (fun M22 => some (0, M22)) else none) else none)))))
def fX4_note_l37 (x0 : Nat) (x1 : Nat) : Nat → Int → Mem → Option (Int × Mem)
  | 0, _, _ => none
  | n + 1, x5, M => (if 8 ≤ x5 then some (x5, M) else if 0 ≤ x5 ∧ x5 < 8 then if 0 ≤ x5 ∧ x5 < 8 then nm (wr M (x1 + 8) (Int.toNat x5) (M (x0 + 11) (Int.toNat x5))) (fun M9 => if 0 ≤ x5 ∧ x5 < 8 then if 0 ≤ x5 ∧ x5 < 8 then nm (wr M9 (x1 + 9) (Int.toNat x5) (M9 (x0 + 10) (Int.toNat x5))) (fun M12 => if -2147483648 ≤ (x5 + 1) ∧ (x5 + 1) ≤ 2147483647 then fX4_note_l37 x0 x1 n (x5 + 1) M12 else none) else none else none) else none else none)
def fX4_note (x0 : Nat) (x1 : Nat) (x2 : Int) (x3 : Int) (M : Mem) : Option (Int × Mem) := nm (wr M x1 0 x2) (fun M1 => nm (wr M1 x1 3 (M1 x0 11)) (fun M2 => nm (wr M2 x1 4 (M2 x0 12)) (fun M3 => nm (wr M3 x1 5 x3) (fun M4 => nm (wr M4 x1 6 (M4 x0 13)) (fun M5 => Option.bind (fX4_note_l37 x0 x1 1000 0 M5) (fun z14 => some (0, z14.2)))))))
def fX4_whoIs_l4 (x0 : Nat) (x1 : Int) : Nat → Int → Int → Mem → Option (Int × Int × Mem)
  | 0, _, _, _ => none
  | n + 1, x2, x3, M => (if (M (x0 + 10000) 0) ≤ x3 then some (x2, x3, M) else if 0 ≤ x3 ∧ x3 < 8 then Option.bind ((if (M (x0 + 3) (Int.toNat x3)) = x1 then nm ((bOr x2 (bShl 1 x3))) (fun v7 => some (v7)) else some (x2)) : Option (Int)) (fun t5 => if -2147483648 ≤ (x3 + 1) ∧ (x3 + 1) ≤ 2147483647 then fX4_whoIs_l4 x0 x1 n t5 (x3 + 1) M else none) else none)
def fX4_whoIs (x0 : Nat) (x1 : Int) (M : Mem) : Option (Int × Mem) := Option.bind (fX4_whoIs_l4 x0 x1 1000 0 0 M) (fun z9 => some (z9.1, z9.2.2))
def fX4_leader_l28 (x0 : Nat) (x1 : Nat) (x3 : Int) (x4 : Int) (x6 : Int) : Nat → Int → Int → Mem → Option (Int × Int × Mem)
  | 0, _, _, _ => none
  | n + 1, x5, x7, M => (if (M (x0 + 10000) 0) ≤ x7 then some (x5, x7, M) else if 0 ≤ x7 ∧ x7 < 8 then nm ((M ((x0 + 10000) + 2) (Int.toNat x7))) (fun v5 => Option.bind ((if (bAnd (bShr x4 v5) 1) = 0 then some (x5) else (if x5 < 0 then some (v5) else if 0 ≤ v5 ∧ v5 < 8 then if 0 ≤ x5 ∧ x5 < 8 then (if (M x1 (Int.toNat v5)) ≤ (M x1 (Int.toNat x5)) then some (x5) else some (v5)) else none else none)) : Option (Int)) (fun t11 => if -2147483648 ≤ (x7 + 1) ∧ (x7 + 1) ≤ 2147483647 then fX4_leader_l28 x0 x1 x3 x4 x6 n t11 (x7 + 1) M else none)) else none)
def fX4_leader_l9 (x0 : Nat) (x1 : Nat) (x3 : Int) : Nat → Int → Int → Int → Mem → Option (Int × Int × Int × Mem)
  | 0, _, _, _, _ => none
  | n + 1, x4, x5, x6, M => (if x3 < x6 then some (x4, x5, x6, M) else (if 8 ≤ x6 then some (x4, x5, x6, M) else Option.bind (fX4_leader_l28 x0 x1 x3 x4 x6 1000 (-1) 0 M) (fun z18 => Option.bind ((if z18.1 < 0 then some (x4) else nm ((bAnd x4 (bXor (bShl 1 z18.1) (-1)))) (fun v23 => some (v23))) : Option (Int)) (fun t21 => if -2147483648 ≤ (x6 + 1) ∧ (x6 + 1) ≤ 2147483647 then fX4_leader_l9 x0 x1 x3 n t21 z18.1 (x6 + 1) z18.2.2 else none))))
def fX4_leader (x0 : Nat) (x1 : Nat) (x2 : Int) (x3 : Int) (M : Mem) : Option (Int × Mem) := Option.bind (fX4_leader_l9 x0 x1 x3 1000 x2 (-1) 0 M) (fun z25 => some (z25.2.1, z25.2.2.2))
def fX4_elect_l13 (x0 : Nat) (x1 : Nat) (x2 : Int) : Nat → Int → Mem → Option ((Int × Mem) ⊕ (Int × Mem))
  | 0, _, _ => none
  | n + 1, x3, M => (if x3 ≤ 0 then some (.inl (0, M)) else Option.bind (fX4_leader x0 (x1 + 8) (bAnd x2 (bXor (M x1 2) (-1))) 0 M) (fun q4 => nm (q4.1) (fun v5 => (if v5 < 0 then some (.inl (0, q4.2)) else (if (q4.2 x0 5) < 8 then nm (wr q4.2 x1 2 (bOr (q4.2 x1 2) (bShl 1 v5))) (fun M8 => if 0 ≤ (M8 x0 5) ∧ (M8 x0 5) < 8 then nm (wr M8 (x0 + 5) (Int.toNat (M8 x0 5)) v5) (fun M10 => if -2147483648 ≤ ((M10 x0 5) + 1) ∧ ((M10 x0 5) + 1) ≤ 2147483647 then nm (wr M10 x0 5 ((M10 x0 5) + 1)) (fun M12 => if -2147483648 ≤ ((M12 x0 6) - 1) ∧ ((M12 x0 6) - 1) ≤ 2147483647 then nm (wr M12 x0 6 ((M12 x0 6) - 1)) (fun M14 => if 0 ≤ v5 ∧ v5 < 8 then nm (wr M14 (x0 + 3) (Int.toNat v5) 2) (fun M16 => if -2147483648 ≤ ((M16 x0 7) - 1) ∧ ((M16 x0 7) - 1) ≤ 2147483647 then if 0 ≤ v5 ∧ v5 < 8 then nm (wr M16 (x0 + 4) (Int.toNat v5) ((M16 x0 7) - 1)) (fun M19 => if -2147483648 ≤ (x3 + (-1)) ∧ (x3 + (-1)) ≤ 2147483647 then fX4_elect_l13 x0 x1 x2 n (x3 + (-1)) M19 else none) else none else none) else none) else none) else none) else none) else some (.inl (0, q4.2)))))))
def fX4_elect (x0 : Nat) (x1 : Nat) (x2 : Int) (M : Mem) : Option (Int × Mem) := if -2147483648 ≤ ((M (x0 + 10000) 6) - (M x0 5)) ∧ ((M (x0 + 10000) 6) - (M x0 5)) ≤ 2147483647 then nm (((M (x0 + 10000) 6) - (M x0 5))) (fun v2 => lr (fX4_elect_l13 x0 x1 x2 1000 v2 M) (fun r => r) (fun _ => none)) else none
def fX4_fill (x0 : Nat) (x1 : Nat) (M : Mem) : Option (Int × Mem) := Option.bind (fX4_workOut x0 M) (fun q1 => Option.bind (fX4_note x0 x1 0 0 q1.2) (fun q2 => Option.bind (fX4_whoIs x0 1 q2.2) (fun q3 => Option.bind (fX4_elect x0 x1 q3.1 q3.2) (fun q4 => some (0, q4.2)))))
def fX4_turnKeeps_l2 (x0 : Nat) : Nat → Int → Mem → Option (Int × Mem)
  | 0, _, _ => none
  | n + 1, x1, M => (if (M (x0 + 10000) 0) ≤ x1 then some (x1, M) else if 0 ≤ x1 ∧ x1 < 8 then nm ((M (x0 + 11) (Int.toNat x1))) (fun v3 => if 0 ≤ x1 ∧ x1 < 8 then Option.bind ((if (M (x0 + 3) (Int.toNat x1)) = 2 then (if v3 ≤ 0 then some (M) else if 0 ≤ x1 ∧ x1 < 8 then if -9223372036854775808 ≤ ((M (x0 + 10) (Int.toNat x1)) * (M x0 11)) ∧ ((M (x0 + 10) (Int.toNat x1)) * (M x0 11)) ≤ 9223372036854775807 then if -9223372036854775808 ≤ (((M (x0 + 10) (Int.toNat x1)) * (M x0 11)) + v3) ∧ (((M (x0 + 10) (Int.toNat x1)) * (M x0 11)) + v3) ≤ 9223372036854775807 then if -9223372036854775808 ≤ ((((M (x0 + 10) (Int.toNat x1)) * (M x0 11)) + v3) - 1) ∧ ((((M (x0 + 10) (Int.toNat x1)) * (M x0 11)) + v3) - 1) ≤ 9223372036854775807 then if 0 ≤ ((((M (x0 + 10) (Int.toNat x1)) * (M x0 11)) + v3) - 1) ∧ 0 < v3 then if 0 ≤ x1 ∧ x1 < 8 then nm (wr M (x0 + 10) (Int.toNat x1) (if 1000000 < (((((M (x0 + 10) (Int.toNat x1)) * (M x0 11)) + v3) - 1) / v3) then 1000000 else (((((M (x0 + 10) (Int.toNat x1)) * (M x0 11)) + v3) - 1) / v3))) (fun M23 => some (M23)) else none else none else none else none else none else none) else some (M)) : Option (Mem)) (fun t14 => if -2147483648 ≤ (x1 + 1) ∧ (x1 + 1) ≤ 2147483647 then fX4_turnKeeps_l2 x0 n (x1 + 1) t14 else none) else none) else none)
def fX4_turnKeeps (x0 : Nat) (M : Mem) : Option (Int × Mem) := Option.bind (fX4_turnKeeps_l2 x0 1000 0 M) (fun z25 => some (0, z25.2))
def fX4_surplus_l4 (x0 : Nat) : Nat → Int → Int → Mem → Option (Int × Int × Mem)
  | 0, _, _, _ => none
  | n + 1, x1, x3, M => (if (M (x0 + 10000) 0) ≤ x3 then some (x1, x3, M) else if 0 ≤ x3 ∧ x3 < 8 then Option.bind ((if (M (x0 + 3) (Int.toNat x3)) = 2 then if 0 ≤ x3 ∧ x3 < 8 then if -9223372036854775808 ≤ ((M (x0 + 11) (Int.toNat x3)) - (M x0 11)) ∧ ((M (x0 + 11) (Int.toNat x3)) - (M x0 11)) ≤ 9223372036854775807 then if -9223372036854775808 ≤ (x1 + (if ((M (x0 + 11) (Int.toNat x3)) - (M x0 11)) < 0 then 0 else ((M (x0 + 11) (Int.toNat x3)) - (M x0 11)))) ∧ (x1 + (if ((M (x0 + 11) (Int.toNat x3)) - (M x0 11)) < 0 then 0 else ((M (x0 + 11) (Int.toNat x3)) - (M x0 11)))) ≤ 9223372036854775807 then nm ((x1 + (if ((M (x0 + 11) (Int.toNat x3)) - (M x0 11)) < 0 then 0 else ((M (x0 + 11) (Int.toNat x3)) - (M x0 11))))) (fun v13 => some (v13)) else none else none else none else some (x1)) : Option (Int)) (fun t8 => if -2147483648 ≤ (x3 + 1) ∧ (x3 + 1) ≤ 2147483647 then fX4_surplus_l4 x0 n t8 (x3 + 1) M else none) else none)
def fX4_surplus (x0 : Nat) (M : Mem) : Option (Int × Mem) := Option.bind (fX4_surplus_l4 x0 1000 0 0 M) (fun z15 => some (z15.1, z15.2.2))
def fX4_whoReachesQuota_l4 (x0 : Nat) : Nat → Int → Int → Mem → Option (Int × Int × Mem)
  | 0, _, _, _ => none
  | n + 1, x1, x2, M => (if (M (x0 + 10000) 0) ≤ x2 then some (x1, x2, M) else if 0 ≤ x2 ∧ x2 < 8 then Option.bind ((if (M (x0 + 3) (Int.toNat x2)) = 1 then if 0 ≤ x2 ∧ x2 < 8 then (if (M (x0 + 11) (Int.toNat x2)) < (M x0 11) then some (x1) else nm ((bOr x1 (bShl 1 x2))) (fun v11 => some (v11))) else none else some (x1)) : Option (Int)) (fun t7 => if -2147483648 ≤ (x2 + 1) ∧ (x2 + 1) ≤ 2147483647 then fX4_whoReachesQuota_l4 x0 n t7 (x2 + 1) M else none) else none)
def fX4_whoReachesQuota (x0 : Nat) (M : Mem) : Option (Int × Mem) := Option.bind (fX4_whoReachesQuota_l4 x0 1000 0 0 M) (fun z13 => some (z13.1, z13.2.2))
def fX4_whoHasFewest_l10 (x0 : Nat) (x1 : Nat) (x2 : Int) : Nat → Int → Int → Int → Mem → Option (Int × Int × Int × Mem)
  | 0, _, _, _, _ => none
  | n + 1, x3, x4, x6, M => (if (M (x0 + 10000) 0) ≤ x6 then some (x3, x4, x6, M) else Option.bind ((if (bAnd (bShr x2 x6) 1) = 0 then some (x3, x4) else if 0 ≤ x6 ∧ x6 < 8 then Option.bind ((if x4 ≤ (M x1 (Int.toNat x6)) then some (x3, x4) else if 0 ≤ x6 ∧ x6 < 8 then nm ((M x1 (Int.toNat x6))) (fun v23 => some (0, v23)) else none) : Option (Int × Int)) (fun t20 => if 0 ≤ x6 ∧ x6 < 8 then (if (M x1 (Int.toNat x6)) = t20.2 then nm ((bOr t20.1 (bShl 1 x6))) (fun v26 => some (v26, t20.2)) else some (t20.1, t20.2)) else none) else none) : Option (Int × Int)) (fun t14 => if -2147483648 ≤ (x6 + 1) ∧ (x6 + 1) ≤ 2147483647 then fX4_whoHasFewest_l10 x0 x1 x2 n t14.1 t14.2 (x6 + 1) M else none))
def fX4_whoHasFewest (x0 : Nat) (x1 : Nat) (x2 : Int) (M : Mem) : Option (Int × Mem) := Option.bind (fX4_whoHasFewest_l10 x0 x1 x2 1000 0 9223372036854775807 0 M) (fun z28 => some (z28.1, z28.2.2.2))
def fX4_lastInLot_l10 (x0 : Nat) (x1 : Int) : Nat → Int → Mem → Option ((Int × Mem) ⊕ (Int × Mem))
  | 0, _, _ => none
  | n + 1, x2, M => (if x2 < 0 then some (.inl ((-1), M)) else if 0 ≤ x2 ∧ x2 < 8 then (if (bAnd (bShr x1 (M ((x0 + 10000) + 2) (Int.toNat x2))) 1) = 0 then if -2147483648 ≤ (x2 + (-1)) ∧ (x2 + (-1)) ≤ 2147483647 then fX4_lastInLot_l10 x0 x1 n (x2 + (-1)) M else none else if 0 ≤ x2 ∧ x2 < 8 then some (.inl ((M ((x0 + 10000) + 2) (Int.toNat x2)), M)) else none) else none)
def fX4_lastInLot (x0 : Nat) (x1 : Int) (M : Mem) : Option (Int × Mem) := if -2147483648 ≤ ((M (x0 + 10000) 0) - 1) ∧ ((M (x0 + 10000) 0) - 1) ≤ 2147483647 then nm (((M (x0 + 10000) 0) - 1)) (fun v2 => lr (fX4_lastInLot_l10 x0 x1 1000 v2 M) (fun r => r) (fun _ => none)) else none
def fX4_exclude_l13 (x0 : Nat) (x1 : Nat) : Nat → Int → Int → Mem → Option (Int × Int × Mem)
  | 0, _, _, _ => none
  | n + 1, x2, x3, M => (if x3 < 0 then some (x2, x3, M) else if 0 ≤ x3 ∧ x3 < 8 then Option.bind (fX4_whoHasFewest x0 (((x0 + 9) + 36 + 16 * Int.toNat x3) + 8) x2 M) (fun q7 => nm (q7.1) (fun v8 => if -2147483648 ≤ (x3 + (-1)) ∧ (x3 + (-1)) ≤ 2147483647 then fX4_exclude_l13 x0 x1 n v8 (x3 + (-1)) q7.2 else none)) else none)
def fX4_exclude (x0 : Nat) (x1 : Nat) (M : Mem) : Option (Int × Mem) := Option.bind (fX4_whoIs x0 1 M) (fun q1 => nm (q1.1) (fun v2 => if -2147483648 ≤ ((q1.2 x0 7) - 1) ∧ ((q1.2 x0 7) - 1) ≤ 2147483647 then nm (((q1.2 x0 7) - 1)) (fun v4 => Option.bind (fX4_exclude_l13 x0 x1 1000 v2 v4 q1.2) (fun z10 => Option.bind (fX4_lastInLot x0 z10.1 z10.2.2) (fun q11 => nm (q11.1) (fun v12 => Option.bind ((if v12 < 0 then some (q11.2) else nm (wr q11.2 x1 1 v12) (fun M26 => if -2147483648 ≤ ((M26 x0 6) - 1) ∧ ((M26 x0 6) - 1) ≤ 2147483647 then nm (wr M26 x0 6 ((M26 x0 6) - 1)) (fun M28 => if 0 ≤ v12 ∧ v12 < 8 then nm (wr M28 (x0 + 3) (Int.toNat v12) 3) (fun M30 => if -2147483648 ≤ ((M30 x0 7) - 1) ∧ ((M30 x0 7) - 1) ≤ 2147483647 then if 0 ≤ v12 ∧ v12 < 8 then nm (wr M30 (x0 + 4) (Int.toNat v12) ((M30 x0 7) - 1)) (fun M33 => if 0 ≤ v12 ∧ v12 < 8 then nm (wr M33 (x0 + 10) (Int.toNat v12) 0) (fun M35 => some (M35)) else none) else none else none) else none) else none)) : Option (Mem)) (fun t24 => some (0, t24)))))) else none))
def fX4_goByRounds_l2 (x0 : Nat) (x1 : Nat) (x2 : Int) : Nat → Int → Mem → Option ((Int × Mem) ⊕ (Int × Mem))
  | 0, _, _ => none
  | n + 1, x3, M => (if (M (x0 + 10000) 8) < x3 then some (.inl (0, M)) else Option.bind ((if 1 < x3 then Option.bind (fX4_turnKeeps x0 M) (fun q8 => some (q8.2)) else (if x2 = 0 then Option.bind (fX4_turnKeeps x0 M) (fun q10 => some (q10.2)) else some (M))) : Option (Mem)) (fun t6 => Option.bind (fX4_workOut x0 t6) (fun q11 => Option.bind (fX4_surplus x0 q11.2) (fun q12 => nm (q12.1) (fun v13 => Option.bind (fX4_note x0 x1 x3 v13 q12.2) (fun q14 => Option.bind (fX4_whoReachesQuota x0 q14.2) (fun q15 => Option.bind (fX4_elect x0 x1 q15.1 q15.2) (fun q16 => (if (q16.2 x1 2) = 0 then (if v13 ≤ (q16.2 (x0 + 10000) 7) then Option.bind (fX4_exclude x0 x1 q16.2) (fun q19 => some (.inl (0, q19.2))) else (if x3 = (q16.2 (x0 + 10000) 8) then Option.bind (fX4_exclude x0 x1 q16.2) (fun q22 => some (.inl (0, q22.2))) else if -2147483648 ≤ (x3 + 1) ∧ (x3 + 1) ≤ 2147483647 then fX4_goByRounds_l2 x0 x1 x2 n (x3 + 1) q16.2 else none)) else some (.inl (0, q16.2)))))))))))
def fX4_goByRounds (x0 : Nat) (x1 : Nat) (x2 : Int) (M : Mem) : Option (Int × Mem) := lr (fX4_goByRounds_l2 x0 x1 x2 1000 1 M) (fun r => r) (fun _ => none)
def fX4_work_l19 (x0 : Nat) : Nat → Int → Int → Mem → Option (Int × Int × Mem)
  | 0, _, _, _ => none
  | n + 1, x1, x2, M => (if 8 ≤ x2 then some (x1, x2, M) else (if (M x0 6) ≤ 0 then some (x1, x2, M) else (if (M (x0 + 10000) 6) ≤ (M x0 5) then some (x1, x2, M) else if -2147483648 ≤ (x2 + 1) ∧ (x2 + 1) ≤ 2147483647 then nm (wr M x0 7 (x2 + 1)) (fun M7 => if 0 ≤ x2 ∧ x2 < 8 then nm (wr M7 ((x0 + 9) + 36 + 16 * Int.toNat x2) 2 0) (fun M9 => nm (wr M9 ((x0 + 9) + 36 + 16 * Int.toNat x2) 1 (-5)) (fun M10 => if -2147483648 ≤ ((M10 x0 6) + (M10 x0 5)) ∧ ((M10 x0 6) + (M10 x0 5)) ≤ 2147483647 then Option.bind ((if (M10 (x0 + 10000) 6) < ((M10 x0 6) + (M10 x0 5)) then Option.bind (fX4_goByRounds x0 ((x0 + 9) + 36 + 16 * Int.toNat x2) x1 M10) (fun q17 => some (q17.2)) else Option.bind (fX4_fill x0 ((x0 + 9) + 36 + 16 * Int.toNat x2) M10) (fun q18 => some (q18.2))) : Option (Mem)) (fun t15 => Option.bind ((if (t15 ((x0 + 9) + 36 + 16 * Int.toNat x2) 1) = (-5) then some (0) else some (1)) : Option (Int)) (fun t20 => if -2147483648 ≤ (x2 + 1) ∧ (x2 + 1) ≤ 2147483647 then fX4_work_l19 x0 n t20 (x2 + 1) t15 else none)) else none)) else none) else none)))
def fX4_work (x0 : Nat) (M : Mem) : Option (Int × Mem) := Option.bind (fX0_gather (x0 + 20) (x0 + 10000) M) (fun q1 => Option.bind (fX4_begin x0 q1.2) (fun q2 => Option.bind (fX4_work_l19 x0 1000 0 0 q2.2) (fun z23 => some (0, z23.2.2))))
def fX4_whoIsHere (x0 : Nat) (M : Mem) : Option (Int × Mem) := Option.bind (fX4_whoIs x0 1 M) (fun q1 => Option.bind (fX4_whoIs x0 2 q1.2) (fun q2 => Option.bind (fX4_whoIs x0 3 q2.2) (fun q3 => some ((bOr (bOr q1.1 q2.1) q3.1), q3.2))))
def fX4_rankAt_l79 (x0 : Nat) : Nat → Int → Int → Mem → Option ((Int × Mem) ⊕ (Int × Int × Mem))
  | 0, _, _, _ => none
  | n + 1, x2, x4, M => (if x4 < 0 then some (.inr (x2, x4, M)) else if 0 ≤ x4 ∧ x4 < 8 then (if (M ((x0 + 9) + 36 + 16 * Int.toNat x4) 1) = (-5) then if -2147483648 ≤ (x4 + (-1)) ∧ (x4 + (-1)) ≤ 2147483647 then fX4_rankAt_l79 x0 n x2 (x4 + (-1)) M else none else (if x2 = 0 then if 0 ≤ x4 ∧ x4 < 8 then some (.inl ((M ((x0 + 9) + 36 + 16 * Int.toNat x4) 1), M)) else none else if -2147483648 ≤ (x2 + (-1)) ∧ (x2 + (-1)) ≤ 2147483647 then if -2147483648 ≤ (x4 + (-1)) ∧ (x4 + (-1)) ≤ 2147483647 then fX4_rankAt_l79 x0 n (x2 + (-1)) (x4 + (-1)) M else none else none)) else none)
def fX4_rankAt_l126 (x0 : Nat) : Nat → Int → Int → Mem → Option ((Int × Mem) ⊕ (Int × Int × Mem))
  | 0, _, _, _ => none
  | n + 1, x2, x4, M => (if (M (x0 + 10000) 0) ≤ x4 then some (.inl ((-1), M)) else if 0 ≤ x4 ∧ x4 < 8 then (if (M (x0 + 3) (Int.toNat x4)) = 0 then (if x2 = 0 then some (.inl (x4, M)) else if -2147483648 ≤ (x2 + (-1)) ∧ (x2 + (-1)) ≤ 2147483647 then if -2147483648 ≤ (x4 + 1) ∧ (x4 + 1) ≤ 2147483647 then fX4_rankAt_l126 x0 n (x2 + (-1)) (x4 + 1) M else none else none) else if -2147483648 ≤ (x4 + 1) ∧ (x4 + 1) ≤ 2147483647 then fX4_rankAt_l126 x0 n x2 (x4 + 1) M else none) else none)
def fX4_rankAt (x0 : Nat) (x1 : Int) (M : Mem) : Option (Int × Mem) := (if x1 < 0 then if -2147483648 ≤ (x1 - (M x0 5)) ∧ (x1 - (M x0 5)) ≤ 2147483647 then nm ((x1 - (M x0 5))) (fun v3 => if -2147483648 ≤ ((M x0 7) - 1) ∧ ((M x0 7) - 1) ≤ 2147483647 then Option.bind (fX4_stageAt x0 ((M x0 7) - 1) M) (fun q5 => oc q5.1 (if -2147483648 ≤ (v3 - (q5.2 x0 6)) ∧ (v3 - (q5.2 x0 6)) ≤ 2147483647 then nm ((v3 - (q5.2 x0 6))) (fun v9 => if -2147483648 ≤ ((q5.2 x0 7) - 1) ∧ ((q5.2 x0 7) - 1) ≤ 2147483647 then nm (((q5.2 x0 7) - 1)) (fun v11 => lr (fX4_rankAt_l79 x0 1000 v9 v11 q5.2) (fun r => r) (fun t21 => lr (fX4_rankAt_l126 x0 1000 t21.1 0 t21.2.2) (fun r => r) (fun _ => none))) else none) else none) (fun a6 => if Sh a6 = (12, 9) then (if (q5.2 x0 6) ≤ v3 then if -2147483648 ≤ (v3 - (q5.2 x0 6)) ∧ (v3 - (q5.2 x0 6)) ≤ 2147483647 then nm ((v3 - (q5.2 x0 6))) (fun v32 => if -2147483648 ≤ ((q5.2 x0 7) - 1) ∧ ((q5.2 x0 7) - 1) ≤ 2147483647 then nm (((q5.2 x0 7) - 1)) (fun v34 => lr (fX4_rankAt_l79 x0 1000 v32 v34 q5.2) (fun r => r) (fun t36 => lr (fX4_rankAt_l126 x0 1000 t36.1 0 t36.2.2) (fun r => r) (fun _ => none))) else none) else none else Option.bind (fX4_whoIs x0 1 q5.2) (fun q38 => Option.bind (fX4_leader x0 (a6 + 8) q38.1 v3 q38.2) (fun q39 => some (q39.1, q39.2)))) else none)) else none) else none else (if (M x0 5) ≤ x1 then if -2147483648 ≤ (x1 - (M x0 5)) ∧ (x1 - (M x0 5)) ≤ 2147483647 then nm ((x1 - (M x0 5))) (fun v42 => if -2147483648 ≤ ((M x0 7) - 1) ∧ ((M x0 7) - 1) ≤ 2147483647 then Option.bind (fX4_stageAt x0 ((M x0 7) - 1) M) (fun q44 => oc q44.1 (if -2147483648 ≤ (v42 - (q44.2 x0 6)) ∧ (v42 - (q44.2 x0 6)) ≤ 2147483647 then nm ((v42 - (q44.2 x0 6))) (fun v48 => if -2147483648 ≤ ((q44.2 x0 7) - 1) ∧ ((q44.2 x0 7) - 1) ≤ 2147483647 then nm (((q44.2 x0 7) - 1)) (fun v50 => lr (fX4_rankAt_l79 x0 1000 v48 v50 q44.2) (fun r => r) (fun t52 => lr (fX4_rankAt_l126 x0 1000 t52.1 0 t52.2.2) (fun r => r) (fun _ => none))) else none) else none) (fun a45 => if Sh a45 = (12, 9) then (if (q44.2 x0 6) ≤ v42 then if -2147483648 ≤ (v42 - (q44.2 x0 6)) ∧ (v42 - (q44.2 x0 6)) ≤ 2147483647 then nm ((v42 - (q44.2 x0 6))) (fun v56 => if -2147483648 ≤ ((q44.2 x0 7) - 1) ∧ ((q44.2 x0 7) - 1) ≤ 2147483647 then nm (((q44.2 x0 7) - 1)) (fun v58 => lr (fX4_rankAt_l79 x0 1000 v56 v58 q44.2) (fun r => r) (fun t60 => lr (fX4_rankAt_l126 x0 1000 t60.1 0 t60.2.2) (fun r => r) (fun _ => none))) else none) else none else Option.bind (fX4_whoIs x0 1 q44.2) (fun q62 => Option.bind (fX4_leader x0 (a45 + 8) q62.1 v42 q62.2) (fun q63 => some (q63.1, q63.2)))) else none)) else none) else none else if 0 ≤ x1 ∧ x1 < 8 then some ((M (x0 + 5) (Int.toNat x1)), M) else none))
def fX5_become (x0 : Nat) (x1 : Int) (x2 : Int) (M : Mem) : Option (Int × Mem) := nm (wr M x0 0 x1) (fun M1 => nm (wr M1 x0 1 x2) (fun M2 => Option.bind (fJ7_fill_d0a16_60 (x0 + 3) 0 M2) (fun q3 => some (0, q3.2))))
def fX5_fitted (x0 : Nat) (x1 : Int) (M : Mem) : Option (Int × Mem) := (if (M x0 0) = 0 then some ((w8 (w32 x1)), M) else if (M x0 0) = 1 then some ((w16 (w32 x1)), M) else if (M x0 0) = 2 then some ((w32 x1), M) else if (M x0 0) = 3 then some (x1, M) else if (M x0 0) = 4 then Option.bind ((if x1 = 0 then some (0) else some (1)) : Option (Int)) (fun t7 => some (t7, M)) else some (x1, M))
def fX5_hasRoom (x0 : Nat) (x1 : Int) (x2 : Int) (M : Mem) : Option (Int × Mem) := Option.bind ((if x1 < 0 then some (0) else (if (M x0 1) < x1 then some (0) else if -2147483648 ≤ ((M x0 1) - x1) ∧ ((M x0 1) - x1) ≤ 2147483647 then (if ((M x0 1) - x1) < x2 then some (0) else some (1)) else none)) : Option (Int)) (fun t5 => if t5 = 0 ∨ t5 = 1 then some (t5, M) else none)
def fX6_sign (x0 : Nat) (M : Mem) : Option (Int × Mem) := Option.bind ((if (M x0 6) < 0 then some ((-1)) else (if (M x0 0) ≤ (M x0 6) then some ((-1)) else if 0 ≤ (M x0 6) ∧ (M x0 6) < 100 then some ((M (x0 + 2) (Int.toNat (M x0 6)))) else none)) : Option (Int)) (fun t4 => some (t4, M))
def fX6_number_l4 (x0 : Nat) (x1 : Int) : Nat → Int → Int → Mem → Option (Int × Int × Mem)
  | 0, _, _, _ => none
  | n + 1, x2, x3, M => (if x1 ≤ x3 then some (x2, x3, M) else Option.bind (fX6_sign x0 M) (fun q2 => (if q2.1 < 48 then some (x2, x3, q2.2) else Option.bind (fX6_sign x0 q2.2) (fun q4 => (if 57 < q4.1 then some (x2, x3, q4.2) else if -2147483648 ≤ (x2 * 10) ∧ (x2 * 10) ≤ 2147483647 then Option.bind (fX6_sign x0 q4.2) (fun q7 => if -2147483648 ≤ ((x2 * 10) + q7.1) ∧ ((x2 * 10) + q7.1) ≤ 2147483647 then if -2147483648 ≤ (((x2 * 10) + q7.1) - 48) ∧ (((x2 * 10) + q7.1) - 48) ≤ 2147483647 then nm ((((x2 * 10) + q7.1) - 48)) (fun v10 => if -2147483648 ≤ ((q7.2 x0 6) + 1) ∧ ((q7.2 x0 6) + 1) ≤ 2147483647 then nm (wr q7.2 x0 6 ((q7.2 x0 6) + 1)) (fun M12 => if -2147483648 ≤ (x3 + 1) ∧ (x3 + 1) ≤ 2147483647 then fX6_number_l4 x0 x1 n v10 (x3 + 1) M12 else none) else none) else none else none) else none)))))
def fX6_number (x0 : Nat) (x1 : Int) (M : Mem) : Option (Int × Mem) := Option.bind (fX6_number_l4 x0 x1 1000 0 0 M) (fun z14 => Option.bind ((if z14.2.1 = 0 then some (1) else some (0)) : Option (Int)) (fun t16 => if t16 = 0 ∨ t16 = 1 then nm (wr z14.2.2 x0 7 t16) (fun M19 => some (z14.1, M19)) else none))
def fX6_readsBallot (x0 : Nat) (x1 : Int) (M : Mem) : Option (Int × Mem) := Option.bind (fX6_number x0 8 M) (fun q1 => if 0 ≤ x1 ∧ x1 < 12 then nm (wr q1.2 (x0 + 5) (Int.toNat x1) q1.1) (fun M3 => (if (M3 x0 7) = 0 then Option.bind (fX6_sign x0 M3) (fun q5 => (if q5.1 = 42 then if -2147483648 ≤ ((q5.2 x0 6) + 1) ∧ ((q5.2 x0 6) + 1) ≤ 2147483647 then nm (wr q5.2 x0 6 ((q5.2 x0 6) + 1)) (fun M8 => Option.bind (fX6_number x0 7 M8) (fun q9 => if 0 ≤ x1 ∧ x1 < 12 then nm (wr q9.2 (x0 + 6) (Int.toNat x1) q9.1) (fun M11 => Option.bind ((if (M11 x0 7) = 0 then some (1) else some (0)) : Option (Int)) (fun t13 => if t13 = 0 ∨ t13 = 1 then some (t13, M11) else none)) else none)) else none else some (0, q5.2))) else some (0, M3))) else none)
def fX6_readsClause (x0 : Nat) (x1 : Int) (M : Mem) : Option (Int × Mem) := nm (wr M x0 7 0) (fun M1 => Option.bind (fX6_sign x0 M1) (fun q2 => if 0 ≤ x1 ∧ x1 < 12 then nm (wr q2.2 (x0 + 4) (Int.toNat x1) q2.1) (fun M4 => Option.bind (fX6_sign x0 M4) (fun q5 => (if q5.1 = 98 then if -2147483648 ≤ ((q5.2 x0 6) + 1) ∧ ((q5.2 x0 6) + 1) ≤ 2147483647 then nm (wr q5.2 x0 6 ((q5.2 x0 6) + 1)) (fun M8 => Option.bind (fX6_readsBallot x0 x1 M8) (fun q9 => if q9.1 = 0 ∨ q9.1 = 1 then some (q9.1, q9.2) else none)) else none else if q5.1 = 99 then if -2147483648 ≤ ((q5.2 x0 6) + 1) ∧ ((q5.2 x0 6) + 1) ≤ 2147483647 then nm (wr q5.2 x0 6 ((q5.2 x0 6) + 1)) (fun M12 => some (1, M12)) else none else if q5.1 = 103 then if -2147483648 ≤ ((q5.2 x0 6) + 1) ∧ ((q5.2 x0 6) + 1) ≤ 2147483647 then nm (wr q5.2 x0 6 ((q5.2 x0 6) + 1)) (fun M15 => Option.bind (fX6_number x0 1 M15) (fun q16 => if 0 ≤ x1 ∧ x1 < 12 then nm (wr q16.2 (x0 + 5) (Int.toNat x1) q16.1) (fun M18 => Option.bind ((if (M18 x0 7) = 0 then some (1) else some (0)) : Option (Int)) (fun t20 => if t20 = 0 ∨ t20 = 1 then some (t20, M18) else none)) else none)) else none else if q5.1 = 108 then if -2147483648 ≤ ((q5.2 x0 6) + 1) ∧ ((q5.2 x0 6) + 1) ≤ 2147483647 then nm (wr q5.2 x0 6 ((q5.2 x0 6) + 1)) (fun M24 => Option.bind (fX6_number x0 9 M24) (fun q25 => if 0 ≤ x1 ∧ x1 < 12 then nm (wr q25.2 (x0 + 5) (Int.toNat x1) q25.1) (fun M27 => Option.bind ((if (M27 x0 7) = 0 then some (1) else some (0)) : Option (Int)) (fun t29 => if t29 = 0 ∨ t29 = 1 then some (t29, M27) else none)) else none)) else none else if q5.1 = 115 then if -2147483648 ≤ ((q5.2 x0 6) + 1) ∧ ((q5.2 x0 6) + 1) ≤ 2147483647 then nm (wr q5.2 x0 6 ((q5.2 x0 6) + 1)) (fun M33 => Option.bind (fX6_number x0 1 M33) (fun q34 => if 0 ≤ x1 ∧ x1 < 12 then nm (wr q34.2 (x0 + 5) (Int.toNat x1) q34.1) (fun M36 => Option.bind ((if (M36 x0 7) = 0 then some (1) else some (0)) : Option (Int)) (fun t38 => if t38 = 0 ∨ t38 = 1 then some (t38, M36) else none)) else none)) else none else some (0, q5.2)))) else none))
def fX7_addCause (x0 : Nat) (x1 : Int) (x2 : Int) (M : Mem) : Option (Int × Mem) := Option.bind ((if 3 ≤ (M x0 0) then some (M) else if 0 ≤ (M x0 0) ∧ (M x0 0) < 3 then nm (wr M (x0 + 2) (Int.toNat (M x0 0)) x1) (fun M11 => if 0 ≤ (M11 x0 0) ∧ (M11 x0 0) < 3 then nm (wr M11 (x0 + 3) (Int.toNat (M11 x0 0)) x2) (fun M13 => if -2147483648 ≤ ((M13 x0 0) + 1) ∧ ((M13 x0 0) + 1) ≤ 2147483647 then nm (wr M13 x0 0 ((M13 x0 0) + 1)) (fun M15 => some (M15)) else none) else none) else none) : Option (Mem)) (fun t8 => some (0, t8))
def fX7_begin (x0 : Nat) (x1 : Int) (x2 : Int) (M : Mem) : Option (Int × Mem) := nm (wr M x0 0 0) (fun M1 => Option.bind (fX7_addCause x0 x1 x2 M1) (fun q2 => some (0, q2.2)))
def fX6_faultToldTo_l12 (x0 : Nat) (x1 : Nat) : Nat → Int → Mem → Option ((Int × Mem) ⊕ (Int × Mem))
  | 0, _, _ => none
  | n + 1, x2, M => (if 12 ≤ x2 then Option.bind (fX7_begin x1 1 (M x0 2) M) (fun q4 => Option.bind (fX6_sign x0 q4.2) (fun q5 => Option.bind (fX7_addCause x1 4 q5.1 q5.2) (fun q6 => some (.inl ((q6.2 x0 6), q6.2))))) else nm ((M x0 6)) (fun v7 => Option.bind (fX6_readsClause x0 x2 M) (fun q8 => (if q8.1 = 0 then Option.bind (fX7_begin x1 1 (q8.2 x0 2) q8.2) (fun q25 => Option.bind (fX7_addCause x1 2 v7 q25.2) (fun q26 => Option.bind ((if (q26.2 x0 7) = 0 then Option.bind (fX6_sign x0 q26.2) (fun q33 => Option.bind (fX7_addCause x1 4 q33.1 q33.2) (fun q34 => some (q34.2))) else Option.bind (fX7_addCause x1 3 (q26.2 x0 6) q26.2) (fun q35 => some (q35.2))) : Option (Mem)) (fun t31 => some (.inl ((t31 x0 6), t31))))) else if -2147483648 ≤ ((q8.2 x0 2) + 1) ∧ ((q8.2 x0 2) + 1) ≤ 2147483647 then nm (wr q8.2 x0 2 ((q8.2 x0 2) + 1)) (fun M11 => (if (M11 x0 6) < (M11 x0 0) then Option.bind (fX6_sign x0 M11) (fun q13 => (if q13.1 = 59 then (if (q13.2 x0 2) = 12 then Option.bind (fX7_begin x1 1 (q13.2 x0 2) q13.2) (fun q22 => Option.bind (fX6_sign x0 q22.2) (fun q23 => Option.bind (fX7_addCause x1 4 q23.1 q23.2) (fun q24 => some (.inl ((q24.2 x0 6), q24.2))))) else if -2147483648 ≤ ((q13.2 x0 6) + 1) ∧ ((q13.2 x0 6) + 1) ≤ 2147483647 then nm (wr q13.2 x0 6 ((q13.2 x0 6) + 1)) (fun M20 => if -2147483648 ≤ (x2 + 1) ∧ (x2 + 1) ≤ 2147483647 then fX6_faultToldTo_l12 x0 x1 n (x2 + 1) M20 else none) else none) else Option.bind (fX7_begin x1 1 (q13.2 x0 2) q13.2) (fun q15 => Option.bind (fX6_sign x0 q15.2) (fun q16 => Option.bind (fX7_addCause x1 4 q16.1 q16.2) (fun q17 => some (.inl ((q17.2 x0 6), q17.2))))))) else some (.inl ((-5), M11)))) else none))))
def fX6_faultToldTo (x0 : Nat) (x1 : Nat) (M : Mem) : Option (Int × Mem) := nm (wr M x0 2 0) (fun M1 => nm (wr M1 x0 6 0) (fun M2 => lr (fX6_faultToldTo_l12 x0 x1 1000 0 M2) (fun r => r) (fun _ => none)))
def fX8_candidate (x0 : Nat) (M : Mem) : Option (Int × Mem) := (if (M (x0 + 10990) 0) < 8 then nm ((M (x0 + 10990) 0)) (fun v2 => if 0 ≤ v2 ∧ v2 < 8 then nm (wr M ((x0 + 10990) + 2) (Int.toNat v2) v2) (fun M4 => if 0 ≤ v2 ∧ v2 < 8 then nm (wr M4 ((x0 + 10990) + 3) (Int.toNat v2) 0) (fun M6 => if -2147483648 ≤ (v2 + 1) ∧ (v2 + 1) ≤ 2147483647 then nm (wr M6 (x0 + 10990) 0 (v2 + 1)) (fun M8 => nm (wr M8 x0 6 0) (fun M9 => some (v2, M9))) else none) else none) else none) else some ((-4), M))
def fX8_isOver_l20 (x0 : Nat) (x1 : Int) (x2 : Int) (x3 : Int) : Nat → Int → Int → Mem → Option ((Int × Mem) ⊕ (Int × Int × Mem))
  | 0, _, _, _ => none
  | n + 1, x4, x6, M => (if x3 < x6 then some (.inl (0, M)) else (if 24 ≤ x6 then some (.inl (0, M)) else Option.bind ((if x6 = x1 then some (x2) else if 0 ≤ x6 ∧ x6 < 25 then some ((M ((x0 + 10990) + 6) (Int.toNat x6))) else none) : Option (Int)) (fun t7 => if -9223372036854775808 ≤ (x4 + t7) ∧ (x4 + t7) ≤ 9223372036854775807 then nm ((x4 + t7)) (fun v11 => (if v11 ≤ 4611686 then if -2147483648 ≤ (x6 + 1) ∧ (x6 + 1) ≤ 2147483647 then fX8_isOver_l20 x0 x1 x2 x3 n v11 (x6 + 1) M else none else Option.bind (fX7_begin (x0 + 300) 5 (M (x0 + 10990) 3) M) (fun q14 => Option.bind (fX7_addCause (x0 + 300) 6 x6 q14.2) (fun q15 => Option.bind (fX7_addCause (x0 + 300) 7 0 q15.2) (fun q16 => some (.inl (1, q16.2))))))) else none)))
def fX8_isOver (x0 : Nat) (x1 : Int) (x2 : Int) (M : Mem) : Option (Int × Mem) := if -2147483648 ≤ ((M (x0 + 10990) 3) - 1) ∧ ((M (x0 + 10990) 3) - 1) ≤ 2147483647 then nm ((if ((M (x0 + 10990) 3) - 1) < x1 then x1 else ((M (x0 + 10990) 3) - 1))) (fun v2 => lr (fX8_isOver_l20 x0 x1 x2 v2 1000 0 0 M) (fun r => r) (fun _ => none)) else none
def fX8_ballot (x0 : Nat) (x1 : Int) (x2 : Int) (M : Mem) : Option (Int × Mem) := Option.bind (fX2_isRow x1 (M (x0 + 10990) 0) M) (fun q1 => (if q1.1 = 0 then some ((-2), q1.2) else (if x2 < 0 then some ((-2), q1.2) else (if x2 ≤ 1000000 then (if (q1.2 (x0 + 10990) 3) < 24 then nm ((q1.2 (x0 + 10990) 3)) (fun v6 => Option.bind (fX8_isOver x0 v6 x2 q1.2) (fun q7 => (if q7.1 = 0 then Option.bind (fX2_filledUp x1 q7.2) (fun q9 => if 0 ≤ v6 ∧ v6 < 25 then nm (wr q9.2 ((x0 + 10990) + 5) (Int.toNat v6) q9.1) (fun M11 => if 0 ≤ v6 ∧ v6 < 25 then nm (wr M11 ((x0 + 10990) + 6) (Int.toNat v6) x2) (fun M13 => if -2147483648 ≤ (v6 + 1) ∧ (v6 + 1) ≤ 2147483647 then nm (wr M13 (x0 + 10990) 3 (v6 + 1)) (fun M15 => nm (wr M15 x0 6 0) (fun M16 => some (v6, M16))) else none) else none) else none) else some ((-15), q7.2)))) else some ((-4), q1.2)) else some ((-2), q1.2)))))
def fX8_many (x0 : Nat) (x1 : Int) (x2 : Int) (M : Mem) : Option (Int × Mem) := Option.bind (fX1_hasBallot (x0 + 10990) x1 M) (fun q1 => (if q1.1 = 0 then some ((-1), q1.2) else (if x2 < 0 then some ((-2), q1.2) else (if x2 ≤ 1000000 then Option.bind (fX8_isOver x0 x1 x2 q1.2) (fun q5 => (if q5.1 = 0 then if 0 ≤ x1 ∧ x1 < 25 then nm ((q5.2 ((x0 + 10990) + 6) (Int.toNat x1))) (fun v8 => if 0 ≤ x1 ∧ x1 < 25 then nm (wr q5.2 ((x0 + 10990) + 6) (Int.toNat x1) x2) (fun M10 => nm (wr M10 x0 6 0) (fun M11 => some (v8, M11))) else none) else none else some ((-15), q5.2))) else some ((-2), q1.2)))))
def fX8_drop (x0 : Nat) (M : Mem) : Option (Int × Mem) := (if 0 < (M (x0 + 10990) 3) then if -2147483648 ≤ ((M (x0 + 10990) 3) - 1) ∧ ((M (x0 + 10990) 3) - 1) ≤ 2147483647 then nm (wr M (x0 + 10990) 3 ((M (x0 + 10990) 3) - 1)) (fun M3 => nm (wr M3 x0 6 0) (fun M4 => some ((M4 (x0 + 10990) 3), M4))) else none else some ((-3), M))
def fX8_gone (x0 : Nat) (x1 : Int) (x2 : Int) (M : Mem) : Option (Int × Mem) := Option.bind (fX1_hasCandidate (x0 + 10990) x1 M) (fun q1 => (if q1.1 = 0 then some ((-1), q1.2) else if 0 ≤ x1 ∧ x1 < 8 then Option.bind ((if (q1.2 ((x0 + 10990) + 3) (Int.toNat x1)) = 0 then some (0) else some (1)) : Option (Int)) (fun t5 => if 0 ≤ x1 ∧ x1 < 8 then if x2 = 0 ∨ x2 = 1 then nm (wr q1.2 ((x0 + 10990) + 3) (Int.toNat x1) x2) (fun M9 => nm (wr M9 x0 6 0) (fun M10 => some (t5, M10))) else none else none) else none))
def fX8_putSeats (x0 : Nat) (x1 : Int) (M : Mem) : Option (Int × Mem) := nm ((M (x0 + 10990) 6)) (fun v1 => nm (wr M (x0 + 10990) 6 x1) (fun M2 => nm (wr M2 x0 6 0) (fun M3 => some (v1, M3))))
def fX8_putLimit (x0 : Nat) (x1 : Int) (M : Mem) : Option (Int × Mem) := nm ((M (x0 + 10990) 7)) (fun v1 => nm (wr M (x0 + 10990) 7 x1) (fun M2 => nm (wr M2 x0 6 0) (fun M3 => some (v1, M3))))
def fX8_putRounds (x0 : Nat) (x1 : Int) (M : Mem) : Option (Int × Mem) := nm ((M (x0 + 10990) 8)) (fun v1 => nm (wr M (x0 + 10990) 8 x1) (fun M2 => nm (wr M2 x0 6 0) (fun M3 => some (v1, M3))))
def fX8_set (x0 : Nat) (x1 : Int) (x2 : Int) (M : Mem) : Option (Int × Mem) := (if x1 = 0 then Option.bind ((if x2 < 1 then some ((-2), M) else (if x2 ≤ 7 then Option.bind (fX8_putSeats x0 x2 M) (fun q8 => some (q8.1, q8.2)) else some ((-2), M))) : Option (Int × Mem)) (fun t5 => some (t5.1, t5.2)) else if x1 = 1 then Option.bind ((if x2 < 0 then some ((-2), M) else (if x2 ≤ 1000000000 then Option.bind (fX8_putLimit x0 x2 M) (fun q16 => some (q16.1, q16.2)) else some ((-2), M))) : Option (Int × Mem)) (fun t13 => some (t13.1, t13.2)) else if x1 = 2 then Option.bind ((if x2 < 1 then some ((-2), M) else (if x2 ≤ 20 then Option.bind (fX8_putRounds x0 x2 M) (fun q24 => some (q24.1, q24.2)) else some ((-2), M))) : Option (Int × Mem)) (fun t21 => some (t21.1, t21.2)) else some ((-1), M))
def fX8_swap (x0 : Nat) (x1 : Int) (x2 : Int) (M : Mem) : Option (Int × Mem) := Option.bind (fX1_hasCandidate (x0 + 10990) x1 M) (fun q1 => (if q1.1 = 0 then some ((-1), q1.2) else Option.bind (fX1_hasCandidate (x0 + 10990) x2 q1.2) (fun q3 => (if q3.1 = 0 then some ((-1), q3.2) else (if x1 = x2 then some ((-1), q3.2) else if 0 ≤ x1 ∧ x1 < 8 then nm ((q3.2 ((x0 + 10990) + 2) (Int.toNat x1))) (fun v7 => if 0 ≤ x2 ∧ x2 < 8 then if 0 ≤ x1 ∧ x1 < 8 then nm (wr q3.2 ((x0 + 10990) + 2) (Int.toNat x1) (q3.2 ((x0 + 10990) + 2) (Int.toNat x2))) (fun M10 => if 0 ≤ x2 ∧ x2 < 8 then nm (wr M10 ((x0 + 10990) + 2) (Int.toNat x2) v7) (fun M12 => nm (wr M12 x0 6 0) (fun M13 => if 0 ≤ x1 ∧ x1 < 8 then some ((M13 ((x0 + 10990) + 2) (Int.toNat x1)), M13) else none)) else none) else none else none) else none)))))
def fX8_tallied (x0 : Nat) (M : Mem) : Option (Option Nat × Mem) := Option.bind ((if (M x0 6) = 0 then Option.bind (fX4_work (x0 + 990) M) (fun q6 => nm (wr q6.2 x0 6 1) (fun M7 => some (M7))) else some (M)) : Option (Mem)) (fun t4 => some (some (x0 + 990), t4))
def fX8_of (x0 : Nat) (x1 : Int) (x2 : Int) (M : Mem) : Option (Int × Mem) := Option.bind (fX1_hasCandidate (x0 + 10990) x1 M) (fun q1 => (if q1.1 = 0 then some ((-1), q1.2) else (if x2 = 0 then Option.bind (fX8_tallied x0 q1.2) (fun q4 => oc q4.1 (none) (fun a5 => if Sh a5 = (13, 14) then if 0 ≤ x1 ∧ x1 < 8 then some ((q4.2 (a5 + 3) (Int.toNat x1)), q4.2) else none else none)) else if x2 = 1 then Option.bind (fX8_tallied x0 q1.2) (fun q9 => oc q9.1 (none) (fun a10 => if Sh a10 = (13, 14) then if 0 ≤ x1 ∧ x1 < 8 then some ((q9.2 (a10 + 4) (Int.toNat x1)), q9.2) else none else none)) else if x2 = 2 then Option.bind (fX1_placeInLot (x0 + 10990) x1 q1.2) (fun q14 => some (q14.1, q14.2)) else if x2 = 3 then Option.bind (fX1_manyFirst (x0 + 10990) x1 q1.2) (fun q16 => some (q16.1, q16.2)) else some ((-1), q1.2))))
def fX8_ballotOf (x0 : Nat) (x1 : Int) (x2 : Int) (M : Mem) : Option (Int × Mem) := Option.bind (fX1_hasBallot (x0 + 10990) x1 M) (fun q1 => (if q1.1 = 0 then some ((-1), q1.2) else (if x2 = 0 then if 0 ≤ x1 ∧ x1 < 25 then some ((q1.2 ((x0 + 10990) + 6) (Int.toNat x1)), q1.2) else none else if x2 = 1 then if 0 ≤ x1 ∧ x1 < 25 then Option.bind (fX2_length (q1.2 ((x0 + 10990) + 5) (Int.toNat x1)) q1.2) (fun q7 => some (q7.1, q7.2)) else none else if x2 = 2 then Option.bind (fX1_firstHere (x0 + 10990) x1 q1.2) (fun q9 => some (q9.1, q9.2)) else some ((-1), q1.2))))
def fX8_rowOf (x0 : Nat) (x1 : Int) (x2 : Int) (M : Mem) : Option (Int × Mem) := Option.bind (fX1_hasBallot (x0 + 10990) x1 M) (fun q1 => (if q1.1 = 0 then some ((-1), q1.2) else if 0 ≤ x1 ∧ x1 < 25 then nm ((q1.2 ((x0 + 10990) + 5) (Int.toNat x1))) (fun v4 => Option.bind ((if x2 < 0 then some ((-1), q1.2) else Option.bind (fX2_length v4 q1.2) (fun q11 => (if x2 < q11.1 then Option.bind (fX2_at v4 x2 q11.2) (fun q13 => some (q13.1, q13.2)) else some ((-1), q11.2)))) : Option (Int × Mem)) (fun t9 => some (t9.1, t9.2))) else none))
def fX8_told (x0 : Nat) (x1 : Int) (M : Mem) : Option (Int × Mem) := (if x1 = 0 then some ((M (x0 + 10990) 0), M) else if x1 = 1 then some ((M (x0 + 10990) 3), M) else if x1 = 2 then Option.bind (fX8_tallied x0 M) (fun q4 => oc q4.1 (none) (fun a5 => if Sh a5 = (13, 14) then some ((q4.2 a5 7), q4.2) else none)) else if x1 = 3 then some ((M (x0 + 10990) 6), M) else if x1 = 4 then some ((M (x0 + 10990) 7), M) else if x1 = 5 then some ((M (x0 + 10990) 8), M) else if x1 = 6 then Option.bind (fX8_tallied x0 M) (fun q11 => oc q11.1 (none) (fun a12 => if Sh a12 = (13, 14) then some ((q11.2 a12 5), q11.2) else none)) else if x1 = 7 then Option.bind (fX8_tallied x0 M) (fun q15 => oc q15.1 (none) (fun a16 => if Sh a16 = (13, 14) then Option.bind (fX4_whoIs a16 2 q15.2) (fun q18 => some (q18.1, q18.2)) else none)) else if x1 = 8 then Option.bind (fX8_tallied x0 M) (fun q20 => oc q20.1 (none) (fun a21 => if Sh a21 = (13, 14) then some ((q20.2 (a21 + 20) 0), q20.2) else none)) else some ((-1), M))
def fX8_stageOf (x0 : Nat) (x1 : Int) (x2 : Int) (M : Mem) : Option (Int × Mem) := Option.bind (fX8_tallied x0 M) (fun q1 => oc q1.1 (none) (fun a2 => if Sh a2 = (13, 14) then Option.bind (fX4_stageAt a2 x1 q1.2) (fun q4 => oc q4.1 (some ((-1), q4.2)) (fun a5 => if Sh a5 = (12, 9) then (if x2 = 0 then some ((q4.2 a5 0), q4.2) else if x2 = 1 then some ((q4.2 a5 1), q4.2) else if x2 = 2 then some ((q4.2 a5 2), q4.2) else some ((-1), q4.2)) else none)) else none))
def fX8_amount (x0 : Nat) (x1 : Int) (x2 : Int) (M : Mem) : Option (Int × Mem) := Option.bind (fX8_tallied x0 M) (fun q1 => oc q1.1 (none) (fun a2 => if Sh a2 = (13, 14) then Option.bind (fX4_stageAt a2 x1 q1.2) (fun q4 => oc q4.1 (some ((-9223372036854775808), q4.2)) (fun a5 => if Sh a5 = (12, 9) then (if x2 = 0 then some ((q4.2 a5 3), q4.2) else if x2 = 1 then some ((q4.2 a5 4), q4.2) else if x2 = 2 then some ((q4.2 a5 5), q4.2) else if x2 = 3 then some ((q4.2 a5 6), q4.2) else some ((-9223372036854775808), q4.2)) else none)) else none))
def fX8_votes (x0 : Nat) (x1 : Int) (x2 : Int) (x3 : Int) (M : Mem) : Option (Int × Mem) := Option.bind (fX8_tallied x0 M) (fun q1 => oc q1.1 (none) (fun a2 => if Sh a2 = (13, 14) then Option.bind (fX4_stageAt a2 x1 q1.2) (fun q4 => oc q4.1 (some ((-9223372036854775808), q4.2)) (fun a5 => if Sh a5 = (12, 9) then Option.bind (fX1_hasCandidate (x0 + 10990) x2 q4.2) (fun q7 => (if q7.1 = 0 then some ((-9223372036854775808), q7.2) else (if x3 = 0 then if 0 ≤ x2 ∧ x2 < 8 then some ((q7.2 (a5 + 8) (Int.toNat x2)), q7.2) else none else if x3 = 1 then if 0 ≤ x2 ∧ x2 < 8 then some ((q7.2 (a5 + 9) (Int.toNat x2)), q7.2) else none else some ((-9223372036854775808), q7.2)))) else none)) else none))
def fX8_elected (x0 : Nat) (x1 : Int) (M : Mem) : Option (Int × Mem) := Option.bind (fX8_tallied x0 M) (fun q1 => oc q1.1 ((if x1 < 0 then some ((-5), q1.2) else none)) (fun a2 => if Sh a2 = (13, 14) then Option.bind ((if x1 < 0 then some ((-5)) else (if x1 < (q1.2 a2 5) then if 0 ≤ x1 ∧ x1 < 8 then some ((q1.2 (a2 + 5) (Int.toNat x1))) else none else some ((-5)))) : Option (Int)) (fun t9 => some (t9, q1.2)) else none))
def fX8_ranked (x0 : Nat) (x1 : Int) (M : Mem) : Option (Int × Mem) := Option.bind (fX1_hasCandidate (x0 + 10990) x1 M) (fun q1 => Option.bind ((if q1.1 = 0 then some ((-1), q1.2) else Option.bind (fX8_tallied x0 q1.2) (fun q9 => oc q9.1 (none) (fun a10 => if Sh a10 = (13, 14) then Option.bind (fX4_rankAt a10 x1 q9.2) (fun q12 => some (q12.1, q12.2)) else none))) : Option (Int × Mem)) (fun t7 => some (t7.1, t7.2)))
def fX8_standing (x0 : Nat) (x1 : Int) (x2 : Int) (M : Mem) : Option (Int × Mem) := Option.bind (fX8_tallied x0 M) (fun q1 => oc q1.1 (none) (fun a2 => if Sh a2 = (13, 14) then Option.bind (fX4_stageAt a2 x1 q1.2) (fun q4 => oc q4.1 (some ((-1), q4.2)) (fun a5 => if Sh a5 = (12, 9) then Option.bind (fX1_hasCandidate (x0 + 10990) x2 q4.2) (fun q7 => (if q7.1 = 0 then some ((-1), q7.2) else Option.bind (fX4_whoIsHere a2 q7.2) (fun q9 => Option.bind (fX4_leader a2 (a5 + 8) q9.1 x2 q9.2) (fun q10 => some (q10.1, q10.2))))) else none)) else none))
def fX8_pile (x0 : Nat) (x1 : Int) (x2 : Int) (M : Mem) : Option (Int × Mem) := Option.bind (fX8_tallied x0 M) (fun q1 => oc q1.1 (none) (fun a2 => if Sh a2 = (13, 14) then (if x1 < 0 then some ((-1), q1.2) else (if x1 < (q1.2 (a2 + 20) 0) then (if x2 = 0 then if 0 ≤ x1 ∧ x1 < 25 then Option.bind (fX2_asTold (q1.2 ((a2 + 20) + 2) (Int.toNat x1)) q1.2) (fun q8 => some (q8.1, q8.2)) else none else if x2 = 1 then if 0 ≤ x1 ∧ x1 < 25 then some ((q1.2 ((a2 + 20) + 3) (Int.toNat x1)), q1.2) else none else some ((-1), q1.2)) else some ((-1), q1.2))) else none))
def fX8_preferred (x0 : Nat) (x1 : Int) (x2 : Int) (M : Mem) : Option (Int × Mem) := Option.bind (fX1_hasCandidate (x0 + 10990) x1 M) (fun q1 => (if q1.1 = 0 then some ((-1), q1.2) else Option.bind (fX1_hasCandidate (x0 + 10990) x2 q1.2) (fun q3 => (if q3.1 = 0 then some ((-1), q3.2) else (if x1 = x2 then some ((-1), q3.2) else Option.bind (fX1_manyAhead (x0 + 10990) x1 x2 q3.2) (fun q6 => some (q6.1, q6.2)))))))
def fX8_beatsAll_l2 (x0 : Nat) (x1 : Int) : Nat → Int → Mem → Option ((Int × Mem) ⊕ (Int × Mem))
  | 0, _, _ => none
  | n + 1, x2, M => (if (M (x0 + 10990) 0) ≤ x2 then some (.inl (1, M)) else Option.bind ((if x2 = x1 then some (0) else if 0 ≤ x2 ∧ x2 < 8 then (if (M ((x0 + 10990) + 3) (Int.toNat x2)) = 0 then some (1) else some (0)) else none) : Option (Int)) (fun t5 => (if t5 = 0 then if -2147483648 ≤ (x2 + 1) ∧ (x2 + 1) ≤ 2147483647 then fX8_beatsAll_l2 x0 x1 n (x2 + 1) M else none else Option.bind (fX1_manyAhead (x0 + 10990) x1 x2 M) (fun q11 => Option.bind (fX1_manyAhead (x0 + 10990) x2 x1 q11.2) (fun q12 => (if q12.1 < q11.1 then if -2147483648 ≤ (x2 + 1) ∧ (x2 + 1) ≤ 2147483647 then fX8_beatsAll_l2 x0 x1 n (x2 + 1) q12.2 else none else some (.inl (0, q12.2))))))))
def fX8_beatsAll (x0 : Nat) (x1 : Int) (M : Mem) : Option (Int × Mem) := lr (fX8_beatsAll_l2 x0 x1 1000 0 M) (fun r => r) (fun _ => none)
def fX8_best_l2 (x0 : Nat) : Nat → Int → Mem → Option ((Int × Mem) ⊕ (Int × Mem))
  | 0, _, _ => none
  | n + 1, x1, M => (if (M (x0 + 10990) 0) ≤ x1 then some (.inl ((-5), M)) else if 0 ≤ x1 ∧ x1 < 8 then (if (M ((x0 + 10990) + 3) (Int.toNat x1)) = 0 then Option.bind (fX8_beatsAll x0 x1 M) (fun q5 => (if q5.1 = 0 then if -2147483648 ≤ (x1 + 1) ∧ (x1 + 1) ≤ 2147483647 then fX8_best_l2 x0 n (x1 + 1) q5.2 else none else some (.inl (x1, q5.2)))) else if -2147483648 ≤ (x1 + 1) ∧ (x1 + 1) ≤ 2147483647 then fX8_best_l2 x0 n (x1 + 1) M else none) else none)
def fX8_best (x0 : Nat) (M : Mem) : Option (Int × Mem) := lr (fX8_best_l2 x0 1000 0 M) (fun r => r) (fun _ => none)
def fX8_commonDivisor_l9  : Nat → Int → Int → Int → Mem → Option (Int × Int × Int × Mem)
  | 0, _, _, _, _ => none
  | n + 1, x4, x6, x8, M => (if 1000 ≤ x8 then some (x4, x6, x8, M) else (if x6 ≤ 0 then some (x4, x6, x8, M) else if 0 ≤ x4 ∧ 0 < x6 then nm ((x4 % x6)) (fun v4 => if -2147483648 ≤ (x8 + 1) ∧ (x8 + 1) ≤ 2147483647 then fX8_commonDivisor_l9  n x6 v4 (x8 + 1) M else none) else none))
def fX8_commonDivisor (x0 : Int) (x2 : Int) (M : Mem) : Option (Int × Mem) := Option.bind (fX8_commonDivisor_l9  1000 x0 x2 0 M) (fun z6 => some (z6.1, z6.2.2.2))
def fX8_share (x0 : Nat) (x1 : Int) (x2 : Int) (x3 : Int) (M : Mem) : Option (Int × Mem) := Option.bind (fX8_tallied x0 M) (fun q1 => oc q1.1 (none) (fun a2 => if Sh a2 = (13, 14) then Option.bind (fX4_stageAt a2 x1 q1.2) (fun q4 => oc q4.1 (some ((-9223372036854775808), q4.2)) (fun a5 => if Sh a5 = (12, 9) then Option.bind (fX1_hasCandidate (x0 + 10990) x2 q4.2) (fun q7 => (if q7.1 = 0 then some ((-9223372036854775808), q7.2) else (if x3 < 0 then some ((-9223372036854775808), q7.2) else (if x3 ≤ 1 then if 0 ≤ x2 ∧ x2 < 8 then nm ((q7.2 (a5 + 8) (Int.toNat x2))) (fun v12 => (if v12 = 0 then some (x3, q7.2) else Option.bind (fX8_commonDivisor v12 (q7.2 a5 6) q7.2) (fun q14 => nm (q14.1) (fun v15 => Option.bind ((if x3 = 0 then some (v12) else some ((q14.2 a5 6))) : Option (Int)) (fun t17 => Option.bind (fX8_cut t17 v15 q14.2) (fun q19 => some (q19.1, q19.2))))))) else none else some ((-9223372036854775808), q7.2))))) else none)) else none))
def fX8_electedInThought (x0 : Nat) (M : Mem) : Option (Int × Mem) := Option.bind (fX4_work (x0 + 1990) M) (fun q1 => Option.bind (fX4_whoIs (x0 + 1990) 2 q1.2) (fun q2 => some (q2.1, q2.2)))
def fX8_without (x0 : Nat) (x1 : Int) (M : Mem) : Option (Int × Mem) := Option.bind (fX1_hasCandidate (x0 + 10990) x1 M) (fun q1 => (if q1.1 = 0 then some ((-1), q1.2) else Option.bind (fX1_copyFrom (x0 + 11990) (x0 + 10990) q1.2) (fun q3 => if 0 ≤ x1 ∧ x1 < 8 then nm (wr q3.2 ((x0 + 11990) + 3) (Int.toNat x1) 1) (fun M5 => Option.bind (fX8_electedInThought x0 M5) (fun q6 => some (q6.1, q6.2))) else none)))
def fX8_raised (x0 : Nat) (x1 : Int) (x2 : Int) (M : Mem) : Option (Int × Mem) := Option.bind (fX1_hasBallot (x0 + 10990) x1 M) (fun q1 => (if q1.1 = 0 then some ((-1), q1.2) else Option.bind (fX1_hasCandidate (x0 + 10990) x2 q1.2) (fun q3 => (if q3.1 = 0 then some ((-1), q3.2) else Option.bind (fX1_copyFrom (x0 + 11990) (x0 + 10990) q3.2) (fun q5 => if 0 ≤ x1 ∧ x1 < 25 then Option.bind (fX2_ledBy x2 (q5.2 ((x0 + 10990) + 5) (Int.toNat x1)) q5.2) (fun q7 => if 0 ≤ x1 ∧ x1 < 25 then nm (wr q7.2 ((x0 + 11990) + 5) (Int.toNat x1) q7.1) (fun M9 => Option.bind (fX8_electedInThought x0 M9) (fun q10 => some (q10.1, q10.2))) else none) else none)))))
def fX8_needs_l98 (x0 : Nat) (x1 : Int) (x2 : Int) (x3 : Int) (x4 : Int) : Nat → Int → Mem → Option ((Int × Mem) ⊕ (Int × Mem))
  | 0, _, _ => none
  | n + 1, x6, M => (if 30 < x6 then some (.inl ((-5), M)) else if -2147483648 ≤ (x6 * x2) ∧ (x6 * x2) ≤ 2147483647 then if -9223372036854775808 ≤ (x4 + (x6 * x2)) ∧ (x4 + (x6 * x2)) ≤ 9223372036854775807 then (if 4611686 < (x4 + (x6 * x2)) then some (.inl ((-5), M)) else if -2147483648 ≤ (x6 * x2) ∧ (x6 * x2) ≤ 2147483647 then if 0 ≤ x3 ∧ x3 < 25 then nm (wr M ((x0 + 11990) + 6) (Int.toNat x3) (x6 * x2)) (fun M22 => Option.bind (fX8_electedInThought x0 M22) (fun q23 => (if (bAnd (bShr q23.1 x1) 1) = 0 then if -2147483648 ≤ (x6 + 1) ∧ (x6 + 1) ≤ 2147483647 then fX8_needs_l98 x0 x1 x2 x3 x4 n (x6 + 1) q23.2 else none else some (.inl (x6, q23.2))))) else none else none) else none else none)
def fX8_needs (x0 : Nat) (x1 : Int) (x2 : Int) (M : Mem) : Option (Int × Mem) := Option.bind (fX1_hasCandidate (x0 + 10990) x1 M) (fun q1 => (if q1.1 = 0 then some ((-1), q1.2) else (if x2 < 1 then some ((-2), q1.2) else (if x2 ≤ 10000 then if 0 ≤ x1 ∧ x1 < 8 then (if (q1.2 ((x0 + 10990) + 3) (Int.toNat x1)) = 0 then Option.bind (fX1_copyFrom (x0 + 11990) (x0 + 10990) q1.2) (fun q7 => nm ((q7.2 (x0 + 10990) 3)) (fun v8 => Option.bind (fX2_ledBy x1 0 q7.2) (fun q9 => if 0 ≤ v8 ∧ v8 < 25 then nm (wr q9.2 ((x0 + 11990) + 5) (Int.toNat v8) q9.1) (fun M11 => if -2147483648 ≤ (v8 + 1) ∧ (v8 + 1) ≤ 2147483647 then nm (wr M11 (x0 + 11990) 3 (v8 + 1)) (fun M13 => Option.bind (fX1_together (x0 + 10990) M13) (fun q14 => nm (q14.1) (fun v15 => lr (fX8_needs_l98 x0 x1 x2 v8 v15 1000 0 q14.2) (fun r => r) (fun _ => none)))) else none) else none))) else some ((-5), q1.2)) else none else some ((-2), q1.2)))))
def fX8_see (x0 : Nat) (x1 : Int) (x2 : Int) (M : Mem) : Option (Int × Mem) := (if x1 = (-1) then nm (wr M (x0 + 10990) 9 0) (fun M12 => some (0, M12)) else Option.bind (fX1_hasCandidate (x0 + 10990) x1 M) (fun q2 => (if q2.1 = 0 then some ((-1), q2.2) else (if (q2.2 (x0 + 10990) 9) < 5 then if 0 ≤ (q2.2 (x0 + 10990) 9) ∧ (q2.2 (x0 + 10990) 9) < 5 then nm (wr q2.2 ((x0 + 10990) + 11) (Int.toNat (q2.2 (x0 + 10990) 9)) x1) (fun M6 => if 0 ≤ (M6 (x0 + 10990) 9) ∧ (M6 (x0 + 10990) 9) < 5 then if x2 = 0 ∨ x2 = 1 then nm (wr M6 ((x0 + 10990) + 12) (Int.toNat (M6 (x0 + 10990) 9)) x2) (fun M9 => if -2147483648 ≤ ((M9 (x0 + 10990) 9) + 1) ∧ ((M9 (x0 + 10990) 9) + 1) ≤ 2147483647 then nm (wr M9 (x0 + 10990) 9 ((M9 (x0 + 10990) 9) + 1)) (fun M11 => some ((M11 (x0 + 10990) 9), M11)) else none) else none else none) else none else some ((-4), q2.2)))))
def fX8_fits_l31 (x0 : Nat) (x1 : Int) : Nat → Int → Int → Int → Mem → Option (Int × Int × Int × Mem)
  | 0, _, _, _, _ => none
  | n + 1, x2, x3, x4, M => (if x4 < 1 then some (x2, x3, x4, M) else nm (wr M (x0 + 11990) 6 x4) (fun M5 => Option.bind (fX8_electedInThought x0 M5) (fun q6 => Option.bind (fX1_isSeenSo (x0 + 10990) q6.1 q6.2) (fun q7 => Option.bind ((if q7.1 = 0 then some (x2, x3) else if -2147483648 ≤ (x2 + 1) ∧ (x2 + 1) ≤ 2147483647 then some ((x2 + 1), x4) else none) : Option (Int × Int)) (fun t10 => if -2147483648 ≤ (x4 + (-1)) ∧ (x4 + (-1)) ≤ 2147483647 then fX8_fits_l31 x0 x1 n t10.1 t10.2 (x4 + (-1)) q7.2 else none)))))
def fX8_fits (x0 : Nat) (x1 : Int) (M : Mem) : Option (Int × Mem) := (if x1 < 0 then some ((-1), M) else (if x1 ≤ 1 then Option.bind (fX1_copyFrom (x0 + 11990) (x0 + 10990) M) (fun q3 => Option.bind (fX8_fits_l31 x0 x1 1000 0 (-5) 7 q3.2) (fun z14 => Option.bind ((if x1 = 0 then some (z14.1) else some (z14.2.1)) : Option (Int)) (fun t16 => some (t16, z14.2.2.2)))) else some ((-1), M)))
def fX8_event (x0 : Nat) (x1 : Int) (x2 : Int) (M : Mem) : Option (Int × Mem) := (if x1 = (-1) then nm (wr M (x0 + 10990) 12 0) (fun M23 => some (0, M23)) else (if x1 < 0 then some ((-1), M) else (if x1 ≤ 3 then (if x1 = 2 then (if x2 < 1 then some ((-2), M) else (if x2 ≤ 7 then (if (M (x0 + 10990) 12) < 8 then if 0 ≤ (M (x0 + 10990) 12) ∧ (M (x0 + 10990) 12) < 8 then nm (wr M ((x0 + 10990) + 14) (Int.toNat (M (x0 + 10990) 12)) x1) (fun M18 => if 0 ≤ (M18 (x0 + 10990) 12) ∧ (M18 (x0 + 10990) 12) < 8 then nm (wr M18 ((x0 + 10990) + 15) (Int.toNat (M18 (x0 + 10990) 12)) x2) (fun M20 => if -2147483648 ≤ ((M20 (x0 + 10990) 12) + 1) ∧ ((M20 (x0 + 10990) 12) + 1) ≤ 2147483647 then nm (wr M20 (x0 + 10990) 12 ((M20 (x0 + 10990) 12) + 1)) (fun M22 => some ((M22 (x0 + 10990) 12), M22)) else none) else none) else none else some ((-4), M)) else some ((-2), M))) else Option.bind (fX1_hasCandidate (x0 + 10990) x2 M) (fun q5 => (if q5.1 = 0 then some ((-1), q5.2) else (if (q5.2 (x0 + 10990) 12) < 8 then if 0 ≤ (q5.2 (x0 + 10990) 12) ∧ (q5.2 (x0 + 10990) 12) < 8 then nm (wr q5.2 ((x0 + 10990) + 14) (Int.toNat (q5.2 (x0 + 10990) 12)) x1) (fun M9 => if 0 ≤ (M9 (x0 + 10990) 12) ∧ (M9 (x0 + 10990) 12) < 8 then nm (wr M9 ((x0 + 10990) + 15) (Int.toNat (M9 (x0 + 10990) 12)) x2) (fun M11 => if -2147483648 ≤ ((M11 (x0 + 10990) 12) + 1) ∧ ((M11 (x0 + 10990) 12) + 1) ≤ 2147483647 then nm (wr M11 (x0 + 10990) 12 ((M11 (x0 + 10990) 12) + 1)) (fun M13 => some ((M13 (x0 + 10990) 12), M13)) else none) else none) else none else some ((-4), q5.2))))) else some ((-1), M))))
def fX8_after_l13 (x0 : Nat) : Nat → Int → Mem → Option (Int × Mem)
  | 0, _, _ => none
  | n + 1, x1, M => (if (M (x0 + 10990) 12) ≤ x1 then some (x1, M) else if 0 ≤ x1 ∧ x1 < 8 then if 0 ≤ x1 ∧ x1 < 8 then Option.bind (fX1_suffer (x0 + 11990) (M ((x0 + 10990) + 14) (Int.toNat x1)) (M ((x0 + 10990) + 15) (Int.toNat x1)) M) (fun q5 => if -2147483648 ≤ (x1 + 1) ∧ (x1 + 1) ≤ 2147483647 then fX8_after_l13 x0 n (x1 + 1) q5.2 else none) else none else none)
def fX8_after (x0 : Nat) (M : Mem) : Option (Int × Mem) := Option.bind (fX1_copyFrom (x0 + 11990) (x0 + 10990) M) (fun q1 => Option.bind (fX8_after_l13 x0 1000 0 q1.2) (fun z7 => Option.bind (fX8_electedInThought x0 z7.2) (fun q8 => some (q8.1, q8.2))))
def fX8_feed (x0 : Nat) (x1 : Int) (M : Mem) : Option (Int × Mem) := (if x1 < 0 then some ((-2), M) else (if x1 ≤ 127 then (if (M (x0 + 200) 0) < 100 then if 0 ≤ (M (x0 + 200) 0) ∧ (M (x0 + 200) 0) < 100 then nm (wr M ((x0 + 200) + 2) (Int.toNat (M (x0 + 200) 0)) x1) (fun M5 => if -2147483648 ≤ ((M5 (x0 + 200) 0) + 1) ∧ ((M5 (x0 + 200) 0) + 1) ≤ 2147483647 then nm (wr M5 (x0 + 200) 0 ((M5 (x0 + 200) 0) + 1)) (fun M7 => some ((M7 (x0 + 200) 0), M7)) else none) else none else some ((-4), M)) else some ((-2), M)))
def fX8_isDone (x0 : Nat) (x1 : Int) (x2 : Int) (x3 : Int) (M : Mem) : Option (Int × Mem) := (if x1 = 98 then Option.bind (fX8_ballot x0 x2 x3 M) (fun q2 => Option.bind ((if q2.1 < 0 then some (0) else some (1)) : Option (Int)) (fun t4 => if t4 = 0 ∨ t4 = 1 then some (t4, q2.2) else none)) else if x1 = 99 then Option.bind (fX8_candidate x0 M) (fun q7 => Option.bind ((if q7.1 < 0 then some (0) else some (1)) : Option (Int)) (fun t9 => if t9 = 0 ∨ t9 = 1 then some (t9, q7.2) else none)) else if x1 = 103 then Option.bind (fX8_gone x0 x2 1 M) (fun q12 => Option.bind ((if q12.1 < 0 then some (0) else some (1)) : Option (Int)) (fun t14 => if t14 = 0 ∨ t14 = 1 then some (t14, q12.2) else none)) else if x1 = 108 then Option.bind (fX8_set x0 1 x2 M) (fun q17 => Option.bind ((if q17.1 < 0 then some (0) else some (1)) : Option (Int)) (fun t19 => if t19 = 0 ∨ t19 = 1 then some (t19, q17.2) else none)) else if x1 = 115 then Option.bind (fX8_set x0 0 x2 M) (fun q22 => Option.bind ((if q22.1 < 0 then some (0) else some (1)) : Option (Int)) (fun t24 => if t24 = 0 ∨ t24 = 1 then some (t24, q22.2) else none)) else some (0, M))
def fX8_read_l35 (x0 : Nat) : Nat → Int → Int → Mem → Option (Int × Int × Mem)
  | 0, _, _, _ => none
  | n + 1, x2, x3, M => (if (M (x0 + 200) 2) ≤ x3 then some (x2, x3, M) else if 0 ≤ x3 ∧ x3 < 12 then if 0 ≤ x3 ∧ x3 < 12 then if 0 ≤ x3 ∧ x3 < 12 then Option.bind (fX8_isDone x0 (M ((x0 + 200) + 4) (Int.toNat x3)) (M ((x0 + 200) + 5) (Int.toNat x3)) (M ((x0 + 200) + 6) (Int.toNat x3)) M) (fun q9 => Option.bind ((if q9.1 = 0 then some (x2) else if -2147483648 ≤ (x2 + 1) ∧ (x2 + 1) ≤ 2147483647 then some ((x2 + 1)) else none) : Option (Int)) (fun t12 => if -2147483648 ≤ (x3 + 1) ∧ (x3 + 1) ≤ 2147483647 then fX8_read_l35 x0 n t12 (x3 + 1) q9.2 else none)) else none else none else none)
def fX8_read (x0 : Nat) (M : Mem) : Option (Int × Mem) := Option.bind (fX6_faultToldTo (x0 + 200) (x0 + 300) M) (fun q1 => nm (q1.1) (fun v2 => nm (wr q1.2 (x0 + 200) 0 0) (fun M3 => (if v2 = (-5) then Option.bind (fX8_read_l35 x0 1000 0 0 M3) (fun z16 => some (z16.1, z16.2.2)) else if -2147483648 ≤ ((-10) - v2) ∧ ((-10) - v2) ≤ 2147483647 then some (((-10) - v2), M3) else none))))
def fX8_cause (x0 : Nat) (x1 : Int) (x2 : Int) (M : Mem) : Option (Int × Mem) := (if x1 < 0 then some ((-1), M) else (if x2 < 0 then some ((-1), M) else (if x2 ≤ 1 then (if x1 < (M (x0 + 300) 0) then Option.bind ((if x2 = 0 then if 0 ≤ x1 ∧ x1 < 3 then some ((M ((x0 + 300) + 2) (Int.toNat x1))) else none else if 0 ≤ x1 ∧ x1 < 3 then some ((M ((x0 + 300) + 3) (Int.toNat x1))) else none) : Option (Int)) (fun t8 => some (t8, M)) else some ((-5), M)) else some ((-1), M))))
def fX8_tapeAt (x0 : Nat) (x1 : Int) (M : Mem) : Option (Option Nat × Mem) := (if x1 < 0 then some (none, M) else (if x1 < 6 then if 0 ≤ x1 ∧ x1 < 6 then some (some ((x0 + 10) + 36 + 16 * Int.toNat x1), M) else none else some (none, M)))
def fX8_judge_l60 (x0 : Nat) (x3 : Int) (x4 : Nat) (x5 : Nat) : Nat → Int → Mem → Option ((Int × Mem) ⊕ (Int × Mem))
  | 0, _, _ => none
  | n + 1, x6, M => (if (M (x0 + 10990) 0) ≤ x6 then some (.inl ((-5), M)) else if -2147483648 ≤ ((M x5 1) - x6) ∧ ((M x5 1) - x6) ≤ 2147483647 then (if x3 < ((M x5 1) - x6) then if -2147483648 ≤ (x3 + x6) ∧ (x3 + x6) ≤ 2147483647 then if 0 ≤ (x3 + x6) ∧ (x3 + x6) < 60 then if 0 ≤ x6 ∧ x6 < 8 then (if (M (x5 + 3) (Int.toNat (x3 + x6))) = (M (x4 + 8) (Int.toNat x6)) then if -2147483648 ≤ (x6 + 1) ∧ (x6 + 1) ≤ 2147483647 then fX8_judge_l60 x0 x3 x4 x5 n (x6 + 1) M else none else some (.inl (x6, M))) else none else none else none else if -2147483648 ≤ (100 + x6) ∧ (100 + x6) ≤ 2147483647 then some (.inl ((100 + x6), M)) else none) else none)
def fX8_judge (x0 : Nat) (x1 : Int) (x2 : Int) (x3 : Int) (M : Mem) : Option (Int × Mem) := Option.bind (fX8_tallied x0 M) (fun q1 => oc q1.1 (none) (fun a2 => if Sh a2 = (13, 14) then Option.bind (fX4_stageAt a2 x1 q1.2) (fun q4 => oc q4.1 (Option.bind (fX8_tapeAt x0 x2 q4.2) (fun q7 => oc q7.1 (some ((-1), q7.2)) (fun a8 => if Sh a8 = (14, 3) then some ((-1), q7.2) else none))) (fun a5 => if Sh a5 = (12, 9) then Option.bind (fX8_tapeAt x0 x2 q4.2) (fun q10 => oc q10.1 (some ((-1), q10.2)) (fun a11 => if Sh a11 = (14, 3) then (if (q10.2 a11 0) = 3 then (if 0 ≤ x3 then lr (fX8_judge_l60 x0 x3 a5 a11 1000 0 q10.2) (fun r => r) (fun _ => none) else some (100, q10.2)) else (if (q10.2 a11 0) = (-1) then (if 0 ≤ x3 then lr (fX8_judge_l60 x0 x3 a5 a11 1000 0 q10.2) (fun r => r) (fun _ => none) else some (100, q10.2)) else some ((-12), q10.2))) else none)) else none)) else none))
def fX8_image (x0 : Nat) (M : Mem) : Option (Int × Mem) := Option.bind (fX1_copyFrom (x0 + 12990) (x0 + 10990) M) (fun q1 => nm (wr q1.2 x0 3 1) (fun M2 => some ((M2 (x0 + 10990) 3), M2)))
def fX8_undo (x0 : Nat) (M : Mem) : Option (Int × Mem) := (if (M x0 3) = 0 then some ((-3), M) else Option.bind (fX1_copyFrom (x0 + 10990) (x0 + 12990) M) (fun q2 => nm (wr q2.2 x0 6 0) (fun M3 => some ((M3 (x0 + 10990) 3), M3))))
def fX8_count (x0 : Nat) (x1 : Int) (M : Mem) : Option (Int × Mem) := (if x1 = 0 then some ((M (x0 + 10990) 9), M) else if x1 = 1 then some ((M (x0 + 10990) 12), M) else if x1 = 2 then some ((M (x0 + 200) 0), M) else some ((-2), M))
def fX8_tape (x0 : Nat) (x1 : Int) (x2 : Int) (x3 : Int) (M : Mem) : Option (Int × Mem) := Option.bind (fX8_tapeAt x0 x1 M) (fun q1 => oc q1.1 (some ((-1), q1.2)) (fun a2 => if Sh a2 = (14, 3) then (if x2 = (-1) then Option.bind (fX5_become a2 (-1) 0 q1.2) (fun q10 => some (1, q10.2)) else (if x2 < 0 then some ((-2), q1.2) else (if 4 < x2 then some ((-2), q1.2) else (if x3 ≤ 60 then (if 0 ≤ x3 then Option.bind (fX5_become a2 x2 x3 q1.2) (fun q9 => some (1, q9.2)) else some ((-14), q1.2)) else some ((-2), q1.2))))) else none))
def fX8_item (x0 : Nat) (x1 : Int) (x2 : Int) (x3 : Int) (M : Mem) : Option (Int × Mem) := Option.bind (fX8_tapeAt x0 x1 M) (fun q1 => oc q1.1 (some ((-1), q1.2)) (fun a2 => if Sh a2 = (14, 3) then (if (q1.2 a2 0) = (-1) then some ((-11), q1.2) else (if x2 < 0 then some ((-13), q1.2) else (if x2 < (q1.2 a2 1) then Option.bind (fX5_fitted a2 x3 q1.2) (fun q7 => if 0 ≤ x2 ∧ x2 < 60 then nm (wr q7.2 (a2 + 3) (Int.toNat x2) q7.1) (fun M9 => some (1, M9)) else none) else some ((-13), q1.2)))) else none))
def fX8_peek (x0 : Nat) (x1 : Int) (x2 : Int) (M : Mem) : Option (Int × Mem) := Option.bind (fX8_tapeAt x0 x1 M) (fun q1 => oc q1.1 (some ((-9223372036854775808), q1.2)) (fun a2 => if Sh a2 = (14, 3) then (if x2 < 0 then some ((-9223372036854775808), q1.2) else (if x2 < (q1.2 a2 1) then if 0 ≤ x2 ∧ x2 < 60 then some ((q1.2 (a2 + 3) (Int.toNat x2)), q1.2) else none else some ((-9223372036854775808), q1.2))) else none))
def fX8_shift (x0 : Nat) (x1 : Int) (x2 : Int) (x3 : Int) (x4 : Int) (x5 : Int) (M : Mem) : Option (Int × Mem) := Option.bind (fX8_tapeAt x0 x1 M) (fun q1 => oc q1.1 (Option.bind (fX8_tapeAt x0 x3 q1.2) (fun q4 => oc q4.1 (some ((-1), q4.2)) (fun a5 => if Sh a5 = (14, 3) then some ((-1), q4.2) else none))) (fun a2 => if Sh a2 = (14, 3) then Option.bind (fX8_tapeAt x0 x3 q1.2) (fun q7 => oc q7.1 (some ((-1), q7.2)) (fun a8 => if Sh a8 = (14, 3) then (if (q7.2 a2 0) = (-1) then some ((-11), q7.2) else (if (q7.2 a8 0) = (-1) then some ((-11), q7.2) else (if (q7.2 a2 0) = (q7.2 a8 0) then (if x5 < 0 then some ((-13), q7.2) else Option.bind (fX5_hasRoom a2 x2 x5 q7.2) (fun q14 => (if q14.1 = 0 then some ((-13), q14.2) else Option.bind (fX5_hasRoom a8 x4 x5 q14.2) (fun q16 => (if q16.1 = 0 then some ((-13), q16.2) else if 0 ≤ x2 ∧ 0 ≤ x4 ∧ 0 ≤ x5 ∧ x2 + x5 ≤ 60 ∧ x4 + x5 ≤ 60 then nm (cpM q16.2 (a2 + 3) (Int.toNat x2) (a8 + 3) (Int.toNat x4) (Int.toNat x5)) (fun M19 => some (x5, M19)) else none))))) else some ((-12), q7.2)))) else none)) else none))
def fX9_in (x0 : Int) (x2 : Int) (x4 : Int) (M : Mem) : Option (Int × Mem) := Option.bind ((if x0 < x2 then some (0) else (if x4 < x0 then some (0) else some (1))) : Option (Int)) (fun t3 => if t3 = 0 ∨ t3 = 1 then some (t3, M) else none)
def fX9_isOne (x0 : Nat) (x1 : Int) (M : Mem) : Option (Int × Mem) := if -2147483648 ≤ ((M x0 0) - 1) ∧ ((M x0 0) - 1) ≤ 2147483647 then Option.bind (fX9_in x1 0 ((M x0 0) - 1) M) (fun q2 => if q2.1 = 0 ∨ q2.1 = 1 then some (q2.1, q2.2) else none) else none
def fX9_isBallot (x0 : Nat) (x1 : Int) (M : Mem) : Option (Int × Mem) := if -2147483648 ≤ ((M x0 1) - 1) ∧ ((M x0 1) - 1) ≤ 2147483647 then Option.bind (fX9_in x1 0 ((M x0 1) - 1) M) (fun q2 => if q2.1 = 0 ∨ q2.1 = 1 then some (q2.1, q2.2) else none) else none
def fX9_has (x0 : Int) (x1 : Int) (M : Mem) : Option (Int × Mem) := Option.bind ((if (bAnd (bShr x0 x1) 1) = 1 then some (1) else some (0)) : Option (Int)) (fun t2 => if t2 = 0 ∨ t2 = 1 then some (t2, M) else none)
def fX9_lengthOf_l4  : Nat → Int → Int → Mem → Option (Int × Int × Mem)
  | 0, _, _, _ => none
  | n + 1, x1, x2, M => (if x2 ≤ 0 then some (x1, x2, M) else if -2147483648 ≤ (x1 + 1) ∧ (x1 + 1) ≤ 2147483647 then if 0 ≤ x2 then nm ((x2 / 10)) (fun v4 => fX9_lengthOf_l4  n (x1 + 1) v4 M) else none else none)
def fX9_lengthOf (x0 : Int) (M : Mem) : Option (Int × Mem) := Option.bind (fX9_lengthOf_l4  1000 0 x0 M) (fun z5 => some (z5.1, z5.2.2))
def fX9_digitAt_l9 (x1 : Int) : Nat → Int → Int → Mem → Option (Int × Int × Mem)
  | 0, _, _, _ => none
  | n + 1, x2, x3, M => (if x3 ≤ x1 then some (x2, x3, M) else if 0 ≤ x2 then nm ((x2 / 10)) (fun v6 => if -2147483648 ≤ (x3 + (-1)) ∧ (x3 + (-1)) ≤ 2147483647 then fX9_digitAt_l9 x1 n v6 (x3 + (-1)) M else none) else none)
def fX9_digitAt (x0 : Int) (x1 : Int) (M : Mem) : Option (Int × Mem) := Option.bind (fX9_lengthOf x0 M) (fun q1 => if -2147483648 ≤ (q1.1 - 1) ∧ (q1.1 - 1) ≤ 2147483647 then nm ((q1.1 - 1)) (fun v3 => Option.bind (fX9_digitAt_l9 x1 1000 x0 v3 q1.2) (fun z8 => if 0 ≤ z8.1 then some ((z8.1 % 10), z8.2.2) else none)) else none)
def fX9_left_l4 (x0 : Nat) (x1 : Int) : Nat → Int → Int → Mem → Option (Int × Int × Mem)
  | 0, _, _, _ => none
  | n + 1, x2, x3, M => Option.bind (fX9_lengthOf x1 M) (fun q1 => (if q1.1 ≤ x3 then some (x2, x3, q1.2) else Option.bind (fX9_digitAt x1 x3 q1.2) (fun q3 => nm (q3.1) (fun v4 => if -2147483648 ≤ (v4 - 1) ∧ (v4 - 1) ≤ 2147483647 then if 0 ≤ (v4 - 1) ∧ (v4 - 1) < 8 then Option.bind ((if (q3.2 (x0 + 3) (Int.toNat (v4 - 1))) = 0 then if -2147483648 ≤ (10 * x2) ∧ (10 * x2) ≤ 2147483647 then if -2147483648 ≤ ((10 * x2) + v4) ∧ ((10 * x2) + v4) ≤ 2147483647 then nm (((10 * x2) + v4)) (fun v15 => some (v15)) else none else none else some (x2)) : Option (Int)) (fun t11 => if -2147483648 ≤ (x3 + 1) ∧ (x3 + 1) ≤ 2147483647 then fX9_left_l4 x0 x1 n t11 (x3 + 1) q3.2 else none) else none else none))))
def fX9_left (x0 : Nat) (x1 : Int) (M : Mem) : Option (Int × Mem) := Option.bind (fX9_left_l4 x0 x1 1000 0 0 M) (fun z17 => some (z17.1, z17.2.2))
def fX9_firstOver_l5 (x0 : Nat) (x1 : Int) : Nat → Int → Int → Mem → Option ((Int × Mem) ⊕ (Int × Int × Mem))
  | 0, _, _, _ => none
  | n + 1, x2, x4, M => (if x1 ≤ x4 then some (.inl ((-1), M)) else if 0 ≤ x4 ∧ x4 < 25 then if -9223372036854775808 ≤ (x2 + (M (x0 + 6) (Int.toNat x4))) ∧ (x2 + (M (x0 + 6) (Int.toNat x4))) ≤ 9223372036854775807 then nm ((x2 + (M (x0 + 6) (Int.toNat x4)))) (fun v4 => (if v4 ≤ 4611686 then if -2147483648 ≤ (x4 + 1) ∧ (x4 + 1) ≤ 2147483647 then fX9_firstOver_l5 x0 x1 n v4 (x4 + 1) M else none else some (.inl (x4, M)))) else none else none)
def fX9_firstOver (x0 : Nat) (x1 : Int) (M : Mem) : Option (Int × Mem) := lr (fX9_firstOver_l5 x0 x1 1000 0 0 M) (fun r => r) (fun _ => none)
def fX9_over (x0 : Nat) (x1 : Int) (M : Mem) : Option (Int × Mem) := nm (wr M x0 15 3) (fun M1 => nm (wr M1 (x0 + 17) (Int.toNat 0) 5) (fun M2 => nm (wr M2 (x0 + 18) (Int.toNat 0) (M2 x0 1)) (fun M3 => nm (wr M3 (x0 + 17) (Int.toNat 1) 6) (fun M4 => nm (wr M4 (x0 + 18) (Int.toNat 1) x1) (fun M5 => nm (wr M5 (x0 + 17) (Int.toNat 2) 7) (fun M6 => nm (wr M6 (x0 + 18) (Int.toNat 2) 0) (fun M7 => some ((-15), M7))))))))
def fX9_candidate (x0 : Nat) (M : Mem) : Option (Int × Mem) := (if (M x0 0) = 8 then some ((-4), M) else if 0 ≤ (M x0 0) ∧ (M x0 0) < 8 then nm (wr M (x0 + 3) (Int.toNat (M x0 0)) 0) (fun M3 => if 0 ≤ (M3 x0 0) ∧ (M3 x0 0) < 8 then nm (wr M3 (x0 + 4) (Int.toNat (M3 x0 0)) (M3 x0 0)) (fun M5 => if -2147483648 ≤ ((M5 x0 0) + 1) ∧ ((M5 x0 0) + 1) ≤ 2147483647 then nm (wr M5 x0 0 ((M5 x0 0) + 1)) (fun M7 => if -2147483648 ≤ ((M7 x0 0) - 1) ∧ ((M7 x0 0) - 1) ≤ 2147483647 then some (((M7 x0 0) - 1), M7) else none) else none) else none) else none)
def fX9_isRow_l18 (x0 : Nat) : Nat → Int → Int → Mem → Option ((Int × Mem) ⊕ (Int × Int × Mem))
  | 0, _, _, _ => none
  | n + 1, x2, x3, M => (if x3 ≤ 0 then some (.inl (1, M)) else if 0 ≤ x3 then nm ((x3 % 10)) (fun v5 => Option.bind (fX9_in v5 1 (M x0 0) M) (fun q6 => (if q6.1 = 0 then some (.inl (0, q6.2)) else Option.bind (fX9_has x2 v5 q6.2) (fun q8 => (if q8.1 = 0 then nm ((bOr x2 (bShl 1 v5))) (fun v10 => if 0 ≤ x3 then nm ((x3 / 10)) (fun v12 => fX9_isRow_l18 x0 n v10 v12 q8.2) else none) else some (.inl (0, q8.2))))))) else none)
def fX9_isRow (x0 : Nat) (x1 : Int) (M : Mem) : Option (Int × Mem) := Option.bind (fX9_in x1 1 99999999 M) (fun q1 => (if q1.1 = 0 then some (0, q1.2) else lr (fX9_isRow_l18 x0 1000 0 x1 q1.2) (fun r => r) (fun _ => none)))
def fX9_ballot (x0 : Nat) (x1 : Int) (x2 : Int) (M : Mem) : Option (Int × Mem) := Option.bind (fX9_isRow x0 x1 M) (fun q1 => (if q1.1 = 0 then some ((-2), q1.2) else Option.bind (fX9_in x2 0 1000000 q1.2) (fun q3 => (if q3.1 = 0 then some ((-2), q3.2) else (if (q3.2 x0 1) = 24 then some ((-4), q3.2) else if 0 ≤ (q3.2 x0 1) ∧ (q3.2 x0 1) < 25 then nm (wr q3.2 (x0 + 5) (Int.toNat (q3.2 x0 1)) x1) (fun M7 => if 0 ≤ (M7 x0 1) ∧ (M7 x0 1) < 25 then nm (wr M7 (x0 + 6) (Int.toNat (M7 x0 1)) x2) (fun M9 => if -2147483648 ≤ ((M9 x0 1) + 1) ∧ ((M9 x0 1) + 1) ≤ 2147483647 then Option.bind (fX9_firstOver x0 ((M9 x0 1) + 1) M9) (fun q11 => nm (q11.1) (fun v12 => (if v12 = (-1) then if -2147483648 ≤ ((q11.2 x0 1) + 1) ∧ ((q11.2 x0 1) + 1) ≤ 2147483647 then nm (wr q11.2 x0 1 ((q11.2 x0 1) + 1)) (fun M15 => if -2147483648 ≤ ((M15 x0 1) - 1) ∧ ((M15 x0 1) - 1) ≤ 2147483647 then some (((M15 x0 1) - 1), M15) else none) else none else Option.bind (fX9_over x0 v12 q11.2) (fun q17 => some (q17.1, q17.2))))) else none) else none) else none)))))
def fX9_many (x0 : Nat) (x1 : Int) (x2 : Int) (M : Mem) : Option (Int × Mem) := Option.bind (fX9_isBallot x0 x1 M) (fun q1 => (if q1.1 = 0 then some ((-1), q1.2) else Option.bind (fX9_in x2 0 1000000 q1.2) (fun q3 => (if q3.1 = 0 then some ((-2), q3.2) else if 0 ≤ x1 ∧ x1 < 25 then nm ((q3.2 (x0 + 6) (Int.toNat x1))) (fun v6 => if 0 ≤ x1 ∧ x1 < 25 then nm (wr q3.2 (x0 + 6) (Int.toNat x1) x2) (fun M8 => Option.bind (fX9_firstOver x0 (M8 x0 1) M8) (fun q9 => nm (q9.1) (fun v10 => (if v10 = (-1) then some (v6, q9.2) else if 0 ≤ x1 ∧ x1 < 25 then nm (wr q9.2 (x0 + 6) (Int.toNat x1) v6) (fun M13 => Option.bind (fX9_over x0 v10 M13) (fun q14 => some (q14.1, q14.2))) else none)))) else none) else none))))
def fX9_drop (x0 : Nat) (M : Mem) : Option (Int × Mem) := (if (M x0 1) = 0 then some ((-3), M) else if -2147483648 ≤ ((M x0 1) - 1) ∧ ((M x0 1) - 1) ≤ 2147483647 then nm (wr M x0 1 ((M x0 1) - 1)) (fun M3 => some ((M3 x0 1), M3)) else none)
def fX9_gone (x0 : Nat) (x1 : Int) (x2 : Int) (M : Mem) : Option (Int × Mem) := Option.bind (fX9_isOne x0 x1 M) (fun q1 => (if q1.1 = 0 then some ((-1), q1.2) else if 0 ≤ x1 ∧ x1 < 8 then Option.bind ((if (q1.2 (x0 + 3) (Int.toNat x1)) = 0 then some (0) else some (1)) : Option (Int)) (fun t5 => if 0 ≤ x1 ∧ x1 < 8 then if x2 = 0 ∨ x2 = 1 then nm (wr q1.2 (x0 + 3) (Int.toNat x1) x2) (fun M9 => some (t5, M9)) else none else none) else none))
def fX9_set (x0 : Nat) (x1 : Int) (x2 : Int) (M : Mem) : Option (Int × Mem) := Option.bind (fX9_in x1 0 2 M) (fun q1 => (if q1.1 = 0 then some ((-1), q1.2) else (if x1 = 0 then Option.bind (fX9_in x2 1 7 q1.2) (fun q49 => (if q49.1 = 0 then some ((-2), q49.2) else Option.bind ((if x1 = 0 then some ((q49.2 x0 6)) else (if x1 = 1 then some ((q49.2 x0 7)) else some ((q49.2 x0 8)))) : Option (Int)) (fun t53 => Option.bind ((if x1 = 0 then nm (wr q49.2 x0 6 x2) (fun M60 => some (M60)) else some (q49.2)) : Option (Mem)) (fun t58 => Option.bind ((if x1 = 1 then nm (wr t58 x0 7 x2) (fun M65 => some (M65)) else some (t58)) : Option (Mem)) (fun t63 => Option.bind ((if x1 = 2 then nm (wr t63 x0 8 x2) (fun M70 => some (M70)) else some (t63)) : Option (Mem)) (fun t68 => some (t53, t68))))))) else (if x1 = 1 then Option.bind (fX9_in x2 0 1000000000 q1.2) (fun q27 => (if q27.1 = 0 then some ((-2), q27.2) else Option.bind ((if x1 = 0 then some ((q27.2 x0 6)) else (if x1 = 1 then some ((q27.2 x0 7)) else some ((q27.2 x0 8)))) : Option (Int)) (fun t31 => Option.bind ((if x1 = 0 then nm (wr q27.2 x0 6 x2) (fun M38 => some (M38)) else some (q27.2)) : Option (Mem)) (fun t36 => Option.bind ((if x1 = 1 then nm (wr t36 x0 7 x2) (fun M43 => some (M43)) else some (t36)) : Option (Mem)) (fun t41 => Option.bind ((if x1 = 2 then nm (wr t41 x0 8 x2) (fun M48 => some (M48)) else some (t41)) : Option (Mem)) (fun t46 => some (t31, t46))))))) else Option.bind (fX9_in x2 1 20 q1.2) (fun q5 => (if q5.1 = 0 then some ((-2), q5.2) else Option.bind ((if x1 = 0 then some ((q5.2 x0 6)) else (if x1 = 1 then some ((q5.2 x0 7)) else some ((q5.2 x0 8)))) : Option (Int)) (fun t9 => Option.bind ((if x1 = 0 then nm (wr q5.2 x0 6 x2) (fun M16 => some (M16)) else some (q5.2)) : Option (Mem)) (fun t14 => Option.bind ((if x1 = 1 then nm (wr t14 x0 7 x2) (fun M21 => some (M21)) else some (t14)) : Option (Mem)) (fun t19 => Option.bind ((if x1 = 2 then nm (wr t19 x0 8 x2) (fun M26 => some (M26)) else some (t19)) : Option (Mem)) (fun t24 => some (t9, t24)))))))))))
def fX9_swap (x0 : Nat) (x1 : Int) (x2 : Int) (M : Mem) : Option (Int × Mem) := Option.bind (fX9_isOne x0 x1 M) (fun q1 => (if q1.1 = 0 then some ((-1), q1.2) else Option.bind (fX9_isOne x0 x2 q1.2) (fun q3 => (if q3.1 = 0 then some ((-1), q3.2) else (if x1 = x2 then some ((-1), q3.2) else if 0 ≤ x1 ∧ x1 < 8 then nm ((q3.2 (x0 + 4) (Int.toNat x1))) (fun v7 => if 0 ≤ x2 ∧ x2 < 8 then if 0 ≤ x1 ∧ x1 < 8 then nm (wr q3.2 (x0 + 4) (Int.toNat x1) (q3.2 (x0 + 4) (Int.toNat x2))) (fun M10 => if 0 ≤ x2 ∧ x2 < 8 then nm (wr M10 (x0 + 4) (Int.toNat x2) v7) (fun M12 => if 0 ≤ x1 ∧ x1 < 8 then some ((M12 (x0 + 4) (Int.toNat x1)), M12) else none) else none) else none else none) else none)))))
def fX9_lotOf_l2 (x0 : Nat) (x1 : Int) : Nat → Int → Mem → Option (Int × Mem)
  | 0, _, _ => none
  | n + 1, x2, M => if 0 ≤ x2 ∧ x2 < 8 then (if (M (x0 + 4) (Int.toNat x2)) = x1 then some (x2, M) else if -2147483648 ≤ (x2 + 1) ∧ (x2 + 1) ≤ 2147483647 then fX9_lotOf_l2 x0 x1 n (x2 + 1) M else none) else none
def fX9_lotOf (x0 : Nat) (x1 : Int) (M : Mem) : Option (Int × Mem) := Option.bind (fX9_lotOf_l2 x0 x1 1000 0 M) (fun z4 => some (z4.1, z4.2))
def fX9_keyOf_l7  : Nat → Int → Int → Mem → Option (Int × Int × Mem)
  | 0, _, _, _ => none
  | n + 1, x1, x2, M => (if 8 ≤ x2 then some (x1, x2, M) else if -2147483648 ≤ (x1 * 10) ∧ (x1 * 10) ≤ 2147483647 then nm ((x1 * 10)) (fun v5 => if -2147483648 ≤ (x2 + 1) ∧ (x2 + 1) ≤ 2147483647 then fX9_keyOf_l7  n v5 (x2 + 1) M else none) else none)
def fX9_keyOf (x0 : Int) (M : Mem) : Option (Int × Mem) := Option.bind (fX9_lengthOf x0 M) (fun q1 => nm (q1.1) (fun v2 => Option.bind (fX9_keyOf_l7  1000 x0 v2 q1.2) (fun z7 => some (z7.1, z7.2.2))))
def fX9_comesTo_l8 (x0 : Nat) (x1 : Int) (x2 : Int) (x3 : Int) : Nat → Int → Mem → Option (Int × Mem)
  | 0, _, _ => none
  | n + 1, x4, M => (if (M x0 18) ≤ x4 then some (x4, M) else if 0 ≤ x4 ∧ x4 < 25 then (if x3 ≤ (M (x0 + 21) (Int.toNat x4)) then some (x4, M) else if -2147483648 ≤ (x4 + 1) ∧ (x4 + 1) ≤ 2147483647 then fX9_comesTo_l8 x0 x1 x2 x3 n (x4 + 1) M else none) else none)
def fX9_comesTo_l72 (x0 : Nat) (x1 : Int) (x2 : Int) (x3 : Int) (x4 : Int) : Nat → Int → Mem → Option (Int × Mem)
  | 0, _, _ => none
  | n + 1, x5, M => (if x5 ≤ x4 then some (x5, M) else if -2147483648 ≤ (x5 - 1) ∧ (x5 - 1) ≤ 2147483647 then if 0 ≤ (x5 - 1) ∧ (x5 - 1) < 25 then if 0 ≤ x5 ∧ x5 < 25 then nm (wr M (x0 + 20) (Int.toNat x5) (M (x0 + 20) (Int.toNat (x5 - 1)))) (fun M14 => if -2147483648 ≤ (x5 - 1) ∧ (x5 - 1) ≤ 2147483647 then if 0 ≤ (x5 - 1) ∧ (x5 - 1) < 25 then if 0 ≤ x5 ∧ x5 < 25 then nm (wr M14 (x0 + 21) (Int.toNat x5) (M14 (x0 + 21) (Int.toNat (x5 - 1)))) (fun M18 => if -2147483648 ≤ (x5 - 1) ∧ (x5 - 1) ≤ 2147483647 then if 0 ≤ (x5 - 1) ∧ (x5 - 1) < 25 then if 0 ≤ x5 ∧ x5 < 25 then nm (wr M18 (x0 + 22) (Int.toNat x5) (M18 (x0 + 22) (Int.toNat (x5 - 1)))) (fun M22 => if -2147483648 ≤ (x5 + (-1)) ∧ (x5 + (-1)) ≤ 2147483647 then fX9_comesTo_l72 x0 x1 x2 x3 x4 n (x5 + (-1)) M22 else none) else none else none else none) else none else none else none) else none else none else none)
def fX9_comesTo (x0 : Nat) (x1 : Int) (x2 : Int) (M : Mem) : Option (Int × Mem) := Option.bind (fX9_keyOf x1 M) (fun q1 => nm (q1.1) (fun v2 => Option.bind (fX9_comesTo_l8 x0 x1 x2 v2 1000 0 q1.2) (fun z7 => (if (z7.2 x0 18) ≤ z7.1 then nm ((z7.2 x0 18)) (fun v9 => Option.bind (fX9_comesTo_l72 x0 x1 x2 v2 z7.1 1000 v9 z7.2) (fun z24 => if 0 ≤ z7.1 ∧ z7.1 < 25 then nm (wr z24.2 (x0 + 20) (Int.toNat z7.1) x1) (fun M26 => if 0 ≤ z7.1 ∧ z7.1 < 25 then nm (wr M26 (x0 + 21) (Int.toNat z7.1) v2) (fun M28 => if 0 ≤ z7.1 ∧ z7.1 < 25 then nm (wr M28 (x0 + 22) (Int.toNat z7.1) x2) (fun M30 => if -2147483648 ≤ ((M30 x0 18) + 1) ∧ ((M30 x0 18) + 1) ≤ 2147483647 then nm (wr M30 x0 18 ((M30 x0 18) + 1)) (fun M32 => some (0, M32)) else none) else none) else none) else none)) else if 0 ≤ z7.1 ∧ z7.1 < 25 then (if (z7.2 (x0 + 21) (Int.toNat z7.1)) = v2 then if 0 ≤ z7.1 ∧ z7.1 < 25 then if -2147483648 ≤ ((z7.2 (x0 + 22) (Int.toNat z7.1)) + x2) ∧ ((z7.2 (x0 + 22) (Int.toNat z7.1)) + x2) ≤ 2147483647 then if 0 ≤ z7.1 ∧ z7.1 < 25 then nm (wr z7.2 (x0 + 22) (Int.toNat z7.1) ((z7.2 (x0 + 22) (Int.toNat z7.1)) + x2)) (fun M48 => some (0, M48)) else none else none else none else nm ((z7.2 x0 18)) (fun v35 => Option.bind (fX9_comesTo_l72 x0 x1 x2 v2 z7.1 1000 v35 z7.2) (fun z36 => if 0 ≤ z7.1 ∧ z7.1 < 25 then nm (wr z36.2 (x0 + 20) (Int.toNat z7.1) x1) (fun M38 => if 0 ≤ z7.1 ∧ z7.1 < 25 then nm (wr M38 (x0 + 21) (Int.toNat z7.1) v2) (fun M40 => if 0 ≤ z7.1 ∧ z7.1 < 25 then nm (wr M40 (x0 + 22) (Int.toNat z7.1) x2) (fun M42 => if -2147483648 ≤ ((M42 x0 18) + 1) ∧ ((M42 x0 18) + 1) ≤ 2147483647 then nm (wr M42 x0 18 ((M42 x0 18) + 1)) (fun M44 => some (0, M44)) else none) else none) else none) else none))) else none))))
def fX9_tellPiles_l7 (x0 : Nat) : Nat → Int → Mem → Option (Int × Mem)
  | 0, _, _ => none
  | n + 1, x1, M => (if (M x0 1) ≤ x1 then some (x1, M) else if 0 ≤ x1 ∧ x1 < 25 then Option.bind (fX9_left x0 (M (x0 + 5) (Int.toNat x1)) M) (fun q4 => nm (q4.1) (fun v5 => Option.bind ((if v5 ≤ 0 then some (q4.2) else if 0 ≤ x1 ∧ x1 < 25 then (if (q4.2 (x0 + 6) (Int.toNat x1)) ≤ 0 then some (q4.2) else if 0 ≤ x1 ∧ x1 < 25 then Option.bind (fX9_comesTo x0 v5 (q4.2 (x0 + 6) (Int.toNat x1)) q4.2) (fun q16 => some (q16.2)) else none) else none) : Option (Mem)) (fun t11 => if -2147483648 ≤ (x1 + 1) ∧ (x1 + 1) ≤ 2147483647 then fX9_tellPiles_l7 x0 n (x1 + 1) t11 else none))) else none)
def fX9_tellPiles (x0 : Nat) (M : Mem) : Option (Int × Mem) := nm (wr M x0 18 0) (fun M1 => Option.bind (fX9_tellPiles_l7 x0 1000 0 M1) (fun z18 => some (0, z18.2)))
def fX9_many__l4 (x0 : Nat) (x1 : Int) : Nat → Int → Int → Mem → Option (Int × Int × Mem)
  | 0, _, _, _ => none
  | n + 1, x2, x3, M => (if (M x0 0) ≤ x3 then some (x2, x3, M) else if 0 ≤ x3 ∧ x3 < 8 then Option.bind ((if (M (x0 + 25) (Int.toNat x3)) = x1 then if -2147483648 ≤ (x2 + 1) ∧ (x2 + 1) ≤ 2147483647 then some ((x2 + 1)) else none else some (x2)) : Option (Int)) (fun t5 => if -2147483648 ≤ (x3 + 1) ∧ (x3 + 1) ≤ 2147483647 then fX9_many__l4 x0 x1 n t5 (x3 + 1) M else none) else none)
def fX9_many_ (x0 : Nat) (x1 : Int) (M : Mem) : Option (Int × Mem) := Option.bind (fX9_many__l4 x0 x1 1000 0 0 M) (fun z9 => some (z9.1, z9.2.2))
def fX9_tellVotes_l2 (x0 : Nat) : Nat → Int → Mem → Option (Int × Mem)
  | 0, _, _ => none
  | n + 1, x1, M => (if (M x0 0) ≤ x1 then some (x1, M) else if 0 ≤ x1 ∧ x1 < 8 then nm (wr M (x0 + 29) (Int.toNat x1) 0) (fun M3 => if -2147483648 ≤ (x1 + 1) ∧ (x1 + 1) ≤ 2147483647 then fX9_tellVotes_l2 x0 n (x1 + 1) M3 else none) else none)
def fX9_tellVotes_l53 (x0 : Nat) (x1 : Int) : Nat → Int → Int → Mem → Option (Int × Int × Mem)
  | 0, _, _, _ => none
  | n + 1, x2, x4, M => if 0 ≤ x1 ∧ x1 < 25 then Option.bind (fX9_lengthOf (M (x0 + 20) (Int.toNat x1)) M) (fun q12 => (if q12.1 ≤ x4 then some (x2, x4, q12.2) else if 0 ≤ x1 ∧ x1 < 25 then Option.bind (fX9_digitAt (q12.2 (x0 + 20) (Int.toNat x1)) x4 q12.2) (fun q15 => if -2147483648 ≤ (q15.1 - 1) ∧ (q15.1 - 1) ≤ 2147483647 then nm ((q15.1 - 1)) (fun v17 => if 0 ≤ v17 ∧ v17 < 8 then if -9223372036854775808 ≤ (x2 * (q15.2 (x0 + 26) (Int.toNat v17))) ∧ (x2 * (q15.2 (x0 + 26) (Int.toNat v17))) ≤ 9223372036854775807 then if 0 ≤ (x2 * (q15.2 (x0 + 26) (Int.toNat v17))) then nm (((x2 * (q15.2 (x0 + 26) (Int.toNat v17))) / 1000000)) (fun v21 => if 0 ≤ v17 ∧ v17 < 8 then if -9223372036854775808 ≤ ((q15.2 (x0 + 29) (Int.toNat v17)) + v21) ∧ ((q15.2 (x0 + 29) (Int.toNat v17)) + v21) ≤ 9223372036854775807 then if 0 ≤ v17 ∧ v17 < 8 then nm (wr q15.2 (x0 + 29) (Int.toNat v17) ((q15.2 (x0 + 29) (Int.toNat v17)) + v21)) (fun M25 => if -9223372036854775808 ≤ (x2 - v21) ∧ (x2 - v21) ≤ 9223372036854775807 then nm ((x2 - v21)) (fun v27 => if -2147483648 ≤ (x4 + 1) ∧ (x4 + 1) ≤ 2147483647 then fX9_tellVotes_l53 x0 x1 n v27 (x4 + 1) M25 else none) else none) else none else none else none) else none else none else none) else none) else none)) else none
def fX9_tellVotes_l30 (x0 : Nat) : Nat → Int → Mem → Option (Int × Mem)
  | 0, _, _ => none
  | n + 1, x1, M => (if (M x0 18) ≤ x1 then some (x1, M) else if 0 ≤ x1 ∧ x1 < 25 then if -9223372036854775808 ≤ (1000000 * (M (x0 + 22) (Int.toNat x1))) ∧ (1000000 * (M (x0 + 22) (Int.toNat x1))) ≤ 9223372036854775807 then nm ((1000000 * (M (x0 + 22) (Int.toNat x1)))) (fun v10 => Option.bind (fX9_tellVotes_l53 x0 x1 1000 v10 0 M) (fun z29 => if -9223372036854775808 ≤ ((z29.2.2 x0 30) + z29.1) ∧ ((z29.2.2 x0 30) + z29.1) ≤ 9223372036854775807 then nm (wr z29.2.2 x0 30 ((z29.2.2 x0 30) + z29.1)) (fun M31 => if -2147483648 ≤ (x1 + 1) ∧ (x1 + 1) ≤ 2147483647 then fX9_tellVotes_l30 x0 n (x1 + 1) M31 else none) else none)) else none else none)
def fX9_tellVotes_l144 (x0 : Nat) : Nat → Int → Mem → Option (Int × Mem)
  | 0, _, _ => none
  | n + 1, x1, M => (if (M x0 0) ≤ x1 then some (x1, M) else if 0 ≤ x1 ∧ x1 < 8 then if -9223372036854775808 ≤ ((M x0 32) + (M (x0 + 29) (Int.toNat x1))) ∧ ((M x0 32) + (M (x0 + 29) (Int.toNat x1))) ≤ 9223372036854775807 then nm (wr M x0 32 ((M x0 32) + (M (x0 + 29) (Int.toNat x1)))) (fun M38 => if -2147483648 ≤ (x1 + 1) ∧ (x1 + 1) ≤ 2147483647 then fX9_tellVotes_l144 x0 n (x1 + 1) M38 else none) else none else none)
def fX9_tellVotes (x0 : Nat) (M : Mem) : Option (Int × Mem) := Option.bind (fX9_tellVotes_l2 x0 1000 0 M) (fun z5 => nm (wr z5.2 x0 30 0) (fun M6 => Option.bind (fX9_tellVotes_l30 x0 1000 0 M6) (fun z33 => nm (wr z33.2 x0 32 0) (fun M34 => Option.bind (fX9_tellVotes_l144 x0 1000 0 M34) (fun z40 => if -2147483648 ≤ ((z40.2 x0 6) + 1) ∧ ((z40.2 x0 6) + 1) ≤ 2147483647 then if 0 ≤ (z40.2 x0 32) ∧ 0 < ((z40.2 x0 6) + 1) then if -9223372036854775808 ≤ (((z40.2 x0 32) / ((z40.2 x0 6) + 1)) + 1) ∧ (((z40.2 x0 32) / ((z40.2 x0 6) + 1)) + 1) ≤ 9223372036854775807 then nm (wr z40.2 x0 29 (((z40.2 x0 32) / ((z40.2 x0 6) + 1)) + 1)) (fun M44 => some (0, M44)) else none else none else none)))))
def fX9_isAhead (x0 : Nat) (x1 : Int) (x2 : Int) (M : Mem) : Option (Int × Mem) := if 0 ≤ x1 ∧ x1 < 8 then if 0 ≤ x2 ∧ x2 < 8 then Option.bind ((if (M (x0 + 29) (Int.toNat x2)) < (M (x0 + 29) (Int.toNat x1)) then some (1, M) else if 0 ≤ x1 ∧ x1 < 8 then if 0 ≤ x2 ∧ x2 < 8 then (if (M (x0 + 29) (Int.toNat x1)) = (M (x0 + 29) (Int.toNat x2)) then Option.bind (fX9_lotOf x0 x1 M) (fun q15 => Option.bind (fX9_lotOf x0 x2 q15.2) (fun q16 => (if q16.1 ≤ q15.1 then some (0, q16.2) else some (1, q16.2)))) else some (0, M)) else none else none) : Option (Int × Mem)) (fun t10 => if t10.1 = 0 ∨ t10.1 = 1 then some (t10.1, t10.2) else none) else none else none
def fX9_becomesElected (x0 : Nat) (x1 : Int) (M : Mem) : Option (Int × Mem) := if 0 ≤ x1 ∧ x1 < 8 then nm (wr M (x0 + 25) (Int.toNat x1) 2) (fun M2 => if 0 ≤ x1 ∧ x1 < 8 then nm (wr M2 (x0 + 27) (Int.toNat x1) (M2 x0 22)) (fun M4 => if 0 ≤ (M4 x0 22) ∧ (M4 x0 22) < 9 then if 0 ≤ (M4 x0 22) ∧ (M4 x0 22) < 9 then nm (wr M4 (x0 + 42) (Int.toNat (M4 x0 22)) (bOr (M4 (x0 + 42) (Int.toNat (M4 x0 22))) (bShl 1 x1))) (fun M7 => some (0, M7)) else none else none) else none) else none
def fX9_lines_l34 (x0 : Nat) (x1 : Int) : Nat → Int → Mem → Option (Int × Mem)
  | 0, _, _ => none
  | n + 1, x2, M => (if x2 ≤ 0 then some (x2, M) else if -2147483648 ≤ (x2 - 1) ∧ (x2 - 1) ≤ 2147483647 then if 0 ≤ (x2 - 1) ∧ (x2 - 1) < 8 then if 0 ≤ (M (x0 + 28) (Int.toNat (x2 - 1))) ∧ (M (x0 + 28) (Int.toNat (x2 - 1))) < 8 then (if (M (x0 + 27) (Int.toNat (M (x0 + 28) (Int.toNat (x2 - 1))))) = (M x0 22) then if -2147483648 ≤ (x2 - 1) ∧ (x2 - 1) ≤ 2147483647 then if 0 ≤ (x2 - 1) ∧ (x2 - 1) < 8 then Option.bind (fX9_isAhead x0 x1 (M (x0 + 28) (Int.toNat (x2 - 1))) M) (fun q21 => (if q21.1 = 0 then some (x2, q21.2) else if -2147483648 ≤ (x2 - 1) ∧ (x2 - 1) ≤ 2147483647 then if 0 ≤ (x2 - 1) ∧ (x2 - 1) < 8 then if 0 ≤ x2 ∧ x2 < 8 then nm (wr q21.2 (x0 + 28) (Int.toNat x2) (q21.2 (x0 + 28) (Int.toNat (x2 - 1)))) (fun M26 => if -2147483648 ≤ (x2 + (-1)) ∧ (x2 + (-1)) ≤ 2147483647 then fX9_lines_l34 x0 x1 n (x2 + (-1)) M26 else none) else none else none else none)) else none else none else some (x2, M)) else none else none else none)
def fX9_lines_l2 (x0 : Nat) : Nat → Int → Mem → Option (Int × Mem)
  | 0, _, _ => none
  | n + 1, x1, M => (if (M x0 0) ≤ x1 then some (x1, M) else if 0 ≤ (M x0 22) ∧ (M x0 22) < 9 then Option.bind (fX9_has (M (x0 + 42) (Int.toNat (M x0 22))) x1 M) (fun q3 => Option.bind ((if q3.1 = 0 then some (q3.2) else nm ((q3.2 x0 23)) (fun v13 => Option.bind (fX9_lines_l34 x0 x1 1000 v13 q3.2) (fun z28 => if 0 ≤ z28.1 ∧ z28.1 < 8 then nm (wr z28.2 (x0 + 28) (Int.toNat z28.1) x1) (fun M30 => if -2147483648 ≤ ((M30 x0 23) + 1) ∧ ((M30 x0 23) + 1) ≤ 2147483647 then nm (wr M30 x0 23 ((M30 x0 23) + 1)) (fun M32 => some (M32)) else none) else none))) : Option (Mem)) (fun t11 => if -2147483648 ≤ (x1 + 1) ∧ (x1 + 1) ≤ 2147483647 then fX9_lines_l2 x0 n (x1 + 1) t11 else none)) else none)
def fX9_lines (x0 : Nat) (M : Mem) : Option (Int × Mem) := Option.bind (fX9_lines_l2 x0 1000 0 M) (fun z34 => some (0, z34.2))
def fX9_endsStage_l2 (x0 : Nat) (x1 : Int) : Nat → Int → Mem → Option (Int × Mem)
  | 0, _, _ => none
  | n + 1, x2, M => (if (M x0 0) ≤ x2 then some (x2, M) else if -2147483648 ≤ (8 * (M x0 22)) ∧ (8 * (M x0 22)) ≤ 2147483647 then if -2147483648 ≤ ((8 * (M x0 22)) + x2) ∧ ((8 * (M x0 22)) + x2) ≤ 2147483647 then if 0 ≤ x2 ∧ x2 < 8 then if 0 ≤ ((8 * (M x0 22)) + x2) ∧ ((8 * (M x0 22)) + x2) < 72 then nm (wr M (x0 + 34) (Int.toNat ((8 * (M x0 22)) + x2)) (M (x0 + 29) (Int.toNat x2))) (fun M6 => if -2147483648 ≤ (8 * (M6 x0 22)) ∧ (8 * (M6 x0 22)) ≤ 2147483647 then if -2147483648 ≤ ((8 * (M6 x0 22)) + x2) ∧ ((8 * (M6 x0 22)) + x2) ≤ 2147483647 then if 0 ≤ x2 ∧ x2 < 8 then if 0 ≤ ((8 * (M6 x0 22)) + x2) ∧ ((8 * (M6 x0 22)) + x2) < 72 then nm (wr M6 (x0 + 39) (Int.toNat ((8 * (M6 x0 22)) + x2)) (M6 (x0 + 26) (Int.toNat x2))) (fun M11 => if -2147483648 ≤ (x2 + 1) ∧ (x2 + 1) ≤ 2147483647 then fX9_endsStage_l2 x0 x1 n (x2 + 1) M11 else none) else none else none else none else none) else none else none else none else none)
def fX9_endsStage (x0 : Nat) (x1 : Int) (M : Mem) : Option (Int × Mem) := Option.bind (fX9_endsStage_l2 x0 x1 1000 0 M) (fun z13 => if 0 ≤ (z13.2 x0 22) ∧ (z13.2 x0 22) < 9 then nm (wr z13.2 (x0 + 35) (Int.toNat (z13.2 x0 22)) (z13.2 x0 29)) (fun M15 => if 0 ≤ (M15 x0 22) ∧ (M15 x0 22) < 9 then nm (wr M15 (x0 + 36) (Int.toNat (M15 x0 22)) (M15 x0 30)) (fun M17 => if 0 ≤ (M17 x0 22) ∧ (M17 x0 22) < 9 then nm (wr M17 (x0 + 37) (Int.toNat (M17 x0 22)) (M17 x0 31)) (fun M19 => if 0 ≤ (M19 x0 22) ∧ (M19 x0 22) < 9 then nm (wr M19 (x0 + 38) (Int.toNat (M19 x0 22)) (M19 x0 32)) (fun M21 => if 0 ≤ (M21 x0 22) ∧ (M21 x0 22) < 9 then nm (wr M21 (x0 + 40) (Int.toNat (M21 x0 22)) x1) (fun M23 => Option.bind (fX9_lines x0 M23) (fun q24 => some (0, q24.2))) else none) else none) else none) else none) else none)
def fX9_fills_l11 (x0 : Nat) : Nat → Int → Mem → Option (Int × Mem)
  | 0, _, _ => none
  | n + 1, x1, M => (if (M x0 0) ≤ x1 then some (x1, M) else if 0 ≤ x1 ∧ x1 < 8 then Option.bind ((if (M (x0 + 25) (Int.toNat x1)) = 1 then Option.bind (fX9_becomesElected x0 x1 M) (fun q9 => some (q9.2)) else some (M)) : Option (Mem)) (fun t7 => if -2147483648 ≤ (x1 + 1) ∧ (x1 + 1) ≤ 2147483647 then fX9_fills_l11 x0 n (x1 + 1) t7 else none) else none)
def fX9_fills (x0 : Nat) (M : Mem) : Option (Int × Mem) := Option.bind (fX9_tellVotes x0 M) (fun q1 => nm (wr q1.2 x0 31 0) (fun M2 => Option.bind (fX9_fills_l11 x0 1000 0 M2) (fun z11 => Option.bind (fX9_endsStage x0 0 z11.2) (fun q12 => some (0, q12.2)))))
def fX9_keepsAnew_l2 (x0 : Nat) : Nat → Int → Mem → Option (Int × Mem)
  | 0, _, _ => none
  | n + 1, x1, M => (if (M x0 0) ≤ x1 then some (x1, M) else if 0 ≤ x1 ∧ x1 < 8 then Option.bind ((if (M (x0 + 25) (Int.toNat x1)) = 2 then if 0 ≤ x1 ∧ x1 < 8 then (if (M (x0 + 29) (Int.toNat x1)) = 0 then some (M) else if 0 ≤ x1 ∧ x1 < 8 then if -9223372036854775808 ≤ ((M (x0 + 26) (Int.toNat x1)) * (M x0 29)) ∧ ((M (x0 + 26) (Int.toNat x1)) * (M x0 29)) ≤ 9223372036854775807 then if 0 ≤ x1 ∧ x1 < 8 then if -9223372036854775808 ≤ (((M (x0 + 26) (Int.toNat x1)) * (M x0 29)) + (M (x0 + 29) (Int.toNat x1))) ∧ (((M (x0 + 26) (Int.toNat x1)) * (M x0 29)) + (M (x0 + 29) (Int.toNat x1))) ≤ 9223372036854775807 then if -9223372036854775808 ≤ ((((M (x0 + 26) (Int.toNat x1)) * (M x0 29)) + (M (x0 + 29) (Int.toNat x1))) - 1) ∧ ((((M (x0 + 26) (Int.toNat x1)) * (M x0 29)) + (M (x0 + 29) (Int.toNat x1))) - 1) ≤ 9223372036854775807 then if 0 ≤ x1 ∧ x1 < 8 then if 0 ≤ ((((M (x0 + 26) (Int.toNat x1)) * (M x0 29)) + (M (x0 + 29) (Int.toNat x1))) - 1) ∧ 0 < (M (x0 + 29) (Int.toNat x1)) then nm ((((((M (x0 + 26) (Int.toNat x1)) * (M x0 29)) + (M (x0 + 29) (Int.toNat x1))) - 1) / (M (x0 + 29) (Int.toNat x1)))) (fun v27 => if 0 ≤ x1 ∧ x1 < 8 then nm (wr M (x0 + 26) (Int.toNat x1) (w32 (if 1000000 < v27 then 1000000 else v27))) (fun M29 => some (M29)) else none) else none else none else none else none else none else none else none) else none else some (M)) : Option (Mem)) (fun t16 => if -2147483648 ≤ (x1 + 1) ∧ (x1 + 1) ≤ 2147483647 then fX9_keepsAnew_l2 x0 n (x1 + 1) t16 else none) else none)
def fX9_keepsAnew (x0 : Nat) (M : Mem) : Option (Int × Mem) := Option.bind (fX9_keepsAnew_l2 x0 1000 0 M) (fun z31 => some (0, z31.2))
def fX9_elects_l18 (x0 : Nat) (x1 : Int) : Nat → Int → Int → Mem → Option (Int × Int × Mem)
  | 0, _, _, _ => none
  | n + 1, x2, x3, M => (if (M x0 0) ≤ x3 then some (x2, x3, M) else if 0 ≤ x3 ∧ x3 < 8 then Option.bind ((if (M (x0 + 25) (Int.toNat x3)) = 1 then if 0 ≤ x3 ∧ x3 < 8 then (if (M (x0 + 29) (Int.toNat x3)) < (M x0 29) then some (x2, M) else (if x2 = (-1) then some (x3, M) else Option.bind (fX9_isAhead x0 x3 x2 M) (fun q16 => (if q16.1 = 0 then some (x2, q16.2) else some (x3, q16.2))))) else none else some (x2, M)) : Option (Int × Mem)) (fun t11 => if -2147483648 ≤ (x3 + 1) ∧ (x3 + 1) ≤ 2147483647 then fX9_elects_l18 x0 x1 n t11.1 (x3 + 1) t11.2 else none) else none)
def fX9_elects_l2 (x0 : Nat) : Nat → Int → Mem → Option ((Int × Mem) ⊕ (Int × Mem))
  | 0, _, _ => none
  | n + 1, x1, M => Option.bind (fX9_many_ x0 2 M) (fun q1 => (if (q1.2 x0 6) ≤ q1.1 then if x1 = 0 ∨ x1 = 1 then some (.inl (x1, q1.2)) else none else Option.bind (fX9_elects_l18 x0 x1 1000 (-1) 0 q1.2) (fun z19 => (if z19.1 = (-1) then if x1 = 0 ∨ x1 = 1 then some (.inl (x1, z19.2.2)) else none else Option.bind (fX9_becomesElected x0 z19.1 z19.2.2) (fun q21 => fX9_elects_l2 x0 n 1 q21.2)))))
def fX9_elects (x0 : Nat) (M : Mem) : Option (Int × Mem) := lr (fX9_elects_l2 x0 1000 0 M) (fun r => r) (fun _ => none)
def fX9_tellSurplus_l7 (x0 : Nat) : Nat → Int → Mem → Option (Int × Mem)
  | 0, _, _ => none
  | n + 1, x1, M => (if (M x0 0) ≤ x1 then some (x1, M) else if 0 ≤ x1 ∧ x1 < 8 then Option.bind ((if (M (x0 + 25) (Int.toNat x1)) = 2 then if 0 ≤ x1 ∧ x1 < 8 then (if (M (x0 + 29) (Int.toNat x1)) ≤ (M x0 29) then some (M) else if 0 ≤ x1 ∧ x1 < 8 then if -9223372036854775808 ≤ ((M (x0 + 29) (Int.toNat x1)) - (M x0 29)) ∧ ((M (x0 + 29) (Int.toNat x1)) - (M x0 29)) ≤ 9223372036854775807 then if -9223372036854775808 ≤ ((M x0 31) + ((M (x0 + 29) (Int.toNat x1)) - (M x0 29))) ∧ ((M x0 31) + ((M (x0 + 29) (Int.toNat x1)) - (M x0 29))) ≤ 9223372036854775807 then nm (wr M x0 31 ((M x0 31) + ((M (x0 + 29) (Int.toNat x1)) - (M x0 29)))) (fun M18 => some (M18)) else none else none else none) else none else some (M)) : Option (Mem)) (fun t11 => if -2147483648 ≤ (x1 + 1) ∧ (x1 + 1) ≤ 2147483647 then fX9_tellSurplus_l7 x0 n (x1 + 1) t11 else none) else none)
def fX9_tellSurplus (x0 : Nat) (M : Mem) : Option (Int × Mem) := nm (wr M x0 31 0) (fun M1 => Option.bind (fX9_tellSurplus_l7 x0 1000 0 M1) (fun z20 => some (0, z20.2)))
def fX9_goesRather_l45 (x0 : Nat) (x1 : Int) (x2 : Int) : Nat → Int → Mem → Option ((Int × Mem) ⊕ (Int × Mem))
  | 0, _, _ => none
  | n + 1, x3, M => (if x3 < 0 then Option.bind (fX9_lotOf x0 x1 M) (fun q7 => Option.bind (fX9_lotOf x0 x2 q7.2) (fun q8 => Option.bind ((if q7.1 ≤ q8.1 then some (0) else some (1)) : Option (Int)) (fun t10 => if t10 = 0 ∨ t10 = 1 then some (.inl (t10, q8.2)) else none))) else if -2147483648 ≤ (8 * x3) ∧ (8 * x3) ≤ 2147483647 then if -2147483648 ≤ ((8 * x3) + x1) ∧ ((8 * x3) + x1) ≤ 2147483647 then if 0 ≤ ((8 * x3) + x1) ∧ ((8 * x3) + x1) < 72 then nm ((M (x0 + 34) (Int.toNat ((8 * x3) + x1)))) (fun v15 => if -2147483648 ≤ (8 * x3) ∧ (8 * x3) ≤ 2147483647 then if -2147483648 ≤ ((8 * x3) + x2) ∧ ((8 * x3) + x2) ≤ 2147483647 then if 0 ≤ ((8 * x3) + x2) ∧ ((8 * x3) + x2) < 72 then nm ((M (x0 + 34) (Int.toNat ((8 * x3) + x2)))) (fun v19 => (if v15 = v19 then if -2147483648 ≤ (x3 + (-1)) ∧ (x3 + (-1)) ≤ 2147483647 then fX9_goesRather_l45 x0 x1 x2 n (x3 + (-1)) M else none else Option.bind ((if v19 ≤ v15 then some (0) else some (1)) : Option (Int)) (fun t23 => if t23 = 0 ∨ t23 = 1 then some (.inl (t23, M)) else none))) else none else none else none) else none else none else none)
def fX9_goesRather (x0 : Nat) (x1 : Int) (x2 : Int) (M : Mem) : Option (Int × Mem) := if 0 ≤ x1 ∧ x1 < 8 then if 0 ≤ x2 ∧ x2 < 8 then (if (M (x0 + 29) (Int.toNat x1)) = (M (x0 + 29) (Int.toNat x2)) then if -2147483648 ≤ ((M x0 22) - 1) ∧ ((M x0 22) - 1) ≤ 2147483647 then nm (((M x0 22) - 1)) (fun v5 => lr (fX9_goesRather_l45 x0 x1 x2 1000 v5 M) (fun r => r) (fun _ => none)) else none else if 0 ≤ x1 ∧ x1 < 8 then if 0 ≤ x2 ∧ x2 < 8 then Option.bind ((if (M (x0 + 29) (Int.toNat x2)) ≤ (M (x0 + 29) (Int.toNat x1)) then some (0) else some (1)) : Option (Int)) (fun t29 => if t29 = 0 ∨ t29 = 1 then some (t29, M) else none) else none else none) else none else none
def fX9_worst_l4 (x0 : Nat) : Nat → Int → Int → Mem → Option (Int × Int × Mem)
  | 0, _, _, _ => none
  | n + 1, x1, x2, M => (if (M x0 0) ≤ x2 then some (x1, x2, M) else if 0 ≤ x2 ∧ x2 < 8 then Option.bind ((if (M (x0 + 25) (Int.toNat x2)) = 1 then (if x1 = (-1) then some (x2, M) else Option.bind (fX9_goesRather x0 x2 x1 M) (fun q10 => (if q10.1 = 0 then some (x1, q10.2) else some (x2, q10.2)))) else some (x1, M)) : Option (Int × Mem)) (fun t7 => if -2147483648 ≤ (x2 + 1) ∧ (x2 + 1) ≤ 2147483647 then fX9_worst_l4 x0 n t7.1 (x2 + 1) t7.2 else none) else none)
def fX9_worst (x0 : Nat) (M : Mem) : Option (Int × Mem) := Option.bind (fX9_worst_l4 x0 1000 (-1) 0 M) (fun z13 => some (z13.1, z13.2.2))
def fX9_goesStage_l4 (x0 : Nat) (x1 : Int) : Nat → Int → Int → Mem → Option (Int × Int × Mem)
  | 0, _, _, _ => none
  | n + 1, x2, x3, M => (if x2 = 0 then Option.bind (fX9_many_ x0 2 M) (fun q2 => Option.bind ((if q2.1 ≤ 0 then some (q2.2) else (if x3 = 1 then (if x1 = 0 then Option.bind (fX9_keepsAnew x0 q2.2) (fun q13 => some (q13.2)) else some (q2.2)) else Option.bind (fX9_keepsAnew x0 q2.2) (fun q11 => some (q11.2)))) : Option (Mem)) (fun t8 => Option.bind (fX9_tellVotes x0 t8) (fun q14 => Option.bind (fX9_tellSurplus x0 q14.2) (fun q15 => Option.bind (fX9_elects x0 q15.2) (fun q16 => Option.bind ((if q16.1 = 0 then (if (q16.2 x0 31) ≤ (q16.2 x0 7) then Option.bind (fX9_worst x0 q16.2) (fun q46 => nm (q46.1) (fun v47 => if 0 ≤ (q46.2 x0 22) ∧ (q46.2 x0 22) < 9 then nm (wr q46.2 (x0 + 41) (Int.toNat (q46.2 x0 22)) v47) (fun M49 => Option.bind (fX9_endsStage x0 x3 M49) (fun q50 => if 0 ≤ v47 ∧ v47 < 8 then nm (wr q50.2 (x0 + 25) (Int.toNat v47) 3) (fun M52 => if 0 ≤ v47 ∧ v47 < 8 then nm (wr M52 (x0 + 27) (Int.toNat v47) (M52 x0 22)) (fun M54 => if 0 ≤ v47 ∧ v47 < 8 then nm (wr M54 (x0 + 26) (Int.toNat v47) 0) (fun M56 => some (1, M56)) else none) else none) else none)) else none)) else (if x3 = (q16.2 x0 8) then Option.bind (fX9_worst x0 q16.2) (fun q58 => nm (q58.1) (fun v59 => if 0 ≤ (q58.2 x0 22) ∧ (q58.2 x0 22) < 9 then nm (wr q58.2 (x0 + 41) (Int.toNat (q58.2 x0 22)) v59) (fun M61 => Option.bind (fX9_endsStage x0 x3 M61) (fun q62 => if 0 ≤ v59 ∧ v59 < 8 then nm (wr q62.2 (x0 + 25) (Int.toNat v59) 3) (fun M64 => if 0 ≤ v59 ∧ v59 < 8 then nm (wr M64 (x0 + 27) (Int.toNat v59) (M64 x0 22)) (fun M66 => if 0 ≤ v59 ∧ v59 < 8 then nm (wr M66 (x0 + 26) (Int.toNat v59) 0) (fun M68 => some (1, M68)) else none) else none) else none)) else none)) else some (x2, q16.2))) else Option.bind (fX9_endsStage x0 x3 q16.2) (fun q69 => some (1, q69.2))) : Option (Int × Mem)) (fun t43 => if -2147483648 ≤ (x3 + 1) ∧ (x3 + 1) ≤ 2147483647 then fX9_goesStage_l4 x0 x1 n t43.1 (x3 + 1) t43.2 else none)))))) else some (x2, x3, M))
def fX9_goesStage (x0 : Nat) (x1 : Int) (M : Mem) : Option (Int × Mem) := Option.bind (fX9_goesStage_l4 x0 x1 1000 0 1 M) (fun z71 => some (0, z71.2.2))
def fX9_counts_l16 (x0 : Nat) : Nat → Int → Mem → Option (Int × Mem)
  | 0, _, _ => none
  | n + 1, x1, M => (if (M x0 0) ≤ x1 then some (x1, M) else if 0 ≤ x1 ∧ x1 < 8 then Option.bind ((if (M (x0 + 3) (Int.toNat x1)) = 0 then some (1) else some (0)) : Option (Int)) (fun t7 => if 0 ≤ x1 ∧ x1 < 8 then nm (wr M (x0 + 25) (Int.toNat x1) t7) (fun M10 => if 0 ≤ x1 ∧ x1 < 8 then Option.bind ((if (M10 (x0 + 3) (Int.toNat x1)) = 0 then some (1000000) else some (0)) : Option (Int)) (fun t13 => if 0 ≤ x1 ∧ x1 < 8 then nm (wr M10 (x0 + 26) (Int.toNat x1) t13) (fun M16 => if 0 ≤ x1 ∧ x1 < 8 then nm (wr M16 (x0 + 27) (Int.toNat x1) (-5)) (fun M18 => if -2147483648 ≤ (x1 + 1) ∧ (x1 + 1) ≤ 2147483647 then fX9_counts_l16 x0 n (x1 + 1) M18 else none) else none) else none) else none) else none) else none)
def fX9_counts_l82 (x0 : Nat) : Nat → Int → Mem → Option (Int × Mem)
  | 0, _, _ => none
  | n + 1, x1, M => Option.bind (fX9_many_ x0 2 M) (fun q21 => (if (q21.2 x0 6) ≤ q21.1 then some (x1, q21.2) else Option.bind (fX9_many_ x0 1 q21.2) (fun q23 => (if q23.1 ≤ 0 then some (x1, q23.2) else if 0 ≤ (q23.2 x0 22) ∧ (q23.2 x0 22) < 9 then nm (wr q23.2 (x0 + 41) (Int.toNat (q23.2 x0 22)) (-5)) (fun M26 => if 0 ≤ (M26 x0 22) ∧ (M26 x0 22) < 9 then nm (wr M26 (x0 + 42) (Int.toNat (M26 x0 22)) 0) (fun M28 => Option.bind (fX9_many_ x0 1 M28) (fun q29 => Option.bind (fX9_many_ x0 2 q29.2) (fun q30 => if -2147483648 ≤ (q29.1 + q30.1) ∧ (q29.1 + q30.1) ≤ 2147483647 then Option.bind ((if (q30.2 x0 6) < (q29.1 + q30.1) then Option.bind (fX9_goesStage x0 x1 q30.2) (fun q37 => some (q37.2)) else Option.bind (fX9_fills x0 q30.2) (fun q38 => some (q38.2))) : Option (Mem)) (fun t35 => if 0 ≤ (t35 x0 22) ∧ (t35 x0 22) < 9 then Option.bind ((if (t35 (x0 + 41) (Int.toNat (t35 x0 22))) = (-5) then some (0) else some (1)) : Option (Int)) (fun t41 => if -2147483648 ≤ ((t35 x0 22) + 1) ∧ ((t35 x0 22) + 1) ≤ 2147483647 then nm (wr t35 x0 22 ((t35 x0 22) + 1)) (fun M44 => fX9_counts_l82 x0 n t41 M44) else none) else none) else none))) else none) else none))))
def fX9_counts (x0 : Nat) (M : Mem) : Option (Int × Mem) := Option.bind (fX9_tellPiles x0 M) (fun q1 => nm (wr q1.2 x0 22 0) (fun M2 => nm (wr M2 x0 23 0) (fun M3 => Option.bind (fX9_counts_l16 x0 1000 0 M3) (fun z20 => Option.bind (fX9_counts_l82 x0 1000 0 z20.2) (fun z45 => some (0, z45.2))))))
def fX9_electedSet_l8 (x0 : Nat) : Nat → Int → Int → Mem → Option (Int × Int × Mem)
  | 0, _, _, _ => none
  | n + 1, x1, x2, M => (if (M x0 0) ≤ x2 then some (x1, x2, M) else if 0 ≤ x2 ∧ x2 < 8 then Option.bind ((if (M (x0 + 25) (Int.toNat x2)) = 2 then nm ((bOr x1 (bShl 1 x2))) (fun v8 => some (v8)) else some (x1)) : Option (Int)) (fun t6 => if -2147483648 ≤ (x2 + 1) ∧ (x2 + 1) ≤ 2147483647 then fX9_electedSet_l8 x0 n t6 (x2 + 1) M else none) else none)
def fX9_electedSet (x0 : Nat) (M : Mem) : Option (Int × Mem) := Option.bind (fX9_counts x0 M) (fun q1 => Option.bind (fX9_electedSet_l8 x0 1000 0 0 q1.2) (fun z10 => some (z10.1, z10.2.2)))
def fX9_firstMany_l4 (x0 : Nat) (x1 : Int) : Nat → Int → Int → Mem → Option (Int × Int × Mem)
  | 0, _, _, _ => none
  | n + 1, x2, x3, M => (if (M x0 1) ≤ x3 then some (x2, x3, M) else if 0 ≤ x3 ∧ x3 < 25 then Option.bind (fX9_left x0 (M (x0 + 5) (Int.toNat x3)) M) (fun q3 => nm (q3.1) (fun v4 => Option.bind ((if v4 ≤ 0 then some (x2, q3.2) else Option.bind (fX9_digitAt v4 0 q3.2) (fun q14 => if -2147483648 ≤ (x1 + 1) ∧ (x1 + 1) ≤ 2147483647 then (if q14.1 = (x1 + 1) then if 0 ≤ x3 ∧ x3 < 25 then if -2147483648 ≤ (x2 + (q14.2 (x0 + 6) (Int.toNat x3))) ∧ (x2 + (q14.2 (x0 + 6) (Int.toNat x3))) ≤ 2147483647 then nm ((x2 + (q14.2 (x0 + 6) (Int.toNat x3)))) (fun v19 => some (v19, q14.2)) else none else none else some (x2, q14.2)) else none)) : Option (Int × Mem)) (fun t12 => if -2147483648 ≤ (x3 + 1) ∧ (x3 + 1) ≤ 2147483647 then fX9_firstMany_l4 x0 x1 n t12.1 (x3 + 1) t12.2 else none))) else none)
def fX9_firstMany (x0 : Nat) (x1 : Int) (M : Mem) : Option (Int × Mem) := Option.bind (fX9_firstMany_l4 x0 x1 1000 0 0 M) (fun z21 => some (z21.1, z21.2.2))
def fX9_of (x0 : Nat) (x1 : Int) (x2 : Int) (M : Mem) : Option (Int × Mem) := Option.bind (fX9_isOne x0 x1 M) (fun q1 => (if q1.1 = 0 then some ((-1), q1.2) else Option.bind (fX9_in x2 0 3 q1.2) (fun q3 => (if q3.1 = 0 then some ((-1), q3.2) else Option.bind (fX9_counts x0 q3.2) (fun q5 => Option.bind ((if x2 = 0 then if 0 ≤ x1 ∧ x1 < 8 then some ((q5.2 (x0 + 25) (Int.toNat x1)), q5.2) else none else (if x2 = 1 then if 0 ≤ x1 ∧ x1 < 8 then some ((q5.2 (x0 + 27) (Int.toNat x1)), q5.2) else none else (if x2 = 2 then Option.bind (fX9_lotOf x0 x1 q5.2) (fun q18 => some (q18.1, q18.2)) else Option.bind (fX9_firstMany x0 x1 q5.2) (fun q17 => some (q17.1, q17.2))))) : Option (Int × Mem)) (fun t13 => some (t13.1, t13.2)))))))
def fX9_ballotOf (x0 : Nat) (x1 : Int) (x2 : Int) (M : Mem) : Option (Int × Mem) := Option.bind (fX9_isBallot x0 x1 M) (fun q1 => (if q1.1 = 0 then some ((-1), q1.2) else Option.bind (fX9_in x2 0 2 q1.2) (fun q3 => (if q3.1 = 0 then some ((-1), q3.2) else if 0 ≤ x1 ∧ x1 < 25 then Option.bind (fX9_left x0 (q3.2 (x0 + 5) (Int.toNat x1)) q3.2) (fun q6 => nm (q6.1) (fun v7 => Option.bind ((if x2 = 0 then if 0 ≤ x1 ∧ x1 < 25 then some ((q6.2 (x0 + 6) (Int.toNat x1)), q6.2) else none else (if x2 = 1 then if 0 ≤ x1 ∧ x1 < 25 then Option.bind (fX9_lengthOf (q6.2 (x0 + 5) (Int.toNat x1)) q6.2) (fun q23 => some (q23.1, q23.2)) else none else (if v7 = 0 then some ((-5), q6.2) else Option.bind (fX9_digitAt v7 0 q6.2) (fun q20 => if -2147483648 ≤ (q20.1 - 1) ∧ (q20.1 - 1) ≤ 2147483647 then some ((q20.1 - 1), q20.2) else none)))) : Option (Int × Mem)) (fun t16 => some (t16.1, t16.2)))) else none))))
def fX9_rowOf (x0 : Nat) (x1 : Int) (x2 : Int) (M : Mem) : Option (Int × Mem) := Option.bind (fX9_isBallot x0 x1 M) (fun q1 => (if q1.1 = 0 then some ((-1), q1.2) else if 0 ≤ x1 ∧ x1 < 25 then Option.bind (fX9_lengthOf (q1.2 (x0 + 5) (Int.toNat x1)) q1.2) (fun q4 => if -2147483648 ≤ (q4.1 - 1) ∧ (q4.1 - 1) ≤ 2147483647 then Option.bind (fX9_in x2 0 (q4.1 - 1) q4.2) (fun q6 => (if q6.1 = 0 then some ((-1), q6.2) else if 0 ≤ x1 ∧ x1 < 25 then Option.bind (fX9_digitAt (q6.2 (x0 + 5) (Int.toNat x1)) x2 q6.2) (fun q9 => if -2147483648 ≤ (q9.1 - 1) ∧ (q9.1 - 1) ≤ 2147483647 then some ((q9.1 - 1), q9.2) else none) else none)) else none) else none))
def fX9_told (x0 : Nat) (x1 : Int) (M : Mem) : Option (Int × Mem) := Option.bind (fX9_in x1 0 8 M) (fun q1 => (if q1.1 = 0 then some ((-1), q1.2) else Option.bind (fX9_electedSet x0 q1.2) (fun q3 => nm (q3.1) (fun v4 => (if x1 = 0 then some ((q3.2 x0 0), q3.2) else if x1 = 1 then some ((q3.2 x0 1), q3.2) else if x1 = 2 then some ((q3.2 x0 22), q3.2) else if x1 = 3 then some ((q3.2 x0 6), q3.2) else if x1 = 4 then some ((q3.2 x0 7), q3.2) else if x1 = 5 then some ((q3.2 x0 8), q3.2) else if x1 = 6 then some ((q3.2 x0 23), q3.2) else if x1 = 7 then some (v4, q3.2) else some ((q3.2 x0 18), q3.2))))))
def fX9_isStage (x0 : Nat) (x1 : Int) (M : Mem) : Option (Int × Mem) := Option.bind (fX9_counts x0 M) (fun q1 => if -2147483648 ≤ ((q1.2 x0 22) - 1) ∧ ((q1.2 x0 22) - 1) ≤ 2147483647 then Option.bind (fX9_in x1 0 ((q1.2 x0 22) - 1) q1.2) (fun q3 => if q3.1 = 0 ∨ q3.1 = 1 then some (q3.1, q3.2) else none) else none)
def fX9_stageOf (x0 : Nat) (x1 : Int) (x2 : Int) (M : Mem) : Option (Int × Mem) := Option.bind (fX9_isStage x0 x1 M) (fun q1 => (if q1.1 = 0 then some ((-1), q1.2) else Option.bind (fX9_in x2 0 2 q1.2) (fun q3 => (if q3.1 = 0 then some ((-1), q3.2) else Option.bind ((if x2 = 0 then if 0 ≤ x1 ∧ x1 < 9 then some ((q3.2 (x0 + 40) (Int.toNat x1))) else none else (if x2 = 1 then if 0 ≤ x1 ∧ x1 < 9 then some ((q3.2 (x0 + 41) (Int.toNat x1))) else none else if 0 ≤ x1 ∧ x1 < 9 then some ((q3.2 (x0 + 42) (Int.toNat x1))) else none)) : Option (Int)) (fun t10 => some (t10, q3.2))))))
def fX9_amount (x0 : Nat) (x1 : Int) (x2 : Int) (M : Mem) : Option (Int × Mem) := Option.bind (fX9_isStage x0 x1 M) (fun q1 => (if q1.1 = 0 then some ((-9223372036854775808), q1.2) else Option.bind (fX9_in x2 0 3 q1.2) (fun q3 => (if q3.1 = 0 then some ((-9223372036854775808), q3.2) else Option.bind ((if x2 = 0 then if 0 ≤ x1 ∧ x1 < 9 then some ((q3.2 (x0 + 35) (Int.toNat x1))) else none else (if x2 = 1 then if 0 ≤ x1 ∧ x1 < 9 then some ((q3.2 (x0 + 36) (Int.toNat x1))) else none else (if x2 = 2 then if 0 ≤ x1 ∧ x1 < 9 then some ((q3.2 (x0 + 37) (Int.toNat x1))) else none else if 0 ≤ x1 ∧ x1 < 9 then some ((q3.2 (x0 + 38) (Int.toNat x1))) else none))) : Option (Int)) (fun t12 => some (t12, q3.2))))))
def fX9_votes (x0 : Nat) (x1 : Int) (x2 : Int) (x3 : Int) (M : Mem) : Option (Int × Mem) := Option.bind (fX9_isStage x0 x1 M) (fun q1 => (if q1.1 = 0 then some ((-9223372036854775808), q1.2) else Option.bind (fX9_isOne x0 x2 q1.2) (fun q3 => (if q3.1 = 0 then some ((-9223372036854775808), q3.2) else Option.bind (fX9_in x3 0 1 q3.2) (fun q5 => (if q5.1 = 0 then some ((-9223372036854775808), q5.2) else Option.bind ((if x3 = 0 then if -2147483648 ≤ (8 * x1) ∧ (8 * x1) ≤ 2147483647 then if -2147483648 ≤ ((8 * x1) + x2) ∧ ((8 * x1) + x2) ≤ 2147483647 then if 0 ≤ ((8 * x1) + x2) ∧ ((8 * x1) + x2) < 72 then some ((q5.2 (x0 + 34) (Int.toNat ((8 * x1) + x2)))) else none else none else none else if -2147483648 ≤ (8 * x1) ∧ (8 * x1) ≤ 2147483647 then if -2147483648 ≤ ((8 * x1) + x2) ∧ ((8 * x1) + x2) ≤ 2147483647 then if 0 ≤ ((8 * x1) + x2) ∧ ((8 * x1) + x2) < 72 then some ((q5.2 (x0 + 39) (Int.toNat ((8 * x1) + x2)))) else none else none else none) : Option (Int)) (fun t14 => some (t14, q5.2))))))))
def fX9_elected (x0 : Nat) (x1 : Int) (M : Mem) : Option (Int × Mem) := Option.bind (fX9_counts x0 M) (fun q1 => if -2147483648 ≤ ((q1.2 x0 23) - 1) ∧ ((q1.2 x0 23) - 1) ≤ 2147483647 then Option.bind (fX9_in x1 0 ((q1.2 x0 23) - 1) q1.2) (fun q3 => Option.bind ((if q3.1 = 0 then some ((-5)) else if 0 ≤ x1 ∧ x1 < 8 then some ((q3.2 (x0 + 28) (Int.toNat x1))) else none) : Option (Int)) (fun t6 => some (t6, q3.2))) else none)
def fX9_isBefore (x0 : Nat) (x1 : Int) (x2 : Int) (x3 : Int) (M : Mem) : Option (Int × Mem) := if -2147483648 ≤ (8 * x3) ∧ (8 * x3) ≤ 2147483647 then if -2147483648 ≤ ((8 * x3) + x1) ∧ ((8 * x3) + x1) ≤ 2147483647 then if 0 ≤ ((8 * x3) + x1) ∧ ((8 * x3) + x1) < 72 then nm ((M (x0 + 34) (Int.toNat ((8 * x3) + x1)))) (fun v4 => if -2147483648 ≤ (8 * x3) ∧ (8 * x3) ≤ 2147483647 then if -2147483648 ≤ ((8 * x3) + x2) ∧ ((8 * x3) + x2) ≤ 2147483647 then if 0 ≤ ((8 * x3) + x2) ∧ ((8 * x3) + x2) < 72 then nm ((M (x0 + 34) (Int.toNat ((8 * x3) + x2)))) (fun v8 => Option.bind ((if v8 < v4 then some (1, M) else (if v4 = v8 then Option.bind (fX9_lotOf x0 x1 M) (fun q17 => Option.bind (fX9_lotOf x0 x2 q17.2) (fun q18 => (if q18.1 ≤ q17.1 then some (0, q18.2) else some (1, q18.2)))) else some (0, M))) : Option (Int × Mem)) (fun t14 => if t14.1 = 0 ∨ t14.1 = 1 then some (t14.1, t14.2) else none)) else none else none else none) else none else none else none
def fX9_ranksBy_l68 (x0 : Nat) (x1 : Int) (x2 : Int) (x3 : Int) (x4 : Int) (x5 : Int) : Nat → Int → Mem → Option (Int × Mem)
  | 0, _, _ => none
  | n + 1, x7, M => (if x7 ≤ x1 then some (x7, M) else if -2147483648 ≤ (x7 - 1) ∧ (x7 - 1) ≤ 2147483647 then if 0 ≤ (x7 - 1) ∧ (x7 - 1) < 8 then Option.bind (fX9_isBefore x0 x5 (M (x0 + 43) (Int.toNat (x7 - 1))) x3 M) (fun q23 => (if q23.1 = 0 then some (x7, q23.2) else if -2147483648 ≤ (x7 - 1) ∧ (x7 - 1) ≤ 2147483647 then if 0 ≤ (x7 - 1) ∧ (x7 - 1) < 8 then if 0 ≤ x7 ∧ x7 < 8 then nm (wr q23.2 (x0 + 43) (Int.toNat x7) (q23.2 (x0 + 43) (Int.toNat (x7 - 1)))) (fun M28 => if -2147483648 ≤ (x7 + (-1)) ∧ (x7 + (-1)) ≤ 2147483647 then fX9_ranksBy_l68 x0 x1 x2 x3 x4 x5 n (x7 + (-1)) M28 else none) else none else none else none)) else none else none)
def fX9_ranksBy_l6 (x0 : Nat) (x1 : Int) (x2 : Int) (x3 : Int) : Nat → Int → Int → Mem → Option (Int × Int × Mem)
  | 0, _, _, _ => none
  | n + 1, x4, x5, M => (if (M x0 0) ≤ x5 then some (x4, x5, M) else Option.bind ((if x2 = (-1) then if 0 ≤ x5 ∧ x5 < 8 then (if (M (x0 + 25) (Int.toNat x5)) = 0 then some (0) else some (1)) else none else if 0 ≤ x5 ∧ x5 < 8 then (if (M (x0 + 25) (Int.toNat x5)) = x2 then some (1) else some (0)) else none) : Option (Int)) (fun t7 => Option.bind ((if t7 = 0 then some (x4, M) else Option.bind (fX9_ranksBy_l68 x0 x1 x2 x3 x4 x5 1000 x4 M) (fun z30 => if 0 ≤ z30.1 ∧ z30.1 < 8 then nm (wr z30.2 (x0 + 43) (Int.toNat z30.1) x5) (fun M32 => if -2147483648 ≤ (x4 + 1) ∧ (x4 + 1) ≤ 2147483647 then some ((x4 + 1), M32) else none) else none)) : Option (Int × Mem)) (fun t18 => if -2147483648 ≤ (x5 + 1) ∧ (x5 + 1) ≤ 2147483647 then fX9_ranksBy_l6 x0 x1 x2 x3 n t18.1 (x5 + 1) t18.2 else none)))
def fX9_ranksBy (x0 : Nat) (x1 : Int) (x2 : Int) (x3 : Int) (M : Mem) : Option (Int × Mem) := Option.bind (fX9_ranksBy_l6 x0 x1 x2 x3 1000 x1 0 M) (fun z35 => some (z35.1, z35.2.2))
def fX9_ranked_l58 (x0 : Nat) (x1 : Int) : Nat → Int → Int → Mem → Option (Int × Int × Mem)
  | 0, _, _, _ => none
  | n + 1, x2, x3, M => (if x3 < 0 then some (x2, x3, M) else if 0 ≤ x3 ∧ x3 < 9 then Option.bind ((if (M (x0 + 41) (Int.toNat x3)) = (-5) then some (x2, M) else if 0 ≤ x3 ∧ x3 < 9 then if 0 ≤ x2 ∧ x2 < 8 then nm (wr M (x0 + 43) (Int.toNat x2) (M (x0 + 41) (Int.toNat x3))) (fun M22 => if -2147483648 ≤ (x2 + 1) ∧ (x2 + 1) ≤ 2147483647 then some ((x2 + 1), M22) else none) else none else none) : Option (Int × Mem)) (fun t18 => if -2147483648 ≤ (x3 + (-1)) ∧ (x3 + (-1)) ≤ 2147483647 then fX9_ranked_l58 x0 x1 n t18.1 (x3 + (-1)) t18.2 else none) else none)
def fX9_ranked_l99 (x0 : Nat) (x1 : Int) : Nat → Int → Int → Mem → Option (Int × Int × Mem)
  | 0, _, _, _ => none
  | n + 1, x2, x3, M => (if (M x0 0) ≤ x3 then some (x2, x3, M) else if 0 ≤ x3 ∧ x3 < 8 then Option.bind ((if (M (x0 + 25) (Int.toNat x3)) = 0 then if 0 ≤ x2 ∧ x2 < 8 then nm (wr M (x0 + 43) (Int.toNat x2) x3) (fun M35 => if -2147483648 ≤ (x2 + 1) ∧ (x2 + 1) ≤ 2147483647 then some ((x2 + 1), M35) else none) else none else some (x2, M)) : Option (Int × Mem)) (fun t32 => if -2147483648 ≤ (x3 + 1) ∧ (x3 + 1) ≤ 2147483647 then fX9_ranked_l99 x0 x1 n t32.1 (x3 + 1) t32.2 else none) else none)
def fX9_ranked (x0 : Nat) (x1 : Int) (M : Mem) : Option (Int × Mem) := Option.bind (fX9_isOne x0 x1 M) (fun q1 => (if q1.1 = 0 then some ((-1), q1.2) else Option.bind (fX9_counts x0 q1.2) (fun q3 => if 0 ≤ (0 : Int) ∧ 0 ≤ (0 : Int) ∧ 0 ≤ (q3.2 x0 23) ∧ (0 : Int) + (q3.2 x0 23) ≤ 8 ∧ (0 : Int) + (q3.2 x0 23) ≤ 8 then nm (cpM q3.2 (x0 + 28) (Int.toNat 0) (x0 + 43) (Int.toNat 0) (Int.toNat (q3.2 x0 23))) (fun M5 => if -2147483648 ≤ ((M5 x0 22) - 1) ∧ ((M5 x0 22) - 1) ≤ 2147483647 then Option.bind (fX9_ranksBy x0 (M5 x0 23) 1 (if 0 < ((M5 x0 22) - 1) then ((M5 x0 22) - 1) else 0) M5) (fun q7 => nm (q7.1) (fun v8 => if -2147483648 ≤ ((q7.2 x0 22) - 1) ∧ ((q7.2 x0 22) - 1) ≤ 2147483647 then nm (((q7.2 x0 22) - 1)) (fun v10 => Option.bind (fX9_ranked_l58 x0 x1 1000 v8 v10 q7.2) (fun z25 => Option.bind (fX9_ranked_l99 x0 x1 1000 z25.1 0 z25.2.2) (fun z38 => if 0 ≤ x1 ∧ x1 < 8 then some ((z38.2.2 (x0 + 43) (Int.toNat x1)), z38.2.2) else none))) else none)) else none) else none)))
def fX9_standing (x0 : Nat) (x1 : Int) (x2 : Int) (M : Mem) : Option (Int × Mem) := Option.bind (fX9_isStage x0 x1 M) (fun q1 => (if q1.1 = 0 then some ((-1), q1.2) else Option.bind (fX9_ranksBy x0 0 (-1) x1 q1.2) (fun q3 => nm (q3.1) (fun v4 => if -2147483648 ≤ (v4 - 1) ∧ (v4 - 1) ≤ 2147483647 then Option.bind (fX9_in x2 0 (v4 - 1) q3.2) (fun q6 => Option.bind ((if q6.1 = 0 then some ((-1)) else if 0 ≤ x2 ∧ x2 < 8 then some ((q6.2 (x0 + 43) (Int.toNat x2))) else none) : Option (Int)) (fun t9 => some (t9, q6.2))) else none))))
def fX9_pile (x0 : Nat) (x1 : Int) (x2 : Int) (M : Mem) : Option (Int × Mem) := Option.bind (fX9_tellPiles x0 M) (fun q1 => if -2147483648 ≤ ((q1.2 x0 18) - 1) ∧ ((q1.2 x0 18) - 1) ≤ 2147483647 then Option.bind (fX9_in x1 0 ((q1.2 x0 18) - 1) q1.2) (fun q3 => (if q3.1 = 0 then some ((-1), q3.2) else Option.bind (fX9_in x2 0 1 q3.2) (fun q5 => (if q5.1 = 0 then some ((-1), q5.2) else Option.bind ((if x2 = 0 then if 0 ≤ x1 ∧ x1 < 25 then some ((q5.2 (x0 + 20) (Int.toNat x1))) else none else if 0 ≤ x1 ∧ x1 < 25 then some ((q5.2 (x0 + 22) (Int.toNat x1))) else none) : Option (Int)) (fun t10 => some (t10, q5.2)))))) else none)
def fX9_isTwo (x0 : Nat) (x1 : Int) (x2 : Int) (M : Mem) : Option (Int × Mem) := Option.bind (fX9_isOne x0 x1 M) (fun q1 => Option.bind ((if q1.1 = 0 then some (0, q1.2) else Option.bind (fX9_isOne x0 x2 q1.2) (fun q8 => (if q8.1 = 0 then some (0, q8.2) else (if x1 = x2 then some (0, q8.2) else some (1, q8.2))))) : Option (Int × Mem)) (fun t6 => if t6.1 = 0 ∨ t6.1 = 1 then some (t6.1, t6.2) else none))
def fX9_preferredTo_l35 (x0 : Nat) (x1 : Int) (x2 : Int) (x3 : Int) (x4 : Int) (x5 : Int) : Nat → Int → Int → Mem → Option (Int × Int × Mem)
  | 0, _, _, _ => none
  | n + 1, x6, x7, M => (if x7 < 0 then some (x6, x7, M) else Option.bind (fX9_digitAt x5 x7 M) (fun q8 => if -2147483648 ≤ (q8.1 - 1) ∧ (q8.1 - 1) ≤ 2147483647 then nm ((q8.1 - 1)) (fun v10 => Option.bind ((if v10 = x1 then some (v10) else (if v10 = x2 then some (v10) else some (x6))) : Option (Int)) (fun t13 => if -2147483648 ≤ (x7 + (-1)) ∧ (x7 + (-1)) ≤ 2147483647 then fX9_preferredTo_l35 x0 x1 x2 x3 x4 x5 n t13 (x7 + (-1)) q8.2 else none)) else none))
def fX9_preferredTo_l5 (x0 : Nat) (x1 : Int) (x2 : Int) : Nat → Int → Int → Mem → Option (Int × Int × Mem)
  | 0, _, _, _ => none
  | n + 1, x3, x4, M => (if (M x0 1) ≤ x4 then some (x3, x4, M) else if 0 ≤ x4 ∧ x4 < 25 then nm ((M (x0 + 5) (Int.toNat x4))) (fun v3 => Option.bind (fX9_lengthOf v3 M) (fun q4 => if -2147483648 ≤ (q4.1 - 1) ∧ (q4.1 - 1) ≤ 2147483647 then nm ((q4.1 - 1)) (fun v6 => Option.bind (fX9_preferredTo_l35 x0 x1 x2 x3 x4 v3 1000 (-1) v6 q4.2) (fun z17 => Option.bind ((if z17.1 = x1 then if 0 ≤ x4 ∧ x4 < 25 then if -2147483648 ≤ (x3 + (z17.2.2 (x0 + 6) (Int.toNat x4))) ∧ (x3 + (z17.2.2 (x0 + 6) (Int.toNat x4))) ≤ 2147483647 then nm ((x3 + (z17.2.2 (x0 + 6) (Int.toNat x4)))) (fun v26 => some (v26)) else none else none else some (x3)) : Option (Int)) (fun t22 => if -2147483648 ≤ (x4 + 1) ∧ (x4 + 1) ≤ 2147483647 then fX9_preferredTo_l5 x0 x1 x2 n t22 (x4 + 1) z17.2.2 else none))) else none)) else none)
def fX9_preferredTo (x0 : Nat) (x1 : Int) (x2 : Int) (M : Mem) : Option (Int × Mem) := Option.bind (fX9_preferredTo_l5 x0 x1 x2 1000 0 0 M) (fun z28 => some (z28.1, z28.2.2))
def fX9_preferred (x0 : Nat) (x1 : Int) (x2 : Int) (M : Mem) : Option (Int × Mem) := Option.bind (fX9_isTwo x0 x1 x2 M) (fun q1 => Option.bind ((if q1.1 = 0 then some ((-1), q1.2) else Option.bind (fX9_preferredTo x0 x1 x2 q1.2) (fun q6 => some (q6.1, q6.2))) : Option (Int × Mem)) (fun t4 => some (t4.1, t4.2)))
def fX9_isBest_l17 (x0 : Nat) (x1 : Int) : Nat → Int → Int → Mem → Option (Int × Int × Mem)
  | 0, _, _, _ => none
  | n + 1, x2, x3, M => (if (M x0 0) ≤ x3 then some (x2, x3, M) else Option.bind ((if x3 = x1 then some (x2, M) else if 0 ≤ x3 ∧ x3 < 8 then (if (M (x0 + 3) (Int.toNat x3)) = 0 then Option.bind ((if x2 = 0 then some (0, M) else Option.bind (fX9_preferredTo x0 x1 x3 M) (fun q29 => Option.bind (fX9_preferredTo x0 x3 x1 q29.2) (fun q30 => (if q29.1 ≤ q30.1 then some (0, q30.2) else some (1, q30.2))))) : Option (Int × Mem)) (fun t27 => nm (t27.1) (fun v32 => some (v32, t27.2))) else some (x2, M)) else none) : Option (Int × Mem)) (fun t19 => if -2147483648 ≤ (x3 + 1) ∧ (x3 + 1) ≤ 2147483647 then fX9_isBest_l17 x0 x1 n t19.1 (x3 + 1) t19.2 else none))
def fX9_isBest (x0 : Nat) (x1 : Int) (M : Mem) : Option (Int × Mem) := if 0 ≤ x1 ∧ x1 < 8 then Option.bind ((if (M (x0 + 3) (Int.toNat x1)) = 0 then some (1) else some (0)) : Option (Int)) (fun t3 => Option.bind (fX9_isBest_l17 x0 x1 1000 t3 0 M) (fun z34 => if z34.1 = 0 ∨ z34.1 = 1 then some (z34.1, z34.2.2) else none)) else none
def fX9_best_l2 (x0 : Nat) : Nat → Int → Mem → Option ((Int × Mem) ⊕ (Int × Mem))
  | 0, _, _ => none
  | n + 1, x1, M => (if (M x0 0) ≤ x1 then some (.inl ((-5), M)) else Option.bind (fX9_isBest x0 x1 M) (fun q2 => (if q2.1 = 0 then if -2147483648 ≤ (x1 + 1) ∧ (x1 + 1) ≤ 2147483647 then fX9_best_l2 x0 n (x1 + 1) q2.2 else none else some (.inl (x1, q2.2)))))
def fX9_best (x0 : Nat) (M : Mem) : Option (Int × Mem) := lr (fX9_best_l2 x0 1000 0 M) (fun r => r) (fun _ => none)
def fX9_lowest_l6 (x0 : Int) (x2 : Int) (x4 : Int) : Nat → Int → Int → Mem → Option (Int × Int × Mem)
  | 0, _, _, _ => none
  | n + 1, x5, x7, M => (if x7 = 0 then some (x5, x7, M) else if 0 ≤ x5 ∧ 0 < x7 then nm ((x5 % x7)) (fun v3 => fX9_lowest_l6 x0 x2 x4 n x7 v3 M) else none)
def fX9_lowest (x0 : Int) (x2 : Int) (x4 : Int) (M : Mem) : Option (Int × Mem) := Option.bind (fX9_lowest_l6 x0 x2 x4 1000 x0 x2 M) (fun z4 => Option.bind ((if x4 = 0 then some (x0) else some (x2)) : Option (Int)) (fun t6 => if 0 ≤ t6 ∧ 0 < z4.1 then some ((t6 / z4.1), z4.2.2) else none))
def fX9_share (x0 : Nat) (x1 : Int) (x2 : Int) (x3 : Int) (M : Mem) : Option (Int × Mem) := Option.bind (fX9_isStage x0 x1 M) (fun q1 => (if q1.1 = 0 then some ((-9223372036854775808), q1.2) else Option.bind (fX9_isOne x0 x2 q1.2) (fun q3 => (if q3.1 = 0 then some ((-9223372036854775808), q3.2) else Option.bind (fX9_in x3 0 1 q3.2) (fun q5 => (if q5.1 = 0 then some ((-9223372036854775808), q5.2) else if 0 ≤ x1 ∧ x1 < 9 then (if (q5.2 (x0 + 38) (Int.toNat x1)) = 0 then some (x3, q5.2) else if -2147483648 ≤ (8 * x1) ∧ (8 * x1) ≤ 2147483647 then if -2147483648 ≤ ((8 * x1) + x2) ∧ ((8 * x1) + x2) ≤ 2147483647 then if 0 ≤ ((8 * x1) + x2) ∧ ((8 * x1) + x2) < 72 then if 0 ≤ x1 ∧ x1 < 9 then Option.bind (fX9_lowest (q5.2 (x0 + 34) (Int.toNat ((8 * x1) + x2))) (q5.2 (x0 + 38) (Int.toNat x1)) x3 q5.2) (fun q13 => some (q13.1, q13.2)) else none else none else none else none) else none))))))
def fX9_without (x0 : Nat) (x1 : Int) (M : Mem) : Option (Int × Mem) := Option.bind (fX9_isOne x0 x1 M) (fun q1 => (if q1.1 = 0 then some ((-1), q1.2) else if 0 ≤ x1 ∧ x1 < 8 then nm ((q1.2 (x0 + 3) (Int.toNat x1))) (fun v4 => if 0 ≤ x1 ∧ x1 < 8 then nm (wr q1.2 (x0 + 3) (Int.toNat x1) 1) (fun M6 => Option.bind (fX9_electedSet x0 M6) (fun q7 => nm (q7.1) (fun v8 => if 0 ≤ x1 ∧ x1 < 8 then if v4 = 0 ∨ v4 = 1 then nm (wr q7.2 (x0 + 3) (Int.toNat x1) v4) (fun M11 => some (v8, M11)) else none else none))) else none) else none))
def fX9_raised_l33 (x0 : Nat) (x1 : Int) (x2 : Int) (x3 : Int) : Nat → Int → Int → Mem → Option (Int × Int × Mem)
  | 0, _, _, _ => none
  | n + 1, x4, x5, M => Option.bind (fX9_lengthOf x3 M) (fun q9 => (if q9.1 ≤ x5 then some (x4, x5, q9.2) else Option.bind (fX9_digitAt x3 x5 q9.2) (fun q11 => if -2147483648 ≤ (x2 + 1) ∧ (x2 + 1) ≤ 2147483647 then Option.bind ((if q11.1 = (x2 + 1) then some (x4, q11.2) else if -2147483648 ≤ (10 * x4) ∧ (10 * x4) ≤ 2147483647 then Option.bind (fX9_digitAt x3 x5 q11.2) (fun q21 => if -2147483648 ≤ ((10 * x4) + q21.1) ∧ ((10 * x4) + q21.1) ≤ 2147483647 then nm (((10 * x4) + q21.1)) (fun v23 => some (v23, q21.2)) else none) else none) : Option (Int × Mem)) (fun t18 => if -2147483648 ≤ (x5 + 1) ∧ (x5 + 1) ≤ 2147483647 then fX9_raised_l33 x0 x1 x2 x3 n t18.1 (x5 + 1) t18.2 else none) else none)))
def fX9_raised (x0 : Nat) (x1 : Int) (x2 : Int) (M : Mem) : Option (Int × Mem) := Option.bind (fX9_isBallot x0 x1 M) (fun q1 => (if q1.1 = 0 then some ((-1), q1.2) else Option.bind (fX9_isOne x0 x2 q1.2) (fun q3 => (if q3.1 = 0 then some ((-1), q3.2) else if 0 ≤ x1 ∧ x1 < 25 then nm ((q3.2 (x0 + 5) (Int.toNat x1))) (fun v6 => if -2147483648 ≤ (x2 + 1) ∧ (x2 + 1) ≤ 2147483647 then nm ((x2 + 1)) (fun v8 => Option.bind (fX9_raised_l33 x0 x1 x2 v6 1000 v8 0 q3.2) (fun z25 => if 0 ≤ x1 ∧ x1 < 25 then nm (wr z25.2.2 (x0 + 5) (Int.toNat x1) z25.1) (fun M27 => Option.bind (fX9_electedSet x0 M27) (fun q28 => nm (q28.1) (fun v29 => if 0 ≤ x1 ∧ x1 < 25 then nm (wr q28.2 (x0 + 5) (Int.toNat x1) v6) (fun M31 => some (v29, M31)) else none))) else none)) else none) else none))))
def fX9_needs_l55 (x0 : Nat) (x1 : Int) (x2 : Int) : Nat → Int → Int → Mem → Option ((Int × Mem) ⊕ (Int × Int × Mem))
  | 0, _, _, _ => none
  | n + 1, x3, x4, M => (if 30 < x4 then some (.inl (x3, M)) else (if x3 = (-5) then if -2147483648 ≤ (x4 * x2) ∧ (x4 * x2) ≤ 2147483647 then if 0 ≤ (M x0 1) ∧ (M x0 1) < 25 then nm (wr M (x0 + 6) (Int.toNat (M x0 1)) (x4 * x2)) (fun M14 => if -2147483648 ≤ ((M14 x0 1) + 1) ∧ ((M14 x0 1) + 1) ≤ 2147483647 then Option.bind (fX9_firstOver x0 ((M14 x0 1) + 1) M14) (fun q16 => (if q16.1 = (-1) then if -2147483648 ≤ ((q16.2 x0 1) + 1) ∧ ((q16.2 x0 1) + 1) ≤ 2147483647 then nm (wr q16.2 x0 1 ((q16.2 x0 1) + 1)) (fun M19 => Option.bind (fX9_electedSet x0 M19) (fun q20 => Option.bind (fX9_has q20.1 x1 q20.2) (fun q21 => Option.bind ((if q21.1 = 0 then some (x3) else some (x4)) : Option (Int)) (fun t23 => if -2147483648 ≤ ((q21.2 x0 1) - 1) ∧ ((q21.2 x0 1) - 1) ≤ 2147483647 then nm (wr q21.2 x0 1 ((q21.2 x0 1) - 1)) (fun M26 => if -2147483648 ≤ (x4 + 1) ∧ (x4 + 1) ≤ 2147483647 then fX9_needs_l55 x0 x1 x2 n t23 (x4 + 1) M26 else none) else none)))) else none else some (.inl ((-5), q16.2)))) else none) else none else none else some (.inl (x3, M))))
def fX9_needs (x0 : Nat) (x1 : Int) (x2 : Int) (M : Mem) : Option (Int × Mem) := Option.bind (fX9_isOne x0 x1 M) (fun q1 => (if q1.1 = 0 then some ((-1), q1.2) else Option.bind (fX9_in x2 1 10000 q1.2) (fun q3 => (if q3.1 = 0 then some ((-2), q3.2) else if 0 ≤ x1 ∧ x1 < 8 then (if (q3.2 (x0 + 3) (Int.toNat x1)) = 0 then if -2147483648 ≤ (x1 + 1) ∧ (x1 + 1) ≤ 2147483647 then if 0 ≤ (q3.2 x0 1) ∧ (q3.2 x0 1) < 25 then nm (wr q3.2 (x0 + 5) (Int.toNat (q3.2 x0 1)) (x1 + 1)) (fun M9 => lr (fX9_needs_l55 x0 x1 x2 1000 (-5) 0 M9) (fun r => r) (fun _ => none)) else none else none else some ((-5), q3.2)) else none))))
def fX9_see (x0 : Nat) (x1 : Int) (x2 : Int) (M : Mem) : Option (Int × Mem) := (if x1 = (-1) then nm (wr M x0 9 0) (fun M12 => some (0, M12)) else Option.bind (fX9_isOne x0 x1 M) (fun q2 => (if q2.1 = 0 then some ((-1), q2.2) else (if (q2.2 x0 9) = 5 then some ((-4), q2.2) else if 0 ≤ (q2.2 x0 9) ∧ (q2.2 x0 9) < 5 then nm (wr q2.2 (x0 + 12) (Int.toNat (q2.2 x0 9)) x1) (fun M6 => if 0 ≤ (M6 x0 9) ∧ (M6 x0 9) < 5 then if x2 = 0 ∨ x2 = 1 then nm (wr M6 (x0 + 15) (Int.toNat (M6 x0 9)) x2) (fun M9 => if -2147483648 ≤ ((M9 x0 9) + 1) ∧ ((M9 x0 9) + 1) ≤ 2147483647 then nm (wr M9 x0 9 ((M9 x0 9) + 1)) (fun M11 => some ((M11 x0 9), M11)) else none) else none else none) else none))))
def fX9_isAsSeen_l7 (x0 : Nat) (x1 : Int) : Nat → Int → Mem → Option ((Int × Mem) ⊕ (Int × Mem))
  | 0, _, _ => none
  | n + 1, x2, M => (if (M x0 9) ≤ x2 then some (.inl (1, M)) else if 0 ≤ x2 ∧ x2 < 5 then Option.bind (fX9_has x1 (M (x0 + 12) (Int.toNat x2)) M) (fun q5 => if 0 ≤ x2 ∧ x2 < 5 then (if q5.1 = (q5.2 (x0 + 15) (Int.toNat x2)) then if -2147483648 ≤ (x2 + 1) ∧ (x2 + 1) ≤ 2147483647 then fX9_isAsSeen_l7 x0 x1 n (x2 + 1) q5.2 else none else some (.inl (0, q5.2))) else none) else none)
def fX9_isAsSeen (x0 : Nat) (M : Mem) : Option (Int × Mem) := Option.bind (fX9_electedSet x0 M) (fun q1 => nm (q1.1) (fun v2 => lr (fX9_isAsSeen_l7 x0 v2 1000 0 q1.2) (fun r => r) (fun _ => none)))
def fX9_fits_l27 (x0 : Nat) (x1 : Int) (x2 : Int) : Nat → Int → Int → Int → Mem → Option (Int × Int × Int × Mem)
  | 0, _, _, _, _ => none
  | n + 1, x3, x4, x5, M => (if x5 < 1 then some (x3, x4, x5, M) else nm (wr M x0 6 x5) (fun M5 => Option.bind (fX9_isAsSeen x0 M5) (fun q6 => Option.bind ((if q6.1 = 0 then some (x3, x4) else if -2147483648 ≤ (x3 + 1) ∧ (x3 + 1) ≤ 2147483647 then some ((x3 + 1), x5) else none) : Option (Int × Int)) (fun t9 => if -2147483648 ≤ (x5 + (-1)) ∧ (x5 + (-1)) ≤ 2147483647 then fX9_fits_l27 x0 x1 x2 n t9.1 t9.2 (x5 + (-1)) q6.2 else none))))
def fX9_fits (x0 : Nat) (x1 : Int) (M : Mem) : Option (Int × Mem) := Option.bind (fX9_in x1 0 1 M) (fun q1 => (if q1.1 = 0 then some ((-1), q1.2) else nm ((q1.2 x0 6)) (fun v3 => Option.bind (fX9_fits_l27 x0 x1 v3 1000 0 (-5) 7 q1.2) (fun z13 => nm (wr z13.2.2.2 x0 6 v3) (fun M14 => Option.bind ((if x1 = 0 then some (z13.1) else some (z13.2.1)) : Option (Int)) (fun t16 => some (t16, M14)))))))
def fX9_event (x0 : Nat) (x1 : Int) (x2 : Int) (M : Mem) : Option (Int × Mem) := (if x1 = (-1) then nm (wr M x0 10 0) (fun M41 => some (0, M41)) else Option.bind (fX9_in x1 0 3 M) (fun q2 => (if q2.1 = 0 then some ((-1), q2.2) else (if x1 = 2 then (if x1 = 2 then Option.bind (fX9_in x2 1 7 q2.2) (fun q13 => (if q13.1 = 0 then some ((-2), q13.2) else (if (q13.2 x0 10) = 8 then some ((-4), q13.2) else if 0 ≤ (q13.2 x0 10) ∧ (q13.2 x0 10) < 8 then nm (wr q13.2 (x0 + 13) (Int.toNat (q13.2 x0 10)) x1) (fun M17 => if 0 ≤ (M17 x0 10) ∧ (M17 x0 10) < 8 then nm (wr M17 (x0 + 14) (Int.toNat (M17 x0 10)) x2) (fun M19 => if -2147483648 ≤ ((M19 x0 10) + 1) ∧ ((M19 x0 10) + 1) ≤ 2147483647 then nm (wr M19 x0 10 ((M19 x0 10) + 1)) (fun M21 => some ((M21 x0 10), M21)) else none) else none) else none))) else (if (q2.2 x0 10) = 8 then some ((-4), q2.2) else if 0 ≤ (q2.2 x0 10) ∧ (q2.2 x0 10) < 8 then nm (wr q2.2 (x0 + 13) (Int.toNat (q2.2 x0 10)) x1) (fun M8 => if 0 ≤ (M8 x0 10) ∧ (M8 x0 10) < 8 then nm (wr M8 (x0 + 14) (Int.toNat (M8 x0 10)) x2) (fun M10 => if -2147483648 ≤ ((M10 x0 10) + 1) ∧ ((M10 x0 10) + 1) ≤ 2147483647 then nm (wr M10 x0 10 ((M10 x0 10) + 1)) (fun M12 => some ((M12 x0 10), M12)) else none) else none) else none)) else Option.bind (fX9_isOne x0 x2 q2.2) (fun q22 => (if q22.1 = 0 then some ((-1), q22.2) else (if x1 = 2 then Option.bind (fX9_in x2 1 7 q22.2) (fun q32 => (if q32.1 = 0 then some ((-2), q32.2) else (if (q32.2 x0 10) = 8 then some ((-4), q32.2) else if 0 ≤ (q32.2 x0 10) ∧ (q32.2 x0 10) < 8 then nm (wr q32.2 (x0 + 13) (Int.toNat (q32.2 x0 10)) x1) (fun M36 => if 0 ≤ (M36 x0 10) ∧ (M36 x0 10) < 8 then nm (wr M36 (x0 + 14) (Int.toNat (M36 x0 10)) x2) (fun M38 => if -2147483648 ≤ ((M38 x0 10) + 1) ∧ ((M38 x0 10) + 1) ≤ 2147483647 then nm (wr M38 x0 10 ((M38 x0 10) + 1)) (fun M40 => some ((M40 x0 10), M40)) else none) else none) else none))) else (if (q22.2 x0 10) = 8 then some ((-4), q22.2) else if 0 ≤ (q22.2 x0 10) ∧ (q22.2 x0 10) < 8 then nm (wr q22.2 (x0 + 13) (Int.toNat (q22.2 x0 10)) x1) (fun M27 => if 0 ≤ (M27 x0 10) ∧ (M27 x0 10) < 8 then nm (wr M27 (x0 + 14) (Int.toNat (M27 x0 10)) x2) (fun M29 => if -2147483648 ≤ ((M29 x0 10) + 1) ∧ ((M29 x0 10) + 1) ≤ 2147483647 then nm (wr M29 x0 10 ((M29 x0 10) + 1)) (fun M31 => some ((M31 x0 10), M31)) else none) else none) else none))))))))
def fX9_happens_l32 (x0 : Nat) (x1 : Int) (x2 : Int) : Nat → Int → Mem → Option (Int × Mem)
  | 0, _, _ => none
  | n + 1, x3, M => (if x1 = 3 then (if (M x0 1) ≤ x3 then some (x3, M) else if 0 ≤ x3 ∧ x3 < 25 then Option.bind (fX9_left x0 (M (x0 + 5) (Int.toNat x3)) M) (fun q24 => nm (q24.1) (fun v25 => Option.bind ((if v25 ≤ 0 then some (q24.2) else Option.bind (fX9_digitAt v25 0 q24.2) (fun q34 => if -2147483648 ≤ (x2 + 1) ∧ (x2 + 1) ≤ 2147483647 then (if q34.1 = (x2 + 1) then if 0 ≤ x3 ∧ x3 < 25 then nm (wr q34.2 (x0 + 6) (Int.toNat x3) 0) (fun M38 => some (M38)) else none else some (q34.2)) else none)) : Option (Mem)) (fun t32 => if -2147483648 ≤ (x3 + 1) ∧ (x3 + 1) ≤ 2147483647 then fX9_happens_l32 x0 x1 x2 n (x3 + 1) t32 else none))) else none) else some (x3, M))
def fX9_happens (x0 : Nat) (x1 : Int) (x2 : Int) (M : Mem) : Option (Int × Mem) := Option.bind ((if 2 ≤ x1 then some (M) else Option.bind ((if x1 = 0 then some (1) else some (0)) : Option (Int)) (fun t11 => if 0 ≤ x2 ∧ x2 < 8 then if t11 = 0 ∨ t11 = 1 then nm (wr M (x0 + 3) (Int.toNat x2) t11) (fun M15 => some (M15)) else none else none)) : Option (Mem)) (fun t8 => Option.bind ((if x1 = 2 then nm (wr t8 x0 6 x2) (fun M20 => some (M20)) else some (t8)) : Option (Mem)) (fun t18 => Option.bind (fX9_happens_l32 x0 x1 x2 1000 0 t18) (fun z40 => some (0, z40.2))))
def fX9_after_l37 (x0 : Nat) (x1 : Int) : Nat → Int → Mem → Option (Int × Mem)
  | 0, _, _ => none
  | n + 1, x2, M => (if (M x0 10) ≤ x2 then some (x2, M) else if 0 ≤ x2 ∧ x2 < 8 then if 0 ≤ x2 ∧ x2 < 8 then Option.bind (fX9_happens x0 (M (x0 + 13) (Int.toNat x2)) (M (x0 + 14) (Int.toNat x2)) M) (fun q9 => if -2147483648 ≤ (x2 + 1) ∧ (x2 + 1) ≤ 2147483647 then fX9_after_l37 x0 x1 n (x2 + 1) q9.2 else none) else none else none)
def fX9_after (x0 : Nat) (M : Mem) : Option (Int × Mem) := nm ((M x0 6)) (fun v1 => if 0 ≤ (0 : Int) ∧ 0 ≤ (0 : Int) ∧ 0 ≤ (8 : Int) ∧ (0 : Int) + 8 ≤ 8 ∧ (0 : Int) + 8 ≤ 8 then nm (cpM M (x0 + 3) (Int.toNat 0) (x0 + 44) (Int.toNat 0) (Int.toNat 8)) (fun M3 => if 0 ≤ (0 : Int) ∧ 0 ≤ (0 : Int) ∧ 0 ≤ (25 : Int) ∧ (0 : Int) + 25 ≤ 25 ∧ (0 : Int) + 25 ≤ 25 then nm (cpM M3 (x0 + 6) (Int.toNat 0) (x0 + 45) (Int.toNat 0) (Int.toNat 25)) (fun M5 => Option.bind (fX9_after_l37 x0 v1 1000 0 M5) (fun z11 => Option.bind (fX9_electedSet x0 z11.2) (fun q12 => nm (q12.1) (fun v13 => nm (wr q12.2 x0 6 v1) (fun M14 => if 0 ≤ (0 : Int) ∧ 0 ≤ (0 : Int) ∧ 0 ≤ (8 : Int) ∧ (0 : Int) + 8 ≤ 8 ∧ (0 : Int) + 8 ≤ 8 then nm (cpM M14 (x0 + 44) (Int.toNat 0) (x0 + 3) (Int.toNat 0) (Int.toNat 8)) (fun M16 => if 0 ≤ (0 : Int) ∧ 0 ≤ (0 : Int) ∧ 0 ≤ (25 : Int) ∧ (0 : Int) + 25 ≤ 25 ∧ (0 : Int) + 25 ≤ 25 then nm (cpM M16 (x0 + 45) (Int.toNat 0) (x0 + 6) (Int.toNat 0) (Int.toNat 25)) (fun M18 => some (v13, M18)) else none) else none))))) else none) else none)
def fX9_feed (x0 : Nat) (x1 : Int) (M : Mem) : Option (Int × Mem) := Option.bind (fX9_in x1 0 127 M) (fun q1 => (if q1.1 = 0 then some ((-2), q1.2) else (if (q1.2 x0 46) = 100 then some ((-4), q1.2) else if 0 ≤ (q1.2 x0 46) ∧ (q1.2 x0 46) < 100 then nm (wr q1.2 (x0 + 46) (Int.toNat (q1.2 x0 46)) x1) (fun M5 => if -2147483648 ≤ ((M5 x0 46) + 1) ∧ ((M5 x0 46) + 1) ≤ 2147483647 then nm (wr M5 x0 46 ((M5 x0 46) + 1)) (fun M7 => some ((M7 x0 46), M7)) else none) else none)))
def fX9_signAt (x0 : Nat) (x1 : Int) (M : Mem) : Option (Int × Mem) := Option.bind ((if (M x0 46) ≤ x1 then some ((-1)) else if 0 ≤ x1 ∧ x1 < 100 then some ((M (x0 + 46) (Int.toNat x1))) else none) : Option (Int)) (fun t3 => some (t3, M))
def fX9_fails (x0 : Nat) (x1 : Int) (M : Mem) : Option (Int × Mem) := (if (M x0 48) < 0 then nm (wr M x0 48 (M x0 47)) (fun M2 => if x1 = 0 ∨ x1 = 1 then nm (wr M2 x0 51 x1) (fun M4 => some (0, M4)) else none) else some (0, M))
def fX9_numberRead_l4 (x0 : Nat) (x1 : Int) : Nat → Int → Int → Mem → Option (Int × Int × Mem)
  | 0, _, _, _ => none
  | n + 1, x2, x3, M => (if 0 ≤ (M x0 48) then some (x2, x3, M) else (if x1 ≤ x2 then some (x2, x3, M) else Option.bind (fX9_signAt x0 (M x0 47) M) (fun q3 => Option.bind (fX9_in q3.1 48 57 q3.2) (fun q4 => (if q4.1 = 0 then some (x2, x3, q4.2) else if -2147483648 ≤ (10 * x3) ∧ (10 * x3) ≤ 2147483647 then if 0 ≤ (q4.2 x0 47) ∧ (q4.2 x0 47) < 100 then if -2147483648 ≤ ((10 * x3) + (q4.2 (x0 + 46) (Int.toNat (q4.2 x0 47)))) ∧ ((10 * x3) + (q4.2 (x0 + 46) (Int.toNat (q4.2 x0 47)))) ≤ 2147483647 then if -2147483648 ≤ (((10 * x3) + (q4.2 (x0 + 46) (Int.toNat (q4.2 x0 47)))) - 48) ∧ (((10 * x3) + (q4.2 (x0 + 46) (Int.toNat (q4.2 x0 47)))) - 48) ≤ 2147483647 then nm ((((10 * x3) + (q4.2 (x0 + 46) (Int.toNat (q4.2 x0 47)))) - 48)) (fun v10 => if -2147483648 ≤ (x2 + 1) ∧ (x2 + 1) ≤ 2147483647 then if -2147483648 ≤ ((q4.2 x0 47) + 1) ∧ ((q4.2 x0 47) + 1) ≤ 2147483647 then nm (wr q4.2 x0 47 ((q4.2 x0 47) + 1)) (fun M13 => fX9_numberRead_l4 x0 x1 n (x2 + 1) v10 M13) else none else none) else none else none else none else none)))))
def fX9_numberRead (x0 : Nat) (x1 : Int) (M : Mem) : Option (Int × Mem) := Option.bind (fX9_numberRead_l4 x0 x1 1000 0 0 M) (fun z14 => Option.bind ((if z14.1 = 0 then Option.bind (fX9_fails x0 1 z14.2.2) (fun q19 => some (q19.2)) else some (z14.2.2)) : Option (Mem)) (fun t17 => some (z14.2.1, t17)))
def fX9_clauseRead (x0 : Nat) (M : Mem) : Option (Int × Mem) := nm (wr M x0 50 (M x0 47)) (fun M1 => Option.bind (fX9_signAt x0 (M1 x0 47) M1) (fun q2 => nm (q2.1) (fun v3 => (if v3 = 99 then if -2147483648 ≤ ((q2.2 x0 47) + 1) ∧ ((q2.2 x0 47) + 1) ≤ 2147483647 then nm (wr q2.2 x0 47 ((q2.2 x0 47) + 1)) (fun M6 => if 0 ≤ (M6 x0 49) ∧ (M6 x0 49) < 12 then nm (wr M6 (x0 + 53) (Int.toNat (M6 x0 49)) v3) (fun M8 => (if v3 = 98 then Option.bind (fX9_numberRead x0 8 M8) (fun q32 => if 0 ≤ (M8 x0 49) ∧ (M8 x0 49) < 12 then nm (wr q32.2 (x0 + 54) (Int.toNat (M8 x0 49)) q32.1) (fun M34 => Option.bind ((if 0 ≤ (M34 x0 48) then some (M34) else Option.bind (fX9_signAt x0 (M34 x0 47) M34) (fun q41 => (if q41.1 = 42 then some (q41.2) else Option.bind (fX9_fails x0 0 q41.2) (fun q43 => some (q43.2))))) : Option (Mem)) (fun t39 => (if (t39 x0 48) < 0 then if -2147483648 ≤ ((t39 x0 47) + 1) ∧ ((t39 x0 47) + 1) ≤ 2147483647 then nm (wr t39 x0 47 ((t39 x0 47) + 1)) (fun M46 => Option.bind (fX9_numberRead x0 7 M46) (fun q47 => if 0 ≤ (M46 x0 49) ∧ (M46 x0 49) < 12 then nm (wr q47.2 (x0 + 55) (Int.toNat (M46 x0 49)) q47.1) (fun M49 => Option.bind ((if 0 ≤ (M49 x0 48) then some (M49) else if -2147483648 ≤ ((M49 x0 49) + 1) ∧ ((M49 x0 49) + 1) ≤ 2147483647 then nm (wr M49 x0 49 ((M49 x0 49) + 1)) (fun M56 => some (M56)) else none) : Option (Mem)) (fun t53 => some (0, t53))) else none)) else none else some (0, t39)))) else none) else Option.bind ((if v3 = 99 then some (M8) else Option.bind ((if v3 = 108 then some (9) else some (1)) : Option (Int)) (fun t20 => Option.bind (fX9_numberRead x0 t20 M8) (fun q22 => if 0 ≤ (M8 x0 49) ∧ (M8 x0 49) < 12 then nm (wr q22.2 (x0 + 54) (Int.toNat (M8 x0 49)) q22.1) (fun M24 => some (M24)) else none))) : Option (Mem)) (fun t17 => Option.bind ((if 0 ≤ (t17 x0 48) then some (t17) else if -2147483648 ≤ ((t17 x0 49) + 1) ∧ ((t17 x0 49) + 1) ≤ 2147483647 then nm (wr t17 x0 49 ((t17 x0 49) + 1)) (fun M31 => some (M31)) else none) : Option (Mem)) (fun t28 => some (0, t28))))) else none) else none else (if v3 = 98 then if -2147483648 ≤ ((q2.2 x0 47) + 1) ∧ ((q2.2 x0 47) + 1) ≤ 2147483647 then nm (wr q2.2 x0 47 ((q2.2 x0 47) + 1)) (fun M59 => if 0 ≤ (M59 x0 49) ∧ (M59 x0 49) < 12 then nm (wr M59 (x0 + 53) (Int.toNat (M59 x0 49)) v3) (fun M61 => (if v3 = 98 then Option.bind (fX9_numberRead x0 8 M61) (fun q85 => if 0 ≤ (M61 x0 49) ∧ (M61 x0 49) < 12 then nm (wr q85.2 (x0 + 54) (Int.toNat (M61 x0 49)) q85.1) (fun M87 => Option.bind ((if 0 ≤ (M87 x0 48) then some (M87) else Option.bind (fX9_signAt x0 (M87 x0 47) M87) (fun q94 => (if q94.1 = 42 then some (q94.2) else Option.bind (fX9_fails x0 0 q94.2) (fun q96 => some (q96.2))))) : Option (Mem)) (fun t92 => (if (t92 x0 48) < 0 then if -2147483648 ≤ ((t92 x0 47) + 1) ∧ ((t92 x0 47) + 1) ≤ 2147483647 then nm (wr t92 x0 47 ((t92 x0 47) + 1)) (fun M99 => Option.bind (fX9_numberRead x0 7 M99) (fun q100 => if 0 ≤ (M99 x0 49) ∧ (M99 x0 49) < 12 then nm (wr q100.2 (x0 + 55) (Int.toNat (M99 x0 49)) q100.1) (fun M102 => Option.bind ((if 0 ≤ (M102 x0 48) then some (M102) else if -2147483648 ≤ ((M102 x0 49) + 1) ∧ ((M102 x0 49) + 1) ≤ 2147483647 then nm (wr M102 x0 49 ((M102 x0 49) + 1)) (fun M109 => some (M109)) else none) : Option (Mem)) (fun t106 => some (0, t106))) else none)) else none else some (0, t92)))) else none) else Option.bind ((if v3 = 99 then some (M61) else Option.bind ((if v3 = 108 then some (9) else some (1)) : Option (Int)) (fun t73 => Option.bind (fX9_numberRead x0 t73 M61) (fun q75 => if 0 ≤ (M61 x0 49) ∧ (M61 x0 49) < 12 then nm (wr q75.2 (x0 + 54) (Int.toNat (M61 x0 49)) q75.1) (fun M77 => some (M77)) else none))) : Option (Mem)) (fun t70 => Option.bind ((if 0 ≤ (t70 x0 48) then some (t70) else if -2147483648 ≤ ((t70 x0 49) + 1) ∧ ((t70 x0 49) + 1) ≤ 2147483647 then nm (wr t70 x0 49 ((t70 x0 49) + 1)) (fun M84 => some (M84)) else none) : Option (Mem)) (fun t81 => some (0, t81))))) else none) else none else (if v3 = 115 then if -2147483648 ≤ ((q2.2 x0 47) + 1) ∧ ((q2.2 x0 47) + 1) ≤ 2147483647 then nm (wr q2.2 x0 47 ((q2.2 x0 47) + 1)) (fun M112 => if 0 ≤ (M112 x0 49) ∧ (M112 x0 49) < 12 then nm (wr M112 (x0 + 53) (Int.toNat (M112 x0 49)) v3) (fun M114 => (if v3 = 98 then Option.bind (fX9_numberRead x0 8 M114) (fun q138 => if 0 ≤ (M114 x0 49) ∧ (M114 x0 49) < 12 then nm (wr q138.2 (x0 + 54) (Int.toNat (M114 x0 49)) q138.1) (fun M140 => Option.bind ((if 0 ≤ (M140 x0 48) then some (M140) else Option.bind (fX9_signAt x0 (M140 x0 47) M140) (fun q147 => (if q147.1 = 42 then some (q147.2) else Option.bind (fX9_fails x0 0 q147.2) (fun q149 => some (q149.2))))) : Option (Mem)) (fun t145 => (if (t145 x0 48) < 0 then if -2147483648 ≤ ((t145 x0 47) + 1) ∧ ((t145 x0 47) + 1) ≤ 2147483647 then nm (wr t145 x0 47 ((t145 x0 47) + 1)) (fun M152 => Option.bind (fX9_numberRead x0 7 M152) (fun q153 => if 0 ≤ (M152 x0 49) ∧ (M152 x0 49) < 12 then nm (wr q153.2 (x0 + 55) (Int.toNat (M152 x0 49)) q153.1) (fun M155 => Option.bind ((if 0 ≤ (M155 x0 48) then some (M155) else if -2147483648 ≤ ((M155 x0 49) + 1) ∧ ((M155 x0 49) + 1) ≤ 2147483647 then nm (wr M155 x0 49 ((M155 x0 49) + 1)) (fun M162 => some (M162)) else none) : Option (Mem)) (fun t159 => some (0, t159))) else none)) else none else some (0, t145)))) else none) else Option.bind ((if v3 = 99 then some (M114) else Option.bind ((if v3 = 108 then some (9) else some (1)) : Option (Int)) (fun t126 => Option.bind (fX9_numberRead x0 t126 M114) (fun q128 => if 0 ≤ (M114 x0 49) ∧ (M114 x0 49) < 12 then nm (wr q128.2 (x0 + 54) (Int.toNat (M114 x0 49)) q128.1) (fun M130 => some (M130)) else none))) : Option (Mem)) (fun t123 => Option.bind ((if 0 ≤ (t123 x0 48) then some (t123) else if -2147483648 ≤ ((t123 x0 49) + 1) ∧ ((t123 x0 49) + 1) ≤ 2147483647 then nm (wr t123 x0 49 ((t123 x0 49) + 1)) (fun M137 => some (M137)) else none) : Option (Mem)) (fun t134 => some (0, t134))))) else none) else none else (if v3 = 108 then if -2147483648 ≤ ((q2.2 x0 47) + 1) ∧ ((q2.2 x0 47) + 1) ≤ 2147483647 then nm (wr q2.2 x0 47 ((q2.2 x0 47) + 1)) (fun M165 => if 0 ≤ (M165 x0 49) ∧ (M165 x0 49) < 12 then nm (wr M165 (x0 + 53) (Int.toNat (M165 x0 49)) v3) (fun M167 => (if v3 = 98 then Option.bind (fX9_numberRead x0 8 M167) (fun q191 => if 0 ≤ (M167 x0 49) ∧ (M167 x0 49) < 12 then nm (wr q191.2 (x0 + 54) (Int.toNat (M167 x0 49)) q191.1) (fun M193 => Option.bind ((if 0 ≤ (M193 x0 48) then some (M193) else Option.bind (fX9_signAt x0 (M193 x0 47) M193) (fun q200 => (if q200.1 = 42 then some (q200.2) else Option.bind (fX9_fails x0 0 q200.2) (fun q202 => some (q202.2))))) : Option (Mem)) (fun t198 => (if (t198 x0 48) < 0 then if -2147483648 ≤ ((t198 x0 47) + 1) ∧ ((t198 x0 47) + 1) ≤ 2147483647 then nm (wr t198 x0 47 ((t198 x0 47) + 1)) (fun M205 => Option.bind (fX9_numberRead x0 7 M205) (fun q206 => if 0 ≤ (M205 x0 49) ∧ (M205 x0 49) < 12 then nm (wr q206.2 (x0 + 55) (Int.toNat (M205 x0 49)) q206.1) (fun M208 => Option.bind ((if 0 ≤ (M208 x0 48) then some (M208) else if -2147483648 ≤ ((M208 x0 49) + 1) ∧ ((M208 x0 49) + 1) ≤ 2147483647 then nm (wr M208 x0 49 ((M208 x0 49) + 1)) (fun M215 => some (M215)) else none) : Option (Mem)) (fun t212 => some (0, t212))) else none)) else none else some (0, t198)))) else none) else Option.bind ((if v3 = 99 then some (M167) else Option.bind ((if v3 = 108 then some (9) else some (1)) : Option (Int)) (fun t179 => Option.bind (fX9_numberRead x0 t179 M167) (fun q181 => if 0 ≤ (M167 x0 49) ∧ (M167 x0 49) < 12 then nm (wr q181.2 (x0 + 54) (Int.toNat (M167 x0 49)) q181.1) (fun M183 => some (M183)) else none))) : Option (Mem)) (fun t176 => Option.bind ((if 0 ≤ (t176 x0 48) then some (t176) else if -2147483648 ≤ ((t176 x0 49) + 1) ∧ ((t176 x0 49) + 1) ≤ 2147483647 then nm (wr t176 x0 49 ((t176 x0 49) + 1)) (fun M190 => some (M190)) else none) : Option (Mem)) (fun t187 => some (0, t187))))) else none) else none else (if v3 = 103 then if -2147483648 ≤ ((q2.2 x0 47) + 1) ∧ ((q2.2 x0 47) + 1) ≤ 2147483647 then nm (wr q2.2 x0 47 ((q2.2 x0 47) + 1)) (fun M218 => if 0 ≤ (M218 x0 49) ∧ (M218 x0 49) < 12 then nm (wr M218 (x0 + 53) (Int.toNat (M218 x0 49)) v3) (fun M220 => (if v3 = 98 then Option.bind (fX9_numberRead x0 8 M220) (fun q244 => if 0 ≤ (M220 x0 49) ∧ (M220 x0 49) < 12 then nm (wr q244.2 (x0 + 54) (Int.toNat (M220 x0 49)) q244.1) (fun M246 => Option.bind ((if 0 ≤ (M246 x0 48) then some (M246) else Option.bind (fX9_signAt x0 (M246 x0 47) M246) (fun q253 => (if q253.1 = 42 then some (q253.2) else Option.bind (fX9_fails x0 0 q253.2) (fun q255 => some (q255.2))))) : Option (Mem)) (fun t251 => (if (t251 x0 48) < 0 then if -2147483648 ≤ ((t251 x0 47) + 1) ∧ ((t251 x0 47) + 1) ≤ 2147483647 then nm (wr t251 x0 47 ((t251 x0 47) + 1)) (fun M258 => Option.bind (fX9_numberRead x0 7 M258) (fun q259 => if 0 ≤ (M258 x0 49) ∧ (M258 x0 49) < 12 then nm (wr q259.2 (x0 + 55) (Int.toNat (M258 x0 49)) q259.1) (fun M261 => Option.bind ((if 0 ≤ (M261 x0 48) then some (M261) else if -2147483648 ≤ ((M261 x0 49) + 1) ∧ ((M261 x0 49) + 1) ≤ 2147483647 then nm (wr M261 x0 49 ((M261 x0 49) + 1)) (fun M268 => some (M268)) else none) : Option (Mem)) (fun t265 => some (0, t265))) else none)) else none else some (0, t251)))) else none) else Option.bind ((if v3 = 99 then some (M220) else Option.bind ((if v3 = 108 then some (9) else some (1)) : Option (Int)) (fun t232 => Option.bind (fX9_numberRead x0 t232 M220) (fun q234 => if 0 ≤ (M220 x0 49) ∧ (M220 x0 49) < 12 then nm (wr q234.2 (x0 + 54) (Int.toNat (M220 x0 49)) q234.1) (fun M236 => some (M236)) else none))) : Option (Mem)) (fun t229 => Option.bind ((if 0 ≤ (t229 x0 48) then some (t229) else if -2147483648 ≤ ((t229 x0 49) + 1) ∧ ((t229 x0 49) + 1) ≤ 2147483647 then nm (wr t229 x0 49 ((t229 x0 49) + 1)) (fun M243 => some (M243)) else none) : Option (Mem)) (fun t240 => some (0, t240))))) else none) else none else Option.bind (fX9_fails x0 0 q2.2) (fun q269 => some (0, q269.2))))))))))
def fX9_done (x0 : Nat) (x1 : Int) (M : Mem) : Option (Int × Mem) := if 0 ≤ x1 ∧ x1 < 12 then (if (M (x0 + 53) (Int.toNat x1)) = 98 then if 0 ≤ x1 ∧ x1 < 12 then if 0 ≤ x1 ∧ x1 < 12 then Option.bind (fX9_ballot x0 (M (x0 + 54) (Int.toNat x1)) (M (x0 + 55) (Int.toNat x1)) M) (fun q5 => some (q5.1, q5.2)) else none else none else if (M (x0 + 53) (Int.toNat x1)) = 99 then Option.bind (fX9_candidate x0 M) (fun q7 => some (q7.1, q7.2)) else if (M (x0 + 53) (Int.toNat x1)) = 108 then if 0 ≤ x1 ∧ x1 < 12 then Option.bind (fX9_set x0 1 (M (x0 + 54) (Int.toNat x1)) M) (fun q10 => some (q10.1, q10.2)) else none else if (M (x0 + 53) (Int.toNat x1)) = 115 then if 0 ≤ x1 ∧ x1 < 12 then Option.bind (fX9_set x0 0 (M (x0 + 54) (Int.toNat x1)) M) (fun q13 => some (q13.1, q13.2)) else none else if 0 ≤ x1 ∧ x1 < 12 then Option.bind (fX9_gone x0 (M (x0 + 54) (Int.toNat x1)) 1 M) (fun q15 => some (q15.1, q15.2)) else none) else none
def fX9_faulty (x0 : Nat) (M : Mem) : Option (Int × Mem) := Option.bind ((if (M x0 50) = (-1) then some (1) else some (2)) : Option (Int)) (fun t2 => if -2147483648 ≤ (t2 + 1) ∧ (t2 + 1) ≤ 2147483647 then nm (wr M x0 15 (t2 + 1)) (fun M5 => nm (wr M5 (x0 + 17) (Int.toNat 0) 1) (fun M6 => nm (wr M6 (x0 + 18) (Int.toNat 0) (M6 x0 49)) (fun M7 => nm (wr M7 (x0 + 17) (Int.toNat 1) 2) (fun M8 => nm (wr M8 (x0 + 18) (Int.toNat 1) (M8 x0 50)) (fun M9 => Option.bind ((if (M9 x0 51) = 0 then some (4) else some (3)) : Option (Int)) (fun t11 => if 0 ≤ t2 ∧ t2 < 3 then nm (wr M9 (x0 + 17) (Int.toNat t2) t11) (fun M14 => Option.bind ((if (M14 x0 51) = 0 then Option.bind (fX9_signAt x0 (M14 x0 48) M14) (fun q19 => some (q19.1, q19.2)) else some ((M14 x0 48), M14)) : Option (Int × Mem)) (fun t17 => if 0 ≤ t2 ∧ t2 < 3 then nm (wr t17.2 (x0 + 18) (Int.toNat t2) t17.1) (fun M21 => if -2147483648 ≤ ((-10) - (M21 x0 48)) ∧ ((-10) - (M21 x0 48)) ≤ 2147483647 then some (((-10) - (M21 x0 48)), M21) else none) else none)) else none)))))) else none)
def fX9_read_l19 (x0 : Nat) : Nat → Mem → Option (Mem)
  | 0, _ => none
  | n + 1, M => (if 0 ≤ (M x0 48) then some M else (if (M x0 46) ≤ (M x0 47) then some M else if 0 ≤ (M x0 47) ∧ (M x0 47) < 100 then (if (M (x0 + 46) (Int.toNat (M x0 47))) = 59 then (if (M x0 49) = 12 then nm (wr M x0 50 (-1)) (fun M15 => Option.bind (fX9_fails x0 0 M15) (fun q16 => fX9_read_l19 x0 n  q16.2)) else if -2147483648 ≤ ((M x0 47) + 1) ∧ ((M x0 47) + 1) ≤ 2147483647 then nm (wr M x0 47 ((M x0 47) + 1)) (fun M13 => Option.bind (fX9_clauseRead x0 M13) (fun q14 => fX9_read_l19 x0 n  q14.2)) else none) else nm (wr M x0 50 (-1)) (fun M9 => Option.bind (fX9_fails x0 0 M9) (fun q10 => fX9_read_l19 x0 n  q10.2))) else none))
def fX9_read_l121 (x0 : Nat) : Nat → Int → Int → Mem → Option (Int × Int × Mem)
  | 0, _, _, _ => none
  | n + 1, x2, x3, M => (if (M x0 49) ≤ x3 then some (x2, x3, M) else Option.bind (fX9_done x0 x3 M) (fun q27 => Option.bind ((if q27.1 < 0 then some (x2) else if -2147483648 ≤ (x2 + 1) ∧ (x2 + 1) ≤ 2147483647 then some ((x2 + 1)) else none) : Option (Int)) (fun t30 => if -2147483648 ≤ (x3 + 1) ∧ (x3 + 1) ≤ 2147483647 then fX9_read_l121 x0 n t30 (x3 + 1) q27.2 else none)))
def fX9_read (x0 : Nat) (M : Mem) : Option (Int × Mem) := nm (wr M x0 47 0) (fun M1 => nm (wr M1 x0 48 (-1)) (fun M2 => nm (wr M2 x0 49 0) (fun M3 => Option.bind (fX9_clauseRead x0 M3) (fun q4 => Option.bind (fX9_read_l19 x0 1000  q4.2) (fun z17 => Option.bind ((if 0 ≤ (z17 x0 48) then Option.bind (fX9_faulty x0 z17) (fun q22 => some (q22.1, q22.2)) else some (0, z17)) : Option (Int × Mem)) (fun t20 => nm (t20.1) (fun v23 => nm (wr t20.2 x0 46 0) (fun M24 => (if v23 = 0 then Option.bind (fX9_read_l121 x0 1000 0 0 M24) (fun z34 => some (z34.1, z34.2.2)) else some (v23, M24))))))))))
def fX9_cause (x0 : Nat) (x1 : Int) (x2 : Int) (M : Mem) : Option (Int × Mem) := (if x1 < 0 then some ((-1), M) else Option.bind (fX9_in x2 0 1 M) (fun q2 => (if q2.1 = 0 then some ((-1), q2.2) else (if x1 < (q2.2 x0 15) then Option.bind ((if x2 = 0 then if 0 ≤ x1 ∧ x1 < 3 then some ((q2.2 (x0 + 17) (Int.toNat x1))) else none else if 0 ≤ x1 ∧ x1 < 3 then some ((q2.2 (x0 + 18) (Int.toNat x1))) else none) : Option (Int)) (fun t8 => some (t8, q2.2)) else some ((-5), q2.2)))))
def fX9_isTape (x0 : Int) (M : Mem) : Option (Int × Mem) := Option.bind (fX9_in x0 0 5 M) (fun q1 => if q1.1 = 0 ∨ q1.1 = 1 then some (q1.1, q1.2) else none)
def fX9_judge_l58 (x0 : Nat) (x1 : Int) (x2 : Int) (x3 : Int) : Nat → Int → Mem → Option ((Int × Mem) ⊕ (Int × Mem))
  | 0, _, _ => none
  | n + 1, x4, M => (if (M x0 0) ≤ x4 then some (.inl ((-5), M)) else if 0 ≤ x2 ∧ x2 < 6 then if -2147483648 ≤ ((M (x0 + 67) (Int.toNat x2)) - x4) ∧ ((M (x0 + 67) (Int.toNat x2)) - x4) ≤ 2147483647 then (if x3 < ((M (x0 + 67) (Int.toNat x2)) - x4) then if 0 ≤ x2 ∧ x2 < 6 then if -2147483648 ≤ (x3 + x4) ∧ (x3 + x4) ≤ 2147483647 then if 0 ≤ (x3 + x4) ∧ (x3 + x4) < 60 then if -2147483648 ≤ (8 * x1) ∧ (8 * x1) ≤ 2147483647 then if -2147483648 ≤ ((8 * x1) + x4) ∧ ((8 * x1) + x4) ≤ 2147483647 then if 0 ≤ ((8 * x1) + x4) ∧ ((8 * x1) + x4) < 72 then (if (M ((x0 + 68) + 36 + 16 * Int.toNat x2) (Int.toNat (x3 + x4))) = (M (x0 + 34) (Int.toNat ((8 * x1) + x4))) then if -2147483648 ≤ (x4 + 1) ∧ (x4 + 1) ≤ 2147483647 then fX9_judge_l58 x0 x1 x2 x3 n (x4 + 1) M else none else some (.inl (x4, M))) else none else none else none else none else none else none else if -2147483648 ≤ (100 + x4) ∧ (100 + x4) ≤ 2147483647 then some (.inl ((100 + x4), M)) else none) else none else none)
def fX9_judge (x0 : Nat) (x1 : Int) (x2 : Int) (x3 : Int) (M : Mem) : Option (Int × Mem) := Option.bind (fX9_isStage x0 x1 M) (fun q1 => (if q1.1 = 0 then some ((-1), q1.2) else Option.bind (fX9_isTape x2 q1.2) (fun q3 => (if q3.1 = 0 then some ((-1), q3.2) else if 0 ≤ x2 ∧ x2 < 6 then (if (q3.2 (x0 + 66) (Int.toNat x2)) < 0 then if 0 ≤ x2 ∧ x2 < 6 then (if (q3.2 (x0 + 66) (Int.toNat x2)) < 0 then some (100, q3.2) else (if 0 ≤ x3 then lr (fX9_judge_l58 x0 x1 x2 x3 1000 0 q3.2) (fun r => r) (fun _ => none) else some (100, q3.2))) else none else if 0 ≤ x2 ∧ x2 < 6 then (if (q3.2 (x0 + 66) (Int.toNat x2)) = 3 then if 0 ≤ x2 ∧ x2 < 6 then (if (q3.2 (x0 + 66) (Int.toNat x2)) < 0 then some (100, q3.2) else (if 0 ≤ x3 then lr (fX9_judge_l58 x0 x1 x2 x3 1000 0 q3.2) (fun r => r) (fun _ => none) else some (100, q3.2))) else none else some ((-12), q3.2)) else none) else none))))
def fX9_image (x0 : Nat) (M : Mem) : Option (Int × Mem) := nm (wr M x0 55 1) (fun M1 => nm (wr M1 (x0 + 57) (Int.toNat 0) (M1 x0 0)) (fun M2 => nm (wr M2 (x0 + 57) (Int.toNat 1) (M2 x0 1)) (fun M3 => nm (wr M3 (x0 + 57) (Int.toNat 2) (M3 x0 6)) (fun M4 => nm (wr M4 (x0 + 57) (Int.toNat 3) (M4 x0 7)) (fun M5 => nm (wr M5 (x0 + 57) (Int.toNat 4) (M5 x0 8)) (fun M6 => nm (wr M6 (x0 + 57) (Int.toNat 5) (M6 x0 9)) (fun M7 => nm (wr M7 (x0 + 57) (Int.toNat 6) (M7 x0 10)) (fun M8 => if 0 ≤ (0 : Int) ∧ 0 ≤ (0 : Int) ∧ 0 ≤ (8 : Int) ∧ (0 : Int) + 8 ≤ 8 ∧ (0 : Int) + 8 ≤ 8 then nm (cpM M8 (x0 + 4) (Int.toNat 0) (x0 + 58) (Int.toNat 0) (Int.toNat 8)) (fun M10 => if 0 ≤ (0 : Int) ∧ 0 ≤ (0 : Int) ∧ 0 ≤ (24 : Int) ∧ (0 : Int) + 24 ≤ 25 ∧ (0 : Int) + 24 ≤ 25 then nm (cpM M10 (x0 + 5) (Int.toNat 0) (x0 + 59) (Int.toNat 0) (Int.toNat 24)) (fun M12 => if 0 ≤ (0 : Int) ∧ 0 ≤ (0 : Int) ∧ 0 ≤ (24 : Int) ∧ (0 : Int) + 24 ≤ 25 ∧ (0 : Int) + 24 ≤ 25 then nm (cpM M12 (x0 + 6) (Int.toNat 0) (x0 + 60) (Int.toNat 0) (Int.toNat 24)) (fun M14 => if 0 ≤ (0 : Int) ∧ 0 ≤ (0 : Int) ∧ 0 ≤ (5 : Int) ∧ (0 : Int) + 5 ≤ 5 ∧ (0 : Int) + 5 ≤ 5 then nm (cpM M14 (x0 + 12) (Int.toNat 0) (x0 + 61) (Int.toNat 0) (Int.toNat 5)) (fun M16 => if 0 ≤ (0 : Int) ∧ 0 ≤ (0 : Int) ∧ 0 ≤ (8 : Int) ∧ (0 : Int) + 8 ≤ 8 ∧ (0 : Int) + 8 ≤ 8 then nm (cpM M16 (x0 + 13) (Int.toNat 0) (x0 + 62) (Int.toNat 0) (Int.toNat 8)) (fun M18 => if 0 ≤ (0 : Int) ∧ 0 ≤ (0 : Int) ∧ 0 ≤ (8 : Int) ∧ (0 : Int) + 8 ≤ 8 ∧ (0 : Int) + 8 ≤ 8 then nm (cpM M18 (x0 + 14) (Int.toNat 0) (x0 + 63) (Int.toNat 0) (Int.toNat 8)) (fun M20 => if 0 ≤ (0 : Int) ∧ 0 ≤ (0 : Int) ∧ 0 ≤ (8 : Int) ∧ (0 : Int) + 8 ≤ 8 ∧ (0 : Int) + 8 ≤ 8 then nm (cpM M20 (x0 + 3) (Int.toNat 0) (x0 + 64) (Int.toNat 0) (Int.toNat 8)) (fun M22 => if 0 ≤ (0 : Int) ∧ 0 ≤ (0 : Int) ∧ 0 ≤ (5 : Int) ∧ (0 : Int) + 5 ≤ 5 ∧ (0 : Int) + 5 ≤ 5 then nm (cpM M22 (x0 + 15) (Int.toNat 0) (x0 + 65) (Int.toNat 0) (Int.toNat 5)) (fun M24 => some ((M24 x0 1), M24)) else none) else none) else none) else none) else none) else none) else none) else none))))))))
def fX9_undo (x0 : Nat) (M : Mem) : Option (Int × Mem) := (if (M x0 55) = 0 then some ((-3), M) else nm (wr M x0 0 (M (x0 + 57) (Int.toNat 0))) (fun M2 => nm (wr M2 x0 1 (M2 (x0 + 57) (Int.toNat 1))) (fun M3 => nm (wr M3 x0 6 (M3 (x0 + 57) (Int.toNat 2))) (fun M4 => nm (wr M4 x0 7 (M4 (x0 + 57) (Int.toNat 3))) (fun M5 => nm (wr M5 x0 8 (M5 (x0 + 57) (Int.toNat 4))) (fun M6 => nm (wr M6 x0 9 (M6 (x0 + 57) (Int.toNat 5))) (fun M7 => nm (wr M7 x0 10 (M7 (x0 + 57) (Int.toNat 6))) (fun M8 => if 0 ≤ (0 : Int) ∧ 0 ≤ (0 : Int) ∧ 0 ≤ (8 : Int) ∧ (0 : Int) + 8 ≤ 8 ∧ (0 : Int) + 8 ≤ 8 then nm (cpM M8 (x0 + 58) (Int.toNat 0) (x0 + 4) (Int.toNat 0) (Int.toNat 8)) (fun M10 => if 0 ≤ (0 : Int) ∧ 0 ≤ (0 : Int) ∧ 0 ≤ (24 : Int) ∧ (0 : Int) + 24 ≤ 25 ∧ (0 : Int) + 24 ≤ 25 then nm (cpM M10 (x0 + 59) (Int.toNat 0) (x0 + 5) (Int.toNat 0) (Int.toNat 24)) (fun M12 => if 0 ≤ (0 : Int) ∧ 0 ≤ (0 : Int) ∧ 0 ≤ (24 : Int) ∧ (0 : Int) + 24 ≤ 25 ∧ (0 : Int) + 24 ≤ 25 then nm (cpM M12 (x0 + 60) (Int.toNat 0) (x0 + 6) (Int.toNat 0) (Int.toNat 24)) (fun M14 => if 0 ≤ (0 : Int) ∧ 0 ≤ (0 : Int) ∧ 0 ≤ (5 : Int) ∧ (0 : Int) + 5 ≤ 5 ∧ (0 : Int) + 5 ≤ 5 then nm (cpM M14 (x0 + 61) (Int.toNat 0) (x0 + 12) (Int.toNat 0) (Int.toNat 5)) (fun M16 => if 0 ≤ (0 : Int) ∧ 0 ≤ (0 : Int) ∧ 0 ≤ (8 : Int) ∧ (0 : Int) + 8 ≤ 8 ∧ (0 : Int) + 8 ≤ 8 then nm (cpM M16 (x0 + 62) (Int.toNat 0) (x0 + 13) (Int.toNat 0) (Int.toNat 8)) (fun M18 => if 0 ≤ (0 : Int) ∧ 0 ≤ (0 : Int) ∧ 0 ≤ (8 : Int) ∧ (0 : Int) + 8 ≤ 8 ∧ (0 : Int) + 8 ≤ 8 then nm (cpM M18 (x0 + 63) (Int.toNat 0) (x0 + 14) (Int.toNat 0) (Int.toNat 8)) (fun M20 => if 0 ≤ (0 : Int) ∧ 0 ≤ (0 : Int) ∧ 0 ≤ (8 : Int) ∧ (0 : Int) + 8 ≤ 8 ∧ (0 : Int) + 8 ≤ 8 then nm (cpM M20 (x0 + 64) (Int.toNat 0) (x0 + 3) (Int.toNat 0) (Int.toNat 8)) (fun M22 => if 0 ≤ (0 : Int) ∧ 0 ≤ (0 : Int) ∧ 0 ≤ (5 : Int) ∧ (0 : Int) + 5 ≤ 5 ∧ (0 : Int) + 5 ≤ 5 then nm (cpM M22 (x0 + 65) (Int.toNat 0) (x0 + 15) (Int.toNat 0) (Int.toNat 5)) (fun M24 => some ((M24 x0 1), M24)) else none) else none) else none) else none) else none) else none) else none) else none))))))))
def fX9_count (x0 : Nat) (x1 : Int) (M : Mem) : Option (Int × Mem) := Option.bind ((if x1 = 0 then some ((M x0 9)) else (if x1 = 1 then some ((M x0 10)) else (if x1 = 2 then some ((M x0 46)) else some ((-2))))) : Option (Int)) (fun t4 => some (t4, M))
def fX9_tape_l72 (x0 : Nat) (x1 : Int) : Nat → Int → Mem → Option (Int × Mem)
  | 0, _, _ => none
  | n + 1, x4, M => (if 60 ≤ x4 then some (x4, M) else if 0 ≤ x1 ∧ x1 < 6 then if 0 ≤ x4 ∧ x4 < 60 then nm (wr M ((x0 + 68) + 36 + 16 * Int.toNat x1) (Int.toNat x4) 0) (fun M17 => if -2147483648 ≤ (x4 + 1) ∧ (x4 + 1) ≤ 2147483647 then fX9_tape_l72 x0 x1 n (x4 + 1) M17 else none) else none else none)
def fX9_tape (x0 : Nat) (x1 : Int) (x2 : Int) (x3 : Int) (M : Mem) : Option (Int × Mem) := Option.bind (fX9_isTape x1 M) (fun q1 => (if q1.1 = 0 then some ((-1), q1.2) else Option.bind (fX9_in x2 (-1) 4 q1.2) (fun q3 => (if q3.1 = 0 then some ((-2), q3.2) else (if x2 < 0 then (if x2 < 0 then if 0 ≤ x1 ∧ x1 < 6 then nm (wr q3.2 (x0 + 66) (Int.toNat x1) x2) (fun M8 => Option.bind ((if 0 ≤ x2 then some (x3) else some (0)) : Option (Int)) (fun t10 => if 0 ≤ x1 ∧ x1 < 6 then nm (wr M8 (x0 + 67) (Int.toNat x1) t10) (fun M13 => Option.bind (fX9_tape_l72 x0 x1 1000 0 M13) (fun z19 => some (1, z19.2))) else none)) else none else (if 0 ≤ x3 then if 0 ≤ x1 ∧ x1 < 6 then nm (wr q3.2 (x0 + 66) (Int.toNat x1) x2) (fun M22 => Option.bind ((if 0 ≤ x2 then some (x3) else some (0)) : Option (Int)) (fun t24 => if 0 ≤ x1 ∧ x1 < 6 then nm (wr M22 (x0 + 67) (Int.toNat x1) t24) (fun M27 => Option.bind (fX9_tape_l72 x0 x1 1000 0 M27) (fun z28 => some (1, z28.2))) else none)) else none else some ((-14), q3.2))) else (if x3 ≤ 60 then (if x2 < 0 then if 0 ≤ x1 ∧ x1 < 6 then nm (wr q3.2 (x0 + 66) (Int.toNat x1) x2) (fun M32 => Option.bind ((if 0 ≤ x2 then some (x3) else some (0)) : Option (Int)) (fun t34 => if 0 ≤ x1 ∧ x1 < 6 then nm (wr M32 (x0 + 67) (Int.toNat x1) t34) (fun M37 => Option.bind (fX9_tape_l72 x0 x1 1000 0 M37) (fun z38 => some (1, z38.2))) else none)) else none else (if 0 ≤ x3 then if 0 ≤ x1 ∧ x1 < 6 then nm (wr q3.2 (x0 + 66) (Int.toNat x1) x2) (fun M41 => Option.bind ((if 0 ≤ x2 then some (x3) else some (0)) : Option (Int)) (fun t43 => if 0 ≤ x1 ∧ x1 < 6 then nm (wr M41 (x0 + 67) (Int.toNat x1) t43) (fun M46 => Option.bind (fX9_tape_l72 x0 x1 1000 0 M46) (fun z47 => some (1, z47.2))) else none)) else none else some ((-14), q3.2))) else some ((-2), q3.2)))))))
def fX9_refusal (x0 : Nat) (x1 : Int) (x2 : Int) (M : Mem) : Option (Int × Mem) := Option.bind (fX9_isTape x1 M) (fun q1 => Option.bind ((if q1.1 = 0 then some ((-1), q1.2) else if 0 ≤ x1 ∧ x1 < 6 then (if 0 ≤ (q1.2 (x0 + 66) (Int.toNat x1)) then if 0 ≤ x1 ∧ x1 < 6 then if -2147483648 ≤ ((q1.2 (x0 + 67) (Int.toNat x1)) - 1) ∧ ((q1.2 (x0 + 67) (Int.toNat x1)) - 1) ≤ 2147483647 then Option.bind (fX9_in x2 0 ((q1.2 (x0 + 67) (Int.toNat x1)) - 1) q1.2) (fun q15 => (if q15.1 = 0 then some ((-13), q15.2) else some (0, q15.2))) else none else none else some ((-11), q1.2)) else none) : Option (Int × Mem)) (fun t9 => some (t9.1, t9.2)))
def fX9_item (x0 : Nat) (x1 : Int) (x2 : Int) (x3 : Int) (M : Mem) : Option (Int × Mem) := Option.bind (fX9_refusal x0 x1 x2 M) (fun q1 => nm (q1.1) (fun v2 => (if v2 = 0 then if 0 ≤ x1 ∧ x1 < 6 then nm ((q1.2 (x0 + 66) (Int.toNat x1))) (fun v5 => if 0 ≤ x1 ∧ x1 < 6 then Option.bind ((if v5 = 0 then some ((w8 (w32 x3))) else (if v5 = 1 then some ((w16 (w32 x3))) else (if v5 = 2 then some ((w32 x3)) else (if v5 = 3 then some (x3) else (if x3 = 0 then some (0) else some (1)))))) : Option (Int)) (fun t12 => if 0 ≤ x2 ∧ x2 < 60 then nm (wr q1.2 ((x0 + 68) + 36 + 16 * Int.toNat x1) (Int.toNat x2) t12) (fun M19 => some (1, M19)) else none) else none) else none else some (v2, q1.2))))
def fX9_peek (x0 : Nat) (x1 : Int) (x2 : Int) (M : Mem) : Option (Int × Mem) := Option.bind (fX9_refusal x0 x1 x2 M) (fun q1 => Option.bind ((if q1.1 = 0 then if 0 ≤ x1 ∧ x1 < 6 then if 0 ≤ x2 ∧ x2 < 60 then some ((q1.2 ((x0 + 68) + 36 + 16 * Int.toNat x1) (Int.toNat x2))) else none else none else some ((-9223372036854775808))) : Option (Int)) (fun t5 => some (t5, q1.2)))
def fX9_shift (x0 : Nat) (x1 : Int) (x2 : Int) (x3 : Int) (x4 : Int) (x5 : Int) (M : Mem) : Option (Int × Mem) := Option.bind (fX9_isTape x1 M) (fun q1 => (if q1.1 = 0 then some ((-1), q1.2) else Option.bind (fX9_isTape x3 q1.2) (fun q3 => (if q3.1 = 0 then some ((-1), q3.2) else if 0 ≤ x1 ∧ x1 < 6 then (if (q3.2 (x0 + 66) (Int.toNat x1)) < 0 then some ((-11), q3.2) else if 0 ≤ x3 ∧ x3 < 6 then (if 0 ≤ (q3.2 (x0 + 66) (Int.toNat x3)) then if 0 ≤ x1 ∧ x1 < 6 then if 0 ≤ x3 ∧ x3 < 6 then (if (q3.2 (x0 + 66) (Int.toNat x1)) = (q3.2 (x0 + 66) (Int.toNat x3)) then (if x5 < 0 then some ((-13), q3.2) else (if x2 < 0 then some ((-13), q3.2) else (if x4 < 0 then some ((-13), q3.2) else if 0 ≤ x1 ∧ x1 < 6 then if -2147483648 ≤ ((q3.2 (x0 + 67) (Int.toNat x1)) - x5) ∧ ((q3.2 (x0 + 67) (Int.toNat x1)) - x5) ≤ 2147483647 then (if ((q3.2 (x0 + 67) (Int.toNat x1)) - x5) < x2 then some ((-13), q3.2) else if 0 ≤ x3 ∧ x3 < 6 then if -2147483648 ≤ ((q3.2 (x0 + 67) (Int.toNat x3)) - x5) ∧ ((q3.2 (x0 + 67) (Int.toNat x3)) - x5) ≤ 2147483647 then (if x4 ≤ ((q3.2 (x0 + 67) (Int.toNat x3)) - x5) then if 0 ≤ x1 ∧ x1 < 6 then if 0 ≤ x2 ∧ 0 ≤ (0 : Int) ∧ 0 ≤ x5 ∧ x2 + x5 ≤ 60 ∧ (0 : Int) + x5 ≤ 60 then nm (cpM q3.2 ((x0 + 68) + 36 + 16 * Int.toNat x1) (Int.toNat x2) (x0 + 69) (Int.toNat 0) (Int.toNat x5)) (fun M23 => if 0 ≤ x3 ∧ x3 < 6 then if 0 ≤ (0 : Int) ∧ 0 ≤ x4 ∧ 0 ≤ x5 ∧ (0 : Int) + x5 ≤ 60 ∧ x4 + x5 ≤ 60 then nm (cpM M23 (x0 + 69) (Int.toNat 0) ((x0 + 68) + 36 + 16 * Int.toNat x3) (Int.toNat x4) (Int.toNat x5)) (fun M26 => some (x5, M26)) else none else none) else none else none else some ((-13), q3.2)) else none else none) else none else none))) else some ((-12), q3.2)) else none else none else some ((-11), q3.2)) else none) else none))))
end
end
section
section
/-! pure: that a function of the walks gives an answer, and which -/
def Ok {α : Type} (f : Option α) (P : α → Prop) : Prop := ∃ q, f = some q ∧ P q
theorem Ok.mono {α : Type} {f : Option α} {P P2 : α → Prop} (h : Ok f P) (hp : ∀ q, P q → P2 q) : Ok f P2 := by obtain ⟨q, h1, h2⟩ := h; exact ⟨q, h1, hp q h2⟩
theorem ok_some {α : Type} {q : α} {P : α → Prop} (h : P q) : Ok (some q) P := ⟨q, rfl, h⟩
theorem ok_chk {α : Type} {c : Prop} [Decidable c] {k : Option α} {P : α → Prop} (hc : c) (h : Ok k P) : Ok (if c then k else none) P := by rw [if_pos hc]; exact h
theorem ok_ite {α : Type} {c : Prop} [Decidable c] {a b : Option α} {P : α → Prop} (h1 : c → Ok a P) (h2 : ¬ c → Ok b P) : Ok (if c then a else b) P := by
  by_cases hc : c
  · rw [if_pos hc]; exact h1 hc
  · rw [if_neg hc]; exact h2 hc
theorem ok_if {α : Type} {c : Prop} [Decidable c] {a b : Option α} {P : α → Prop} (hc : c) (h : Ok a P) : Ok (if c then a else b) P := by rw [if_pos hc]; exact h
theorem ok_el {α : Type} {c : Prop} [Decidable c] {a b : Option α} {P : α → Prop} (hc : ¬ c) (h : Ok b P) : Ok (if c then a else b) P := by rw [if_neg hc]; exact h
theorem ok_bind {α β : Type} {x : Option α} {k : α → Option β} {P : β → Prop} (h : Ok x (fun q => Ok (k q) P)) : Ok (Option.bind x k) P := by
  obtain ⟨q, h1, h2⟩ := h; rw [h1]; exact h2
theorem ok_by {α β : Type} {x : Option α} {k : α → Option β} {P : β → Prop} {Q : α → Prop} (h : Ok x Q) (hk : ∀ q, Q q → Ok (k q) P) : Ok (Option.bind x k) P := ok_bind (h.mono hk)
theorem ok_nm {α β : Type} {x : α} {k : α → Option β} {P : β → Prop} (h : ∀ y, y = x → Ok (k y) P) : Ok (nm x k) P := h x rfl
theorem ok_lr {α β γ : Type} {x : Option (α ⊕ β)} {f : α → γ} {k : β → Option γ} {P : γ → Prop} (h : Ok x (fun z => (∀ a, z = .inl a → P (f a)) ∧ ∀ b, z = .inr b → Ok (k b) P)) : Ok (lr x f k) P := by
  obtain ⟨z, h1, h2, h3⟩ := h
  rw [h1]
  rcases z with a | b
  · exact ⟨_, rfl, h2 a rfl⟩
  · exact h3 b rfl
theorem ok_oc {α : Type} {x : Option Nat} {n : Option α} {s : Nat → Option α} {P : α → Prop} (h1 : x = none → Ok n P) (h2 : ∀ a, x = some a → Ok (s a) P) : Ok (oc x n s) P := by
  cases x with
  | none => exact h1 rfl
  | some a => exact h2 a rfl
end
end
section
section
/-! rows of digits as numbers -/
theorem ok_nm0 {α β : Type} {x : α} {k : α → Option β} {P : β → Prop} (h : Ok (k x) P) : Ok (nm x k) P := h
theorem ok_bi {α β : Type} {c : Prop} [Decidable c] {a b : Option α} {k : α → Option β} {P : β → Prop} (h : Ok (if c then a else b) (fun q => Ok (k q) P)) : Ok (Option.bind (if c then a else b) k) P := ok_bind h
theorem ok_bsm {α β : Type} {x : α} {k : α → Option β} {P : β → Prop} (h : Ok (k x) P) : Ok (Option.bind (some x) k) P := h
def num (l : List Int) : Int := l.foldl (fun v d => 10 * v + d) 0
def gl (l : List Int) : Prop := ∀ d ∈ l, 0 ≤ d ∧ d ≤ 9
theorem num_nil : num [] = 0 := rfl
theorem num_fold : ∀ (l : List Int) (s : Int), l.foldl (fun v d => 10 * v + d) s = s * 10 ^ l.length + num l
  | [], s => by simp [num]
  | d :: l, s => by
    have h1 := num_fold l (10 * s + d)
    have h2 := num_fold l (10 * 0 + d)
    simp only [num, List.foldl_cons, List.length_cons] at *
    rw [h1, h2, Int.pow_succ]
    grind
theorem num_app (a b : List Int) : num (a ++ b) = num a * 10 ^ b.length + num b := by
  have := num_fold b (num a)
  simp only [num, List.foldl_append] at *
  exact this
theorem num_cons (d : Int) (l : List Int) : num (d :: l) = d * 10 ^ l.length + num l := by
  have := num_app [d] l
  simpa [num] using this
theorem num_snoc (l : List Int) (d : Int) : num (l ++ [d]) = 10 * num l + d := by
  simp [num]
theorem ten_pos (k : Nat) : (0 : Int) < 10 ^ k := Int.pow_pos (by decide)
theorem num_bd : ∀ (l : List Int), gl l → 0 ≤ num l ∧ num l < 10 ^ l.length
  | [], _ => by simp [num]
  | d :: l, h => by
    have ih := num_bd l (fun x hx => h x (List.mem_cons_of_mem _ hx))
    have hd := h d List.mem_cons_self
    have hp := ten_pos l.length
    rw [num_cons, List.length_cons, Int.pow_succ]
    have h1 : d * 10 ^ l.length ≤ 9 * 10 ^ l.length := Int.mul_le_mul_of_nonneg_right hd.2 (by omega)
    have h2 : 0 ≤ d * 10 ^ l.length := Int.mul_nonneg hd.1 (by omega)
    omega
theorem gl_take {l : List Int} (h : gl l) (k : Nat) : gl (l.take k) := fun d hd => h d (List.mem_of_mem_take hd)
theorem gl_drop {l : List Int} (h : gl l) (k : Nat) : gl (l.drop k) := fun d hd => h d (List.mem_of_mem_drop hd)
theorem gl_app {a b : List Int} (h : gl a) (h2 : gl b) : gl (a ++ b) := fun d hd => (List.mem_append.mp hd).elim (h d) (h2 d)
theorem gl_rep (k : Nat) : gl (List.replicate k 0) := fun d hd => by rw [List.eq_of_mem_replicate hd]; omega
theorem num_div {l : List Int} (h : gl l) {k j : Nat} (hk : k + j = l.length) : num l / 10 ^ j = num (l.take k) := by
  have e : num l = num (l.take k) * 10 ^ j + num (l.drop k) := by
    conv => lhs; rw [← List.take_append_drop k l]
    rw [num_app]
    congr 2
    rw [List.length_drop]
    have : l.length - k = j := by omega
    rw [this]
  have hb := num_bd _ (gl_drop h k)
  have hl : (l.drop k).length = j := by rw [List.length_drop]; omega
  rw [hl] at hb
  have hp := ten_pos j
  rw [e, Int.add_comm, Int.add_mul_ediv_right _ _ (by omega), Int.ediv_eq_zero_of_lt hb.1 hb.2, Int.zero_add]
theorem num_take_succ {l : List Int} {k : Nat} (hk : k < l.length) : num (l.take (k + 1)) = 10 * num (l.take k) + l[k] := by
  rw [List.take_succ_eq_append_getElem hk, num_snoc]
theorem gl_at {l : List Int} (h : gl l) {k : Nat} (hk : k < l.length) : 0 ≤ l[k] ∧ l[k] ≤ 9 := h _ (List.getElem_mem hk)
theorem num_mod {l : List Int} (h : gl l) {k : Nat} (hk : k < l.length) : num (l.take (k + 1)) % 10 = l[k] := by
  rw [num_take_succ hk]
  have := gl_at h hk
  omega
theorem num_ten {l : List Int} (h : gl l) {k : Nat} (hk : k < l.length) : num (l.take (k + 1)) / 10 = num (l.take k) := by
  rw [num_take_succ hk]
  have := gl_at h hk
  omega
theorem num_take0 (l : List Int) : num (l.take 0) = 0 := rfl
theorem num_take_len (l : List Int) : num (l.take l.length) = num l := by rw [List.take_length]
theorem num_rep : ∀ (k : Nat), num (List.replicate k 0) = 0
  | 0 => rfl
  | k + 1 => by rw [List.replicate_succ, num_cons, num_rep k]; simp
/-- a row's digits: 1 to 8 -/
def rl (l : List Int) : Prop := (∀ d ∈ l, 1 ≤ d ∧ d ≤ 8) ∧ l.length ≤ 8
theorem rl.gl {l : List Int} (h : rl l) : gl l := fun d hd => by have := h.1 d hd; omega
theorem rl.at {l : List Int} (h : rl l) {k : Nat} (hk : k < l.length) : 1 ≤ l[k] ∧ l[k] ≤ 8 := h.1 _ (List.getElem_mem hk)
theorem rl.take {l : List Int} (h : rl l) (k : Nat) : rl (l.take k) := ⟨fun d hd => h.1 d (List.mem_of_mem_take hd), by rw [List.length_take]; have := h.2; omega⟩
theorem num_pos {l : List Int} (h : ∀ d ∈ l, 1 ≤ d) (hg : gl l) (hn : l ≠ []) : 10 ^ (l.length - 1) ≤ num l := by
  cases l with
  | nil => exact absurd rfl hn
  | cons d l =>
    rw [num_cons, List.length_cons, Nat.add_sub_cancel]
    have hd := h d List.mem_cons_self
    have hb := num_bd l (fun x hx => hg x (List.mem_cons_of_mem _ hx))
    have hp := ten_pos l.length
    have h1 : 1 * 10 ^ l.length ≤ d * 10 ^ l.length := Int.mul_le_mul_of_nonneg_right hd (by omega)
    omega
theorem num_pos0 {l : List Int} (h : rl l) {k : Nat} (hk : k < l.length) : 0 < num (l.take (k + 1)) := by
  rw [num_take_succ hk]
  have := h.at hk
  have := (num_bd _ (gl_take h.gl k)).1
  omega
theorem ten_le {a b : Nat} (h : a ≤ b) : (10 : Int) ^ a ≤ 10 ^ b := by
  obtain ⟨c, rfl⟩ := Nat.le.dest h
  rw [Int.pow_add]
  have h1 := ten_pos a
  have h2 := ten_pos c
  have h3 : (10 : Int) ^ a * 1 ≤ 10 ^ a * 10 ^ c := Int.mul_le_mul_of_nonneg_left (by omega) (by omega)
  omega
theorem num_lt8 {l : List Int} (h : rl l) : num l < 100000000 := by
  have h1 := (num_bd l h.gl).2
  have h2 := ten_le h.2
  have : (10 : Int) ^ 8 = 100000000 := by decide
  omega
/-- filled up -/
def pad (l : List Int) : List Int := l ++ List.replicate (8 - l.length) 0
def fill (l : List Int) : Int := num (pad l)
theorem pad_len {l : List Int} (h : rl l) : (pad l).length = 8 := by
  rw [pad, List.length_append, List.length_replicate]; have := h.2; omega
theorem pad_gl {l : List Int} (h : rl l) : gl (pad l) := gl_app h.gl (gl_rep _)
theorem pad_at {l : List Int} (h : rl l) {k : Nat} (hk : k < 8) : (pad l)[k]? = some (l.getD k 0) := by
  unfold pad
  by_cases hl : k < l.length
  · rw [List.getElem?_append_left hl, List.getElem?_eq_getElem hl, List.getD_eq_getElem?_getD, List.getElem?_eq_getElem hl]; rfl
  · rw [List.getElem?_append_right (by omega), List.getElem?_replicate, if_pos (by omega), List.getD_eq_getElem?_getD, List.getElem?_eq_none (by omega)]; rfl
theorem xpl_ten : ∀ (k : Nat), k < 8 → xpl k = 10 ^ (7 - k) := by decide
theorem fill_at {l : List Int} (h : rl l) {k : Nat} (hk : k < 8) : fill l / xpl k % 10 = l.getD k 0 := by
  rw [xpl_ten k hk, fill, num_div (pad_gl h) (k := k + 1) (by rw [pad_len h]; omega), num_mod (pad_gl h) (by rw [pad_len h]; exact hk)]
  have := pad_at h hk
  rw [List.getElem?_eq_getElem (by rw [pad_len h]; exact hk)] at this
  exact Option.some.inj this
theorem fill_bd {l : List Int} (h : rl l) : 0 ≤ fill l ∧ fill l < 100000000 := by
  have := num_bd _ (pad_gl h)
  rw [pad_len h] at this
  have e : (10 : Int) ^ 8 = 100000000 := by decide
  unfold fill
  omega
end
end
section
section
theorem ok_bs {α β : Type} {x : Option α} {q : α} {k : α → Option β} {P : β → Prop} (h : x = some q) (h2 : Ok (k q) P) : Ok (Option.bind x k) P := by subst h; exact h2
theorem ok_eq {α : Type} {f : Option α} {x : α} (h : Ok f (fun q => q = x)) : f = some x := by obtain ⟨q, h1, h2⟩ := h; subst h2; exact h1
theorem ok_lrl {α β γ : Type} {x : Option (α ⊕ β)} {f : α → γ} {k : β → Option γ} {P : γ → Prop} (h : Ok x (fun z => ∃ a, z = .inl a ∧ P (f a))) : Ok (lr x f k) P := by
  obtain ⟨z, h1, a, h2, h3⟩ := h
  subst h2; rw [h1]; exact ⟨_, rfl, h3⟩
theorem tn (k : Nat) : Int.toNat (k : Int) = k := rfl
theorem at_ok {l : List Int} (h : rl l) {k : Nat} (hk : k < 8) (M : Mem) : fX2_at (fill l) k M = some (l.getD k 0 - 1, M) := by
  have h1 := fill_at h hk
  have h2 : 0 < xpl k := (by decide : ∀ k, k < 8 → 0 < xpl k) k hk
  have h3 := fill_bd h
  have h4 : 0 ≤ l.getD k 0 ∧ l.getD k 0 ≤ 8 := by
    rw [List.getD_eq_getElem?_getD]
    by_cases hl : k < l.length
    · rw [List.getElem?_eq_getElem hl]; have := h.at hl; simp only [Option.getD_some]; omega
    · rw [List.getElem?_eq_none (by omega)]; simp only [Option.getD_none]; omega
  have h5 : 0 ≤ fill l / xpl k := Int.ediv_nonneg h3.1 (by omega)
  apply ok_eq
  unfold fX2_at
  simp only [tn, h1]
  (repeat (first | with_reducible refine ok_nm0 ?_ | (with_reducible refine ok_chk ?_ ?_; · omega) | (with_reducible refine ok_if ?_ ?_; · omega) | (with_reducible refine ok_el ?_ ?_; · omega) | with_reducible refine ok_some ?_ | with_reducible refine ok_bi ?_ | with_reducible refine ok_bsm ?_)); try dsimp only
theorem getD_lt {l : List Int} {k : Nat} (hk : k < l.length) : l.getD k 0 = l[k] := by
  rw [List.getD_eq_getElem?_getD, List.getElem?_eq_getElem hk]; rfl
theorem getD_ge {l : List Int} {k : Nat} (hk : l.length ≤ k) : l.getD k 0 = 0 := by
  rw [List.getD_eq_getElem?_getD, List.getElem?_eq_none hk]; rfl
theorem rl_getD {l : List Int} (h : rl l) {k : Nat} (hk : k < l.length) : 1 ≤ l.getD k 0 ∧ l.getD k 0 ≤ 8 := by rw [getD_lt hk]; exact h.at hk
/-! filled up -/
theorem rep_snoc (l : List Int) (j : Nat) : num (l ++ List.replicate (j + 1) 0) = 10 * num (l ++ List.replicate j 0) := by
  rw [List.replicate_succ', ← List.append_assoc, num_snoc, Int.add_zero]
theorem rep_bd {l : List Int} (h : rl l) (hn : l ≠ []) {j : Nat} : 10 ^ (l.length + j - 1) ≤ num (l ++ List.replicate j 0) ∧ num (l ++ List.replicate j 0) < 10 ^ (l.length + j) := by
  have h1 := num_pos (fun d hd => (h.1 d hd).1) h.gl hn
  have h2 := (num_bd l h.gl).2
  rw [num_app, num_rep, List.length_replicate, Int.add_zero, Int.pow_add]
  have hp := ten_pos j
  have hm : l.length ≠ 0 := fun e => hn (List.length_eq_zero_iff.mp e)
  have e : l.length + j - 1 = l.length - 1 + j := by omega
  rw [e, Int.pow_add]
  exact ⟨Int.mul_le_mul_of_nonneg_right h1 (by omega), Int.mul_lt_mul_of_pos_right h2 hp⟩
theorem filledUp_l {l : List Int} (h : rl l) (hn : l ≠ []) (M : Mem) : ∀ (n i j : Nat) (x : Int), i + 1 ≤ 8 → 7 < n + i → j = min i (8 - l.length) → x = num (l ++ List.replicate j 0) → Ok (fX2_filledUp_l4 n x (i + 1 : Nat) M) (fun q => q.1 = fill l ∧ q.2.2 = M) := by
  intro n
  induction n with
  | zero => intros; omega
  | succ n ih =>
    intro i j x h1 h2 hj hx
    have hm : l.length ≠ 0 := fun e => hn (List.length_eq_zero_iff.mp e)
    have h8 := h.2
    have hb := rep_bd h hn (j := j)
    unfold fX2_filledUp_l4
    refine ok_ite (fun hc => ok_some ?_) (fun hc => ?_)
    · have hj2 : j = 8 - l.length := by omega
      exact ⟨by rw [hx, hj2]; rfl, rfl⟩
    · refine ok_bind ?_
      have x0 : xpl (Int.toNat 0) = 10000000 := rfl
      have e7 : (10 : Int) ^ 7 = 10000000 := by decide
      have e8 : (10 : Int) ^ 8 = 100000000 := by decide
      by_cases hL : l.length + j = 8
      · have hg : 10000000 ≤ x := by
          have := hb.1
          rw [show l.length + j - 1 = 7 by omega, e7] at this
          omega
        (repeat (first | with_reducible refine ok_nm0 ?_ | (with_reducible refine ok_chk ?_ ?_; · omega) | (with_reducible refine ok_if ?_ ?_; · omega) | (with_reducible refine ok_el ?_ ?_; · omega) | with_reducible refine ok_some ?_ | with_reducible refine ok_bi ?_ | with_reducible refine ok_bsm ?_)); try dsimp only
        exact ih (i + 1) j x (by omega) (by omega) (by omega) hx
      · have hg : x < 10000000 := by
          have := hb.2
          have h3 := ten_le (show l.length + j ≤ 7 by omega)
          rw [e7] at h3
          omega
        have hg0 : 0 ≤ x := by
          have := hb.1
          have := ten_pos (l.length + j - 1)
          omega
        (repeat (first | with_reducible refine ok_nm0 ?_ | (with_reducible refine ok_chk ?_ ?_; · omega) | (with_reducible refine ok_if ?_ ?_; · omega) | (with_reducible refine ok_el ?_ ?_; · omega) | with_reducible refine ok_some ?_ | with_reducible refine ok_bi ?_ | with_reducible refine ok_bsm ?_)); try dsimp only
        exact ih (i + 1) (j + 1) _ (by omega) (by omega) (by omega) (by rw [rep_snoc, hx]; omega)
theorem filledUp_z (M : Mem) : fX2_filledUp 0 M = some (0, M) := by
  have : ∀ (n i : Nat), i + 1 ≤ 8 → 7 < n + i → Ok (fX2_filledUp_l4 n 0 (i + 1 : Nat) M) (fun q => q.1 = 0 ∧ q.2.2 = M) := by
    intro n
    induction n with
    | zero => intros; omega
    | succ n ih =>
      intro i h1 h2
      unfold fX2_filledUp_l4
      refine ok_ite (fun hc => ok_some ⟨rfl, rfl⟩) (fun hc => ?_)
      have x0 : xpl (Int.toNat 0) = 10000000 := rfl
      (repeat (first | with_reducible refine ok_nm0 ?_ | (with_reducible refine ok_chk ?_ ?_; · omega) | (with_reducible refine ok_if ?_ ?_; · omega) | (with_reducible refine ok_el ?_ ?_; · omega) | with_reducible refine ok_some ?_ | with_reducible refine ok_bi ?_ | with_reducible refine ok_bsm ?_)); try dsimp only
      exact ih (i + 1) (by omega) (by omega)
  apply ok_eq
  unfold fX2_filledUp
  refine ok_by (this 1000 0 (by omega) (by omega)) (fun q hq => ok_some ?_)
  rw [hq.1, hq.2]
theorem fill_nil : fill [] = 0 := by decide
theorem filledUp_ok {l : List Int} (h : rl l) (M : Mem) : fX2_filledUp (num l) M = some (fill l, M) := by
  by_cases hn : l = []
  · subst hn; rw [fill_nil]; exact filledUp_z M
  · apply ok_eq
    unfold fX2_filledUp
    refine ok_by (filledUp_l h hn M 1000 0 0 _ (by omega) (by omega) (by omega) (by simp)) (fun q hq => ok_some ?_)
    rw [hq.1, hq.2]
theorem asTold_l {l : List Int} (h : rl l) (hn : l ≠ []) (M : Mem) : ∀ (n i j : Nat) (x : Int), i + 1 ≤ 8 → 7 < n + i → j = 8 - l.length - i → x = num (l ++ List.replicate j 0) → Ok (fX2_asTold_l4 n x (i + 1 : Nat) M) (fun q => q.1 = num l ∧ q.2.2 = M) := by
  intro n
  induction n with
  | zero => intros; omega
  | succ n ih =>
    intro i j x h1 h2 hj hx
    have hm : l.length ≠ 0 := fun e => hn (List.length_eq_zero_iff.mp e)
    have h8 := h.2
    have hb := rep_bd h hn (j := j)
    have hg0 : 0 ≤ x := by
      have := hb.1
      have := ten_pos (l.length + j - 1)
      omega
    unfold fX2_asTold_l4
    refine ok_ite (fun hc => ok_some ?_) (fun hc => ?_)
    · have hj2 : j = 0 := by omega
      exact ⟨by rw [hx, hj2]; simp, rfl⟩
    · by_cases hL : j = 0
      · have hg : 1 ≤ x % 10 := by
          have hk : l.length - 1 < l.length := by omega
          have h3 := num_mod h.gl hk
          rw [show l.length - 1 + 1 = l.length by omega, num_take_len] at h3
          have h4 := h.at hk
          rw [hL] at hx
          simp only [List.replicate_zero, List.append_nil] at hx
          rw [← hx] at h3
          omega
        (repeat (first | with_reducible refine ok_nm0 ?_ | (with_reducible refine ok_chk ?_ ?_; · omega) | (with_reducible refine ok_if ?_ ?_; · omega) | (with_reducible refine ok_el ?_ ?_; · omega) | with_reducible refine ok_some ?_ | with_reducible refine ok_bi ?_ | with_reducible refine ok_bsm ?_)); try dsimp only
        exact ih (i + 1) j x (by omega) (by omega) (by omega) hx
      · obtain ⟨j', rfl⟩ : ∃ j', j = j' + 1 := ⟨j - 1, by omega⟩
        rw [rep_snoc] at hx
        (repeat (first | with_reducible refine ok_nm0 ?_ | (with_reducible refine ok_chk ?_ ?_; · omega) | (with_reducible refine ok_if ?_ ?_; · omega) | (with_reducible refine ok_el ?_ ?_; · omega) | with_reducible refine ok_some ?_ | with_reducible refine ok_bi ?_ | with_reducible refine ok_bsm ?_)); try dsimp only
        exact ih (i + 1) j' _ (by omega) (by omega) (by omega) (by omega)
theorem asTold_ok {l : List Int} (h : rl l) (hn : l ≠ []) (M : Mem) : fX2_asTold (fill l) M = some (num l, M) := by
  apply ok_eq
  unfold fX2_asTold
  refine ok_by (asTold_l h hn M 1000 0 (8 - l.length) _ (by omega) (by omega) (by omega) rfl) (fun q hq => ok_some ?_)
  rw [hq.1, hq.2]
theorem length_l {l : List Int} (h : rl l) (M : Mem) : ∀ (n i : Nat) (x : Int), i ≤ 8 → 8 < n + i → x = (min i l.length : Nat) → Ok (fX2_length_l4 (fill l) n x i M) (fun q => q.1 = l.length ∧ q.2.2 = M) := by
  intro n
  induction n with
  | zero => intros; omega
  | succ n ih =>
    intro i x h1 h2 hx
    have h8 := h.2
    unfold fX2_length_l4
    refine ok_ite (fun hc => ok_some ?_) (fun hc => ?_)
    · exact ⟨by (try dsimp only); omega, rfl⟩
    · refine ok_bs (at_ok h (by omega) M) ?_
      by_cases hl : i < l.length
      · have := rl_getD h hl
        (repeat (first | with_reducible refine ok_nm0 ?_ | (with_reducible refine ok_chk ?_ ?_; · omega) | (with_reducible refine ok_if ?_ ?_; · omega) | (with_reducible refine ok_el ?_ ?_; · omega) | with_reducible refine ok_some ?_ | with_reducible refine ok_bi ?_ | with_reducible refine ok_bsm ?_)); try dsimp only
        exact ih (i + 1) _ (by omega) (by omega) (by omega)
      · have := getD_ge (l := l) (k := i) (by omega)
        (repeat (first | with_reducible refine ok_nm0 ?_ | (with_reducible refine ok_chk ?_ ?_; · omega) | (with_reducible refine ok_if ?_ ?_; · omega) | (with_reducible refine ok_el ?_ ?_; · omega) | with_reducible refine ok_some ?_ | with_reducible refine ok_bi ?_ | with_reducible refine ok_bsm ?_)); try dsimp only
        exact ih (i + 1) _ (by omega) (by omega) (by omega)
theorem length_ok {l : List Int} (h : rl l) (M : Mem) : fX2_length (fill l) M = some ((l.length : Int), M) := by
  apply ok_eq
  unfold fX2_length
  refine ok_by (length_l h M 1000 0 0 (by omega) (by omega) (by simp)) (fun q hq => ok_some ?_)
  rw [hq.1, hq.2]
end
end
section
section
/-- the place of a digit, 8 if it lacks -/
def plc (l : List Int) (d : Int) : Int := if l.idxOf d < l.length then l.idxOf d else 8
theorem plc_at {l : List Int} {d : Int} {i : Nat} (hi : i < l.length) (h : l[i] = d) (hb : ∀ k (hk : k < i), l[k]'(by omega) ≠ d) : plc l d = i := by
  have e : l.idxOf d = i := by
    have hm : d ∈ l := h ▸ List.getElem_mem hi
    have h1 := List.idxOf_lt_length_of_mem hm
    have h2 := List.getElem_idxOf h1
    by_cases h3 : l.idxOf d < i
    · exact absurd h2 (hb _ h3)
    · by_cases h4 : i < l.idxOf d
      · have := List.not_of_lt_findIdx (p := (· == d)) (xs := l) (i := i) h4
        simp only [beq_eq_false_iff_ne] at this
        exact absurd h this
      · omega
  unfold plc
  rw [e, if_pos hi]
theorem plc_no {l : List Int} {d : Int} (h : d ∉ l) : plc l d = 8 := by
  unfold plc
  rw [if_neg (by rw [List.idxOf_lt_length_iff]; exact h)]
theorem placeOf_l {l : List Int} (h : rl l) {c : Int} (hc : 0 ≤ c) (M : Mem) : ∀ (n i : Nat), i ≤ 8 → 8 < n + i → (∀ k, k < i → l.getD k 0 - 1 ≠ c) → Ok (fX2_placeOf_l2 (fill l) c n i M) (fun z => ∃ a, z = .inl a ∧ a.1 = plc l (c + 1) ∧ a.2 = M) := by
  intro n
  induction n with
  | zero => intros; omega
  | succ n ih =>
    intro i h1 h2 hb
    have h8 := h.2
    unfold fX2_placeOf_l2
    refine ok_ite (fun hc => ok_some ?_) (fun hc => ?_)
    · refine ⟨_, rfl, ?_, rfl⟩
      rw [plc_no]
      intro hm
      obtain ⟨k, hk, e⟩ := List.getElem_of_mem hm
      have := hb k (by omega)
      rw [getD_lt hk, e] at this
      omega
    · refine ok_bs (at_ok h (by omega) M) ?_
      refine ok_ite (fun hq => ok_some ?_) (fun hq => ?_)
      · refine ⟨_, rfl, ?_, rfl⟩
        have hl : i < l.length := by
          by_cases hl : i < l.length
          · exact hl
          · have := getD_ge (l := l) (k := i) (by omega)
            try dsimp only at hq
            omega
        rw [plc_at hl]
        · rw [← getD_lt hl]; dsimp only at hq; omega
        · intro k hk e
          have := hb k hk
          rw [getD_lt (by omega)] at this
          omega
      · (repeat (first | with_reducible refine ok_nm0 ?_ | (with_reducible refine ok_chk ?_ ?_; · omega) | (with_reducible refine ok_if ?_ ?_; · omega) | (with_reducible refine ok_el ?_ ?_; · omega) | with_reducible refine ok_some ?_ | with_reducible refine ok_bi ?_ | with_reducible refine ok_bsm ?_)); try dsimp only
        refine ih (i + 1) (by omega) (by omega) ?_
        intro k hk
        by_cases e : k = i
        · subst e; exact hq
        · exact hb k (by omega)
theorem placeOf_ok {l : List Int} (h : rl l) {c : Int} (hc : 0 ≤ c) (M : Mem) : fX2_placeOf (fill l) c M = some (plc l (c + 1), M) := by
  apply ok_eq
  unfold fX2_placeOf
  refine ok_lrl ((placeOf_l h hc M 1000 0 (by omega) (by omega) (fun k hk => by omega)).mono (fun z hz => ?_))
  obtain ⟨a, rfl, h1, h2⟩ := hz
  exact ⟨a, rfl, Prod.ext h1 h2⟩
/-! left out -/
def lft (g : Nat → Int) (l : List Int) : List Int := l.filter (fun d => decide (g (d - 1).toNat = 0))
theorem rl_filter {l : List Int} (h : rl l) (p : Int → Bool) : rl (l.filter p) := ⟨fun d hd => h.1 d ((List.mem_filter.mp hd).1), by have := List.length_filter_le p l; have := h.2; omega⟩
theorem lft_rl {l : List Int} (h : rl l) (g : Nat → Int) : rl (lft g l) := rl_filter h _
theorem lft_take {l : List Int} (g : Nat → Int) {k : Nat} (hk : k < l.length) : lft g (l.take (k + 1)) = lft g (l.take k) ++ (if g (l[k] - 1).toNat = 0 then [l[k]] else []) := by
  unfold lft
  rw [List.take_succ_eq_append_getElem hk, List.filter_append]
  congr 1
  by_cases e : g (l[k] - 1).toNat = 0
  · rw [if_pos e, List.filter_cons_of_pos (by simpa using e), List.filter_nil]
  · rw [if_neg e, List.filter_cons_of_neg (by simpa using e), List.filter_nil]
theorem len_bd {l : List Int} (h : rl l) : 0 ≤ num l ∧ num l < 100000000 := ⟨(num_bd l h.gl).1, num_lt8 h⟩
theorem num7 {l : List Int} (h : gl l) (hl : l.length < 8) : 0 ≤ num l ∧ num l < 10000000 := by
  have h1 := num_bd l h
  have h2 := ten_le (show l.length ≤ 7 by omega)
  have : (10 : Int) ^ 7 = 10000000 := by decide
  omega
theorem leftOf_l {l : List Int} (h : rl l) (a : Nat) (M : Mem) : ∀ (n i : Nat) (x : Int), i ≤ 8 → 8 < n + i → x = num (lft (M a) (l.take i)) → Ok (fX2_leftOf_l4 (fill l) a n x i M) (fun q => q.1 = num (lft (M a) l) ∧ q.2.2 = M) := by
  intro n
  induction n with
  | zero => intros; omega
  | succ n ih =>
    intro i x h1 h2 hx
    have h8 := h.2
    unfold fX2_leftOf_l4
    refine ok_ite (fun hc => ok_some ?_) (fun hc => ?_)
    · refine ⟨?_, rfl⟩
      rw [List.take_of_length_le (by omega)] at hx
      exact hx
    · refine ok_bs (at_ok h (by omega) M) ?_
      by_cases hl : i < l.length
      · have hr := rl_getD h hl
        have hd := getD_lt hl
        have hx2 := lft_take (M a) hl
        rw [← hd] at hx2
        have hn7 := num7 (lft_rl (h.take i) (M a)).gl (by
          have h3 := List.length_filter_le (fun d => decide (M a (d - 1).toNat = 0)) (l.take i)
          have h4 := List.length_take_le i l
          unfold lft
          omega)
        (repeat (first | with_reducible refine ok_nm0 ?_ | (with_reducible refine ok_chk ?_ ?_; · omega) | (with_reducible refine ok_if ?_ ?_; · omega) | (with_reducible refine ok_el ?_ ?_; · omega) | with_reducible refine ok_some ?_ | with_reducible refine ok_bi ?_ | with_reducible refine ok_bsm ?_)); try dsimp only
        refine ok_ite (fun hq => ?_) (fun hq => ?_)
        · rw [if_pos hq] at hx2
          (repeat (first | with_reducible refine ok_nm0 ?_ | (with_reducible refine ok_chk ?_ ?_; · omega) | (with_reducible refine ok_if ?_ ?_; · omega) | (with_reducible refine ok_el ?_ ?_; · omega) | with_reducible refine ok_some ?_ | with_reducible refine ok_bi ?_ | with_reducible refine ok_bsm ?_)); try dsimp only
          refine ih (i + 1) _ (by omega) (by omega) ?_
          rw [hx2, num_snoc]
          omega
        · rw [if_neg hq] at hx2
          (repeat (first | with_reducible refine ok_nm0 ?_ | (with_reducible refine ok_chk ?_ ?_; · omega) | (with_reducible refine ok_if ?_ ?_; · omega) | (with_reducible refine ok_el ?_ ?_; · omega) | with_reducible refine ok_some ?_ | with_reducible refine ok_bi ?_ | with_reducible refine ok_bsm ?_)); try dsimp only
          refine ih (i + 1) _ (by omega) (by omega) ?_
          rw [hx2, List.append_nil]
          exact hx
      · have := getD_ge (l := l) (k := i) (by omega)
        (repeat (first | with_reducible refine ok_nm0 ?_ | (with_reducible refine ok_chk ?_ ?_; · omega) | (with_reducible refine ok_if ?_ ?_; · omega) | (with_reducible refine ok_el ?_ ?_; · omega) | with_reducible refine ok_some ?_ | with_reducible refine ok_bi ?_ | with_reducible refine ok_bsm ?_)); try dsimp only
        refine ih (i + 1) _ (by omega) (by omega) ?_
        rw [List.take_of_length_le (by omega)] at hx ⊢
        exact hx
theorem leftOf_ok {l : List Int} (h : rl l) (a : Nat) (M : Mem) : fX2_leftOf (fill l) a M = some (fill (lft (M a) l), M) := by
  apply ok_eq
  unfold fX2_leftOf
  refine ok_by (leftOf_l h a M 1000 0 0 (by omega) (by omega) rfl) (fun q hq => ?_)
  rw [hq.1, hq.2]
  exact ok_bs (filledUp_ok (lft_rl h _) M) (ok_some rfl)
/-! put first -/
def led (d : Int) (l : List Int) : List Int := d :: l.filter (fun x => decide (x ≠ d))
theorem led_take {l : List Int} (d : Int) {k : Nat} (hk : k < l.length) : led d (l.take (k + 1)) = led d (l.take k) ++ (if l[k] = d then [] else [l[k]]) := by
  unfold led
  rw [List.take_succ_eq_append_getElem hk, List.filter_append, List.cons_append]
  congr 2
  by_cases e : l[k] = d
  · rw [if_pos e, List.filter_cons_of_neg (by simpa using e), List.filter_nil]
  · rw [if_neg e, List.filter_cons_of_pos (by simpa using e), List.filter_nil]
theorem led_gl {l : List Int} (h : rl l) {d : Int} (hd : 1 ≤ d ∧ d ≤ 8) : gl (led d l) := by
  intro x hx
  rcases List.mem_cons.mp hx with e | e
  · omega
  · have := h.1 x ((List.mem_filter.mp e).1); omega
theorem num9 {l : List Int} (h : gl l) (hl : l.length ≤ 8) : 0 ≤ num l ∧ num l < 100000000 := by
  have h1 := num_bd l h
  have h2 := ten_le hl
  have : (10 : Int) ^ 8 = 100000000 := by decide
  omega
theorem ledBy_l {l : List Int} (h : rl l) {c : Int} (hc : 0 ≤ c ∧ c < 8) (M : Mem) : ∀ (n i : Nat) (x : Int), i ≤ 8 → 8 < n + i → x = num (led (c + 1) (l.take i)) → Ok (fX2_ledBy_l6 c (fill l) n x i M) (fun q => q.1 = num (led (c + 1) l) ∧ q.2.2 = M) := by
  intro n
  induction n with
  | zero => intros; omega
  | succ n ih =>
    intro i x h1 h2 hx
    have h8 := h.2
    unfold fX2_ledBy_l6
    refine ok_ite (fun hc => ok_some ?_) (fun hc => ?_)
    · refine ⟨?_, rfl⟩
      rw [List.take_of_length_le (by omega)] at hx
      exact hx
    · refine ok_bs (at_ok h (by omega) M) ?_
      by_cases hl : i < l.length
      · have hr := rl_getD h hl
        have hd := getD_lt hl
        have hx2 := led_take (c + 1) hl
        rw [← hd] at hx2
        have hn9 := num9 (led_gl (h.take i) (d := c + 1) (by omega)) (by
          have h3 := List.length_filter_le (fun x => decide (x ≠ c + 1)) (l.take i)
          have h4 := List.length_take_le i l
          unfold led
          rw [List.length_cons]
          omega)
        (repeat (first | with_reducible refine ok_nm0 ?_ | (with_reducible refine ok_chk ?_ ?_; · omega) | (with_reducible refine ok_if ?_ ?_; · omega) | (with_reducible refine ok_el ?_ ?_; · omega) | with_reducible refine ok_some ?_ | with_reducible refine ok_bi ?_ | with_reducible refine ok_bsm ?_)); try dsimp only
        refine ok_ite (fun hq => ?_) (fun hq => ?_)
        · rw [if_pos (by omega)] at hx2
          (repeat (first | with_reducible refine ok_nm0 ?_ | (with_reducible refine ok_chk ?_ ?_; · omega) | (with_reducible refine ok_if ?_ ?_; · omega) | (with_reducible refine ok_el ?_ ?_; · omega) | with_reducible refine ok_some ?_ | with_reducible refine ok_bi ?_ | with_reducible refine ok_bsm ?_)); try dsimp only
          refine ih (i + 1) _ (by omega) (by omega) ?_
          rw [hx2, List.append_nil]
          exact hx
        · rw [if_neg (by omega)] at hx2
          (repeat (first | with_reducible refine ok_nm0 ?_ | (with_reducible refine ok_chk ?_ ?_; · omega) | (with_reducible refine ok_if ?_ ?_; · omega) | (with_reducible refine ok_el ?_ ?_; · omega) | with_reducible refine ok_some ?_ | with_reducible refine ok_bi ?_ | with_reducible refine ok_bsm ?_)); try dsimp only
          refine ih (i + 1) _ (by omega) (by omega) ?_
          rw [hx2, num_snoc]
          omega
      · have := getD_ge (l := l) (k := i) (by omega)
        (repeat (first | with_reducible refine ok_nm0 ?_ | (with_reducible refine ok_chk ?_ ?_; · omega) | (with_reducible refine ok_if ?_ ?_; · omega) | (with_reducible refine ok_el ?_ ?_; · omega) | with_reducible refine ok_some ?_ | with_reducible refine ok_bi ?_ | with_reducible refine ok_bsm ?_)); try dsimp only
        refine ih (i + 1) _ (by omega) (by omega) ?_
        rw [List.take_of_length_le (by omega)] at hx ⊢
        exact hx
theorem ledBy_ok {l : List Int} (h : rl l) {c : Int} (hc : 0 ≤ c ∧ c < 8) (hl : rl (led (c + 1) l)) (M : Mem) : fX2_ledBy c (fill l) M = some (fill (led (c + 1) l), M) := by
  apply ok_eq
  unfold fX2_ledBy
  (repeat (first | with_reducible refine ok_nm0 ?_ | (with_reducible refine ok_chk ?_ ?_; · omega) | (with_reducible refine ok_if ?_ ?_; · omega) | (with_reducible refine ok_el ?_ ?_; · omega) | with_reducible refine ok_some ?_ | with_reducible refine ok_bi ?_ | with_reducible refine ok_bsm ?_)); try dsimp only
  refine ok_by (ledBy_l h hc M 1000 0 (c + 1) (by omega) (by omega) (by simp [led, num])) (fun q hq => ?_)
  rw [hq.1, hq.2]
  exact ok_bs (filledUp_ok hl M) (ok_some rfl)
/-! the other one's digits -/
theorem lengthOf_l {l : List Int} (h : rl l) (M : Mem) : ∀ (n k : Nat) (x v : Int), k ≤ l.length → k < n → x + k = l.length → v = num (l.take k) → Ok (fX9_lengthOf_l4 n x v M) (fun q => q.1 = l.length ∧ q.2.2 = M) := by
  intro n
  induction n with
  | zero => intros; omega
  | succ n ih =>
    intro k x v h1 h2 hx hv
    have h8 := h.2
    unfold fX9_lengthOf_l4
    cases k with
    | zero =>
      have : v = 0 := hv
      (repeat (first | with_reducible refine ok_nm0 ?_ | (with_reducible refine ok_chk ?_ ?_; · omega) | (with_reducible refine ok_if ?_ ?_; · omega) | (with_reducible refine ok_el ?_ ?_; · omega) | with_reducible refine ok_some ?_ | with_reducible refine ok_bi ?_ | with_reducible refine ok_bsm ?_)); try dsimp only
      exact ⟨by (try dsimp only); omega, rfl⟩
    | succ k =>
      have hp := num_pos0 h (k := k) (by omega)
      (repeat (first | with_reducible refine ok_nm0 ?_ | (with_reducible refine ok_chk ?_ ?_; · omega) | (with_reducible refine ok_if ?_ ?_; · omega) | (with_reducible refine ok_el ?_ ?_; · omega) | with_reducible refine ok_some ?_ | with_reducible refine ok_bi ?_ | with_reducible refine ok_bsm ?_)); try dsimp only
      exact ih k _ _ (by omega) (by omega) (by omega) (by rw [hv]; exact num_ten h.gl (by omega))
theorem lengthOf_ok {l : List Int} (h : rl l) (M : Mem) : fX9_lengthOf (num l) M = some ((l.length : Int), M) := by
  have h8 := h.2
  apply ok_eq
  unfold fX9_lengthOf
  refine ok_by (lengthOf_l h M 1000 l.length 0 _ (by omega) (by omega) (by omega) (by rw [List.take_length])) (fun q hq => ok_some ?_)
  rw [hq.1, hq.2]
theorem digitAt_l {l : List Int} (h : rl l) {i : Nat} (hi : i < l.length) (M : Mem) : ∀ (n k : Nat) (v : Int), i ≤ k → k < l.length → k < n + i → v = num (l.take (k + 1)) → Ok (fX9_digitAt_l9 i n v k M) (fun q => q.1 = num (l.take (i + 1)) ∧ q.2.2 = M) := by
  intro n
  induction n with
  | zero => intros; omega
  | succ n ih =>
    intro k v h1 h2 h3 hv
    have h8 := h.2
    unfold fX9_digitAt_l9
    refine ok_ite (fun hc => ok_some ?_) (fun hc => ?_)
    · have : k = i := by omega
      subst this
      exact ⟨hv, rfl⟩
    · have hp := num_pos0 h (k := k) (by omega)
      obtain ⟨k', rfl⟩ : ∃ k', k = k' + 1 := ⟨k - 1, by omega⟩
      (repeat (first | with_reducible refine ok_nm0 ?_ | (with_reducible refine ok_chk ?_ ?_; · omega) | (with_reducible refine ok_if ?_ ?_; · omega) | (with_reducible refine ok_el ?_ ?_; · omega) | with_reducible refine ok_some ?_ | with_reducible refine ok_bi ?_ | with_reducible refine ok_bsm ?_)); try dsimp only
      have := ih k' (v / 10) (by omega) (by omega) (by omega) (by rw [hv]; exact num_ten h.gl (by omega))
      rw [show ((k' + 1 : Nat) : Int) + -1 = (k' : Int) by omega]
      exact this
theorem digitAt_ok {l : List Int} (h : rl l) {i : Nat} (hi : i < l.length) (M : Mem) : fX9_digitAt (num l) i M = some (l.getD i 0, M) := by
  have h8 := h.2
  apply ok_eq
  unfold fX9_digitAt
  refine ok_bs (lengthOf_ok h M) ?_
  (repeat (first | with_reducible refine ok_nm0 ?_ | (with_reducible refine ok_chk ?_ ?_; · omega) | (with_reducible refine ok_if ?_ ?_; · omega) | (with_reducible refine ok_el ?_ ?_; · omega) | with_reducible refine ok_some ?_ | with_reducible refine ok_bi ?_ | with_reducible refine ok_bsm ?_)); try dsimp only
  try dsimp only
  rw [show (l.length : Int) - 1 = ((l.length - 1 : Nat) : Int) by omega]
  refine ok_by (digitAt_l h hi M 1000 (l.length - 1) _ (by omega) (by omega) (by omega) (by rw [show l.length - 1 + 1 = l.length by omega, List.take_length])) (fun q hq => ?_)
  have hp := num_pos0 h hi
  have hm := num_mod h.gl hi
  rw [← getD_lt hi] at hm
  rw [hq.1, hq.2, hm]
  exact ok_chk (by omega) (ok_some rfl)
theorem left_l {l : List Int} (h : rl l) (a : Nat) (M : Mem) : ∀ (n i : Nat) (x : Int), i ≤ l.length → l.length < n + i → x = num (lft (M (a + 3)) (l.take i)) → Ok (fX9_left_l4 a (num l) n x i M) (fun q => q.1 = num (lft (M (a + 3)) l) ∧ q.2.2 = M) := by
  intro n
  induction n with
  | zero => intros; omega
  | succ n ih =>
    intro i x h1 h2 hx
    have h8 := h.2
    unfold fX9_left_l4
    refine ok_bs (lengthOf_ok h M) ?_
    refine ok_ite (fun hc => ok_some ?_) (fun hc => ?_)
    · refine ⟨?_, rfl⟩
      try dsimp only at hc
      rw [List.take_of_length_le (by omega)] at hx
      exact hx
    · dsimp only at hc
      have hl : i < l.length := by omega
      refine ok_bs (digitAt_ok h hl M) ?_
      have hr := rl_getD h hl
      have hd := getD_lt hl
      have hx2 := lft_take (M (a + 3)) hl
      rw [← hd] at hx2
      have hn7 := num7 (lft_rl (h.take i) (M (a + 3))).gl (by
        have h3 := List.length_filter_le (fun d => decide (M (a + 3) (d - 1).toNat = 0)) (l.take i)
        have h4 := List.length_take_le i l
        unfold lft
        omega)
      (repeat (first | with_reducible refine ok_nm0 ?_ | (with_reducible refine ok_chk ?_ ?_; · omega) | (with_reducible refine ok_if ?_ ?_; · omega) | (with_reducible refine ok_el ?_ ?_; · omega) | with_reducible refine ok_some ?_ | with_reducible refine ok_bi ?_ | with_reducible refine ok_bsm ?_)); try dsimp only
      refine ok_ite (fun hq => ?_) (fun hq => ?_)
      · rw [if_pos hq] at hx2
        (repeat (first | with_reducible refine ok_nm0 ?_ | (with_reducible refine ok_chk ?_ ?_; · omega) | (with_reducible refine ok_if ?_ ?_; · omega) | (with_reducible refine ok_el ?_ ?_; · omega) | with_reducible refine ok_some ?_ | with_reducible refine ok_bi ?_ | with_reducible refine ok_bsm ?_)); try dsimp only
        refine ih (i + 1) _ (by omega) (by omega) ?_
        rw [hx2, num_snoc]
        omega
      · rw [if_neg hq] at hx2
        (repeat (first | with_reducible refine ok_nm0 ?_ | (with_reducible refine ok_chk ?_ ?_; · omega) | (with_reducible refine ok_if ?_ ?_; · omega) | (with_reducible refine ok_el ?_ ?_; · omega) | with_reducible refine ok_some ?_ | with_reducible refine ok_bi ?_ | with_reducible refine ok_bsm ?_)); try dsimp only
        refine ih (i + 1) _ (by omega) (by omega) ?_
        rw [hx2, List.append_nil]
        exact hx
theorem left_ok {l : List Int} (h : rl l) (a : Nat) (M : Mem) : fX9_left a (num l) M = some (num (lft (M (a + 3)) l), M) := by
  have h8 := h.2
  apply ok_eq
  unfold fX9_left
  refine ok_by (left_l h a M 1000 0 0 (by omega) (by omega) rfl) (fun q hq => ok_some ?_)
  rw [hq.1, hq.2]
theorem keyOf_l {l : List Int} (h : rl l) (M : Mem) : ∀ (n k : Nat) (x : Int), l.length ≤ k → k ≤ 8 → 8 < n + k → x = num (l ++ List.replicate (k - l.length) 0) → Ok (fX9_keyOf_l7 n x k M) (fun q => q.1 = fill l ∧ q.2.2 = M) := by
  intro n
  induction n with
  | zero => intros; omega
  | succ n ih =>
    intro k x h1 h2 h3 hx
    have hb := num9 (l := l ++ List.replicate (k - l.length) 0) (gl_app h.gl (gl_rep _)) (by rw [List.length_append, List.length_replicate]; omega)
    unfold fX9_keyOf_l7
    refine ok_ite (fun hc => ok_some ?_) (fun hc => ?_)
    · have : k = 8 := by omega
      subst this
      exact ⟨hx, rfl⟩
    · (repeat (first | with_reducible refine ok_nm0 ?_ | (with_reducible refine ok_chk ?_ ?_; · omega) | (with_reducible refine ok_if ?_ ?_; · omega) | (with_reducible refine ok_el ?_ ?_; · omega) | with_reducible refine ok_some ?_ | with_reducible refine ok_bi ?_ | with_reducible refine ok_bsm ?_)); try dsimp only
      refine ih (k + 1) _ (by omega) (by omega) (by omega) ?_
      rw [show k + 1 - l.length = k - l.length + 1 by omega, rep_snoc]
      omega
theorem keyOf_ok {l : List Int} (h : rl l) (M : Mem) : fX9_keyOf (num l) M = some (fill l, M) := by
  have h8 := h.2
  apply ok_eq
  unfold fX9_keyOf
  refine ok_bs (lengthOf_ok h M) ?_
  (repeat (first | with_reducible refine ok_nm0 ?_ | (with_reducible refine ok_chk ?_ ?_; · omega) | (with_reducible refine ok_if ?_ ?_; · omega) | (with_reducible refine ok_el ?_ ?_; · omega) | with_reducible refine ok_some ?_ | with_reducible refine ok_bi ?_ | with_reducible refine ok_bsm ?_)); try dsimp only
  refine ok_by (keyOf_l h M 1000 l.length _ (by omega) (by omega) (by omega) (by simp)) (fun q hq => ok_some ?_)
  rw [hq.1, hq.2]
end
end
section
section
/-! sets as bits -/
def bt (w : Int) (c : Nat) : Bool := w.toNat.testBit c
theorem bt_shr0 : ∀ w : Nat, w < 512 → ∀ c : Nat, c < 9 → bAnd (bShr (w : Int) (c : Int)) 1 = if w.testBit c then 1 else 0 := by decide +kernel
theorem bt_or0 : ∀ w : Nat, w < 512 → ∀ c : Nat, c < 9 → bOr (w : Int) (bShl 1 (c : Int)) = ((w ||| 2 ^ c : Nat) : Int) := by decide +kernel
theorem bt_cl0 : ∀ w : Nat, w < 256 → ∀ c : Nat, c < 8 → bAnd (w : Int) (bXor (bShl 1 (c : Int)) (-1)) = ((w &&& (255 ^^^ 2 ^ c) : Nat) : Int) := by decide +kernel
theorem bt_an0 : ∀ w : Nat, w < 256 → ∀ v : Nat, v < 256 → bAnd (w : Int) (bXor (v : Int) (-1)) = ((w &&& (255 ^^^ v) : Nat) : Int) := by decide +kernel
theorem bt_oo0 : ∀ w : Nat, w < 256 → ∀ v : Nat, v < 256 → bOr (w : Int) (v : Int) = ((w ||| v : Nat) : Int) := by decide +kernel
end
end
section
section
/-! sets as bits, derived -/
theorem bt_shr {w : Int} (h0 : 0 ≤ w) (h1 : w < 512) {c : Nat} (hc : c < 9) : bAnd (bShr w (c : Int)) 1 = if bt w c then 1 else 0 := by
  obtain ⟨k, rfl⟩ := Int.eq_ofNat_of_zero_le h0
  exact bt_shr0 k (by omega) c hc
theorem bt_or_e {w : Int} (h0 : 0 ≤ w) (h1 : w < 512) {c : Nat} (hc : c < 9) : bOr w (bShl 1 (c : Int)) = ((w.toNat ||| 2 ^ c : Nat) : Int) := by
  obtain ⟨k, rfl⟩ := Int.eq_ofNat_of_zero_le h0
  exact bt_or0 k (by omega) c hc
theorem bt_0 (c : Nat) : bt 0 c = false := by simp [bt]
theorem bt_or {w : Int} (h0 : 0 ≤ w) (h1 : w < 512) {c : Nat} (hc : c < 9) (d : Nat) : bt (bOr w (bShl 1 (c : Int))) d = (bt w d || decide (d = c)) := by
  rw [bt_or_e h0 h1 hc]
  unfold bt
  rw [Int.toNat_natCast, Nat.testBit_or, Nat.testBit_two_pow]
  congr 1
  exact decide_eq_decide.mpr ⟨fun h => h.symm, fun h => h.symm⟩
theorem bt_or_bd {w : Int} {m : Nat} (hm : m ≤ 9) (h0 : 0 ≤ w) (h1 : w < 2 ^ m) {c : Nat} (hc : c < m) : 0 ≤ bOr w (bShl 1 (c : Int)) ∧ bOr w (bShl 1 (c : Int)) < 2 ^ m := by
  obtain ⟨k, rfl⟩ := Int.eq_ofNat_of_zero_le h0
  have h2 : k < 2 ^ m := by exact_mod_cast h1
  have h3 : k < 512 := Nat.lt_of_lt_of_le h2 (Nat.pow_le_pow_right (by decide) hm)
  rw [bt_or_e h0 (by omega) (by omega)]
  constructor
  · omega
  · have := Nat.or_lt_two_pow (x := k) (y := 2 ^ c) h2 (Nat.pow_lt_pow_right (by decide) hc)
    exact_mod_cast this
theorem bt_ext {w v : Int} (h0 : 0 ≤ w) (h1 : w < 256) (h2 : 0 ≤ v) (h3 : v < 256) (h : ∀ c, c < 8 → bt w c = bt v c) : w = v := by
  obtain ⟨k, rfl⟩ := Int.eq_ofNat_of_zero_le h0
  obtain ⟨j, rfl⟩ := Int.eq_ofNat_of_zero_le h2
  have : k = j := by
    apply Nat.eq_of_testBit_eq
    intro i
    by_cases hi : i < 8
    · exact h i hi
    · have e : 2 ^ 8 ≤ 2 ^ i := Nat.pow_le_pow_right (by decide) (by omega)
      rw [Nat.testBit_lt_two_pow (by omega), Nat.testBit_lt_two_pow (by omega)]
  rw [this]
theorem bt255 : ∀ v : Nat, v < 256 → ∀ c : Nat, c < 8 → (255 ^^^ v : Nat).testBit c = !v.testBit c := by decide +kernel
theorem bt_cl {w : Int} (h0 : 0 ≤ w) (h1 : w < 256) {c : Nat} (hc : c < 8) : 0 ≤ bAnd w (bXor (bShl 1 (c : Int)) (-1)) ∧ bAnd w (bXor (bShl 1 (c : Int)) (-1)) < 256 ∧ ∀ d, d < 8 → bt (bAnd w (bXor (bShl 1 (c : Int)) (-1))) d = (bt w d && !decide (d = c)) := by
  obtain ⟨k, rfl⟩ := Int.eq_ofNat_of_zero_le h0
  rw [bt_cl0 k (by omega) c hc]
  refine ⟨by omega, ?_, fun d hd => ?_⟩
  · have := Nat.and_le_left (n := k) (m := 255 ^^^ 2 ^ c)
    omega
  · unfold bt
    have h4 : 2 ^ c < 256 := Nat.pow_lt_pow_right (a := 2) (m := c) (n := 8) (by decide) hc
    rw [Int.toNat_natCast, Int.toNat_natCast, Nat.testBit_and, bt255 _ h4 d hd, Nat.testBit_two_pow]
    congr 2
    exact decide_eq_decide.mpr ⟨fun h => h.symm, fun h => h.symm⟩
theorem bt_an {w v : Int} (h0 : 0 ≤ w) (h1 : w < 256) (h2 : 0 ≤ v) (h3 : v < 256) : 0 ≤ bAnd w (bXor v (-1)) ∧ bAnd w (bXor v (-1)) < 256 ∧ ∀ d, d < 8 → bt (bAnd w (bXor v (-1))) d = (bt w d && !bt v d) := by
  obtain ⟨k, rfl⟩ := Int.eq_ofNat_of_zero_le h0
  obtain ⟨j, rfl⟩ := Int.eq_ofNat_of_zero_le h2
  rw [bt_an0 k (by omega) j (by omega)]
  refine ⟨by omega, ?_, fun d hd => ?_⟩
  · have := Nat.and_le_left (n := k) (m := 255 ^^^ j)
    omega
  · unfold bt
    rw [Int.toNat_natCast, Int.toNat_natCast, Nat.testBit_and, bt255 _ (by omega) d hd]
    rfl
theorem bt_oo {w v : Int} (h0 : 0 ≤ w) (h1 : w < 256) (h2 : 0 ≤ v) (h3 : v < 256) : 0 ≤ bOr w v ∧ bOr w v < 256 ∧ ∀ d, bt (bOr w v) d = (bt w d || bt v d) := by
  obtain ⟨k, rfl⟩ := Int.eq_ofNat_of_zero_le h0
  obtain ⟨j, rfl⟩ := Int.eq_ofNat_of_zero_le h2
  rw [bt_oo0 k (by omega) j (by omega)]
  refine ⟨by omega, ?_, fun d => ?_⟩
  · have := Nat.or_lt_two_pow (x := k) (y := j) (n := 8) (by omega) (by omega)
    omega
  · unfold bt
    rw [Int.toNat_natCast, Int.toNat_natCast, Nat.testBit_or]
    rfl
/-- the set of those below n with p -/
def mkN : Nat → (Nat → Bool) → Nat
  | 0, _ => 0
  | n + 1, p => if p n then mkN n p ||| 2 ^ n else mkN n p
def mk (n : Nat) (p : Nat → Bool) : Int := (mkN n p : Int)
theorem mkN_lt : ∀ (n : Nat) (p : Nat → Bool), mkN n p < 2 ^ n
  | 0, _ => by simp [mkN]
  | n + 1, p => by
    have ih := mkN_lt n p
    have h : 2 ^ n < 2 ^ (n + 1) := Nat.pow_lt_pow_right (by decide) (by omega)
    unfold mkN
    split
    · exact Nat.or_lt_two_pow (by omega) h
    · omega
theorem mkN_bt : ∀ (n : Nat) (p : Nat → Bool) (c : Nat), (mkN n p).testBit c = (decide (c < n) && p c)
  | 0, p, c => by simp [mkN]
  | n + 1, p, c => by
    have ih := mkN_bt n p c
    unfold mkN
    by_cases e : c = n
    · subst e
      cases hp : p c
      · simp [ih, hp]
      · simp [ih, hp, Nat.testBit_or, Nat.testBit_two_pow]
    · have e2 : decide (c < n + 1) = decide (c < n) := decide_eq_decide.mpr ⟨fun h => by omega, fun h => by omega⟩
      have e3 : (2 ^ n).testBit c = false := Nat.testBit_two_pow_of_ne (fun h => e h.symm)
      rw [e2]
      split
      · rw [Nat.testBit_or, ih, e3, Bool.or_false]
      · exact ih
theorem mk_bd {n : Nat} (hn : n ≤ 8) (p : Nat → Bool) : 0 ≤ mk n p ∧ mk n p < 256 := by
  have h1 := mkN_lt n p
  have h2 : 2 ^ n ≤ 2 ^ 8 := Nat.pow_le_pow_right (by decide) hn
  unfold mk
  omega
theorem mk_bt (n : Nat) (p : Nat → Bool) (c : Nat) : bt (mk n p) c = (decide (c < n) && p c) := by
  unfold bt mk
  rw [Int.toNat_natCast, mkN_bt]
theorem mk_0 (p : Nat → Bool) : mk 0 p = 0 := rfl
theorem mk_pos {n : Nat} (hn : n < 9) {p : Nat → Bool} (h : p n = true) : bOr (mk n p) (bShl 1 (n : Int)) = mk (n + 1) p := by
  have h1 := mkN_lt n p
  have h2 : 2 ^ n ≤ 2 ^ 8 := Nat.pow_le_pow_right (by decide) (by omega)
  have h3 : mkN n p < 512 := by omega
  have := bt_or0 (mkN n p) h3 n hn
  show bOr ((mkN n p : Nat) : Int) _ = ((mkN (n + 1) p : Nat) : Int)
  rw [this]
  conv => rhs; unfold mkN
  rw [if_pos h]
theorem mk_neg {n : Nat} {p : Nat → Bool} (h : p n = false) : mk n p = mk (n + 1) p := by
  show ((mkN n p : Nat) : Int) = ((mkN (n + 1) p : Nat) : Int)
  conv => rhs; unfold mkN
  rw [if_neg (by rw [h]; decide)]
theorem mk_eq {n : Nat} (hn : n ≤ 8) {p : Nat → Bool} {w : Int} (h0 : 0 ≤ w) (h1 : w < 256) (h : ∀ c, c < 8 → bt w c = (decide (c < n) && p c)) : w = mk n p :=
  bt_ext h0 h1 (mk_bd hn p).1 (mk_bd hn p).2 (fun c hc => by rw [h c hc, mk_bt])
theorem mk_congr {n : Nat} {p q : Nat → Bool} (h : ∀ c, c < n → p c = q c) : mk n p = mk n q := by
  have : ∀ m, m ≤ n → mkN m p = mkN m q := by
    intro m
    induction m with
    | zero => intro _; rfl
    | succ m ih =>
      intro hm
      unfold mkN
      rw [h m (by omega), ih (by omega)]
  show ((mkN n p : Nat) : Int) = ((mkN n q : Nat) : Int)
  rw [this n (Nat.le_refl n)]
/-! sums, numbers of -/
abbrev Vec : Type := Nat → Int
def up (f : Vec) (c : Nat) (v : Int) : Vec := fun k => if k = c then v else f k
theorem up_same (f : Vec) (c : Nat) (v : Int) : up f c v c = v := by simp [up]
theorem up_ne {f : Vec} {c k : Nat} {v : Int} (h : k ≠ c) : up f c v k = f k := by simp [up, h]
def sm : Nat → Vec → Int
  | 0, _ => 0
  | n + 1, f => sm n f + f n
theorem sm_congr : ∀ {n : Nat} {f g : Vec}, (∀ c, c < n → f c = g c) → sm n f = sm n g
  | 0, _, _, _ => rfl
  | n + 1, f, g, h => by
    unfold sm
    rw [sm_congr (fun c hc => h c (by omega)), h n (by omega)]
theorem sm_up : ∀ (n : Nat) (f : Vec) (c : Nat) (v : Int), sm n (up f c v) = sm n f + (if c < n then v - f c else 0)
  | 0, _, _, _ => by simp [sm]
  | n + 1, f, c, v => by
    have ih := sm_up n f c v
    unfold sm
    rw [ih]
    by_cases e : c = n
    · subst e; rw [up_same, if_neg (by omega), if_pos (by omega)]; omega
    · rw [up_ne (by omega)]
      by_cases h : c < n
      · rw [if_pos h, if_pos (by omega)]; omega
      · rw [if_neg h, if_neg (by omega)]; omega
theorem sm_nn : ∀ {n : Nat} {f : Vec}, (∀ c, c < n → 0 ≤ f c) → 0 ≤ sm n f
  | 0, _, _ => by simp [sm]
  | n + 1, f, h => by
    unfold sm
    have := sm_nn (n := n) (fun c hc => h c (by omega))
    have := h n (by omega)
    omega
theorem sm_le : ∀ {n : Nat} {f : Vec}, (∀ c, c < n → 0 ≤ f c) → ∀ c, c < n → f c ≤ sm n f
  | 0, _, _, c, hc => by omega
  | n + 1, f, h, c, hc => by
    unfold sm
    have h1 := sm_nn (n := n) (fun c hc => h c (by omega))
    have h2 := h n (by omega)
    by_cases e : c = n
    · subst e; omega
    · have := sm_le (n := n) (fun c hc => h c (by omega)) c (by omega)
      omega
theorem sm_mono : ∀ {n m : Nat} {f : Vec}, (∀ c, c < m → 0 ≤ f c) → n ≤ m → sm n f ≤ sm m f
  | n, m, f, h, hnm => by
    induction m with
    | zero => have : n = 0 := by omega
              subst this; exact Int.le_refl _
    | succ m ih =>
      by_cases e : n = m + 1
      · subst e; exact Int.le_refl _
      · have h1 := ih (fun c hc => h c (by omega)) (by omega)
        have h2 := h m (by omega)
        show sm n f ≤ sm m f + f m
        omega
theorem sm_z : ∀ (n : Nat), sm n (fun _ => 0) = 0
  | 0 => rfl
  | n + 1 => by unfold sm; rw [sm_z n]; rfl
def cn (n : Nat) (p : Nat → Bool) : Int := sm n (fun c => if p c then 1 else 0)
theorem cn_nn (n : Nat) (p : Nat → Bool) : 0 ≤ cn n p := sm_nn (fun c _ => by split <;> omega)
theorem cn_le (n : Nat) (p : Nat → Bool) : cn n p ≤ n := by
  unfold cn
  induction n with
  | zero => simp [sm]
  | succ n ih =>
    have : (if p n then (1 : Int) else 0) ≤ 1 := by split <;> omega
    show sm n (fun c => if p c then 1 else 0) + (if p n then (1 : Int) else 0) ≤ _
    omega
theorem cn_congr {n : Nat} {p q : Nat → Bool} (h : ∀ c, c < n → p c = q c) : cn n p = cn n q := sm_congr (fun c hc => by rw [h c hc])
theorem cn_0 {n : Nat} {p : Nat → Bool} (h : cn n p ≤ 0) : ∀ c, c < n → p c = false := by
  intro c hc
  have h1 := sm_le (n := n) (f := fun c => if p c then 1 else 0) (fun c _ => by split <;> omega) c hc
  unfold cn at h
  cases hp : p c
  · rfl
  · rw [hp, if_pos rfl] at h1; omega
theorem cn_z {n : Nat} {p : Nat → Bool} (h : ∀ c, c < n → p c = false) : cn n p = 0 := by
  unfold cn
  rw [sm_congr (g := fun _ => 0) (fun c hc => by rw [h c hc]; rfl), sm_z]
theorem cn_ex {n : Nat} {p : Nat → Bool} (h : 0 < cn n p) : ∃ c, c < n ∧ p c = true := by
  by_cases e : ∃ c, c < n ∧ p c = true
  · exact e
  · rw [cn_z (fun c hc => by cases hp : p c <;> first | rfl | exact absurd ⟨c, hc, hp⟩ e)] at h
    omega
theorem cn_pos {n : Nat} {p : Nat → Bool} {c : Nat} (hc : c < n) (h : p c = true) : 0 < cn n p := by
  have h1 := sm_le (n := n) (f := fun c => if p c then 1 else 0) (fun c _ => by split <;> omega) c hc
  rw [h, if_pos rfl] at h1
  unfold cn
  omega
/-- one more, one less -/
theorem cn_add {n : Nat} {p q : Nat → Bool} {c : Nat} (hc : c < n) (h1 : p c = false) (h2 : q c = true) (h : ∀ d, d < n → d ≠ c → q d = p d) : cn n q = cn n p + 1 := by
  have e : cn n q = sm n (up (fun c => if p c then 1 else 0) c 1) := sm_congr (fun d hd => by
    by_cases e : d = c
    · subst e; rw [up_same, h2]; rfl
    · rw [up_ne e, h d hd e])
  rw [e, sm_up, if_pos hc]
  rw [h1]
  unfold cn
  simp
theorem mul_bd {a b A B : Int} (h0 : 0 ≤ a) (h1 : a ≤ A) (h2 : 0 ≤ b) (h3 : b ≤ B) : 0 ≤ a * b ∧ a * b ≤ A * B :=
  ⟨Int.mul_nonneg h0 h2, Int.le_trans (Int.mul_le_mul_of_nonneg_right h1 h2) (Int.mul_le_mul_of_nonneg_left h3 (by omega))⟩
end
end
section
section
/-! orders by several numbers, one behind the other -/
def lx : List Vec → Nat → Nat → Bool
  | [], _, _ => false
  | v :: r, c, d => decide (v c < v d) || (decide (v c = v d) && lx r c d)
theorem lx_cons {v : Vec} {r : List Vec} {c d : Nat} : lx (v :: r) c d = true ↔ v c < v d ∨ (v c = v d ∧ lx r c d = true) := by
  simp [lx]
theorem lx_asym : ∀ {vs : List Vec} {c d : Nat}, lx vs c d = true → lx vs d c = false
  | [], _, _, h => by simp [lx] at h
  | v :: r, c, d, h => by
    rcases lx_cons.mp h with h1 | ⟨h1, h2⟩
    · cases e : lx (v :: r) d c
      · rfl
      · rcases lx_cons.mp e with h3 | ⟨h3, _⟩ <;> omega
    · have ih := lx_asym h2
      cases e : lx (v :: r) d c
      · rfl
      · rcases lx_cons.mp e with h3 | ⟨_, h4⟩
        · omega
        · rw [ih] at h4; cases h4
theorem lx_irr (vs : List Vec) (c : Nat) : lx vs c c = false := by
  cases e : lx vs c c
  · rfl
  · have := lx_asym e; rw [e] at this; cases this
theorem lx_trans : ∀ {vs : List Vec} {a b c : Nat}, lx vs a b = true → lx vs b c = true → lx vs a c = true
  | [], _, _, _, h, _ => by simp [lx] at h
  | v :: r, a, b, c, h, h' => by
    rcases lx_cons.mp h with h1 | ⟨h1, h2⟩ <;> rcases lx_cons.mp h' with h3 | ⟨h3, h4⟩
    · exact lx_cons.mpr (Or.inl (by omega))
    · exact lx_cons.mpr (Or.inl (by omega))
    · exact lx_cons.mpr (Or.inl (by omega))
    · exact lx_cons.mpr (Or.inr ⟨by omega, lx_trans h2 h4⟩)
def Tot (n : Nat) (vs : List Vec) : Prop := ∀ c d, c < n → d < n → c ≠ d → lx vs c d = true ∨ lx vs d c = true
theorem Tot.one {n : Nat} {v : Vec} (h : ∀ c d, c < n → d < n → v c = v d → c = d) : Tot n [v] := fun c d hc hd hne => by
  by_cases e : v c < v d
  · exact Or.inl (lx_cons.mpr (Or.inl e))
  · have : v c ≠ v d := fun e => hne (h c d hc hd e)
    exact Or.inr (lx_cons.mpr (Or.inl (by omega)))
theorem Tot.cons {n : Nat} {vs : List Vec} (v : Vec) (h : Tot n vs) : Tot n (v :: vs) := fun c d hc hd hne => by
  by_cases e : v c = v d
  · rcases h c d hc hd hne with h1 | h1
    · exact Or.inl (lx_cons.mpr (Or.inr ⟨e, h1⟩))
    · exact Or.inr (lx_cons.mpr (Or.inr ⟨e.symm, h1⟩))
  · by_cases e2 : v c < v d
    · exact Or.inl (lx_cons.mpr (Or.inl e2))
    · exact Or.inr (lx_cons.mpr (Or.inl (by omega)))
theorem Tot.app {n : Nat} {vs : List Vec} (h : Tot n vs) : ∀ us : List Vec, Tot n (us ++ vs)
  | [] => h
  | u :: us => (Tot.app h us).cons u
theorem lx_no {n : Nat} {vs : List Vec} (h : Tot n vs) {c d : Nat} (hc : c < n) (hd : d < n) (hne : c ≠ d) (hn : ¬ lx vs c d = true) : lx vs d c = true := (h c d hc hd hne).resolve_left hn
theorem lx_congr : ∀ {vs us : List Vec} {n : Nat}, (∀ (k : Nat) (v u : Vec), vs[k]? = some v → us[k]? = some u → ∀ c, c < n → v c = u c) → vs.length = us.length → ∀ c d, c < n → d < n → lx vs c d = lx us c d
  | [], [], _, _, _, _, _, _, _ => rfl
  | [], _ :: _, _, _, hl, _, _, _, _ => by simp at hl
  | _ :: _, [], _, _, hl, _, _, _, _ => by simp at hl
  | v :: vs, u :: us, n, h, hl, c, d, hc, hd => by
    have h0 := h 0 v u rfl rfl
    have ih := lx_congr (vs := vs) (us := us) (n := n) (fun k v u hv hu => h (k + 1) v u (by simpa using hv) (by simpa using hu)) (by simpa using hl) c d hc hd
    unfold lx
    rw [h0 c hc, h0 d hd, ih]
/-- the least of a set -/
def IsMin (n : Nat) (vs : List Vec) (w : Nat → Bool) (c : Nat) : Prop := c < n ∧ w c = true ∧ ∀ d, d < n → w d = true → d ≠ c → lx vs c d = true
theorem IsMin.uniq {n : Nat} {vs : List Vec} {w : Nat → Bool} {c d : Nat} (h : IsMin n vs w c) (h2 : IsMin n vs w d) : c = d := by
  by_cases e : c = d
  · exact e
  · have h3 := h.2.2 d h2.1 h2.2.1 (fun e2 => e e2.symm)
    have h4 := h2.2.2 c h.1 h.2.1 e
    rw [lx_asym h3] at h4
    cases h4
theorem IsMin.congr {n : Nat} {vs : List Vec} {w w' : Nat → Bool} {c : Nat} (hw : ∀ d, d < n → w d = w' d) (h : IsMin n vs w c) : IsMin n vs w' c :=
  ⟨h.1, (hw c h.1) ▸ h.2.1, fun d hd hwd => h.2.2 d hd ((hw d hd).symm ▸ hwd)⟩
def scan : Nat → List Vec → (Nat → Bool) → Option Nat
  | 0, _, _ => none
  | n + 1, vs, w => if w n then (match scan n vs w with
    | none => some n
    | some b => if lx vs n b then some n else some b) else scan n vs w
theorem scan_none : ∀ {n : Nat} {vs : List Vec} {w : Nat → Bool}, scan n vs w = none → ∀ c, c < n → w c = false
  | 0, _, _, _, c, hc => by omega
  | n + 1, vs, w, h, c, hc => by
    unfold scan at h
    cases e : w n
    · rw [if_neg (by rw [e]; decide)] at h
      by_cases e2 : c = n
      · subst e2; exact e
      · exact scan_none h c (by omega)
    · rw [if_pos e] at h
      cases e3 : scan n vs w with
      | none => rw [e3] at h; cases h
      | some b =>
        rw [e3] at h
        dsimp only at h
        split at h <;> cases h
theorem scan_some : ∀ {n : Nat} {vs : List Vec} {w : Nat → Bool} {c : Nat}, Tot n vs → scan n vs w = some c → IsMin n vs w c
  | 0, _, _, _, _, h => by cases h
  | n + 1, vs, w, c, ht, h => by
    have ht' : Tot n vs := fun a b ha hb hne => ht a b (by omega) (by omega) hne
    unfold scan at h
    cases e : w n
    · rw [if_neg (by rw [e]; decide)] at h
      have ih := scan_some ht' h
      refine ⟨by have := ih.1; omega, ih.2.1, fun d hd hwd hne => ?_⟩
      by_cases e2 : d = n
      · subst e2; rw [e] at hwd; cases hwd
      · exact ih.2.2 d (by omega) hwd hne
    · rw [if_pos e] at h
      cases e3 : scan n vs w with
      | none =>
        rw [e3] at h
        cases h
        refine ⟨by omega, e, fun d hd hwd hne => ?_⟩
        have := scan_none e3 d (by omega)
        rw [this] at hwd; cases hwd
      | some b =>
        rw [e3] at h
        have ih := scan_some ht' e3
        dsimp only at h
        split at h
        · rename_i hl
          cases h
          refine ⟨by omega, e, fun d hd hwd hne => ?_⟩
          by_cases e4 : d = b
          · subst e4; exact hl
          · exact lx_trans hl (ih.2.2 d (by omega) hwd e4)
        · rename_i hl
          cases h
          refine ⟨by have := ih.1; omega, ih.2.1, fun d hd hwd hne => ?_⟩
          by_cases e4 : d = n
          · subst e4
            exact lx_no ht (by omega) (by have := ih.1; omega) hne hl
          · exact ih.2.2 d (by omega) hwd hne
theorem scan_min {n : Nat} {vs : List Vec} {w : Nat → Bool} {c : Nat} (ht : Tot n vs) (h : IsMin n vs w c) : scan n vs w = some c := by
  cases e : scan n vs w with
  | none => have := scan_none e c h.1; rw [h.2.1] at this; cases this
  | some d => rw [(scan_some ht e).uniq h]
theorem scan_no {n : Nat} {vs : List Vec} {w : Nat → Bool} (ht : Tot n vs) (h : ∀ c, c < n → w c = false) : scan n vs w = none := by
  cases e : scan n vs w with
  | none => rfl
  | some d => have h1 := scan_some ht e; have h2 := h d h1.1; rw [h1.2.1] at h2; cases h2
theorem scan_congr {n : Nat} {vs : List Vec} {w w' : Nat → Bool} (ht : Tot n vs) (h : ∀ c, c < n → w c = w' c) : scan n vs w = scan n vs w' := by
  cases e : scan n vs w with
  | none => rw [scan_no ht (fun c hc => by rw [← h c hc]; exact scan_none e c hc)]
  | some d => rw [scan_min ht ((scan_some ht e).congr h)]
/-- sorted -/
def wo (w : Nat → Bool) (c : Nat) : Nat → Bool := fun d => w d && !decide (d = c)
def srt : Nat → Nat → List Vec → (Nat → Bool) → List Nat
  | 0, _, _, _ => []
  | k + 1, n, vs, w => match scan n vs w with
    | none => []
    | some c => c :: srt k n vs (wo w c)
theorem wo_same (w : Nat → Bool) (c : Nat) : wo w c c = false := by simp [wo]
theorem wo_ne {w : Nat → Bool} {c d : Nat} (h : d ≠ c) : wo w c d = w d := by simp [wo, h]
theorem srt_none {k n : Nat} {vs : List Vec} {w : Nat → Bool} (h : scan n vs w = none) : srt (k + 1) n vs w = [] := by simp only [srt, h]
theorem srt_some {k n : Nat} {vs : List Vec} {w : Nat → Bool} {c : Nat} (h : scan n vs w = some c) : srt (k + 1) n vs w = c :: srt k n vs (wo w c) := by simp only [srt, h]
theorem srt_sub : ∀ {k n : Nat} {vs : List Vec} {w : Nat → Bool} {c : Nat}, Tot n vs → c ∈ srt k n vs w → c < n ∧ w c = true
  | 0, _, _, _, _, _, h => by cases h
  | k + 1, n, vs, w, c, ht, h => by
    cases e : scan n vs w with
    | none => rw [srt_none e] at h; cases h
    | some b =>
      have hm := scan_some ht e
      rw [srt_some e] at h
      rcases List.mem_cons.mp h with h | h
      · subst h; exact ⟨hm.1, hm.2.1⟩
      · have := srt_sub ht h
        refine ⟨this.1, ?_⟩
        have h2 := this.2
        unfold wo at h2
        exact (Bool.and_eq_true_iff.mp h2).1
abbrev Sd (vs : List Vec) (L : List Nat) : Prop := L.Pairwise (fun c d => lx vs c d = true)
theorem srt_sd : ∀ {k n : Nat} {vs : List Vec} {w : Nat → Bool}, Tot n vs → Sd vs (srt k n vs w)
  | 0, _, _, _, _ => List.Pairwise.nil
  | k + 1, n, vs, w, ht => by
    cases e : scan n vs w with
    | none => rw [srt_none e]; exact List.Pairwise.nil
    | some b =>
      have hm := scan_some ht e
      rw [srt_some e]
      refine List.Pairwise.cons (fun d hd => ?_) (srt_sd ht)
      have := srt_sub ht hd
      have hne : d ≠ b := fun e2 => by rw [e2, wo_same] at this; cases this.2
      rw [wo_ne hne] at this
      exact hm.2.2 d this.1 this.2 hne
theorem cn_wo {n : Nat} {w : Nat → Bool} {c : Nat} (hc : c < n) (h : w c = true) : cn n w = cn n (wo w c) + 1 := cn_add hc (wo_same w c) h (fun _ _ hne => (wo_ne hne).symm)
theorem srt_mem : ∀ {k n : Nat} {vs : List Vec} {w : Nat → Bool} {c : Nat}, Tot n vs → cn n w ≤ k → c < n → w c = true → c ∈ srt k n vs w
  | 0, n, vs, w, c, ht, hk, hc, hw => by
    have := cn_0 hk c hc
    rw [hw] at this; cases this
  | k + 1, n, vs, w, c, ht, hk, hc, hw => by
    cases e : scan n vs w with
    | none => have := scan_none e c hc; rw [hw] at this; cases this
    | some b =>
      have hm := scan_some ht e
      rw [srt_some e]
      by_cases e2 : c = b
      · subst e2; exact List.mem_cons_self
      · refine List.mem_cons_of_mem _ (srt_mem ht ?_ hc (by rw [wo_ne e2]; exact hw))
        have := cn_wo hm.1 hm.2.1
        omega
theorem srt_len : ∀ {k n : Nat} {vs : List Vec} {w : Nat → Bool}, Tot n vs → ((srt k n vs w).length : Int) = if cn n w ≤ k then cn n w else k
  | 0, n, vs, w, ht => by
    have := cn_nn n w
    simp only [srt, List.length_nil]
    split <;> omega
  | k + 1, n, vs, w, ht => by
    cases e : scan n vs w with
    | none =>
      rw [srt_none e, cn_z (scan_none e)]
      simp
      omega
    | some b =>
      have hm := scan_some ht e
      have ih := srt_len (k := k) (w := wo w b) ht
      have h1 := cn_wo hm.1 hm.2.1
      rw [srt_some e, List.length_cons]
      by_cases h2 : cn n (wo w b) ≤ k
      · rw [if_pos h2] at ih; rw [if_pos (by omega)]; omega
      · rw [if_neg h2] at ih; rw [if_neg (by omega)]; omega
theorem srt_nd {k n : Nat} {vs : List Vec} {w : Nat → Bool} (ht : Tot n vs) : (srt k n vs w).Nodup := by
  refine (srt_sd ht).imp (fun {a b} h e => ?_)
  subst e
  rw [lx_irr] at h
  cases h
theorem sd_uniq : ∀ {vs : List Vec} {A B : List Nat}, Sd vs A → Sd vs B → (∀ c, c ∈ A ↔ c ∈ B) → A = B
  | _, [], [], _, _, _ => rfl
  | _, [], b :: B, _, _, h => by have := (h b).mpr List.mem_cons_self; cases this
  | _, a :: A, [], _, _, h => by have := (h a).mp List.mem_cons_self; cases this
  | vs, a :: A, b :: B, hA, hB, h => by
    have hA' := List.pairwise_cons.mp hA
    have hB' := List.pairwise_cons.mp hB
    have e : a = b := by
      rcases List.mem_cons.mp ((h a).mp List.mem_cons_self) with h1 | h1
      · exact h1
      · rcases List.mem_cons.mp ((h b).mpr List.mem_cons_self) with h2 | h2
        · exact h2.symm
        · have h3 := hB'.1 a h1
          have h4 := hA'.1 b h2
          rw [lx_asym h3] at h4; cases h4
    subst e
    have : A = B := sd_uniq hA'.2 hB'.2 (fun c => ⟨fun hc => by
      rcases List.mem_cons.mp ((h c).mp (List.mem_cons_of_mem _ hc)) with h1 | h1
      · subst h1; have := hA'.1 c hc; rw [lx_irr] at this; cases this
      · exact h1, fun hc => by
      rcases List.mem_cons.mp ((h c).mpr (List.mem_cons_of_mem _ hc)) with h1 | h1
      · subst h1; have := hB'.1 c hc; rw [lx_irr] at this; cases this
      · exact h1⟩)
    rw [this]
theorem srt_uniq {k n : Nat} {vs : List Vec} {w : Nat → Bool} {A : List Nat} (ht : Tot n vs) (hk : cn n w ≤ k) (hA : Sd vs A) (h : ∀ c, c ∈ A ↔ c < n ∧ w c = true) : A = srt k n vs w :=
  sd_uniq hA (srt_sd ht) (fun c => ⟨fun hc => srt_mem ht hk ((h c).mp hc).1 ((h c).mp hc).2, fun hc => (h c).mpr (srt_sub ht hc)⟩)
theorem srt_congr : ∀ {k n : Nat} {vs : List Vec} {w w' : Nat → Bool}, Tot n vs → (∀ c, c < n → w c = w' c) → srt k n vs w = srt k n vs w'
  | 0, _, _, _, _, _, _ => rfl
  | k + 1, n, vs, w, w', ht, h => by
    have e2 := scan_congr ht h
    cases e : scan n vs w with
    | none => rw [srt_none e, srt_none (e2 ▸ e)]
    | some c =>
      rw [srt_some e, srt_some (e2 ▸ e), srt_congr ht (w := wo w c) (w' := wo w' c) (fun d hd => by unfold wo; rw [h d hd])]
theorem srt_get : ∀ {i k n : Nat} {vs : List Vec} {w : Nat → Bool}, i < k → (srt k n vs w)[i]? = (srt (i + 1) n vs w)[i]?
  | 0, k + 1, n, vs, w, _ => by
    cases e : scan n vs w with
    | none => rw [srt_none e, srt_none e]
    | some c => rw [srt_some e, srt_some e]; rfl
  | i + 1, k + 1, n, vs, w, h => by
    cases e : scan n vs w with
    | none => rw [srt_none e, srt_none e]
    | some c =>
      rw [srt_some e, srt_some e, List.getElem?_cons_succ, List.getElem?_cons_succ]
      exact srt_get (by omega)
/-- put in its place -/
theorem sd_ins {vs : List Vec} {L : List Nat} {c k : Nat} (h : Sd vs L) (hk : k ≤ L.length) (h1 : ∀ j (hj : j < L.length), k ≤ j → lx vs c L[j] = true) (h2 : ∀ j (hj : j < L.length), j < k → lx vs L[j] c = true) : Sd vs (L.take k ++ c :: L.drop k) := by
  refine List.pairwise_append.mpr ⟨h.sublist (List.take_sublist k L), List.Pairwise.cons (fun d hd => ?_) (h.sublist (List.drop_sublist k L)), fun a ha b hb => ?_⟩
  · obtain ⟨j, hj, e⟩ := List.getElem_of_mem hd
    rw [List.getElem_drop] at e
    rw [← e]
    exact h1 _ _ (by omega)
  · obtain ⟨j, hj, e⟩ := List.getElem_of_mem ha
    rw [List.length_take] at hj
    rw [List.getElem_take] at e
    rcases List.mem_cons.mp hb with e2 | e2
    · subst e2; rw [← e]; exact h2 _ _ (by omega)
    · obtain ⟨i, hi, e3⟩ := List.getElem_of_mem e2
      rw [List.length_drop] at hi
      rw [List.getElem_drop] at e3
      rw [← e, ← e3]
      exact List.pairwise_iff_getElem.mp h _ _ _ _ (by omega)
theorem mem_ins {L : List Nat} {c k d : Nat} : d ∈ L.take k ++ c :: L.drop k ↔ d = c ∨ d ∈ L := by
  conv => rhs; rw [← List.take_append_drop k L]
  simp only [List.mem_append, List.mem_cons]
  constructor
  · rintro (h | h | h)
    · exact Or.inr (Or.inl h)
    · exact Or.inl h
    · exact Or.inr (Or.inr h)
  · rintro (h | h | h)
    · exact Or.inr (Or.inl h)
    · exact Or.inl h
    · exact Or.inr (Or.inr h)
/-- first the least by the first number, then those among them -/
def fl (n : Nat) (v : Vec) (w : Nat → Bool) : Nat → Bool := fun c => w c && decide (∀ d, d < n → w d = true → v c ≤ v d)
theorem fl_iff {n : Nat} {v : Vec} {w : Nat → Bool} {c : Nat} : fl n v w c = true ↔ w c = true ∧ ∀ d, d < n → w d = true → v c ≤ v d := by simp [fl]
theorem fl_min {n : Nat} {v : Vec} {vs : List Vec} {w : Nat → Bool} {c : Nat} : IsMin n (v :: vs) w c ↔ IsMin n vs (fl n v w) c := by
  constructor
  · intro h
    have hle : ∀ d, d < n → w d = true → v c ≤ v d := fun d hd hw => by
      by_cases e : d = c
      · subst e; omega
      · rcases lx_cons.mp (h.2.2 d hd hw e) with h1 | h1 <;> omega
    refine ⟨h.1, fl_iff.mpr ⟨h.2.1, hle⟩, fun d hd hw hne => ?_⟩
    have h2 := fl_iff.mp hw
    rcases lx_cons.mp (h.2.2 d hd h2.1 hne) with h1 | h1
    · have := h2.2 c h.1 h.2.1; omega
    · exact h1.2
  · intro h
    have h2 := fl_iff.mp h.2.1
    refine ⟨h.1, h2.1, fun d hd hw hne => ?_⟩
    have h3 := h2.2 d hd hw
    by_cases e : v c = v d
    · exact lx_cons.mpr (Or.inr ⟨e, h.2.2 d hd (fl_iff.mpr ⟨hw, fun x hx hwx => by have := h2.2 x hx hwx; omega⟩) hne⟩)
    · exact lx_cons.mpr (Or.inl (by omega))
end
end
section
section
/-! memory -/
theorem wrn {M : Mem} {a j b : Nat} {v : Int} (h : b ≠ a) : wr M a j v b = M b := by
  funext k
  simp [wr, h]
theorem wre (M : Mem) (a j : Nat) (v : Int) : wr M a j v a = up (M a) j v := by
  funext k
  simp [wr, up]
theorem wra (M : Mem) (a j : Nat) (v : Int) : wr M a j v a j = v := by simp [wr]
theorem wrk {M : Mem} {a j k : Nat} {v : Int} (b : Nat) (h : k ≠ j) : wr M a j v b k = M b k := by simp [wr, h]
def shf (S : Nat → Bool) (i s : Nat) (M : Mem) : Mem := fun b j => if S b = true ∧ i < j ∧ j ≤ s then M b (j - 1) else M b j
theorem shf_0 (S : Nat → Bool) (s : Nat) (M : Mem) : shf S s s M = M := by
  funext b j
  unfold shf
  rw [if_neg (by omega)]
theorem shf_ne {S : Nat → Bool} {i s : Nat} {M : Mem} {b : Nat} (h : S b = false) : shf S i s M b = M b := by
  funext j
  unfold shf
  rw [if_neg (by rw [h]; simp)]
/-! piles -/
abbrev PIL : Type := List (List Int × Int)
def ins (l : List Int) (m : Int) : PIL → PIL
  | [] => [(l, m)]
  | p :: r => if fill p.1 < fill l then p :: ins l m r else if fill p.1 = fill l then (p.1, p.2 + m) :: r else (l, m) :: p :: r
theorem ins_new {l : List Int} {m : Int} : ∀ (k : Nat) (pl : PIL), k ≤ pl.length → (∀ j q, j < k → pl[j]? = some q → fill q.1 < fill l) → (∀ q, pl[k]? = some q → fill l < fill q.1) → ins l m pl = pl.take k ++ (l, m) :: pl.drop k
  | 0, [], _, _, _ => rfl
  | 0, p :: r, _, _, h2 => by
    have := h2 p rfl
    unfold ins
    rw [if_neg (by omega), if_neg (by omega)]
    rfl
  | k + 1, [], h, _, _ => by simp at h
  | k + 1, p :: r, h, h1, h2 => by
    have h3 := h1 0 p (by omega) rfl
    unfold ins
    rw [if_pos h3, ins_new k r (by simpa using h) (fun j q hj hq => h1 (j + 1) q (by omega) (by simpa using hq)) (fun q hq => h2 q (by simpa using hq))]
    rfl
theorem ins_old {l : List Int} {m : Int} : ∀ (k : Nat) (pl : PIL) (q : List Int × Int), pl[k]? = some q → (∀ j q, j < k → pl[j]? = some q → fill q.1 < fill l) → fill q.1 = fill l → ins l m pl = pl.set k (q.1, q.2 + m)
  | 0, [], _, h, _, _ => by simp at h
  | 0, p :: r, q, h, _, h2 => by
    simp only [List.getElem?_cons_zero, Option.some.injEq] at h
    subst h
    unfold ins
    rw [if_neg (by omega), if_pos h2]
    rfl
  | k + 1, [], _, h, _, _ => by simp at h
  | k + 1, p :: r, q, h, h1, h2 => by
    have h3 := h1 0 p (by omega) rfl
    unfold ins
    rw [if_pos h3, ins_old k r q (by simpa using h) (fun j q hj hq => h1 (j + 1) q (by omega) (by simpa using hq)) h2]
    rfl
theorem take_get {α : Type} {pl : List α} {x : α} {k : Nat} (hk : k ≤ pl.length) (j : Nat) : (pl.take k ++ x :: pl.drop k)[j]? = if j < k then pl[j]? else if j = k then some x else pl[j - 1]? := by
  have hl : (pl.take k).length = k := by rw [List.length_take]; omega
  by_cases h1 : j < k
  · rw [if_pos h1, List.getElem?_append_left (by omega), List.getElem?_take, if_pos h1]
  · rw [if_neg h1, List.getElem?_append_right (by omega), hl]
    by_cases h2 : j = k
    · rw [if_pos h2, h2, Nat.sub_self]; rfl
    · rw [if_neg h2]
      obtain ⟨i, hi⟩ : ∃ i, j - k = i + 1 := ⟨j - k - 1, by omega⟩
      rw [hi, List.getElem?_cons_succ, List.getElem?_drop]
      congr 1
      omega
def sp : PIL → Int
  | [] => 0
  | p :: r => p.2 + sp r
theorem sp_ins (l : List Int) (m : Int) : ∀ (pl : PIL), sp (ins l m pl) = sp pl + m
  | [] => by simp [ins, sp]
  | p :: r => by
    unfold ins
    split
    · show p.2 + sp (ins l m r) = p.2 + sp r + m
      rw [sp_ins l m r]; omega
    · split
      · show p.2 + m + sp r = p.2 + sp r + m
        omega
      · show m + (p.2 + sp r) = p.2 + sp r + m
        omega
theorem len_ins (l : List Int) (m : Int) : ∀ (pl : PIL), (ins l m pl).length ≤ pl.length + 1
  | [] => by simp [ins]
  | p :: r => by
    have := len_ins l m r
    unfold ins
    split
    · simp only [List.length_cons]; omega
    · split <;> simp only [List.length_cons] <;> omega
/-- what holds of each pile -/
def pgood (n : Nat) (q : List Int × Int) : Prop := rl q.1 ∧ q.1 ≠ [] ∧ (∀ d ∈ q.1, d ≤ (n : Int)) ∧ 0 < q.2
theorem pgood_ins {n : Nat} {l : List Int} {m : Int} (h : pgood n (l, m)) : ∀ {pl : PIL}, (∀ q ∈ pl, pgood n q) → ∀ q ∈ ins l m pl, pgood n q
  | [], _, q, hq => by simp [ins] at hq; subst hq; exact h
  | p :: r, hp, q, hq => by
    have h1 := hp p List.mem_cons_self
    have h2 : ∀ q ∈ r, pgood n q := fun q hq => hp q (List.mem_cons_of_mem _ hq)
    unfold ins at hq
    split at hq
    · rcases List.mem_cons.mp hq with e | e
      · subst e; exact h1
      · exact pgood_ins h h2 q e
    · split at hq
      · rcases List.mem_cons.mp hq with e | e
        · subst e; exact ⟨h1.1, h1.2.1, h1.2.2.1, by have := h1.2.2.2; have := h.2.2.2; dsimp only at *; omega⟩
        · exact h2 q e
      · rcases List.mem_cons.mp hq with e | e
        · subst e; exact h
        · exact hp q e
theorem sp_le {pl : PIL} (h : ∀ q ∈ pl, 0 < q.2) : ∀ q ∈ pl, q.2 ≤ sp pl := by
  induction pl with
  | nil => intro q hq; cases hq
  | cons p r ih =>
    have h2 : ∀ q ∈ r, 0 < q.2 := fun q hq => h q (List.mem_cons_of_mem _ hq)
    have hnn : ∀ (r : PIL), (∀ q ∈ r, 0 < q.2) → 0 ≤ sp r := by
      intro r
      induction r with
      | nil => intro _; exact Int.le_refl 0
      | cons a r ih => intro h; have := h a List.mem_cons_self; have := ih (fun q hq => h q (List.mem_cons_of_mem _ hq)); show 0 ≤ a.2 + sp r; omega
    intro q hq
    show q.2 ≤ p.2 + sp r
    have h3 := h p List.mem_cons_self
    have h4 := hnn r h2
    rcases List.mem_cons.mp hq with e | e
    · subst e; omega
    · have := ih h2 q e; omega
/-- the rows of a class's Piles at a -/
def PAc (M : Mem) (a : Nat) (pl : PIL) : Prop := M a 0 = pl.length ∧ ∀ j q, pl[j]? = some q → M (a + 2) j = fill q.1 ∧ M (a + 3) j = q.2
def PAm (M : Mem) (a : Nat) (pl : PIL) : Prop := M a 18 = pl.length ∧ ∀ j q, pl[j]? = some q → M (a + 20) j = num q.1 ∧ M (a + 21) j = fill q.1 ∧ M (a + 22) j = q.2
theorem getq {α : Type} {pl : List α} {j : Nat} (h : j < pl.length) : ∃ q, pl[j]? = some q := ⟨pl[j], List.getElem?_eq_getElem h⟩
theorem getq_lt {α : Type} {pl : List α} {j : Nat} {q : α} (h : pl[j]? = some q) : j < pl.length := (List.getElem?_eq_some_iff.mp h).1
theorem put_l2 {a : Nat} {key m : Int} {M : Mem} {s : Nat} (hs : M a 0 = s) (h25 : s < 25) : ∀ (n i : Nat), i ≤ s → s < n + i → (∀ j, j < i → M (a + 2) j < key) → Ok (fX0_put_l2 a key m n i M) (fun q => q.2 = M ∧ ∃ k : Nat, q.1 = k ∧ k ≤ s ∧ (∀ j, j < k → M (a + 2) j < key) ∧ (k < s → key ≤ M (a + 2) k)) := by
  intro n
  induction n with
  | zero => intros; omega
  | succ n ih =>
    intro i h1 h2 hb
    unfold fX0_put_l2
    rw [hs]
    refine ok_ite (fun hc => ok_some ⟨rfl, i, rfl, h1, hb, fun h => by omega⟩) (fun hc => ?_)
    (first | with_reducible refine ok_nm0 ?_ | (with_reducible refine ok_chk ?_ ?_; · omega) | (with_reducible refine ok_if ?_ ?_; · omega) | (with_reducible refine ok_el ?_ ?_; · omega) | with_reducible refine ok_some ?_ | with_reducible refine ok_bi ?_ | with_reducible refine ok_bsm ?_)
    rw [tn]
    refine ok_ite (fun hq => ok_some ⟨rfl, i, rfl, h1, hb, fun _ => hq⟩) (fun hq => ?_)
    (first | with_reducible refine ok_nm0 ?_ | (with_reducible refine ok_chk ?_ ?_; · omega) | (with_reducible refine ok_if ?_ ?_; · omega) | (with_reducible refine ok_el ?_ ?_; · omega) | with_reducible refine ok_some ?_ | with_reducible refine ok_bi ?_ | with_reducible refine ok_bsm ?_)
    refine ih (i + 1) (by omega) (by omega) (fun j hj => ?_)
    by_cases e : j = i
    · subst e; omega
    · exact hb j (by omega)
theorem put_l75 {a k s : Nat} {key m : Int} {M0 : Mem} (h25 : s < 25) : ∀ (n i : Nat) (M : Mem), k ≤ i → i ≤ s → i < n + k → M = shf (fun b => decide (b = a + 2) || decide (b = a + 3)) i s M0 → Ok (fX0_put_l75 a key m k n i M) (fun q => q.2 = shf (fun b => decide (b = a + 2) || decide (b = a + 3)) k s M0) := by
  intro n
  induction n with
  | zero => intros; omega
  | succ n ih =>
    intro i M h1 h2 h3 hM
    unfold fX0_put_l75
    refine ok_ite (fun hc => ok_some ?_) (fun hc => ?_)
    · have : i = k := by omega
      subst this; exact hM
    · obtain ⟨i, rfl⟩ : ∃ i', i = i' + 1 := ⟨i - 1, by omega⟩
      (repeat (first | with_reducible refine ok_nm0 ?_ | (with_reducible refine ok_chk ?_ ?_; · omega) | (with_reducible refine ok_if ?_ ?_; · omega) | (with_reducible refine ok_el ?_ ?_; · omega) | with_reducible refine ok_some ?_ | with_reducible refine ok_bi ?_ | with_reducible refine ok_bsm ?_)); try dsimp only
      rw [show ((i + 1 : Nat) : Int) + -1 = (i : Int) by omega]
      refine ih i _ (by omega) (by omega) (by omega) ?_
      rw [show ((i + 1 : Nat) : Int) - 1 = (i : Int) by omega, tn, tn, hM]
      funext b j
      simp only [wr, shf]
      grind
theorem fill_pos {l : List Int} (h : rl l) (hn : l ≠ []) : 0 < fill l := by
  have h1 := rep_bd h hn (j := 8 - l.length)
  have := ten_pos (l.length + (8 - l.length) - 1)
  unfold fill pad
  omega
theorem num_posn {l : List Int} (h : rl l) (hn : l ≠ []) : 0 < num l := by
  have h1 := num_pos (fun d hd => (h.1 d hd).1) h.gl hn
  have := ten_pos (l.length - 1)
  omega
theorem put_ok {a : Nat} {pl : PIL} {l : List Int} {m : Int} {M : Mem} (hp : PAc M a pl) (h25 : pl.length < 25) (hb : ∀ q ∈ pl, 0 ≤ q.2 ∧ q.2 + m ≤ 2147483647) (hm : 0 ≤ m) : Ok (fX0_put a (fill l) m M) (fun q => PAc q.2 a (ins l m pl) ∧ ∀ b, b ≠ a → b ≠ a + 2 → b ≠ a + 3 → q.2 b = M b) := by
  unfold fX0_put
  refine ok_by (put_l2 hp.1 h25 1000 0 (by omega) (by omega) (fun j hj => by omega)) (fun q hq => ?_)
  obtain ⟨e2, k, e1, hk, h1, h2⟩ := hq
  have h1' : ∀ j q, j < k → pl[j]? = some q → fill q.1 < fill l := fun j q hj hq => by have := h1 j hj; rw [(hp.2 j q hq).1] at this; exact this
  rw [e1, e2, hp.1]
  refine ok_bind ?_
  have new : (∀ q, pl[k]? = some q → fill l < fill q.1) → ∀ q : Mem, q = shf (fun b => decide (b = a + 2) || decide (b = a + 3)) k pl.length M → PAc (wr (wr (wr q (a + 2) k (fill l)) (a + 3) k m) a 0 ((pl.length : Int) + 1)) a (ins l m pl) ∧ ∀ b, b ≠ a → b ≠ a + 2 → b ≠ a + 3 → (wr (wr (wr q (a + 2) k (fill l)) (a + 3) k m) a 0 ((pl.length : Int) + 1)) b = M b := by
    intro hgt q hq
    rw [ins_new k pl hk h1' hgt]
    refine ⟨⟨?_, fun j p hj => ?_⟩, fun b hb1 hb2 hb3 => ?_⟩
    · rw [wra, List.length_append, List.length_cons, List.length_take, List.length_drop]; omega
    · rw [take_get hk] at hj
      rw [wrn (by omega), wrn (show a + 2 ≠ a + 3 by omega), wre, wrn (by omega), wre, wrn (show a + 3 ≠ a + 2 by omega)]
      by_cases c1 : j < k
      · rw [if_pos c1] at hj
        have := hp.2 j p hj
        rw [up_ne (by omega), up_ne (by omega), hq]
        simp only [shf]
        rw [if_neg (by omega), if_neg (by omega)]
        exact this
      · rw [if_neg c1] at hj
        by_cases c2 : j = k
        · rw [if_pos c2] at hj
          cases hj
          subst c2
          rw [up_same, up_same]
          exact ⟨rfl, rfl⟩
        · rw [if_neg c2] at hj
          have h3 := hp.2 (j - 1) p hj
          have h4 := getq_lt hj
          rw [up_ne c2, up_ne c2, hq]
          simp only [shf]
          rw [if_pos ⟨by simp, by omega, by omega⟩, if_pos ⟨by simp, by omega, by omega⟩]
          exact h3
    · rw [wrn hb1, wrn hb3, wrn hb2, hq, shf_ne (by simp [hb2, hb3])]
  refine ok_ite (fun hc => ?_) (fun hc => ?_)
  · have hkl : k = pl.length := by omega
    have hgt : ∀ q, pl[k]? = some q → fill l < fill q.1 := fun q hq => by have := getq_lt hq; omega
    (repeat (first | with_reducible refine ok_nm0 ?_ | (with_reducible refine ok_chk ?_ ?_; · omega) | (with_reducible refine ok_if ?_ ?_; · omega) | (with_reducible refine ok_el ?_ ?_; · omega) | with_reducible refine ok_some ?_ | with_reducible refine ok_bi ?_ | with_reducible refine ok_bsm ?_)); try dsimp only
    refine ok_by (put_l75 h25 1000 pl.length M hk (Nat.le_refl _) (by omega) (shf_0 _ _ _).symm) (fun q hq => ?_)
    rw [tn]
    (repeat (first | with_reducible refine ok_nm0 ?_ | (with_reducible refine ok_chk ?_ ?_; · omega) | (with_reducible refine ok_if ?_ ?_; · omega) | (with_reducible refine ok_el ?_ ?_; · omega) | with_reducible refine ok_some ?_ | with_reducible refine ok_bi ?_ | with_reducible refine ok_bsm ?_)); try dsimp only
    have e : wr (wr q.2 (a + 2) k (fill l)) (a + 3) k m a 0 = pl.length := by
      rw [wrn (by omega), wrn (by omega), hq, shf_ne (by simp)]; exact hp.1
    rw [e]
    (repeat (first | with_reducible refine ok_nm0 ?_ | (with_reducible refine ok_chk ?_ ?_; · omega) | (with_reducible refine ok_if ?_ ?_; · omega) | (with_reducible refine ok_el ?_ ?_; · omega) | with_reducible refine ok_some ?_ | with_reducible refine ok_bi ?_ | with_reducible refine ok_bsm ?_)); try dsimp only
    exact new hgt q.2 hq
  · (first | with_reducible refine ok_nm0 ?_ | (with_reducible refine ok_chk ?_ ?_; · omega) | (with_reducible refine ok_if ?_ ?_; · omega) | (with_reducible refine ok_el ?_ ?_; · omega) | with_reducible refine ok_some ?_ | with_reducible refine ok_bi ?_ | with_reducible refine ok_bsm ?_)
    rw [tn]
    have hkl : k < pl.length := by omega
    obtain ⟨p, hpk⟩ := getq hkl
    have hpv := hp.2 k p hpk
    have hpb := hb p (List.mem_of_getElem? hpk)
    refine ok_ite (fun hq => ?_) (fun hq => ?_)
    · (repeat (first | with_reducible refine ok_nm0 ?_ | (with_reducible refine ok_chk ?_ ?_; · omega) | (with_reducible refine ok_if ?_ ?_; · omega) | (with_reducible refine ok_el ?_ ?_; · omega) | with_reducible refine ok_some ?_ | with_reducible refine ok_bi ?_ | with_reducible refine ok_bsm ?_)); try dsimp only
      try dsimp only
      rw [ins_old k pl p hpk h1' (by rw [← hpv.1]; exact hq)]
      refine ⟨⟨?_, fun j r hj => ?_⟩, fun b _ _ hb3 => by rw [wrn hb3]⟩
      · rw [wrn (by omega), List.length_set]; exact hp.1
      · rw [List.getElem?_set] at hj
        rw [wrn (by omega), wre]
        by_cases c1 : k = j
        · rw [if_pos c1, if_pos hkl] at hj
          cases hj
          subst c1
          rw [up_same, hpv.2]
          exact ⟨hpv.1, rfl⟩
        · rw [if_neg c1] at hj
          rw [up_ne (fun e => c1 e.symm)]
          exact hp.2 j r hj
    · have hgt : ∀ q, pl[k]? = some q → fill l < fill q.1 := fun q hq' => by
        rw [hpk] at hq'
        cases hq'
        have := h2 hkl
        omega
      (repeat (first | with_reducible refine ok_nm0 ?_ | (with_reducible refine ok_chk ?_ ?_; · omega) | (with_reducible refine ok_if ?_ ?_; · omega) | (with_reducible refine ok_el ?_ ?_; · omega) | with_reducible refine ok_some ?_ | with_reducible refine ok_bi ?_ | with_reducible refine ok_bsm ?_)); try dsimp only
      refine ok_by (put_l75 h25 1000 pl.length M hk (Nat.le_refl _) (by omega) (shf_0 _ _ _).symm) (fun q hq => ?_)
      (repeat (first | with_reducible refine ok_nm0 ?_ | (with_reducible refine ok_chk ?_ ?_; · omega) | (with_reducible refine ok_if ?_ ?_; · omega) | (with_reducible refine ok_el ?_ ?_; · omega) | with_reducible refine ok_some ?_ | with_reducible refine ok_bi ?_ | with_reducible refine ok_bsm ?_)); try dsimp only
      have e : wr (wr q.2 (a + 2) k (fill l)) (a + 3) k m a 0 = pl.length := by
        rw [wrn (by omega), wrn (by omega), hq, shf_ne (by simp)]; exact hp.1
      rw [e]
      (repeat (first | with_reducible refine ok_nm0 ?_ | (with_reducible refine ok_chk ?_ ?_; · omega) | (with_reducible refine ok_if ?_ ?_; · omega) | (with_reducible refine ok_el ?_ ?_; · omega) | with_reducible refine ok_some ?_ | with_reducible refine ok_bi ?_ | with_reducible refine ok_bsm ?_)); try dsimp only
      exact new hgt q.2 hq
end
end
section
section
/-! what is told, as numbers: candidates, ballots, GONE, THE LOT, ROWS, MANY, SEATS, LIMIT, ROUNDS -/
abbrev PL : Type := Nat × Nat × Vec × Vec × (Nat → List Int) × Vec × Int × Int × Int
abbrev PL.n (p : PL) : Nat := p.1
abbrev PL.nb (p : PL) : Nat := p.2.1
abbrev PL.g (p : PL) : Vec := p.2.2.1
abbrev PL.lot (p : PL) : Vec := p.2.2.2.1
abbrev PL.L (p : PL) : Nat → List Int := p.2.2.2.2.1
abbrev PL.mn (p : PL) : Vec := p.2.2.2.2.2.1
abbrev PL.se (p : PL) : Int := p.2.2.2.2.2.2.1
abbrev PL.li (p : PL) : Int := p.2.2.2.2.2.2.2.1
abbrev PL.ro (p : PL) : Int := p.2.2.2.2.2.2.2.2
/-- a row of unlike candidates below n -/
def rgood (n : Nat) (l : List Int) : Prop := rl l ∧ l ≠ [] ∧ (∀ d ∈ l, d ≤ (n : Int)) ∧ l.Nodup
def Perm (n : Nat) (lot : Vec) : Prop := ∃ inv : Nat → Nat, (∀ i, i < n → ∃ c, c < n ∧ lot i = (c : Int) ∧ inv c = i) ∧ ∀ c, c < n → inv c < n ∧ lot (inv c) = (c : Int)
def WF (p : PL) : Prop := p.n ≤ 8 ∧ p.nb ≤ 25 ∧ (∀ c, c < p.n → p.g c = 0 ∨ p.g c = 1) ∧ Perm p.n p.lot ∧ (∀ b, b < p.nb → rgood p.n (p.L b) ∧ 0 ≤ p.mn b) ∧ sm p.nb p.mn ≤ 4611686 ∧ (1 ≤ p.se ∧ p.se ≤ 7) ∧ (0 ≤ p.li ∧ p.li ≤ 1000000000) ∧ (1 ≤ p.ro ∧ p.ro ≤ 20)
def PCc (M : Mem) (o : Nat) (p : PL) : Prop := M o 0 = p.n ∧ M o 3 = p.nb ∧ (∀ c, c < p.n → M (o + 3) c = p.g c ∧ M (o + 2) c = p.lot c) ∧ (∀ b, b < p.nb → M (o + 5) b = fill (p.L b) ∧ M (o + 6) b = p.mn b) ∧ M o 6 = p.se ∧ M o 7 = p.li ∧ M o 8 = p.ro
def PMm (M : Mem) (a : Nat) (p : PL) : Prop := M a 0 = p.n ∧ M a 1 = p.nb ∧ (∀ c, c < p.n → M (a + 3) c = p.g c ∧ M (a + 4) c = p.lot c) ∧ (∀ b, b < p.nb → M (a + 5) b = num (p.L b) ∧ M (a + 6) b = p.mn b) ∧ M a 6 = p.se ∧ M a 7 = p.li ∧ M a 8 = p.ro
theorem PCc.same {M M' : Mem} {o : Nat} {p : PL} (h : PCc M o p) (h0 : M' o = M o) (h2 : M' (o + 2) = M (o + 2)) (h3 : M' (o + 3) = M (o + 3)) (h5 : M' (o + 5) = M (o + 5)) (h6 : M' (o + 6) = M (o + 6)) : PCc M' o p := by
  unfold PCc at *
  rw [h0, h2, h3, h5, h6]
  exact h
theorem lft_congr {g g' : Vec} {l : List Int} (h : ∀ d ∈ l, g (d - 1).toNat = g' (d - 1).toNat) : lft g l = lft g' l := by
  unfold lft
  exact List.filter_congr (fun d hd => by rw [h d hd])
theorem rgood.ix {n : Nat} {l : List Int} (h : rgood n l) {d : Int} (hd : d ∈ l) : (d - 1).toNat < n := by
  have h1 := h.1.1 d hd
  have h2 := h.2.2.1 d hd
  omega
theorem lft_g {n : Nat} {l : List Int} {g g' : Vec} (h : rgood n l) (hg : ∀ c, c < n → g c = g' c) : lft g l = lft g' l := lft_congr (fun _ hd => hg _ (h.ix hd))
theorem lft_le {n : Nat} {l : List Int} {g : Vec} (h : rgood n l) : ∀ d ∈ lft g l, d ≤ (n : Int) := fun d hd => h.2.2.1 d (List.mem_filter.mp hd).1
def gatR (p : PL) : Nat → PIL
  | 0 => []
  | b + 1 => if lft p.g (p.L b) = [] ∨ p.mn b = 0 then gatR p b else ins (lft p.g (p.L b)) (p.mn b) (gatR p b)
def gat (p : PL) : PIL := gatR p p.nb
theorem gatR_ok {p : PL} (h : WF p) : ∀ b, b ≤ p.nb → (gatR p b).length ≤ b ∧ (∀ q ∈ gatR p b, pgood p.n q) ∧ sp (gatR p b) ≤ sm b p.mn := by
  intro b
  induction b with
  | zero => intro _; exact ⟨Nat.le_refl 0, (fun q hq => absurd hq List.not_mem_nil), Int.le_refl 0⟩
  | succ b ih =>
    intro hb
    obtain ⟨h1, h2, h3⟩ := ih (by omega)
    have h4 := h.2.2.2.2.1 b (by omega)
    unfold gatR
    have e : sm (b + 1) p.mn = sm b p.mn + p.mn b := rfl
    by_cases hc : lft p.g (p.L b) = [] ∨ p.mn b = 0
    · rw [if_pos hc]
      exact ⟨by omega, h2, by have := h4.2; omega⟩
    · rw [if_neg hc]
      have hg : pgood p.n (lft p.g (p.L b), p.mn b) := ⟨lft_rl h4.1.1 _, fun e => hc (Or.inl e), lft_le h4.1, by have := h4.2; have : p.mn b ≠ 0 := fun e => hc (Or.inr e); dsimp only; omega⟩
      exact ⟨Nat.le_trans (len_ins _ _ _) (by omega), pgood_ins hg h2, by rw [sp_ins]; omega⟩
theorem sm_part {p : PL} (h : WF p) {b : Nat} (hb : b < p.nb) : sm b p.mn + p.mn b ≤ 4611686 := by
  have h1 := sm_mono (n := b + 1) (m := p.nb) (f := p.mn) (fun c hc => (h.2.2.2.2.1 c hc).2) (by omega)
  have := h.2.2.2.2.2.1
  have e : sm (b + 1) p.mn = sm b p.mn + p.mn b := rfl
  omega
theorem gather_l {p : PL} (h : WF p) {a o : Nat} (ha : a + 3 < o) : ∀ (n b : Nat) (M : Mem), b ≤ p.nb → p.nb < n + b → PCc M o p → PAc M a (gatR p b) → Ok (fX0_gather_l7 a o n b M) (fun q => PAc q.2 a (gat p) ∧ ∀ x, x ≠ a → x ≠ a + 2 → x ≠ a + 3 → q.2 x = M x) := by
  intro n
  induction n with
  | zero => intros; omega
  | succ n ih =>
    intro b M h1 h2 hp ha2
    have h25 := h.2.1
    unfold fX0_gather_l7
    rw [hp.2.1]
    refine ok_ite (fun hc => ok_some ?_) (fun hc => ?_)
    · have : b = p.nb := by omega
      subst this
      exact ⟨ha2, fun _ _ _ _ => rfl⟩
    · have hb : b < p.nb := by omega
      have hr := h.2.2.2.2.1 b hb
      obtain ⟨g1, g2, g3⟩ := gatR_ok h b h1
      have hsp := sm_part h hb
      have hv := hp.2.2.2.1 b hb
      have hlf : lft (M (o + 3)) (p.L b) = lft p.g (p.L b) := lft_g hr.1 (fun c hc => (hp.2.2.1 c hc).1)
      (first | with_reducible refine ok_nm0 ?_ | (with_reducible refine ok_chk ?_ ?_; · omega) | (with_reducible refine ok_if ?_ ?_; · omega) | (with_reducible refine ok_el ?_ ?_; · omega) | with_reducible refine ok_some ?_ | with_reducible refine ok_bi ?_ | with_reducible refine ok_bsm ?_)
      rw [tn, hv.1]
      refine ok_bs (leftOf_ok hr.1.1 _ M) ?_
      rw [hlf]
      (first | with_reducible refine ok_nm0 ?_ | (with_reducible refine ok_chk ?_ ?_; · omega) | (with_reducible refine ok_if ?_ ?_; · omega) | (with_reducible refine ok_el ?_ ?_; · omega) | with_reducible refine ok_some ?_ | with_reducible refine ok_bi ?_ | with_reducible refine ok_bsm ?_)
      try dsimp only
      simp only [hv.2]
      refine ok_bind ?_
      have e : gatR p (b + 1) = if lft p.g (p.L b) = [] ∨ p.mn b = 0 then gatR p b else ins (lft p.g (p.L b)) (p.mn b) (gatR p b) := rfl
      refine ok_ite (fun hq => ?_) (fun hq => ?_)
      · have hl : lft p.g (p.L b) = [] := by
          by_cases hl : lft p.g (p.L b) = []
          · exact hl
          · have := fill_pos (lft_rl hr.1.1 p.g) hl; omega
        rw [if_pos (Or.inl hl)] at e
        (repeat (first | with_reducible refine ok_nm0 ?_ | (with_reducible refine ok_chk ?_ ?_; · omega) | (with_reducible refine ok_if ?_ ?_; · omega) | (with_reducible refine ok_el ?_ ?_; · omega) | with_reducible refine ok_some ?_ | with_reducible refine ok_bi ?_ | with_reducible refine ok_bsm ?_)); try dsimp only
        exact ih (b + 1) M (by omega) (by omega) hp (e ▸ ha2)
      · have hl : lft p.g (p.L b) ≠ [] := fun e => hq (by rw [e]; rfl)
        (first | with_reducible refine ok_nm0 ?_ | (with_reducible refine ok_chk ?_ ?_; · omega) | (with_reducible refine ok_if ?_ ?_; · omega) | (with_reducible refine ok_el ?_ ?_; · omega) | with_reducible refine ok_some ?_ | with_reducible refine ok_bi ?_ | with_reducible refine ok_bsm ?_)
        refine ok_ite (fun hq2 => ?_) (fun hq2 => ?_)
        · rw [if_pos (Or.inr hq2)] at e
          (repeat (first | with_reducible refine ok_nm0 ?_ | (with_reducible refine ok_chk ?_ ?_; · omega) | (with_reducible refine ok_if ?_ ?_; · omega) | (with_reducible refine ok_el ?_ ?_; · omega) | with_reducible refine ok_some ?_ | with_reducible refine ok_bi ?_ | with_reducible refine ok_bsm ?_)); try dsimp only
          exact ih (b + 1) M (by omega) (by omega) hp (e ▸ ha2)
        · rw [if_neg (fun hx => hx.elim hl hq2)] at e
          (first | with_reducible refine ok_nm0 ?_ | (with_reducible refine ok_chk ?_ ?_; · omega) | (with_reducible refine ok_if ?_ ?_; · omega) | (with_reducible refine ok_el ?_ ?_; · omega) | with_reducible refine ok_some ?_ | with_reducible refine ok_bi ?_ | with_reducible refine ok_bsm ?_)
          refine ok_by (put_ok ha2 (by omega) (fun q hq => ?_) hr.2) (fun q hq => ?_)
          · have hx := sp_le (fun q hq => (g2 q hq).2.2.2) q hq
            have := (g2 q hq).2.2.2
            omega
          · (repeat (first | with_reducible refine ok_nm0 ?_ | (with_reducible refine ok_chk ?_ ?_; · omega) | (with_reducible refine ok_if ?_ ?_; · omega) | (with_reducible refine ok_el ?_ ?_; · omega) | with_reducible refine ok_some ?_ | with_reducible refine ok_bi ?_ | with_reducible refine ok_bsm ?_)); try dsimp only
            obtain ⟨q1, q2⟩ := hq
            refine (ih (b + 1) q.2 (by omega) (by omega) (hp.same (q2 _ (by omega) (by omega) (by omega)) (q2 _ (by omega) (by omega) (by omega)) (q2 _ (by omega) (by omega) (by omega)) (q2 _ (by omega) (by omega) (by omega)) (q2 _ (by omega) (by omega) (by omega))) (e ▸ q1)).mono (fun r hr => ⟨hr.1, fun x x1 x2 x3 => ?_⟩)
            rw [hr.2 x x1 x2 x3, q2 x x1 x2 x3]
theorem gather_ok {p : PL} (h : WF p) {a o : Nat} (ha : a + 3 < o) {M : Mem} (hp : PCc M o p) : Ok (fX0_gather a o M) (fun q => PAc q.2 a (gat p) ∧ ∀ x, x ≠ a → x ≠ a + 2 → x ≠ a + 3 → q.2 x = M x) := by
  have h25 := h.2.1
  unfold fX0_gather
  (first | with_reducible refine ok_nm0 ?_ | (with_reducible refine ok_chk ?_ ?_; · omega) | (with_reducible refine ok_if ?_ ?_; · omega) | (with_reducible refine ok_el ?_ ?_; · omega) | with_reducible refine ok_some ?_ | with_reducible refine ok_bi ?_ | with_reducible refine ok_bsm ?_)
  refine ok_by (gather_l h ha 1000 0 _ (by omega) (by omega) (hp.same (wrn (by omega)) (wrn (by omega)) (wrn (by omega)) (wrn (by omega)) (wrn (by omega))) ⟨by rw [wra]; rfl, fun j q hj => by cases hj⟩) (fun q hq => ok_some ⟨hq.1, fun x x1 x2 x3 => ?_⟩)
  try dsimp only
  rw [hq.2 x x1 x2 x3, wrn x1]
/-! the other one's -/
theorem comes_l8 {a : Nat} {r m key : Int} {M : Mem} {s : Nat} (hs : M a 18 = s) (h25 : s < 25) : ∀ (n i : Nat), i ≤ s → s < n + i → (∀ j, j < i → M (a + 21) j < key) → Ok (fX9_comesTo_l8 a r m key n i M) (fun q => q.2 = M ∧ ∃ k : Nat, q.1 = k ∧ k ≤ s ∧ (∀ j, j < k → M (a + 21) j < key) ∧ (k < s → key ≤ M (a + 21) k)) := by
  intro n
  induction n with
  | zero => intros; omega
  | succ n ih =>
    intro i h1 h2 hb
    unfold fX9_comesTo_l8
    rw [hs]
    refine ok_ite (fun hc => ok_some ⟨rfl, i, rfl, h1, hb, fun h => by omega⟩) (fun hc => ?_)
    (first | with_reducible refine ok_nm0 ?_ | (with_reducible refine ok_chk ?_ ?_; · omega) | (with_reducible refine ok_if ?_ ?_; · omega) | (with_reducible refine ok_el ?_ ?_; · omega) | with_reducible refine ok_some ?_ | with_reducible refine ok_bi ?_ | with_reducible refine ok_bsm ?_)
    rw [tn]
    refine ok_ite (fun hq => ok_some ⟨rfl, i, rfl, h1, hb, fun _ => hq⟩) (fun hq => ?_)
    (first | with_reducible refine ok_nm0 ?_ | (with_reducible refine ok_chk ?_ ?_; · omega) | (with_reducible refine ok_if ?_ ?_; · omega) | (with_reducible refine ok_el ?_ ?_; · omega) | with_reducible refine ok_some ?_ | with_reducible refine ok_bi ?_ | with_reducible refine ok_bsm ?_)
    refine ih (i + 1) (by omega) (by omega) (fun j hj => ?_)
    by_cases e : j = i
    · subst e; omega
    · exact hb j (by omega)
def sM (a : Nat) : Nat → Bool := fun b => decide (b = a + 20) || decide (b = a + 21) || decide (b = a + 22)
theorem comes_l72 {a k s : Nat} {r m key : Int} {M0 : Mem} (h25 : s < 25) : ∀ (n i : Nat) (M : Mem), k ≤ i → i ≤ s → i < n + k → M = shf (sM a) i s M0 → Ok (fX9_comesTo_l72 a r m key k n i M) (fun q => q.2 = shf (sM a) k s M0) := by
  intro n
  induction n with
  | zero => intros; omega
  | succ n ih =>
    intro i M h1 h2 h3 hM
    unfold fX9_comesTo_l72
    refine ok_ite (fun hc => ok_some ?_) (fun hc => ?_)
    · have : i = k := by omega
      subst this; exact hM
    · obtain ⟨i, rfl⟩ : ∃ i', i = i' + 1 := ⟨i - 1, by omega⟩
      (repeat (first | with_reducible refine ok_nm0 ?_ | (with_reducible refine ok_chk ?_ ?_; · omega) | (with_reducible refine ok_if ?_ ?_; · omega) | (with_reducible refine ok_el ?_ ?_; · omega) | with_reducible refine ok_some ?_ | with_reducible refine ok_bi ?_ | with_reducible refine ok_bsm ?_)); try dsimp only
      rw [show ((i + 1 : Nat) : Int) + -1 = (i : Int) by omega]
      refine ih i _ (by omega) (by omega) (by omega) ?_
      rw [show ((i + 1 : Nat) : Int) - 1 = (i : Int) by omega, tn, tn, hM]
      funext b j
      simp only [wr, shf, sM]
      grind
theorem comes_ok {a : Nat} {pl : PIL} {l : List Int} {m : Int} {M : Mem} (hl : rl l) (hp : PAm M a pl) (h25 : pl.length < 25) (hb : ∀ q ∈ pl, 0 ≤ q.2 ∧ q.2 + m ≤ 2147483647) (hm : 0 ≤ m) (hbr : ∀ q ∈ pl, rl q.1) (hinj : ∀ q ∈ pl, fill q.1 = fill l → num q.1 = num l) : Ok (fX9_comesTo a (num l) m M) (fun q => PAm q.2 a (ins l m pl) ∧ (∀ k, k ≠ 18 → q.2 a k = M a k) ∧ ∀ b, b ≠ a → b ≠ a + 20 → b ≠ a + 21 → b ≠ a + 22 → q.2 b = M b) := by
  unfold fX9_comesTo
  refine ok_bs (keyOf_ok hl M) ?_
  (first | with_reducible refine ok_nm0 ?_ | (with_reducible refine ok_chk ?_ ?_; · omega) | (with_reducible refine ok_if ?_ ?_; · omega) | (with_reducible refine ok_el ?_ ?_; · omega) | with_reducible refine ok_some ?_ | with_reducible refine ok_bi ?_ | with_reducible refine ok_bsm ?_)
  try dsimp only
  refine ok_by (comes_l8 hp.1 h25 1000 0 (by omega) (by omega) (fun j hj => by omega)) (fun q hq => ?_)
  obtain ⟨e2, k, e1, hk, h1, h2⟩ := hq
  have h1' : ∀ j q, j < k → pl[j]? = some q → fill q.1 < fill l := fun j q hj hq => by have := h1 j hj; rw [(hp.2 j q hq).2.1] at this; exact this
  rw [e1, e2, hp.1]
  have new : (∀ q, pl[k]? = some q → fill l < fill q.1) → ∀ q : Mem, q = shf (sM a) k pl.length M → PAm (wr (wr (wr (wr q (a + 20) k (num l)) (a + 21) k (fill l)) (a + 22) k m) a 18 ((pl.length : Int) + 1)) a (ins l m pl) ∧ (∀ j, j ≠ 18 → (wr (wr (wr (wr q (a + 20) k (num l)) (a + 21) k (fill l)) (a + 22) k m) a 18 ((pl.length : Int) + 1)) a j = M a j) ∧ ∀ b, b ≠ a → b ≠ a + 20 → b ≠ a + 21 → b ≠ a + 22 → (wr (wr (wr (wr q (a + 20) k (num l)) (a + 21) k (fill l)) (a + 22) k m) a 18 ((pl.length : Int) + 1)) b = M b := by
    intro hgt q hq
    rw [ins_new k pl hk h1' hgt]
    refine ⟨⟨?_, fun j p hj => ?_⟩, fun j hj => ?_, fun b hb1 hb2 hb3 hb4 => ?_⟩
    · rw [wra, List.length_append, List.length_cons, List.length_take, List.length_drop]; omega
    · rw [take_get hk] at hj
      have r20 : wr (wr (wr (wr q (a + 20) k (num l)) (a + 21) k (fill l)) (a + 22) k m) a 18 ((pl.length : Int) + 1) (a + 20) = up (q (a + 20)) k (num l) := by
        rw [wrn (by omega), wrn (by omega), wrn (by omega), wre]
      have r21 : wr (wr (wr (wr q (a + 20) k (num l)) (a + 21) k (fill l)) (a + 22) k m) a 18 ((pl.length : Int) + 1) (a + 21) = up (q (a + 21)) k (fill l) := by
        rw [wrn (by omega), wrn (by omega), wre, wrn (by omega)]
      have r22 : wr (wr (wr (wr q (a + 20) k (num l)) (a + 21) k (fill l)) (a + 22) k m) a 18 ((pl.length : Int) + 1) (a + 22) = up (q (a + 22)) k m := by
        rw [wrn (by omega), wre, wrn (by omega), wrn (by omega)]
      rw [r20, r21, r22]
      by_cases c1 : j < k
      · rw [if_pos c1] at hj
        have := hp.2 j p hj
        rw [up_ne (by omega), up_ne (by omega), up_ne (by omega), hq]
        simp only [shf]
        rw [if_neg (by omega), if_neg (by omega), if_neg (by omega)]
        exact this
      · rw [if_neg c1] at hj
        by_cases c2 : j = k
        · rw [if_pos c2] at hj
          cases hj
          subst c2
          rw [up_same, up_same, up_same]
          exact ⟨rfl, rfl, rfl⟩
        · rw [if_neg c2] at hj
          have h3 := hp.2 (j - 1) p hj
          have h4 := getq_lt hj
          rw [up_ne c2, up_ne c2, up_ne c2, hq]
          simp only [shf]
          rw [if_pos ⟨by simp [sM], by omega, by omega⟩, if_pos ⟨by simp [sM], by omega, by omega⟩, if_pos ⟨by simp [sM], by omega, by omega⟩]
          exact h3
    · rw [wrk _ hj, wrn (by omega), wrn (by omega), wrn (by omega), hq, shf_ne (by simp [sM])]
    · rw [wrn hb1, wrn hb4, wrn hb3, wrn hb2, hq, shf_ne (by simp [sM, hb2, hb3, hb4])]
  refine ok_ite (fun hc => ?_) (fun hc => ?_)
  · have hkl : k = pl.length := by omega
    have hgt : ∀ q, pl[k]? = some q → fill l < fill q.1 := fun q hq => by have := getq_lt hq; omega
    (repeat (first | with_reducible refine ok_nm0 ?_ | (with_reducible refine ok_chk ?_ ?_; · omega) | (with_reducible refine ok_if ?_ ?_; · omega) | (with_reducible refine ok_el ?_ ?_; · omega) | with_reducible refine ok_some ?_ | with_reducible refine ok_bi ?_ | with_reducible refine ok_bsm ?_)); try dsimp only
    refine ok_by (comes_l72 h25 1000 pl.length M hk (Nat.le_refl _) (by omega) (shf_0 _ _ _).symm) (fun q hq => ?_)
    rw [tn]
    (repeat (first | with_reducible refine ok_nm0 ?_ | (with_reducible refine ok_chk ?_ ?_; · omega) | (with_reducible refine ok_if ?_ ?_; · omega) | (with_reducible refine ok_el ?_ ?_; · omega) | with_reducible refine ok_some ?_ | with_reducible refine ok_bi ?_ | with_reducible refine ok_bsm ?_)); try dsimp only
    have e : wr (wr (wr q.2 (a + 20) k (num l)) (a + 21) k (fill l)) (a + 22) k m a 18 = pl.length := by
      rw [wrn (by omega), wrn (by omega), wrn (by omega), hq, shf_ne (by simp [sM])]; exact hp.1
    rw [e]
    (repeat (first | with_reducible refine ok_nm0 ?_ | (with_reducible refine ok_chk ?_ ?_; · omega) | (with_reducible refine ok_if ?_ ?_; · omega) | (with_reducible refine ok_el ?_ ?_; · omega) | with_reducible refine ok_some ?_ | with_reducible refine ok_bi ?_ | with_reducible refine ok_bsm ?_)); try dsimp only
    exact new hgt q.2 hq
  · (first | with_reducible refine ok_nm0 ?_ | (with_reducible refine ok_chk ?_ ?_; · omega) | (with_reducible refine ok_if ?_ ?_; · omega) | (with_reducible refine ok_el ?_ ?_; · omega) | with_reducible refine ok_some ?_ | with_reducible refine ok_bi ?_ | with_reducible refine ok_bsm ?_)
    rw [tn]
    have hkl : k < pl.length := by omega
    obtain ⟨p, hpk⟩ := getq hkl
    have hpv := hp.2 k p hpk
    have hpb := hb p (List.mem_of_getElem? hpk)
    refine ok_ite (fun hq => ?_) (fun hq => ?_)
    · (repeat (first | with_reducible refine ok_nm0 ?_ | (with_reducible refine ok_chk ?_ ?_; · omega) | (with_reducible refine ok_if ?_ ?_; · omega) | (with_reducible refine ok_el ?_ ?_; · omega) | with_reducible refine ok_some ?_ | with_reducible refine ok_bi ?_ | with_reducible refine ok_bsm ?_)); try dsimp only
      try dsimp only
      rw [ins_old k pl p hpk h1' (by rw [← hpv.2.1]; exact hq)]
      refine ⟨⟨?_, fun j r hj => ?_⟩, fun j _ => by rw [wrn (by omega)], fun b _ _ _ hb4 => by rw [wrn hb4]⟩
      · rw [wrn (by omega), List.length_set]; exact hp.1
      · rw [List.getElem?_set] at hj
        rw [wrn (by omega), wrn (by omega), wre]
        by_cases c1 : k = j
        · rw [if_pos c1, if_pos hkl] at hj
          cases hj
          subst c1
          rw [up_same, hpv.2.2]
          exact ⟨hpv.1, hpv.2.1, rfl⟩
        · rw [if_neg c1] at hj
          rw [up_ne (fun e => c1 e.symm)]
          exact hp.2 j r hj
    · have hgt : ∀ q, pl[k]? = some q → fill l < fill q.1 := fun q hq' => by
        rw [hpk] at hq'
        cases hq'
        have := h2 hkl
        omega
      (repeat (first | with_reducible refine ok_nm0 ?_ | (with_reducible refine ok_chk ?_ ?_; · omega) | (with_reducible refine ok_if ?_ ?_; · omega) | (with_reducible refine ok_el ?_ ?_; · omega) | with_reducible refine ok_some ?_ | with_reducible refine ok_bi ?_ | with_reducible refine ok_bsm ?_)); try dsimp only
      refine ok_by (comes_l72 h25 1000 pl.length M hk (Nat.le_refl _) (by omega) (shf_0 _ _ _).symm) (fun q hq => ?_)
      (repeat (first | with_reducible refine ok_nm0 ?_ | (with_reducible refine ok_chk ?_ ?_; · omega) | (with_reducible refine ok_if ?_ ?_; · omega) | (with_reducible refine ok_el ?_ ?_; · omega) | with_reducible refine ok_some ?_ | with_reducible refine ok_bi ?_ | with_reducible refine ok_bsm ?_)); try dsimp only
      have e : wr (wr (wr q.2 (a + 20) k (num l)) (a + 21) k (fill l)) (a + 22) k m a 18 = pl.length := by
        rw [wrn (by omega), wrn (by omega), wrn (by omega), hq, shf_ne (by simp [sM])]; exact hp.1
      rw [e]
      (repeat (first | with_reducible refine ok_nm0 ?_ | (with_reducible refine ok_chk ?_ ?_; · omega) | (with_reducible refine ok_if ?_ ?_; · omega) | (with_reducible refine ok_el ?_ ?_; · omega) | with_reducible refine ok_some ?_ | with_reducible refine ok_bi ?_ | with_reducible refine ok_bsm ?_)); try dsimp only
      exact new hgt q.2 hq
theorem PMm.same {M M' : Mem} {o : Nat} {p : PL} (h : PMm M o p) (h0 : ∀ k, k ≤ 8 → M' o k = M o k) (h3 : M' (o + 3) = M (o + 3)) (h4 : M' (o + 4) = M (o + 4)) (h5 : M' (o + 5) = M (o + 5)) (h6 : M' (o + 6) = M (o + 6)) : PMm M' o p := by
  unfold PMm at *
  rw [h0 0 (by omega), h0 1 (by omega), h0 6 (by omega), h0 7 (by omega), h0 8 (by omega), h3, h4, h5, h6]
  exact h
theorem tell_l {p : PL} (h : WF p) {a : Nat} : ∀ (n b : Nat) (M : Mem), b ≤ p.nb → p.nb < n + b → PMm M a p → PAm M a (gatR p b) → Ok (fX9_tellPiles_l7 a n b M) (fun q => PAm q.2 a (gat p) ∧ (∀ k, k ≠ 18 → q.2 a k = M a k) ∧ ∀ x, x ≠ a → x ≠ a + 20 → x ≠ a + 21 → x ≠ a + 22 → q.2 x = M x) := by
  intro n
  induction n with
  | zero => intros; omega
  | succ n ih =>
    intro b M h1 h2 hp ha2
    have h25 := h.2.1
    unfold fX9_tellPiles_l7
    rw [hp.2.1]
    refine ok_ite (fun hc => ok_some ?_) (fun hc => ?_)
    · have : b = p.nb := by omega
      subst this
      exact ⟨ha2, fun _ _ => rfl, fun _ _ _ _ _ => rfl⟩
    · have hb : b < p.nb := by omega
      have hr := h.2.2.2.2.1 b hb
      obtain ⟨g1, g2, g3⟩ := gatR_ok h b h1
      have hsp := sm_part h hb
      have hv := hp.2.2.2.1 b hb
      have hlf : lft (M (a + 3)) (p.L b) = lft p.g (p.L b) := lft_g hr.1 (fun c hc => (hp.2.2.1 c hc).1)
      (first | with_reducible refine ok_nm0 ?_ | (with_reducible refine ok_chk ?_ ?_; · omega) | (with_reducible refine ok_if ?_ ?_; · omega) | (with_reducible refine ok_el ?_ ?_; · omega) | with_reducible refine ok_some ?_ | with_reducible refine ok_bi ?_ | with_reducible refine ok_bsm ?_)
      rw [tn, hv.1]
      refine ok_bs (left_ok hr.1.1 _ M) ?_
      rw [hlf]
      (first | with_reducible refine ok_nm0 ?_ | (with_reducible refine ok_chk ?_ ?_; · omega) | (with_reducible refine ok_if ?_ ?_; · omega) | (with_reducible refine ok_el ?_ ?_; · omega) | with_reducible refine ok_some ?_ | with_reducible refine ok_bi ?_ | with_reducible refine ok_bsm ?_)
      try dsimp only
      simp only [hv.2]
      refine ok_bind ?_
      have e : gatR p (b + 1) = if lft p.g (p.L b) = [] ∨ p.mn b = 0 then gatR p b else ins (lft p.g (p.L b)) (p.mn b) (gatR p b) := rfl
      refine ok_ite (fun hq => ?_) (fun hq => ?_)
      · have hl : lft p.g (p.L b) = [] := by
          by_cases hl : lft p.g (p.L b) = []
          · exact hl
          · have := num_posn (lft_rl hr.1.1 p.g) hl; omega
        rw [if_pos (Or.inl hl)] at e
        (repeat (first | with_reducible refine ok_nm0 ?_ | (with_reducible refine ok_chk ?_ ?_; · omega) | (with_reducible refine ok_if ?_ ?_; · omega) | (with_reducible refine ok_el ?_ ?_; · omega) | with_reducible refine ok_some ?_ | with_reducible refine ok_bi ?_ | with_reducible refine ok_bsm ?_)); try dsimp only
        exact ih (b + 1) M (by omega) (by omega) hp (e ▸ ha2)
      · have hl : lft p.g (p.L b) ≠ [] := fun e => hq (by rw [e]; exact Int.le_refl 0)
        (first | with_reducible refine ok_nm0 ?_ | (with_reducible refine ok_chk ?_ ?_; · omega) | (with_reducible refine ok_if ?_ ?_; · omega) | (with_reducible refine ok_el ?_ ?_; · omega) | with_reducible refine ok_some ?_ | with_reducible refine ok_bi ?_ | with_reducible refine ok_bsm ?_)
        have hmn := hr.2
        refine ok_ite (fun hq2 => ?_) (fun hq2 => ?_)
        · rw [if_pos (Or.inr (by omega))] at e
          (repeat (first | with_reducible refine ok_nm0 ?_ | (with_reducible refine ok_chk ?_ ?_; · omega) | (with_reducible refine ok_if ?_ ?_; · omega) | (with_reducible refine ok_el ?_ ?_; · omega) | with_reducible refine ok_some ?_ | with_reducible refine ok_bi ?_ | with_reducible refine ok_bsm ?_)); try dsimp only
          exact ih (b + 1) M (by omega) (by omega) hp (e ▸ ha2)
        · rw [if_neg (fun hx => hx.elim hl (fun e => hq2 (by omega)))] at e
          (first | with_reducible refine ok_nm0 ?_ | (with_reducible refine ok_chk ?_ ?_; · omega) | (with_reducible refine ok_if ?_ ?_; · omega) | (with_reducible refine ok_el ?_ ?_; · omega) | with_reducible refine ok_some ?_ | with_reducible refine ok_bi ?_ | with_reducible refine ok_bsm ?_)
          refine ok_by (comes_ok (lft_rl hr.1.1 _) ha2 (by omega) (fun q hq => ?_) hr.2 (fun q hq => (g2 q hq).1) (fun q hq he => ?_)) (fun q hq => ?_)
          · have hx := sp_le (fun q hq => (g2 q hq).2.2.2) q hq
            have := (g2 q hq).2.2.2
            omega
          · have h5 := asTold_ok (g2 q hq).1 (g2 q hq).2.1 M
            rw [he, asTold_ok (lft_rl hr.1.1 p.g) hl M] at h5
            exact (Prod.mk.inj (Option.some.inj h5)).1.symm
          · (repeat (first | with_reducible refine ok_nm0 ?_ | (with_reducible refine ok_chk ?_ ?_; · omega) | (with_reducible refine ok_if ?_ ?_; · omega) | (with_reducible refine ok_el ?_ ?_; · omega) | with_reducible refine ok_some ?_ | with_reducible refine ok_bi ?_ | with_reducible refine ok_bsm ?_)); try dsimp only
            obtain ⟨q1, q2, q3⟩ := hq
            refine (ih (b + 1) q.2 (by omega) (by omega) (hp.same (fun k hk => q2 k (by omega)) (q3 _ (by omega) (by omega) (by omega) (by omega)) (q3 _ (by omega) (by omega) (by omega) (by omega)) (q3 _ (by omega) (by omega) (by omega) (by omega)) (q3 _ (by omega) (by omega) (by omega) (by omega))) (e ▸ q1)).mono (fun r hr => ⟨hr.1, fun k hk => ?_, fun x x1 x2 x3 x4 => ?_⟩)
            · rw [hr.2.1 k hk, q2 k hk]
            · rw [hr.2.2 x x1 x2 x3 x4, q3 x x1 x2 x3 x4]
theorem tellPiles_ok {p : PL} (h : WF p) {a : Nat} {M : Mem} (hp : PMm M a p) : Ok (fX9_tellPiles a M) (fun q => PAm q.2 a (gat p) ∧ (∀ k, k ≠ 18 → q.2 a k = M a k) ∧ ∀ x, x ≠ a → x ≠ a + 20 → x ≠ a + 21 → x ≠ a + 22 → q.2 x = M x) := by
  have h25 := h.2.1
  unfold fX9_tellPiles
  (first | with_reducible refine ok_nm0 ?_ | (with_reducible refine ok_chk ?_ ?_; · omega) | (with_reducible refine ok_if ?_ ?_; · omega) | (with_reducible refine ok_el ?_ ?_; · omega) | with_reducible refine ok_some ?_ | with_reducible refine ok_bi ?_ | with_reducible refine ok_bsm ?_)
  refine ok_by (tell_l h 1000 0 _ (by omega) (by omega) (hp.same (fun k hk => wrk _ (by omega)) (wrn (by omega)) (wrn (by omega)) (wrn (by omega)) (wrn (by omega))) ⟨by rw [wra]; rfl, fun j q hj => by cases hj⟩) (fun q hq => ok_some ⟨hq.1, fun k hk => ?_, fun x x1 x2 x3 x4 => ?_⟩)
  · dsimp only
    rw [hq.2.1 k hk, wrk _ hk]
  · dsimp only
    rw [hq.2.2 x x1 x2 x3 x4, wrn x1]
end
end
section
section
/-! VOTES by KEEPS -/
def Ag (n : Nat) (f g : Vec) : Prop := ∀ c, c < n → f c = g c
theorem Ag.up {n : Nat} {f g : Vec} (h : Ag n f g) (c : Nat) {v w : Int} (e : v = w) : Ag n (up f c v) (up g c w) := fun k hk => by
  subst e
  by_cases hc : k = c
  · subst hc; rw [up_same, up_same]
  · rw [up_ne hc, up_ne hc]; exact h k hk
def pstep (K : Vec) (d : Int) (s : Int × Vec) : Int × Vec := (s.1 - s.1 * K (d - 1).toNat / 1000000, up s.2 (d - 1).toNat (s.2 (d - 1).toNat + s.1 * K (d - 1).toNat / 1000000))
def pass (K : Vec) (l : List Int) (s : Int × Vec) : Int × Vec := l.foldl (fun s d => pstep K d s) s
def vstep (K : Vec) (p : List Int × Int) (s : Int × Vec) : Int × Vec := (s.1 + (pass K p.1 (p.2 * 1000000, s.2)).1, (pass K p.1 (p.2 * 1000000, s.2)).2)
def vt (K : Vec) (pl : PIL) (s : Int × Vec) : Int × Vec := pl.foldl (fun s p => vstep K p s) s
theorem take_fold {α β : Type} {f : β → α → β} {l : List α} {s : β} {i : Nat} {x : α} (h : l[i]? = some x) : (l.take (i + 1)).foldl f s = f ((l.take i).foldl f s) x := by
  obtain ⟨hi, e⟩ := List.getElem?_eq_some_iff.mp h
  rw [List.take_succ_eq_append_getElem hi, List.foldl_append, e]
  rfl
def PI (n : Nat) (S : Int) (s : Int × Vec) : Prop := 0 ≤ s.1 ∧ (∀ c, c < n → 0 ≤ s.2 c) ∧ s.1 + sm n s.2 = S
def KB (n : Nat) (K : Vec) : Prop := ∀ c, c < n → 0 ≤ K c ∧ K c ≤ 1000000
theorem part_bd {l k : Int} (h0 : 0 ≤ l) (h1 : 0 ≤ k) (h2 : k ≤ 1000000) : 0 ≤ l * k ∧ 0 ≤ l * k / 1000000 ∧ l * k / 1000000 ≤ l := by
  have h3 : l * k ≤ l * 1000000 := Int.mul_le_mul_of_nonneg_left h2 h0
  have h4 : 0 ≤ l * k := Int.mul_nonneg h0 h1
  omega
theorem pstep_PI {n : Nat} {S : Int} {K : Vec} {s : Int × Vec} {d : Int} (h : PI n S s) (hK : KB n K) (hd : (d - 1).toNat < n) : PI n S (pstep K d s) := by
  obtain ⟨h1, h2, h3⟩ := h
  have hk := hK _ hd
  have hp := part_bd h1 hk.1 hk.2
  have hg := h2 _ hd
  refine ⟨?_, fun c hc => ?_, ?_⟩
  · show 0 ≤ s.1 - _
    omega
  · show 0 ≤ up s.2 _ _ c
    by_cases e : c = (d - 1).toNat
    · rw [e, up_same]; omega
    · rw [up_ne e]; exact h2 c hc
  · show s.1 - _ + sm n (up s.2 _ _) = S
    rw [sm_up, if_pos hd]
    omega
theorem pass_PI {n : Nat} {S : Int} {K : Vec} (hK : KB n K) : ∀ (l : List Int) (s : Int × Vec), (∀ d ∈ l, (d - 1).toNat < n) → PI n S s → PI n S (pass K l s)
  | [], _, _, h => h
  | d :: l, s, hl, h => pass_PI hK l (pstep K d s) (fun x hx => hl x (List.mem_cons_of_mem _ hx)) (pstep_PI h hK (hl d List.mem_cons_self))
theorem vt_PI {n : Nat} {K : Vec} (hK : KB n K) : ∀ (pl : PIL) (S : Int) (s : Int × Vec), (∀ q ∈ pl, pgood n q) → PI n S s → PI n (S + 1000000 * sp pl) (vt K pl s)
  | [], S, s, _, h => by
    have e : S + 1000000 * sp [] = S := by simp [sp]
    rw [e]; exact h
  | p :: r, S, s, hp, h => by
    have h1 := hp p List.mem_cons_self
    have e : S + 1000000 * sp (p :: r) = (S + 1000000 * p.2) + 1000000 * sp r := by show S + 1000000 * (p.2 + sp r) = _; omega
    rw [e]
    refine vt_PI hK r _ (vstep K p s) (fun x hx => hp x (List.mem_cons_of_mem _ hx)) ?_
    have h2 : PI n (p.2 * 1000000 + sm n s.2) (p.2 * 1000000, s.2) := ⟨by have := h1.2.2.2; dsimp only; omega, h.2.1, rfl⟩
    have h3 := pass_PI hK p.1 _ (fun d hd => by have := h1.1.1 d hd; have := h1.2.2.1 d hd; omega) h2
    have h4 := h.2.2
    have h5 := h.1
    exact ⟨by have := h3.1; show 0 ≤ s.1 + _; omega, h3.2.1, by have := h3.2.2; show s.1 + (pass K p.1 (p.2 * 1000000, s.2)).1 + sm n (pass K p.1 (p.2 * 1000000, s.2)).2 = _; omega⟩
theorem PI.le {n : Nat} {S : Int} {s : Int × Vec} (h : PI n S s) : s.1 ≤ S ∧ ∀ c, c < n → s.2 c ≤ S := by
  have h1 := sm_nn h.2.1
  have h2 := h.2.2
  refine ⟨by omega, fun c hc => ?_⟩
  have := sm_le h.2.1 c hc
  have := h.1
  omega
theorem passOn_l {t n : Nat} {l : List Int} {K g0 : Vec} {S left : Int} (hn : n ≤ 8) (hl : rl l) (hd : ∀ d ∈ l, d ≤ (n : Int)) (hK : KB n K) (h0 : PI n S (left, g0)) (hS : S ≤ 4611686000000) : ∀ (m i : Nat) (x : Int) (M : Mem), i ≤ l.length → 8 < m + i → x = (pass K (l.take i) (left, g0)).1 → Ag n (M (t + 11)) (pass K (l.take i) (left, g0)).2 → Ag n (M (t + 10)) K → Ok (fX4_passOn_l6 t (fill l) m x i M) (fun z => ∃ a, z = .inl a ∧ a.1 = (pass K l (left, g0)).1 ∧ Ag n (a.2 (t + 11)) (pass K l (left, g0)).2 ∧ ∀ b, b ≠ t + 11 → a.2 b = M b) := by
  intro m
  have hdn : ∀ d ∈ l, (d - 1).toNat < n := fun d hx => by have := hl.1 d hx; have := hd d hx; omega
  induction m with
  | zero => intro i; have := hl.2; intros; omega
  | succ m ih =>
    intro i x M h1 h2 hx hg hk
    have h8 := hl.2
    unfold fX4_passOn_l6
    by_cases hc : i = l.length
    · rw [hc, List.take_length] at hx hg
      by_cases hc8 : (8 : Int) ≤ i
      · refine ok_if hc8 (ok_some ⟨_, rfl, hx, hg, fun _ _ => rfl⟩)
      · refine ok_el hc8 (ok_bs (at_ok hl (by omega) M) ?_)
        have := getD_ge (l := l) (k := i) (by omega)
        (repeat (first | with_reducible refine ok_nm0 ?_ | (with_reducible refine ok_chk ?_ ?_; · omega) | (with_reducible refine ok_if ?_ ?_; · omega) | (with_reducible refine ok_el ?_ ?_; · omega) | with_reducible refine ok_some ?_ | with_reducible refine ok_bi ?_ | with_reducible refine ok_bsm ?_)); try dsimp only
        exact ⟨_, rfl, hx, hg, fun _ _ => rfl⟩
    · have hi : i < l.length := by omega
      refine ok_el (by omega) (ok_bs (at_ok hl (by omega) M) ?_)
      have hr := rl_getD hl hi
      have hdl : l.getD i 0 ≤ n := by rw [getD_lt hi]; exact hd _ (List.getElem_mem hi)
      have hs := pass_PI hK (l.take i) (left, g0) (fun d hx => hdn d (List.mem_of_mem_take hx)) h0
      have hle := hs.le
      have hnx : pass K (l.take (i + 1)) (left, g0) = pstep K (l.getD i 0) (pass K (l.take i) (left, g0)) := take_fold (by rw [List.getElem?_eq_getElem hi, getD_lt hi])
      generalize hP : pass K (l.take i) (left, g0) = s at *
      have hcn : (l.getD i 0 - 1).toNat < n := by omega
      have hkk := hK _ hcn
      have hkv := hk _ hcn
      have hgv := hg _ hcn
      have hpb := part_bd hs.1 hkk.1 hkk.2
      have hpb2 := mul_bd hs.1 hle.1 hkk.1 hkk.2
      have hgb := hle.2 _ hcn
      have hgb0 := hs.2.1 _ hcn
      rw [← hkv, ← hx] at hpb hpb2
      rw [← hgv] at hgb hgb0
      have hxb := hs.1
      have hxb2 := hle.1
      rw [← hx] at hxb hxb2
      try dsimp only
      (repeat (first | with_reducible refine ok_nm0 ?_ | (with_reducible refine ok_chk ?_ ?_; · omega) | (with_reducible refine ok_if ?_ ?_; · omega) | (with_reducible refine ok_el ?_ ?_; · omega) | with_reducible refine ok_some ?_ | with_reducible refine ok_bi ?_ | with_reducible refine ok_bsm ?_)); try dsimp only
      refine (ih (i + 1) _ _ (by omega) (by omega) ?_ ?_ ?_).mono (fun z hz => ?_)
      · rw [hnx]
        show _ = s.1 - s.1 * K (l.getD i 0 - 1).toNat / 1000000
        rw [← hx, ← hkv]
      · rw [hnx, wre]
        refine hg.up _ ?_
        rw [← hx, ← hkv, hgv]
      · rw [wrn (by omega)]; exact hk
      · obtain ⟨a, e, a1, a2, a3⟩ := hz
        exact ⟨a, e, a1, a2, fun b hb => by rw [a3 b hb, wrn hb]⟩
theorem passOn_ok {t n : Nat} {l : List Int} {K g0 : Vec} {S left : Int} {M : Mem} (hn : n ≤ 8) (hl : rl l) (hd : ∀ d ∈ l, d ≤ (n : Int)) (hK : KB n K) (h0 : PI n S (left, g0)) (hS : S ≤ 4611686000000) (hg : Ag n (M (t + 11)) g0) (hk : Ag n (M (t + 10)) K) : Ok (fX4_passOn t (fill l) left M) (fun q => q.1 = (pass K l (left, g0)).1 ∧ Ag n (q.2 (t + 11)) (pass K l (left, g0)).2 ∧ ∀ b, b ≠ t + 11 → q.2 b = M b) := by
  have h8 := hl.2
  unfold fX4_passOn
  refine ok_lrl ((passOn_l hn hl hd hK h0 hS 1000 0 left M (by omega) (by omega) rfl hg hk).mono (fun z hz => ?_))
  obtain ⟨a, e, h⟩ := hz
  exact ⟨a, e, h⟩
/-- the numbers of a ROUND -/
def VT (p : PL) (K : Vec) : Int × Vec := vt K (gat p) (0, fun _ => 0)
def quo (p : PL) (f : Vec) : Int := sm p.n f / (p.se + 1) + 1
theorem z_PI (n : Nat) : PI n 0 (0, fun _ => 0) := ⟨Int.le_refl 0, fun _ _ => Int.le_refl 0, by rw [sm_z]; rfl⟩
theorem pl_take {n : Nat} {pl : PIL} (h : ∀ q ∈ pl, pgood n q) (k : Nat) : ∀ q ∈ pl.take k, pgood n q := fun q hq => h q (List.mem_of_mem_take hq)
theorem sp_nn {pl : PIL} (h : ∀ q ∈ pl, 0 < q.2) : 0 ≤ sp pl := by
  induction pl with
  | nil => exact Int.le_refl 0
  | cons a r ih => have := h a List.mem_cons_self; have := ih (fun q hq => h q (List.mem_cons_of_mem _ hq)); show 0 ≤ a.2 + sp r; omega
theorem sp_take {n : Nat} : ∀ {pl : PIL} (_ : ∀ q ∈ pl, pgood n q) (k : Nat), sp (pl.take k) ≤ sp pl ∧ ∀ q, pl[k]? = some q → sp (pl.take k) + q.2 ≤ sp pl
  | [], _, k => by simp [sp]
  | p :: r, h, 0 => by
    have h1 := h p List.mem_cons_self
    have h2 := sp_nn (pl := r) (fun q hq => (h q (List.mem_cons_of_mem _ hq)).2.2.2)
    have := h1.2.2.2
    refine ⟨by show 0 ≤ p.2 + sp r; omega, fun q hq => ?_⟩
    cases hq
    show 0 + p.2 ≤ p.2 + sp r
    omega
  | p :: r, h, k + 1 => by
    have ih := sp_take (pl := r) (fun q hq => h q (List.mem_cons_of_mem _ hq)) k
    refine ⟨?_, fun q hq => ?_⟩
    · show p.2 + sp (r.take k) ≤ p.2 + sp r
      omega
    · have := ih.2 q (by simpa using hq)
      show p.2 + sp (r.take k) + q.2 ≤ p.2 + sp r
      omega
theorem gat_ok {p : PL} (h : WF p) : (gat p).length ≤ 25 ∧ (∀ q ∈ gat p, pgood p.n q) ∧ sp (gat p) ≤ 4611686 := by
  obtain ⟨g1, g2, g3⟩ := gatR_ok h p.nb (Nat.le_refl _)
  have := h.2.1
  have := h.2.2.2.2.2.1
  exact ⟨Nat.le_trans g1 (by omega), g2, Int.le_trans g3 (by omega)⟩
theorem VT_PI {p : PL} (h : WF p) {K : Vec} (hK : KB p.n K) : PI p.n (1000000 * sp (gat p)) (VT p K) := by
  have := vt_PI hK (gat p) 0 (0, fun _ => 0) (gat_ok h).2.1 (z_PI _)
  rw [Int.zero_add] at this
  exact this
theorem vt_take {p : PL} (h : WF p) {K : Vec} (hK : KB p.n K) (k : Nat) : PI p.n (1000000 * sp ((gat p).take k)) (vt K ((gat p).take k) (0, fun _ => 0)) := by
  have := vt_PI hK ((gat p).take k) 0 (0, fun _ => 0) (pl_take (gat_ok h).2.1 k) (z_PI _)
  rw [Int.zero_add] at this
  exact this
theorem VT_bd {p : PL} (h : WF p) {K : Vec} (hK : KB p.n K) : 0 ≤ (VT p K).1 ∧ (VT p K).1 ≤ 4611686000000 ∧ (∀ c, c < p.n → 0 ≤ (VT p K).2 c ∧ (VT p K).2 c ≤ 4611686000000) ∧ 0 ≤ sm p.n (VT p K).2 ∧ sm p.n (VT p K).2 ≤ 4611686000000 := by
  have h1 := VT_PI h hK
  have h2 := (gat_ok h).2.2
  have h3 := h1.le
  have h4 := h1.2.2
  have h5 := sm_nn h1.2.1
  have h6 := h1.1
  exact ⟨h1.1, by omega, fun c hc => ⟨h1.2.1 c hc, by have := h3.2 c hc; omega⟩, h5, by omega⟩
theorem quo_bd {p : PL} (h : WF p) {f : Vec} (h0 : 0 ≤ sm p.n f) (h1 : sm p.n f ≤ 4611686000000) : 1 ≤ quo p f ∧ quo p f ≤ 2305843000001 := by
  have hs := h.2.2.2.2.2.2.1
  unfold quo
  generalize sm p.n f = T at *
  have : p.se = 1 ∨ p.se = 2 ∨ p.se = 3 ∨ p.se = 4 ∨ p.se = 5 ∨ p.se = 6 ∨ p.se = 7 := by omega
  rcases this with e | e | e | e | e | e | e <;> rw [e] <;> omega
theorem fill8_l {a : Nat} {M0 : Mem} : ∀ (n i : Nat) (M : Mem), i ≤ 8 → 8 < n + i → M = (fun b j => if b = a ∧ j < i then 0 else M0 b j) → Ok (fJ7_fill_d0a16_l6 a 0 8 n i M) (fun q => q.2 = fun b j => if b = a ∧ j < 8 then 0 else M0 b j) := by
  intro n
  induction n with
  | zero => intros; omega
  | succ n ih =>
    intro i M h1 h2 hM
    unfold fJ7_fill_d0a16_l6
    refine ok_ite (fun hc => ok_some ?_) (fun hc => ?_)
    · have : i = 8 := by omega
      subst this; exact hM
    · (repeat (first | with_reducible refine ok_nm0 ?_ | (with_reducible refine ok_chk ?_ ?_; · omega) | (with_reducible refine ok_if ?_ ?_; · omega) | (with_reducible refine ok_el ?_ ?_; · omega) | with_reducible refine ok_some ?_ | with_reducible refine ok_bi ?_ | with_reducible refine ok_bsm ?_)); try dsimp only
      refine ih (i + 1) _ (by omega) (by omega) ?_
      rw [hM]
      funext b j
      simp only [wr, tn]
      grind
theorem fill8_ok (a : Nat) (M : Mem) : Ok (fJ7_fill_d0a16 a 0 M) (fun q => q.2 = fun b j => if b = a ∧ j < 8 then 0 else M b j) := by
  unfold fJ7_fill_d0a16
  refine ok_by (fill8_l (M0 := M) 1000 0 M (by omega) (by omega) (by funext b j; simp)) (fun q hq => ok_some ?_)
  exact hq
theorem cut_ok {x y : Int} (hx : 0 ≤ x) (hy : 0 < y) (M : Mem) : fX8_cut x y M = some (x / y, M) := by
  apply ok_eq
  unfold fX8_cut
  (repeat (first | with_reducible refine ok_nm0 ?_ | (with_reducible refine ok_chk ?_ ?_; · omega) | (with_reducible refine ok_if ?_ ?_; · omega) | (with_reducible refine ok_el ?_ ?_; · omega) | with_reducible refine ok_some ?_ | with_reducible refine ok_bi ?_ | with_reducible refine ok_bsm ?_)); try dsimp only
theorem workOut_l15 {t : Nat} {p : PL} {K : Vec} (h : WF p) (hK : KB p.n K) : ∀ (m k : Nat) (M : Mem), k ≤ (gat p).length → (gat p).length < m + k → PAc M (t + 20) (gat p) → Ag p.n (M (t + 10)) K → Ag p.n (M (t + 11)) (vt K ((gat p).take k) (0, fun _ => 0)).2 → M t 12 = (vt K ((gat p).take k) (0, fun _ => 0)).1 → Ok (fX4_workOut_l15 t m k M) (fun q => Ag p.n (q.2 (t + 11)) (VT p K).2 ∧ q.2 t 12 = (VT p K).1 ∧ (∀ j, j ≠ 12 → q.2 t j = M t j) ∧ ∀ b, b ≠ t → b ≠ t + 11 → q.2 b = M b) := by
  intro m
  obtain ⟨g1, g2, g3⟩ := gat_ok h
  induction m with
  | zero => intros; omega
  | succ m ih =>
    intro k M h1 h2 hp hk hg hx
    unfold fX4_workOut_l15
    rw [hp.1]
    refine ok_ite (fun hc => ok_some ?_) (fun hc => ?_)
    · have e : k = (gat p).length := by omega
      rw [e, List.take_length] at hg hx
      exact ⟨hg, hx, fun _ _ => rfl, fun _ _ _ => rfl⟩
    · obtain ⟨r, hr⟩ := getq (pl := gat p) (j := k) (by omega)
      have hrg := g2 r (List.mem_of_getElem? hr)
      have hv := hp.2 k r hr
      have hsp := (sp_take g2 k).2 r hr
      have hnn := sp_nn (fun q hq => (pl_take g2 k q hq).2.2.2)
      have hI := vt_take h hK k
      have hle := hI.le
      have hn1 : vt K ((gat p).take (k + 1)) (0, fun _ => 0) = vstep K r (vt K ((gat p).take k) (0, fun _ => 0)) := take_fold hr
      have hI2 := vt_take h hK (k + 1)
      have hle2 := hI2.le
      have hsp2 := (sp_take g2 (k + 1)).1
      have hmn := hrg.2.2.2
      generalize hP : vt K ((gat p).take k) (0, fun _ => 0) = s at *
      have hI0 : PI p.n (r.2 * 1000000 + sm p.n s.2) (r.2 * 1000000, s.2) := ⟨by (try dsimp only); omega, hI.2.1, rfl⟩
      have hsn := hI.2.2
      have hs1 := hI.1
      rw [tn, hv.1, hv.2]
      (repeat (first | with_reducible refine ok_nm0 ?_ | (with_reducible refine ok_chk ?_ ?_; · omega) | (with_reducible refine ok_if ?_ ?_; · omega) | (with_reducible refine ok_el ?_ ?_; · omega) | with_reducible refine ok_some ?_ | with_reducible refine ok_bi ?_ | with_reducible refine ok_bsm ?_)); try dsimp only
      refine ok_by (passOn_ok h.1 hrg.1 hrg.2.2.1 hK hI0 (by omega) hg hk) (fun q hq => ?_)
      obtain ⟨q1, q2, q3⟩ := hq
      have hq1 : 0 ≤ q.1 ∧ s.1 + q.1 ≤ 4611686000000 := by
        rw [hn1] at hle2 hI2
        have h5 := hle2.1
        have h6 : (vstep K r s).1 = s.1 + q.1 := by rw [q1]; rfl
        have h7 := pass_PI hK r.1 _ (fun d hd => by have := hrg.1.1 d hd; have := hrg.2.2.1 d hd; omega) hI0
        exact ⟨by rw [q1]; exact h7.1, by omega⟩
      rw [hx]
      (repeat (first | with_reducible refine ok_nm0 ?_ | (with_reducible refine ok_chk ?_ ?_; · omega) | (with_reducible refine ok_if ?_ ?_; · omega) | (with_reducible refine ok_el ?_ ?_; · omega) | with_reducible refine ok_some ?_ | with_reducible refine ok_bi ?_ | with_reducible refine ok_bsm ?_)); try dsimp only
      refine (ih (k + 1) _ (by omega) (by omega) ⟨?_, fun j r hj => ?_⟩ ?_ ?_ ?_).mono (fun z hz => ⟨hz.1, hz.2.1, fun j hj => ?_, fun b hb1 hb2 => ?_⟩)
      · rw [wrn (by omega), q3 _ (by omega)]; exact hp.1
      · rw [wrn (by omega), wrn (by omega), q3 _ (by omega), q3 _ (by omega)]; exact hp.2 j r hj
      · rw [wrn (by omega), q3 _ (by omega)]; exact hk
      · rw [hn1, wrn (by omega)]; exact q2
      · rw [hn1, wra, q1]; rfl
      · rw [hz.2.2.1 j hj, wrk _ hj, q3 _ (by omega)]
      · rw [hz.2.2.2 b hb1 hb2, wrn hb1, q3 _ hb2]
theorem workOut_l75 {t n : Nat} {f : Vec} (hn : n ≤ 8) (hf : ∀ c, c < n → 0 ≤ f c ∧ f c ≤ 4611686000000) : ∀ (m c : Nat) (M : Mem), c ≤ n → n < m + c → M (t + 10000) 0 = n → Ag n (M (t + 11)) f → M t 13 = sm c f → Ok (fX4_workOut_l75 t m c M) (fun q => q.2 t 13 = sm n f ∧ (∀ j, j ≠ 13 → q.2 t j = M t j) ∧ ∀ b, b ≠ t → q.2 b = M b) := by
  intro m
  induction m with
  | zero => intros; omega
  | succ m ih =>
    intro c M h1 h2 hn0 hg hx
    unfold fX4_workOut_l75
    rw [hn0]
    refine ok_ite (fun hc => ok_some ?_) (fun hc => ?_)
    · have : c = n := by omega
      subst this
      exact ⟨hx, fun _ _ => rfl, fun _ _ => rfl⟩
    · have hcn : c < n := by omega
      have h3 := hf c hcn
      have h4 : 0 ≤ sm c f := sm_nn (fun d hd => (hf d (by omega)).1)
      have h5 : sm c f ≤ 8 * 4611686000000 := by
        have : ∀ k, k ≤ c → sm k f ≤ k * 4611686000000 := by
          intro k
          induction k with
          | zero => intro _; simp [sm]
          | succ k ih => intro hk; have := ih (by omega); have := (hf k (by omega)).2; show sm k f + f k ≤ _; omega
        have := this c (Nat.le_refl c)
        omega
      have h6 := hg c hcn
      rw [tn, hx, h6]
      (repeat (first | with_reducible refine ok_nm0 ?_ | (with_reducible refine ok_chk ?_ ?_; · omega) | (with_reducible refine ok_if ?_ ?_; · omega) | (with_reducible refine ok_el ?_ ?_; · omega) | with_reducible refine ok_some ?_ | with_reducible refine ok_bi ?_ | with_reducible refine ok_bsm ?_)); try dsimp only
      refine (ih (c + 1) _ (by omega) (by omega) ?_ ?_ ?_).mono (fun z hz => ⟨hz.1, fun j hj => ?_, fun b hb => ?_⟩)
      · rw [wrn (by omega)]; exact hn0
      · rw [wrn (by omega)]; exact hg
      · rw [wra]; rfl
      · rw [hz.2.1 j hj, wrk _ hj]
      · rw [hz.2.2 b hb, wrn hb]
/-- what WORK OUT leaves -/
theorem workOut_ok {t : Nat} {p : PL} {K : Vec} {M : Mem} (h : WF p) (hK : KB p.n K) (hp : PAc M (t + 20) (gat p)) (hk : Ag p.n (M (t + 10)) K) (hc : PCc M (t + 10000) p) : Ok (fX4_workOut t M) (fun q => Ag p.n (q.2 (t + 11)) (VT p K).2 ∧ q.2 t 12 = (VT p K).1 ∧ q.2 t 13 = sm p.n (VT p K).2 ∧ q.2 t 11 = quo p (VT p K).2 ∧ (∀ j, j ≠ 11 → j ≠ 12 → j ≠ 13 → q.2 t j = M t j) ∧ ∀ b, b ≠ t → b ≠ t + 11 → q.2 b = M b) := by
  have hbd := VT_bd h hK
  have hqb := quo_bd h hbd.2.2.2.1 hbd.2.2.2.2
  have hs := h.2.2.2.2.2.2.1
  have h25 := (gat_ok h).1
  have h8 := h.1
  unfold fX4_workOut
  refine ok_by (fill8_ok (t + 11) M) (fun q hq => ?_)
  (first | with_reducible refine ok_nm0 ?_ | (with_reducible refine ok_chk ?_ ?_; · omega) | (with_reducible refine ok_if ?_ ?_; · omega) | (with_reducible refine ok_el ?_ ?_; · omega) | with_reducible refine ok_some ?_ | with_reducible refine ok_bi ?_ | with_reducible refine ok_bsm ?_)
  have f1 : ∀ b, b ≠ t + 11 → q.2 b = M b := fun b hb => by rw [hq]; funext j; dsimp only; rw [if_neg (by omega)]
  refine ok_by (workOut_l15 h hK 1000 0 _ (by omega) (by omega) ⟨?_, fun j r hj => ?_⟩ ?_ ?_ ?_) (fun z hz => ?_)
  · rw [wrn (by omega), f1 _ (by omega)]; exact hp.1
  · rw [wrn (by omega), wrn (by omega), f1 _ (by omega), f1 _ (by omega)]; exact hp.2 j r hj
  · rw [wrn (by omega), f1 _ (by omega)]; exact hk
  · rw [wrn (by omega), hq]
    intro c hc2
    try dsimp only
    rw [if_pos ⟨rfl, by omega⟩]
    rfl
  · rw [wra]; rfl
  · obtain ⟨z1, z2, z3, z4⟩ := hz
    (first | with_reducible refine ok_nm0 ?_ | (with_reducible refine ok_chk ?_ ?_; · omega) | (with_reducible refine ok_if ?_ ?_; · omega) | (with_reducible refine ok_el ?_ ?_; · omega) | with_reducible refine ok_some ?_ | with_reducible refine ok_bi ?_ | with_reducible refine ok_bsm ?_)
    refine ok_by (workOut_l75 h.1 hbd.2.2.1 1000 0 _ (by omega) (by omega) ?_ ?_ ?_) (fun y hy => ?_)
    · rw [wrn (by omega), z4 _ (by omega) (by omega), wrn (by omega), f1 _ (by omega)]; exact hc.1
    · rw [wrn (by omega)]; exact z1
    · rw [wra]; rfl
    · obtain ⟨y1, y2, y3⟩ := hy
      have hse : y.2 (t + 10000) 6 = p.se := by
        rw [y3 _ (by omega), wrn (by omega), z4 _ (by omega) (by omega), wrn (by omega), f1 _ (by omega)]; exact hc.2.2.2.2.1
      rw [hse, y1]
      (repeat (first | with_reducible refine ok_nm0 ?_ | (with_reducible refine ok_chk ?_ ?_; · omega) | (with_reducible refine ok_if ?_ ?_; · omega) | (with_reducible refine ok_el ?_ ?_; · omega) | with_reducible refine ok_some ?_ | with_reducible refine ok_bi ?_ | with_reducible refine ok_bsm ?_)); try dsimp only
      refine ok_bs (cut_ok hbd.2.2.2.1 (by omega) _) ?_
      have hqq : sm p.n (VT p K).2 / (p.se + 1) + 1 = quo p (VT p K).2 := rfl
      (repeat (first | with_reducible refine ok_nm0 ?_ | (with_reducible refine ok_chk ?_ ?_; · omega) | (with_reducible refine ok_if ?_ ?_; · omega) | (with_reducible refine ok_el ?_ ?_; · omega) | with_reducible refine ok_some ?_ | with_reducible refine ok_bi ?_ | with_reducible refine ok_bsm ?_)); try dsimp only
      refine ⟨?_, ?_, ?_, ?_, fun j j1 j2 j3 => ?_, fun b b1 b2 => ?_⟩
      · rw [wrn (by omega), y3 _ (by omega), wrn (by omega)]; exact z1
      · rw [wrk _ (by omega), y2 _ (by omega), wrk _ (by omega)]; exact z2
      · rw [wrk _ (by omega)]; exact y1
      · rw [wra]; rfl
      · rw [wrk _ j1, y2 _ j3, wrk _ j3, z3 _ j2, wrk _ j2, f1 _ (by omega)]
      · rw [wrn b1, y3 _ b1, wrn b1, z4 _ b1 b2, wrn b1, f1 _ b2]
end
end
section
section
/-! VOTES, the other one's -/
theorem tell_l53 {a k n : Nat} {l : List Int} {K g0 : Vec} {S left : Int} (hk25 : k < 25) (hn : n ≤ 8) (hl : rl l) (hd : ∀ d ∈ l, d ≤ (n : Int)) (hK : KB n K) (h0 : PI n S (left, g0)) (hS : S ≤ 4611686000000) : ∀ (m i : Nat) (x : Int) (M : Mem), i ≤ l.length → 8 < m + i → x = (pass K (l.take i) (left, g0)).1 → M (a + 20) k = num l → Ag n (M (a + 29)) (pass K (l.take i) (left, g0)).2 → Ag n (M (a + 26)) K → Ok (fX9_tellVotes_l53 a k m x i M) (fun z => z.1 = (pass K l (left, g0)).1 ∧ Ag n (z.2.2 (a + 29)) (pass K l (left, g0)).2 ∧ ∀ b, b ≠ a + 29 → z.2.2 b = M b) := by
  intro m
  have hdn : ∀ d ∈ l, (d - 1).toNat < n := fun d hx => by have := hl.1 d hx; have := hd d hx; omega
  induction m with
  | zero => intro i; have := hl.2; intros; omega
  | succ m ih =>
    intro i x M h1 h2 hx hr hg hk
    have h8 := hl.2
    unfold fX9_tellVotes_l53
    rw [tn, hr]
    (first | with_reducible refine ok_nm0 ?_ | (with_reducible refine ok_chk ?_ ?_; · omega) | (with_reducible refine ok_if ?_ ?_; · omega) | (with_reducible refine ok_el ?_ ?_; · omega) | with_reducible refine ok_some ?_ | with_reducible refine ok_bi ?_ | with_reducible refine ok_bsm ?_)
    refine ok_bs (lengthOf_ok hl M) ?_
    refine ok_ite (fun hc => ok_some ?_) (fun hc => ?_)
    · have hc : i = l.length := by (try dsimp only at hc); omega
      rw [hc, List.take_length] at hx hg
      exact ⟨hx, hg, fun _ _ => rfl⟩
    · have hi : i < l.length := by (try dsimp only at hc); omega
      simp only [hr]
      (first | with_reducible refine ok_nm0 ?_ | (with_reducible refine ok_chk ?_ ?_; · omega) | (with_reducible refine ok_if ?_ ?_; · omega) | (with_reducible refine ok_el ?_ ?_; · omega) | with_reducible refine ok_some ?_ | with_reducible refine ok_bi ?_ | with_reducible refine ok_bsm ?_)
      refine ok_bs (digitAt_ok hl hi M) ?_
      have hr2 := rl_getD hl hi
      have hdl : l.getD i 0 ≤ n := by rw [getD_lt hi]; exact hd _ (List.getElem_mem hi)
      have hs := pass_PI hK (l.take i) (left, g0) (fun d hx => hdn d (List.mem_of_mem_take hx)) h0
      have hle := hs.le
      have hnx : pass K (l.take (i + 1)) (left, g0) = pstep K (l.getD i 0) (pass K (l.take i) (left, g0)) := take_fold (by rw [List.getElem?_eq_getElem hi, getD_lt hi])
      generalize hP : pass K (l.take i) (left, g0) = s at *
      have hcn : (l.getD i 0 - 1).toNat < n := by omega
      have hkk := hK _ hcn
      have hkv := hk _ hcn
      have hgv := hg _ hcn
      have hpb := part_bd hs.1 hkk.1 hkk.2
      have hpb2 := mul_bd hs.1 hle.1 hkk.1 hkk.2
      have hgb := hle.2 _ hcn
      have hgb0 := hs.2.1 _ hcn
      rw [← hkv, ← hx] at hpb hpb2
      rw [← hgv] at hgb hgb0
      have hxb := hs.1
      have hxb2 := hle.1
      rw [← hx] at hxb hxb2
      try dsimp only
      (repeat (first | with_reducible refine ok_nm0 ?_ | (with_reducible refine ok_chk ?_ ?_; · omega) | (with_reducible refine ok_if ?_ ?_; · omega) | (with_reducible refine ok_el ?_ ?_; · omega) | with_reducible refine ok_some ?_ | with_reducible refine ok_bi ?_ | with_reducible refine ok_bsm ?_)); try dsimp only
      refine (ih (i + 1) _ _ (by omega) (by omega) ?_ ?_ ?_ ?_).mono (fun z hz => ?_)
      · rw [hnx]
        show _ = s.1 - s.1 * K (l.getD i 0 - 1).toNat / 1000000
        rw [← hx, ← hkv]
      · rw [wrn (by omega)]; exact hr
      · rw [hnx, wre]
        refine hg.up _ ?_
        rw [← hx, ← hkv, hgv]
      · rw [wrn (by omega)]; exact hk
      · obtain ⟨a1, a2, a3⟩ := hz
        exact ⟨a1, a2, fun b hb => by rw [a3 b hb, wrn hb]⟩
theorem tell_l30 {a : Nat} {p : PL} {K : Vec} (h : WF p) (hK : KB p.n K) : ∀ (m k : Nat) (M : Mem), k ≤ (gat p).length → (gat p).length < m + k → PAm M a (gat p) → Ag p.n (M (a + 26)) K → Ag p.n (M (a + 29)) (vt K ((gat p).take k) (0, fun _ => 0)).2 → M a 30 = (vt K ((gat p).take k) (0, fun _ => 0)).1 → Ok (fX9_tellVotes_l30 a m k M) (fun q => Ag p.n (q.2 (a + 29)) (VT p K).2 ∧ q.2 a 30 = (VT p K).1 ∧ (∀ j, j ≠ 30 → q.2 a j = M a j) ∧ ∀ b, b ≠ a → b ≠ a + 29 → q.2 b = M b) := by
  intro m
  obtain ⟨g1, g2, g3⟩ := gat_ok h
  induction m with
  | zero => intros; omega
  | succ m ih =>
    intro k M h1 h2 hp hk hg hx
    unfold fX9_tellVotes_l30
    rw [hp.1]
    refine ok_ite (fun hc => ok_some ?_) (fun hc => ?_)
    · have e : k = (gat p).length := by omega
      rw [e, List.take_length] at hg hx
      exact ⟨hg, hx, fun _ _ => rfl, fun _ _ _ => rfl⟩
    · obtain ⟨r, hr⟩ := getq (pl := gat p) (j := k) (by omega)
      have hrg := g2 r (List.mem_of_getElem? hr)
      have hv := hp.2 k r hr
      have hsp := (sp_take g2 k).2 r hr
      have hnn := sp_nn (fun q hq => (pl_take g2 k q hq).2.2.2)
      have hI := vt_take h hK k
      have hle := hI.le
      have hn1 : vt K ((gat p).take (k + 1)) (0, fun _ => 0) = vstep K r (vt K ((gat p).take k) (0, fun _ => 0)) := take_fold hr
      have hI2 := vt_take h hK (k + 1)
      have hle2 := hI2.le
      have hsp2 := (sp_take g2 (k + 1)).1
      have hmn := hrg.2.2.2
      generalize hP : vt K ((gat p).take k) (0, fun _ => 0) = s at *
      have hI0 : PI p.n (r.2 * 1000000 + sm p.n s.2) (r.2 * 1000000, s.2) := ⟨by (try dsimp only); omega, hI.2.1, rfl⟩
      have hsn := hI.2.2
      have hs1 := hI.1
      rw [tn, hv.2.2, Int.mul_comm]
      (repeat (first | with_reducible refine ok_nm0 ?_ | (with_reducible refine ok_chk ?_ ?_; · omega) | (with_reducible refine ok_if ?_ ?_; · omega) | (with_reducible refine ok_el ?_ ?_; · omega) | with_reducible refine ok_some ?_ | with_reducible refine ok_bi ?_ | with_reducible refine ok_bsm ?_)); try dsimp only
      refine ok_by (tell_l53 (by omega) h.1 hrg.1 hrg.2.2.1 hK hI0 (by omega) 1000 0 _ M (by omega) (by omega) rfl hv.1 hg hk) (fun q hq => ?_)
      obtain ⟨q1, q2, q3⟩ := hq
      have hq1 : 0 ≤ q.1 ∧ s.1 + q.1 ≤ 4611686000000 := by
        rw [hn1] at hle2 hI2
        have h5 := hle2.1
        have h6 : (vstep K r s).1 = s.1 + q.1 := by rw [q1]; rfl
        have h7 := pass_PI hK r.1 _ (fun d hd => by have := hrg.1.1 d hd; have := hrg.2.2.1 d hd; omega) hI0
        exact ⟨by rw [q1]; exact h7.1, by omega⟩
      have hx2 : q.2.2 a 30 = s.1 := by rw [q3 _ (by omega)]; exact hx
      rw [hx2]
      (repeat (first | with_reducible refine ok_nm0 ?_ | (with_reducible refine ok_chk ?_ ?_; · omega) | (with_reducible refine ok_if ?_ ?_; · omega) | (with_reducible refine ok_el ?_ ?_; · omega) | with_reducible refine ok_some ?_ | with_reducible refine ok_bi ?_ | with_reducible refine ok_bsm ?_)); try dsimp only
      refine (ih (k + 1) _ (by omega) (by omega) ⟨?_, fun j r hj => ?_⟩ ?_ ?_ ?_).mono (fun z hz => ⟨hz.1, hz.2.1, fun j hj => ?_, fun b hb1 hb2 => ?_⟩)
      · rw [wrk _ (by omega), q3 _ (by omega)]; exact hp.1
      · rw [wrn (by omega), wrn (by omega), wrn (by omega), q3 _ (by omega), q3 _ (by omega), q3 _ (by omega)]; exact hp.2 j r hj
      · rw [wrn (by omega), q3 _ (by omega)]; exact hk
      · rw [hn1, wrn (by omega)]; exact q2
      · rw [hn1, wra, q1]; rfl
      · rw [hz.2.2.1 j hj, wrk _ hj, q3 _ (by omega)]
      · rw [hz.2.2.2 b hb1 hb2, wrn hb1, q3 _ hb2]
theorem tell_l2 {a n : Nat} {M0 : Mem} (hn : n ≤ 8) (h0 : M0 a 0 = n) : ∀ (m i : Nat) (M : Mem), i ≤ n → n < m + i → M = (fun b j => if b = a + 29 ∧ j < i then 0 else M0 b j) → Ok (fX9_tellVotes_l2 a m i M) (fun q => q.2 = fun b j => if b = a + 29 ∧ j < n then 0 else M0 b j) := by
  intro m
  induction m with
  | zero => intros; omega
  | succ m ih =>
    intro i M h1 h2 hM
    unfold fX9_tellVotes_l2
    have e : M a 0 = n := by rw [hM]; simp [h0]
    rw [e]
    refine ok_ite (fun hc => ok_some ?_) (fun hc => ?_)
    · have : i = n := by omega
      subst this; exact hM
    · (repeat (first | with_reducible refine ok_nm0 ?_ | (with_reducible refine ok_chk ?_ ?_; · omega) | (with_reducible refine ok_if ?_ ?_; · omega) | (with_reducible refine ok_el ?_ ?_; · omega) | with_reducible refine ok_some ?_ | with_reducible refine ok_bi ?_ | with_reducible refine ok_bsm ?_)); try dsimp only
      refine ih (i + 1) _ (by omega) (by omega) ?_
      rw [hM]
      funext b j
      simp only [wr, tn]
      grind
theorem tell_l144 {a n : Nat} {f : Vec} (hn : n ≤ 8) (hf : ∀ c, c < n → 0 ≤ f c ∧ f c ≤ 4611686000000) : ∀ (m c : Nat) (M : Mem), c ≤ n → n < m + c → M a 0 = n → Ag n (M (a + 29)) f → M a 32 = sm c f → Ok (fX9_tellVotes_l144 a m c M) (fun q => q.2 a 32 = sm n f ∧ (∀ j, j ≠ 32 → q.2 a j = M a j) ∧ ∀ b, b ≠ a → q.2 b = M b) := by
  intro m
  induction m with
  | zero => intros; omega
  | succ m ih =>
    intro c M h1 h2 hn0 hg hx
    unfold fX9_tellVotes_l144
    rw [hn0]
    refine ok_ite (fun hc => ok_some ?_) (fun hc => ?_)
    · have : c = n := by omega
      subst this
      exact ⟨hx, fun _ _ => rfl, fun _ _ => rfl⟩
    · have hcn : c < n := by omega
      have h3 := hf c hcn
      have h4 : 0 ≤ sm c f := sm_nn (fun d hd => (hf d (by omega)).1)
      have h5 : sm c f ≤ 8 * 4611686000000 := by
        have : ∀ k, k ≤ c → sm k f ≤ k * 4611686000000 := by
          intro k
          induction k with
          | zero => intro _; simp [sm]
          | succ k ih => intro hk; have := ih (by omega); have := (hf k (by omega)).2; show sm k f + f k ≤ _; omega
        have := this c (Nat.le_refl c)
        omega
      have h6 := hg c hcn
      rw [tn, hx, h6]
      (repeat (first | with_reducible refine ok_nm0 ?_ | (with_reducible refine ok_chk ?_ ?_; · omega) | (with_reducible refine ok_if ?_ ?_; · omega) | (with_reducible refine ok_el ?_ ?_; · omega) | with_reducible refine ok_some ?_ | with_reducible refine ok_bi ?_ | with_reducible refine ok_bsm ?_)); try dsimp only
      refine (ih (c + 1) _ (by omega) (by omega) ?_ ?_ ?_).mono (fun z hz => ⟨hz.1, fun j hj => ?_, fun b hb => ?_⟩)
      · rw [wrk _ (by omega)]; exact hn0
      · rw [wrn (by omega)]; exact hg
      · rw [wra]; rfl
      · rw [hz.2.1 j hj, wrk _ hj]
      · rw [hz.2.2 b hb, wrn hb]
theorem tellVotes_ok {a : Nat} {p : PL} {K : Vec} {M : Mem} (h : WF p) (hK : KB p.n K) (hp : PAm M a (gat p)) (hk : Ag p.n (M (a + 26)) K) (hc : PMm M a p) : Ok (fX9_tellVotes a M) (fun q => Ag p.n (q.2 (a + 29)) (VT p K).2 ∧ q.2 a 30 = (VT p K).1 ∧ q.2 a 32 = sm p.n (VT p K).2 ∧ q.2 a 29 = quo p (VT p K).2 ∧ (∀ j, j ≠ 29 → j ≠ 30 → j ≠ 32 → q.2 a j = M a j) ∧ ∀ b, b ≠ a → b ≠ a + 29 → q.2 b = M b) := by
  have hbd := VT_bd h hK
  have hqb := quo_bd h hbd.2.2.2.1 hbd.2.2.2.2
  have hs := h.2.2.2.2.2.2.1
  have h25 := (gat_ok h).1
  have h8 := h.1
  unfold fX9_tellVotes
  refine ok_by (tell_l2 h.1 hc.1 1000 0 M (by omega) (by omega) (by funext b j; simp)) (fun q hq => ?_)
  (first | with_reducible refine ok_nm0 ?_ | (with_reducible refine ok_chk ?_ ?_; · omega) | (with_reducible refine ok_if ?_ ?_; · omega) | (with_reducible refine ok_el ?_ ?_; · omega) | with_reducible refine ok_some ?_ | with_reducible refine ok_bi ?_ | with_reducible refine ok_bsm ?_)
  have f1 : ∀ b, b ≠ a + 29 → q.2 b = M b := fun b hb => by rw [hq]; funext j; dsimp only; rw [if_neg (by omega)]
  refine ok_by (tell_l30 h hK 1000 0 _ (by omega) (by omega) ⟨?_, fun j r hj => ?_⟩ ?_ ?_ ?_) (fun z hz => ?_)
  · rw [wrk _ (by omega), f1 _ (by omega)]; exact hp.1
  · rw [wrn (by omega), wrn (by omega), wrn (by omega), f1 _ (by omega), f1 _ (by omega), f1 _ (by omega)]; exact hp.2 j r hj
  · rw [wrn (by omega), f1 _ (by omega)]; exact hk
  · rw [wrn (by omega), hq]
    intro c hc2
    dsimp only
    rw [if_pos ⟨rfl, by omega⟩]
    rfl
  · rw [wra]; rfl
  · obtain ⟨z1, z2, z3, z4⟩ := hz
    (first | with_reducible refine ok_nm0 ?_ | (with_reducible refine ok_chk ?_ ?_; · omega) | (with_reducible refine ok_if ?_ ?_; · omega) | (with_reducible refine ok_el ?_ ?_; · omega) | with_reducible refine ok_some ?_ | with_reducible refine ok_bi ?_ | with_reducible refine ok_bsm ?_)
    refine ok_by (tell_l144 h.1 hbd.2.2.1 1000 0 _ (by omega) (by omega) ?_ ?_ ?_) (fun y hy => ?_)
    · rw [wrk _ (by omega), z3 _ (by omega), wrk _ (by omega), f1 _ (by omega)]; exact hc.1
    · rw [wrn (by omega)]; exact z1
    · rw [wra]; rfl
    · obtain ⟨y1, y2, y3⟩ := hy
      have hse : y.2 a 6 = p.se := by
        rw [y2 _ (by omega), wrk _ (by omega), z3 _ (by omega), wrk _ (by omega), f1 _ (by omega)]; exact hc.2.2.2.2.1
      have hqq : sm p.n (VT p K).2 / (p.se + 1) + 1 = quo p (VT p K).2 := rfl
      rw [hse, y1]
      (repeat (first | with_reducible refine ok_nm0 ?_ | (with_reducible refine ok_chk ?_ ?_; · omega) | (with_reducible refine ok_if ?_ ?_; · omega) | (with_reducible refine ok_el ?_ ?_; · omega) | with_reducible refine ok_some ?_ | with_reducible refine ok_bi ?_ | with_reducible refine ok_bsm ?_)); try dsimp only
      refine ⟨?_, ?_, ?_, ?_, fun j j1 j2 j3 => ?_, fun b b1 b2 => ?_⟩
      · rw [wrn (by omega), y3 _ (by omega), wrn (by omega)]; exact z1
      · rw [wrk _ (by omega), y2 _ (by omega), wrk _ (by omega)]; exact z2
      · rw [wrk _ (by omega)]; exact y1
      · rw [wra]; rfl
      · rw [wrk _ j1, y2 _ j3, wrk _ j3, z3 _ j2, wrk _ j2, f1 _ (by omega)]
      · rw [wrn b1, y3 _ b1, wrn b1, z4 _ b1 b2, wrn b1, f1 _ b2]
end
end
section
section
/-! THE LOT -/
def posR (lot : Vec) (c : Nat) : Nat → Int
  | 0 => 0
  | i + 1 => if lot i = (c : Int) then (i : Int) else posR lot c i
def pos (p : PL) : Vec := fun c => posR p.lot c p.n
def npos (p : PL) : Vec := fun c => - pos p c
theorem posR_eq {lot : Vec} {c i : Nat} (hi : lot i = (c : Int)) : ∀ m, i < m → (∀ j, j < m → lot j = (c : Int) → j = i) → posR lot c m = i
  | 0, h, _ => by omega
  | m + 1, h, hu => by
    unfold posR
    by_cases e : lot m = (c : Int)
    · rw [if_pos e, hu m (by omega) e]
    · rw [if_neg e]
      have : i ≠ m := fun e2 => e (e2 ▸ hi)
      exact posR_eq hi m (by omega) (fun j hj => hu j (by omega))
theorem Perm.at {n : Nat} {lot : Vec} (h : Perm n lot) {i : Nat} (hi : i < n) : ∃ c, c < n ∧ lot i = (c : Int) := by
  obtain ⟨inv, h1, h2⟩ := h
  obtain ⟨c, hc, e, _⟩ := h1 i hi
  exact ⟨c, hc, e⟩
theorem Perm.inj {n : Nat} {lot : Vec} (h : Perm n lot) {i j : Nat} (hi : i < n) (hj : j < n) (e : lot i = lot j) : i = j := by
  obtain ⟨inv, h1, h2⟩ := h
  obtain ⟨c, hc, e1, e2⟩ := h1 i hi
  obtain ⟨d, hd, e3, e4⟩ := h1 j hj
  have : c = d := by rw [e1, e3] at e; exact_mod_cast e
  rw [← e2, ← e4, this]
theorem Perm.sur {n : Nat} {lot : Vec} (h : Perm n lot) {c : Nat} (hc : c < n) : ∃ i, i < n ∧ lot i = (c : Int) := by
  obtain ⟨inv, h1, h2⟩ := h
  exact ⟨inv c, h2 c hc⟩
theorem pos_lot {p : PL} (h : WF p) {i c : Nat} (hi : i < p.n) (e : p.lot i = (c : Int)) : pos p c = i := posR_eq e p.n hi (fun j hj e2 => h.2.2.2.1.inj hj hi (by rw [e, e2]))
theorem pos_at {p : PL} (h : WF p) {c : Nat} (hc : c < p.n) : ∃ i, i < p.n ∧ p.lot i = (c : Int) ∧ pos p c = i := by
  obtain ⟨i, hi, e⟩ := h.2.2.2.1.sur hc
  exact ⟨i, hi, e, pos_lot h hi e⟩
theorem pos_inj {p : PL} (h : WF p) : ∀ c d, c < p.n → d < p.n → pos p c = pos p d → c = d := by
  intro c d hc hd e
  obtain ⟨i, hi, e1, e2⟩ := pos_at h hc
  obtain ⟨j, hj, e3, e4⟩ := pos_at h hd
  have : i = j := by omega
  subst this
  rw [e1] at e3
  exact_mod_cast e3
theorem npos_inj {p : PL} (h : WF p) : ∀ c d, c < p.n → d < p.n → npos p c = npos p d → c = d := fun c d hc hd e => pos_inj h c d hc hd (by unfold npos at e; omega)
/-- the most first -/
def av (p : PL) (got : Vec) : List Vec := [fun c => - got c, pos p]
theorem av_tot {p : PL} (h : WF p) (got : Vec) : Tot p.n (av p got) := (Tot.one (pos_inj h)).cons _
theorem av_iff {p : PL} {got : Vec} {c d : Nat} : lx (av p got) c d = true ↔ got d < got c ∨ (got c = got d ∧ pos p c < pos p d) := by
  unfold av
  rw [lx_cons, lx_cons]
  simp only [lx]
  constructor
  · rintro (h | ⟨h, h2 | ⟨_, h3⟩⟩)
    · exact Or.inl (by omega)
    · exact Or.inr ⟨by omega, h2⟩
    · cases h3
  · rintro (h | ⟨h, h2⟩)
    · exact Or.inl (by omega)
    · exact Or.inr ⟨by omega, Or.inl h2⟩
def opt : Option Nat → Int
  | none => -1
  | some c => c
theorem scan_vcongr : ∀ {n : Nat} {vs us : List Vec} {w : Nat → Bool}, (∀ c d, c < n → d < n → lx vs c d = lx us c d) → scan n vs w = scan n us w
  | 0, _, _, _, _ => rfl
  | n + 1, vs, us, w, h => by
    have ih := scan_vcongr (n := n) (vs := vs) (us := us) (w := w) (fun c d hc hd => h c d (by omega) (by omega))
    unfold scan
    rw [ih]
    cases e : scan n us w with
    | none => rfl
    | some b =>
      have hb : b < n := by
        have : ∀ {m : Nat} {b : Nat}, scan m us w = some b → b < m := by
          intro m
          induction m with
          | zero => intro b h; cases h
          | succ m ih =>
            intro b h
            unfold scan at h
            split at h
            · cases e2 : scan m us w with
              | none => rw [e2] at h; cases h; omega
              | some d =>
                rw [e2] at h
                dsimp only at h
                split at h
                · cases h; omega
                · cases h; have := ih e2; omega
            · have := ih h; omega
        exact this e
      dsimp only
      rw [h n b (by omega) (by omega)]
theorem srt_vcongr : ∀ {k n : Nat} {vs us : List Vec} {w : Nat → Bool}, (∀ c d, c < n → d < n → lx vs c d = lx us c d) → srt k n vs w = srt k n us w
  | 0, _, _, _, _, _ => rfl
  | k + 1, n, vs, us, w, h => by
    have e2 := scan_vcongr (w := w) h
    cases e : scan n vs w with
    | none => rw [srt_none e, srt_none (e2 ▸ e)]
    | some c => rw [srt_some e, srt_some (e2 ▸ e), srt_vcongr h]
theorem av_congr {p : PL} {f g : Vec} (h : Ag p.n f g) : ∀ c d, c < p.n → d < p.n → lx (av p f) c d = lx (av p g) c d := by
  intro c d hc hd
  have h1 := h c hc
  have h2 := h d hd
  rw [Bool.eq_iff_iff, av_iff, av_iff, h1, h2]
theorem bt_f {w : Int} (h0 : 0 ≤ w) (h1 : w < 512) {c : Nat} (hc : c < 9) (h : bt w c = false) : bAnd (bShr w (c : Int)) 1 = 0 := by
  rw [bt_shr h0 h1 hc, h]; rfl
theorem bt_t {w : Int} (h0 : 0 ≤ w) (h1 : w < 512) {c : Nat} (hc : c < 9) (h : bt w c = true) : bAnd (bShr w (c : Int)) 1 = 1 := by
  rw [bt_shr h0 h1 hc, h]; rfl
theorem leader_l28 {t v : Nat} {p : PL} {M : Mem} {left i k : Int} (h : WF p) (hc : PCc M (t + 10000) p) (h0 : 0 ≤ left) (h1 : left < 256) : ∀ (m q : Nat) (x : Int), q ≤ p.n → p.n < m + q → ((x = -1 ∧ ∀ j c : Nat, j < q → p.lot j = (c : Int) → bt left c = false) ∨ ∃ c : Nat, x = c ∧ c < p.n ∧ bt left c = true ∧ pos p c < q ∧ ∀ j d : Nat, j < q → p.lot j = (d : Int) → bt left d = true → d ≠ c → lx (av p (M v)) c d = true) → Ok (fX4_leader_l28 t v i left k m x q M) (fun z => z.1 = opt (scan p.n (av p (M v)) (bt left)) ∧ z.2.2 = M) := by
  intro m
  have hn8 := h.1
  induction m with
  | zero => intros; omega
  | succ m ih =>
    intro q x h2 h3 hI
    unfold fX4_leader_l28
    rw [hc.1]
    refine ok_ite (fun hq => ok_some ⟨?_, rfl⟩) (fun hq => ?_)
    · have e : q = p.n := by omega
      subst e
      rcases hI with ⟨e, hno⟩ | ⟨c, e, hcn, hb, _, hall⟩
      · rw [scan_no (av_tot h _) (fun c hc => by obtain ⟨j, hj, e2, _⟩ := pos_at h hc; exact hno j c hj e2)]
        exact e
      · rw [scan_min (av_tot h _) (c := c) ⟨hcn, hb, fun d hd hbd hne => by obtain ⟨j, hj, e2, _⟩ := pos_at h hd; exact hall j d hj e2 hbd hne⟩]
        exact e
    · have hqn : q < p.n := by omega
      obtain ⟨d, hd, ed⟩ := h.2.2.2.1.at hqn
      have hl := (hc.2.2.1 q hqn).2
      have hpd := pos_lot h hqn ed
      (repeat (first | with_reducible refine ok_nm0 ?_ | (with_reducible refine ok_chk ?_ ?_; · omega) | (with_reducible refine ok_if ?_ ?_; · omega) | (with_reducible refine ok_el ?_ ?_; · omega) | with_reducible refine ok_some ?_ | with_reducible refine ok_bi ?_ | with_reducible refine ok_bsm ?_)); try dsimp only
      rw [tn, hl, ed]
      cases hb : bt left d
      · have hz := bt_f h0 (by omega) (by omega) hb
        (repeat (first | with_reducible refine ok_nm0 ?_ | (with_reducible refine ok_chk ?_ ?_; · omega) | (with_reducible refine ok_if ?_ ?_; · omega) | (with_reducible refine ok_el ?_ ?_; · omega) | with_reducible refine ok_some ?_ | with_reducible refine ok_bi ?_ | with_reducible refine ok_bsm ?_)); try dsimp only
        refine ih (q + 1) x (by omega) (by omega) ?_
        rcases hI with ⟨e, hno⟩ | ⟨c, e, hcn, hbc, hpc, hall⟩
        · refine Or.inl ⟨e, fun j c hj ec => ?_⟩
          by_cases ej : j = q
          · subst ej
            rw [ed] at ec
            have : d = c := by exact_mod_cast ec
            subst this; exact hb
          · exact hno j c (by omega) ec
        · refine Or.inr ⟨c, e, hcn, hbc, by omega, fun j f hj ef hbf hne => ?_⟩
          by_cases ej : j = q
          · subst ej
            rw [ed] at ef
            have : d = f := by exact_mod_cast ef
            subst this; rw [hb] at hbf; cases hbf
          · exact hall j f (by omega) ef hbf hne
      · have hz := bt_t h0 (by omega) (by omega) hb
        (repeat (first | with_reducible refine ok_nm0 ?_ | (with_reducible refine ok_chk ?_ ?_; · omega) | (with_reducible refine ok_if ?_ ?_; · omega) | (with_reducible refine ok_el ?_ ?_; · omega) | with_reducible refine ok_some ?_ | with_reducible refine ok_bi ?_ | with_reducible refine ok_bsm ?_)); try dsimp only
        rcases hI with ⟨e, hno⟩ | ⟨c, e, hcn, hbc, hpc, hall⟩
        · (repeat (first | with_reducible refine ok_nm0 ?_ | (with_reducible refine ok_chk ?_ ?_; · omega) | (with_reducible refine ok_if ?_ ?_; · omega) | (with_reducible refine ok_el ?_ ?_; · omega) | with_reducible refine ok_some ?_ | with_reducible refine ok_bi ?_ | with_reducible refine ok_bsm ?_)); try dsimp only
          refine ih (q + 1) _ (by omega) (by omega) (Or.inr ⟨d, rfl, hd, hb, by omega, fun j f hj ef hbf hne => ?_⟩)
          by_cases ej : j = q
          · subst ej
            rw [ed] at ef
            exact absurd (by exact_mod_cast ef.symm) hne
          · rw [hno j f (by omega) ef] at hbf; cases hbf
        · subst e
          have hne : d ≠ c := fun e => by subst e; omega
          (repeat (first | with_reducible refine ok_nm0 ?_ | (with_reducible refine ok_chk ?_ ?_; · omega) | (with_reducible refine ok_if ?_ ?_; · omega) | (with_reducible refine ok_el ?_ ?_; · omega) | with_reducible refine ok_some ?_ | with_reducible refine ok_bi ?_ | with_reducible refine ok_bsm ?_)); try dsimp only
          rw [tn, tn]
          refine ok_ite (fun hle => ?_) (fun hle => ?_)
          · (repeat (first | with_reducible refine ok_nm0 ?_ | (with_reducible refine ok_chk ?_ ?_; · omega) | (with_reducible refine ok_if ?_ ?_; · omega) | (with_reducible refine ok_el ?_ ?_; · omega) | with_reducible refine ok_some ?_ | with_reducible refine ok_bi ?_ | with_reducible refine ok_bsm ?_)); try dsimp only
            refine ih (q + 1) _ (by omega) (by omega) (Or.inr ⟨c, rfl, hcn, hbc, by omega, fun j f hj ef hbf hnf => ?_⟩)
            by_cases ej : j = q
            · subst ej
              rw [ed] at ef
              have : d = f := by exact_mod_cast ef
              subst this
              rw [av_iff]
              by_cases e2 : M v c = M v d
              · exact Or.inr ⟨e2, by omega⟩
              · exact Or.inl (by omega)
            · exact hall j f (by omega) ef hbf hnf
          · (repeat (first | with_reducible refine ok_nm0 ?_ | (with_reducible refine ok_chk ?_ ?_; · omega) | (with_reducible refine ok_if ?_ ?_; · omega) | (with_reducible refine ok_el ?_ ?_; · omega) | with_reducible refine ok_some ?_ | with_reducible refine ok_bi ?_ | with_reducible refine ok_bsm ?_)); try dsimp only
            refine ih (q + 1) _ (by omega) (by omega) (Or.inr ⟨d, rfl, hd, hb, by omega, fun j f hj ef hbf hnf => ?_⟩)
            have hdc : lx (av p (M v)) d c = true := av_iff.mpr (Or.inl (by omega))
            by_cases ej : j = q
            · subst ej
              rw [ed] at ef
              exact absurd (by exact_mod_cast ef.symm) hnf
            · by_cases efc : f = c
              · subst efc; exact hdc
              · exact lx_trans hdc (hall j f (by omega) ef hbf efc)
theorem leader_l9 {t v : Nat} {p : PL} {M : Mem} {i : Nat} (h : WF p) (hc : PCc M (t + 10000) p) (hi : i < 8) : ∀ (m k : Nat) (left x : Int), k ≤ i → i + 1 < m + k → 0 ≤ left → left < 256 → Ok (fX4_leader_l9 t v i m left x k M) (fun z => z.2.1 = opt ((srt (i - k + 1) p.n (av p (M v)) (bt left))[i - k]?) ∧ z.2.2.2 = M) := by
  intro m
  have hn8 := h.1
  induction m with
  | zero => intros; omega
  | succ m ih =>
    intro k left x h2 h3 h0 h1
    unfold fX4_leader_l9
    refine ok_el (by omega) (ok_el (by omega) ?_)
    refine ok_by (leader_l28 h hc h0 h1 1000 0 (-1) (by omega) (by omega) (Or.inl ⟨rfl, fun j c hj => by omega⟩)) (fun z hz => ?_)
    obtain ⟨z1, z2⟩ := hz
    rw [z1, z2]
    have fin : ∀ (left' y : Int), k = i → y = opt (scan p.n (av p (M v)) (bt left)) → Ok (fX4_leader_l9 t v i m left' y (k + 1) M) (fun z => z.2.1 = opt ((srt (i - k + 1) p.n (av p (M v)) (bt left))[i - k]?) ∧ z.2.2.2 = M) := by
      intro left' y e ey
      subst e
      cases m with
      | zero => omega
      | succ m =>
        unfold fX4_leader_l9
        refine ok_if (by omega) (ok_some ⟨?_, rfl⟩)
        show y = _
        rw [ey, Nat.sub_self]
        cases es : scan p.n (av p (M v)) (bt left) with
        | none => rw [srt_none es]; rfl
        | some c => rw [srt_some es]; rfl
    cases es : scan p.n (av p (M v)) (bt left) with
    | none =>
      show Ok (Option.bind (if (-1 : Int) < 0 then _ else _) _) _
      (repeat (first | with_reducible refine ok_nm0 ?_ | (with_reducible refine ok_chk ?_ ?_; · omega) | (with_reducible refine ok_if ?_ ?_; · omega) | (with_reducible refine ok_el ?_ ?_; · omega) | with_reducible refine ok_some ?_ | with_reducible refine ok_bi ?_ | with_reducible refine ok_bsm ?_)); try dsimp only
      by_cases e : k = i
      · exact fin _ _ e (by rw [es])
      · refine (ih (k + 1) left (-1) (by omega) (by omega) h0 h1).mono (fun z hz => ⟨?_, hz.2⟩)
        rw [hz.1, srt_none es, srt_none es]
        rfl
    | some c =>
      have hm := scan_some (av_tot h _) es
      have hc8 : c < 8 := by have := hm.1; omega
      have hcl := bt_cl h0 h1 hc8
      show Ok (Option.bind (if (c : Int) < 0 then _ else _) _) _
      (repeat (first | with_reducible refine ok_nm0 ?_ | (with_reducible refine ok_chk ?_ ?_; · omega) | (with_reducible refine ok_if ?_ ?_; · omega) | (with_reducible refine ok_el ?_ ?_; · omega) | with_reducible refine ok_some ?_ | with_reducible refine ok_bi ?_ | with_reducible refine ok_bsm ?_)); try dsimp only
      by_cases e : k = i
      · exact fin _ _ e (by rw [es])
      · refine (ih (k + 1) _ c (by omega) (by omega) hcl.1 hcl.2.1).mono (fun z hz => ⟨?_, hz.2⟩)
        rw [hz.1, srt_some es, show i - k = i - (k + 1) + 1 by omega, List.getElem?_cons_succ]
        rw [srt_congr (av_tot h _) (w' := wo (bt left) c) (fun d hd => by rw [hcl.2.2 d (by omega)]; rfl)]
theorem leader_ok {t v : Nat} {p : PL} {M : Mem} {i : Nat} {left : Int} (h : WF p) (hc : PCc M (t + 10000) p) (hi : i < 8) (h0 : 0 ≤ left) (h1 : left < 256) : fX4_leader t v left i M = some (opt ((srt (i + 1) p.n (av p (M v)) (bt left))[i]?), M) := by
  apply ok_eq
  unfold fX4_leader
  refine ok_by (leader_l9 h hc hi 1000 0 left _ (by omega) (by omega) h0 h1) (fun z hz => ok_some ?_)
  rw [hz.1, hz.2]
  rfl
theorem whoIs_l {t n : Nat} {what : Int} {M : Mem} (hn : n ≤ 8) (h0 : M (t + 10000) 0 = n) : ∀ (m c : Nat) (x : Int), c ≤ n → n < m + c → x = mk c (fun c => decide (M (t + 3) c = what)) → Ok (fX4_whoIs_l4 t what m x c M) (fun z => z.1 = mk n (fun c => decide (M (t + 3) c = what)) ∧ z.2.2 = M) := by
  intro m
  induction m with
  | zero => intros; omega
  | succ m ih =>
    intro c x h1 h2 hx
    unfold fX4_whoIs_l4
    rw [h0]
    refine ok_ite (fun hc => ok_some ⟨?_, rfl⟩) (fun hc => ?_)
    · have : c = n := by omega
      subst this; exact hx
    · (repeat (first | with_reducible refine ok_nm0 ?_ | (with_reducible refine ok_chk ?_ ?_; · omega) | (with_reducible refine ok_if ?_ ?_; · omega) | (with_reducible refine ok_el ?_ ?_; · omega) | with_reducible refine ok_some ?_ | with_reducible refine ok_bi ?_ | with_reducible refine ok_bsm ?_)); try dsimp only
      rw [tn]
      refine ok_ite (fun hq => ?_) (fun hq => ?_)
      · (repeat (first | with_reducible refine ok_nm0 ?_ | (with_reducible refine ok_chk ?_ ?_; · omega) | (with_reducible refine ok_if ?_ ?_; · omega) | (with_reducible refine ok_el ?_ ?_; · omega) | with_reducible refine ok_some ?_ | with_reducible refine ok_bi ?_ | with_reducible refine ok_bsm ?_)); try dsimp only
        refine ih (c + 1) _ (by omega) (by omega) ?_
        rw [hx, mk_pos (by omega) (by simpa using hq)]
      · (repeat (first | with_reducible refine ok_nm0 ?_ | (with_reducible refine ok_chk ?_ ?_; · omega) | (with_reducible refine ok_if ?_ ?_; · omega) | (with_reducible refine ok_el ?_ ?_; · omega) | with_reducible refine ok_some ?_ | with_reducible refine ok_bi ?_ | with_reducible refine ok_bsm ?_)); try dsimp only
        refine ih (c + 1) _ (by omega) (by omega) ?_
        rw [hx, mk_neg (by simpa using hq)]
theorem whoIs_ok {t n : Nat} {what : Int} {M : Mem} (hn : n ≤ 8) (h0 : M (t + 10000) 0 = n) : fX4_whoIs t what M = some (mk n (fun c => decide (M (t + 3) c = what)), M) := by
  apply ok_eq
  unfold fX4_whoIs
  refine ok_by (whoIs_l hn h0 1000 0 0 (by omega) (by omega) rfl) (fun z hz => ok_some ?_)
  rw [hz.1, hz.2]
theorem lastInLot_l {t : Nat} {p : PL} {w : Int} {M : Mem} (h : WF p) (hc : PCc M (t + 10000) p) (h0 : 0 ≤ w) (h1 : w < 256) : ∀ (m i : Nat), i ≤ p.n → i < m → (∀ j c : Nat, i ≤ j → j < p.n → p.lot j = (c : Int) → bt w c = false) → Ok (fX4_lastInLot_l10 t w m ((i : Int) - 1) M) (fun z => ∃ a, z = .inl a ∧ a.1 = opt (scan p.n [npos p] (bt w)) ∧ a.2 = M) := by
  intro m
  have hn8 := h.1
  have ht : Tot p.n [npos p] := Tot.one (npos_inj h)
  induction m with
  | zero => intros; omega
  | succ m ih =>
    intro i h2 h3 hno
    unfold fX4_lastInLot_l10
    cases i with
    | zero =>
      refine ok_if (by omega) (ok_some ⟨_, rfl, ?_, rfl⟩)
      rw [scan_no ht (fun c hc => by obtain ⟨j, hj, e2, _⟩ := pos_at h hc; exact hno j c (by omega) hj e2)]
      rfl
    | succ i =>
      rw [show ((i + 1 : Nat) : Int) - 1 = (i : Int) by omega]
      obtain ⟨d, hd, ed⟩ := h.2.2.2.1.at (show i < p.n by omega)
      have hl := (hc.2.2.1 i (by omega)).2
      have hpd := pos_lot h (show i < p.n by omega) ed
      (repeat (first | with_reducible refine ok_nm0 ?_ | (with_reducible refine ok_chk ?_ ?_; · omega) | (with_reducible refine ok_if ?_ ?_; · omega) | (with_reducible refine ok_el ?_ ?_; · omega) | with_reducible refine ok_some ?_ | with_reducible refine ok_bi ?_ | with_reducible refine ok_bsm ?_)); try dsimp only
      rw [tn, hl, ed]
      cases hb : bt w d
      · have hz := bt_f h0 (by omega) (by omega) hb
        (repeat (first | with_reducible refine ok_nm0 ?_ | (with_reducible refine ok_chk ?_ ?_; · omega) | (with_reducible refine ok_if ?_ ?_; · omega) | (with_reducible refine ok_el ?_ ?_; · omega) | with_reducible refine ok_some ?_ | with_reducible refine ok_bi ?_ | with_reducible refine ok_bsm ?_)); try dsimp only
        refine ih i (by omega) (by omega) (fun j c hj hjn ec => ?_)
        by_cases ej : j = i
        · subst ej
          rw [ed] at ec
          have : d = c := by exact_mod_cast ec
          subst this; exact hb
        · exact hno j c (by omega) hjn ec
      · have hz := bt_t h0 (by omega) (by omega) hb
        (repeat (first | with_reducible refine ok_nm0 ?_ | (with_reducible refine ok_chk ?_ ?_; · omega) | (with_reducible refine ok_if ?_ ?_; · omega) | (with_reducible refine ok_el ?_ ?_; · omega) | with_reducible refine ok_some ?_ | with_reducible refine ok_bi ?_ | with_reducible refine ok_bsm ?_)); try dsimp only
        refine ⟨_, rfl, ?_, rfl⟩
        rw [scan_min ht (c := d)]
        · rfl
        · refine ⟨hd, hb, fun f hf hbf hne => ?_⟩
          obtain ⟨j, hj, e1, e2⟩ := pos_at h hf
          by_cases ej : i + 1 ≤ j
          · rw [hno j f ej hj e1] at hbf; cases hbf
          · refine lx_cons.mpr (Or.inl ?_)
            have : j ≠ i := fun e => by subst e; rw [ed] at e1; exact hne (by exact_mod_cast e1.symm)
            unfold npos
            omega
theorem lastInLot_ok {t : Nat} {p : PL} {w : Int} {M : Mem} (h : WF p) (hc : PCc M (t + 10000) p) (h0 : 0 ≤ w) (h1 : w < 256) : fX4_lastInLot t w M = some (opt (scan p.n [npos p] (bt w)), M) := by
  have hn8 := h.1
  apply ok_eq
  unfold fX4_lastInLot
  rw [hc.1]
  (repeat (first | with_reducible refine ok_nm0 ?_ | (with_reducible refine ok_chk ?_ ?_; · omega) | (with_reducible refine ok_if ?_ ?_; · omega) | (with_reducible refine ok_el ?_ ?_; · omega) | with_reducible refine ok_some ?_ | with_reducible refine ok_bi ?_ | with_reducible refine ok_bsm ?_)); try dsimp only
  refine ok_lrl ((lastInLot_l h hc h0 h1 1000 p.n (by omega) (by omega) (fun j c h2 h3 => by omega)).mono (fun z hz => ?_))
  obtain ⟨a, e, h2, h3⟩ := hz
  exact ⟨a, e, Prod.ext h2 h3⟩
theorem fewest_l {t v n : Nat} {w : Int} {M : Mem} (hn : n ≤ 8) (h0 : M (t + 10000) 0 = n) (hw0 : 0 ≤ w) (hw1 : w < 256) (hv : ∀ c, c < n → M v c < 9223372036854775807) : ∀ (m c : Nat) (x y : Int), c ≤ n → n < m + c → x = mk c (fun d => bt w d && decide (M v d = y)) → (∀ d, d < c → bt w d = true → y ≤ M v d) → (y = 9223372036854775807 ∨ ∃ d, d < c ∧ bt w d = true ∧ M v d = y) → Ok (fX4_whoHasFewest_l10 t v w m x y c M) (fun z => z.1 = mk n (fl n (M v) (bt w)) ∧ z.2.2.2 = M) := by
  intro m
  induction m with
  | zero => intros; omega
  | succ m ih =>
    intro c x y h1 h2 hx hmin hex
    unfold fX4_whoHasFewest_l10
    rw [h0]
    refine ok_ite (fun hc => ok_some ⟨?_, rfl⟩) (fun hc => ?_)
    · have e : c = n := by omega
      subst e
      rw [hx]
      refine mk_congr (fun d hd => ?_)
      rw [Bool.eq_iff_iff, fl_iff]
      simp only [Bool.and_eq_true, decide_eq_true_eq]
      constructor
      · rintro ⟨hb, e⟩
        exact ⟨hb, fun f hf hbf => by rw [e]; exact hmin f hf hbf⟩
      · rintro ⟨hb, hall⟩
        refine ⟨hb, ?_⟩
        have h3 := hmin d hd hb
        rcases hex with e | ⟨f, hf, hbf, e⟩
        · have := hv d hd; omega
        · have := hall f hf hbf; omega
    · have hcn : c < n := by omega
      have hvc := hv c hcn
      (repeat (first | with_reducible refine ok_nm0 ?_ | (with_reducible refine ok_chk ?_ ?_; · omega) | (with_reducible refine ok_if ?_ ?_; · omega) | (with_reducible refine ok_el ?_ ?_; · omega) | with_reducible refine ok_some ?_ | with_reducible refine ok_bi ?_ | with_reducible refine ok_bsm ?_)); try dsimp only
      cases hb : bt w c
      · have hz := bt_f hw0 (by omega) (by omega) hb
        (repeat (first | with_reducible refine ok_nm0 ?_ | (with_reducible refine ok_chk ?_ ?_; · omega) | (with_reducible refine ok_if ?_ ?_; · omega) | (with_reducible refine ok_el ?_ ?_; · omega) | with_reducible refine ok_some ?_ | with_reducible refine ok_bi ?_ | with_reducible refine ok_bsm ?_)); try dsimp only
        refine ih (c + 1) _ _ (by omega) (by omega) ?_ (fun d hd hbd => ?_) ?_
        · rw [← mk_neg (by rw [hb]; rfl)]; exact hx
        · by_cases e : d = c
          · subst e; rw [hb] at hbd; cases hbd
          · exact hmin d (by omega) hbd
        · rcases hex with e | ⟨f, hf, hbf, e⟩
          · exact Or.inl e
          · exact Or.inr ⟨f, by omega, hbf, e⟩
      · have hz := bt_t hw0 (by omega) (by omega) hb
        (repeat (first | with_reducible refine ok_nm0 ?_ | (with_reducible refine ok_chk ?_ ?_; · omega) | (with_reducible refine ok_if ?_ ?_; · omega) | (with_reducible refine ok_el ?_ ?_; · omega) | with_reducible refine ok_some ?_ | with_reducible refine ok_bi ?_ | with_reducible refine ok_bsm ?_)); try dsimp only
        rw [tn]
        refine ok_ite (fun hle => ?_) (fun hle => ?_)
        · (repeat (first | with_reducible refine ok_nm0 ?_ | (with_reducible refine ok_chk ?_ ?_; · omega) | (with_reducible refine ok_if ?_ ?_; · omega) | (with_reducible refine ok_el ?_ ?_; · omega) | with_reducible refine ok_some ?_ | with_reducible refine ok_bi ?_ | with_reducible refine ok_bsm ?_)); try dsimp only
          refine ok_ite (fun he => ?_) (fun he => ?_)
          · (repeat (first | with_reducible refine ok_nm0 ?_ | (with_reducible refine ok_chk ?_ ?_; · omega) | (with_reducible refine ok_if ?_ ?_; · omega) | (with_reducible refine ok_el ?_ ?_; · omega) | with_reducible refine ok_some ?_ | with_reducible refine ok_bi ?_ | with_reducible refine ok_bsm ?_)); try dsimp only
            refine ih (c + 1) _ _ (by omega) (by omega) ?_ (fun d hd hbd => ?_) (Or.inr ⟨c, by omega, hb, he⟩)
            · rw [hx, mk_pos (by omega) (by rw [hb]; simpa using he)]
            · by_cases e : d = c
              · subst e; exact hle
              · exact hmin d (by omega) hbd
          · (repeat (first | with_reducible refine ok_nm0 ?_ | (with_reducible refine ok_chk ?_ ?_; · omega) | (with_reducible refine ok_if ?_ ?_; · omega) | (with_reducible refine ok_el ?_ ?_; · omega) | with_reducible refine ok_some ?_ | with_reducible refine ok_bi ?_ | with_reducible refine ok_bsm ?_)); try dsimp only
            refine ih (c + 1) _ _ (by omega) (by omega) ?_ (fun d hd hbd => ?_) ?_
            · rw [hx, mk_neg (by rw [hb]; simpa using he)]
            · by_cases e : d = c
              · subst e; exact hle
              · exact hmin d (by omega) hbd
            · rcases hex with e | ⟨f, hf, hbf, e⟩
              · exact Or.inl e
              · exact Or.inr ⟨f, by omega, hbf, e⟩
        · (repeat (first | with_reducible refine ok_nm0 ?_ | (with_reducible refine ok_chk ?_ ?_; · omega) | (with_reducible refine ok_if ?_ ?_; · omega) | (with_reducible refine ok_el ?_ ?_; · omega) | with_reducible refine ok_some ?_ | with_reducible refine ok_bi ?_ | with_reducible refine ok_bsm ?_)); try dsimp only
          refine ih (c + 1) _ _ (by omega) (by omega) ?_ (fun d hd hbd => ?_) (Or.inr ⟨c, by omega, hb, rfl⟩)
          · rw [← mk_pos (by omega) (by rw [hb]; simp)]
            congr 1
            have : mk c (fun d => bt w d && decide (M v d = M v c)) = mk c (fun _ => false) := mk_congr (fun d hd => by
              cases hbd : bt w d
              · rfl
              · have := hmin d hd hbd
                simp
                omega)
            rw [this]
            have z : ∀ k, mkN k (fun _ => false) = 0 := by
              intro k
              induction k with
              | zero => rfl
              | succ k ih => simp [mkN, ih]
            unfold mk
            rw [z]
            rfl
          · by_cases e : d = c
            · subst e; omega
            · have := hmin d (by omega) hbd; omega
theorem fewest_ok {t v n : Nat} {w : Int} {M : Mem} (hn : n ≤ 8) (h0 : M (t + 10000) 0 = n) (hw0 : 0 ≤ w) (hw1 : w < 256) (hv : ∀ c, c < n → M v c < 9223372036854775807) : fX4_whoHasFewest t v w M = some (mk n (fl n (M v) (bt w)), M) := by
  apply ok_eq
  unfold fX4_whoHasFewest
  refine ok_by (fewest_l hn h0 hw0 hw1 hv 1000 0 _ _ (by omega) (by omega) rfl (fun d hd => by omega) (Or.inl rfl)) (fun z hz => ok_some ?_)
  rw [hz.1, hz.2]
end
end
section
section
/-! a STAGE: ROUNDS, who was EXCLUDED, who ELECTED, QUOTA, EXCESS, SURPLUS, VOTES of all, VOTES, KEEPS -/
abbrev SR : Type := Int × Int × List Nat × Int × Int × Int × Int × Vec × Vec
abbrev SR.r (s : SR) : Int := s.1
abbrev SR.o (s : SR) : Int := s.2.1
abbrev SR.E (s : SR) : List Nat := s.2.2.1
abbrev SR.q (s : SR) : Int := s.2.2.2.1
abbrev SR.x (s : SR) : Int := s.2.2.2.2.1
abbrev SR.s (s : SR) : Int := s.2.2.2.2.2.1
abbrev SR.t (s : SR) : Int := s.2.2.2.2.2.2.1
abbrev SR.g (s : SR) : Vec := s.2.2.2.2.2.2.2.1
abbrev SR.k (s : SR) : Vec := s.2.2.2.2.2.2.2.2
/-- KEEPS anew -/
def tk (f K g : Vec) (q : Int) : Vec := fun c => if f c = 2 ∧ 0 < g c then (if 1000000 < (K c * q + g c - 1) / g c then 1000000 else (K c * q + g c - 1) / g c) else K c
def sur (n : Nat) (f g : Vec) (q : Int) : Int := sm n (fun c => if f c = 2 ∧ q < g c then g c - q else 0)
def reach (f g : Vec) (q : Int) : Nat → Bool := fun c => decide (f c = 1) && decide (q ≤ g c)
theorem tk_KB {n : Nat} {f K g : Vec} {q : Int} (h : KB n K) (hq : 0 ≤ q) : KB n (tk f K g q) := by
  intro c hc
  unfold tk
  have hk := h c hc
  split
  · rename_i h2
    have h3 : 0 ≤ K c * q := Int.mul_nonneg hk.1 hq
    have h4 : 0 ≤ (K c * q + g c - 1) / g c := Int.ediv_nonneg (by omega) (by omega)
    split <;> omega
  · exact hk
theorem tk_bd {n : Nat} {f K g : Vec} {q : Int} {c : Nat} (h : KB n K) (hc : c < n) (hq : 0 ≤ q) (hq2 : q ≤ 2305843000001) : 0 ≤ K c * q ∧ K c * q ≤ 1000000 * 2305843000001 := mul_bd (h c hc).1 (h c hc).2 hq hq2
theorem turn_l {t n : Nat} {f K g : Vec} {q : Int} (hn : n ≤ 8) (hK : KB n K) (hq : 0 ≤ q) (hq2 : q ≤ 2305843000001) (hg : ∀ c, c < n → 0 ≤ g c ∧ g c ≤ 4611686000000) : ∀ (m i : Nat) (M : Mem), i ≤ n → n < m + i → M (t + 10000) 0 = n → Ag n (M (t + 3)) f → Ag n (M (t + 11)) g → M t 11 = q → (∀ c, c < n → M (t + 10) c = if c < i then tk f K g q c else K c) → Ok (fX4_turnKeeps_l2 t m i M) (fun z => Ag n (z.2 (t + 10)) (tk f K g q) ∧ ∀ b, b ≠ t + 10 → z.2 b = M b) := by
  intro m
  induction m with
  | zero => intros; omega
  | succ m ih =>
    intro i M h1 h2 h0 hf hg2 hqv hk
    unfold fX4_turnKeeps_l2
    rw [h0]
    refine ok_ite (fun hc => ok_some ⟨fun c hc2 => ?_, fun _ _ => rfl⟩) (fun hc => ?_)
    · have : i = n := by omega
      subst this
      show M (t + 10) c = _
      rw [hk c hc2, if_pos hc2]
    · have hi : i < n := by omega
      have e1 := hf i hi
      have e2 := hg2 i hi
      have e3 := hk i hi
      rw [if_neg (by omega)] at e3
      have hb := tk_bd (f := f) (g := g) hK hi hq hq2
      have hgb := hg i hi
      have hkb := hK i hi
      simp only [tn, e1, e2, e3, hqv]
      (repeat (first | with_reducible refine ok_nm0 ?_ | (with_reducible refine ok_chk ?_ ?_; · omega) | (with_reducible refine ok_if ?_ ?_; · omega) | (with_reducible refine ok_el ?_ ?_; · omega) | with_reducible refine ok_some ?_ | with_reducible refine ok_bi ?_ | with_reducible refine ok_bsm ?_)); try dsimp only
      have step : ∀ M' : Mem, (∀ b, b ≠ t + 10 → M' b = M b) → M' (t + 10) = up (M (t + 10)) i (tk f K g q i) → Ok (fX4_turnKeeps_l2 t m ((i : Int) + 1) M') (fun z => Ag n (z.2 (t + 10)) (tk f K g q) ∧ ∀ b, b ≠ t + 10 → z.2 b = M b) := by
        intro M' hM' h10
        refine (ih (i + 1) M' (by omega) (by omega) ?_ ?_ ?_ ?_ ?_).mono (fun z hz => ⟨hz.1, fun b hb => by rw [hz.2 b hb, hM' b hb]⟩)
        · rw [hM' _ (by omega)]; exact h0
        · rw [hM' _ (by omega)]; exact hf
        · rw [hM' _ (by omega)]; exact hg2
        · rw [hM' _ (by omega)]; exact hqv
        · intro c hc2
          rw [h10]
          by_cases e : c = i
          · subst e; rw [up_same, if_pos (by omega)]
          · rw [up_ne e, hk c hc2]
            by_cases e2 : c < i
            · rw [if_pos e2, if_pos (by omega)]
            · rw [if_neg e2, if_neg (by omega)]
      have same : tk f K g q i = K i → Ok (fX4_turnKeeps_l2 t m ((i : Int) + 1) M) (fun z => Ag n (z.2 (t + 10)) (tk f K g q) ∧ ∀ b, b ≠ t + 10 → z.2 b = M b) := fun e => step M (fun _ _ => rfl) (by
        funext c
        by_cases e2 : c = i
        · subst e2; rw [up_same, e3, e]
        · rw [up_ne e2])
      refine ok_ite (fun h3 => ?_) (fun h3 => ?_)
      · refine ok_ite (fun h4 => ?_) (fun h4 => ?_)
        · (repeat (first | with_reducible refine ok_nm0 ?_ | (with_reducible refine ok_chk ?_ ?_; · omega) | (with_reducible refine ok_if ?_ ?_; · omega) | (with_reducible refine ok_el ?_ ?_; · omega) | with_reducible refine ok_some ?_ | with_reducible refine ok_bi ?_ | with_reducible refine ok_bsm ?_)); try dsimp only
          exact same (by unfold tk; rw [if_neg (by omega)])
        · (repeat (first | with_reducible refine ok_nm0 ?_ | (with_reducible refine ok_chk ?_ ?_; · omega) | (with_reducible refine ok_if ?_ ?_; · omega) | (with_reducible refine ok_el ?_ ?_; · omega) | with_reducible refine ok_some ?_ | with_reducible refine ok_bi ?_ | with_reducible refine ok_bsm ?_)); try dsimp only
          refine step _ (fun b hb => wrn hb) ?_
          have e : tk f K g q i = (if 1000000 < (K i * q + g i - 1) / g i then 1000000 else (K i * q + g i - 1) / g i) := by
            unfold tk
            rw [if_pos ⟨h3, by omega⟩]
          rw [wre, e]
      · (repeat (first | with_reducible refine ok_nm0 ?_ | (with_reducible refine ok_chk ?_ ?_; · omega) | (with_reducible refine ok_if ?_ ?_; · omega) | (with_reducible refine ok_el ?_ ?_; · omega) | with_reducible refine ok_some ?_ | with_reducible refine ok_bi ?_ | with_reducible refine ok_bsm ?_)); try dsimp only
        exact same (by unfold tk; rw [if_neg (by omega)])
theorem turn_ok {t : Nat} {p : PL} {f K g : Vec} {q : Int} {M : Mem} (h : WF p) (hK : KB p.n K) (hq : 0 ≤ q) (hq2 : q ≤ 2305843000001) (hg : ∀ c, c < p.n → 0 ≤ g c ∧ g c ≤ 4611686000000) (h0 : PCc M (t + 10000) p) (hf : Ag p.n (M (t + 3)) f) (hg2 : Ag p.n (M (t + 11)) g) (hqv : M t 11 = q) (hk : Ag p.n (M (t + 10)) K) : Ok (fX4_turnKeeps t M) (fun z => Ag p.n (z.2 (t + 10)) (tk f K g q) ∧ ∀ b, b ≠ t + 10 → z.2 b = M b) := by
  have := h.1
  unfold fX4_turnKeeps
  refine ok_by (turn_l h.1 hK hq hq2 hg 1000 0 M (by omega) (by omega) h0.1 hf hg2 hqv (fun c hc => by rw [if_neg (by omega)]; exact hk c hc)) (fun z hz => ok_some hz)
theorem sur_part {n : Nat} {f g : Vec} {q : Int} (hn : n ≤ 8) (hq : 0 ≤ q) (hg : ∀ c, c < n → 0 ≤ g c ∧ g c ≤ 4611686000000) : ∀ c, c ≤ n → 0 ≤ sur c f g q ∧ sur c f g q ≤ c * 4611686000000 := by
  intro c
  induction c with
  | zero => intro _; simp [sur, sm]
  | succ c ih =>
    intro hc
    have h1 := ih (by omega)
    have h2 := hg c (by omega)
    have e : sur (c + 1) f g q = sur c f g q + (if f c = 2 ∧ q < g c then g c - q else 0) := rfl
    rw [e]
    split <;> omega
theorem surplus_l {t n : Nat} {f g : Vec} {q : Int} {M : Mem} (hn : n ≤ 8) (hq : 0 ≤ q) (hq2 : q ≤ 2305843000001) (hg : ∀ c, c < n → 0 ≤ g c ∧ g c ≤ 4611686000000) (h0 : M (t + 10000) 0 = n) (hf : Ag n (M (t + 3)) f) (hg2 : Ag n (M (t + 11)) g) (hqv : M t 11 = q) : ∀ (m i : Nat) (x : Int), i ≤ n → n < m + i → x = sur i f g q → Ok (fX4_surplus_l4 t m x i M) (fun z => z.1 = sur n f g q ∧ z.2.2 = M) := by
  intro m
  induction m with
  | zero => intros; omega
  | succ m ih =>
    intro i x h1 h2 hx
    unfold fX4_surplus_l4
    rw [h0]
    refine ok_ite (fun hc => ok_some ⟨?_, rfl⟩) (fun hc => ?_)
    · have : i = n := by omega
      subst this; exact hx
    · have hi : i < n := by omega
      have e1 := hf i hi
      have e2 := hg2 i hi
      have hb := sur_part (f := f) hn hq hg i (by omega)
      have hgb := hg i hi
      have e : sur (i + 1) f g q = sur i f g q + (if f i = 2 ∧ q < g i then g i - q else 0) := rfl
      simp only [tn, e1, e2, hqv]
      (repeat (first | with_reducible refine ok_nm0 ?_ | (with_reducible refine ok_chk ?_ ?_; · omega) | (with_reducible refine ok_if ?_ ?_; · omega) | (with_reducible refine ok_el ?_ ?_; · omega) | with_reducible refine ok_some ?_ | with_reducible refine ok_bi ?_ | with_reducible refine ok_bsm ?_)); try dsimp only
      refine ok_ite (fun h3 => ?_) (fun h3 => ?_)
      · by_cases h4 : g i - q < 0
        · simp only [if_pos h4]
          rw [if_neg (by omega)] at e
          (repeat (first | with_reducible refine ok_nm0 ?_ | (with_reducible refine ok_chk ?_ ?_; · omega) | (with_reducible refine ok_if ?_ ?_; · omega) | (with_reducible refine ok_el ?_ ?_; · omega) | with_reducible refine ok_some ?_ | with_reducible refine ok_bi ?_ | with_reducible refine ok_bsm ?_)); try dsimp only
          exact ih (i + 1) _ (by omega) (by omega) (by omega)
        · simp only [if_neg h4]
          by_cases h5 : q < g i
          · rw [if_pos ⟨h3, h5⟩] at e
            (repeat (first | with_reducible refine ok_nm0 ?_ | (with_reducible refine ok_chk ?_ ?_; · omega) | (with_reducible refine ok_if ?_ ?_; · omega) | (with_reducible refine ok_el ?_ ?_; · omega) | with_reducible refine ok_some ?_ | with_reducible refine ok_bi ?_ | with_reducible refine ok_bsm ?_)); try dsimp only
            exact ih (i + 1) _ (by omega) (by omega) (by omega)
          · rw [if_neg (by omega)] at e
            (repeat (first | with_reducible refine ok_nm0 ?_ | (with_reducible refine ok_chk ?_ ?_; · omega) | (with_reducible refine ok_if ?_ ?_; · omega) | (with_reducible refine ok_el ?_ ?_; · omega) | with_reducible refine ok_some ?_ | with_reducible refine ok_bi ?_ | with_reducible refine ok_bsm ?_)); try dsimp only
            exact ih (i + 1) _ (by omega) (by omega) (by omega)
      · rw [if_neg (by omega)] at e
        (repeat (first | with_reducible refine ok_nm0 ?_ | (with_reducible refine ok_chk ?_ ?_; · omega) | (with_reducible refine ok_if ?_ ?_; · omega) | (with_reducible refine ok_el ?_ ?_; · omega) | with_reducible refine ok_some ?_ | with_reducible refine ok_bi ?_ | with_reducible refine ok_bsm ?_)); try dsimp only
        exact ih (i + 1) _ (by omega) (by omega) (by omega)
theorem surplus_ok {t : Nat} {p : PL} {f g : Vec} {q : Int} {M : Mem} (h : WF p) (hq : 0 ≤ q) (hq2 : q ≤ 2305843000001) (hg : ∀ c, c < p.n → 0 ≤ g c ∧ g c ≤ 4611686000000) (h0 : PCc M (t + 10000) p) (hf : Ag p.n (M (t + 3)) f) (hg2 : Ag p.n (M (t + 11)) g) (hqv : M t 11 = q) : fX4_surplus t M = some (sur p.n f g q, M) := by
  have := h.1
  apply ok_eq
  unfold fX4_surplus
  refine ok_by (surplus_l h.1 hq hq2 hg h0.1 hf hg2 hqv 1000 0 0 (by omega) (by omega) rfl) (fun z hz => ok_some ?_)
  rw [hz.1, hz.2]
theorem reach_l {t n : Nat} {f g : Vec} {q : Int} {M : Mem} (hn : n ≤ 8) (h0 : M (t + 10000) 0 = n) (hf : Ag n (M (t + 3)) f) (hg2 : Ag n (M (t + 11)) g) (hqv : M t 11 = q) : ∀ (m i : Nat) (x : Int), i ≤ n → n < m + i → x = mk i (reach f g q) → Ok (fX4_whoReachesQuota_l4 t m x i M) (fun z => z.1 = mk n (reach f g q) ∧ z.2.2 = M) := by
  intro m
  induction m with
  | zero => intros; omega
  | succ m ih =>
    intro i x h1 h2 hx
    unfold fX4_whoReachesQuota_l4
    rw [h0]
    refine ok_ite (fun hc => ok_some ⟨?_, rfl⟩) (fun hc => ?_)
    · have : i = n := by omega
      subst this; exact hx
    · have hi : i < n := by omega
      have e1 := hf i hi
      have e2 := hg2 i hi
      simp only [tn, e1, e2, hqv]
      (repeat (first | with_reducible refine ok_nm0 ?_ | (with_reducible refine ok_chk ?_ ?_; · omega) | (with_reducible refine ok_if ?_ ?_; · omega) | (with_reducible refine ok_el ?_ ?_; · omega) | with_reducible refine ok_some ?_ | with_reducible refine ok_bi ?_ | with_reducible refine ok_bsm ?_)); try dsimp only
      refine ok_ite (fun h3 => ?_) (fun h3 => ?_)
      · (first | with_reducible refine ok_nm0 ?_ | (with_reducible refine ok_chk ?_ ?_; · omega) | (with_reducible refine ok_if ?_ ?_; · omega) | (with_reducible refine ok_el ?_ ?_; · omega) | with_reducible refine ok_some ?_ | with_reducible refine ok_bi ?_ | with_reducible refine ok_bsm ?_)
        refine ok_ite (fun h4 => ?_) (fun h4 => ?_)
        · (repeat (first | with_reducible refine ok_nm0 ?_ | (with_reducible refine ok_chk ?_ ?_; · omega) | (with_reducible refine ok_if ?_ ?_; · omega) | (with_reducible refine ok_el ?_ ?_; · omega) | with_reducible refine ok_some ?_ | with_reducible refine ok_bi ?_ | with_reducible refine ok_bsm ?_)); try dsimp only
          refine ih (i + 1) _ (by omega) (by omega) ?_
          rw [hx, mk_neg]
          simp [reach]; omega
        · (repeat (first | with_reducible refine ok_nm0 ?_ | (with_reducible refine ok_chk ?_ ?_; · omega) | (with_reducible refine ok_if ?_ ?_; · omega) | (with_reducible refine ok_el ?_ ?_; · omega) | with_reducible refine ok_some ?_ | with_reducible refine ok_bi ?_ | with_reducible refine ok_bsm ?_)); try dsimp only
          refine ih (i + 1) _ (by omega) (by omega) ?_
          rw [hx, mk_pos (by omega)]
          simp [reach]; omega
      · (repeat (first | with_reducible refine ok_nm0 ?_ | (with_reducible refine ok_chk ?_ ?_; · omega) | (with_reducible refine ok_if ?_ ?_; · omega) | (with_reducible refine ok_el ?_ ?_; · omega) | with_reducible refine ok_some ?_ | with_reducible refine ok_bi ?_ | with_reducible refine ok_bsm ?_)); try dsimp only
        refine ih (i + 1) _ (by omega) (by omega) ?_
        rw [hx, mk_neg]
        simp [reach]; omega
theorem reach_ok {t : Nat} {p : PL} {f g : Vec} {q : Int} {M : Mem} (h : WF p) (h0 : PCc M (t + 10000) p) (hf : Ag p.n (M (t + 3)) f) (hg2 : Ag p.n (M (t + 11)) g) (hqv : M t 11 = q) : fX4_whoReachesQuota t M = some (mk p.n (reach f g q), M) := by
  have := h.1
  apply ok_eq
  unfold fX4_whoReachesQuota
  refine ok_by (reach_l h.1 h0.1 hf hg2 hqv 1000 0 0 (by omega) (by omega) rfl) (fun z hz => ok_some ?_)
  rw [hz.1, hz.2]
theorem note_l {t o : Nat} {M0 : Mem} (ho : t + 13 < o) : ∀ (m i : Nat) (M : Mem), i ≤ 8 → 8 < m + i → M = (fun b j => if b = o + 8 ∧ j < i then M0 (t + 11) j else if b = o + 9 ∧ j < i then M0 (t + 10) j else M0 b j) → Ok (fX4_note_l37 t o m i M) (fun z => z.2 = (fun b j => if b = o + 8 ∧ j < 8 then M0 (t + 11) j else if b = o + 9 ∧ j < 8 then M0 (t + 10) j else M0 b j)) := by
  intro m
  induction m with
  | zero => intros; omega
  | succ m ih =>
    intro i M h1 h2 hM
    unfold fX4_note_l37
    refine ok_ite (fun hc => ok_some ?_) (fun hc => ?_)
    · have : i = 8 := by omega
      subst this; exact hM
    · (repeat (first | with_reducible refine ok_nm0 ?_ | (with_reducible refine ok_chk ?_ ?_; · omega) | (with_reducible refine ok_if ?_ ?_; · omega) | (with_reducible refine ok_el ?_ ?_; · omega) | with_reducible refine ok_some ?_ | with_reducible refine ok_bi ?_ | with_reducible refine ok_bsm ?_)); try dsimp only
      refine ih (i + 1) _ (by omega) (by omega) ?_
      rw [hM]
      funext b j
      simp only [wr, tn]
      grind
theorem note_ok {t o : Nat} {r s : Int} {M : Mem} (ho : t + 13 < o) : Ok (fX4_note t o r s M) (fun z => z.2 o 0 = r ∧ z.2 o 3 = M t 11 ∧ z.2 o 4 = M t 12 ∧ z.2 o 5 = s ∧ z.2 o 6 = M t 13 ∧ (∀ c, c < 8 → z.2 (o + 8) c = M (t + 11) c ∧ z.2 (o + 9) c = M (t + 10) c) ∧ z.2 o 1 = M o 1 ∧ z.2 o 2 = M o 2 ∧ ∀ b, b ≠ o → b ≠ o + 8 → b ≠ o + 9 → z.2 b = M b) := by
  unfold fX4_note
  (repeat (first | with_reducible refine ok_nm0 ?_ | (with_reducible refine ok_chk ?_ ?_; · omega) | (with_reducible refine ok_if ?_ ?_; · omega) | (with_reducible refine ok_el ?_ ?_; · omega) | with_reducible refine ok_some ?_ | with_reducible refine ok_bi ?_ | with_reducible refine ok_bsm ?_)); try dsimp only
  refine ok_by (note_l (M0 := (wr (wr (wr (wr (wr M o 0 r) o 3 (M t 11)) o 4 (M t 12)) o 5 s) o 6 (M t 13))) ho 1000 0 _ (by omega) (by omega) ?_) (fun z hz => ok_some ?_)
  · funext b j
    simp only [wr]
    grind
  · try dsimp only
    rw [hz]
    refine ⟨?_, ?_, ?_, ?_, ?_, fun c hc => ⟨?_, ?_⟩, ?_, ?_, fun b b1 b2 b3 => ?_⟩
    all_goals first | (funext j; simp only [wr]; grind) | (simp only [wr]; grind)
end
end
section
section
/-! electing, excluding: the class's -/
theorem srt1 {n : Nat} {vs : List Vec} {w : Nat → Bool} : (srt (0 + 1) n vs w)[0]? = scan n vs w := by
  cases e : scan n vs w with
  | none => rw [srt_none e]; rfl
  | some c => rw [srt_some e]; rfl
theorem mk_or {n : Nat} (hn : n ≤ 8) (p : Nat → Bool) {c : Nat} (hc : c < n) : bOr (mk n p) (bShl 1 (c : Int)) = mk n (fun d => p d || decide (d = c)) := by
  have hb := mk_bd hn p
  have h2 := bt_or_bd (w := mk n p) (m := 8) (by omega) hb.1 (by omega) (c := c) (by omega)
  have e8 : (2 : Int) ^ 8 = 256 := by decide
  refine mk_eq hn h2.1 (by omega) (fun d hd => ?_)
  rw [bt_or hb.1 (by omega) (by omega), mk_bt]
  by_cases e : d = c
  · subst e; simp [hc]
  · simp [e]
def EL (M0 : Mem) (t o n : Nat) (ord : List Nat) (H S : Int) (F W : Vec) (D : List Nat) (M : Mem) : Prop :=
  M o 2 = mk n (fun c => decide (c ∈ D)) ∧ M t 5 = (ord ++ D).length ∧ M t 6 = H - D.length ∧ (∀ i c : Nat, (ord ++ D)[i]? = some c → M (t + 5) i = (c : Int)) ∧ (∀ c, c < n → M (t + 3) c = if c ∈ D then 2 else F c) ∧ (∀ c, c < n → M (t + 4) c = if c ∈ D then S - 1 else W c) ∧ M t 7 = S ∧ (∀ j, j ≠ 5 → j ≠ 6 → M t j = M0 t j) ∧ (∀ j, j ≠ 2 → M o j = M0 o j) ∧ ∀ b, b ≠ t → b ≠ t + 3 → b ≠ t + 4 → b ≠ t + 5 → b ≠ o → M b = M0 b
theorem elect_l13 {M0 : Mem} {t o : Nat} {p : PL} {ord : List Nat} {H S w : Int} {F W : Vec} (h : WF p) (ho : t + 13 < o ∧ o + 9 < t + 10000) (hc0 : PCc M0 (t + 10000) p) (hw0 : 0 ≤ w) (hw1 : w < 256) (hH : 0 ≤ H ∧ H ≤ 8) (hS : 1 ≤ S ∧ S ≤ 8) : ∀ (m k : Nat) (D : List Nat) (M : Mem), k < m → EL M0 t o p.n ord H S F W D M → (ord ++ D).length + k ≤ 7 → Ok (fX4_elect_l13 t o w m k M) (fun z => ∃ a, z = .inl a ∧ EL M0 t o p.n ord H S F W (D ++ srt k p.n (av p (M0 (o + 8))) (fun d => bt w d && !decide (d ∈ D))) a.2) := by
  intro m
  have hn8 := h.1
  induction m with
  | zero => intros; omega
  | succ m ih =>
    intro k D M hk hE hl
    unfold fX4_elect_l13
    cases k with
    | zero =>
      refine ok_if (by omega) (ok_some ⟨_, rfl, ?_⟩)
      show EL M0 t o p.n ord H S F W (D ++ []) M
      rw [List.append_nil]
      exact hE
    | succ k =>
      obtain ⟨e1, e2, e3, e4, e5, e6, e7, e8, e9, e10⟩ := hE
      have hpc : PCc M (t + 10000) p := hc0.same (e10 _ (by omega) (by omega) (by omega) (by omega) (by omega)) (e10 _ (by omega) (by omega) (by omega) (by omega) (by omega)) (e10 _ (by omega) (by omega) (by omega) (by omega) (by omega)) (e10 _ (by omega) (by omega) (by omega) (by omega) (by omega)) (e10 _ (by omega) (by omega) (by omega) (by omega) (by omega))
      have hb := mk_bd hn8 (fun c => decide (c ∈ D))
      have han := bt_an hw0 hw1 hb.1 hb.2
      have hv8 : M (o + 8) = M0 (o + 8) := e10 _ (by omega) (by omega) (by omega) (by omega) (by omega)
      have hsc : scan p.n (av p (M0 (o + 8))) (bt (bAnd w (bXor (mk p.n (fun c => decide (c ∈ D))) (-1)))) = scan p.n (av p (M0 (o + 8))) (fun d => bt w d && !decide (d ∈ D)) := scan_congr (av_tot h _) (fun d hd => by
        rw [han.2.2 d (by omega), mk_bt]
        simp [hd])
      have hlen : (ord ++ D).length = ord.length + D.length := List.length_append
      refine ok_el (by omega) ?_
      rw [e1]
      have hlead := leader_ok (t := t) (v := o + 8) (p := p) (M := M) (i := 0) (left := bAnd w (bXor (mk p.n (fun c => decide (c ∈ D))) (-1))) h hpc (by omega) han.1 han.2.1
      refine ok_bs hlead ?_
      rw [srt1, hv8, hsc]
      cases es : scan p.n (av p (M0 (o + 8))) (fun d => bt w d && !decide (d ∈ D)) with
      | none =>
        show Ok (nm (-1) _) _
        (repeat (first | with_reducible refine ok_nm0 ?_ | (with_reducible refine ok_chk ?_ ?_; · omega) | (with_reducible refine ok_if ?_ ?_; · omega) | (with_reducible refine ok_el ?_ ?_; · omega) | with_reducible refine ok_some ?_ | with_reducible refine ok_bi ?_ | with_reducible refine ok_bsm ?_)); try dsimp only
        refine ⟨_, rfl, ?_⟩
        rw [srt_none es, List.append_nil]
        exact ⟨e1, e2, e3, e4, e5, e6, e7, e8, e9, e10⟩
      | some c =>
        have hm := scan_some (av_tot h _) es
        have hcn := hm.1
        have hcw := hm.2.1
        simp only [Bool.and_eq_true, Bool.not_eq_true', decide_eq_false_iff_not] at hcw
        have hcD := hcw.2
        show Ok (nm (c : Int) _) _
        (first | with_reducible refine ok_nm0 ?_ | (with_reducible refine ok_chk ?_ ?_; · omega) | (with_reducible refine ok_if ?_ ?_; · omega) | (with_reducible refine ok_el ?_ ?_; · omega) | with_reducible refine ok_some ?_ | with_reducible refine ok_bi ?_ | with_reducible refine ok_bsm ?_)
        refine ok_el (by omega) ?_
        try dsimp only
        simp only [e2]
        refine ok_if (by omega) ?_
        rw [e1, mk_or hn8 _ hcn]
        (first | with_reducible refine ok_nm0 ?_ | (with_reducible refine ok_chk ?_ ?_; · omega) | (with_reducible refine ok_if ?_ ?_; · omega) | (with_reducible refine ok_el ?_ ?_; · omega) | with_reducible refine ok_some ?_ | with_reducible refine ok_bi ?_ | with_reducible refine ok_bsm ?_)
        have t5 : wr M o 2 (mk p.n (fun d => decide (d ∈ D) || decide (d = c))) t 5 = (ord ++ D).length := by rw [wrn (by omega)]; exact e2
        simp only [t5]
        (repeat (first | with_reducible refine ok_nm0 ?_ | (with_reducible refine ok_chk ?_ ?_; · omega) | (with_reducible refine ok_if ?_ ?_; · omega) | (with_reducible refine ok_el ?_ ?_; · omega) | with_reducible refine ok_some ?_ | with_reducible refine ok_bi ?_ | with_reducible refine ok_bsm ?_)); try dsimp only
        have t5' : ∀ v, wr (wr M o 2 (mk p.n (fun d => decide (d ∈ D) || decide (d = c)))) (t + 5) ((ord ++ D).length : Int).toNat v t 5 = (ord ++ D).length := fun v => by rw [wrn (by omega)]; exact t5
        simp only [t5']
        (repeat (first | with_reducible refine ok_nm0 ?_ | (with_reducible refine ok_chk ?_ ?_; · omega) | (with_reducible refine ok_if ?_ ?_; · omega) | (with_reducible refine ok_el ?_ ?_; · omega) | with_reducible refine ok_some ?_ | with_reducible refine ok_bi ?_ | with_reducible refine ok_bsm ?_)); try dsimp only
        have t6 : ∀ v u, wr (wr (wr M o 2 (mk p.n (fun d => decide (d ∈ D) || decide (d = c)))) (t + 5) ((ord ++ D).length : Int).toNat v) t 5 u t 6 = H - D.length := fun v u => by rw [wrk _ (by omega), wrn (by omega), wrn (by omega)]; exact e3
        simp only [t6]
        (repeat (first | with_reducible refine ok_nm0 ?_ | (with_reducible refine ok_chk ?_ ?_; · omega) | (with_reducible refine ok_if ?_ ?_; · omega) | (with_reducible refine ok_el ?_ ?_; · omega) | with_reducible refine ok_some ?_ | with_reducible refine ok_bi ?_ | with_reducible refine ok_bsm ?_)); try dsimp only
        have t7 : ∀ v u x y, wr (wr (wr (wr (wr M o 2 (mk p.n (fun d => decide (d ∈ D) || decide (d = c)))) (t + 5) ((ord ++ D).length : Int).toNat v) t 5 u) t 6 x) (t + 3) (c : Int).toNat y t 7 = S := fun v u x y => by rw [wrn (by omega), wrk _ (by omega), wrk _ (by omega), wrn (by omega), wrn (by omega)]; exact e7
        simp only [t7]
        (repeat (first | with_reducible refine ok_nm0 ?_ | (with_reducible refine ok_chk ?_ ?_; · omega) | (with_reducible refine ok_if ?_ ?_; · omega) | (with_reducible refine ok_el ?_ ?_; · omega) | with_reducible refine ok_some ?_ | with_reducible refine ok_bi ?_ | with_reducible refine ok_bsm ?_)); try dsimp only
        rw [show ((k + 1 : Nat) : Int) + -1 = (k : Int) by omega, tn, tn]
        refine (ih k (D ++ [c]) _ (by omega) ⟨?_, ?_, ?_, fun i d hi => ?_, fun d hd => ?_, fun d hd => ?_, ?_, fun j j1 j2 => ?_, fun j j1 => ?_, fun b b1 b2 b3 b4 b5 => ?_⟩ ?_).mono (fun z hz => ?_)
        · rw [wrn (by omega), wrn (by omega), wrn (by omega), wrn (by omega), wrn (by omega), wra]
          exact mk_congr (fun d _ => by simp)
        · rw [wrn (by omega), wrn (by omega), wrk _ (by omega), wra]
          simp only [List.length_append, List.length_cons, List.length_nil]
          omega
        · rw [wrn (by omega), wrn (by omega), wra]
          simp only [List.length_append, List.length_cons, List.length_nil]
          omega
        · rw [wrn (by omega), wrn (by omega), wrn (by omega), wrn (by omega), wre, wrn (by omega)]
          rw [← List.append_assoc] at hi
          by_cases c1 : i < (ord ++ D).length
          · rw [List.getElem?_append_left c1] at hi
            rw [up_ne (by omega)]
            exact e4 i d hi
          · rw [List.getElem?_append_right (by omega)] at hi
            have hil := getq_lt hi
            simp only [List.length_cons, List.length_nil] at hil
            have : i = (ord ++ D).length := by omega
            subst this
            rw [Nat.sub_self] at hi
            cases hi
            rw [up_same]
        · rw [wrn (by omega), wre, wrn (by omega), wrn (by omega), wrn (by omega), wrn (by omega)]
          by_cases c1 : d = c
          · subst c1; rw [up_same, if_pos (by simp)]
          · rw [up_ne c1, e5 d hd]
            simp [c1]
        · rw [wre, wrn (by omega), wrn (by omega), wrn (by omega), wrn (by omega), wrn (by omega)]
          by_cases c1 : d = c
          · subst c1; rw [up_same, if_pos (by simp)]
          · rw [up_ne c1, e6 d hd]
            simp [c1]
        · rw [wrn (by omega), wrn (by omega), wrk _ (by omega), wrk _ (by omega), wrn (by omega), wrn (by omega)]
          exact e7
        · rw [wrn (by omega), wrn (by omega), wrk _ j2, wrk _ j1, wrn (by omega), wrn (by omega)]
          exact e8 j j1 j2
        · rw [wrn (by omega), wrn (by omega), wrn (by omega), wrn (by omega), wrn (by omega), wrk _ j1]
          exact e9 j j1
        · rw [wrn b3, wrn b2, wrn b1, wrn b1, wrn b4, wrn b5]
          exact e10 b b1 b2 b3 b4 b5
        · simp only [List.length_append, List.length_cons, List.length_nil]
          omega
        · obtain ⟨a, e, ha⟩ := hz
          refine ⟨a, e, ?_⟩
          rw [srt_some es]
          have ec : srt k p.n (av p (M0 (o + 8))) (wo (fun d => bt w d && !decide (d ∈ D)) c) = srt k p.n (av p (M0 (o + 8))) (fun d => bt w d && !decide (d ∈ D ++ [c])) := srt_congr (av_tot h _) (fun d hd => by
            unfold wo
            by_cases c1 : d = c
            · subst c1; simp
            · simp [c1])
          rw [ec, List.append_cons]
          exact ha
theorem elect_ok {M : Mem} {t o : Nat} {p : PL} {ord : List Nat} {H S w : Int} {F W : Vec} (h : WF p) (ho : t + 13 < o ∧ o + 9 < t + 10000) (hc : PCc M (t + 10000) p) (hw0 : 0 ≤ w) (hw1 : w < 256) (hH : 0 ≤ H ∧ H ≤ 8) (hS : 1 ≤ S ∧ S ≤ 8) (hE : EL M t o p.n ord H S F W [] M) (hl : (ord.length : Int) ≤ p.se) : Ok (fX4_elect t o w M) (fun q => EL M t o p.n ord H S F W (srt (p.se - ord.length).toNat p.n (av p (M (o + 8))) (bt w)) q.2) := by
  have hs := h.2.2.2.2.2.2.1
  have e5 := hE.2.1
  rw [List.append_nil] at e5
  unfold fX4_elect
  rw [hc.2.2.2.2.1, e5]
  (repeat (first | with_reducible refine ok_nm0 ?_ | (with_reducible refine ok_chk ?_ ?_; · omega) | (with_reducible refine ok_if ?_ ?_; · omega) | (with_reducible refine ok_el ?_ ?_; · omega) | with_reducible refine ok_some ?_ | with_reducible refine ok_bi ?_ | with_reducible refine ok_bsm ?_)); try dsimp only
  have ek : p.se - (ord.length : Int) = ((p.se - ord.length).toNat : Int) := by omega
  rw [ek]
  refine ok_lrl ((elect_l13 h ho hc hw0 hw1 hH hS 1000 (p.se - ord.length).toNat [] M (by omega) hE (by rw [List.append_nil]; omega)).mono (fun z hz => ?_))
  obtain ⟨a, e, ha⟩ := hz
  refine ⟨a, e, ?_⟩
  have : srt (p.se - ord.length).toNat p.n (av p (M (o + 8))) (fun d => bt w d && !decide (d ∈ ([] : List Nat))) = srt (p.se - ord.length).toNat p.n (av p (M (o + 8))) (bt w) := srt_congr (av_tot h _) (fun d hd => by simp)
  rw [this, List.nil_append] at ha
  rw [Int.toNat_natCast]
  exact ha
/-- the votes of the stages below s, the last first -/
def vsl (V : Nat → Vec) : Nat → List Vec
  | 0 => []
  | s + 1 => V s :: vsl V s
theorem excl_l13 {t o S0 : Nat} {p : PL} {M : Mem} (h : WF p) (hc : PCc M (t + 10000) p) (hS0 : S0 ≤ 8) (hv : ∀ s c, s < S0 → c < p.n → M (t + 9 + 36 + 16 * s + 8) c < 9223372036854775807) : ∀ (m s : Nat) (w : Int), s < m → s ≤ S0 → 0 ≤ w → w < 256 → Ok (fX4_exclude_l13 t o m w ((s : Int) - 1) M) (fun z => z.2.2 = M ∧ 0 ≤ z.1 ∧ z.1 < 256 ∧ ∀ c, IsMin p.n (vsl (fun s => M (t + 9 + 36 + 16 * s + 8)) s ++ [npos p]) (bt w) c ↔ IsMin p.n [npos p] (bt z.1) c) := by
  intro m
  have hn8 := h.1
  induction m with
  | zero => intros; omega
  | succ m ih =>
    intro s w h1 h2 h3 h4
    unfold fX4_exclude_l13
    cases s with
    | zero => exact ok_if (by omega) (ok_some ⟨rfl, h3, h4, fun c => Iff.rfl⟩)
    | succ s =>
      rw [show ((s + 1 : Nat) : Int) - 1 = (s : Int) by omega]
      (repeat (first | with_reducible refine ok_nm0 ?_ | (with_reducible refine ok_chk ?_ ?_; · omega) | (with_reducible refine ok_if ?_ ?_; · omega) | (with_reducible refine ok_el ?_ ?_; · omega) | with_reducible refine ok_some ?_ | with_reducible refine ok_bi ?_ | with_reducible refine ok_bsm ?_)); try dsimp only
      rw [tn]
      refine ok_bs (fewest_ok hn8 hc.1 h3 h4 (fun c hc => hv s c (by omega) hc)) ?_
      (repeat (first | with_reducible refine ok_nm0 ?_ | (with_reducible refine ok_chk ?_ ?_; · omega) | (with_reducible refine ok_if ?_ ?_; · omega) | (with_reducible refine ok_el ?_ ?_; · omega) | with_reducible refine ok_some ?_ | with_reducible refine ok_bi ?_ | with_reducible refine ok_bsm ?_)); try dsimp only
      have hb := mk_bd hn8 (fl p.n (M (t + 9 + 36 + 16 * s + 8)) (bt w))
      refine (ih s _ (by omega) (by omega) hb.1 hb.2).mono (fun z hz => ⟨hz.1, hz.2.1, hz.2.2.1, fun c => ?_⟩)
      rw [← hz.2.2.2 c]
      show IsMin p.n (M (t + 9 + 36 + 16 * s + 8) :: (vsl _ s ++ [npos p])) (bt w) c ↔ _
      rw [fl_min]
      constructor
      · exact fun hm => hm.congr (fun d hd => by rw [mk_bt]; simp [hd])
      · exact fun hm => hm.congr (fun d hd => by rw [mk_bt]; simp [hd])
theorem scan_iff {n : Nat} {vs us : List Vec} {w w' : Nat → Bool} (hv : Tot n vs) (hu : Tot n us) (h : ∀ c, IsMin n vs w c ↔ IsMin n us w' c) : scan n vs w = scan n us w' := by
  cases e : scan n vs w with
  | some c => rw [scan_min hu ((h c).mp (scan_some hv e))]
  | none =>
    cases e2 : scan n us w' with
    | none => rfl
    | some c =>
      have := scan_min hv ((h c).mpr (scan_some hu e2))
      rw [e] at this; cases this
/-- who is EXCLUDED, and what is left then -/
theorem exclude_ok {t o s : Nat} {p : PL} {M : Mem} {H : Int} {F : Vec} (h : WF p) (ho : t + 13 < o ∧ o + 9 < t + 10000) (hc : PCc M (t + 10000) p) (hs : s ≤ 8) (hv : ∀ s' c, s' < s → c < p.n → M (t + 9 + 36 + 16 * s' + 8) c < 9223372036854775807) (h7 : M t 7 = s) (h6 : M t 6 = H) (hH : 0 ≤ H ∧ H ≤ 8) (hf : Ag p.n (M (t + 3)) F) {c : Nat} (hsc : scan p.n (vsl (fun s => M (t + 9 + 36 + 16 * s + 8)) s ++ [npos p]) (fun c => decide (F c = 1)) = some c) : Ok (fX4_exclude t o M) (fun q => q.2 o 1 = c ∧ (∀ j, j ≠ 1 → q.2 o j = M o j) ∧ q.2 t 6 = H - 1 ∧ (∀ j, j ≠ 6 → q.2 t j = M t j) ∧ q.2 (t + 3) = up (M (t + 3)) c 3 ∧ q.2 (t + 4) = up (M (t + 4)) c ((s : Int) - 1) ∧ q.2 (t + 10) = up (M (t + 10)) c 0 ∧ ∀ b, b ≠ t → b ≠ t + 3 → b ≠ t + 4 → b ≠ t + 10 → b ≠ o → q.2 b = M b) := by
  have hn8 := h.1
  have htot : Tot p.n (vsl (fun s => M (t + 9 + 36 + 16 * s + 8)) s ++ [npos p]) := (Tot.one (npos_inj h)).app _
  have hcn := (scan_some htot hsc).1
  unfold fX4_exclude
  refine ok_bs (whoIs_ok hn8 hc.1) ?_
  have hb := mk_bd hn8 (fun c => decide (M (t + 3) c = 1))
  try dsimp only
  simp only [h7]
  (repeat (first | with_reducible refine ok_nm0 ?_ | (with_reducible refine ok_chk ?_ ?_; · omega) | (with_reducible refine ok_if ?_ ?_; · omega) | (with_reducible refine ok_el ?_ ?_; · omega) | with_reducible refine ok_some ?_ | with_reducible refine ok_bi ?_ | with_reducible refine ok_bsm ?_)); try dsimp only
  refine ok_by (excl_l13 h hc hs hv 1000 s _ (by omega) (Nat.le_refl s) hb.1 hb.2) (fun z hz => ?_)
  obtain ⟨z1, z2, z3, z4⟩ := hz
  rw [z1]
  refine ok_bs (lastInLot_ok h hc z2 z3) ?_
  have e : scan p.n [npos p] (bt z.1) = some c := by
    rw [← scan_iff htot (Tot.one (npos_inj h)) z4, ← hsc]
    refine scan_congr htot (fun d hd => ?_)
    rw [mk_bt, hf d hd]
    simp [hd]
  rw [e]
  show Ok (nm (c : Int) _) _
  (repeat (first | with_reducible refine ok_nm0 ?_ | (with_reducible refine ok_chk ?_ ?_; · omega) | (with_reducible refine ok_if ?_ ?_; · omega) | (with_reducible refine ok_el ?_ ?_; · omega) | with_reducible refine ok_some ?_ | with_reducible refine ok_bi ?_ | with_reducible refine ok_bsm ?_)); try dsimp only
  have r6 : wr M o 1 (c : Int) t 6 = H := by rw [wrn (by omega)]; exact h6
  simp only [r6]
  (repeat (first | with_reducible refine ok_nm0 ?_ | (with_reducible refine ok_chk ?_ ?_; · omega) | (with_reducible refine ok_if ?_ ?_; · omega) | (with_reducible refine ok_el ?_ ?_; · omega) | with_reducible refine ok_some ?_ | with_reducible refine ok_bi ?_ | with_reducible refine ok_bsm ?_)); try dsimp only
  have r7 : ∀ x y, wr (wr (wr M o 1 (c : Int)) t 6 x) (t + 3) (c : Int).toNat y t 7 = s := fun x y => by rw [wrn (by omega), wrk _ (by omega), wrn (by omega)]; exact h7
  simp only [r7]
  (repeat (first | with_reducible refine ok_nm0 ?_ | (with_reducible refine ok_chk ?_ ?_; · omega) | (with_reducible refine ok_if ?_ ?_; · omega) | (with_reducible refine ok_el ?_ ?_; · omega) | with_reducible refine ok_some ?_ | with_reducible refine ok_bi ?_ | with_reducible refine ok_bsm ?_)); try dsimp only
  rw [tn]
  refine ⟨?_, fun j hj => ?_, ?_, fun j hj => ?_, ?_, ?_, ?_, fun b b1 b2 b3 b4 b5 => ?_⟩
  · rw [wrn (by omega), wrn (by omega), wrn (by omega), wrn (by omega), wra]
  · rw [wrn (by omega), wrn (by omega), wrn (by omega), wrn (by omega), wrk _ hj]
  · rw [wrn (by omega), wrn (by omega), wrn (by omega), wra]
  · rw [wrn (by omega), wrn (by omega), wrn (by omega), wrk _ hj, wrn (by omega)]
  · rw [wrn (by omega), wrn (by omega), wre, wrn (by omega), wrn (by omega)]
  · rw [wrn (by omega), wre, wrn (by omega), wrn (by omega), wrn (by omega)]
  · rw [wre, wrn (by omega), wrn (by omega), wrn (by omega), wrn (by omega)]
  · rw [wrn b4, wrn b3, wrn b2, wrn b1, wrn b5]
end
end
section
section
/-! THE COUNT -/
abbrev ST : Type := Vec × Vec × Vec × List Nat × List SR
abbrev ST.f (s : ST) : Vec := s.1
abbrev ST.k (s : ST) : Vec := s.2.1
abbrev ST.w (s : ST) : Vec := s.2.2.1
abbrev ST.o (s : ST) : List Nat := s.2.2.2.1
abbrev ST.h (s : ST) : List SR := s.2.2.2.2
def hop (f : Vec) : Nat → Bool := fun c => decide (f c = 1)
def beh (h : List SR) : Bool := match h.getLast? with
  | none => false
  | some s => decide (s.o ≠ -5)
def lg (h : List SR) : Vec := match h.getLast? with
  | none => fun _ => 0
  | some s => s.g
def lq (h : List SR) : Int := match h.getLast? with
  | none => 0
  | some s => s.q
/-- who is EXCLUDED by these VOTES now -/
def wst (p : PL) (f : Vec) (h : List SR) (g : Vec) : Option Nat := scan p.n ((g :: h.reverse.map SR.g) ++ [npos p]) (hop f)
def kk (f : Vec) (b : Bool) (r : Int) (K g : Vec) (q : Int) : Vec := if 1 < r ∨ b = false then tk f K g q else K
def EE (p : PL) (f : Vec) (ord : List Nat) (g : Vec) : List Nat := srt (p.se - ord.length).toNat p.n (av p g) (reach f g (quo p g))
/-- more than any loop takes -/
def fu : Nat := 1000
theorem fu_e : fu = 1000 := rfl
def rnds (p : PL) (f : Vec) (ord : List Nat) (h : List SR) (b : Bool) : Nat → Int → Vec → Vec → Int → SR
  | 0, r, K, g, q => (r, -5, [], q, 0, 0, 0, g, K)
  | m + 1, r, K, g, q =>
    if EE p f ord (VT p (kk f b r K g q)).2 ≠ [] then
      (r, -5, EE p f ord (VT p (kk f b r K g q)).2, quo p (VT p (kk f b r K g q)).2, (VT p (kk f b r K g q)).1, sur p.n f (VT p (kk f b r K g q)).2 (quo p (VT p (kk f b r K g q)).2), sm p.n (VT p (kk f b r K g q)).2, (VT p (kk f b r K g q)).2, kk f b r K g q)
    else if sur p.n f (VT p (kk f b r K g q)).2 (quo p (VT p (kk f b r K g q)).2) ≤ p.li ∨ r = p.ro then
      (r, opt (wst p f h (VT p (kk f b r K g q)).2), [], quo p (VT p (kk f b r K g q)).2, (VT p (kk f b r K g q)).1, sur p.n f (VT p (kk f b r K g q)).2 (quo p (VT p (kk f b r K g q)).2), sm p.n (VT p (kk f b r K g q)).2, (VT p (kk f b r K g q)).2, kk f b r K g q)
    else rnds p f ord h b m (r + 1) (kk f b r K g q) (VT p (kk f b r K g q)).2 (quo p (VT p (kk f b r K g q)).2)
def filS (p : PL) (st : ST) : SR := (0, -5, srt 8 p.n (av p (VT p st.k).2) (hop st.f), quo p (VT p st.k).2, (VT p st.k).1, 0, sm p.n (VT p st.k).2, (VT p st.k).2, st.k)
def stg (p : PL) (st : ST) : SR := if cn p.n (hop st.f) + st.o.length ≤ p.se then filS p st else rnds p st.f st.o st.h (beh st.h) fu 1 st.k (lg st.h) (lq st.h)
def nf (sr : SR) (f : Vec) : Vec := fun c => if c ∈ sr.E then 2 else if sr.o = (c : Int) then 3 else f c
def nk (sr : SR) : Vec := fun c => if sr.o = (c : Int) then 0 else sr.k c
def nw (sr : SR) (s : Int) (w : Vec) : Vec := fun c => if c ∈ sr.E ∨ sr.o = (c : Int) then s else w c
def nxt (st : ST) (sr : SR) : ST := (nf sr st.f, nk sr, nw sr st.h.length st.w, st.o ++ sr.E, st.h ++ [sr])
def cntR (p : PL) : Nat → ST → ST
  | 0, st => st
  | m + 1, st => if 0 < cn p.n (hop st.f) ∧ (st.o.length : Int) < p.se then cntR p m (nxt st (stg p st)) else st
def ini (p : PL) : ST := (fun c => if p.g c = 0 then 1 else 0, fun c => if p.g c = 0 then 1000000 else 0, fun _ => -5, [], [])
def cnt (p : PL) : ST := cntR p fu (ini p)
/-- what holds of a STAGE -/
def SRok (p : PL) (sr : SR) : Prop := (∀ c, c < p.n → 0 ≤ sr.g c ∧ sr.g c ≤ 4611686000000) ∧ (1 ≤ sr.q ∧ sr.q ≤ 2305843000001) ∧ KB p.n sr.k ∧ sr.t = sm p.n sr.g ∧ (sr.o = -5 ∨ ∃ c, c < p.n ∧ sr.o = (c : Int))
/-- what a STAGE does to those that are hopeful -/
def SRst (p : PL) (f : Vec) (ord : List Nat) (sr : SR) : Prop := sr.E.Nodup ∧ (∀ c, c ∈ sr.E → c < p.n ∧ f c = 1) ∧ (ord.length + sr.E.length : Int) ≤ p.se ∧ ((sr.o = -5 ∧ sr.E ≠ []) ∨ (sr.E = [] ∧ ∃ c, c < p.n ∧ f c = 1 ∧ sr.o = (c : Int)))
def SI (p : PL) (st : ST) : Prop :=
  (∀ c, c < p.n → (p.g c = 0 → st.f c = 1 ∨ st.f c = 2 ∨ st.f c = 3) ∧ (p.g c ≠ 0 → st.f c = 0)) ∧ KB p.n st.k ∧ st.o.Nodup ∧ (∀ c, c ∈ st.o ↔ c < p.n ∧ st.f c = 2) ∧ (st.o.length : Int) ≤ p.se ∧ (st.h.length : Int) + cn p.n (hop st.f) ≤ p.n ∧ (∀ sr, sr ∈ st.h → SRok p sr) ∧ (st.h = [] → st.o = []) ∧ cn p.n (fun c => decide (st.f c = 2)) = st.o.length ∧ cn p.n (fun c => decide (st.f c = 3)) = ((st.h.filter (fun sr => decide (sr.o ≠ -5))).length : Nat)
theorem beh_app (h : List SR) (sr : SR) : beh (h ++ [sr]) = decide (sr.o ≠ -5) := by simp [beh]
theorem lg_app (h : List SR) (sr : SR) : lg (h ++ [sr]) = sr.g := by simp [lg]
theorem lq_app (h : List SR) (sr : SR) : lq (h ++ [sr]) = sr.q := by simp [lq]
theorem lq_bd {p : PL} {st : ST} (h : SI p st) : 0 ≤ lq st.h ∧ lq st.h ≤ 2305843000001 := by
  unfold lq
  cases e : st.h.getLast? with
  | none => exact ⟨Int.le_refl 0, by decide⟩
  | some s =>
    have := (h.2.2.2.2.2.2.1 s (List.mem_of_getLast? e)).2.1
    exact ⟨by (try dsimp only); omega, this.2⟩
theorem kk_KB {n : Nat} {f : Vec} {b : Bool} {r : Int} {K g : Vec} {q : Int} (h : KB n K) (hq : 0 ≤ q) : KB n (kk f b r K g q) := by
  unfold kk
  split
  · exact tk_KB h hq
  · exact h
theorem opt_some {x : Option Nat} {c : Nat} (h : x = some c) : opt x = c := by rw [h]; rfl
theorem wst_tot {p : PL} (h : WF p) (hs : List SR) (g : Vec) : Tot p.n ((g :: hs.reverse.map SR.g) ++ [npos p]) := (Tot.one (npos_inj h)).app _
theorem wst_ex {p : PL} (h : WF p) {f : Vec} {hs : List SR} {g : Vec} (hc : 0 < cn p.n (hop f)) : ∃ c, wst p f hs g = some c ∧ c < p.n ∧ f c = 1 := by
  obtain ⟨d, hd, hf⟩ := cn_ex hc
  cases e : wst p f hs g with
  | none =>
    have := scan_none e d hd
    rw [hf] at this; cases this
  | some c =>
    have hm := scan_some (wst_tot h hs g) e
    exact ⟨c, rfl, hm.1, by simpa [hop] using hm.2.1⟩
theorem EE_ok {p : PL} (h : WF p) {f : Vec} {ord : List Nat} {g : Vec} (hl : (ord.length : Int) ≤ p.se) : (EE p f ord g).Nodup ∧ (∀ c, c ∈ EE p f ord g → c < p.n ∧ f c = 1) ∧ (ord.length + (EE p f ord g).length : Int) ≤ p.se := by
  have ht := av_tot h g
  refine ⟨srt_nd ht, fun c hc => ?_, ?_⟩
  · have := srt_sub ht hc
    refine ⟨this.1, ?_⟩
    have h2 := this.2
    simp only [reach, Bool.and_eq_true, decide_eq_true_eq] at h2
    exact h2.1
  · have := srt_len (k := (p.se - ord.length).toNat) (w := reach f g (quo p g)) ht
    unfold EE
    rw [this]
    split <;> omega
theorem rnds_ok {p : PL} (h : WF p) {f : Vec} {ord : List Nat} {hs : List SR} {b : Bool} (hl : (ord.length : Int) ≤ p.se) (hc : 0 < cn p.n (hop f)) : ∀ (m : Nat) (r : Int) (K g : Vec) (q : Int), r ≤ p.ro → p.ro - r < m → KB p.n K → 0 ≤ q → SRok p (rnds p f ord hs b m r K g q) ∧ SRst p f ord (rnds p f ord hs b m r K g q) := by
  intro m
  induction m with
  | zero => intro r K g q h1 h2; omega
  | succ m ih =>
    intro r K g q h1 h2 hK hq
    have hK' : KB p.n (kk f b r K g q) := kk_KB hK hq
    unfold rnds
    generalize kk f b r K g q = K' at *
    have hv := VT_bd h hK'
    have hqb := quo_bd h hv.2.2.2.1 hv.2.2.2.2
    obtain ⟨e1, e2, e3⟩ := EE_ok h (f := f) (ord := ord) (g := (VT p K').2) hl
    split
    · rename_i hne
      exact ⟨⟨hv.2.2.1, hqb, hK', rfl, Or.inl rfl⟩, e1, e2, e3, Or.inl ⟨rfl, hne⟩⟩
    · rename_i hne
      split
      · obtain ⟨c, hc1, hc2, hc3⟩ := wst_ex h (f := f) (hs := hs) (g := (VT p K').2) hc
        have ho : opt (wst p f hs (VT p K').2) = c := opt_some hc1
        exact ⟨⟨hv.2.2.1, hqb, hK', rfl, Or.inr ⟨c, hc2, ho⟩⟩, List.nodup_nil, (fun d hd => by cases hd), (by show (ord.length : Int) + ((0 : Nat) : Int) ≤ p.se; omega), Or.inr ⟨rfl, c, hc2, hc3, ho⟩⟩
      · rename_i hx
        exact ih (r + 1) K' _ _ (by omega) (by omega) hK' (by omega)
theorem filS_ok {p : PL} (h : WF p) {st : ST} (hK : KB p.n st.k) (hc : 0 < cn p.n (hop st.f)) (hle : cn p.n (hop st.f) + st.o.length ≤ p.se) : SRok p (filS p st) ∧ SRst p st.f st.o (filS p st) := by
  have hv := VT_bd h hK
  have hqb := quo_bd h hv.2.2.2.1 hv.2.2.2.2
  have ht := av_tot h (VT p st.k).2
  have hcl := cn_le p.n (hop st.f)
  have h8 := h.1
  have hlen := srt_len (k := 8) (w := hop st.f) ht
  rw [if_pos (by omega)] at hlen
  refine ⟨⟨hv.2.2.1, hqb, hK, rfl, Or.inl rfl⟩, srt_nd ht, fun c hc => ?_, ?_, Or.inl ⟨rfl, fun e => ?_⟩⟩
  · have := srt_sub ht hc
    exact ⟨this.1, by simpa [hop] using this.2⟩
  · show (st.o.length : Int) + ((srt 8 p.n (av p (VT p st.k).2) (hop st.f)).length : Int) ≤ p.se
    omega
  · have : (srt 8 p.n (av p (VT p st.k).2) (hop st.f)) = [] := e
    rw [this] at hlen
    simp at hlen
    omega
theorem stg_ok {p : PL} (h : WF p) {st : ST} (hs : SI p st) (hc : 0 < cn p.n (hop st.f)) : SRok p (stg p st) ∧ SRst p st.f st.o (stg p st) := by
  unfold stg
  have hr := h.2.2.2.2.2.2.2.2
  split
  · rename_i hle
    exact filS_ok h hs.2.1 hc hle
  · exact rnds_ok h hs.2.2.2.2.1 hc fu 1 _ _ _ (by omega) (by have := fu_e; omega) hs.2.1 (lq_bd hs).1
theorem SRst.oE {p : PL} {f : Vec} {ord : List Nat} {sr : SR} (h : SRst p f ord sr) {c : Nat} (hc : c ∈ sr.E) : ¬ sr.o = (c : Int) := by
  rcases h.2.2.2 with h1 | h1
  · have := h1.1; omega
  · rw [h1.1] at hc; cases hc
/-- numbers of those that change their fate -/
theorem cn_E {n : Nat} : ∀ (E : List Nat) (f : Vec) (v : Int), E.Nodup → (∀ c, c ∈ E → c < n ∧ f c ≠ v) → cn n (fun c => decide ((if c ∈ E then v else f c) = v)) = cn n (fun c => decide (f c = v)) + E.length
  | [], f, v, _, _ => by simp
  | c :: E, f, v, hn, h => by
    have hn' := List.nodup_cons.mp hn
    have ih := cn_E E f v hn'.2 (fun d hd => h d (List.mem_cons_of_mem _ hd))
    have hc := h c List.mem_cons_self
    rw [cn_add (p := fun d => decide ((if d ∈ E then v else f d) = v)) (c := c) hc.1 (by simp [hn'.1, hc.2]) (by simp) (fun d hd hne => by simp [hne]), ih]
    simp only [List.length_cons]
    omega
theorem cn_E' {n : Nat} : ∀ (E : List Nat) (f : Vec) (v u : Int), u ≠ v → E.Nodup → (∀ c, c ∈ E → c < n ∧ f c = v) → cn n (fun c => decide ((if c ∈ E then u else f c) = v)) = cn n (fun c => decide (f c = v)) - E.length
  | [], f, v, u, _, _, _ => by simp
  | c :: E, f, v, u, hu, hn, h => by
    have hn' := List.nodup_cons.mp hn
    have ih := cn_E' E f v u hu hn'.2 (fun d hd => h d (List.mem_cons_of_mem _ hd))
    have hc := h c List.mem_cons_self
    have := cn_add (n := n) (p := fun d => decide ((if d ∈ c :: E then u else f d) = v)) (q := fun d => decide ((if d ∈ E then u else f d) = v)) (c := c) hc.1 (by simp [hu]) (by simp [hn'.1, hc.2]) (fun d hd hne => by simp [hne])
    simp only [List.length_cons]
    omega
theorem cn_o {n : Nat} {f : Vec} {v : Int} {c : Nat} (hc : c < n) (h1 : f c ≠ v) : cn n (fun d => decide ((if (c : Int) = (d : Int) then v else f d) = v)) = cn n (fun d => decide (f d = v)) + 1 :=
  cn_add hc (by simpa using h1) (by simp) (fun d hd hne => by
    have : ¬ (c : Int) = (d : Int) := by omega
    simp [this])
theorem cn_o' {n : Nat} {f : Vec} {v u : Int} {c : Nat} (hc : c < n) (hu : u ≠ v) (h1 : f c = v) : cn n (fun d => decide ((if (c : Int) = (d : Int) then u else f d) = v)) = cn n (fun d => decide (f d = v)) - 1 := by
  have := cn_add (n := n) (p := fun d => decide ((if (c : Int) = (d : Int) then u else f d) = v)) (q := fun d => decide (f d = v)) (c := c) hc (by simp [hu]) (by simpa using h1) (fun d hd hne => by
    have : ¬ (c : Int) = (d : Int) := by omega
    simp [this])
  omega
theorem nxt_ok {p : PL} (h : WF p) {st : ST} {sr : SR} (hs : SI p st) (hk : SRok p sr) (ht : SRst p st.f st.o sr) : SI p (nxt st sr) := by
  obtain ⟨i1, i2, i3, i4, i5, i6, i7, i8, i9, i10⟩ := hs
  obtain ⟨k1, k2, k3, k4, k5⟩ := hk
  obtain ⟨t1, t2, t3, t4⟩ := ht
  refine ⟨fun c hc => ?_, fun c hc => ?_, ?_, fun c => ?_, ?_, ?_, fun s hsm => ?_, fun e => ?_, ?_, ?_⟩
  · have h1 := i1 c hc
    show (p.g c = 0 → nf sr st.f c = 1 ∨ nf sr st.f c = 2 ∨ nf sr st.f c = 3) ∧ (p.g c ≠ 0 → nf sr st.f c = 0)
    unfold nf
    by_cases c1 : c ∈ sr.E
    · rw [if_pos c1]
      have := t2 c c1
      exact ⟨fun _ => Or.inr (Or.inl rfl), fun hg => by have := h1.2 hg; omega⟩
    · rw [if_neg c1]
      by_cases c2 : sr.o = (c : Int)
      · rw [if_pos c2]
        refine ⟨fun _ => Or.inr (Or.inr rfl), fun hg => ?_⟩
        have := h1.2 hg
        rcases t4 with t4 | ⟨_, d, _, hd1, hd2⟩
        · omega
        · have : d = c := by omega
          subst this; omega
      · rw [if_neg c2]; exact h1
  · show 0 ≤ nk sr c ∧ nk sr c ≤ 1000000
    unfold nk
    split
    · omega
    · exact k3 c hc
  · show (st.o ++ sr.E).Nodup
    refine List.nodup_append.mpr ⟨i3, t1, fun a ha b hb e => ?_⟩
    subst e
    have h1 := (i4 a).mp ha
    have h2 := t2 a hb
    omega
  · show c ∈ st.o ++ sr.E ↔ c < p.n ∧ nf sr st.f c = 2
    rw [List.mem_append, i4 c]
    unfold nf
    by_cases c1 : c ∈ sr.E
    · rw [if_pos c1]
      exact ⟨fun _ => ⟨(t2 c c1).1, rfl⟩, fun _ => Or.inr c1⟩
    · rw [if_neg c1]
      by_cases c2 : sr.o = (c : Int)
      · rw [if_pos c2]
        constructor
        · rintro (h1 | h1)
          · rcases t4 with t4 | ⟨_, d, _, hd1, hd2⟩
            · omega
            · have : d = c := by omega
              subst this; omega
          · exact absurd h1 c1
        · rintro ⟨_, h1⟩; omega
      · rw [if_neg c2]
        constructor
        · rintro (h1 | h1)
          · exact h1
          · exact absurd h1 c1
        · intro h1; exact Or.inl h1
  · show ((st.o ++ sr.E).length : Int) ≤ p.se
    rw [List.length_append]; omega
  · show ((st.h ++ [sr]).length : Int) + cn p.n (hop (nf sr st.f)) ≤ p.n
    have hl : ((st.h ++ [sr]).length : Int) = st.h.length + 1 := by simp
    rw [hl]
    rcases t4 with ⟨t4, t5⟩ | ⟨t4, d, hd0, hd1, hd2⟩
    · have e : cn p.n (hop (nf sr st.f)) = cn p.n (fun c => decide ((if c ∈ sr.E then 2 else st.f c) = 1)) := cn_congr (fun c hc => by
        unfold hop nf
        have : ¬ sr.o = (c : Int) := by omega
        simp [this])
      rw [e, cn_E' _ _ _ _ (by decide) t1 t2]
      have : sr.E.length ≠ 0 := fun e => t5 (List.length_eq_zero_iff.mp e)
      show (st.h.length : Int) + 1 + (cn p.n (hop st.f) - _) ≤ _
      omega
    · have e : cn p.n (hop (nf sr st.f)) = cn p.n (fun c => decide ((if (d : Int) = (c : Int) then 3 else st.f c) = 1)) := cn_congr (fun c hc => by
        unfold hop nf
        rw [t4, hd2]
        simp)
      rw [e, cn_o' hd0 (by decide) hd1]
      show (st.h.length : Int) + 1 + (cn p.n (hop st.f) - 1) ≤ _
      omega
  · have : s ∈ st.h ++ [sr] := hsm
    rcases List.mem_append.mp this with h1 | h1
    · exact i7 s h1
    · have : s = sr := by simpa using h1
      subst this
      exact ⟨k1, k2, k3, k4, k5⟩
  · have : st.h ++ [sr] = [] := e
    simp at this
  · show cn p.n (fun c => decide (nf sr st.f c = 2)) = ((st.o ++ sr.E).length : Nat)
    rw [List.length_append]
    rcases t4 with ⟨t4, t5⟩ | ⟨t4, d, hd0, hd1, hd2⟩
    · have e : cn p.n (fun c => decide (nf sr st.f c = 2)) = cn p.n (fun c => decide ((if c ∈ sr.E then 2 else st.f c) = 2)) := cn_congr (fun c hc => by
        unfold nf
        have : ¬ sr.o = (c : Int) := by omega
        simp [this])
      rw [e, cn_E _ _ _ t1 (fun c hc => ⟨(t2 c hc).1, by have := (t2 c hc).2; omega⟩), i9]
      omega
    · have e : cn p.n (fun c => decide (nf sr st.f c = 2)) = cn p.n (fun c => decide (st.f c = 2)) := cn_congr (fun c hc => by
        unfold nf
        rw [t4, hd2]
        by_cases c1 : (d : Int) = (c : Int)
        · have : d = c := by omega
          subst this
          simp [hd1]
        · simp [c1])
      rw [e, i9, t4]
      simp
  · show cn p.n (fun c => decide (nf sr st.f c = 3)) = (((st.h ++ [sr]).filter (fun sr => decide (sr.o ≠ -5))).length : Nat)
    rw [List.filter_append, List.length_append]
    rcases t4 with ⟨t4, t5⟩ | ⟨t4, d, hd0, hd1, hd2⟩
    · have e : cn p.n (fun c => decide (nf sr st.f c = 3)) = cn p.n (fun c => decide (st.f c = 3)) := cn_congr (fun c hc => by
        unfold nf
        have c2 : ¬ sr.o = (c : Int) := by omega
        by_cases c1 : c ∈ sr.E
        · have := (t2 c c1).2
          simp [c1, this]
        · simp [c1, c2])
      rw [e, i10]
      have : [sr].filter (fun sr => decide (sr.o ≠ -5)) = [] := by simp [t4]
      rw [this]
      simp
    · have e : cn p.n (fun c => decide (nf sr st.f c = 3)) = cn p.n (fun c => decide ((if (d : Int) = (c : Int) then 3 else st.f c) = 3)) := cn_congr (fun c hc => by
        unfold nf
        rw [t4, hd2]
        simp)
      rw [e, cn_o hd0 (by omega), i10]
      have : [sr].filter (fun sr => decide (sr.o ≠ -5)) = [sr] := by
        have : sr.o ≠ -5 := by omega
        simp [this]
      rw [this]
      simp
theorem ini_ok {p : PL} (h : WF p) : SI p (ini p) := by
  have hz2 : cn p.n (fun c => decide ((ini p).f c = 2)) = 0 := cn_z (fun c hc => by
    show decide ((if p.g c = 0 then (1 : Int) else 0) = 2) = false
    split <;> rfl)
  have hz3 : cn p.n (fun c => decide ((ini p).f c = 3)) = 0 := cn_z (fun c hc => by
    show decide ((if p.g c = 0 then (1 : Int) else 0) = 3) = false
    split <;> rfl)
  have hle := cn_le p.n (hop (ini p).f)
  have hs := h.2.2.2.2.2.2.1
  refine ⟨fun c hc => ⟨fun e => Or.inl ?_, fun e => ?_⟩, fun c hc => ?_, List.nodup_nil, fun c => ⟨(fun hx => by cases hx), fun hx' => ?_⟩, ?_, ?_, (fun s hx => by cases hx), fun _ => rfl, hz2, hz3⟩
  · show (if p.g c = 0 then (1 : Int) else 0) = 1
    rw [if_pos e]
  · show (if p.g c = 0 then (1 : Int) else 0) = 0
    rw [if_neg e]
  · show 0 ≤ (if p.g c = 0 then (1000000 : Int) else 0) ∧ (if p.g c = 0 then (1000000 : Int) else 0) ≤ 1000000
    split <;> omega
  · have : (if p.g c = 0 then (1 : Int) else 0) = 2 := hx'.2
    split at this <;> omega
  · show ((0 : Nat) : Int) ≤ p.se
    omega
  · show ((0 : Nat) : Int) + _ ≤ _
    omega
theorem cntR_ok {p : PL} (h : WF p) : ∀ (m : Nat) (st : ST), SI p st → SI p (cntR p m st)
  | 0, _, hs => hs
  | m + 1, st, hs => by
    unfold cntR
    split
    · rename_i hc
      have := stg_ok h hs hc.1
      exact cntR_ok h m _ (nxt_ok h hs this.1 this.2)
    · exact hs
theorem cnt_ok {p : PL} (h : WF p) : SI p (cnt p) := cntR_ok h fu _ (ini_ok h)
end
end
section
section
/-! the class's count is THE COUNT -/
def SRc (M : Mem) (o n : Nat) (sr : SR) : Prop := M o 0 = sr.r ∧ M o 1 = sr.o ∧ M o 2 = mk n (fun c => decide (c ∈ sr.E)) ∧ M o 3 = sr.q ∧ M o 4 = sr.x ∧ M o 5 = sr.s ∧ M o 6 = sr.t ∧ Ag n (M (o + 8)) sr.g ∧ Ag n (M (o + 9)) sr.k
theorem SRc.same {M M' : Mem} {o n : Nat} {sr : SR} (h : SRc M o n sr) (h0 : M' o = M o) (h8 : M' (o + 8) = M (o + 8)) (h9 : M' (o + 9) = M (o + 9)) : SRc M' o n sr := by
  unfold SRc at *
  rw [h0, h8, h9]
  exact h
def CT (M : Mem) (t : Nat) (p : PL) (st : ST) : Prop := M t 5 = st.o.length ∧ M t 6 = cn p.n (hop st.f) ∧ M t 7 = st.h.length ∧ (∀ c, c < p.n → M (t + 3) c = st.f c ∧ M (t + 10) c = st.k c ∧ M (t + 4) c = st.w c) ∧ (∀ i c : Nat, st.o[i]? = some c → M (t + 5) i = (c : Int)) ∧ (∀ s sr, st.h[s]? = some sr → SRc M (t + 9 + 36 + 16 * s) p.n sr) ∧ (st.h ≠ [] → Ag p.n (M (t + 11)) (lg st.h) ∧ M t 11 = lq st.h) ∧ PAc M (t + 20) (gat p) ∧ PCc M (t + 10000) p
def CR (M : Mem) (t : Nat) (p : PL) (st : ST) (K : Vec) : Prop := M t 5 = st.o.length ∧ M t 6 = cn p.n (hop st.f) ∧ M t 7 = (st.h.length : Int) + 1 ∧ (∀ c, c < p.n → M (t + 3) c = st.f c ∧ M (t + 10) c = K c ∧ M (t + 4) c = st.w c) ∧ (∀ i c : Nat, st.o[i]? = some c → M (t + 5) i = (c : Int)) ∧ (∀ s sr, st.h[s]? = some sr → SRc M (t + 9 + 36 + 16 * s) p.n sr) ∧ (M (t + 9 + 36 + 16 * st.h.length) 1 = -5 ∧ M (t + 9 + 36 + 16 * st.h.length) 2 = 0) ∧ PAc M (t + 20) (gat p) ∧ PCc M (t + 10000) p
theorem PAc.same {M M' : Mem} {a : Nat} {pl : PIL} (h : PAc M a pl) (h0 : M' a = M a) (h2 : M' (a + 2) = M (a + 2)) (h3 : M' (a + 3) = M (a + 3)) : PAc M' a pl := by
  unfold PAc at *
  rw [h0, h2, h3]
  exact h
theorem CR.upd {M M' : Mem} {t : Nat} {p : PL} {st : ST} {K K' : Vec} (h : CR M t p st K) (hl : st.h.length ≤ 8) (hf : ∀ x, x ≠ t → x ≠ t + 10 → x ≠ t + 11 → x ≠ t + 9 + 36 + 16 * st.h.length → x ≠ t + 9 + 36 + 16 * st.h.length + 8 → x ≠ t + 9 + 36 + 16 * st.h.length + 9 → M' x = M x) (h5 : M' t 5 = M t 5) (h6 : M' t 6 = M t 6) (h7 : M' t 7 = M t 7) (hk : Ag p.n (M' (t + 10)) K') (h1 : M' (t + 9 + 36 + 16 * st.h.length) 1 = M (t + 9 + 36 + 16 * st.h.length) 1) (h2 : M' (t + 9 + 36 + 16 * st.h.length) 2 = M (t + 9 + 36 + 16 * st.h.length) 2) : CR M' t p st K' := by
  obtain ⟨a1, a2, a3, a4, a5, a6, a7, a8, a9⟩ := h
  refine ⟨h5.trans a1, h6.trans a2, h7.trans a3, fun c hc => ?_, fun i c hi => ?_, fun s sr hs => ?_, ⟨h1.trans a7.1, h2.trans a7.2⟩, ?_, ?_⟩
  · rw [hf (t + 3) (by omega) (by omega) (by omega) (by omega) (by omega) (by omega), hf (t + 4) (by omega) (by omega) (by omega) (by omega) (by omega) (by omega)]
    exact ⟨(a4 c hc).1, hk c hc, (a4 c hc).2.2⟩
  · rw [hf (t + 5) (by omega) (by omega) (by omega) (by omega) (by omega) (by omega)]
    exact a5 i c hi
  · have := getq_lt hs
    exact (a6 s sr hs).same (hf _ (by omega) (by omega) (by omega) (by omega) (by omega) (by omega)) (hf _ (by omega) (by omega) (by omega) (by omega) (by omega) (by omega)) (hf _ (by omega) (by omega) (by omega) (by omega) (by omega) (by omega))
  · exact a8.same (hf _ (by omega) (by omega) (by omega) (by omega) (by omega) (by omega)) (hf _ (by omega) (by omega) (by omega) (by omega) (by omega) (by omega)) (hf _ (by omega) (by omega) (by omega) (by omega) (by omega) (by omega))
  · exact a9.same (hf _ (by omega) (by omega) (by omega) (by omega) (by omega) (by omega)) (hf _ (by omega) (by omega) (by omega) (by omega) (by omega) (by omega)) (hf _ (by omega) (by omega) (by omega) (by omega) (by omega) (by omega)) (hf _ (by omega) (by omega) (by omega) (by omega) (by omega) (by omega)) (hf _ (by omega) (by omega) (by omega) (by omega) (by omega) (by omega))
/-- VOTES, QUOTA of the ROUND ahead: needed only where somebody is elected -/
def GQ (M : Mem) (t n : Nat) (f g : Vec) (q : Int) : Prop := (∀ c, c < n → f c ≠ 2) ∨ (Ag n (M (t + 11)) g ∧ M t 11 = q ∧ ∀ c, c < n → 0 ≤ g c ∧ g c ≤ 4611686000000)
theorem turn0_l {t n : Nat} {M : Mem} (hn : n ≤ 8) (h0 : M (t + 10000) 0 = n) (hf : ∀ c, c < n → M (t + 3) c ≠ 2) : ∀ (m i : Nat), i ≤ n → n < m + i → Ok (fX4_turnKeeps_l2 t m i M) (fun z => z.2 = M) := by
  intro m
  induction m with
  | zero => intros; omega
  | succ m ih =>
    intro i h1 h2
    unfold fX4_turnKeeps_l2
    rw [h0]
    refine ok_ite (fun hc => ok_some rfl) (fun hc => ?_)
    have := hf i (by omega)
    simp only [tn]
    (repeat (first | with_reducible refine ok_nm0 ?_ | (with_reducible refine ok_chk ?_ ?_; · omega) | (with_reducible refine ok_if ?_ ?_; · omega) | (with_reducible refine ok_el ?_ ?_; · omega) | with_reducible refine ok_some ?_ | with_reducible refine ok_bi ?_ | with_reducible refine ok_bsm ?_)); try dsimp only
    exact ih (i + 1) (by omega) (by omega)
theorem turn_any {t : Nat} {p : PL} {f K g : Vec} {q : Int} {M : Mem} (h : WF p) (hK : KB p.n K) (hq : 0 ≤ q) (hq2 : q ≤ 2305843000001) (hG : GQ M t p.n f g q) (h0 : PCc M (t + 10000) p) (hf : Ag p.n (M (t + 3)) f) (hk : Ag p.n (M (t + 10)) K) : Ok (fX4_turnKeeps t M) (fun z => Ag p.n (z.2 (t + 10)) (tk f K g q) ∧ ∀ b, b ≠ t + 10 → z.2 b = M b) := by
  rcases hG with hG | ⟨h1, h2, h3⟩
  · have := h.1
    unfold fX4_turnKeeps
    refine ok_by (turn0_l h.1 h0.1 (fun c hc => by rw [hf c hc]; exact hG c hc) 1000 0 (by omega) (by omega)) (fun z hz => ok_some ?_)
    try dsimp only
    rw [hz]
    refine ⟨fun c hc => ?_, fun _ _ => rfl⟩
    unfold tk
    rw [if_neg (fun e => hG c hc e.1)]
    exact hk c hc
  · exact turn_ok h hK hq hq2 h3 h0 hf h1 h2 hk
theorem mk_zero {n : Nat} (hn : n ≤ 8) {p : Nat → Bool} : mk n p = 0 ↔ ∀ c, c < n → p c = false := by
  constructor
  · intro h c hc
    have := mk_bt n p c
    rw [h, bt_0] at this
    simpa [hc] using this.symm
  · intro h
    exact (mk_eq hn (Int.le_refl 0) (by decide) (fun c hc => by
      rw [bt_0]
      by_cases e : c < n
      · rw [h c e]; simp
      · simp [e])).symm
theorem vsl_lx {n : Nat} {V : Nat → Vec} {tl : List Vec} : ∀ (k : Nat) (h : List SR), k ≤ h.length → (∀ s sr, s < k → h[s]? = some sr → Ag n (V s) sr.g) → ∀ c d, c < n → d < n → lx (vsl V k ++ tl) c d = lx ((h.take k).reverse.map SR.g ++ tl) c d
  | 0, _, _, _, _, _, _, _ => rfl
  | k + 1, h, hk, hV, c, d, hc, hd => by
    obtain ⟨sr, hs⟩ := getq (pl := h) (j := k) (by omega)
    obtain ⟨hi, e⟩ := List.getElem?_eq_some_iff.mp hs
    have ih := vsl_lx (tl := tl) k h (by omega) (fun s sr hs => hV s sr (by omega)) c d hc hd
    rw [List.take_succ_eq_append_getElem hi, e, List.reverse_append]
    show lx (V k :: (vsl V k ++ tl)) c d = lx (sr.g :: ((h.take k).reverse.map SR.g ++ tl)) c d
    unfold lx
    rw [ih, hV k sr (by omega) hs c hc, hV k sr (by omega) hs d hd]
theorem nxt_cn {p : PL} {f : Vec} {ord : List Nat} {sr : SR} (h : SRst p f ord sr) : cn p.n (hop (nf sr f)) = cn p.n (hop f) - sr.E.length - (if sr.o = -5 then 0 else 1) := by
  obtain ⟨t1, t2, t3, t4⟩ := h
  rcases t4 with ⟨t4, t5⟩ | ⟨t4, d, hd0, hd1, hd2⟩
  · have e : cn p.n (hop (nf sr f)) = cn p.n (fun c => decide ((if c ∈ sr.E then 2 else f c) = 1)) := cn_congr (fun c hc => by
      unfold hop nf
      have : ¬ sr.o = (c : Int) := by omega
      simp [this])
    rw [e, cn_E' _ _ _ _ (by decide) t1 t2, if_pos t4]
    show (cn p.n (hop f) - _) = _
    omega
  · have e : cn p.n (hop (nf sr f)) = cn p.n (fun c => decide ((if (d : Int) = (c : Int) then 3 else f c) = 1)) := cn_congr (fun c hc => by
      unfold hop nf
      rw [t4, hd2]
      simp)
    rw [e, cn_o' hd0 (by decide) hd1, if_neg (by omega), t4]
    show (cn p.n (hop f) - 1) = cn p.n (hop f) - ((0 : Nat) : Int) - 1
    omega
/-- the state behind a STAGE that elects -/
theorem elect_CT {M M' : Mem} {t : Nat} {p : PL} {st : ST} {K : Vec} {sr : SR} (h : WF p) (hl : st.h.length ≤ 7) (hC : CR M t p st K) (hE : EL M t (t + 9 + 36 + 16 * st.h.length) p.n st.o (cn p.n (hop st.f)) ((st.h.length : Int) + 1) st.f st.w sr.E M') (hS : SRst p st.f st.o sr) (ho : sr.o = -5) (hc : SRc M (t + 9 + 36 + 16 * st.h.length) p.n (sr.r, -5, [], sr.q, sr.x, sr.s, sr.t, sr.g, sr.k)) (hK : K = sr.k) (hg : Ag p.n (M (t + 11)) sr.g) (hq : M t 11 = sr.q) : CT M' t p (nxt st sr) := by
  obtain ⟨a1, a2, a3, a4, a5, a6, a7, a8, a9⟩ := hC
  obtain ⟨e1, e2, e3, e4, e5, e6, e7, e8, e9, e10⟩ := hE
  obtain ⟨c1, c2, c3, c4, c5, c6, c7, c8, c9⟩ := hc
  have hx : ∀ b, b ≠ t → b ≠ t + 3 → b ≠ t + 4 → b ≠ t + 5 → b ≠ t + 9 + 36 + 16 * st.h.length → M' b = M b := e10
  refine ⟨e2, ?_, ?_, fun c hc => ⟨?_, ?_, ?_⟩, e4, fun s s2 hs => ?_, fun _ => ?_, ?_, ?_⟩
  · show M' t 6 = cn p.n (hop (nf sr st.f))
    rw [nxt_cn hS, if_pos ho, e3]
    omega
  · show M' t 7 = ((st.h ++ [sr]).length : Nat)
    rw [e7, List.length_append]
    simp
  · show M' (t + 3) c = nf sr st.f c
    have : ¬ sr.o = (c : Int) := by omega
    rw [e5 c hc]
    unfold nf
    rw [if_neg this]
  · show M' (t + 10) c = nk sr c
    have : ¬ sr.o = (c : Int) := by omega
    rw [hx _ (by omega) (by omega) (by omega) (by omega) (by omega), (a4 c hc).2.1, hK]
    unfold nk
    rw [if_neg this]
  · show M' (t + 4) c = nw sr st.h.length st.w c
    have : ¬ sr.o = (c : Int) := by omega
    rw [e6 c hc]
    unfold nw
    simp only [this, or_false]
    split <;> omega
  · have hs' : (st.h ++ [sr])[s]? = some s2 := hs
    by_cases b1 : s < st.h.length
    · rw [List.getElem?_append_left b1] at hs'
      exact (a6 s s2 hs').same (hx _ (by omega) (by omega) (by omega) (by omega) (by omega)) (hx _ (by omega) (by omega) (by omega) (by omega) (by omega)) (hx _ (by omega) (by omega) (by omega) (by omega) (by omega))
    · rw [List.getElem?_append_right (by omega)] at hs'
      have hlt := getq_lt hs'
      simp only [List.length_cons, List.length_nil] at hlt
      have es : s = st.h.length := by omega
      subst es
      rw [Nat.sub_self] at hs'
      cases hs'
      refine ⟨by rw [e9 0 (by decide)]; exact c1, by rw [e9 1 (by decide), ho]; exact c2, e1, by rw [e9 3 (by decide)]; exact c4, by rw [e9 4 (by decide)]; exact c5, by rw [e9 5 (by decide)]; exact c6, by rw [e9 6 (by decide)]; exact c7, ?_, ?_⟩
      · rw [hx _ (by omega) (by omega) (by omega) (by omega) (by omega)]; exact c8
      · rw [hx _ (by omega) (by omega) (by omega) (by omega) (by omega)]; exact c9
  · show Ag p.n (M' (t + 11)) (lg (st.h ++ [sr])) ∧ M' t 11 = lq (st.h ++ [sr])
    rw [lg_app, lq_app, hx (t + 11) (by omega) (by omega) (by omega) (by omega) (by omega), e8 11 (by decide) (by decide)]
    exact ⟨hg, hq⟩
  · exact a8.same (hx _ (by omega) (by omega) (by omega) (by omega) (by omega)) (hx _ (by omega) (by omega) (by omega) (by omega) (by omega)) (hx _ (by omega) (by omega) (by omega) (by omega) (by omega))
  · exact a9.same (hx _ (by omega) (by omega) (by omega) (by omega) (by omega)) (hx _ (by omega) (by omega) (by omega) (by omega) (by omega)) (hx _ (by omega) (by omega) (by omega) (by omega) (by omega)) (hx _ (by omega) (by omega) (by omega) (by omega) (by omega)) (hx _ (by omega) (by omega) (by omega) (by omega) (by omega))
/-- what stands behind NOTE -/
theorem note_CR {M M' : Mem} {t : Nat} {p : PL} {st : ST} {K : Vec} {r s : Int} {g : Vec} (h8 : p.n ≤ 8) (hl : st.h.length ≤ 8) (hC : CR M t p st K) (hg : Ag p.n (M (t + 11)) g) (hn : M' (t + 9 + 36 + 16 * st.h.length) 0 = r ∧ M' (t + 9 + 36 + 16 * st.h.length) 3 = M t 11 ∧ M' (t + 9 + 36 + 16 * st.h.length) 4 = M t 12 ∧ M' (t + 9 + 36 + 16 * st.h.length) 5 = s ∧ M' (t + 9 + 36 + 16 * st.h.length) 6 = M t 13 ∧ (∀ c, c < 8 → M' (t + 9 + 36 + 16 * st.h.length + 8) c = M (t + 11) c ∧ M' (t + 9 + 36 + 16 * st.h.length + 9) c = M (t + 10) c) ∧ M' (t + 9 + 36 + 16 * st.h.length) 1 = M (t + 9 + 36 + 16 * st.h.length) 1 ∧ M' (t + 9 + 36 + 16 * st.h.length) 2 = M (t + 9 + 36 + 16 * st.h.length) 2 ∧ ∀ b, b ≠ t + 9 + 36 + 16 * st.h.length → b ≠ t + 9 + 36 + 16 * st.h.length + 8 → b ≠ t + 9 + 36 + 16 * st.h.length + 9 → M' b = M b) : CR M' t p st K ∧ SRc M' (t + 9 + 36 + 16 * st.h.length) p.n (r, -5, [], M t 11, M t 12, s, M t 13, g, K) := by
  obtain ⟨n0, n3, n4, n5, n6, n8, n1, n2, nx⟩ := hn
  refine ⟨hC.upd hl (fun x x1 x2 x3 x4 x5 x6 => nx x x4 x5 x6) (by rw [nx t (by omega) (by omega) (by omega)]) (by rw [nx t (by omega) (by omega) (by omega)]) (by rw [nx t (by omega) (by omega) (by omega)]) (fun c hc => by rw [nx (t + 10) (by omega) (by omega) (by omega)]; exact (hC.2.2.2.1 c hc).2.1) n1 n2, n0, by rw [n1]; exact hC.2.2.2.2.2.2.1.1, ?_, n3, n4, n5, n6, fun c hc => ?_, fun c hc => ?_⟩
  · rw [n2, hC.2.2.2.2.2.2.1.2]
    exact ((mk_zero h8).mpr (fun c _ => by simp [SR.E])).symm
  · rw [(n8 c (by omega)).1]; exact hg c hc
  · rw [(n8 c (by omega)).2]; exact (hC.2.2.2.1 c hc).2.1
end
end
section
section
theorem CR.EL0 {M : Mem} {t : Nat} {p : PL} {st : ST} {K : Vec} (h8 : p.n ≤ 8) (h : CR M t p st K) : EL M t (t + 9 + 36 + 16 * st.h.length) p.n st.o (cn p.n (hop st.f)) ((st.h.length : Int) + 1) st.f st.w [] M := by
  obtain ⟨a1, a2, a3, a4, a5, a6, a7, a8, a9⟩ := h
  refine ⟨?_, by rw [List.append_nil]; exact a1, by rw [a2]; simp, fun i c hi => a5 i c (by rw [List.append_nil] at hi; exact hi), fun c hc => ?_, fun c hc => ?_, a3, fun _ _ _ => rfl, fun _ _ => rfl, fun _ _ _ _ _ _ => rfl⟩
  · rw [a7.2]
    exact ((mk_zero h8).mpr (fun c _ => by simp)).symm
  · rw [(a4 c hc).1]; simp
  · rw [(a4 c hc).2.2]; simp
theorem CR.EL1 {M M' : Mem} {t : Nat} {p : PL} {st : ST} {K : Vec} (h8 : p.n ≤ 8) (hl : st.h.length ≤ 8) (h : CR M t p st K) (hE : EL M t (t + 9 + 36 + 16 * st.h.length) p.n st.o (cn p.n (hop st.f)) ((st.h.length : Int) + 1) st.f st.w [] M') : CR M' t p st K := by
  obtain ⟨a1, a2, a3, a4, a5, a6, a7, a8, a9⟩ := h
  obtain ⟨e1, e2, e3, e4, e5, e6, e7, e8, e9, e10⟩ := hE
  rw [List.append_nil] at e2 e4
  have hx : ∀ b, b ≠ t → b ≠ t + 3 → b ≠ t + 4 → b ≠ t + 5 → b ≠ t + 9 + 36 + 16 * st.h.length → M' b = M b := e10
  refine ⟨e2, by rw [e3]; simp, e7, fun c hc => ⟨by rw [e5 c hc]; simp, by rw [hx _ (by omega) (by omega) (by omega) (by omega) (by omega)]; exact (a4 c hc).2.1, by rw [e6 c hc]; simp⟩, e4, fun s sr hs => ?_, ⟨by rw [e9 1 (by decide)]; exact a7.1, ?_⟩, ?_, ?_⟩
  · have := getq_lt hs
    exact (a6 s sr hs).same (hx _ (by omega) (by omega) (by omega) (by omega) (by omega)) (hx _ (by omega) (by omega) (by omega) (by omega) (by omega)) (hx _ (by omega) (by omega) (by omega) (by omega) (by omega))
  · rw [e1]
    exact (mk_zero h8).mpr (fun c _ => by simp)
  · exact a8.same (hx _ (by omega) (by omega) (by omega) (by omega) (by omega)) (hx _ (by omega) (by omega) (by omega) (by omega) (by omega)) (hx _ (by omega) (by omega) (by omega) (by omega) (by omega))
  · exact a9.same (hx _ (by omega) (by omega) (by omega) (by omega) (by omega)) (hx _ (by omega) (by omega) (by omega) (by omega) (by omega)) (hx _ (by omega) (by omega) (by omega) (by omega) (by omega)) (hx _ (by omega) (by omega) (by omega) (by omega) (by omega)) (hx _ (by omega) (by omega) (by omega) (by omega) (by omega))
/-- excluding: the state behind it -/
theorem excl_CT {M : Mem} {t : Nat} {p : PL} {st : ST} {K : Vec} {sr : SR} {c : Nat} (h : WF p) (hs : SI p st) (hl : st.h.length ≤ 7) (hcn : 0 < cn p.n (hop st.f)) (hC : CR M t p st K) (hw : wst p st.f st.h sr.g = some c) (hS : SRst p st.f st.o sr) (hE : sr.E = []) (ho : sr.o = (c : Int)) (hc : SRc M (t + 9 + 36 + 16 * st.h.length) p.n (sr.r, -5, [], sr.q, sr.x, sr.s, sr.t, sr.g, sr.k)) (hsr : SRok p sr) (hK : K = sr.k) (hg : Ag p.n (M (t + 11)) sr.g) (hq : M t 11 = sr.q) : Ok (fX4_exclude t (t + 9 + 36 + 16 * st.h.length) M) (fun z => CT z.2 t p (nxt st sr) ∧ ∀ x, (x < t ∨ t + 1000 ≤ x) → z.2 x = M x) := by
  obtain ⟨a1, a2, a3, a4, a5, a6, a7, a8, a9⟩ := hC
  have hcm := hc
  obtain ⟨c1, c2, c3, c4, c5, c6, c7, c8, c9⟩ := hc
  have h8 := h.1
  have hcl := cn_le p.n (hop st.f)
  have hV : ∀ s s2, s < st.h.length + 1 → (st.h ++ [sr])[s]? = some s2 → Ag p.n (M (t + 9 + 36 + 16 * s + 8)) s2.g ∧ SRok p s2 := by
    intro s s2 h1 h2
    by_cases b1 : s < st.h.length
    · rw [List.getElem?_append_left b1] at h2
      exact ⟨(a6 s s2 h2).2.2.2.2.2.2.2.1, hs.2.2.2.2.2.2.1 s2 (List.mem_of_getElem? h2)⟩
    · have es : s = st.h.length := by omega
      subst es
      rw [List.getElem?_append_right (by omega), Nat.sub_self] at h2
      cases h2
      exact ⟨c8, hsr⟩
  have hlen : (st.h ++ [sr]).length = st.h.length + 1 := by simp
  have hsc : scan p.n (vsl (fun s => M (t + 9 + 36 + 16 * s + 8)) (st.h.length + 1) ++ [npos p]) (fun c => decide (st.f c = 1)) = some c := by
    rw [← hw]
    refine (scan_vcongr (fun x y hx hy => ?_))
    rw [vsl_lx (st.h.length + 1) (st.h ++ [sr]) (by omega) (fun s s2 h1 h2 => (hV s s2 h1 h2).1) x y hx hy, List.take_of_length_le (by omega), List.reverse_append]
    rfl
  have hd := scan_some (wst_tot h st.h sr.g) hw
  refine (exclude_ok (H := cn p.n (hop st.f)) (F := st.f) (s := st.h.length + 1) h ⟨by omega, by omega⟩ a9 (by omega) (fun s' d h1 h2 => ?_) (by rw [a3]; omega) a2 ⟨by omega, by omega⟩ (fun d hd => (a4 d hd).1) hsc).mono (fun z hz => ?_)
  · obtain ⟨s2, hs2⟩ := getq (pl := st.h ++ [sr]) (j := s') (by omega)
    have := hV s' s2 h1 hs2
    rw [this.1 d h2]
    have := this.2.1 d h2
    omega
  · obtain ⟨x1, x2, x3, x4, x5, x6, x7, x8⟩ := hz
    refine ⟨⟨?_, ?_, ?_, fun d hd => ⟨?_, ?_, ?_⟩, fun i d hi => ?_, fun s s2 hs2 => ?_, fun _ => ?_, ?_, ?_⟩, fun x hx => x8 x (by omega) (by omega) (by omega) (by omega) (by omega)⟩
    · show z.2 t 5 = ((st.o ++ sr.E).length : Nat)
      rw [x4 5 (by decide), hE, List.append_nil]; exact a1
    · show z.2 t 6 = cn p.n (hop (nf sr st.f))
      rw [x3, nxt_cn hS, hE, if_neg (by omega)]
      show _ = cn p.n (hop st.f) - ((0 : Nat) : Int) - 1
      omega
    · show z.2 t 7 = ((st.h ++ [sr]).length : Nat)
      rw [x4 7 (by decide), a3, hlen]; omega
    · show z.2 (t + 3) d = nf sr st.f d
      rw [x5]
      unfold nf
      rw [hE, if_neg (by simp), ho]
      by_cases e : d = c
      · subst e; rw [up_same, if_pos rfl]
      · rw [up_ne e, if_neg (by omega)]; exact (a4 d hd).1
    · show z.2 (t + 10) d = nk sr d
      rw [x7]
      unfold nk
      rw [ho]
      by_cases e : d = c
      · subst e; rw [up_same, if_pos rfl]
      · rw [up_ne e, if_neg (by omega), ← hK]; exact (a4 d hd).2.1
    · show z.2 (t + 4) d = nw sr st.h.length st.w d
      rw [x6]
      unfold nw
      rw [hE, ho]
      by_cases e : d = c
      · subst e; rw [up_same, if_pos (Or.inr rfl)]; omega
      · rw [up_ne e, if_neg (by rintro (h1 | h1); cases h1; omega)]; exact (a4 d hd).2.2
    · have hi' : (st.o ++ sr.E)[i]? = some d := hi
      rw [hE, List.append_nil] at hi'
      rw [x8 _ (by omega) (by omega) (by omega) (by omega) (by omega)]
      exact a5 i d hi'
    · have hs' : (st.h ++ [sr])[s]? = some s2 := hs2
      by_cases b1 : s < st.h.length
      · rw [List.getElem?_append_left b1] at hs'
        exact (a6 s s2 hs').same (x8 _ (by omega) (by omega) (by omega) (by omega) (by omega)) (x8 _ (by omega) (by omega) (by omega) (by omega) (by omega)) (x8 _ (by omega) (by omega) (by omega) (by omega) (by omega))
      · have hlt := getq_lt hs'
        have es : s = st.h.length := by omega
        subst es
        rw [List.getElem?_append_right (by omega), Nat.sub_self] at hs'
        cases hs'
        refine ⟨by rw [x2 0 (by decide)]; exact c1, by rw [x1, ho], ?_, by rw [x2 3 (by decide)]; exact c4, by rw [x2 4 (by decide)]; exact c5, by rw [x2 5 (by decide)]; exact c6, by rw [x2 6 (by decide)]; exact c7, ?_, ?_⟩
        · rw [x2 2 (by decide), hE]; exact c3
        · rw [x8 _ (by omega) (by omega) (by omega) (by omega) (by omega)]; exact c8
        · rw [x8 _ (by omega) (by omega) (by omega) (by omega) (by omega)]; exact c9
    · show Ag p.n (z.2 (t + 11)) (lg (st.h ++ [sr])) ∧ z.2 t 11 = lq (st.h ++ [sr])
      rw [lg_app, lq_app, x8 (t + 11) (by omega) (by omega) (by omega) (by omega) (by omega), x4 11 (by decide)]
      exact ⟨hg, hq⟩
    · exact a8.same (x8 _ (by omega) (by omega) (by omega) (by omega) (by omega)) (x8 _ (by omega) (by omega) (by omega) (by omega) (by omega)) (x8 _ (by omega) (by omega) (by omega) (by omega) (by omega))
    · exact a9.same (x8 _ (by omega) (by omega) (by omega) (by omega) (by omega)) (x8 _ (by omega) (by omega) (by omega) (by omega) (by omega)) (x8 _ (by omega) (by omega) (by omega) (by omega) (by omega)) (x8 _ (by omega) (by omega) (by omega) (by omega) (by omega)) (x8 _ (by omega) (by omega) (by omega) (by omega) (by omega))
theorem SI.len {p : PL} {st : ST} (h : WF p) (hs : SI p st) (hcn : 0 < cn p.n (hop st.f)) : st.h.length ≤ 7 ∧ 0 ≤ cn p.n (hop st.f) ∧ cn p.n (hop st.f) ≤ 8 := by
  have h1 := hs.2.2.2.2.2.1
  have h2 := h.1
  have h3 := cn_le p.n (hop st.f)
  omega
theorem rounds_l {t : Nat} {p : PL} {st : ST} {b : Bool} (h : WF p) (hs : SI p st) (hcn : 0 < cn p.n (hop st.f)) : ∀ (m : Nat) (r : Int) (K g : Vec) (q : Int) (M : Mem), 1 ≤ r → r ≤ p.ro → p.ro - r < m → CR M t p st K → KB p.n K → 0 ≤ q → q ≤ 2305843000001 → GQ M t p.n st.f g q → Ok (fX4_goByRounds_l2 t (t + 9 + 36 + 16 * st.h.length) (if b then 1 else 0) m r M) (fun z => ∃ a, z = .inl a ∧ CT a.2 t p (nxt st (rnds p st.f st.o st.h b m r K g q)) ∧ ∀ x, (x < t ∨ t + 1000 ≤ x) → a.2 x = M x) := by
  intro m
  have h8 := h.1
  have hro := h.2.2.2.2.2.2.2.2
  obtain ⟨hl, hc0, hc8⟩ := hs.len h hcn
  have hsl := hs.2.2.2.2.1
  induction m with
  | zero => intro r K g q M h1 h2 h3; omega
  | succ m ih =>
    intro r K g q M h1 h2 h3 hC hK hq hq2 hG
    have hpc := hC.2.2.2.2.2.2.2.2
    have hfin := rnds_ok h (f := st.f) (ord := st.o) (hs := st.h) (b := b) hsl hcn (m + 1) r K g q h2 h3 hK hq
    unfold fX4_goByRounds_l2
    simp only [hpc.2.2.2.2.2.2]
    refine ok_el (by omega) ?_
    have hK' : KB p.n (kk st.f b r K g q) := kk_KB hK hq
    have key : Ok ((if 1 < r then Option.bind (fX4_turnKeeps t M) (fun q8 => some (q8.2)) else (if (if b then (1 : Int) else 0) = 0 then Option.bind (fX4_turnKeeps t M) (fun q10 => some (q10.2)) else some (M))) : Option (Mem)) (fun M1 => Ag p.n (M1 (t + 10)) (kk st.f b r K g q) ∧ ∀ x, x ≠ t + 10 → M1 x = M x) := by
      have ht := turn_any h hK hq hq2 hG hpc (fun c hc => (hC.2.2.2.1 c hc).1) (fun c hc => (hC.2.2.2.1 c hc).2.1)
      unfold kk
      refine ok_ite (fun hr => ?_) (fun hr => ?_)
      · rw [if_pos (Or.inl hr)]
        exact ok_by ht (fun z hz => ok_some hz)
      · cases b
        · rw [if_pos (Or.inr rfl)]
          exact ok_if rfl (ok_by ht (fun z hz => ok_some hz))
        · rw [if_neg (by simp [hr])]
          exact ok_el (show ¬ ((if true = true then (1 : Int) else 0) = 0) by decide) (ok_some ⟨fun c hc => (hC.2.2.2.1 c hc).2.1, fun _ _ => rfl⟩)
    refine ok_by key (fun M1 hM1 => ?_)
    obtain ⟨k1, k2⟩ := hM1
    have hC1 : CR M1 t p st (kk st.f b r K g q) := hC.upd (by omega) (fun x _ x2 _ _ _ _ => k2 x x2) (by rw [k2 t (by omega)]) (by rw [k2 t (by omega)]) (by rw [k2 t (by omega)]) k1 (by rw [k2 _ (by omega)]) (by rw [k2 _ (by omega)])
    unfold rnds at hfin ⊢
    generalize kk st.f b r K g q = K' at *
    have hv := VT_bd h hK'
    have hqb := quo_bd h hv.2.2.2.1 hv.2.2.2.2
    refine ok_by (workOut_ok h hK' hC1.2.2.2.2.2.2.2.1 (fun c hc => (hC1.2.2.2.1 c hc).2.1) hC1.2.2.2.2.2.2.2.2) (fun q11 hw => ?_)
    obtain ⟨w1, w2, w3, w4, w5, w6⟩ := hw
    have hC2 : CR q11.2 t p st K' := hC1.upd (by omega) (fun x x1 _ x3 _ _ _ => w6 x x1 x3) (w5 5 (by decide) (by decide) (by decide)) (w5 6 (by decide) (by decide) (by decide)) (w5 7 (by decide) (by decide) (by decide)) (by rw [w6 _ (by omega) (by omega)]; exact k1) (by rw [w6 _ (by omega) (by omega)]) (by rw [w6 _ (by omega) (by omega)])
    refine ok_bs (surplus_ok h (by omega) hqb.2 hv.2.2.1 hC2.2.2.2.2.2.2.2.2 (fun c hc => (hC2.2.2.2.1 c hc).1) w1 w4) ?_
    (first | with_reducible refine ok_nm0 ?_ | (with_reducible refine ok_chk ?_ ?_; · omega) | (with_reducible refine ok_if ?_ ?_; · omega) | (with_reducible refine ok_el ?_ ?_; · omega) | with_reducible refine ok_some ?_ | with_reducible refine ok_bi ?_ | with_reducible refine ok_bsm ?_)
    refine ok_by (note_ok (by omega)) (fun q14 hn => ?_)
    have hNC := note_CR h8 (by omega) hC2 w1 hn
    rw [w4, w2, w3] at hNC
    have hg14 : Ag p.n (q14.2 (t + 11)) (VT p K').2 := by rw [hn.2.2.2.2.2.2.2.2 (t + 11) (by omega) (by omega) (by omega)]; exact w1
    have hq14 : q14.2 t 11 = quo p (VT p K').2 := by rw [hn.2.2.2.2.2.2.2.2 t (by omega) (by omega) (by omega)]; exact w4
    obtain ⟨hC3, hSR⟩ := hNC
    have f14 : ∀ x, (x < t ∨ t + 1000 ≤ x) → q14.2 x = M x := fun x hx => by
      rw [hn.2.2.2.2.2.2.2.2 x (by omega) (by omega) (by omega), w6 x (by omega) (by omega), k2 x (by omega)]
    refine ok_bs (reach_ok h hC3.2.2.2.2.2.2.2.2 (fun c hc => (hC3.2.2.2.1 c hc).1) hg14 hq14) ?_
    have hmb := mk_bd h8 (reach st.f (VT p K').2 (quo p (VT p K').2))
    refine ok_by (elect_ok h ⟨by omega, by omega⟩ hC3.2.2.2.2.2.2.2.2 hmb.1 hmb.2 ⟨hc0, hc8⟩ ⟨by omega, by omega⟩ (hC3.EL0 h8) hsl) (fun q16 hE => ?_)
    have eE : srt (p.se - st.o.length).toNat p.n (av p (q14.2 (t + 9 + 36 + 16 * st.h.length + 8))) (bt (mk p.n (reach st.f (VT p K').2 (quo p (VT p K').2)))) = EE p st.f st.o (VT p K').2 := by
      unfold EE
      rw [srt_vcongr (av_congr hSR.2.2.2.2.2.2.2.1)]
      exact srt_congr (av_tot h _) (fun c hc => by rw [mk_bt]; simp [hc])
    rw [eE] at hE
    have f16 : ∀ x, (x < t ∨ t + 1000 ≤ x) → q16.2 x = M x := fun x hx => by
      rw [hE.2.2.2.2.2.2.2.2.2 x (by omega) (by omega) (by omega) (by omega) (by omega), f14 x hx]
    have hE1 := hE.1
    have hEo := EE_ok h (f := st.f) (ord := st.o) (g := (VT p K').2) hsl
    by_cases hne : EE p st.f st.o (VT p K').2 = []
    · have z0 : q16.2 (t + 9 + 36 + 16 * st.h.length) 2 = 0 := by rw [hE1, hne]; exact (mk_zero h8).mpr (fun c _ => by simp)
      rw [if_neg (show ¬ (EE p st.f st.o (VT p K').2 ≠ []) from fun e => e hne)] at hfin ⊢
      refine ok_if z0 ?_
      rw [hne] at hE
      have hC4 := hC3.EL1 h8 (by omega) hE
      have hg16 : Ag p.n (q16.2 (t + 11)) (VT p K').2 := by rw [hE.2.2.2.2.2.2.2.2.2 (t + 11) (by omega) (by omega) (by omega) (by omega) (by omega)]; exact hg14
      have hq16 : q16.2 t 11 = quo p (VT p K').2 := by rw [hE.2.2.2.2.2.2.2.1 11 (by decide) (by decide)]; exact hq14
      have hSR16 : SRc q16.2 (t + 9 + 36 + 16 * st.h.length) p.n (r, -5, [], quo p (VT p K').2, (VT p K').1, sur p.n st.f (VT p K').2 (quo p (VT p K').2), sm p.n (VT p K').2, (VT p K').2, K') := by
        obtain ⟨s1, s2, s3, s4, s5, s6, s7, s8, s9⟩ := hSR
        have e9 := hE.2.2.2.2.2.2.2.2.1
        have e10 := hE.2.2.2.2.2.2.2.2.2
        refine ⟨by rw [e9 0 (by decide)]; exact s1, by rw [e9 1 (by decide)]; exact s2, hE.1, by rw [e9 3 (by decide)]; exact s4, by rw [e9 4 (by decide)]; exact s5, by rw [e9 5 (by decide)]; exact s6, by rw [e9 6 (by decide)]; exact s7, ?_, ?_⟩
        · rw [e10 _ (by omega) (by omega) (by omega) (by omega) (by omega)]; exact s8
        · rw [e10 _ (by omega) (by omega) (by omega) (by omega) (by omega)]; exact s9
      have hpc4 := hC4.2.2.2.2.2.2.2.2
      simp only [hpc4.2.2.2.2.2.1, hpc4.2.2.2.2.2.2]
      by_cases hout : sur p.n st.f (VT p K').2 (quo p (VT p K').2) ≤ p.li ∨ r = p.ro
      · rw [if_pos hout] at hfin ⊢
        obtain ⟨c, hw, _, _⟩ := wst_ex h (f := st.f) (hs := st.h) (g := (VT p K').2) hcn
        have hX := excl_CT h hs hl hcn hC4 (sr := (r, opt (wst p st.f st.h (VT p K').2), [], quo p (VT p K').2, (VT p K').1, sur p.n st.f (VT p K').2 (quo p (VT p K').2), sm p.n (VT p K').2, (VT p K').2, K')) hw hfin.2 rfl (opt_some hw) hSR16 hfin.1 rfl hg16 hq16
        have hX2 : Ok (Option.bind (fX4_exclude t (t + 9 + 36 + 16 * st.h.length) q16.2) (fun q19 => some (Sum.inl ((0 : Int), q19.2) : (Int × Mem) ⊕ (Int × Mem)))) (fun z => ∃ a, z = .inl a ∧ CT a.2 t p (nxt st (r, opt (wst p st.f st.h (VT p K').2), [], quo p (VT p K').2, (VT p K').1, sur p.n st.f (VT p K').2 (quo p (VT p K').2), sm p.n (VT p K').2, (VT p K').2, K')) ∧ ∀ x, (x < t ∨ t + 1000 ≤ x) → a.2 x = M x) :=
          ok_by hX (fun z hz => ok_some ⟨_, rfl, hz.1, fun x hx => by rw [hz.2 x hx, f16 x hx]⟩)
        refine ok_ite (fun _ => hX2) (fun hno => ?_)
        exact ok_if (hout.resolve_left hno) hX2
      · rw [if_neg hout] at hfin ⊢
        refine ok_el (fun e => hout (Or.inl e)) (ok_el (fun e => hout (Or.inr e)) ?_)
        (repeat (first | with_reducible refine ok_nm0 ?_ | (with_reducible refine ok_chk ?_ ?_; · omega) | (with_reducible refine ok_if ?_ ?_; · omega) | (with_reducible refine ok_el ?_ ?_; · omega) | with_reducible refine ok_some ?_ | with_reducible refine ok_bi ?_ | with_reducible refine ok_bsm ?_)); try dsimp only
        refine (ih (r + 1) K' _ _ q16.2 (by omega) (by omega) (by omega) hC4 hK' (by omega) hqb.2 (Or.inr ⟨hg16, hq16, hv.2.2.1⟩)).mono (fun z hz => ?_)
        obtain ⟨a, e, ha, hb⟩ := hz
        exact ⟨a, e, ha, fun x hx => by rw [hb x hx, f16 x hx]⟩
    · have z0 : ¬ q16.2 (t + 9 + 36 + 16 * st.h.length) 2 = 0 := by
        rw [hE1]
        intro e
        obtain ⟨c, tl, ec⟩ := List.exists_cons_of_ne_nil hne
        have hm : c ∈ EE p st.f st.o (VT p K').2 := by rw [ec]; exact List.mem_cons_self
        have := (mk_zero h8).mp e c (hEo.2.1 c hm).1
        simp [hm] at this
      rw [if_pos hne] at hfin ⊢
      refine ok_el z0 (ok_some ⟨_, rfl, ?_, f16⟩)
      exact elect_CT h hl hC3 hE hfin.2 rfl hSR rfl hg14 hq14
end
end
