section
-- ===== PART A: goes FIRST, ahead of the names: the tables' words, and 'selects' of the private methods out of them =====
/-- a private method of a class that the tables say can be made, by its rows of tables_1 -/
def lw_okq (q : MethodName × Nat) : Prop := (q.1.cls ≠ "java/lang/invoke/MethodHandle" ∧ q.1.cls ≠ "java/lang/invoke/VarHandle") ∧ Cond.instantiable q.1.cls q.2 ∈ tables_1 ∧ Cond.privateMethod q.1 ∈ tables_1 ∧ Cond.instanceMethod q.1 ∈ tables_1
theorem lw_p0 : lw_okq (⟨"KeepCount", "isOver", "(II)Z"⟩, 10) := ⟨⟨by decide +kernel, by decide +kernel⟩, List.mem_of_getElem? (i := 15) (by decide +kernel), List.mem_of_getElem? (i := 355) (by decide +kernel), List.mem_of_getElem? (i := 356) (by decide +kernel)⟩
theorem lw_p1 : lw_okq (⟨"KeepCount", "putSeats", "(I)I"⟩, 10) := ⟨⟨by decide +kernel, by decide +kernel⟩, List.mem_of_getElem? (i := 15) (by decide +kernel), List.mem_of_getElem? (i := 399) (by decide +kernel), List.mem_of_getElem? (i := 400) (by decide +kernel)⟩
theorem lw_p2 : lw_okq (⟨"KeepCount", "putLimit", "(I)I"⟩, 10) := ⟨⟨by decide +kernel, by decide +kernel⟩, List.mem_of_getElem? (i := 15) (by decide +kernel), List.mem_of_getElem? (i := 404) (by decide +kernel), List.mem_of_getElem? (i := 405) (by decide +kernel)⟩
theorem lw_p3 : lw_okq (⟨"KeepCount", "putRounds", "(I)I"⟩, 10) := ⟨⟨by decide +kernel, by decide +kernel⟩, List.mem_of_getElem? (i := 15) (by decide +kernel), List.mem_of_getElem? (i := 408) (by decide +kernel), List.mem_of_getElem? (i := 409) (by decide +kernel)⟩
theorem lw_p4 : lw_okq (⟨"KeepCount", "tallied", "()LKeepCount$Tally;"⟩, 10) := ⟨⟨by decide +kernel, by decide +kernel⟩, List.mem_of_getElem? (i := 15) (by decide +kernel), List.mem_of_getElem? (i := 420) (by decide +kernel), List.mem_of_getElem? (i := 421) (by decide +kernel)⟩
theorem lw_p5 : lw_okq (⟨"KeepCount$Piles", "put", "(II)V"⟩, 3) := ⟨⟨by decide +kernel, by decide +kernel⟩, List.mem_of_getElem? (i := 108) (by decide +kernel), List.mem_of_getElem? (i := 439) (by decide +kernel), List.mem_of_getElem? (i := 440) (by decide +kernel)⟩
theorem lw_p6 : lw_okq (⟨"KeepCount$Tally", "begin", "()V"⟩, 14) := ⟨⟨by decide +kernel, by decide +kernel⟩, List.mem_of_getElem? (i := 102) (by decide +kernel), List.mem_of_getElem? (i := 443) (by decide +kernel), List.mem_of_getElem? (i := 444) (by decide +kernel)⟩
theorem lw_p7 : lw_okq (⟨"KeepCount$Tally", "fill", "(LKeepCount$Stage;)V"⟩, 14) := ⟨⟨by decide +kernel, by decide +kernel⟩, List.mem_of_getElem? (i := 102) (by decide +kernel), List.mem_of_getElem? (i := 448) (by decide +kernel), List.mem_of_getElem? (i := 449) (by decide +kernel)⟩
theorem lw_p8 : lw_okq (⟨"KeepCount$Tally", "workOut", "()V"⟩, 14) := ⟨⟨by decide +kernel, by decide +kernel⟩, List.mem_of_getElem? (i := 102) (by decide +kernel), List.mem_of_getElem? (i := 452) (by decide +kernel), List.mem_of_getElem? (i := 453) (by decide +kernel)⟩
theorem lw_p9 : lw_okq (⟨"KeepCount$Tally", "passOn", "(IJ)J"⟩, 14) := ⟨⟨by decide +kernel, by decide +kernel⟩, List.mem_of_getElem? (i := 102) (by decide +kernel), List.mem_of_getElem? (i := 459) (by decide +kernel), List.mem_of_getElem? (i := 460) (by decide +kernel)⟩
theorem lw_p10 : lw_okq (⟨"KeepCount$Tally", "note", "(LKeepCount$Stage;IJ)V"⟩, 14) := ⟨⟨by decide +kernel, by decide +kernel⟩, List.mem_of_getElem? (i := 102) (by decide +kernel), List.mem_of_getElem? (i := 467) (by decide +kernel), List.mem_of_getElem? (i := 468) (by decide +kernel)⟩
theorem lw_p11 : lw_okq (⟨"KeepCount$Tally", "elect", "(LKeepCount$Stage;I)V"⟩, 14) := ⟨⟨by decide +kernel, by decide +kernel⟩, List.mem_of_getElem? (i := 102) (by decide +kernel), List.mem_of_getElem? (i := 475) (by decide +kernel), List.mem_of_getElem? (i := 476) (by decide +kernel)⟩
theorem lw_p12 : lw_okq (⟨"KeepCount$Tally", "goByRounds", "(LKeepCount$Stage;Z)V"⟩, 14) := ⟨⟨by decide +kernel, by decide +kernel⟩, List.mem_of_getElem? (i := 102) (by decide +kernel), List.mem_of_getElem? (i := 483) (by decide +kernel), List.mem_of_getElem? (i := 484) (by decide +kernel)⟩
theorem lw_p13 : lw_okq (⟨"KeepCount$Tally", "turnKeeps", "()V"⟩, 14) := ⟨⟨by decide +kernel, by decide +kernel⟩, List.mem_of_getElem? (i := 102) (by decide +kernel), List.mem_of_getElem? (i := 487) (by decide +kernel), List.mem_of_getElem? (i := 488) (by decide +kernel)⟩
theorem lw_p14 : lw_okq (⟨"KeepCount$Tally", "surplus", "()J"⟩, 14) := ⟨⟨by decide +kernel, by decide +kernel⟩, List.mem_of_getElem? (i := 102) (by decide +kernel), List.mem_of_getElem? (i := 494) (by decide +kernel), List.mem_of_getElem? (i := 495) (by decide +kernel)⟩
theorem lw_p15 : lw_okq (⟨"KeepCount$Tally", "whoReachesQuota", "()I"⟩, 14) := ⟨⟨by decide +kernel, by decide +kernel⟩, List.mem_of_getElem? (i := 102) (by decide +kernel), List.mem_of_getElem? (i := 501) (by decide +kernel), List.mem_of_getElem? (i := 502) (by decide +kernel)⟩
def lw_privs_1 : List (MethodName × Nat) := [(⟨"KeepCount", "isOver", "(II)Z"⟩, 10), (⟨"KeepCount", "putSeats", "(I)I"⟩, 10), (⟨"KeepCount", "putLimit", "(I)I"⟩, 10), (⟨"KeepCount", "putRounds", "(I)I"⟩, 10), (⟨"KeepCount", "tallied", "()LKeepCount$Tally;"⟩, 10), (⟨"KeepCount$Piles", "put", "(II)V"⟩, 3), (⟨"KeepCount$Tally", "begin", "()V"⟩, 14), (⟨"KeepCount$Tally", "fill", "(LKeepCount$Stage;)V"⟩, 14), (⟨"KeepCount$Tally", "workOut", "()V"⟩, 14), (⟨"KeepCount$Tally", "passOn", "(IJ)J"⟩, 14), (⟨"KeepCount$Tally", "note", "(LKeepCount$Stage;IJ)V"⟩, 14), (⟨"KeepCount$Tally", "elect", "(LKeepCount$Stage;I)V"⟩, 14), (⟨"KeepCount$Tally", "goByRounds", "(LKeepCount$Stage;Z)V"⟩, 14), (⟨"KeepCount$Tally", "turnKeeps", "()V"⟩, 14), (⟨"KeepCount$Tally", "surplus", "()J"⟩, 14), (⟨"KeepCount$Tally", "whoReachesQuota", "()I"⟩, 14)]
theorem lw_r1 : ∀ q ∈ lw_privs_1, lw_okq q := List.forall_mem_cons.mpr ⟨lw_p0, List.forall_mem_cons.mpr ⟨lw_p1, List.forall_mem_cons.mpr ⟨lw_p2, List.forall_mem_cons.mpr ⟨lw_p3, List.forall_mem_cons.mpr ⟨lw_p4, List.forall_mem_cons.mpr ⟨lw_p5, List.forall_mem_cons.mpr ⟨lw_p6, List.forall_mem_cons.mpr ⟨lw_p7, List.forall_mem_cons.mpr ⟨lw_p8, List.forall_mem_cons.mpr ⟨lw_p9, List.forall_mem_cons.mpr ⟨lw_p10, List.forall_mem_cons.mpr ⟨lw_p11, List.forall_mem_cons.mpr ⟨lw_p12, List.forall_mem_cons.mpr ⟨lw_p13, List.forall_mem_cons.mpr ⟨lw_p14, List.forall_mem_cons.mpr ⟨lw_p15, fun _ h => absurd h List.not_mem_nil⟩⟩⟩⟩⟩⟩⟩⟩⟩⟩⟩⟩⟩⟩⟩⟩
theorem lw_p16 : lw_okq (⟨"KeepCount$Tally", "exclude", "(LKeepCount$Stage;)V"⟩, 14) := ⟨⟨by decide +kernel, by decide +kernel⟩, List.mem_of_getElem? (i := 102) (by decide +kernel), List.mem_of_getElem? (i := 505) (by decide +kernel), List.mem_of_getElem? (i := 506) (by decide +kernel)⟩
theorem lw_p17 : lw_okq (⟨"KeepCount$Tally", "whoHasFewest", "([JI)I"⟩, 14) := ⟨⟨by decide +kernel, by decide +kernel⟩, List.mem_of_getElem? (i := 102) (by decide +kernel), List.mem_of_getElem? (i := 509) (by decide +kernel), List.mem_of_getElem? (i := 510) (by decide +kernel)⟩
theorem lw_p18 : lw_okq (⟨"KeepCount$Tally", "lastInLot", "(I)I"⟩, 14) := ⟨⟨by decide +kernel, by decide +kernel⟩, List.mem_of_getElem? (i := 102) (by decide +kernel), List.mem_of_getElem? (i := 514) (by decide +kernel), List.mem_of_getElem? (i := 515) (by decide +kernel)⟩
theorem lw_p19 : lw_okq (⟨"KeepCount", "beatsAll", "(I)Z"⟩, 10) := ⟨⟨by decide +kernel, by decide +kernel⟩, List.mem_of_getElem? (i := 15) (by decide +kernel), List.mem_of_getElem? (i := 611) (by decide +kernel), List.mem_of_getElem? (i := 612) (by decide +kernel)⟩
theorem lw_p20 : lw_okq (⟨"KeepCount", "electedInThought", "()I"⟩, 10) := ⟨⟨by decide +kernel, by decide +kernel⟩, List.mem_of_getElem? (i := 15) (by decide +kernel), List.mem_of_getElem? (i := 631) (by decide +kernel), List.mem_of_getElem? (i := 632) (by decide +kernel)⟩
theorem lw_p21 : lw_okq (⟨"KeepCount$Poll", "emptyLedBy", "(I)V"⟩, 15) := ⟨⟨by decide +kernel, by decide +kernel⟩, List.mem_of_getElem? (i := 23) (by decide +kernel), List.mem_of_getElem? (i := 675) (by decide +kernel), List.mem_of_getElem? (i := 676) (by decide +kernel)⟩
theorem lw_p22 : lw_okq (⟨"KeepCount$Text", "readsClause", "(I)Z"⟩, 8) := ⟨⟨by decide +kernel, by decide +kernel⟩, List.mem_of_getElem? (i := 233) (by decide +kernel), List.mem_of_getElem? (i := 691) (by decide +kernel), List.mem_of_getElem? (i := 692) (by decide +kernel)⟩
theorem lw_p23 : lw_okq (⟨"KeepCount$Text", "sign", "()I"⟩, 8) := ⟨⟨by decide +kernel, by decide +kernel⟩, List.mem_of_getElem? (i := 233) (by decide +kernel), List.mem_of_getElem? (i := 695) (by decide +kernel), List.mem_of_getElem? (i := 696) (by decide +kernel)⟩
theorem lw_p24 : lw_okq (⟨"KeepCount$Text", "readsBallot", "(I)Z"⟩, 8) := ⟨⟨by decide +kernel, by decide +kernel⟩, List.mem_of_getElem? (i := 233) (by decide +kernel), List.mem_of_getElem? (i := 699) (by decide +kernel), List.mem_of_getElem? (i := 700) (by decide +kernel)⟩
theorem lw_p25 : lw_okq (⟨"KeepCount$Text", "number", "(I)I"⟩, 8) := ⟨⟨by decide +kernel, by decide +kernel⟩, List.mem_of_getElem? (i := 233) (by decide +kernel), List.mem_of_getElem? (i := 703) (by decide +kernel), List.mem_of_getElem? (i := 704) (by decide +kernel)⟩
theorem lw_p26 : lw_okq (⟨"KeepCount", "isDone", "(III)Z"⟩, 10) := ⟨⟨by decide +kernel, by decide +kernel⟩, List.mem_of_getElem? (i := 15) (by decide +kernel), List.mem_of_getElem? (i := 709) (by decide +kernel), List.mem_of_getElem? (i := 710) (by decide +kernel)⟩
theorem lw_p27 : lw_okq (⟨"KeepCount", "tapeAt", "(I)LKeepCount$Tape;"⟩, 10) := ⟨⟨by decide +kernel, by decide +kernel⟩, List.mem_of_getElem? (i := 15) (by decide +kernel), List.mem_of_getElem? (i := 725) (by decide +kernel), List.mem_of_getElem? (i := 726) (by decide +kernel)⟩
theorem lw_p28 : lw_okq (⟨"KeepCountModel", "isRow", "(I)Z"⟩, 69) := ⟨⟨by decide +kernel, by decide +kernel⟩, List.mem_of_getElem? (i := 773) (by decide +kernel), List.mem_of_getElem? (i := 997) (by decide +kernel), List.mem_of_getElem? (i := 998) (by decide +kernel)⟩
theorem lw_p29 : lw_okq (⟨"KeepCountModel", "firstOver", "(I)I"⟩, 69) := ⟨⟨by decide +kernel, by decide +kernel⟩, List.mem_of_getElem? (i := 773) (by decide +kernel), List.mem_of_getElem? (i := 1009) (by decide +kernel), List.mem_of_getElem? (i := 1010) (by decide +kernel)⟩
theorem lw_p30 : lw_okq (⟨"KeepCountModel", "over", "(I)I"⟩, 69) := ⟨⟨by decide +kernel, by decide +kernel⟩, List.mem_of_getElem? (i := 773) (by decide +kernel), List.mem_of_getElem? (i := 1014) (by decide +kernel), List.mem_of_getElem? (i := 1015) (by decide +kernel)⟩
theorem lw_p31 : lw_okq (⟨"KeepCountModel", "isBallot", "(I)Z"⟩, 69) := ⟨⟨by decide +kernel, by decide +kernel⟩, List.mem_of_getElem? (i := 773) (by decide +kernel), List.mem_of_getElem? (i := 1022) (by decide +kernel), List.mem_of_getElem? (i := 1023) (by decide +kernel)⟩
def lw_privs_2 : List (MethodName × Nat) := [(⟨"KeepCount$Tally", "exclude", "(LKeepCount$Stage;)V"⟩, 14), (⟨"KeepCount$Tally", "whoHasFewest", "([JI)I"⟩, 14), (⟨"KeepCount$Tally", "lastInLot", "(I)I"⟩, 14), (⟨"KeepCount", "beatsAll", "(I)Z"⟩, 10), (⟨"KeepCount", "electedInThought", "()I"⟩, 10), (⟨"KeepCount$Poll", "emptyLedBy", "(I)V"⟩, 15), (⟨"KeepCount$Text", "readsClause", "(I)Z"⟩, 8), (⟨"KeepCount$Text", "sign", "()I"⟩, 8), (⟨"KeepCount$Text", "readsBallot", "(I)Z"⟩, 8), (⟨"KeepCount$Text", "number", "(I)I"⟩, 8), (⟨"KeepCount", "isDone", "(III)Z"⟩, 10), (⟨"KeepCount", "tapeAt", "(I)LKeepCount$Tape;"⟩, 10), (⟨"KeepCountModel", "isRow", "(I)Z"⟩, 69), (⟨"KeepCountModel", "firstOver", "(I)I"⟩, 69), (⟨"KeepCountModel", "over", "(I)I"⟩, 69), (⟨"KeepCountModel", "isBallot", "(I)Z"⟩, 69)]
theorem lw_r2 : ∀ q ∈ lw_privs_2, lw_okq q := List.forall_mem_cons.mpr ⟨lw_p16, List.forall_mem_cons.mpr ⟨lw_p17, List.forall_mem_cons.mpr ⟨lw_p18, List.forall_mem_cons.mpr ⟨lw_p19, List.forall_mem_cons.mpr ⟨lw_p20, List.forall_mem_cons.mpr ⟨lw_p21, List.forall_mem_cons.mpr ⟨lw_p22, List.forall_mem_cons.mpr ⟨lw_p23, List.forall_mem_cons.mpr ⟨lw_p24, List.forall_mem_cons.mpr ⟨lw_p25, List.forall_mem_cons.mpr ⟨lw_p26, List.forall_mem_cons.mpr ⟨lw_p27, List.forall_mem_cons.mpr ⟨lw_p28, List.forall_mem_cons.mpr ⟨lw_p29, List.forall_mem_cons.mpr ⟨lw_p30, List.forall_mem_cons.mpr ⟨lw_p31, fun _ h => absurd h List.not_mem_nil⟩⟩⟩⟩⟩⟩⟩⟩⟩⟩⟩⟩⟩⟩⟩⟩
theorem lw_p32 : lw_okq (⟨"KeepCountModel", "isOne", "(I)Z"⟩, 69) := ⟨⟨by decide +kernel, by decide +kernel⟩, List.mem_of_getElem? (i := 773) (by decide +kernel), List.mem_of_getElem? (i := 1034) (by decide +kernel), List.mem_of_getElem? (i := 1035) (by decide +kernel)⟩
theorem lw_p33 : lw_okq (⟨"KeepCountModel", "counts", "()V"⟩, 69) := ⟨⟨by decide +kernel, by decide +kernel⟩, List.mem_of_getElem? (i := 773) (by decide +kernel), List.mem_of_getElem? (i := 1055) (by decide +kernel), List.mem_of_getElem? (i := 1056) (by decide +kernel)⟩
theorem lw_p34 : lw_okq (⟨"KeepCountModel", "tellPiles", "()V"⟩, 69) := ⟨⟨by decide +kernel, by decide +kernel⟩, List.mem_of_getElem? (i := 773) (by decide +kernel), List.mem_of_getElem? (i := 1059) (by decide +kernel), List.mem_of_getElem? (i := 1060) (by decide +kernel)⟩
theorem lw_p35 : lw_okq (⟨"KeepCountModel", "left", "(I)I"⟩, 69) := ⟨⟨by decide +kernel, by decide +kernel⟩, List.mem_of_getElem? (i := 773) (by decide +kernel), List.mem_of_getElem? (i := 1063) (by decide +kernel), List.mem_of_getElem? (i := 1064) (by decide +kernel)⟩
theorem lw_p36 : lw_okq (⟨"KeepCountModel", "comesTo", "(II)V"⟩, 69) := ⟨⟨by decide +kernel, by decide +kernel⟩, List.mem_of_getElem? (i := 773) (by decide +kernel), List.mem_of_getElem? (i := 1073) (by decide +kernel), List.mem_of_getElem? (i := 1074) (by decide +kernel)⟩
theorem lw_p37 : lw_okq (⟨"KeepCountModel", "many", "(I)I"⟩, 69) := ⟨⟨by decide +kernel, by decide +kernel⟩, List.mem_of_getElem? (i := 773) (by decide +kernel), List.mem_of_getElem? (i := 1081) (by decide +kernel), List.mem_of_getElem? (i := 1082) (by decide +kernel)⟩
theorem lw_p38 : lw_okq (⟨"KeepCountModel", "fills", "()V"⟩, 69) := ⟨⟨by decide +kernel, by decide +kernel⟩, List.mem_of_getElem? (i := 773) (by decide +kernel), List.mem_of_getElem? (i := 1085) (by decide +kernel), List.mem_of_getElem? (i := 1086) (by decide +kernel)⟩
theorem lw_p39 : lw_okq (⟨"KeepCountModel", "tellVotes", "()V"⟩, 69) := ⟨⟨by decide +kernel, by decide +kernel⟩, List.mem_of_getElem? (i := 773) (by decide +kernel), List.mem_of_getElem? (i := 1089) (by decide +kernel), List.mem_of_getElem? (i := 1090) (by decide +kernel)⟩
theorem lw_p40 : lw_okq (⟨"KeepCountModel", "becomesElected", "(I)V"⟩, 69) := ⟨⟨by decide +kernel, by decide +kernel⟩, List.mem_of_getElem? (i := 773) (by decide +kernel), List.mem_of_getElem? (i := 1093) (by decide +kernel), List.mem_of_getElem? (i := 1094) (by decide +kernel)⟩
theorem lw_p41 : lw_okq (⟨"KeepCountModel", "endsStage", "(I)V"⟩, 69) := ⟨⟨by decide +kernel, by decide +kernel⟩, List.mem_of_getElem? (i := 773) (by decide +kernel), List.mem_of_getElem? (i := 1097) (by decide +kernel), List.mem_of_getElem? (i := 1098) (by decide +kernel)⟩
theorem lw_p42 : lw_okq (⟨"KeepCountModel", "lines", "()V"⟩, 69) := ⟨⟨by decide +kernel, by decide +kernel⟩, List.mem_of_getElem? (i := 773) (by decide +kernel), List.mem_of_getElem? (i := 1101) (by decide +kernel), List.mem_of_getElem? (i := 1102) (by decide +kernel)⟩
theorem lw_p43 : lw_okq (⟨"KeepCountModel", "isAhead", "(II)Z"⟩, 69) := ⟨⟨by decide +kernel, by decide +kernel⟩, List.mem_of_getElem? (i := 773) (by decide +kernel), List.mem_of_getElem? (i := 1105) (by decide +kernel), List.mem_of_getElem? (i := 1106) (by decide +kernel)⟩
theorem lw_p44 : lw_okq (⟨"KeepCountModel", "lotOf", "(I)I"⟩, 69) := ⟨⟨by decide +kernel, by decide +kernel⟩, List.mem_of_getElem? (i := 773) (by decide +kernel), List.mem_of_getElem? (i := 1109) (by decide +kernel), List.mem_of_getElem? (i := 1110) (by decide +kernel)⟩
theorem lw_p45 : lw_okq (⟨"KeepCountModel", "goesStage", "(Z)V"⟩, 69) := ⟨⟨by decide +kernel, by decide +kernel⟩, List.mem_of_getElem? (i := 773) (by decide +kernel), List.mem_of_getElem? (i := 1113) (by decide +kernel), List.mem_of_getElem? (i := 1114) (by decide +kernel)⟩
theorem lw_p46 : lw_okq (⟨"KeepCountModel", "keepsAnew", "()V"⟩, 69) := ⟨⟨by decide +kernel, by decide +kernel⟩, List.mem_of_getElem? (i := 773) (by decide +kernel), List.mem_of_getElem? (i := 1117) (by decide +kernel), List.mem_of_getElem? (i := 1118) (by decide +kernel)⟩
theorem lw_p47 : lw_okq (⟨"KeepCountModel", "tellSurplus", "()V"⟩, 69) := ⟨⟨by decide +kernel, by decide +kernel⟩, List.mem_of_getElem? (i := 773) (by decide +kernel), List.mem_of_getElem? (i := 1122) (by decide +kernel), List.mem_of_getElem? (i := 1123) (by decide +kernel)⟩
def lw_privs_3 : List (MethodName × Nat) := [(⟨"KeepCountModel", "isOne", "(I)Z"⟩, 69), (⟨"KeepCountModel", "counts", "()V"⟩, 69), (⟨"KeepCountModel", "tellPiles", "()V"⟩, 69), (⟨"KeepCountModel", "left", "(I)I"⟩, 69), (⟨"KeepCountModel", "comesTo", "(II)V"⟩, 69), (⟨"KeepCountModel", "many", "(I)I"⟩, 69), (⟨"KeepCountModel", "fills", "()V"⟩, 69), (⟨"KeepCountModel", "tellVotes", "()V"⟩, 69), (⟨"KeepCountModel", "becomesElected", "(I)V"⟩, 69), (⟨"KeepCountModel", "endsStage", "(I)V"⟩, 69), (⟨"KeepCountModel", "lines", "()V"⟩, 69), (⟨"KeepCountModel", "isAhead", "(II)Z"⟩, 69), (⟨"KeepCountModel", "lotOf", "(I)I"⟩, 69), (⟨"KeepCountModel", "goesStage", "(Z)V"⟩, 69), (⟨"KeepCountModel", "keepsAnew", "()V"⟩, 69), (⟨"KeepCountModel", "tellSurplus", "()V"⟩, 69)]
theorem lw_r3 : ∀ q ∈ lw_privs_3, lw_okq q := List.forall_mem_cons.mpr ⟨lw_p32, List.forall_mem_cons.mpr ⟨lw_p33, List.forall_mem_cons.mpr ⟨lw_p34, List.forall_mem_cons.mpr ⟨lw_p35, List.forall_mem_cons.mpr ⟨lw_p36, List.forall_mem_cons.mpr ⟨lw_p37, List.forall_mem_cons.mpr ⟨lw_p38, List.forall_mem_cons.mpr ⟨lw_p39, List.forall_mem_cons.mpr ⟨lw_p40, List.forall_mem_cons.mpr ⟨lw_p41, List.forall_mem_cons.mpr ⟨lw_p42, List.forall_mem_cons.mpr ⟨lw_p43, List.forall_mem_cons.mpr ⟨lw_p44, List.forall_mem_cons.mpr ⟨lw_p45, List.forall_mem_cons.mpr ⟨lw_p46, List.forall_mem_cons.mpr ⟨lw_p47, fun _ h => absurd h List.not_mem_nil⟩⟩⟩⟩⟩⟩⟩⟩⟩⟩⟩⟩⟩⟩⟩⟩
theorem lw_p48 : lw_okq (⟨"KeepCountModel", "elects", "()Z"⟩, 69) := ⟨⟨by decide +kernel, by decide +kernel⟩, List.mem_of_getElem? (i := 773) (by decide +kernel), List.mem_of_getElem? (i := 1126) (by decide +kernel), List.mem_of_getElem? (i := 1127) (by decide +kernel)⟩
theorem lw_p49 : lw_okq (⟨"KeepCountModel", "worst", "()I"⟩, 69) := ⟨⟨by decide +kernel, by decide +kernel⟩, List.mem_of_getElem? (i := 773) (by decide +kernel), List.mem_of_getElem? (i := 1130) (by decide +kernel), List.mem_of_getElem? (i := 1131) (by decide +kernel)⟩
theorem lw_p50 : lw_okq (⟨"KeepCountModel", "goesRather", "(II)Z"⟩, 69) := ⟨⟨by decide +kernel, by decide +kernel⟩, List.mem_of_getElem? (i := 773) (by decide +kernel), List.mem_of_getElem? (i := 1134) (by decide +kernel), List.mem_of_getElem? (i := 1135) (by decide +kernel)⟩
theorem lw_p51 : lw_okq (⟨"KeepCountModel", "firstMany", "(I)I"⟩, 69) := ⟨⟨by decide +kernel, by decide +kernel⟩, List.mem_of_getElem? (i := 773) (by decide +kernel), List.mem_of_getElem? (i := 1138) (by decide +kernel), List.mem_of_getElem? (i := 1139) (by decide +kernel)⟩
theorem lw_p52 : lw_okq (⟨"KeepCountModel", "electedSet", "()I"⟩, 69) := ⟨⟨by decide +kernel, by decide +kernel⟩, List.mem_of_getElem? (i := 773) (by decide +kernel), List.mem_of_getElem? (i := 1155) (by decide +kernel), List.mem_of_getElem? (i := 1156) (by decide +kernel)⟩
theorem lw_p53 : lw_okq (⟨"KeepCountModel", "isStage", "(I)Z"⟩, 69) := ⟨⟨by decide +kernel, by decide +kernel⟩, List.mem_of_getElem? (i := 773) (by decide +kernel), List.mem_of_getElem? (i := 1163) (by decide +kernel), List.mem_of_getElem? (i := 1164) (by decide +kernel)⟩
theorem lw_p54 : lw_okq (⟨"KeepCountModel", "ranksBy", "(III)I"⟩, 69) := ⟨⟨by decide +kernel, by decide +kernel⟩, List.mem_of_getElem? (i := 773) (by decide +kernel), List.mem_of_getElem? (i := 1186) (by decide +kernel), List.mem_of_getElem? (i := 1187) (by decide +kernel)⟩
theorem lw_p55 : lw_okq (⟨"KeepCountModel", "isBefore", "(III)Z"⟩, 69) := ⟨⟨by decide +kernel, by decide +kernel⟩, List.mem_of_getElem? (i := 773) (by decide +kernel), List.mem_of_getElem? (i := 1190) (by decide +kernel), List.mem_of_getElem? (i := 1191) (by decide +kernel)⟩
theorem lw_p56 : lw_okq (⟨"KeepCountModel", "isTwo", "(II)Z"⟩, 69) := ⟨⟨by decide +kernel, by decide +kernel⟩, List.mem_of_getElem? (i := 773) (by decide +kernel), List.mem_of_getElem? (i := 1206) (by decide +kernel), List.mem_of_getElem? (i := 1207) (by decide +kernel)⟩
theorem lw_p57 : lw_okq (⟨"KeepCountModel", "preferredTo", "(II)I"⟩, 69) := ⟨⟨by decide +kernel, by decide +kernel⟩, List.mem_of_getElem? (i := 773) (by decide +kernel), List.mem_of_getElem? (i := 1210) (by decide +kernel), List.mem_of_getElem? (i := 1211) (by decide +kernel)⟩
theorem lw_p58 : lw_okq (⟨"KeepCountModel", "isBest", "(I)Z"⟩, 69) := ⟨⟨by decide +kernel, by decide +kernel⟩, List.mem_of_getElem? (i := 773) (by decide +kernel), List.mem_of_getElem? (i := 1218) (by decide +kernel), List.mem_of_getElem? (i := 1219) (by decide +kernel)⟩
theorem lw_p59 : lw_okq (⟨"KeepCountModel", "isAsSeen", "()Z"⟩, 69) := ⟨⟨by decide +kernel, by decide +kernel⟩, List.mem_of_getElem? (i := 773) (by decide +kernel), List.mem_of_getElem? (i := 1250) (by decide +kernel), List.mem_of_getElem? (i := 1251) (by decide +kernel)⟩
theorem lw_p60 : lw_okq (⟨"KeepCountModel", "happens", "(II)V"⟩, 69) := ⟨⟨by decide +kernel, by decide +kernel⟩, List.mem_of_getElem? (i := 773) (by decide +kernel), List.mem_of_getElem? (i := 1262) (by decide +kernel), List.mem_of_getElem? (i := 1263) (by decide +kernel)⟩
theorem lw_p61 : lw_okq (⟨"KeepCountModel", "clauseRead", "()V"⟩, 69) := ⟨⟨by decide +kernel, by decide +kernel⟩, List.mem_of_getElem? (i := 773) (by decide +kernel), List.mem_of_getElem? (i := 1275) (by decide +kernel), List.mem_of_getElem? (i := 1276) (by decide +kernel)⟩
theorem lw_p62 : lw_okq (⟨"KeepCountModel", "signAt", "(I)I"⟩, 69) := ⟨⟨by decide +kernel, by decide +kernel⟩, List.mem_of_getElem? (i := 773) (by decide +kernel), List.mem_of_getElem? (i := 1279) (by decide +kernel), List.mem_of_getElem? (i := 1280) (by decide +kernel)⟩
theorem lw_p63 : lw_okq (⟨"KeepCountModel", "fails", "(Z)V"⟩, 69) := ⟨⟨by decide +kernel, by decide +kernel⟩, List.mem_of_getElem? (i := 773) (by decide +kernel), List.mem_of_getElem? (i := 1283) (by decide +kernel), List.mem_of_getElem? (i := 1284) (by decide +kernel)⟩
def lw_privs_4 : List (MethodName × Nat) := [(⟨"KeepCountModel", "elects", "()Z"⟩, 69), (⟨"KeepCountModel", "worst", "()I"⟩, 69), (⟨"KeepCountModel", "goesRather", "(II)Z"⟩, 69), (⟨"KeepCountModel", "firstMany", "(I)I"⟩, 69), (⟨"KeepCountModel", "electedSet", "()I"⟩, 69), (⟨"KeepCountModel", "isStage", "(I)Z"⟩, 69), (⟨"KeepCountModel", "ranksBy", "(III)I"⟩, 69), (⟨"KeepCountModel", "isBefore", "(III)Z"⟩, 69), (⟨"KeepCountModel", "isTwo", "(II)Z"⟩, 69), (⟨"KeepCountModel", "preferredTo", "(II)I"⟩, 69), (⟨"KeepCountModel", "isBest", "(I)Z"⟩, 69), (⟨"KeepCountModel", "isAsSeen", "()Z"⟩, 69), (⟨"KeepCountModel", "happens", "(II)V"⟩, 69), (⟨"KeepCountModel", "clauseRead", "()V"⟩, 69), (⟨"KeepCountModel", "signAt", "(I)I"⟩, 69), (⟨"KeepCountModel", "fails", "(Z)V"⟩, 69)]
theorem lw_r4 : ∀ q ∈ lw_privs_4, lw_okq q := List.forall_mem_cons.mpr ⟨lw_p48, List.forall_mem_cons.mpr ⟨lw_p49, List.forall_mem_cons.mpr ⟨lw_p50, List.forall_mem_cons.mpr ⟨lw_p51, List.forall_mem_cons.mpr ⟨lw_p52, List.forall_mem_cons.mpr ⟨lw_p53, List.forall_mem_cons.mpr ⟨lw_p54, List.forall_mem_cons.mpr ⟨lw_p55, List.forall_mem_cons.mpr ⟨lw_p56, List.forall_mem_cons.mpr ⟨lw_p57, List.forall_mem_cons.mpr ⟨lw_p58, List.forall_mem_cons.mpr ⟨lw_p59, List.forall_mem_cons.mpr ⟨lw_p60, List.forall_mem_cons.mpr ⟨lw_p61, List.forall_mem_cons.mpr ⟨lw_p62, List.forall_mem_cons.mpr ⟨lw_p63, fun _ h => absurd h List.not_mem_nil⟩⟩⟩⟩⟩⟩⟩⟩⟩⟩⟩⟩⟩⟩⟩⟩
theorem lw_p64 : lw_okq (⟨"KeepCountModel", "numberRead", "(I)I"⟩, 69) := ⟨⟨by decide +kernel, by decide +kernel⟩, List.mem_of_getElem? (i := 773) (by decide +kernel), List.mem_of_getElem? (i := 1287) (by decide +kernel), List.mem_of_getElem? (i := 1288) (by decide +kernel)⟩
theorem lw_p65 : lw_okq (⟨"KeepCountModel", "faulty", "()I"⟩, 69) := ⟨⟨by decide +kernel, by decide +kernel⟩, List.mem_of_getElem? (i := 773) (by decide +kernel), List.mem_of_getElem? (i := 1293) (by decide +kernel), List.mem_of_getElem? (i := 1294) (by decide +kernel)⟩
theorem lw_p66 : lw_okq (⟨"KeepCountModel", "done", "(I)I"⟩, 69) := ⟨⟨by decide +kernel, by decide +kernel⟩, List.mem_of_getElem? (i := 773) (by decide +kernel), List.mem_of_getElem? (i := 1297) (by decide +kernel), List.mem_of_getElem? (i := 1298) (by decide +kernel)⟩
theorem lw_p67 : lw_okq (⟨"KeepCountModel", "refusal", "(II)I"⟩, 69) := ⟨⟨by decide +kernel, by decide +kernel⟩, List.mem_of_getElem? (i := 773) (by decide +kernel), List.mem_of_getElem? (i := 1339) (by decide +kernel), List.mem_of_getElem? (i := 1340) (by decide +kernel)⟩
def lw_privs_5 : List (MethodName × Nat) := [(⟨"KeepCountModel", "numberRead", "(I)I"⟩, 69), (⟨"KeepCountModel", "faulty", "()I"⟩, 69), (⟨"KeepCountModel", "done", "(I)I"⟩, 69), (⟨"KeepCountModel", "refusal", "(II)I"⟩, 69)]
theorem lw_r5 : ∀ q ∈ lw_privs_5, lw_okq q := List.forall_mem_cons.mpr ⟨lw_p64, List.forall_mem_cons.mpr ⟨lw_p65, List.forall_mem_cons.mpr ⟨lw_p66, List.forall_mem_cons.mpr ⟨lw_p67, fun _ h => absurd h List.not_mem_nil⟩⟩⟩⟩
def lw_privs : List (MethodName × Nat) := lw_privs_1 ++ (lw_privs_2 ++ (lw_privs_3 ++ (lw_privs_4 ++ (lw_privs_5))))
def lw_tbl : List Cond := k2_sels lw_privs ++ tables_1
theorem lw_privs_ok : ∀ q ∈ lw_privs, lw_okq q := by
  show ∀ q ∈ lw_privs_1 ++ (lw_privs_2 ++ (lw_privs_3 ++ (lw_privs_4 ++ (lw_privs_5)))), lw_okq q
  exact List.forall_mem_append.mpr ⟨lw_r1, List.forall_mem_append.mpr ⟨lw_r2, List.forall_mem_append.mpr ⟨lw_r3, List.forall_mem_append.mpr ⟨lw_r4, lw_r5⟩⟩⟩⟩
theorem mem_ps {big ws : List Cond} (ps : List Nat) (hp : ws = ps.filterMap (fun i => big[i]?)) : ∀ w ∈ ws, w ∈ big := by
  intro w hw
  rw [hp] at hw
  obtain ⟨i, -, hi⟩ := List.mem_filterMap.mp hw
  exact List.mem_of_getElem? hi
theorem at_tbl {w : Cond} (i : Nat) (h : lw_tbl[i]? = some w) : w ∈ lw_tbl := List.mem_of_getElem? h
def RX0 : String := "KeepCount$Piles"
def TX0 : u_T := fun k => match k with
  | 0 => ("KeepCount$Piles", "size", "I", false)
  | 1 => ("KeepCount$Piles", "row", "[I", true)
  | _ => ("KeepCount$Piles", "heap", "[I", true)
def tyX0 : Nat → FieldType := fun k => match k with
  | 0 => .int
  | 1 => .array .int
  | _ => .array .int
abbrev wsX00 : List Cond := u_ws RX0 TX0 3
theorem nmX0 : ∀ a, a < 3 → ∀ b, b < 3 → a ≠ b → (TX0 a).2.1 ≠ (TX0 b).2.1 := by decide +kernel
theorem tyX0_ok : ∀ k, k < 3 → parseFieldDescriptor (TX0 k).2.2.1 = some (tyX0 k) := by decide +kernel
abbrev cX0_init : ByteArray := prog_2_method_1_code
def yX0_init : MethodName := ⟨RX0, "<init>", "()V"⟩
abbrev cX0_gather : ByteArray := prog_2_method_2_code
def yX0_gather : MethodName := ⟨RX0, "gather", "(LKeepCount$Poll;)V"⟩
abbrev cX0_put : ByteArray := prog_2_method_3_code
def yX0_put : MethodName := ⟨RX0, "put", "(II)V"⟩
def RX1 : String := "KeepCount$Poll"
def TX1 : u_T := fun k => match k with
  | 0 => ("KeepCount$Poll", "candidates", "I", false)
  | 1 => ("KeepCount$Poll", "lot", "[I", true)
  | 2 => ("KeepCount$Poll", "away", "[Z", true)
  | 3 => ("KeepCount$Poll", "ballots", "I", false)
  | 4 => ("KeepCount$Poll", "row", "[I", true)
  | 5 => ("KeepCount$Poll", "heap", "[I", true)
  | 6 => ("KeepCount$Poll", "seats", "I", false)
  | 7 => ("KeepCount$Poll", "limit", "I", false)
  | 8 => ("KeepCount$Poll", "rounds", "I", false)
  | 9 => ("KeepCount$Poll", "seen", "I", false)
  | 10 => ("KeepCount$Poll", "seenWho", "[I", true)
  | 11 => ("KeepCount$Poll", "seenIs", "[Z", true)
  | 12 => ("KeepCount$Poll", "events", "I", false)
  | 13 => ("KeepCount$Poll", "eventWhat", "[I", true)
  | _ => ("KeepCount$Poll", "eventNumber", "[I", true)
def tyX1 : Nat → FieldType := fun k => match k with
  | 0 => .int
  | 1 => .array .int
  | 2 => .array .boolean
  | 3 => .int
  | 4 => .array .int
  | 5 => .array .int
  | 6 => .int
  | 7 => .int
  | 8 => .int
  | 9 => .int
  | 10 => .array .int
  | 11 => .array .boolean
  | 12 => .int
  | 13 => .array .int
  | _ => .array .int
abbrev wsX10 : List Cond := u_ws RX1 TX1 15
theorem nmX1 : ∀ a, a < 15 → ∀ b, b < 15 → a ≠ b → (TX1 a).2.1 ≠ (TX1 b).2.1 := by decide +kernel
theorem tyX1_ok : ∀ k, k < 15 → parseFieldDescriptor (TX1 k).2.2.1 = some (tyX1 k) := by decide +kernel
abbrev cX1_init : ByteArray := prog_3_method_1_code
def yX1_init : MethodName := ⟨RX1, "<init>", "()V"⟩
abbrev cX1_copyFrom : ByteArray := prog_3_method_2_code
def yX1_copyFrom : MethodName := ⟨RX1, "copyFrom", "(LKeepCount$Poll;)V"⟩
abbrev cX1_hasCandidate : ByteArray := prog_3_method_3_code
def yX1_hasCandidate : MethodName := ⟨RX1, "hasCandidate", "(I)Z"⟩
abbrev cX1_hasBallot : ByteArray := prog_3_method_4_code
def yX1_hasBallot : MethodName := ⟨RX1, "hasBallot", "(I)Z"⟩
abbrev cX1_together : ByteArray := prog_3_method_5_code
def yX1_together : MethodName := ⟨RX1, "together", "()J"⟩
abbrev cX1_placeInLot : ByteArray := prog_3_method_6_code
def yX1_placeInLot : MethodName := ⟨RX1, "placeInLot", "(I)I"⟩
abbrev cX1_firstHere : ByteArray := prog_3_method_7_code
def yX1_firstHere : MethodName := ⟨RX1, "firstHere", "(I)I"⟩
abbrev cX1_manyFirst : ByteArray := prog_3_method_8_code
def yX1_manyFirst : MethodName := ⟨RX1, "manyFirst", "(I)I"⟩
abbrev cX1_manyAhead : ByteArray := prog_3_method_9_code
def yX1_manyAhead : MethodName := ⟨RX1, "manyAhead", "(II)I"⟩
abbrev cX1_isSeenSo : ByteArray := prog_3_method_10_code
def yX1_isSeenSo : MethodName := ⟨RX1, "isSeenSo", "(I)Z"⟩
abbrev cX1_suffer : ByteArray := prog_3_method_11_code
def yX1_suffer : MethodName := ⟨RX1, "suffer", "(II)V"⟩
abbrev cX1_emptyLedBy : ByteArray := prog_3_method_12_code
def yX1_emptyLedBy : MethodName := ⟨RX1, "emptyLedBy", "(I)V"⟩
def RX2 : String := "KeepCount$Row"
def TX2 : u_T := fun k => match k with
  | _ => ("", "", "", false)
def tyX2 : Nat → FieldType := fun k => match k with
  | _ => .int
abbrev wsX20 : List Cond := u_ws RX2 TX2 0
theorem nmX2 : ∀ a, a < 0 → ∀ b, b < 0 → a ≠ b → (TX2 a).2.1 ≠ (TX2 b).2.1 := by decide +kernel
theorem tyX2_ok : ∀ k, k < 0 → parseFieldDescriptor (TX2 k).2.2.1 = some (tyX2 k) := by decide +kernel
abbrev cX2_isRow : ByteArray := prog_4_method_2_code
def yX2_isRow : MethodName := ⟨RX2, "isRow", "(II)Z"⟩
abbrev cX2_filledUp : ByteArray := prog_4_method_3_code
def yX2_filledUp : MethodName := ⟨RX2, "filledUp", "(I)I"⟩
abbrev cX2_asTold : ByteArray := prog_4_method_4_code
def yX2_asTold : MethodName := ⟨RX2, "asTold", "(I)I"⟩
abbrev cX2_at : ByteArray := prog_4_method_5_code
def yX2_at : MethodName := ⟨RX2, "at", "(II)I"⟩
abbrev cX2_length : ByteArray := prog_4_method_6_code
def yX2_length : MethodName := ⟨RX2, "length", "(I)I"⟩
abbrev cX2_placeOf : ByteArray := prog_4_method_7_code
def yX2_placeOf : MethodName := ⟨RX2, "placeOf", "(II)I"⟩
abbrev cX2_leftOf : ByteArray := prog_4_method_8_code
def yX2_leftOf : MethodName := ⟨RX2, "leftOf", "(I[Z)I"⟩
abbrev cX2_ledBy : ByteArray := prog_4_method_9_code
def yX2_ledBy : MethodName := ⟨RX2, "ledBy", "(II)I"⟩
def RX3 : String := "KeepCount$Stage"
def TX3 : u_T := fun k => match k with
  | 0 => ("KeepCount$Stage", "rounds", "I", false)
  | 1 => ("KeepCount$Stage", "out", "I", false)
  | 2 => ("KeepCount$Stage", "in", "I", false)
  | 3 => ("KeepCount$Stage", "quota", "J", false)
  | 4 => ("KeepCount$Stage", "excess", "J", false)
  | 5 => ("KeepCount$Stage", "surplus", "J", false)
  | 6 => ("KeepCount$Stage", "total", "J", false)
  | 7 => ("KeepCount$Stage", "got", "[J", true)
  | _ => ("KeepCount$Stage", "keep", "[J", true)
def tyX3 : Nat → FieldType := fun k => match k with
  | 0 => .int
  | 1 => .int
  | 2 => .int
  | 3 => .long
  | 4 => .long
  | 5 => .long
  | 6 => .long
  | 7 => .array .long
  | _ => .array .long
abbrev wsX30 : List Cond := u_ws RX3 TX3 9
theorem nmX3 : ∀ a, a < 9 → ∀ b, b < 9 → a ≠ b → (TX3 a).2.1 ≠ (TX3 b).2.1 := by decide +kernel
theorem tyX3_ok : ∀ k, k < 9 → parseFieldDescriptor (TX3 k).2.2.1 = some (tyX3 k) := by decide +kernel
abbrev cX3_init : ByteArray := prog_5_method_1_code
def yX3_init : MethodName := ⟨RX3, "<init>", "()V"⟩
def RX4 : String := "KeepCount$Tally"
def TX4 : u_T := fun k => match k with
  | 0 => ("KeepCount$Tally", "poll", "LKeepCount$Poll;", true)
  | 1 => ("KeepCount$Tally", "piles", "LKeepCount$Piles;", true)
  | 2 => ("KeepCount$Tally", "fate", "[I", true)
  | 3 => ("KeepCount$Tally", "when", "[I", true)
  | 4 => ("KeepCount$Tally", "order", "[I", true)
  | 5 => ("KeepCount$Tally", "elects", "I", false)
  | 6 => ("KeepCount$Tally", "hopefuls", "I", false)
  | 7 => ("KeepCount$Tally", "stages", "I", false)
  | 8 => ("KeepCount$Tally", "stage", "[LKeepCount$Stage;", true)
  | 9 => ("KeepCount$Tally", "keep", "[J", true)
  | 10 => ("KeepCount$Tally", "got", "[J", true)
  | 11 => ("KeepCount$Tally", "quota", "J", false)
  | 12 => ("KeepCount$Tally", "excess", "J", false)
  | _ => ("KeepCount$Tally", "total", "J", false)
def tyX4 : Nat → FieldType := fun k => match k with
  | 0 => .object "KeepCount$Poll"
  | 1 => .object "KeepCount$Piles"
  | 2 => .array .int
  | 3 => .array .int
  | 4 => .array .int
  | 5 => .int
  | 6 => .int
  | 7 => .int
  | 8 => .array (.object "KeepCount$Stage")
  | 9 => .array .long
  | 10 => .array .long
  | 11 => .long
  | 12 => .long
  | _ => .long
abbrev wsX40 : List Cond := u_ws RX4 TX4 14
theorem nmX4 : ∀ a, a < 14 → ∀ b, b < 14 → a ≠ b → (TX4 a).2.1 ≠ (TX4 b).2.1 := by decide +kernel
theorem tyX4_ok : ∀ k, k < 14 → parseFieldDescriptor (TX4 k).2.2.1 = some (tyX4 k) := by decide +kernel
abbrev cX4_init : ByteArray := prog_6_method_1_code
def yX4_init : MethodName := ⟨RX4, "<init>", "(LKeepCount$Poll;)V"⟩
abbrev cX4_stageAt : ByteArray := prog_6_method_2_code
def yX4_stageAt : MethodName := ⟨RX4, "stageAt", "(I)LKeepCount$Stage;"⟩
abbrev cX4_work : ByteArray := prog_6_method_3_code
def yX4_work : MethodName := ⟨RX4, "work", "()V"⟩
abbrev cX4_begin : ByteArray := prog_6_method_4_code
def yX4_begin : MethodName := ⟨RX4, "begin", "()V"⟩
abbrev cX4_fill : ByteArray := prog_6_method_5_code
def yX4_fill : MethodName := ⟨RX4, "fill", "(LKeepCount$Stage;)V"⟩
abbrev cX4_goByRounds : ByteArray := prog_6_method_6_code
def yX4_goByRounds : MethodName := ⟨RX4, "goByRounds", "(LKeepCount$Stage;Z)V"⟩
abbrev cX4_turnKeeps : ByteArray := prog_6_method_7_code
def yX4_turnKeeps : MethodName := ⟨RX4, "turnKeeps", "()V"⟩
abbrev cX4_workOut : ByteArray := prog_6_method_8_code
def yX4_workOut : MethodName := ⟨RX4, "workOut", "()V"⟩
abbrev cX4_passOn : ByteArray := prog_6_method_9_code
def yX4_passOn : MethodName := ⟨RX4, "passOn", "(IJ)J"⟩
abbrev cX4_surplus : ByteArray := prog_6_method_10_code
def yX4_surplus : MethodName := ⟨RX4, "surplus", "()J"⟩
abbrev cX4_note : ByteArray := prog_6_method_11_code
def yX4_note : MethodName := ⟨RX4, "note", "(LKeepCount$Stage;IJ)V"⟩
abbrev cX4_whoReachesQuota : ByteArray := prog_6_method_12_code
def yX4_whoReachesQuota : MethodName := ⟨RX4, "whoReachesQuota", "()I"⟩
abbrev cX4_elect : ByteArray := prog_6_method_13_code
def yX4_elect : MethodName := ⟨RX4, "elect", "(LKeepCount$Stage;I)V"⟩
abbrev cX4_exclude : ByteArray := prog_6_method_14_code
def yX4_exclude : MethodName := ⟨RX4, "exclude", "(LKeepCount$Stage;)V"⟩
abbrev cX4_whoHasFewest : ByteArray := prog_6_method_15_code
def yX4_whoHasFewest : MethodName := ⟨RX4, "whoHasFewest", "([JI)I"⟩
abbrev cX4_lastInLot : ByteArray := prog_6_method_16_code
def yX4_lastInLot : MethodName := ⟨RX4, "lastInLot", "(I)I"⟩
abbrev cX4_whoIs : ByteArray := prog_6_method_17_code
def yX4_whoIs : MethodName := ⟨RX4, "whoIs", "(I)I"⟩
abbrev cX4_whoIsHere : ByteArray := prog_6_method_18_code
def yX4_whoIsHere : MethodName := ⟨RX4, "whoIsHere", "()I"⟩
abbrev cX4_leader : ByteArray := prog_6_method_19_code
def yX4_leader : MethodName := ⟨RX4, "leader", "([JII)I"⟩
abbrev cX4_rankAt : ByteArray := prog_6_method_20_code
def yX4_rankAt : MethodName := ⟨RX4, "rankAt", "(I)I"⟩
def RX5 : String := "KeepCount$Tape"
def TX5 : u_T := fun k => match k with
  | 0 => ("KeepCount$Tape", "sort", "I", false)
  | 1 => ("KeepCount$Tape", "size", "I", false)
  | _ => ("KeepCount$Tape", "items", "[J", true)
def tyX5 : Nat → FieldType := fun k => match k with
  | 0 => .int
  | 1 => .int
  | _ => .array .long
abbrev wsX50 : List Cond := u_ws RX5 TX5 3
theorem nmX5 : ∀ a, a < 3 → ∀ b, b < 3 → a ≠ b → (TX5 a).2.1 ≠ (TX5 b).2.1 := by decide +kernel
theorem tyX5_ok : ∀ k, k < 3 → parseFieldDescriptor (TX5 k).2.2.1 = some (tyX5 k) := by decide +kernel
abbrev cX5_init : ByteArray := prog_7_method_1_code
def yX5_init : MethodName := ⟨RX5, "<init>", "()V"⟩
abbrev cX5_become : ByteArray := prog_7_method_2_code
def yX5_become : MethodName := ⟨RX5, "become", "(II)V"⟩
abbrev cX5_fitted : ByteArray := prog_7_method_3_code
def yX5_fitted : MethodName := ⟨RX5, "fitted", "(J)J"⟩
abbrev cX5_hasRoom : ByteArray := prog_7_method_4_code
def yX5_hasRoom : MethodName := ⟨RX5, "hasRoom", "(II)Z"⟩
def RX6 : String := "KeepCount$Text"
def TX6 : u_T := fun k => match k with
  | 0 => ("KeepCount$Text", "size", "I", false)
  | 1 => ("KeepCount$Text", "signs", "[I", true)
  | 2 => ("KeepCount$Text", "clauses", "I", false)
  | 3 => ("KeepCount$Text", "kind", "[I", true)
  | 4 => ("KeepCount$Text", "first", "[I", true)
  | 5 => ("KeepCount$Text", "second", "[I", true)
  | 6 => ("KeepCount$Text", "place", "I", false)
  | _ => ("KeepCount$Text", "lacksNumber", "Z", false)
def tyX6 : Nat → FieldType := fun k => match k with
  | 0 => .int
  | 1 => .array .int
  | 2 => .int
  | 3 => .array .int
  | 4 => .array .int
  | 5 => .array .int
  | 6 => .int
  | _ => .boolean
abbrev wsX60 : List Cond := u_ws RX6 TX6 8
theorem nmX6 : ∀ a, a < 8 → ∀ b, b < 8 → a ≠ b → (TX6 a).2.1 ≠ (TX6 b).2.1 := by decide +kernel
theorem tyX6_ok : ∀ k, k < 8 → parseFieldDescriptor (TX6 k).2.2.1 = some (tyX6 k) := by decide +kernel
abbrev cX6_init : ByteArray := prog_8_method_1_code
def yX6_init : MethodName := ⟨RX6, "<init>", "()V"⟩
abbrev cX6_sign : ByteArray := prog_8_method_2_code
def yX6_sign : MethodName := ⟨RX6, "sign", "()I"⟩
abbrev cX6_faultToldTo : ByteArray := prog_8_method_3_code
def yX6_faultToldTo : MethodName := ⟨RX6, "faultToldTo", "(LKeepCount$Trouble;)I"⟩
abbrev cX6_readsClause : ByteArray := prog_8_method_4_code
def yX6_readsClause : MethodName := ⟨RX6, "readsClause", "(I)Z"⟩
abbrev cX6_readsBallot : ByteArray := prog_8_method_5_code
def yX6_readsBallot : MethodName := ⟨RX6, "readsBallot", "(I)Z"⟩
abbrev cX6_number : ByteArray := prog_8_method_6_code
def yX6_number : MethodName := ⟨RX6, "number", "(I)I"⟩
def RX7 : String := "KeepCount$Trouble"
def TX7 : u_T := fun k => match k with
  | 0 => ("KeepCount$Trouble", "size", "I", false)
  | 1 => ("KeepCount$Trouble", "sort", "[I", true)
  | _ => ("KeepCount$Trouble", "number", "[I", true)
def tyX7 : Nat → FieldType := fun k => match k with
  | 0 => .int
  | 1 => .array .int
  | _ => .array .int
abbrev wsX70 : List Cond := u_ws RX7 TX7 3
theorem nmX7 : ∀ a, a < 3 → ∀ b, b < 3 → a ≠ b → (TX7 a).2.1 ≠ (TX7 b).2.1 := by decide +kernel
theorem tyX7_ok : ∀ k, k < 3 → parseFieldDescriptor (TX7 k).2.2.1 = some (tyX7 k) := by decide +kernel
abbrev cX7_init : ByteArray := prog_9_method_1_code
def yX7_init : MethodName := ⟨RX7, "<init>", "()V"⟩
abbrev cX7_begin : ByteArray := prog_9_method_2_code
def yX7_begin : MethodName := ⟨RX7, "begin", "(II)V"⟩
abbrev cX7_addCause : ByteArray := prog_9_method_3_code
def yX7_addCause : MethodName := ⟨RX7, "addCause", "(II)V"⟩
def RX8 : String := "KeepCount"
def TX8 : u_T := fun k => match k with
  | 0 => ("KeepCount", "poll", "LKeepCount$Poll;", true)
  | 1 => ("KeepCount", "thought", "LKeepCount$Poll;", true)
  | 2 => ("KeepCount", "picture", "LKeepCount$Poll;", true)
  | 3 => ("KeepCount", "pictured", "Z", false)
  | 4 => ("KeepCount", "pollTally", "LKeepCount$Tally;", true)
  | 5 => ("KeepCount", "thoughtTally", "LKeepCount$Tally;", true)
  | 6 => ("KeepCount", "fresh", "Z", false)
  | 7 => ("KeepCount", "text", "LKeepCount$Text;", true)
  | 8 => ("KeepCount", "trouble", "LKeepCount$Trouble;", true)
  | _ => ("KeepCount", "tapes", "[LKeepCount$Tape;", true)
def tyX8 : Nat → FieldType := fun k => match k with
  | 0 => .object "KeepCount$Poll"
  | 1 => .object "KeepCount$Poll"
  | 2 => .object "KeepCount$Poll"
  | 3 => .boolean
  | 4 => .object "KeepCount$Tally"
  | 5 => .object "KeepCount$Tally"
  | 6 => .boolean
  | 7 => .object "KeepCount$Text"
  | 8 => .object "KeepCount$Trouble"
  | _ => .array (.object "KeepCount$Tape")
abbrev wsX80 : List Cond := u_ws RX8 TX8 10
theorem nmX8 : ∀ a, a < 10 → ∀ b, b < 10 → a ≠ b → (TX8 a).2.1 ≠ (TX8 b).2.1 := by decide +kernel
theorem tyX8_ok : ∀ k, k < 10 → parseFieldDescriptor (TX8 k).2.2.1 = some (tyX8 k) := by decide +kernel
abbrev cX8_init : ByteArray := prog_1_method_1_code
def yX8_init : MethodName := ⟨RX8, "<init>", "()V"⟩
abbrev cX8_candidate : ByteArray := prog_1_method_2_code
def yX8_candidate : MethodName := ⟨RX8, "candidate", "()I"⟩
abbrev cX8_ballot : ByteArray := prog_1_method_3_code
def yX8_ballot : MethodName := ⟨RX8, "ballot", "(II)I"⟩
abbrev cX8_many : ByteArray := prog_1_method_4_code
def yX8_many : MethodName := ⟨RX8, "many", "(II)I"⟩
abbrev cX8_drop : ByteArray := prog_1_method_5_code
def yX8_drop : MethodName := ⟨RX8, "drop", "()I"⟩
abbrev cX8_gone : ByteArray := prog_1_method_6_code
def yX8_gone : MethodName := ⟨RX8, "gone", "(IZ)I"⟩
abbrev cX8_set : ByteArray := prog_1_method_7_code
def yX8_set : MethodName := ⟨RX8, "set", "(II)I"⟩
abbrev cX8_putSeats : ByteArray := prog_1_method_8_code
def yX8_putSeats : MethodName := ⟨RX8, "putSeats", "(I)I"⟩
abbrev cX8_putLimit : ByteArray := prog_1_method_9_code
def yX8_putLimit : MethodName := ⟨RX8, "putLimit", "(I)I"⟩
abbrev cX8_putRounds : ByteArray := prog_1_method_10_code
def yX8_putRounds : MethodName := ⟨RX8, "putRounds", "(I)I"⟩
abbrev cX8_swap : ByteArray := prog_1_method_11_code
def yX8_swap : MethodName := ⟨RX8, "swap", "(II)I"⟩
abbrev cX8_isOver : ByteArray := prog_1_method_12_code
def yX8_isOver : MethodName := ⟨RX8, "isOver", "(II)Z"⟩
abbrev cX8_tallied : ByteArray := prog_1_method_13_code
def yX8_tallied : MethodName := ⟨RX8, "tallied", "()LKeepCount$Tally;"⟩
abbrev cX8_of : ByteArray := prog_1_method_14_code
def yX8_of : MethodName := ⟨RX8, "of", "(II)I"⟩
abbrev cX8_ballotOf : ByteArray := prog_1_method_15_code
def yX8_ballotOf : MethodName := ⟨RX8, "ballotOf", "(II)I"⟩
abbrev cX8_rowOf : ByteArray := prog_1_method_16_code
def yX8_rowOf : MethodName := ⟨RX8, "rowOf", "(II)I"⟩
abbrev cX8_told : ByteArray := prog_1_method_17_code
def yX8_told : MethodName := ⟨RX8, "told", "(I)I"⟩
abbrev cX8_stageOf : ByteArray := prog_1_method_18_code
def yX8_stageOf : MethodName := ⟨RX8, "stageOf", "(II)I"⟩
abbrev cX8_amount : ByteArray := prog_1_method_19_code
def yX8_amount : MethodName := ⟨RX8, "amount", "(II)J"⟩
abbrev cX8_votes : ByteArray := prog_1_method_20_code
def yX8_votes : MethodName := ⟨RX8, "votes", "(III)J"⟩
abbrev cX8_elected : ByteArray := prog_1_method_21_code
def yX8_elected : MethodName := ⟨RX8, "elected", "(I)I"⟩
abbrev cX8_ranked : ByteArray := prog_1_method_22_code
def yX8_ranked : MethodName := ⟨RX8, "ranked", "(I)I"⟩
abbrev cX8_standing : ByteArray := prog_1_method_23_code
def yX8_standing : MethodName := ⟨RX8, "standing", "(II)I"⟩
abbrev cX8_pile : ByteArray := prog_1_method_24_code
def yX8_pile : MethodName := ⟨RX8, "pile", "(II)I"⟩
abbrev cX8_preferred : ByteArray := prog_1_method_25_code
def yX8_preferred : MethodName := ⟨RX8, "preferred", "(II)I"⟩
abbrev cX8_best : ByteArray := prog_1_method_26_code
def yX8_best : MethodName := ⟨RX8, "best", "()I"⟩
abbrev cX8_beatsAll : ByteArray := prog_1_method_27_code
def yX8_beatsAll : MethodName := ⟨RX8, "beatsAll", "(I)Z"⟩
abbrev cX8_share : ByteArray := prog_1_method_28_code
def yX8_share : MethodName := ⟨RX8, "share", "(III)J"⟩
abbrev cX8_commonDivisor : ByteArray := prog_1_method_29_code
def yX8_commonDivisor : MethodName := ⟨RX8, "commonDivisor", "(JJ)J"⟩
abbrev cX8_cut : ByteArray := prog_1_method_30_code
def yX8_cut : MethodName := ⟨RX8, "cut", "(JJ)J"⟩
abbrev cX8_electedInThought : ByteArray := prog_1_method_31_code
def yX8_electedInThought : MethodName := ⟨RX8, "electedInThought", "()I"⟩
abbrev cX8_without : ByteArray := prog_1_method_32_code
def yX8_without : MethodName := ⟨RX8, "without", "(I)I"⟩
abbrev cX8_raised : ByteArray := prog_1_method_33_code
def yX8_raised : MethodName := ⟨RX8, "raised", "(II)I"⟩
abbrev cX8_needs : ByteArray := prog_1_method_34_code
def yX8_needs : MethodName := ⟨RX8, "needs", "(II)I"⟩
abbrev cX8_see : ByteArray := prog_1_method_35_code
def yX8_see : MethodName := ⟨RX8, "see", "(IZ)I"⟩
abbrev cX8_fits : ByteArray := prog_1_method_36_code
def yX8_fits : MethodName := ⟨RX8, "fits", "(I)I"⟩
abbrev cX8_event : ByteArray := prog_1_method_37_code
def yX8_event : MethodName := ⟨RX8, "event", "(II)I"⟩
abbrev cX8_after : ByteArray := prog_1_method_38_code
def yX8_after : MethodName := ⟨RX8, "after", "()I"⟩
abbrev cX8_feed : ByteArray := prog_1_method_39_code
def yX8_feed : MethodName := ⟨RX8, "feed", "(I)I"⟩
abbrev cX8_read : ByteArray := prog_1_method_40_code
def yX8_read : MethodName := ⟨RX8, "read", "()I"⟩
abbrev cX8_isDone : ByteArray := prog_1_method_41_code
def yX8_isDone : MethodName := ⟨RX8, "isDone", "(III)Z"⟩
abbrev cX8_cause : ByteArray := prog_1_method_42_code
def yX8_cause : MethodName := ⟨RX8, "cause", "(II)I"⟩
abbrev cX8_tapeAt : ByteArray := prog_1_method_43_code
def yX8_tapeAt : MethodName := ⟨RX8, "tapeAt", "(I)LKeepCount$Tape;"⟩
abbrev cX8_judge : ByteArray := prog_1_method_44_code
def yX8_judge : MethodName := ⟨RX8, "judge", "(III)I"⟩
abbrev cX8_image : ByteArray := prog_1_method_45_code
def yX8_image : MethodName := ⟨RX8, "image", "()I"⟩
abbrev cX8_undo : ByteArray := prog_1_method_46_code
def yX8_undo : MethodName := ⟨RX8, "undo", "()I"⟩
abbrev cX8_count : ByteArray := prog_1_method_47_code
def yX8_count : MethodName := ⟨RX8, "count", "(I)I"⟩
abbrev cX8_tape : ByteArray := prog_1_method_48_code
def yX8_tape : MethodName := ⟨RX8, "tape", "(III)I"⟩
abbrev cX8_item : ByteArray := prog_1_method_49_code
def yX8_item : MethodName := ⟨RX8, "item", "(IIJ)I"⟩
abbrev cX8_peek : ByteArray := prog_1_method_50_code
def yX8_peek : MethodName := ⟨RX8, "peek", "(II)J"⟩
abbrev cX8_shift : ByteArray := prog_1_method_51_code
def yX8_shift : MethodName := ⟨RX8, "shift", "(IIIII)I"⟩
def RX9 : String := "KeepCountModel"
def TX9 : u_T := fun k => match k with
  | 0 => ("KeepCountModel", "people", "I", false)
  | 1 => ("KeepCountModel", "ballots", "I", false)
  | 2 => ("KeepCountModel", "isGone", "[Z", true)
  | 3 => ("KeepCountModel", "lot", "[I", true)
  | 4 => ("KeepCountModel", "rows", "[I", true)
  | 5 => ("KeepCountModel", "manies", "[I", true)
  | 6 => ("KeepCountModel", "seats", "I", false)
  | 7 => ("KeepCountModel", "limit", "I", false)
  | 8 => ("KeepCountModel", "rounds", "I", false)
  | 9 => ("KeepCountModel", "seen", "I", false)
  | 10 => ("KeepCountModel", "events", "I", false)
  | 11 => ("KeepCountModel", "seenWho", "[I", true)
  | 12 => ("KeepCountModel", "eventWhat", "[I", true)
  | 13 => ("KeepCountModel", "eventOf", "[I", true)
  | 14 => ("KeepCountModel", "seenSo", "[Z", true)
  | 15 => ("KeepCountModel", "troubles", "I", false)
  | 16 => ("KeepCountModel", "sorts", "[I", true)
  | 17 => ("KeepCountModel", "tells", "[I", true)
  | 18 => ("KeepCountModel", "piles", "I", false)
  | 19 => ("KeepCountModel", "pileRow", "[I", true)
  | 20 => ("KeepCountModel", "pileKey", "[I", true)
  | 21 => ("KeepCountModel", "pileMany", "[I", true)
  | 22 => ("KeepCountModel", "stages", "I", false)
  | 23 => ("KeepCountModel", "electedMany", "I", false)
  | 24 => ("KeepCountModel", "state", "[I", true)
  | 25 => ("KeepCountModel", "keep", "[I", true)
  | 26 => ("KeepCountModel", "stageOfOne", "[I", true)
  | 27 => ("KeepCountModel", "elected", "[I", true)
  | 28 => ("KeepCountModel", "vote", "[J", true)
  | 29 => ("KeepCountModel", "quota", "J", false)
  | 30 => ("KeepCountModel", "excess", "J", false)
  | 31 => ("KeepCountModel", "surplus", "J", false)
  | 32 => ("KeepCountModel", "allVotes", "J", false)
  | 33 => ("KeepCountModel", "votesOf", "[J", true)
  | 34 => ("KeepCountModel", "quotas", "[J", true)
  | 35 => ("KeepCountModel", "excesses", "[J", true)
  | 36 => ("KeepCountModel", "surpluses", "[J", true)
  | 37 => ("KeepCountModel", "wholes", "[J", true)
  | 38 => ("KeepCountModel", "keepsOf", "[I", true)
  | 39 => ("KeepCountModel", "roundsOf", "[I", true)
  | 40 => ("KeepCountModel", "outOf", "[I", true)
  | 41 => ("KeepCountModel", "inOf", "[I", true)
  | 42 => ("KeepCountModel", "ranks", "[I", true)
  | 43 => ("KeepCountModel", "goneWas", "[Z", true)
  | 44 => ("KeepCountModel", "maniesWere", "[I", true)
  | 45 => ("KeepCountModel", "text", "[I", true)
  | 46 => ("KeepCountModel", "texted", "I", false)
  | 47 => ("KeepCountModel", "at", "I", false)
  | 48 => ("KeepCountModel", "fault", "I", false)
  | 49 => ("KeepCountModel", "clauses", "I", false)
  | 50 => ("KeepCountModel", "begun", "I", false)
  | 51 => ("KeepCountModel", "isNumber", "Z", false)
  | 52 => ("KeepCountModel", "words", "[I", true)
  | 53 => ("KeepCountModel", "firsts", "[I", true)
  | 54 => ("KeepCountModel", "seconds", "[I", true)
  | 55 => ("KeepCountModel", "hasImage", "Z", false)
  | 56 => ("KeepCountModel", "imageNumbers", "[I", true)
  | 57 => ("KeepCountModel", "imageLot", "[I", true)
  | 58 => ("KeepCountModel", "imageRows", "[I", true)
  | 59 => ("KeepCountModel", "imageManies", "[I", true)
  | 60 => ("KeepCountModel", "imageWho", "[I", true)
  | 61 => ("KeepCountModel", "imageWhat", "[I", true)
  | 62 => ("KeepCountModel", "imageOf", "[I", true)
  | 63 => ("KeepCountModel", "imageGone", "[Z", true)
  | 64 => ("KeepCountModel", "imageSo", "[Z", true)
  | 65 => ("KeepCountModel", "tapeSort", "[I", true)
  | 66 => ("KeepCountModel", "lengths", "[I", true)
  | 67 => ("KeepCountModel", "items", "[[J", true)
  | _ => ("KeepCountModel", "passed", "[J", true)
def tyX9 : Nat → FieldType := fun k => match k with
  | 0 => .int
  | 1 => .int
  | 2 => .array .boolean
  | 3 => .array .int
  | 4 => .array .int
  | 5 => .array .int
  | 6 => .int
  | 7 => .int
  | 8 => .int
  | 9 => .int
  | 10 => .int
  | 11 => .array .int
  | 12 => .array .int
  | 13 => .array .int
  | 14 => .array .boolean
  | 15 => .int
  | 16 => .array .int
  | 17 => .array .int
  | 18 => .int
  | 19 => .array .int
  | 20 => .array .int
  | 21 => .array .int
  | 22 => .int
  | 23 => .int
  | 24 => .array .int
  | 25 => .array .int
  | 26 => .array .int
  | 27 => .array .int
  | 28 => .array .long
  | 29 => .long
  | 30 => .long
  | 31 => .long
  | 32 => .long
  | 33 => .array .long
  | 34 => .array .long
  | 35 => .array .long
  | 36 => .array .long
  | 37 => .array .long
  | 38 => .array .int
  | 39 => .array .int
  | 40 => .array .int
  | 41 => .array .int
  | 42 => .array .int
  | 43 => .array .boolean
  | 44 => .array .int
  | 45 => .array .int
  | 46 => .int
  | 47 => .int
  | 48 => .int
  | 49 => .int
  | 50 => .int
  | 51 => .boolean
  | 52 => .array .int
  | 53 => .array .int
  | 54 => .array .int
  | 55 => .boolean
  | 56 => .array .int
  | 57 => .array .int
  | 58 => .array .int
  | 59 => .array .int
  | 60 => .array .int
  | 61 => .array .int
  | 62 => .array .int
  | 63 => .array .boolean
  | 64 => .array .boolean
  | 65 => .array .int
  | 66 => .array .int
  | 67 => .array (.array .long)
  | _ => .array .long
abbrev wsX90 : List Cond := u_ws RX9 TX9 69
theorem nmX9 : ∀ a, a < 69 → ∀ b, b < 69 → a ≠ b → (TX9 a).2.1 ≠ (TX9 b).2.1 := by decide +kernel
theorem tyX9_ok : ∀ k, k < 69 → parseFieldDescriptor (TX9 k).2.2.1 = some (tyX9 k) := by decide +kernel
abbrev cX9_init : ByteArray := prog_11_method_1_code
def yX9_init : MethodName := ⟨RX9, "<init>", "()V"⟩
abbrev cX9_in : ByteArray := prog_11_method_2_code
def yX9_in : MethodName := ⟨RX9, "in", "(JJJ)Z"⟩
abbrev cX9_isOne : ByteArray := prog_11_method_3_code
def yX9_isOne : MethodName := ⟨RX9, "isOne", "(I)Z"⟩
abbrev cX9_isBallot : ByteArray := prog_11_method_4_code
def yX9_isBallot : MethodName := ⟨RX9, "isBallot", "(I)Z"⟩
abbrev cX9_has : ByteArray := prog_11_method_5_code
def yX9_has : MethodName := ⟨RX9, "has", "(II)Z"⟩
abbrev cX9_lengthOf : ByteArray := prog_11_method_6_code
def yX9_lengthOf : MethodName := ⟨RX9, "lengthOf", "(I)I"⟩
abbrev cX9_digitAt : ByteArray := prog_11_method_7_code
def yX9_digitAt : MethodName := ⟨RX9, "digitAt", "(II)I"⟩
abbrev cX9_left : ByteArray := prog_11_method_8_code
def yX9_left : MethodName := ⟨RX9, "left", "(I)I"⟩
abbrev cX9_firstOver : ByteArray := prog_11_method_9_code
def yX9_firstOver : MethodName := ⟨RX9, "firstOver", "(I)I"⟩
abbrev cX9_over : ByteArray := prog_11_method_10_code
def yX9_over : MethodName := ⟨RX9, "over", "(I)I"⟩
abbrev cX9_candidate : ByteArray := prog_11_method_11_code
def yX9_candidate : MethodName := ⟨RX9, "candidate", "()I"⟩
abbrev cX9_isRow : ByteArray := prog_11_method_12_code
def yX9_isRow : MethodName := ⟨RX9, "isRow", "(I)Z"⟩
abbrev cX9_ballot : ByteArray := prog_11_method_13_code
def yX9_ballot : MethodName := ⟨RX9, "ballot", "(II)I"⟩
abbrev cX9_many : ByteArray := prog_11_method_14_code
def yX9_many : MethodName := ⟨RX9, "many", "(II)I"⟩
abbrev cX9_drop : ByteArray := prog_11_method_15_code
def yX9_drop : MethodName := ⟨RX9, "drop", "()I"⟩
abbrev cX9_gone : ByteArray := prog_11_method_16_code
def yX9_gone : MethodName := ⟨RX9, "gone", "(IZ)I"⟩
abbrev cX9_set : ByteArray := prog_11_method_17_code
def yX9_set : MethodName := ⟨RX9, "set", "(II)I"⟩
abbrev cX9_swap : ByteArray := prog_11_method_18_code
def yX9_swap : MethodName := ⟨RX9, "swap", "(II)I"⟩
abbrev cX9_lotOf : ByteArray := prog_11_method_19_code
def yX9_lotOf : MethodName := ⟨RX9, "lotOf", "(I)I"⟩
abbrev cX9_keyOf : ByteArray := prog_11_method_20_code
def yX9_keyOf : MethodName := ⟨RX9, "keyOf", "(I)I"⟩
abbrev cX9_comesTo : ByteArray := prog_11_method_21_code
def yX9_comesTo : MethodName := ⟨RX9, "comesTo", "(II)V"⟩
abbrev cX9_tellPiles : ByteArray := prog_11_method_22_code
def yX9_tellPiles : MethodName := ⟨RX9, "tellPiles", "()V"⟩
abbrev cX9_many_ : ByteArray := prog_11_method_23_code
def yX9_many_ : MethodName := ⟨RX9, "many", "(I)I"⟩
abbrev cX9_tellVotes : ByteArray := prog_11_method_24_code
def yX9_tellVotes : MethodName := ⟨RX9, "tellVotes", "()V"⟩
abbrev cX9_isAhead : ByteArray := prog_11_method_25_code
def yX9_isAhead : MethodName := ⟨RX9, "isAhead", "(II)Z"⟩
abbrev cX9_becomesElected : ByteArray := prog_11_method_26_code
def yX9_becomesElected : MethodName := ⟨RX9, "becomesElected", "(I)V"⟩
abbrev cX9_lines : ByteArray := prog_11_method_27_code
def yX9_lines : MethodName := ⟨RX9, "lines", "()V"⟩
abbrev cX9_fills : ByteArray := prog_11_method_28_code
def yX9_fills : MethodName := ⟨RX9, "fills", "()V"⟩
abbrev cX9_keepsAnew : ByteArray := prog_11_method_29_code
def yX9_keepsAnew : MethodName := ⟨RX9, "keepsAnew", "()V"⟩
abbrev cX9_elects : ByteArray := prog_11_method_30_code
def yX9_elects : MethodName := ⟨RX9, "elects", "()Z"⟩
abbrev cX9_tellSurplus : ByteArray := prog_11_method_31_code
def yX9_tellSurplus : MethodName := ⟨RX9, "tellSurplus", "()V"⟩
abbrev cX9_goesRather : ByteArray := prog_11_method_32_code
def yX9_goesRather : MethodName := ⟨RX9, "goesRather", "(II)Z"⟩
abbrev cX9_worst : ByteArray := prog_11_method_33_code
def yX9_worst : MethodName := ⟨RX9, "worst", "()I"⟩
abbrev cX9_endsStage : ByteArray := prog_11_method_34_code
def yX9_endsStage : MethodName := ⟨RX9, "endsStage", "(I)V"⟩
abbrev cX9_goesStage : ByteArray := prog_11_method_35_code
def yX9_goesStage : MethodName := ⟨RX9, "goesStage", "(Z)V"⟩
abbrev cX9_counts : ByteArray := prog_11_method_36_code
def yX9_counts : MethodName := ⟨RX9, "counts", "()V"⟩
abbrev cX9_electedSet : ByteArray := prog_11_method_37_code
def yX9_electedSet : MethodName := ⟨RX9, "electedSet", "()I"⟩
abbrev cX9_firstMany : ByteArray := prog_11_method_38_code
def yX9_firstMany : MethodName := ⟨RX9, "firstMany", "(I)I"⟩
abbrev cX9_of : ByteArray := prog_11_method_39_code
def yX9_of : MethodName := ⟨RX9, "of", "(II)I"⟩
abbrev cX9_ballotOf : ByteArray := prog_11_method_40_code
def yX9_ballotOf : MethodName := ⟨RX9, "ballotOf", "(II)I"⟩
abbrev cX9_rowOf : ByteArray := prog_11_method_41_code
def yX9_rowOf : MethodName := ⟨RX9, "rowOf", "(II)I"⟩
abbrev cX9_told : ByteArray := prog_11_method_42_code
def yX9_told : MethodName := ⟨RX9, "told", "(I)I"⟩
abbrev cX9_isStage : ByteArray := prog_11_method_43_code
def yX9_isStage : MethodName := ⟨RX9, "isStage", "(I)Z"⟩
abbrev cX9_stageOf : ByteArray := prog_11_method_44_code
def yX9_stageOf : MethodName := ⟨RX9, "stageOf", "(II)I"⟩
abbrev cX9_amount : ByteArray := prog_11_method_45_code
def yX9_amount : MethodName := ⟨RX9, "amount", "(II)J"⟩
abbrev cX9_votes : ByteArray := prog_11_method_46_code
def yX9_votes : MethodName := ⟨RX9, "votes", "(III)J"⟩
abbrev cX9_elected : ByteArray := prog_11_method_47_code
def yX9_elected : MethodName := ⟨RX9, "elected", "(I)I"⟩
abbrev cX9_ranksBy : ByteArray := prog_11_method_48_code
def yX9_ranksBy : MethodName := ⟨RX9, "ranksBy", "(III)I"⟩
abbrev cX9_isBefore : ByteArray := prog_11_method_49_code
def yX9_isBefore : MethodName := ⟨RX9, "isBefore", "(III)Z"⟩
abbrev cX9_ranked : ByteArray := prog_11_method_50_code
def yX9_ranked : MethodName := ⟨RX9, "ranked", "(I)I"⟩
abbrev cX9_standing : ByteArray := prog_11_method_51_code
def yX9_standing : MethodName := ⟨RX9, "standing", "(II)I"⟩
abbrev cX9_pile : ByteArray := prog_11_method_52_code
def yX9_pile : MethodName := ⟨RX9, "pile", "(II)I"⟩
abbrev cX9_isTwo : ByteArray := prog_11_method_53_code
def yX9_isTwo : MethodName := ⟨RX9, "isTwo", "(II)Z"⟩
abbrev cX9_preferredTo : ByteArray := prog_11_method_54_code
def yX9_preferredTo : MethodName := ⟨RX9, "preferredTo", "(II)I"⟩
abbrev cX9_preferred : ByteArray := prog_11_method_55_code
def yX9_preferred : MethodName := ⟨RX9, "preferred", "(II)I"⟩
abbrev cX9_isBest : ByteArray := prog_11_method_56_code
def yX9_isBest : MethodName := ⟨RX9, "isBest", "(I)Z"⟩
abbrev cX9_best : ByteArray := prog_11_method_57_code
def yX9_best : MethodName := ⟨RX9, "best", "()I"⟩
abbrev cX9_lowest : ByteArray := prog_11_method_58_code
def yX9_lowest : MethodName := ⟨RX9, "lowest", "(JJI)J"⟩
abbrev cX9_share : ByteArray := prog_11_method_59_code
def yX9_share : MethodName := ⟨RX9, "share", "(III)J"⟩
abbrev cX9_without : ByteArray := prog_11_method_60_code
def yX9_without : MethodName := ⟨RX9, "without", "(I)I"⟩
abbrev cX9_raised : ByteArray := prog_11_method_61_code
def yX9_raised : MethodName := ⟨RX9, "raised", "(II)I"⟩
abbrev cX9_needs : ByteArray := prog_11_method_62_code
def yX9_needs : MethodName := ⟨RX9, "needs", "(II)I"⟩
abbrev cX9_see : ByteArray := prog_11_method_63_code
def yX9_see : MethodName := ⟨RX9, "see", "(IZ)I"⟩
abbrev cX9_isAsSeen : ByteArray := prog_11_method_64_code
def yX9_isAsSeen : MethodName := ⟨RX9, "isAsSeen", "()Z"⟩
abbrev cX9_fits : ByteArray := prog_11_method_65_code
def yX9_fits : MethodName := ⟨RX9, "fits", "(I)I"⟩
abbrev cX9_event : ByteArray := prog_11_method_66_code
def yX9_event : MethodName := ⟨RX9, "event", "(II)I"⟩
abbrev cX9_happens : ByteArray := prog_11_method_67_code
def yX9_happens : MethodName := ⟨RX9, "happens", "(II)V"⟩
abbrev cX9_after : ByteArray := prog_11_method_68_code
def yX9_after : MethodName := ⟨RX9, "after", "()I"⟩
abbrev cX9_feed : ByteArray := prog_11_method_69_code
def yX9_feed : MethodName := ⟨RX9, "feed", "(I)I"⟩
abbrev cX9_signAt : ByteArray := prog_11_method_70_code
def yX9_signAt : MethodName := ⟨RX9, "signAt", "(I)I"⟩
abbrev cX9_fails : ByteArray := prog_11_method_71_code
def yX9_fails : MethodName := ⟨RX9, "fails", "(Z)V"⟩
abbrev cX9_numberRead : ByteArray := prog_11_method_72_code
def yX9_numberRead : MethodName := ⟨RX9, "numberRead", "(I)I"⟩
abbrev cX9_clauseRead : ByteArray := prog_11_method_73_code
def yX9_clauseRead : MethodName := ⟨RX9, "clauseRead", "()V"⟩
abbrev cX9_done : ByteArray := prog_11_method_74_code
def yX9_done : MethodName := ⟨RX9, "done", "(I)I"⟩
abbrev cX9_faulty : ByteArray := prog_11_method_75_code
def yX9_faulty : MethodName := ⟨RX9, "faulty", "()I"⟩
abbrev cX9_read : ByteArray := prog_11_method_76_code
def yX9_read : MethodName := ⟨RX9, "read", "()I"⟩
abbrev cX9_cause : ByteArray := prog_11_method_77_code
def yX9_cause : MethodName := ⟨RX9, "cause", "(II)I"⟩
abbrev cX9_judge : ByteArray := prog_11_method_78_code
def yX9_judge : MethodName := ⟨RX9, "judge", "(III)I"⟩
abbrev cX9_image : ByteArray := prog_11_method_79_code
def yX9_image : MethodName := ⟨RX9, "image", "()I"⟩
abbrev cX9_undo : ByteArray := prog_11_method_80_code
def yX9_undo : MethodName := ⟨RX9, "undo", "()I"⟩
abbrev cX9_count : ByteArray := prog_11_method_81_code
def yX9_count : MethodName := ⟨RX9, "count", "(I)I"⟩
abbrev cX9_isTape : ByteArray := prog_11_method_82_code
def yX9_isTape : MethodName := ⟨RX9, "isTape", "(I)Z"⟩
abbrev cX9_tape : ByteArray := prog_11_method_83_code
def yX9_tape : MethodName := ⟨RX9, "tape", "(III)I"⟩
abbrev cX9_refusal : ByteArray := prog_11_method_84_code
def yX9_refusal : MethodName := ⟨RX9, "refusal", "(II)I"⟩
abbrev cX9_item : ByteArray := prog_11_method_85_code
def yX9_item : MethodName := ⟨RX9, "item", "(IIJ)I"⟩
abbrev cX9_peek : ByteArray := prog_11_method_86_code
def yX9_peek : MethodName := ⟨RX9, "peek", "(II)J"⟩
abbrev cX9_shift : ByteArray := prog_11_method_87_code
def yX9_shift : MethodName := ⟨RX9, "shift", "(IIIII)I"⟩
def RJ9 : String := "java/lang/Math"
def TJ9 : u_T := fun k => match k with
  | _ => ("", "", "", false)
def tyJ9 : Nat → FieldType := fun k => match k with
  | _ => .int
abbrev wsJ90 : List Cond := u_ws RJ9 TJ9 0
theorem nmJ9 : ∀ a, a < 0 → ∀ b, b < 0 → a ≠ b → (TJ9 a).2.1 ≠ (TJ9 b).2.1 := by decide +kernel
theorem tyJ9_ok : ∀ k, k < 0 → parseFieldDescriptor (TJ9 k).2.2.1 = some (tyJ9 k) := by decide +kernel
abbrev cJ9_max_7cf53 : ByteArray := prog_12_method_65_code
def yJ9_max_7cf53 : MethodName := ⟨RJ9, "max", "(II)I"⟩
abbrev cJ9_max_f86c9 : ByteArray := prog_12_method_66_code
def yJ9_max_f86c9 : MethodName := ⟨RJ9, "max", "(JJ)J"⟩
abbrev cJ9_min_f86c9 : ByteArray := prog_12_method_70_code
def yJ9_min_f86c9 : MethodName := ⟨RJ9, "min", "(JJ)J"⟩
def RJ10 : String := "java/lang/System"
def TJ10 : u_T := fun k => match k with
  | _ => ("", "", "", false)
def tyJ10 : Nat → FieldType := fun k => match k with
  | _ => .int
abbrev wsJ100 : List Cond := u_ws RJ10 TJ10 0
theorem nmJ10 : ∀ a, a < 0 → ∀ b, b < 0 → a ≠ b → (TJ10 a).2.1 ≠ (TJ10 b).2.1 := by decide +kernel
theorem tyJ10_ok : ∀ k, k < 0 → parseFieldDescriptor (TJ10 k).2.2.1 = some (tyJ10 k) := by decide +kernel
def RJ7 : String := "java/util/Arrays"
def TJ7 : u_T := fun k => match k with
  | _ => ("", "", "", false)
def tyJ7 : Nat → FieldType := fun k => match k with
  | _ => .int
abbrev wsJ70 : List Cond := u_ws RJ7 TJ7 0
theorem nmJ7 : ∀ a, a < 0 → ∀ b, b < 0 → a ≠ b → (TJ7 a).2.1 ≠ (TJ7 b).2.1 := by decide +kernel
theorem tyJ7_ok : ∀ k, k < 0 → parseFieldDescriptor (TJ7 k).2.2.1 = some (tyJ7 k) := by decide +kernel
abbrev cJ7_fill_d0a16 : ByteArray := prog_14_method_101_code
def yJ7_fill_d0a16 : MethodName := ⟨RJ7, "fill", "([JJ)V"⟩
def RL : String := "KeepCountLaw"
abbrev cL_law : ByteArray := code
def yL_law : MethodName := ⟨RL, "law", "([I)Z"⟩
abbrev vwCl : List vw_C := [(RX0, TX0, 3), (RX1, TX1, 15), (RX3, TX3, 9), (RX4, TX4, 14), (RX5, TX5, 3), (RX6, TX6, 8), (RX7, TX7, 3), (RX8, TX8, 10), (RX9, TX9, 69)]
set_option maxRecDepth 100000 in
theorem inX0 : ∀ w ∈ u_ws RX0 TX0 3, w ∈ lw_tbl := mem_ps [190, 192, 194] (by decide +kernel)
theorem gdX0 : (u_ws RX0 TX0 3).all goodWord = true := by decide +kernel
set_option maxRecDepth 100000 in
theorem inX1 : ∀ w ∈ u_ws RX1 TX1 15, w ∈ lw_tbl := mem_ps [136, 138, 140, 142, 144, 146, 148, 150, 152, 154, 156, 158, 160, 162, 164] (by decide +kernel)
theorem gdX1 : (u_ws RX1 TX1 15).all goodWord = true := by decide +kernel
set_option maxRecDepth 100000 in
theorem inX2 : ∀ w ∈ u_ws RX2 TX2 0, w ∈ lw_tbl := mem_ps [] (by decide +kernel)
theorem gdX2 : (u_ws RX2 TX2 0).all goodWord = true := by decide +kernel
set_option maxRecDepth 100000 in
theorem inX3 : ∀ w ∈ u_ws RX3 TX3 9, w ∈ lw_tbl := mem_ps [231, 233, 235, 237, 239, 241, 243, 245, 247] (by decide +kernel)
theorem gdX3 : (u_ws RX3 TX3 9).all goodWord = true := by decide +kernel
set_option maxRecDepth 100000 in
theorem inX4 : ∀ w ∈ u_ws RX4 TX4 14, w ∈ lw_tbl := mem_ps [271, 273, 275, 277, 279, 281, 283, 285, 287, 289, 291, 293, 295, 297] (by decide +kernel)
theorem gdX4 : (u_ws RX4 TX4 14).all goodWord = true := by decide +kernel
set_option maxRecDepth 100000 in
theorem inX5 : ∀ w ∈ u_ws RX5 TX5 3, w ∈ lw_tbl := mem_ps [369, 371, 373] (by decide +kernel)
theorem gdX5 : (u_ws RX5 TX5 3).all goodWord = true := by decide +kernel
set_option maxRecDepth 100000 in
theorem inX6 : ∀ w ∈ u_ws RX6 TX6 8, w ∈ lw_tbl := mem_ps [320, 322, 324, 326, 328, 330, 332, 334] (by decide +kernel)
theorem gdX6 : (u_ws RX6 TX6 8).all goodWord = true := by decide +kernel
set_option maxRecDepth 100000 in
theorem inX7 : ∀ w ∈ u_ws RX7 TX7 3, w ∈ lw_tbl := mem_ps [349, 351, 353] (by decide +kernel)
theorem gdX7 : (u_ws RX7 TX7 3).all goodWord = true := by decide +kernel
set_option maxRecDepth 100000 in
theorem inX8 : ∀ w ∈ u_ws RX8 TX8 10, w ∈ lw_tbl := mem_ps [386, 388, 390, 392, 394, 396, 398, 400, 402, 404] (by decide +kernel)
theorem gdX8 : (u_ws RX8 TX8 10).all goodWord = true := by decide +kernel
set_option maxRecDepth 100000 in
theorem inX9 : ∀ w ∈ u_ws RX9 TX9 69, w ∈ lw_tbl := mem_ps [917, 919, 921, 923, 925, 927, 929, 931, 933, 935, 937, 939, 941, 943, 945, 947, 949, 951, 953, 955, 957, 959, 961, 963, 965, 967, 969, 971, 973, 975, 977, 979, 981, 983, 985, 987, 989, 991, 993, 995, 997, 999, 1001, 1003, 1005, 1007, 1009, 1011, 1013, 1015, 1017, 1019, 1021, 1023, 1025, 1027, 1029, 1031, 1033, 1035, 1037, 1039, 1041, 1043, 1045, 1047, 1049, 1051, 1053] (by decide +kernel)
theorem gdX9 : (u_ws RX9 TX9 69).all goodWord = true := by decide +kernel
end
section
section
/-! ===== an abstract machine: cells by index, their contents whole numbers; references are fixed by the layout ===== -/
/-- the tables' words that a method's contract can hand on -/
def xnw : Cond → Bool
  | .fieldLinkNest .. => true
  | .methodLinkNest .. => true
  | _ => false
def xgood : List Cond := lw_tbl.filter goodWord
def xtbl : List Cond := lw_tbl.filter (fun w => goodWord w || xnw w)
theorem at_x {w : Cond} (i : Nat) (h : lw_tbl[i]? = some w) (hg : (goodWord w || xnw w) = true) : w ∈ xtbl := List.mem_filter.mpr ⟨List.mem_of_getElem? h, hg⟩
theorem x_good {w : Cond} (h : w ∈ xtbl) (hg : goodWord w = true) : w ∈ xgood := List.mem_filter.mpr ⟨(List.mem_filter.mp h).1, hg⟩
theorem x_of_good {w : Cond} (h : w ∈ xgood) : w ∈ xtbl ∧ goodWord w = true := ⟨List.mem_filter.mpr ⟨(List.mem_filter.mp h).1, by rw [(List.mem_filter.mp h).2]; rfl⟩, (List.mem_filter.mp h).2⟩
theorem x_ps {ws : List Cond} (hm : ∀ w ∈ ws, w ∈ lw_tbl) (h : ws.all goodWord = true) : ∀ w ∈ ws, w ∈ xtbl := fun w hw => List.mem_filter.mpr ⟨hm w hw, by rw [List.all_eq_true.mp h w hw]; rfl⟩
def XNw (U : State) : Prop := ∀ w ∈ xtbl, xnw w = true → va_Nw w U
theorem XNw.warm {s U : State} (hW : s.WarmedH U.vm) (h : XNw s) : XNw U := by
  intro w hw hn
  have h2 := h w hw hn
  cases w <;> first | exact va_Nw.warmF hW h2 | exact va_Nw.warmM hW h2 | (cases hn)
theorem XNw.same {u U : State} (hv : u.vm = U.vm) (h : XNw u) : XNw U := by
  intro w hw hn
  have h2 := h w hw hn
  cases w <;> first | exact va_Nw.same rfl hv h2 | (cases hn)
theorem XNw.of {s : State} {args : Array Value} (h : ∀ w ∈ xtbl, w.before args s = true) : XNw s := by
  intro w hw hn
  have h2 := h w hw
  cases w <;> first | exact va_Nw.of rfl h2 | (cases hn)
theorem XNw.all {s : State} {args : Array Value} (h : XNw s) (hg : ∀ w ∈ xgood, w.before args s = true) : ∀ w ∈ xtbl, w.before args s = true := by
  intro w hw
  rcases Bool.or_eq_true_iff.mp (List.mem_filter.mp hw).2 with g | g
  · exact hg w (x_good hw g)
  · have h2 := h w hw g
    cases w <;> first | exact va_Nw.use rfl h2 | (cases g)
abbrev XV : Type := Int ⊕ (Int ⊕ Option Nat)
def XI (v : Int) : XV := .inl v
def XL (v : Int) : XV := .inr (.inl v)
def XR (a : Nat) : XV := .inr (.inr (some a))
def XN : XV := .inr (.inr none)
abbrev Mem : Type := Nat → Nat → Int
/-- launch, classes' numbers, addresses, array classes, the script's length and values -/
abbrev XC : Type := Launch × va_G × (Nat → Nat) × (Nat → ClassId) × Nat × (Nat → Int32)
abbrev XC.ad (X : XC) : Nat → Nat := X.2.2.1
abbrev XC.ca (X : XC) : Nat → ClassId := X.2.2.2.1
/-- a method: name, bytes, locals, what it returns -/
abbrev XY : Type := MethodName × ByteArray × Nat × Option FieldType
def xc (ad : Nat → Nat) (v : XV) : Value := match v with
  | .inl v => .int (Int32.ofInt v)
  | .inr (.inl v) => .long (Int64.ofInt v)
  | .inr (.inr (some a)) => .ref (ad a)
  | .inr (.inr none) => .null
def i32 (v : Int) : Prop := -2147483648 ≤ v ∧ v ≤ 2147483647
def i64 (v : Int) : Prop := -9223372036854775808 ≤ v ∧ v ≤ 9223372036854775807
def xok (v : XV) : Prop := match v with
  | .inl v => i32 v
  | .inr (.inl v) => i64 v
  | _ => True
def xlong (v : XV) : Bool := match v with
  | .inr (.inl _) => true
  | _ => false
def wr (M : Mem) (a j : Nat) (v : Int) : Mem := fun b k => if b = a ∧ k = j then v else M b k
def cpM (M : Mem) (a i b j n : Nat) : Mem := fun x k => if x = b ∧ j ≤ k ∧ k < j + n then M a (i + (k - j)) else M x k
/-- the layout: index, kind (1 int, 2 long, 3 boolean, 4 Stage, 5 Tape, 6 rows of longs; 10 + its class an object), length -/
def shL : List (Nat × Nat × Nat) := [(10, 17, 10), (20, 5, 6), (56, 14, 3), (59, 2, 60), (72, 14, 3), (75, 2, 60), (88, 14, 3), (91, 2, 60), (104, 14, 3), (107, 2, 60), (120, 14, 3), (123, 2, 60), (136, 14, 3), (139, 2, 60), (210, 15, 8), (212, 1, 100), (214, 1, 12), (215, 1, 12), (216, 1, 12), (310, 16, 3), (312, 1, 3), (313, 1, 3), (1000, 13, 14), (1003, 1, 8), (1004, 1, 8), (1005, 1, 8), (1009, 4, 8), (1010, 2, 8), (1011, 2, 8), (1020, 10, 3), (1022, 1, 25), (1023, 1, 25), (1045, 12, 9), (1053, 2, 8), (1054, 2, 8), (1061, 12, 9), (1069, 2, 8), (1070, 2, 8), (1077, 12, 9), (1085, 2, 8), (1086, 2, 8), (1093, 12, 9), (1101, 2, 8), (1102, 2, 8), (1109, 12, 9), (1117, 2, 8), (1118, 2, 8), (1125, 12, 9), (1133, 2, 8), (1134, 2, 8), (1141, 12, 9), (1149, 2, 8), (1150, 2, 8), (1157, 12, 9), (1165, 2, 8), (1166, 2, 8), (2000, 13, 14), (2003, 1, 8), (2004, 1, 8), (2005, 1, 8), (2009, 4, 8), (2010, 2, 8), (2011, 2, 8), (2020, 10, 3), (2022, 1, 25), (2023, 1, 25), (2045, 12, 9), (2053, 2, 8), (2054, 2, 8), (2061, 12, 9), (2069, 2, 8), (2070, 2, 8), (2077, 12, 9), (2085, 2, 8), (2086, 2, 8), (2093, 12, 9), (2101, 2, 8), (2102, 2, 8), (2109, 12, 9), (2117, 2, 8), (2118, 2, 8), (2125, 12, 9), (2133, 2, 8), (2134, 2, 8), (2141, 12, 9), (2149, 2, 8), (2150, 2, 8), (2157, 12, 9), (2165, 2, 8), (2166, 2, 8), (11000, 11, 15), (11002, 1, 8), (11003, 3, 8), (11005, 1, 25), (11006, 1, 25), (11011, 1, 5), (11012, 3, 5), (11014, 1, 8), (11015, 1, 8), (12000, 11, 15), (12002, 1, 8), (12003, 3, 8), (12005, 1, 25), (12006, 1, 25), (12011, 1, 5), (12012, 3, 5), (12014, 1, 8), (12015, 1, 8), (13000, 11, 15), (13002, 1, 8), (13003, 3, 8), (13005, 1, 25), (13006, 1, 25), (13011, 1, 5), (13012, 3, 5), (13014, 1, 8), (13015, 1, 8), (20000, 18, 69), (20003, 3, 8), (20004, 1, 8), (20005, 1, 25), (20006, 1, 25), (20012, 1, 5), (20013, 1, 8), (20014, 1, 8), (20015, 3, 5), (20017, 1, 3), (20018, 1, 3), (20020, 1, 25), (20021, 1, 25), (20022, 1, 25), (20025, 1, 8), (20026, 1, 8), (20027, 1, 8), (20028, 1, 8), (20029, 2, 8), (20034, 2, 72), (20035, 2, 9), (20036, 2, 9), (20037, 2, 9), (20038, 2, 9), (20039, 1, 72), (20040, 1, 9), (20041, 1, 9), (20042, 1, 9), (20043, 1, 8), (20044, 3, 8), (20045, 1, 25), (20046, 1, 100), (20053, 1, 12), (20054, 1, 12), (20055, 1, 12), (20057, 1, 7), (20058, 1, 8), (20059, 1, 25), (20060, 1, 25), (20061, 1, 5), (20062, 1, 8), (20063, 1, 8), (20064, 3, 8), (20065, 3, 5), (20066, 1, 6), (20067, 1, 6), (20068, 6, 6), (20069, 2, 60), (20104, 2, 60), (20120, 2, 60), (20136, 2, 60), (20152, 2, 60), (20168, 2, 60), (20184, 2, 60)]
/-- fields: kind (0 int, 1 long, 2 boolean, 3 a reference), how far on -/
def fkL : List (List (Nat × Nat)) := [[(0, 0), (3, 2), (3, 3)],
  [(0, 0), (3, 2), (3, 3), (0, 0), (3, 5), (3, 6), (0, 0), (0, 0), (0, 0), (0, 0), (3, 11), (3, 12), (0, 0), (3, 14), (3, 15)],
  [(0, 0), (0, 0), (0, 0), (1, 0), (1, 0), (1, 0), (1, 0), (3, 8), (3, 9)],
  [(3, 10000), (3, 20), (3, 3), (3, 4), (3, 5), (0, 0), (0, 0), (0, 0), (3, 9), (3, 10), (3, 11), (1, 0), (1, 0), (1, 0)],
  [(0, 0), (0, 0), (3, 3)],
  [(0, 0), (3, 2), (0, 0), (3, 4), (3, 5), (3, 6), (0, 0), (2, 0)],
  [(0, 0), (3, 2), (3, 3)],
  [(3, 10990), (3, 11990), (3, 12990), (2, 0), (3, 990), (3, 1990), (2, 0), (3, 200), (3, 300), (3, 10)],
  [(0, 0), (0, 0), (3, 3), (3, 4), (3, 5), (3, 6), (0, 0), (0, 0), (0, 0), (0, 0), (0, 0), (3, 12), (3, 13), (3, 14), (3, 15), (0, 0), (3, 17), (3, 18), (0, 0), (3, 20), (3, 21), (3, 22), (0, 0), (0, 0), (3, 25), (3, 26), (3, 27), (3, 28), (3, 29), (1, 0), (1, 0), (1, 0), (1, 0), (3, 34), (3, 35), (3, 36), (3, 37), (3, 38), (3, 39), (3, 40), (3, 41), (3, 42), (3, 43), (3, 44), (3, 45), (3, 46), (0, 0), (0, 0), (0, 0), (0, 0), (0, 0), (2, 0), (3, 53), (3, 54), (3, 55), (2, 0), (3, 57), (3, 58), (3, 59), (3, 60), (3, 61), (3, 62), (3, 63), (3, 64), (3, 65), (3, 66), (3, 67), (3, 68), (3, 69)]]
def shF : List (Nat × Nat × Nat) → Nat → Nat × Nat
  | [], _ => (9, 0)
  | (a, k) :: r, i => if i = a then k else shF r i
def Sh (i : Nat) : Nat × Nat := shF shL i
def FK (ci k : Nat) : Nat × Nat := (fkL.getD ci []).getD k (9, 0)
def xfv (ad : Nat → Nat) (M : Mem) (i ci k : Nat) : Value := match (FK ci k).1 with
  | 0 => .int (Int32.ofInt (M i k))
  | 1 => .long (Int64.ofInt (M i k))
  | 2 => .int (Int32.ofInt (M i k))
  | _ => .ref (ad (i + (FK ci k).2))
def xrf (ad : Nat → Nat) (i n j : Nat) : Option Nat := if j < n then some (ad (i + 36 + 16 * j)) else none
def xcont (X : XC) (M : Mem) (i : Nat) : va_E := match (Sh i).1 with
  | 1 => .inl (X.ca 0, (Sh i).2, .inl (fun j => Int32.ofInt (M i j)))
  | 2 => .inl (X.ca 1, (Sh i).2, .inr (.inl (fun j => Int64.ofInt (M i j))))
  | 3 => .inl (X.ca 2, (Sh i).2, .inl (fun j => Int32.ofInt (M i j)))
  | 4 => .inl (X.ca 3, (Sh i).2, .inr (.inr (.inr (.inr (xrf X.ad i (Sh i).2)))))
  | 5 => .inl (X.ca 4, (Sh i).2, .inr (.inr (.inr (.inr (xrf X.ad i (Sh i).2)))))
  | 6 => .inl (X.ca 5, (Sh i).2, .inr (.inr (.inr (.inr (xrf X.ad i (Sh i).2)))))
  | k => .inr (k - 10, (List.range (Sh i).2).map (xfv X.ad M i (k - 10)))
def xkind (i j : Nat) : Nat := match (Sh i).1 with
  | 1 => 0
  | 2 => 1
  | 3 => 2
  | 4 => 9
  | 5 => 9
  | 6 => 9
  | k => if 10 ≤ k then (FK (k - 10) j).1 else 9
def xrg (k : Nat) (v : Int) : Prop := match k with
  | 0 => i32 v
  | 1 => i64 v
  | 2 => v = 0 ∨ v = 1
  | _ => True
def MR (M : Mem) : Prop := ∀ i j, xrg (xkind i j) (M i j)
def xcells : List Nat := shL.map (·.1)
def wsM (X : XC) (M : Mem) : va_W := xcells.map (fun i => (X.ad i, xcont X M i))
def XA (X : XC) : Nat → Prop := fun q => ∃ i, i ∈ xcells ∧ q = X.ad i
def XInj (X : XC) : Prop := ∀ i j, i ∈ xcells → j ∈ xcells → X.ad i = X.ad j → i = j
def xtys (X : XC) : List (ClassId × FieldType) := [(X.ca 0, .int), (X.ca 1, .long), (X.ca 2, .boolean), (X.ca 3, .object "KeepCount$Stage"), (X.ca 4, .object "KeepCount$Tape"), (X.ca 5, .array .long)]
def xpl (j : Nat) : Int := ([10000000, 1000000, 100000, 10000, 1000, 100, 10, 1] : List Int).getD j 0
/-- what never changes: the static PLACES (index 7), the script (index 5) -/
def XSt (X : XC) (U : State) (H : Heap) : Prop := va_Z "KeepCount" "PLACES" "[I" (.ref (X.ad 7)) (XA X) U H ∧ va_T .int (X.ad 7) 8 (fun j => .int (Int32.ofInt (xpl j))) (XA X) U H ∧ va_X (X.ad 5) X.2.2.2.2.1 X.2.2.2.2.2 U H ∧ X.ad 5 < H.size ∧ ¬ XA X (X.ad 5)
def xls (X : XC) (ls : List (Nat × XV)) : List (Nat × Value) := ls.map (fun q => (q.1, xc X.ad q.2))
def xst (X : XC) (st : List XV) : List Value := st.map (xc X.ad)
def XCtx (X : XC) (Y : XY) (d : Nat) (p : Program) (R : Room) (s : State) (m : MethodId) (args : Array Value) (meth : Method) (c : Code) (cells slots : Nat) : Prop :=
  p.tables.exec = Jvm.exec ∧ c.code = Y.2.1 ∧ c.maxLocals = Y.2.2.1 ∧ s.vm.findClass Y.1.cls = some m.cls ∧ (∀ w ∈ xtbl, w.before args s = true) ∧ va_K X.2.1 vwCl (xtys X) s ∧ XInj X ∧ XSt X s s.heap ∧ d ≤ R.frames ∧ 37 * d ≤ R.locals ∧ cells ≤ R.cells ∧ slots ≤ R.slots
def XRet (Y : XY) (pc : Nat) (r : Option XV) : Prop := match r with
  | none => decode Y.2.1 pc = .ok (.return_, 1) ∧ Y.2.2.2 = none
  | some (.inl v) => decode Y.2.1 pc = .ok (.ireturn, 1) ∧ (Y.2.2.2 = some .int ∨ (Y.2.2.2 = some .boolean ∧ (v = 0 ∨ v = 1)))
  | some (.inr (.inl _)) => decode Y.2.1 pc = .ok (.lreturn, 1) ∧ Y.2.2.2 = some .long
  | some (.inr (.inr _)) => decode Y.2.1 pc = .ok (.areturn, 1) ∧ ∃ n, Y.2.2.2 = some (.object n)
def XF (X : XC) (M : Mem) (s : State) (H : Heap) (locs : List Loc) : Prop := va_P X.2.1 vwCl (wsM X M) H ∧ va_S (XA X) s.heap H locs
/-- from here the method ends, and what it answers and leaves is as Post says -/
def Go (X : XC) (Y : XY) (d pc : Nat) (ls : List (Nat × XV)) (st : List XV) (M : Mem) (Post : Option XV → Mem → Prop) : Prop :=
  (∀ q ∈ ls, xok q.2) → (∀ v ∈ st, xok v) → MR M →
  ∀ (p : Program) (e : Env) (R : Room) (s : State) (m : MethodId) (args : Array Value) (below : List Frame) (meth : Method) (c : Code) (cells slots : Nat) (Q : State → Prop) (H : Heap) (locs : List Loc) (lsA : Array Slot),
    XCtx X Y d p R s m args meth c cells slots → XF X M s H locs → lv_has lsA Y.2.2.1 (xls X ls) →
    (∀ (r : Option XV) (M' : Mem) (H' : Heap) (locs' : List Loc) (pc' : Nat) (lsA' : Array Slot), Post r M' → XRet Y pc' r → (∀ v ∈ r, xok v) → MR M' → XF X M' s H' locs' →
      W p X.1 e R s m args below meth c H' locs' cells slots Q (F0 m pc' lsA' (xst X r.toList))) →
    W p X.1 e R s m args below meth c H locs cells slots Q (F0 m pc lsA (xst X st))
def xrm (d : Nat) : Room := { frames := d, cells := 0, slots := 0, locals := 37 * d }
def xws (Y : XY) : List Cond := .code Y.1 Y.2.1 Y.2.2.1 Y.2.2.2 :: xgood
def Wd (X : XC) (M : Mem) (U : State) : Prop := va_P X.2.1 vwCl (wsM X M) U.heap ∧ va_K X.2.1 vwCl (xtys X) U ∧ XInj X ∧ XSt X U U.heap ∧ XNw U
def QP (X : XC) (Post : Option XV → Mem → Prop) : Array Value → State → Outcome → State → Prop := fun _ st o t =>
  ∃ (r : Option XV) (M' : Mem), Post r M' ∧ (∀ v ∈ r, xok v) ∧ MR M' ∧ o = .returned (r.map (xc X.ad)) ∧ va_P X.2.1 vwCl (wsM X M') t.heap ∧ va_F (XA X) st t
/-- a method's contract: called with as at M, it ends as Post says -/
def Ct (X : XC) (Y : XY) (d : Nat) (as : List XV) (M : Mem) (Post : Option XV → Mem → Prop) : Prop :=
  (∀ v ∈ as, xok v) → MR M → Met X.1 Y.1 (xws Y) (xrm d) (va_Pc (as.map (xc X.ad)) (Wd X M)) (QP X Post) 0 0 (XA X)
/-! ===== numbers ===== -/
theorem i32_eq {v : Int} (h : i32 v) : (Int32.ofInt v).toInt = v := Int32.toInt_ofInt_of_le (by have := h.1; omega) (by have := h.2; omega)
theorem i64_eq {v : Int} (h : i64 v) : (Int64.ofInt v).toInt = v := Int64.toInt_ofInt_of_le (by have := h.1; omega) (by have := h.2; omega)
theorem i32_lt {a b : Int} (ha : i32 a) (hb : i32 b) : Int32.ofInt a < Int32.ofInt b ↔ a < b := by rw [Int32.lt_iff_toInt_lt, i32_eq ha, i32_eq hb]
theorem i32_le {a b : Int} (ha : i32 a) (hb : i32 b) : Int32.ofInt a ≤ Int32.ofInt b ↔ a ≤ b := by rw [Int32.le_iff_toInt_le, i32_eq ha, i32_eq hb]
theorem i32_inj {a b : Int} (ha : i32 a) (hb : i32 b) : Int32.ofInt a = Int32.ofInt b ↔ a = b := by rw [← Int32.toInt_inj, i32_eq ha, i32_eq hb]
theorem i64_lt {a b : Int} (ha : i64 a) (hb : i64 b) : Int64.ofInt a < Int64.ofInt b ↔ a < b := by rw [Int64.lt_iff_toInt_lt, i64_eq ha, i64_eq hb]
theorem i64_inj {a b : Int} (ha : i64 a) (hb : i64 b) : Int64.ofInt a = Int64.ofInt b ↔ a = b := by rw [← Int64.toInt_inj, i64_eq ha, i64_eq hb]
theorem i32_0 : i32 0 := by constructor <;> decide
theorem i32_to (x : Int32) : i32 x.toInt := ⟨by have := Int32.le_toInt x; omega, by have := Int32.toInt_lt x; omega⟩
theorem i64_to (x : Int64) : i64 x.toInt := ⟨by have := Int64.le_toInt x; omega, by have := Int64.toInt_lt x; omega⟩
theorem i32_64 {v : Int} (h : i32 v) : i64 v := ⟨by have := h.1; omega, by have := h.2; omega⟩
theorem i32_nat {v : Int} (h : i32 v) (h0 : 0 ≤ v) : (Int32.ofInt v).toNatClampNeg = v.toNat := by
  show (Int32.ofInt v).toInt.toNat = _
  rw [i32_eq h]
theorem i32_vin {v : Int} {n : Nat} (h : i32 v) (h0 : 0 ≤ v) (hn : v < n) : vp_in (Int32.ofInt v) n := vp_in_iff.mpr (by rw [i32_eq h]; exact ⟨h0, hn⟩)
/-! ===== the world by index ===== -/
theorem shF_mem : ∀ (l : List (Nat × Nat × Nat)) (i : Nat), (shF l i).1 ≠ 9 → i ∈ l.map (·.1)
  | [], i, h => absurd rfl h
  | (a, k) :: r, i, h => by
    by_cases e : i = a
    · subst e; exact List.mem_cons_self
    · have h2 : (shF r i).1 ≠ 9 := by
        intro q
        apply h
        show (if i = a then k else shF r i).1 = 9
        rw [if_neg e]
        exact q
      exact List.mem_cons_of_mem _ (shF_mem r i h2)
theorem Sh_mem {i k n : Nat} (h : Sh i = (k, n)) (hk : k ≠ 9) : i ∈ xcells := shF_mem shL i (by show (Sh i).1 ≠ 9; rw [h]; exact hk)
theorem xcells_nd : va_nd xcells = true := by decide +kernel
theorem xat {i : Nat} (h : i ∈ xcells) : ∃ q : Nat, xcells[q]? = some i := List.getElem?_of_mem h
theorem ws_at (X : XC) (M : Mem) {q i : Nat} (h : xcells[q]? = some i) : (wsM X M)[q]? = some (X.ad i, xcont X M i) := by
  rw [wsM, List.getElem?_map, h]; rfl
theorem ws_set (X : XC) {M M' : Mem} {q i : Nat} (h : xcells[q]? = some i) (ho : ∀ j, j ≠ i → M' j = M j) : (wsM X M).set q (X.ad i, xcont X M' i) = wsM X M' := by
  have hl : q < xcells.length := (List.getElem?_eq_some_iff.mp h).1
  apply List.ext_getElem?
  intro k
  by_cases hk : k = q
  · subst hk
    rw [List.getElem?_set_self (by rw [wsM, List.length_map]; exact hl), ws_at X M' h]
  · rw [List.getElem?_set_ne (Ne.symm hk), wsM, wsM, List.getElem?_map, List.getElem?_map]
    cases hj : xcells[k]? with
    | none => rfl
    | some j =>
      have hne : j ≠ i := fun e => hk (va_nd_inj xcells xcells_nd k q i (e ▸ hj) h)
      show some (X.ad j, xcont X M j) = some (X.ad j, xcont X M' j)
      have he : xcont X M j = xcont X M' j := by
        have this := ho j hne
        have hx : ∀ ci, xfv X.ad M j ci = xfv X.ad M' j ci := fun ci => by funext k; simp only [xfv, this]
        simp only [xcont, this, hx]
      rw [he]
theorem wsD (X : XC) (M : Mem) (h : XInj X) : va_D (XA X) (wsM X M) := by
  have key : ∀ (k : Nat) (q : Nat × va_E), (wsM X M)[k]? = some q → ∃ i, xcells[k]? = some i ∧ q = (X.ad i, xcont X M i) := by
    intro k q hk
    rw [wsM, List.getElem?_map] at hk
    cases hi : xcells[k]? with
    | none => rw [hi] at hk; cases hk
    | some i => rw [hi] at hk; exact ⟨i, rfl, (Option.some.inj hk).symm⟩
  refine ⟨fun i j p q hi hj e => ?_, fun k q hk => ?_⟩
  · obtain ⟨a, ha, rfl⟩ := key i p hi
    obtain ⟨b, hb, rfl⟩ := key j q hj
    have hab : a = b := h a b (List.mem_of_getElem? ha) (List.mem_of_getElem? hb) e
    subst hab
    exact va_nd_inj xcells xcells_nd i j a ha hb
  · obtain ⟨a, ha, rfl⟩ := key k q hk
    exact ⟨a, List.mem_of_getElem? ha, rfl⟩
theorem xcont1 (X : XC) (M : Mem) {i n : Nat} (h : Sh i = (1, n)) : xcont X M i = .inl (X.ca 0, n, .inl (fun j => Int32.ofInt (M i j))) := by simp only [xcont, h]
theorem xcont2 (X : XC) (M : Mem) {i n : Nat} (h : Sh i = (2, n)) : xcont X M i = .inl (X.ca 1, n, .inr (.inl (fun j => Int64.ofInt (M i j)))) := by simp only [xcont, h]
theorem xcont3 (X : XC) (M : Mem) {i n : Nat} (h : Sh i = (3, n)) : xcont X M i = .inl (X.ca 2, n, .inl (fun j => Int32.ofInt (M i j))) := by simp only [xcont, h]
theorem xcont4 (X : XC) (M : Mem) {i n : Nat} (h : Sh i = (4, n)) : xcont X M i = .inl (X.ca 3, n, .inr (.inr (.inr (.inr (xrf X.ad i n))))) := by simp only [xcont, h]
theorem xcont5 (X : XC) (M : Mem) {i n : Nat} (h : Sh i = (5, n)) : xcont X M i = .inl (X.ca 4, n, .inr (.inr (.inr (.inr (xrf X.ad i n))))) := by simp only [xcont, h]
theorem xcont6 (X : XC) (M : Mem) {i n : Nat} (h : Sh i = (6, n)) : xcont X M i = .inl (X.ca 5, n, .inr (.inr (.inr (.inr (xrf X.ad i n))))) := by simp only [xcont, h]
theorem xcontO (X : XC) (M : Mem) {i ci n : Nat} (h : Sh i = (10 + ci, n)) : xcont X M i = .inr (ci, (List.range n).map (xfv X.ad M i ci)) := by
  have e : 10 + ci - 10 = ci := by omega
  have h1 : 10 + ci ≠ 1 := by omega
  have h2 : 10 + ci ≠ 2 := by omega
  have h3 : 10 + ci ≠ 3 := by omega
  have h4 : 10 + ci ≠ 4 := by omega
  have h5 : 10 + ci ≠ 5 := by omega
  have h6 : 10 + ci ≠ 6 := by omega
  unfold xcont
  rw [h]
  dsimp only
  split <;> first | contradiction | (rw [e])
end
end
section
section
theorem go_stp {X : XC} {Y : XY} {d pc pc' : Nat} {ls : List (Nat × XV)} {st st' : List XV} {M : Mem} {Post : Option XV → Mem → Prop}
    (h : ∀ {p : Program} {e : Env} {R : Room} {s : State} {m : MethodId} {args : Array Value} {below : List Frame} {meth : Method} {c : Code} {cells slots : Nat} {Q : State → Prop} {H : Heap} {locs : List Loc} {lsA : Array Slot}, p.tables.exec = Jvm.exec → c.code = Y.2.1 → s.vm.findClass Y.1.cls = some m.cls → (∀ w ∈ xtbl, w.before args s = true) → lv_has lsA Y.2.2.1 (xls X ls) → (∀ q ∈ ls, xok q.2) → (∀ v ∈ st, xok v) →
      W p X.1 e R s m args below meth c H locs cells slots Q (F0 m pc' lsA (xst X st')) → W p X.1 e R s m args below meth c H locs cells slots Q (F0 m pc lsA (xst X st)))
    (hok : (∀ q ∈ ls, xok q.2) → (∀ v ∈ st, xok v) → ∀ v ∈ st', xok v) (k : Go X Y d pc' ls st' M Post) : Go X Y d pc ls st M Post := by
  intro o1 o2 o3 p e R s m args below meth c cells slots Q H locs lsA C F hl K
  exact h C.1 C.2.1 C.2.2.2.1 C.2.2.2.2.1 hl o1 o2 (k o1 (hok o1 o2) o3 p e R s m args below meth c cells slots Q H locs lsA C F hl K)
variable {X : XC} {Y : XY} {d pc : Nat} {ls ls' : List (Nat × XV)} {st : List XV} {M : Mem} {Post : Option XV → Mem → Prop}
theorem ok_c {v : XV} {st : List XV} (h : xok v) (hs : ∀ w ∈ st, xok w) : ∀ w ∈ v :: st, xok w := List.forall_mem_cons.mpr ⟨h, hs⟩
theorem ok_cI {v : Int} {st : List XV} (h : i32 v) (hs : ∀ w ∈ st, xok w) : ∀ w ∈ XI v :: st, xok w := ok_c h hs
theorem ok_cL {v : Int} {st : List XV} (h : i64 v) (hs : ∀ w ∈ st, xok w) : ∀ w ∈ XL v :: st, xok w := ok_c h hs
theorem ok_cN {st : List XV} (hs : ∀ w ∈ st, xok w) : ∀ w ∈ XN :: st, xok w := ok_c (v := XN) True.intro hs
theorem ok_cR {a : Nat} {st : List XV} (hs : ∀ w ∈ st, xok w) : ∀ w ∈ XR a :: st, xok w := ok_c (v := XR a) True.intro hs
theorem ok_hI {v : Int} {st : List XV} (h : ∀ w ∈ XI v :: st, xok w) : i32 v := h _ List.mem_cons_self
theorem ok_hL {v : Int} {st : List XV} (h : ∀ w ∈ XL v :: st, xok w) : i64 v := h _ List.mem_cons_self
theorem ok_h {v : XV} {st : List XV} (h : ∀ w ∈ v :: st, xok w) : xok v := h v List.mem_cons_self
theorem ok_t {v : XV} {st : List XV} (h : ∀ w ∈ v :: st, xok w) : ∀ w ∈ st, xok w := fun w hw => h w (List.mem_cons_of_mem _ hw)
-- constants
theorem g_iconst {n v : Int} (hd : decode Y.2.1 pc = .ok (.iconst n, 1)) (hv : n = v) (ho : i32 v) (k : Go X Y d (pc + 1) ls (XI v :: st) M Post) : Go X Y d pc ls st M Post :=
  go_stp (fun hx hb _ _ _ _ _ q => lv_iconst hx hb hd (by rw [hv]) q) (fun _ h => ok_cI ho h) k
theorem g_bipush {n v : Int} (hd : decode Y.2.1 pc = .ok (.bipush n, 2)) (hv : (Int8.ofInt n).toInt32 = Int32.ofInt v) (ho : i32 v) (k : Go X Y d (pc + 2) ls (XI v :: st) M Post) : Go X Y d pc ls st M Post :=
  go_stp (fun hx hb _ _ _ _ _ q => lv_bipush hx hb hd hv q) (fun _ h => ok_cI ho h) k
theorem g_sipush {n v : Int} (hd : decode Y.2.1 pc = .ok (.sipush n, 3)) (hv : (Int16.ofInt n).toInt32 = Int32.ofInt v) (ho : i32 v) (k : Go X Y d (pc + 3) ls (XI v :: st) M Post) : Go X Y d pc ls st M Post :=
  go_stp (fun hx hb _ _ _ _ _ q => lv_sipush hx hb hd hv q) (fun _ h => ok_cI ho h) k
theorem g_lconst {n : Fin 2} {v : Int} (hd : decode Y.2.1 pc = .ok (.lconst n, 1)) (hv : Int64.ofNat n.val = Int64.ofInt v) (ho : i64 v) (k : Go X Y d (pc + 1) ls (XL v :: st) M Post) : Go X Y d pc ls st M Post :=
  go_stp (fun hx hb _ _ _ _ _ q => lv_lconst hx hb hd hv q) (fun _ h => ok_cL ho h) k
theorem g_null (hd : decode Y.2.1 pc = .ok (.aconst_null, 1)) (k : Go X Y d (pc + 1) ls (XN :: st) M Post) : Go X Y d pc ls st M Post :=
  go_stp (fun hx hb _ _ _ _ _ q => lv_null hx hb hd q) (fun _ h => ok_cN h) k
theorem g_ldc {idx : Nat} {v : Int} {w : Int32} (hd : decode Y.2.1 pc = .ok (.ldc idx, 2)) (hw : Cond.constant Y.1.cls idx w ∈ xtbl) (hv : w = Int32.ofInt v) (ho : i32 v) (k : Go X Y d (pc + 2) ls (XI v :: st) M Post) : Go X Y d pc ls st M Post :=
  go_stp (fun hx hb hown hts _ _ _ q => lv_ldc hx hb hown (hts _ (hv ▸ hw)) hd q) (fun _ h => ok_cI ho h) k
theorem g_ldcw {idx : Nat} {v : Int} {w : Int32} (hd : decode Y.2.1 pc = .ok (.ldc_w idx, 3)) (hw : Cond.constant Y.1.cls idx w ∈ xtbl) (hv : w = Int32.ofInt v) (ho : i32 v) (k : Go X Y d (pc + 3) ls (XI v :: st) M Post) : Go X Y d pc ls st M Post :=
  go_stp (fun hx hb hown hts _ _ _ q => lv_ldcw hx hb hown (hts _ (hv ▸ hw)) hd q) (fun _ h => ok_cI ho h) k
theorem g_ldc2 {idx : Nat} {v : Int} {w : Int64} (hd : decode Y.2.1 pc = .ok (.ldc2_w idx, 3)) (hw : Cond.constantLong Y.1.cls idx w ∈ xtbl) (hv : w = Int64.ofInt v) (ho : i64 v) (k : Go X Y d (pc + 3) ls (XL v :: st) M Post) : Go X Y d pc ls st M Post :=
  go_stp (fun hx hb hown hts _ _ _ q => lv_ldc2 hx hb hown (hts _ (hv ▸ hw)) hd q) (fun _ h => ok_cL ho h) k
-- locals
theorem x_lk {lsA : Array Slot} {nL j i : Nat} {v : XV} (hl : lv_has lsA nL (xls X ls)) (h : ls[j]? = some (i, v)) : lsA[i]? = some (.val (xc X.ad v)) := by
  refine lv_at hl j ?_
  rw [xls, List.getElem?_map, h]; rfl
theorem x_lo {j i : Nat} {v : XV} (o : ∀ q ∈ ls, xok q.2) (h : ls[j]? = some (i, v)) : xok v := o (i, v) (List.mem_of_getElem? h)
theorem g_iload_n {n : Fin 4} {v : Int} (j : Nat) (hd : decode Y.2.1 pc = .ok (.iload_n n, 1)) (hl : ls[j]? = some (n.val, XI v)) (k : Go X Y d (pc + 1) ls (XI v :: st) M Post) : Go X Y d pc ls st M Post :=
  go_stp (fun hx hb _ _ hl2 _ _ q => lv_iload_n hx hb hd rfl (x_lk hl2 hl) q) (fun o h => ok_c (x_lo o hl) h) k
theorem g_iload {n : Nat} {v : Int} (j : Nat) (hd : decode Y.2.1 pc = .ok (.iload n, 2)) (hl : ls[j]? = some (n, XI v)) (k : Go X Y d (pc + 2) ls (XI v :: st) M Post) : Go X Y d pc ls st M Post :=
  go_stp (fun hx hb _ _ hl2 _ _ q => lv_iload hx hb hd (x_lk hl2 hl) q) (fun o h => ok_c (x_lo o hl) h) k
theorem g_lload_n {n : Fin 4} {v : Int} (j : Nat) (hd : decode Y.2.1 pc = .ok (.lload_n n, 1)) (hl : ls[j]? = some (n.val, XL v)) (k : Go X Y d (pc + 1) ls (XL v :: st) M Post) : Go X Y d pc ls st M Post :=
  go_stp (fun hx hb _ _ hl2 _ _ q => lv_lload_n hx hb hd rfl (x_lk hl2 hl) q) (fun o h => ok_c (x_lo o hl) h) k
theorem g_lload {n : Nat} {v : Int} (j : Nat) (hd : decode Y.2.1 pc = .ok (.lload n, 2)) (hl : ls[j]? = some (n, XL v)) (k : Go X Y d (pc + 2) ls (XL v :: st) M Post) : Go X Y d pc ls st M Post :=
  go_stp (fun hx hb _ _ hl2 _ _ q => lv_lload hx hb hd (x_lk hl2 hl) q) (fun o h => ok_c (x_lo o hl) h) k
theorem g_aload_n {n : Fin 4} {a : Nat} (j : Nat) (hd : decode Y.2.1 pc = .ok (.aload_n n, 1)) (hl : ls[j]? = some (n.val, XR a)) (k : Go X Y d (pc + 1) ls (XR a :: st) M Post) : Go X Y d pc ls st M Post :=
  go_stp (fun hx hb _ _ hl2 _ _ q => lv_aload_n hx hb hd rfl (x_lk hl2 hl) q) (fun o h => ok_c (x_lo o hl) h) k
theorem g_aload {n : Nat} {a : Nat} (j : Nat) (hd : decode Y.2.1 pc = .ok (.aload n, 2)) (hl : ls[j]? = some (n, XR a)) (k : Go X Y d (pc + 2) ls (XR a :: st) M Post) : Go X Y d pc ls st M Post :=
  go_stp (fun hx hb _ _ hl2 _ _ q => lv_aload hx hb hd (x_lk hl2 hl) q) (fun o h => ok_c (x_lo o hl) h) k
theorem g_aload_nN {n : Fin 4} (j : Nat) (hd : decode Y.2.1 pc = .ok (.aload_n n, 1)) (hl : ls[j]? = some (n.val, XN)) (k : Go X Y d (pc + 1) ls (XN :: st) M Post) : Go X Y d pc ls st M Post :=
  go_stp (fun hx hb _ _ hl2 _ _ q => lv_aload_nN hx hb hd rfl (x_lk hl2 hl) q) (fun o h => ok_c (x_lo o hl) h) k
theorem g_aloadN {n : Nat} (j : Nat) (hd : decode Y.2.1 pc = .ok (.aload n, 2)) (hl : ls[j]? = some (n, XN)) (k : Go X Y d (pc + 2) ls (XN :: st) M Post) : Go X Y d pc ls st M Post :=
  go_stp (fun hx hb _ _ hl2 _ _ q => lv_aloadN hx hb hd (x_lk hl2 hl) q) (fun o h => ok_c (x_lo o hl) h) k
def xs1 (i : Nat) (v : XV) (ls : List (Nat × XV)) : List (Nat × XV) := (i, v) :: ls.filter (fun q => !(q.1 == i) && !(q.1 + 1 == i && xlong q.2))
def xs2 (i : Nat) (v : XV) (ls : List (Nat × XV)) : List (Nat × XV) := (i, v) :: ls.filter (fun q => !(q.1 == i) && (!(q.1 == i + 1) && !(q.1 + 1 == i && xlong q.2)))
theorem xlong_cat (ad : Nat → Nat) (v : XV) : ((xc ad v).category == 2) = xlong v := by
  rcases v with v | v | v | v <;> rfl
theorem xs1_eq (X : XC) (i : Nat) (v : XV) (ls : List (Nat × XV)) : (i, xc X.ad v) :: (xls X ls).filter (fun q => !(q.1 == i) && !(q.1 + 1 == i && q.2.category == 2)) = xls X (xs1 i v ls) := by
  rw [xs1, xls, xls, List.map_cons, List.filter_map]
  congr 2
  apply List.filter_congr
  intro q _
  simp only [Function.comp, xlong_cat]
theorem xs2_eq (X : XC) (i : Nat) (v : XV) (ls : List (Nat × XV)) : (i, xc X.ad v) :: (xls X ls).filter (fun q => !(q.1 == i) && (!(q.1 == i + 1) && !(q.1 + 1 == i && q.2.category == 2))) = xls X (xs2 i v ls) := by
  rw [xs2, xls, xls, List.map_cons, List.filter_map]
  congr 2
  apply List.filter_congr
  intro q _
  simp only [Function.comp, xlong_cat]
theorem xs1_ok {i : Nat} {v : XV} (o : ∀ q ∈ ls, xok q.2) (h : xok v) : ∀ q ∈ xs1 i v ls, xok q.2 := fun q hq => (List.mem_cons.mp hq).elim (fun e => e ▸ h) (fun hq => o q (List.mem_filter.mp hq).1)
theorem xs2_ok {i : Nat} {v : XV} (o : ∀ q ∈ ls, xok q.2) (h : xok v) : ∀ q ∈ xs2 i v ls, xok q.2 := fun q hq => (List.mem_cons.mp hq).elim (fun e => e ▸ h) (fun hq => o q (List.mem_filter.mp hq).1)
theorem go_str {X : XC} {Y : XY} {d pc pc' : Nat} {ls ls' : List (Nat × XV)} {st st' : List XV} {M : Mem} {Post : Option XV → Mem → Prop}
    (h : ∀ {p : Program} {e : Env} {R : Room} {s : State} {m : MethodId} {args : Array Value} {below : List Frame} {meth : Method} {c : Code} {cells slots : Nat} {Q : State → Prop} {H : Heap} {locs : List Loc} {lsA : Array Slot}, p.tables.exec = Jvm.exec → c.code = Y.2.1 → lv_has lsA Y.2.2.1 (xls X ls) →
      (∀ lsA' : Array Slot, lv_has lsA' Y.2.2.1 (xls X ls') → W p X.1 e R s m args below meth c H locs cells slots Q (F0 m pc' lsA' (xst X st'))) → W p X.1 e R s m args below meth c H locs cells slots Q (F0 m pc lsA (xst X st)))
    (hok : (∀ q ∈ ls, xok q.2) → (∀ v ∈ st, xok v) → (∀ q ∈ ls', xok q.2) ∧ ∀ v ∈ st', xok v) (k : Go X Y d pc' ls' st' M Post) : Go X Y d pc ls st M Post := by
  intro o1 o2 o3 p e R s m args below meth c cells slots Q H locs lsA C F hl K
  exact h C.1 C.2.1 hl (fun lsA' hl' => k (hok o1 o2).1 (hok o1 o2).2 o3 p e R s m args below meth c cells slots Q H locs lsA' C F hl' K)
theorem g_istore_n {n : Fin 4} {v : Int} (hd : decode Y.2.1 pc = .ok (.istore_n n, 1)) (hn : n.val < Y.2.2.1) (hl : xs1 n.val (XI v) ls = ls') (k : Go X Y d (pc + 1) ls' st M Post) : Go X Y d pc ls (XI v :: st) M Post :=
  go_str (fun hx hb hh kk => lv_istore_n hx hb hd rfl hh hn (hl ▸ xs1_eq X n.val (XI v) ls) kk) (fun o h => ⟨hl ▸ xs1_ok o (ok_h h), ok_t h⟩) k
theorem g_istore {n : Nat} {v : Int} (hd : decode Y.2.1 pc = .ok (.istore n, 2)) (hn : n < Y.2.2.1) (hl : xs1 n (XI v) ls = ls') (k : Go X Y d (pc + 2) ls' st M Post) : Go X Y d pc ls (XI v :: st) M Post :=
  go_str (fun hx hb hh kk => lv_istore hx hb hd hh hn (hl ▸ xs1_eq X n (XI v) ls) kk) (fun o h => ⟨hl ▸ xs1_ok o (ok_h h), ok_t h⟩) k
theorem g_astore_n {n : Fin 4} {a : Nat} (hd : decode Y.2.1 pc = .ok (.astore_n n, 1)) (hn : n.val < Y.2.2.1) (hl : xs1 n.val (XR a) ls = ls') (k : Go X Y d (pc + 1) ls' st M Post) : Go X Y d pc ls (XR a :: st) M Post :=
  go_str (fun hx hb hh kk => lv_astore_n hx hb hd rfl hh hn (hl ▸ xs1_eq X n.val (XR a) ls) kk) (fun o h => ⟨hl ▸ xs1_ok o (ok_h h), ok_t h⟩) k
theorem g_astore {n : Nat} {a : Nat} (hd : decode Y.2.1 pc = .ok (.astore n, 2)) (hn : n < Y.2.2.1) (hl : xs1 n (XR a) ls = ls') (k : Go X Y d (pc + 2) ls' st M Post) : Go X Y d pc ls (XR a :: st) M Post :=
  go_str (fun hx hb hh kk => lv_astore hx hb hd hh hn (hl ▸ xs1_eq X n (XR a) ls) kk) (fun o h => ⟨hl ▸ xs1_ok o (ok_h h), ok_t h⟩) k
theorem g_astore_nN {n : Fin 4} (hd : decode Y.2.1 pc = .ok (.astore_n n, 1)) (hn : n.val < Y.2.2.1) (hl : xs1 n.val XN ls = ls') (k : Go X Y d (pc + 1) ls' st M Post) : Go X Y d pc ls (XN :: st) M Post :=
  go_str (fun hx hb hh kk => lv_astore_nN hx hb hd rfl hh hn (hl ▸ xs1_eq X n.val XN ls) kk) (fun o h => ⟨hl ▸ xs1_ok o (ok_h h), ok_t h⟩) k
theorem g_astoreN {n : Nat} (hd : decode Y.2.1 pc = .ok (.astore n, 2)) (hn : n < Y.2.2.1) (hl : xs1 n XN ls = ls') (k : Go X Y d (pc + 2) ls' st M Post) : Go X Y d pc ls (XN :: st) M Post :=
  go_str (fun hx hb hh kk => lv_astoreN hx hb hd hh hn (hl ▸ xs1_eq X n XN ls) kk) (fun o h => ⟨hl ▸ xs1_ok o (ok_h h), ok_t h⟩) k
theorem g_lstore_n {n : Fin 4} {v : Int} (hd : decode Y.2.1 pc = .ok (.lstore_n n, 1)) (hn : n.val + 1 < Y.2.2.1) (hl : xs2 n.val (XL v) ls = ls') (k : Go X Y d (pc + 1) ls' st M Post) : Go X Y d pc ls (XL v :: st) M Post :=
  go_str (fun hx hb hh kk => lv_lstore_n hx hb hd rfl hh hn (hl ▸ xs2_eq X n.val (XL v) ls) kk) (fun o h => ⟨hl ▸ xs2_ok o (ok_h h), ok_t h⟩) k
theorem g_lstore {n : Nat} {v : Int} (hd : decode Y.2.1 pc = .ok (.lstore n, 2)) (hn : n + 1 < Y.2.2.1) (hl : xs2 n (XL v) ls = ls') (k : Go X Y d (pc + 2) ls' st M Post) : Go X Y d pc ls (XL v :: st) M Post :=
  go_str (fun hx hb hh kk => lv_lstore hx hb hd hh hn (hl ▸ xs2_eq X n (XL v) ls) kk) (fun o h => ⟨hl ▸ xs2_ok o (ok_h h), ok_t h⟩) k
theorem g_iinc {n : Nat} {w : Int} {v v' : Int} (j : Nat) (hd : decode Y.2.1 pc = .ok (.iinc n w, 3)) (hj : ls[j]? = some (n, XI v)) (hv : v + w = v') (ho : i32 v') (hn : n < Y.2.2.1) (hl : xs1 n (XI v') ls = ls') (k : Go X Y d (pc + 3) ls' st M Post) : Go X Y d pc ls st M Post :=
  go_str (fun hx hb hh kk => lv_iinc hx hb hd hh (k := j) (x := Int32.ofInt v) (v := Int32.ofInt v') (by rw [xls, List.getElem?_map, hj]; rfl) (by rw [← hv, Int32.ofInt_add]) hn (hl ▸ xs1_eq X n (XI v') ls) kk) (fun o h => ⟨hl ▸ xs1_ok o ho, h⟩) k
-- arithmetic
theorem g_iadd {a b v : Int} (hd : decode Y.2.1 pc = .ok (.iadd, 1)) (hv : a + b = v) (ho : i32 v) (k : Go X Y d (pc + 1) ls (XI v :: st) M Post) : Go X Y d pc ls (XI b :: XI a :: st) M Post :=
  go_stp (fun hx hb _ _ _ _ _ q => lv_iadd hx hb hd (by rw [← Int32.ofInt_add, hv]; exact q)) (fun _ h => ok_cI ho (ok_t (ok_t h))) k
theorem g_isub {a b v : Int} (hd : decode Y.2.1 pc = .ok (.isub, 1)) (hv : a - b = v) (ho : i32 v) (k : Go X Y d (pc + 1) ls (XI v :: st) M Post) : Go X Y d pc ls (XI b :: XI a :: st) M Post :=
  go_stp (fun hx hb _ _ _ _ _ q => lv_isub hx hb hd (by rw [← Int32.ofInt_sub, hv]; exact q)) (fun _ h => ok_cI ho (ok_t (ok_t h))) k
theorem g_imul {a b v : Int} (hd : decode Y.2.1 pc = .ok (.imul, 1)) (hv : a * b = v) (ho : i32 v) (k : Go X Y d (pc + 1) ls (XI v :: st) M Post) : Go X Y d pc ls (XI b :: XI a :: st) M Post :=
  go_stp (fun hx hb _ _ _ _ _ q => lv_imul hx hb hd (by rw [← Int32.ofInt_mul, hv]; exact q)) (fun _ h => ok_cI ho (ok_t (ok_t h))) k
theorem g_ladd {a b v : Int} (hd : decode Y.2.1 pc = .ok (.ladd, 1)) (hv : a + b = v) (ho : i64 v) (k : Go X Y d (pc + 1) ls (XL v :: st) M Post) : Go X Y d pc ls (XL b :: XL a :: st) M Post :=
  go_stp (fun hx hb _ _ _ _ _ q => lv_ladd hx hb hd (by rw [← Int64.ofInt_add, hv]; exact q)) (fun _ h => ok_cL ho (ok_t (ok_t h))) k
theorem g_lsub {a b v : Int} (hd : decode Y.2.1 pc = .ok (.lsub, 1)) (hv : a - b = v) (ho : i64 v) (k : Go X Y d (pc + 1) ls (XL v :: st) M Post) : Go X Y d pc ls (XL b :: XL a :: st) M Post :=
  go_stp (fun hx hb _ _ _ _ _ q => lv_lsub hx hb hd (by rw [← Int64.ofInt_sub, hv]; exact q)) (fun _ h => ok_cL ho (ok_t (ok_t h))) k
theorem g_lmul {a b v : Int} (hd : decode Y.2.1 pc = .ok (.lmul, 1)) (hv : a * b = v) (ho : i64 v) (k : Go X Y d (pc + 1) ls (XL v :: st) M Post) : Go X Y d pc ls (XL b :: XL a :: st) M Post :=
  go_stp (fun hx hb _ _ _ _ _ q => lv_lmul hx hb hd (by rw [← Int64.ofInt_mul, hv]; exact q)) (fun _ h => ok_cL ho (ok_t (ok_t h))) k
theorem i32_div {a b : Int} (ha : i32 a) (hb : i32 b) (h0 : 0 ≤ a) (h1 : 0 < b) : Int32.ofInt a / Int32.ofInt b = Int32.ofInt (a / b) := by
  rw [← Int32.toInt_inj, Int32.toInt_div_of_ne_right _ _ (by rw [show (-1 : Int32) = Int32.ofInt (-1) from rfl, Ne, i32_inj hb (by constructor <;> decide)]; omega), i32_eq ha, i32_eq hb, Int.tdiv_eq_ediv_of_nonneg h0, i32_eq]
  have := Int.ediv_nonneg h0 (Int.le_of_lt h1)
  have h3 := Int.ediv_le_self b h0
  exact ⟨by omega, by have := ha.2; omega⟩
theorem i64_div {a b : Int} (ha : i64 a) (hb : i64 b) (h0 : 0 ≤ a) (h1 : 0 < b) : Int64.ofInt a / Int64.ofInt b = Int64.ofInt (a / b) := by
  rw [← Int64.toInt_inj, Int64.toInt_div_of_ne_right _ _ (by rw [show (-1 : Int64) = Int64.ofInt (-1) from rfl, Ne, i64_inj hb (by constructor <;> decide)]; omega), i64_eq ha, i64_eq hb, Int.tdiv_eq_ediv_of_nonneg h0, i64_eq]
  have := Int.ediv_nonneg h0 (Int.le_of_lt h1)
  have h3 := Int.ediv_le_self b h0
  exact ⟨by omega, by have := ha.2; omega⟩
theorem ok_div {a b : Int} (ha : i32 a) (h0 : 0 ≤ a) (h1 : 0 < b) : i32 (a / b) := by
  have := Int.ediv_nonneg h0 (Int.le_of_lt h1)
  have h3 := Int.ediv_le_self b h0
  exact ⟨by omega, by have := ha.2; omega⟩
theorem ok_divL {a b : Int} (ha : i64 a) (h0 : 0 ≤ a) (h1 : 0 < b) : i64 (a / b) := by
  have := Int.ediv_nonneg h0 (Int.le_of_lt h1)
  have h3 := Int.ediv_le_self b h0
  exact ⟨by omega, by have := ha.2; omega⟩
theorem ok_mod {a b : Int} (ha : i32 a) (h0 : 0 ≤ a) (h1 : 0 < b) : i32 (a % b) := by
  have := Int.emod_nonneg a (Int.ne_of_gt h1)
  have h3 : a % b ≤ a := by rw [Int.emod_def]; have := Int.mul_nonneg (Int.le_of_lt h1) (Int.ediv_nonneg h0 (Int.le_of_lt h1)); omega
  exact ⟨by omega, by have := ha.2; omega⟩
theorem ok_modL {a b : Int} (ha : i64 a) (h0 : 0 ≤ a) (h1 : 0 < b) : i64 (a % b) := by
  have := Int.emod_nonneg a (Int.ne_of_gt h1)
  have h3 : a % b ≤ a := by rw [Int.emod_def]; have := Int.mul_nonneg (Int.le_of_lt h1) (Int.ediv_nonneg h0 (Int.le_of_lt h1)); omega
  exact ⟨by omega, by have := ha.2; omega⟩
theorem g_idiv {a b v : Int} (hd : decode Y.2.1 pc = .ok (.idiv, 1)) (h0 : 0 ≤ a) (h1 : 0 < b) (hv : a / b = v) (k : Go X Y d (pc + 1) ls (XI v :: st) M Post) : Go X Y d pc ls (XI b :: XI a :: st) M Post :=
  go_stp (fun hx hb _ _ _ _ o q => lv_idiv hx hb hd (fun z => by have := (i32_inj (ok_hI o) i32_0).mp z; omega) (by rw [i32_div (ok_hI (ok_t o)) (ok_hI o) h0 h1, hv]; exact q)) (fun _ h => ok_cI (hv ▸ ok_div (ok_hI (ok_t h)) h0 h1) (ok_t (ok_t h))) k
theorem g_irem {a b v : Int} (hd : decode Y.2.1 pc = .ok (.irem, 1)) (h0 : 0 ≤ a) (h1 : 0 < b) (hv : a % b = v) (k : Go X Y d (pc + 1) ls (XI v :: st) M Post) : Go X Y d pc ls (XI b :: XI a :: st) M Post :=
  go_stp (fun hx hb _ _ _ _ o q => lv_irem hx hb hd (fun z => by have := (i32_inj (ok_hI o) i32_0).mp z; omega) (by rw [i32_div (ok_hI (ok_t o)) (ok_hI o) h0 h1, ← Int32.ofInt_mul, ← Int32.ofInt_sub, show a - a / b * b = v by rw [← hv, Int.emod_def, Int.mul_comm]]; exact q)) (fun _ h => ok_cI (hv ▸ ok_mod (ok_hI (ok_t h)) h0 h1) (ok_t (ok_t h))) k
theorem g_ldiv {a b v : Int} (hd : decode Y.2.1 pc = .ok (.ldiv, 1)) (h0 : 0 ≤ a) (h1 : 0 < b) (hv : a / b = v) (k : Go X Y d (pc + 1) ls (XL v :: st) M Post) : Go X Y d pc ls (XL b :: XL a :: st) M Post :=
  go_stp (fun hx hb _ _ _ _ o q => lv_ldiv hx hb hd (fun z => by have := (i64_inj (ok_hL o) (i32_64 i32_0)).mp z; omega) (by rw [i64_div (ok_hL (ok_t o)) (ok_hL o) h0 h1, hv]; exact q)) (fun _ h => ok_cL (hv ▸ ok_divL (ok_hL (ok_t h)) h0 h1) (ok_t (ok_t h))) k
theorem g_lrem {a b v : Int} (hd : decode Y.2.1 pc = .ok (.lrem, 1)) (h0 : 0 ≤ a) (h1 : 0 < b) (hv : a % b = v) (k : Go X Y d (pc + 1) ls (XL v :: st) M Post) : Go X Y d pc ls (XL b :: XL a :: st) M Post :=
  go_stp (fun hx hb _ _ _ _ o q => lv_lrem hx hb hd (fun z => by have := (i64_inj (ok_hL o) (i32_64 i32_0)).mp z; omega) (by rw [i64_div (ok_hL (ok_t o)) (ok_hL o) h0 h1, ← Int64.ofInt_mul, ← Int64.ofInt_sub, show a - a / b * b = v by rw [← hv, Int.emod_def, Int.mul_comm]]; exact q)) (fun _ h => ok_cL (hv ▸ ok_modL (ok_hL (ok_t h)) h0 h1) (ok_t (ok_t h))) k
-- bits
def bAnd (a b : Int) : Int := (Int32.ofInt a &&& Int32.ofInt b).toInt
def bOr (a b : Int) : Int := (Int32.ofInt a ||| Int32.ofInt b).toInt
def bXor (a b : Int) : Int := (Int32.ofInt a ^^^ Int32.ofInt b).toInt
def bShl (a b : Int) : Int := (Int32.ofInt a <<< (Int32.ofInt b &&& 31)).toInt
def bShr (a b : Int) : Int := (Int32.ofInt a >>> (Int32.ofInt b &&& 31)).toInt
def bLand (a b : Int) : Int := (Int64.ofInt a &&& Int64.ofInt b).toInt
def bLor (a b : Int) : Int := (Int64.ofInt a ||| Int64.ofInt b).toInt
def bLshl (a b : Int) : Int := (Int64.ofInt a <<< ((Int32.ofInt b).toInt64 &&& 63)).toInt
def w32 (a : Int) : Int := (Int32.ofInt a).toInt
def w8 (a : Int) : Int := (Int32.ofInt a).toInt8.toInt32.toInt
def w16 (a : Int) : Int := (Int32.ofInt a).toInt16.toInt32.toInt
theorem l2i_e (a : Int) : (Int64.ofInt a).toInt32 = Int32.ofInt (w32 a) := by rw [Int64.toInt32_ofInt]; exact (Int32.ofInt_toInt _).symm
theorem i2b_e (a : Int) : (Int32.ofInt a).toInt8.toInt32 = Int32.ofInt (w8 a) := (Int32.ofInt_toInt _).symm
theorem i2s_e (a : Int) : (Int32.ofInt a).toInt16.toInt32 = Int32.ofInt (w16 a) := (Int32.ofInt_toInt _).symm
theorem g_iand {a b : Int} (hd : decode Y.2.1 pc = .ok (.iand, 1)) (k : Go X Y d (pc + 1) ls (XI (bAnd a b) :: st) M Post) : Go X Y d pc ls (XI b :: XI a :: st) M Post :=
  go_stp (fun hx hb _ _ _ _ _ q => lv_iand hx hb hd (by rw [← Int32.ofInt_toInt (Int32.ofInt a &&& Int32.ofInt b)]; exact q)) (fun _ h => ok_cI (i32_to _) (ok_t (ok_t h))) k
theorem g_ior {a b : Int} (hd : decode Y.2.1 pc = .ok (.ior, 1)) (k : Go X Y d (pc + 1) ls (XI (bOr a b) :: st) M Post) : Go X Y d pc ls (XI b :: XI a :: st) M Post :=
  go_stp (fun hx hb _ _ _ _ _ q => lv_ior hx hb hd (by rw [← Int32.ofInt_toInt (Int32.ofInt a ||| Int32.ofInt b)]; exact q)) (fun _ h => ok_cI (i32_to _) (ok_t (ok_t h))) k
theorem g_ixor {a b : Int} (hd : decode Y.2.1 pc = .ok (.ixor, 1)) (k : Go X Y d (pc + 1) ls (XI (bXor a b) :: st) M Post) : Go X Y d pc ls (XI b :: XI a :: st) M Post :=
  go_stp (fun hx hb _ _ _ _ _ q => lv_ixor hx hb hd (by rw [← Int32.ofInt_toInt (Int32.ofInt a ^^^ Int32.ofInt b)]; exact q)) (fun _ h => ok_cI (i32_to _) (ok_t (ok_t h))) k
theorem g_ishl {a b : Int} (hd : decode Y.2.1 pc = .ok (.ishl, 1)) (k : Go X Y d (pc + 1) ls (XI (bShl a b) :: st) M Post) : Go X Y d pc ls (XI b :: XI a :: st) M Post :=
  go_stp (fun hx hb _ _ _ _ _ q => lv_ishl hx hb hd (by rw [← Int32.ofInt_toInt (Int32.ofInt a <<< (Int32.ofInt b &&& 31))]; exact q)) (fun _ h => ok_cI (i32_to _) (ok_t (ok_t h))) k
theorem g_ishr {a b : Int} (hd : decode Y.2.1 pc = .ok (.ishr, 1)) (k : Go X Y d (pc + 1) ls (XI (bShr a b) :: st) M Post) : Go X Y d pc ls (XI b :: XI a :: st) M Post :=
  go_stp (fun hx hb _ _ _ _ _ q => lv_ishr hx hb hd (by rw [← Int32.ofInt_toInt (Int32.ofInt a >>> (Int32.ofInt b &&& 31))]; exact q)) (fun _ h => ok_cI (i32_to _) (ok_t (ok_t h))) k
theorem g_land {a b : Int} (hd : decode Y.2.1 pc = .ok (.land, 1)) (k : Go X Y d (pc + 1) ls (XL (bLand a b) :: st) M Post) : Go X Y d pc ls (XL b :: XL a :: st) M Post :=
  go_stp (fun hx hb _ _ _ _ _ q => lv_land hx hb hd (by rw [← Int64.ofInt_toInt (Int64.ofInt a &&& Int64.ofInt b)]; exact q)) (fun _ h => ok_cL (i64_to _) (ok_t (ok_t h))) k
theorem g_lor {a b : Int} (hd : decode Y.2.1 pc = .ok (.lor, 1)) (k : Go X Y d (pc + 1) ls (XL (bLor a b) :: st) M Post) : Go X Y d pc ls (XL b :: XL a :: st) M Post :=
  go_stp (fun hx hb _ _ _ _ _ q => lv_lor hx hb hd (by rw [← Int64.ofInt_toInt (Int64.ofInt a ||| Int64.ofInt b)]; exact q)) (fun _ h => ok_cL (i64_to _) (ok_t (ok_t h))) k
theorem g_lshl {a b : Int} (hd : decode Y.2.1 pc = .ok (.lshl, 1)) (k : Go X Y d (pc + 1) ls (XL (bLshl a b) :: st) M Post) : Go X Y d pc ls (XI b :: XL a :: st) M Post :=
  go_stp (fun hx hb _ _ _ _ _ q => lv_lshl hx hb hd rfl (by rw [← Int64.ofInt_toInt (Int64.ofInt a <<< ((Int32.ofInt b).toInt64 &&& 63))]; exact q)) (fun _ h => ok_cL (i64_to _) (ok_t (ok_t h))) k
theorem g_i2l {a : Int} (hd : decode Y.2.1 pc = .ok (.i2l, 1)) (k : Go X Y d (pc + 1) ls (XL a :: st) M Post) : Go X Y d pc ls (XI a :: st) M Post :=
  go_stp (fun hx hb _ _ _ _ o q => lv_i2l hx hb hd (by rw [← Int64.toInt_inj, Int32.toInt_toInt64, i32_eq (ok_hI o), i64_eq (i32_64 (ok_hI o))]) q) (fun _ h => ok_cL (i32_64 (ok_hI h)) (ok_t h)) k
theorem g_l2i {a : Int} (hd : decode Y.2.1 pc = .ok (.l2i, 1)) (k : Go X Y d (pc + 1) ls (XI (w32 a) :: st) M Post) : Go X Y d pc ls (XL a :: st) M Post :=
  go_stp (fun hx hb _ _ _ _ o q => lv_l2i hx hb hd (l2i_e a) q) (fun _ h => ok_cI (i32_to _) (ok_t h)) k
theorem g_i2b {a : Int} (hd : decode Y.2.1 pc = .ok (.i2b, 1)) (k : Go X Y d (pc + 1) ls (XI (w8 a) :: st) M Post) : Go X Y d pc ls (XI a :: st) M Post :=
  go_stp (fun hx hb _ _ _ _ o q => lv_i2b hx hb hd (i2b_e a) q) (fun _ h => ok_cI (i32_to _) (ok_t h)) k
theorem g_i2s {a : Int} (hd : decode Y.2.1 pc = .ok (.i2s, 1)) (k : Go X Y d (pc + 1) ls (XI (w16 a) :: st) M Post) : Go X Y d pc ls (XI a :: st) M Post :=
  go_stp (fun hx hb _ _ _ _ o q => lv_i2s hx hb hd (i2s_e a) q) (fun _ h => ok_cI (i32_to _) (ok_t h)) k
-- the stack
theorem g_dupI {a : Int} (hd : decode Y.2.1 pc = .ok (.dup, 1)) (k : Go X Y d (pc + 1) ls (XI a :: XI a :: st) M Post) : Go X Y d pc ls (XI a :: st) M Post :=
  go_stp (fun hx hb _ _ _ _ o q => lv_dup hx hb hd rfl q) (fun _ h => ok_c (ok_h h) h) k
theorem g_dupR {a : Nat} (hd : decode Y.2.1 pc = .ok (.dup, 1)) (k : Go X Y d (pc + 1) ls (XR a :: XR a :: st) M Post) : Go X Y d pc ls (XR a :: st) M Post :=
  go_stp (fun hx hb _ _ _ _ o q => lv_dup hx hb hd rfl q) (fun _ h => ok_c (ok_h h) h) k
theorem g_dup2RI {a : Nat} {i : Int} (hd : decode Y.2.1 pc = .ok (.dup2, 1)) (k : Go X Y d (pc + 1) ls (XI i :: XR a :: XI i :: XR a :: st) M Post) : Go X Y d pc ls (XI i :: XR a :: st) M Post :=
  go_stp (fun hx hb _ _ _ _ o q => lv_dup2_11 hx hb hd rfl rfl q) (fun _ h => ok_c (ok_h h) (ok_c (ok_h (ok_t h)) h)) k
end
end
section
section
variable {X : XC} {Y : XY} {d pc : Nat} {ls ls' : List (Nat × XV)} {st : List XV} {M : Mem} {Post : Option XV → Mem → Prop}
theorem go_br {X : XC} {Y : XY} {d pc p1 p2 : Nat} {ls : List (Nat × XV)} {st st' : List XV} {M : Mem} {Post : Option XV → Mem → Prop} {P : Prop}
    (h : ∀ {p : Program} {e : Env} {R : Room} {s : State} {m : MethodId} {args : Array Value} {below : List Frame} {meth : Method} {c : Code} {cells slots : Nat} {Q : State → Prop} {H : Heap} {locs : List Loc} {lsA : Array Slot}, p.tables.exec = Jvm.exec → c.code = Y.2.1 → (∀ v ∈ st, xok v) →
      (P → W p X.1 e R s m args below meth c H locs cells slots Q (F0 m p1 lsA (xst X st'))) → (¬ P → W p X.1 e R s m args below meth c H locs cells slots Q (F0 m p2 lsA (xst X st'))) → W p X.1 e R s m args below meth c H locs cells slots Q (F0 m pc lsA (xst X st)))
    (hok : (∀ v ∈ st, xok v) → ∀ v ∈ st', xok v) (k1 : P → Go X Y d p1 ls st' M Post) (k2 : ¬ P → Go X Y d p2 ls st' M Post) : Go X Y d pc ls st M Post := by
  intro o1 o2 o3 p e R s m args below meth c cells slots Q H locs lsA C F hl K
  exact h C.1 C.2.1 o2 (fun z => k1 z o1 (hok o2) o3 p e R s m args below meth c cells slots Q H locs lsA C F hl K) (fun z => k2 z o1 (hok o2) o3 p e R s m args below meth c cells slots Q H locs lsA C F hl K)
theorem g_goto {off : Int} {tgt : Nat} (hd : decode Y.2.1 pc = .ok (.goto off, 3)) (ht : (pc : Int) + off = (tgt : Int)) (k : Go X Y d tgt ls st M Post) : Go X Y d pc ls st M Post :=
  go_stp (fun hx hb _ _ _ _ _ q => lv_goto hx hb hd ht q) (fun _ h => h) k
theorem g_icmp_eq {a b off : Int} {tgt : Nat} (hd : decode Y.2.1 pc = .ok (.if_icmp .eq off, 3)) (ht : (pc : Int) + off = (tgt : Int)) (k1 : a = b → Go X Y d tgt ls st M Post) (k2 : ¬ a = b → Go X Y d (pc + 3) ls st M Post) : Go X Y d pc ls (XI b :: XI a :: st) M Post :=
  go_br (fun hx hb o q1 q2 => lv_icmp_eq hx hb hd ht (fun z => q1 ((i32_inj (ok_hI (ok_t o)) (ok_hI o)).mp z)) (fun z => q2 (fun y => z ((i32_inj (ok_hI (ok_t o)) (ok_hI o)).mpr y)))) (fun h => ok_t (ok_t h)) k1 k2
theorem g_if_eq {a off : Int} {tgt : Nat} (hd : decode Y.2.1 pc = .ok (.ifCond .eq off, 3)) (ht : (pc : Int) + off = (tgt : Int)) (k1 : a = 0 → Go X Y d tgt ls st M Post) (k2 : ¬ a = 0 → Go X Y d (pc + 3) ls st M Post) : Go X Y d pc ls (XI a :: st) M Post :=
  go_br (fun hx hb o q1 q2 => lv_if_eq hx hb hd ht (fun z => q1 ((i32_inj (ok_hI o) i32_0).mp z)) (fun z => q2 (fun y => z ((i32_inj (ok_hI o) i32_0).mpr y)))) (fun h => ok_t h) k1 k2
theorem g_icmp_lt {a b off : Int} {tgt : Nat} (hd : decode Y.2.1 pc = .ok (.if_icmp .lt off, 3)) (ht : (pc : Int) + off = (tgt : Int)) (k1 : a < b → Go X Y d tgt ls st M Post) (k2 : ¬ a < b → Go X Y d (pc + 3) ls st M Post) : Go X Y d pc ls (XI b :: XI a :: st) M Post :=
  go_br (fun hx hb o q1 q2 => lv_icmp_lt hx hb hd ht (fun z => q1 ((i32_lt (ok_hI (ok_t o)) (ok_hI o)).mp z)) (fun z => q2 (fun y => z ((i32_lt (ok_hI (ok_t o)) (ok_hI o)).mpr y)))) (fun h => ok_t (ok_t h)) k1 k2
theorem g_if_lt {a off : Int} {tgt : Nat} (hd : decode Y.2.1 pc = .ok (.ifCond .lt off, 3)) (ht : (pc : Int) + off = (tgt : Int)) (k1 : a < 0 → Go X Y d tgt ls st M Post) (k2 : ¬ a < 0 → Go X Y d (pc + 3) ls st M Post) : Go X Y d pc ls (XI a :: st) M Post :=
  go_br (fun hx hb o q1 q2 => lv_if_lt hx hb hd ht (fun z => q1 ((i32_lt (ok_hI o) i32_0).mp z)) (fun z => q2 (fun y => z ((i32_lt (ok_hI o) i32_0).mpr y)))) (fun h => ok_t h) k1 k2
theorem g_icmp_ge {a b off : Int} {tgt : Nat} (hd : decode Y.2.1 pc = .ok (.if_icmp .ge off, 3)) (ht : (pc : Int) + off = (tgt : Int)) (k1 : b ≤ a → Go X Y d tgt ls st M Post) (k2 : ¬ b ≤ a → Go X Y d (pc + 3) ls st M Post) : Go X Y d pc ls (XI b :: XI a :: st) M Post :=
  go_br (fun hx hb o q1 q2 => lv_icmp_ge hx hb hd ht (fun z => q1 ((i32_le (ok_hI o) (ok_hI (ok_t o))).mp z)) (fun z => q2 (fun y => z ((i32_le (ok_hI o) (ok_hI (ok_t o))).mpr y)))) (fun h => ok_t (ok_t h)) k1 k2
theorem g_if_ge {a off : Int} {tgt : Nat} (hd : decode Y.2.1 pc = .ok (.ifCond .ge off, 3)) (ht : (pc : Int) + off = (tgt : Int)) (k1 : 0 ≤ a → Go X Y d tgt ls st M Post) (k2 : ¬ 0 ≤ a → Go X Y d (pc + 3) ls st M Post) : Go X Y d pc ls (XI a :: st) M Post :=
  go_br (fun hx hb o q1 q2 => lv_if_ge hx hb hd ht (fun z => q1 ((i32_le i32_0 (ok_hI o)).mp z)) (fun z => q2 (fun y => z ((i32_le i32_0 (ok_hI o)).mpr y)))) (fun h => ok_t h) k1 k2
theorem g_icmp_gt {a b off : Int} {tgt : Nat} (hd : decode Y.2.1 pc = .ok (.if_icmp .gt off, 3)) (ht : (pc : Int) + off = (tgt : Int)) (k1 : b < a → Go X Y d tgt ls st M Post) (k2 : ¬ b < a → Go X Y d (pc + 3) ls st M Post) : Go X Y d pc ls (XI b :: XI a :: st) M Post :=
  go_br (fun hx hb o q1 q2 => lv_icmp_gt hx hb hd ht (fun z => q1 ((i32_lt (ok_hI o) (ok_hI (ok_t o))).mp z)) (fun z => q2 (fun y => z ((i32_lt (ok_hI o) (ok_hI (ok_t o))).mpr y)))) (fun h => ok_t (ok_t h)) k1 k2
theorem g_if_gt {a off : Int} {tgt : Nat} (hd : decode Y.2.1 pc = .ok (.ifCond .gt off, 3)) (ht : (pc : Int) + off = (tgt : Int)) (k1 : 0 < a → Go X Y d tgt ls st M Post) (k2 : ¬ 0 < a → Go X Y d (pc + 3) ls st M Post) : Go X Y d pc ls (XI a :: st) M Post :=
  go_br (fun hx hb o q1 q2 => lv_if_gt hx hb hd ht (fun z => q1 ((i32_lt i32_0 (ok_hI o)).mp z)) (fun z => q2 (fun y => z ((i32_lt i32_0 (ok_hI o)).mpr y)))) (fun h => ok_t h) k1 k2
theorem g_icmp_le {a b off : Int} {tgt : Nat} (hd : decode Y.2.1 pc = .ok (.if_icmp .le off, 3)) (ht : (pc : Int) + off = (tgt : Int)) (k1 : a ≤ b → Go X Y d tgt ls st M Post) (k2 : ¬ a ≤ b → Go X Y d (pc + 3) ls st M Post) : Go X Y d pc ls (XI b :: XI a :: st) M Post :=
  go_br (fun hx hb o q1 q2 => lv_icmp_le hx hb hd ht (fun z => q1 ((i32_le (ok_hI (ok_t o)) (ok_hI o)).mp z)) (fun z => q2 (fun y => z ((i32_le (ok_hI (ok_t o)) (ok_hI o)).mpr y)))) (fun h => ok_t (ok_t h)) k1 k2
theorem g_if_le {a off : Int} {tgt : Nat} (hd : decode Y.2.1 pc = .ok (.ifCond .le off, 3)) (ht : (pc : Int) + off = (tgt : Int)) (k1 : a ≤ 0 → Go X Y d tgt ls st M Post) (k2 : ¬ a ≤ 0 → Go X Y d (pc + 3) ls st M Post) : Go X Y d pc ls (XI a :: st) M Post :=
  go_br (fun hx hb o q1 q2 => lv_if_le hx hb hd ht (fun z => q1 ((i32_le (ok_hI o) i32_0).mp z)) (fun z => q2 (fun y => z ((i32_le (ok_hI o) i32_0).mpr y)))) (fun h => ok_t h) k1 k2
theorem g_icmp_ne {a b off : Int} {tgt : Nat} (hd : decode Y.2.1 pc = .ok (.if_icmp .ne off, 3)) (ht : (pc : Int) + off = (tgt : Int)) (k1 : ¬ a = b → Go X Y d tgt ls st M Post) (k2 : a = b → Go X Y d (pc + 3) ls st M Post) : Go X Y d pc ls (XI b :: XI a :: st) M Post :=
  go_br (P := ¬ a = b) (fun hx hb o q1 q2 => lv_icmp_ne hx hb hd ht (fun z => q1 (fun y => z ((i32_inj (ok_hI (ok_t o)) (ok_hI o)).mpr y))) (fun z => q2 (fun y => y ((i32_inj (ok_hI (ok_t o)) (ok_hI o)).mp z)))) (fun h => ok_t (ok_t h)) k1 (fun z => k2 (Classical.not_not.mp z))
theorem g_if_ne {a off : Int} {tgt : Nat} (hd : decode Y.2.1 pc = .ok (.ifCond .ne off, 3)) (ht : (pc : Int) + off = (tgt : Int)) (k1 : ¬ a = 0 → Go X Y d tgt ls st M Post) (k2 : a = 0 → Go X Y d (pc + 3) ls st M Post) : Go X Y d pc ls (XI a :: st) M Post :=
  go_br (P := ¬ a = 0) (fun hx hb o q1 q2 => lv_if_ne hx hb hd ht (fun z => q1 (fun y => z ((i32_inj (ok_hI o) i32_0).mpr y))) (fun z => q2 (fun y => y ((i32_inj (ok_hI o) i32_0).mp z)))) (fun h => ok_t h) k1 (fun z => k2 (Classical.not_not.mp z))
theorem lg_cases {a b : Int} (ha : i64 a) (hb : i64 b) : (a < b ∧ lg_cmp (Int64.ofInt a) (Int64.ofInt b) = -1) ∨ (a = b ∧ lg_cmp (Int64.ofInt a) (Int64.ofInt b) = 0) ∨ (b < a ∧ lg_cmp (Int64.ofInt a) (Int64.ofInt b) = 1) := by
  rcases Int.lt_trichotomy a b with h | h | h
  · refine Or.inl ⟨h, ?_⟩
    unfold lg_cmp
    rw [if_neg (fun z => by have := (i64_lt hb ha).mp z; omega), if_neg (fun z => by have := (i64_inj ha hb).mp z; omega)]
  · refine Or.inr (Or.inl ⟨h, ?_⟩)
    unfold lg_cmp
    rw [if_neg (fun z => by have := (i64_lt hb ha).mp z; omega), if_pos ((i64_inj ha hb).mpr h)]
  · refine Or.inr (Or.inr ⟨h, ?_⟩)
    unfold lg_cmp
    rw [if_pos ((i64_lt hb ha).mpr h)]
theorem g_lcmp_eq {a b off : Int} {tgt : Nat} (hd : decode Y.2.1 pc = .ok (.lcmp, 1)) (hd2 : decode Y.2.1 (pc + 1) = .ok (.ifCond .eq off, 3)) (ht : ((pc + 1 : Nat) : Int) + off = (tgt : Int)) (k1 : a = b → Go X Y d tgt ls st M Post) (k2 : ¬ a = b → Go X Y d (pc + 4) ls st M Post) : Go X Y d pc ls (XL b :: XL a :: st) M Post := by
  refine go_br (P := a = b) (p1 := tgt) (p2 := pc + 4) (st' := st) (fun hx hb o q1 q2 => W.lcmp hx hb hd ?_) (fun h => ok_t (ok_t h)) (fun z => k1 z) (fun z => k2 (by omega))
  have ha := ok_hL (ok_t o)
  have hc := ok_hL o
  rcases lg_cases ha hc with ⟨h, e⟩ | ⟨h, e⟩ | ⟨h, e⟩ <;> rw [e] <;> refine lv_if_eq hx hb hd2 ht (fun z => ?_) (fun z => ?_) <;> first | (exact q1 (by omega)) | (exact q2 (by omega)) | (exact absurd z (by decide))
theorem g_lcmp_ne {a b off : Int} {tgt : Nat} (hd : decode Y.2.1 pc = .ok (.lcmp, 1)) (hd2 : decode Y.2.1 (pc + 1) = .ok (.ifCond .ne off, 3)) (ht : ((pc + 1 : Nat) : Int) + off = (tgt : Int)) (k1 : ¬ a = b → Go X Y d tgt ls st M Post) (k2 : a = b → Go X Y d (pc + 4) ls st M Post) : Go X Y d pc ls (XL b :: XL a :: st) M Post := by
  refine go_br (P := ¬ a = b) (p1 := tgt) (p2 := pc + 4) (st' := st) (fun hx hb o q1 q2 => W.lcmp hx hb hd ?_) (fun h => ok_t (ok_t h)) (fun z => k1 z) (fun z => k2 (by omega))
  have ha := ok_hL (ok_t o)
  have hc := ok_hL o
  rcases lg_cases ha hc with ⟨h, e⟩ | ⟨h, e⟩ | ⟨h, e⟩ <;> rw [e] <;> refine lv_if_ne hx hb hd2 ht (fun z => ?_) (fun z => ?_) <;> first | (exact q1 (by omega)) | (exact q2 (by omega)) | (exact absurd z (by decide))
theorem g_lcmp_lt {a b off : Int} {tgt : Nat} (hd : decode Y.2.1 pc = .ok (.lcmp, 1)) (hd2 : decode Y.2.1 (pc + 1) = .ok (.ifCond .lt off, 3)) (ht : ((pc + 1 : Nat) : Int) + off = (tgt : Int)) (k1 : a < b → Go X Y d tgt ls st M Post) (k2 : ¬ a < b → Go X Y d (pc + 4) ls st M Post) : Go X Y d pc ls (XL b :: XL a :: st) M Post := by
  refine go_br (P := a < b) (p1 := tgt) (p2 := pc + 4) (st' := st) (fun hx hb o q1 q2 => W.lcmp hx hb hd ?_) (fun h => ok_t (ok_t h)) (fun z => k1 z) (fun z => k2 (by omega))
  have ha := ok_hL (ok_t o)
  have hc := ok_hL o
  rcases lg_cases ha hc with ⟨h, e⟩ | ⟨h, e⟩ | ⟨h, e⟩ <;> rw [e] <;> refine lv_if_lt hx hb hd2 ht (fun z => ?_) (fun z => ?_) <;> first | (exact q1 (by omega)) | (exact q2 (by omega)) | (exact absurd z (by decide))
theorem g_lcmp_ge {a b off : Int} {tgt : Nat} (hd : decode Y.2.1 pc = .ok (.lcmp, 1)) (hd2 : decode Y.2.1 (pc + 1) = .ok (.ifCond .ge off, 3)) (ht : ((pc + 1 : Nat) : Int) + off = (tgt : Int)) (k1 : b ≤ a → Go X Y d tgt ls st M Post) (k2 : ¬ b ≤ a → Go X Y d (pc + 4) ls st M Post) : Go X Y d pc ls (XL b :: XL a :: st) M Post := by
  refine go_br (P := b ≤ a) (p1 := tgt) (p2 := pc + 4) (st' := st) (fun hx hb o q1 q2 => W.lcmp hx hb hd ?_) (fun h => ok_t (ok_t h)) (fun z => k1 z) (fun z => k2 (by omega))
  have ha := ok_hL (ok_t o)
  have hc := ok_hL o
  rcases lg_cases ha hc with ⟨h, e⟩ | ⟨h, e⟩ | ⟨h, e⟩ <;> rw [e] <;> refine lv_if_ge hx hb hd2 ht (fun z => ?_) (fun z => ?_) <;> first | (exact q1 (by omega)) | (exact q2 (by omega)) | (exact absurd z (by decide))
theorem g_lcmp_gt {a b off : Int} {tgt : Nat} (hd : decode Y.2.1 pc = .ok (.lcmp, 1)) (hd2 : decode Y.2.1 (pc + 1) = .ok (.ifCond .gt off, 3)) (ht : ((pc + 1 : Nat) : Int) + off = (tgt : Int)) (k1 : b < a → Go X Y d tgt ls st M Post) (k2 : ¬ b < a → Go X Y d (pc + 4) ls st M Post) : Go X Y d pc ls (XL b :: XL a :: st) M Post := by
  refine go_br (P := b < a) (p1 := tgt) (p2 := pc + 4) (st' := st) (fun hx hb o q1 q2 => W.lcmp hx hb hd ?_) (fun h => ok_t (ok_t h)) (fun z => k1 z) (fun z => k2 (by omega))
  have ha := ok_hL (ok_t o)
  have hc := ok_hL o
  rcases lg_cases ha hc with ⟨h, e⟩ | ⟨h, e⟩ | ⟨h, e⟩ <;> rw [e] <;> refine lv_if_gt hx hb hd2 ht (fun z => ?_) (fun z => ?_) <;> first | (exact q1 (by omega)) | (exact q2 (by omega)) | (exact absurd z (by decide))
theorem g_lcmp_le {a b off : Int} {tgt : Nat} (hd : decode Y.2.1 pc = .ok (.lcmp, 1)) (hd2 : decode Y.2.1 (pc + 1) = .ok (.ifCond .le off, 3)) (ht : ((pc + 1 : Nat) : Int) + off = (tgt : Int)) (k1 : a ≤ b → Go X Y d tgt ls st M Post) (k2 : ¬ a ≤ b → Go X Y d (pc + 4) ls st M Post) : Go X Y d pc ls (XL b :: XL a :: st) M Post := by
  refine go_br (P := a ≤ b) (p1 := tgt) (p2 := pc + 4) (st' := st) (fun hx hb o q1 q2 => W.lcmp hx hb hd ?_) (fun h => ok_t (ok_t h)) (fun z => k1 z) (fun z => k2 (by omega))
  have ha := ok_hL (ok_t o)
  have hc := ok_hL o
  rcases lg_cases ha hc with ⟨h, e⟩ | ⟨h, e⟩ | ⟨h, e⟩ <;> rw [e] <;> refine lv_if_le hx hb hd2 ht (fun z => ?_) (fun z => ?_) <;> first | (exact q1 (by omega)) | (exact q2 (by omega)) | (exact absurd z (by decide))
theorem g_ifnullR {a : Nat} {off : Int} (hd : decode Y.2.1 pc = .ok (.ifnull off, 3)) (k : Go X Y d (pc + 3) ls st M Post) : Go X Y d pc ls (XR a :: st) M Post :=
  go_stp (fun hx hb _ _ _ _ _ q => lv_ifnull hx hb hd q) (fun _ h => ok_t h) k
theorem g_ifnullN {off : Int} {tgt : Nat} (hd : decode Y.2.1 pc = .ok (.ifnull off, 3)) (ht : (pc : Int) + off = (tgt : Int)) (k : Go X Y d tgt ls st M Post) : Go X Y d pc ls (XN :: st) M Post :=
  go_stp (fun hx hb _ _ _ _ _ q => lv_ifnullN hx hb hd ht q) (fun _ h => ok_t h) k
theorem g_ifnonnullR {a : Nat} {off : Int} {tgt : Nat} (hd : decode Y.2.1 pc = .ok (.ifnonnull off, 3)) (ht : (pc : Int) + off = (tgt : Int)) (k : Go X Y d tgt ls st M Post) : Go X Y d pc ls (XR a :: st) M Post :=
  go_stp (fun hx hb _ _ _ _ _ q => lv_ifnonnull hx hb hd ht q) (fun _ h => ok_t h) k
theorem g_ifnonnullN {off : Int} (hd : decode Y.2.1 pc = .ok (.ifnonnull off, 3)) (k : Go X Y d (pc + 3) ls st M Post) : Go X Y d pc ls (XN :: st) M Post :=
  go_stp (fun hx hb _ _ _ _ _ q => lv_ifnonnullN hx hb hd q) (fun _ h => ok_t h) k
theorem g_tswIn {a dflt lo hi off : Int} {offs : Array Int} {len tgt : Nat} (hd : decode Y.2.1 pc = .ok (.tableswitch dflt lo hi offs, len)) (h1 : lo ≤ a) (h2 : a ≤ hi) (ho : offs[(a - lo).toNat]? = some off) (ht : (pc : Int) + off = (tgt : Int)) (k : Go X Y d tgt ls st M Post) : Go X Y d pc ls (XI a :: st) M Post :=
  go_stp (fun hx hb _ _ _ _ o q => lv_tableIn hx hb hd (x := Int32.ofInt a) (by rw [i32_eq (ok_hI o)]; omega) (by rw [i32_eq (ok_hI o)]; omega) (by rw [i32_eq (ok_hI o)]; exact ho) ht q) (fun _ h => ok_t h) k
theorem g_tswOut {a dflt lo hi : Int} {offs : Array Int} {len tgt : Nat} (hd : decode Y.2.1 pc = .ok (.tableswitch dflt lo hi offs, len)) (h : a < lo ∨ hi < a) (ht : (pc : Int) + dflt = (tgt : Int)) (k : Go X Y d tgt ls st M Post) : Go X Y d pc ls (XI a :: st) M Post :=
  go_stp (fun hx hb _ _ _ _ o q => lv_tableOut hx hb hd (x := Int32.ofInt a) (by rw [i32_eq (ok_hI o)]; exact h) ht q) (fun _ h => ok_t h) k
theorem g_lsw {a dflt off : Int} {ps : Array (Int × Int)} {len tgt : Nat} (hd : decode Y.2.1 pc = .ok (.lookupswitch dflt ps, len)) (hp : (ps.toList.zip (ps.toList.drop 1)).all (fun (a, next) => a.1 < next.1) = true) (ho : Op.lookupswitch.offset ps.toList dflt a = off) (ht : (pc : Int) + off = (tgt : Int)) (k : Go X Y d tgt ls st M Post) : Go X Y d pc ls (XI a :: st) M Post :=
  go_stp (fun hx hb _ _ _ _ o q => lv_lookup hx hb hd (x := Int32.ofInt a) hp (by rw [i32_eq (ok_hI o)]; exact ho) ht q) (fun _ h => ok_t h) k
-- returns
theorem go_ret {r : Option XV} (h : XRet Y pc r) (hp : Post r M) : Go X Y d pc ls r.toList M Post := by
  intro o1 o2 o3 p e R s m args below meth c cells slots Q H locs lsA C F hl K
  exact K r M H locs pc lsA hp h (fun v hv => o2 v (by cases hv; exact List.mem_singleton.mpr rfl)) o3 F
theorem g_ireturn {v : Int} (hd : decode Y.2.1 pc = .ok (.ireturn, 1)) (hr : Y.2.2.2 = some .int) (hp : Post (some (XI v)) M) : Go X Y d pc ls [XI v] M Post := go_ret (r := some (XI v)) ⟨hd, Or.inl hr⟩ hp
theorem g_zreturn {v : Int} (hd : decode Y.2.1 pc = .ok (.ireturn, 1)) (hr : Y.2.2.2 = some .boolean) (hv : v = 0 ∨ v = 1) (hp : Post (some (XI v)) M) : Go X Y d pc ls [XI v] M Post := go_ret (r := some (XI v)) ⟨hd, Or.inr ⟨hr, hv⟩⟩ hp
theorem g_lreturn {v : Int} (hd : decode Y.2.1 pc = .ok (.lreturn, 1)) (hr : Y.2.2.2 = some .long) (hp : Post (some (XL v)) M) : Go X Y d pc ls [XL v] M Post := go_ret (r := some (XL v)) ⟨hd, hr⟩ hp
theorem g_areturn {a : Nat} {n : String} (hd : decode Y.2.1 pc = .ok (.areturn, 1)) (hr : Y.2.2.2 = some (.object n)) (hp : Post (some (XR a)) M) : Go X Y d pc ls [XR a] M Post := go_ret (r := some (XR a)) ⟨hd, n, hr⟩ hp
theorem g_areturnN {n : String} (hd : decode Y.2.1 pc = .ok (.areturn, 1)) (hr : Y.2.2.2 = some (.object n)) (hp : Post (some XN) M) : Go X Y d pc ls [XN] M Post := go_ret (r := some XN) ⟨hd, n, hr⟩ hp
theorem g_return (hd : decode Y.2.1 pc = .ok (.return_, 1)) (hr : Y.2.2.2 = none) (hp : Post none M) : Go X Y d pc ls [] M Post := go_ret (r := none) ⟨hd, hr⟩ hp
theorem Go.mono {P2 : Option XV → Mem → Prop} (k : Go X Y d pc ls st M Post) (h : ∀ r M', Post r M' → P2 r M') : Go X Y d pc ls st M P2 := by
  intro o1 o2 o3 p e R s m args below meth c cells slots Q H locs lsA C F hl K
  exact k o1 o2 o3 p e R s m args below meth c cells slots Q H locs lsA C F hl (fun r M' H' locs' pc' lsA' hp => K r M' H' locs' pc' lsA' (h r M' hp))
/-- what is known of the values, and of the memory -/
theorem Go.ok (h : (∀ q ∈ ls, xok q.2) → (∀ v ∈ st, xok v) → MR M → Go X Y d pc ls st M Post) : Go X Y d pc ls st M Post := fun o1 o2 o3 => h o1 o2 o3 o1 o2 o3
-- fields
def FL (own : String) (idx ci k : Nat) : Prop := ∃ (C : String) (T : u_T) (N : Nat) (ty0 : Nat → FieldType), vwCl[ci]? = some (C, T, N) ∧ k < N ∧ (∀ w ∈ u_ws C T N, w ∈ xtbl) ∧ (∀ k, k < N → parseFieldDescriptor (T k).2.2.1 = some (ty0 k)) ∧ (∀ a, a < N → ∀ b, b < N → a ≠ b → (T a).2.1 ≠ (T b).2.1) ∧
  (Cond.fieldLink own idx C (T k).2.1 (T k).2.2.1 ∈ xtbl ∨ ∃ host, Cond.fieldLinkNest own idx C (T k).2.1 (T k).2.2.1 host ∈ xtbl) ∧ (T k).1 = C ∧
  (((FK ci k).1 = 0 ∧ (T k).2.2.1 = "I" ∧ (T k).2.2.2 = false) ∨ ((FK ci k).1 = 1 ∧ (T k).2.2.1 = "J" ∧ (T k).2.2.2 = false) ∨ ((FK ci k).1 = 2 ∧ (T k).2.2.1 = "Z" ∧ (T k).2.2.2 = false) ∨ (FK ci k).1 = 3)
theorem fs_at (X : XC) (M : Mem) (o ci : Nat) {k N : Nat} (h : k < N) : ((List.range N).map (xfv X.ad M o ci))[k]? = some (xfv X.ad M o ci k) := by
  rw [List.getElem?_map, List.getElem?_range h]; rfl
theorem go_get {ci k N idx o : Nat} {v : XV} (hd : decode Y.2.1 pc = .ok (.getfield idx, 3)) (hf : FL Y.1.cls idx ci k) (ho : Sh o = (10 + ci, N)) (hk : k < N) (hv : xfv X.ad M o ci k = xc X.ad v) (hok : MR M → xok v) (kk : Go X Y d (pc + 3) ls (v :: st) M Post) : Go X Y d pc ls (XR o :: st) M Post := by
  intro o1 o2 o3 p e R s m args below meth c cells slots Q H locs lsA C F hl K
  obtain ⟨Cn, T, N', ty0, hc, hkN, hin, hty, hnm, hlk, hdc, -⟩ := hf
  have hmem : o ∈ xcells := Sh_mem ho (by omega)
  obtain ⟨q, hq⟩ := xat hmem
  have hat := ws_at X M hq
  rw [xcontO X M ho] at hat
  have k2 := kk o1 (ok_c (hok o3) (ok_t o2)) o3 p e R s m args below meth c cells slots Q H locs lsA C F hl K
  obtain ⟨hx, hb, hml, hown, hts, hK, hI, hSt, hfr, hlo, hce, hsl⟩ := C
  have hfs : ((List.range N).map (xfv X.ad M o ci))[k]? = some (xc X.ad v) := (fs_at X M o ci hk).trans (congrArg some hv)
  rcases hlk with hlk | ⟨host, hlk⟩
  · exact va_get hx hb hts hin hown hK F.1 q hat hc k hkN (hts _ hlk) (fun x h => by rw [hdc] at h; exact h) hfs hd k2
  · exact va_getN hx hb hts hin hown hK F.1 q hat hc k hkN (hts _ hlk) (fun x h => by rw [hdc] at h; exact h) hfs hd k2
theorem xkO {o ci N k : Nat} (ho : Sh o = (10 + ci, N)) : xkind o k = (FK ci k).1 := by
  have e : 10 + ci - 10 = ci := by omega
  have h1 : 10 + ci ≠ 1 := by omega
  have h2 : 10 + ci ≠ 2 := by omega
  have h3 : 10 + ci ≠ 3 := by omega
  have h4 : 10 + ci ≠ 4 := by omega
  have h5 : 10 + ci ≠ 5 := by omega
  have h6 : 10 + ci ≠ 6 := by omega
  unfold xkind
  rw [ho]
  dsimp only
  split <;> first | contradiction | (rw [if_pos (by omega), e])
theorem g_getI {ci k N idx o : Nat} (hd : decode Y.2.1 pc = .ok (.getfield idx, 3)) (hf : FL Y.1.cls idx ci k) (hk : k < N) (hF : FK ci k = (0, 0)) (ho : Sh o = (10 + ci, N)) (kk : Go X Y d (pc + 3) ls (XI (M o k) :: st) M Post) : Go X Y d pc ls (XR o :: st) M Post :=
  go_get hd hf ho hk (by rw [xfv, hF]; rfl) (fun h => by have := h o k; rw [xkO ho, hF] at this; exact this) kk
theorem g_getZ {ci k N idx o : Nat} (hd : decode Y.2.1 pc = .ok (.getfield idx, 3)) (hf : FL Y.1.cls idx ci k) (hk : k < N) (hF : FK ci k = (2, 0)) (ho : Sh o = (10 + ci, N)) (kk : Go X Y d (pc + 3) ls (XI (M o k) :: st) M Post) : Go X Y d pc ls (XR o :: st) M Post :=
  go_get hd hf ho hk (by rw [xfv, hF]; rfl) (fun h => by have := h o k; rw [xkO ho, hF] at this; rcases this with e | e <;> (show i32 _; rw [e]; constructor <;> decide)) kk
theorem g_getJ {ci k N idx o : Nat} (hd : decode Y.2.1 pc = .ok (.getfield idx, 3)) (hf : FL Y.1.cls idx ci k) (hk : k < N) (hF : FK ci k = (1, 0)) (ho : Sh o = (10 + ci, N)) (kk : Go X Y d (pc + 3) ls (XL (M o k) :: st) M Post) : Go X Y d pc ls (XR o :: st) M Post :=
  go_get hd hf ho hk (by rw [xfv, hF]; rfl) (fun h => by have := h o k; rw [xkO ho, hF] at this; exact this) kk
theorem g_getR {ci k N idx o δ : Nat} (hd : decode Y.2.1 pc = .ok (.getfield idx, 3)) (hf : FL Y.1.cls idx ci k) (hk : k < N) (hF : FK ci k = (3, δ)) (ho : Sh o = (10 + ci, N)) (kk : Go X Y d (pc + 3) ls (XR (o + δ) :: st) M Post) : Go X Y d pc ls (XR o :: st) M Post :=
  go_get (v := XR (o + δ)) hd hf ho hk (by rw [xfv, hF]; rfl) (fun _ => True.intro) kk
theorem wr_ne {a j b : Nat} {v : Int} (h : b ≠ a) : wr M a j v b = M b := by
  funext k; unfold wr; rw [if_neg (fun z => h z.1)]
theorem wr_at {a j k : Nat} {v : Int} : wr M a j v a k = if k = j then v else M a k := by
  unfold wr
  by_cases h : k = j
  · rw [if_pos ⟨rfl, h⟩, if_pos h]
  · rw [if_neg (fun z => h z.2), if_neg h]
theorem MR_wr {a j : Nat} {v : Int} (h : MR M) (hv : xrg (xkind a j) v) : MR (wr M a j v) := by
  intro b k
  unfold wr
  by_cases e : b = a ∧ k = j
  · rw [if_pos e, e.1, e.2]; exact hv
  · rw [if_neg e]; exact h b k
theorem fs_set (X : XC) {o ci k N : Nat} {v : Int} {w : Value} (hk : k < N) (hw : xfv X.ad (wr M o k v) o ci k = w) : ((List.range N).map (xfv X.ad M o ci)).set k w = (List.range N).map (xfv X.ad (wr M o k v) o ci) := by
  apply List.ext_getElem?
  intro j
  by_cases hj : j = k
  · subst hj
    rw [List.getElem?_set_self (by rw [List.length_map, List.length_range]; exact hk), fs_at X _ o ci hk, hw]
  · rw [List.getElem?_set_ne (Ne.symm hj)]
    by_cases hjN : j < N
    · rw [fs_at X _ o ci hjN, fs_at X _ o ci hjN]
      simp only [xfv, wr_at, if_neg hj]
    · rw [List.getElem?_eq_none (by rw [List.length_map, List.length_range]; omega), List.getElem?_eq_none (by rw [List.length_map, List.length_range]; omega)]
end
end
section
section
variable {X : XC} {Y : XY} {d pc : Nat} {ls ls' : List (Nat × XV)} {st : List XV} {M : Mem} {Post : Option XV → Mem → Prop}
theorem go_put {ci k N idx o : Nat} {v : Int} {w : Value} {ty : FieldType} (hd : decode Y.2.1 pc = .ok (.putfield idx, 3)) (hf : FL Y.1.cls idx ci k) (ho : Sh o = (10 + ci, N)) (hk : k < N) (x : XV) (hxw : xc X.ad x = w) (hw : xfv X.ad (wr M o k v) o ci k = w) (hty : ∀ (C : String) (T : u_T) (N : Nat), vwCl[ci]? = some (C, T, N) → (((FK ci k).1 = 0 ∧ (T k).2.2.1 = "I" ∧ (T k).2.2.2 = false) ∨ ((FK ci k).1 = 1 ∧ (T k).2.2.1 = "J" ∧ (T k).2.2.2 = false) ∨ ((FK ci k).1 = 2 ∧ (T k).2.2.1 = "Z" ∧ (T k).2.2.2 = false) ∨ (FK ci k).1 = 3) → (T k).2.2.2 = false ∧ parseFieldDescriptor (T k).2.2.1 = some ty) (hn : narrow ty w = w) (hfit : fits ty w = true) (hrg : xok x → xrg (xkind o k) v)
    (kk : Go X Y d (pc + 3) ls st (wr M o k v) Post) : Go X Y d pc ls (x :: XR o :: st) M Post := by
  intro o1 o2 o3 p e R s m args below meth c cells slots Q H locs lsA C F hl K
  obtain ⟨Cn, T, N', ty0, hc, hkN, hin, hty0, hnm, hlk, hdc, hkd⟩ := hf
  have hmem : o ∈ xcells := Sh_mem ho (by omega)
  obtain ⟨q, hq⟩ := xat hmem
  have hat := ws_at X M hq
  rw [xcontO X M ho] at hat
  have k2 := fun (H1 : Heap) (locs1 : List Loc) (F1 : XF X (wr M o k v) s H1 locs1) => kk o1 (ok_t (ok_t o2)) (MR_wr o3 (hrg (ok_h o2))) p e R s m args below meth c cells slots Q H1 locs1 lsA C F1 hl K
  have hset : (wsM X M).set q (X.ad o, .inr (ci, ((List.range N).map (xfv X.ad M o ci)).set k w)) = wsM X (wr M o k v) := by
    rw [fs_set X hk hw, ← xcontO X (wr M o k v) ho]
    exact ws_set X hq (fun j hj => wr_ne hj)
  obtain ⟨hx, hb, hml, hown, hts, hK, hI, hSt, hfr, hlo, hce, hsl⟩ := C
  obtain ⟨h1, h2⟩ := hty Cn T N' hc hkd
  have hlen : k < ((List.range N).map (xfv X.ad M o ci)).length := by rw [List.length_map, List.length_range]; exact hk
  show W p X.1 e R s m args below meth c H locs cells slots Q (F0 m pc lsA (xc X.ad x :: .ref (X.ad o) :: xst X st))
  rw [hxw]
  rcases hlk with hlk | ⟨host, hlk⟩
  · exact va_put hx hb hts hin ty0 hty0 hnm hown hK F.1 (wsD X M hI) F.2 q hat hc k hkN (hts _ hlk) (fun x h => by rw [hdc] at h; exact h) h1 h2 hn hfit hlen hd (fun H1 locs1 a1 _ a3 => k2 H1 locs1 ⟨hset ▸ a1, a3⟩)
  · exact va_putN hx hb hts hin ty0 hty0 hnm hown hK F.1 (wsD X M hI) F.2 q hat hc k hkN (hts _ hlk) (fun x h => by rw [hdc] at h; exact h) h1 h2 hn hfit hlen hd (fun H1 locs1 a1 _ a3 => k2 H1 locs1 ⟨hset ▸ a1, a3⟩)
theorem g_putI {ci k N idx o : Nat} {v : Int} (hd : decode Y.2.1 pc = .ok (.putfield idx, 3)) (hf : FL Y.1.cls idx ci k) (hk : k < N) (hF : FK ci k = (0, 0)) (ho : Sh o = (10 + ci, N)) (kk : Go X Y d (pc + 3) ls st (wr M o k v) Post) : Go X Y d pc ls (XI v :: XR o :: st) M Post :=
  go_put (ty := .int) hd hf ho hk (XI v) rfl (by rw [xfv, hF, wr_at, if_pos rfl]; rfl) (fun C T N _ h => by
    rw [hF] at h
    rcases h with ⟨_, h1, h2⟩ | ⟨h, _⟩ | ⟨h, _⟩ | h
    · exact ⟨h2, by rw [h1]; decide +kernel⟩
    · exact absurd h (by decide)
    · exact absurd h (by decide)
    · exact absurd h (by decide)) rfl rfl (fun h => by rw [xkO ho, hF]; exact h) kk
theorem g_putJ {ci k N idx o : Nat} {v : Int} (hd : decode Y.2.1 pc = .ok (.putfield idx, 3)) (hf : FL Y.1.cls idx ci k) (hk : k < N) (hF : FK ci k = (1, 0)) (ho : Sh o = (10 + ci, N)) (kk : Go X Y d (pc + 3) ls st (wr M o k v) Post) : Go X Y d pc ls (XL v :: XR o :: st) M Post :=
  go_put (ty := .long) hd hf ho hk (XL v) rfl (by rw [xfv, hF, wr_at, if_pos rfl]; rfl) (fun C T N _ h => by
    rw [hF] at h
    rcases h with ⟨h, _⟩ | ⟨_, h1, h2⟩ | ⟨h, _⟩ | h
    · exact absurd h (by decide)
    · exact ⟨h2, by rw [h1]; decide +kernel⟩
    · exact absurd h (by decide)
    · exact absurd h (by decide)) rfl rfl (fun h => by rw [xkO ho, hF]; exact h) kk
theorem z01 {v : Int} (h : v = 0 ∨ v = 1) : narrow .boolean (.int (Int32.ofInt v)) = .int (Int32.ofInt v) ∧ fits .boolean (.int (Int32.ofInt v)) = true := by
  rcases h with rfl | rfl <;> exact ⟨rfl, rfl⟩
theorem g_putZ {ci k N idx o : Nat} {v : Int} (hd : decode Y.2.1 pc = .ok (.putfield idx, 3)) (hf : FL Y.1.cls idx ci k) (hk : k < N) (hF : FK ci k = (2, 0)) (ho : Sh o = (10 + ci, N)) (hv : v = 0 ∨ v = 1) (kk : Go X Y d (pc + 3) ls st (wr M o k v) Post) : Go X Y d pc ls (XI v :: XR o :: st) M Post :=
  go_put (ty := .boolean) hd hf ho hk (XI v) rfl (by rw [xfv, hF, wr_at, if_pos rfl]; rfl) (fun C T N _ h => by
    rw [hF] at h
    rcases h with ⟨h, _⟩ | ⟨h, _⟩ | ⟨_, h1, h2⟩ | h
    · exact absurd h (by decide)
    · exact absurd h (by decide)
    · exact ⟨h2, by rw [h1]; decide +kernel⟩
    · exact absurd h (by decide)) (z01 hv).1 (z01 hv).2 (fun h => by rw [xkO ho, hF]; exact hv) kk
-- arrays: reading
theorem xk1 {i n j : Nat} (h : Sh i = (1, n)) : xkind i j = 0 := by unfold xkind; rw [h]; rfl
theorem xk2 {i n j : Nat} (h : Sh i = (2, n)) : xkind i j = 1 := by unfold xkind; rw [h]; rfl
theorem xk3 {i n j : Nat} (h : Sh i = (3, n)) : xkind i j = 2 := by unfold xkind; rw [h]; rfl
theorem MR_i {i n j : Nat} (o : MR M) (h : Sh i = (1, n)) : i32 (M i j) := by have := o i j; rw [xk1 h] at this; exact this
theorem MR_l {i n j : Nat} (o : MR M) (h : Sh i = (2, n)) : i64 (M i j) := by have := o i j; rw [xk2 h] at this; exact this
theorem MR_z {i n j : Nat} (o : MR M) (h : Sh i = (3, n)) : M i j = 0 ∨ M i j = 1 := by have := o i j; rw [xk3 h] at this; exact this
theorem g_iald {a n : Nat} {i : Int} (hd : decode Y.2.1 pc = .ok (.iaload, 1)) (ha : Sh a = (1, n)) (h0 : 0 ≤ i) (h1 : i < n) (kk : Go X Y d (pc + 1) ls (XI (M a i.toNat) :: st) M Post) : Go X Y d pc ls (XI i :: XR a :: st) M Post := by
  intro o1 o2 o3 p e R s m args below meth c cells slots Q H locs lsA C F hl K
  obtain ⟨q, hq⟩ := xat (Sh_mem ha (by decide))
  have hat := ws_at X M hq
  rw [xcont1 X M ha] at hat
  have k2 := kk o1 (ok_cI (MR_i o3 ha) (ok_t (ok_t o2))) o3 p e R s m args below meth c cells slots Q H locs lsA C F hl K
  rw [← i32_nat (ok_hI o2) h0] at k2
  exact va_iald C.1 C.2.1 C.2.2.2.2.2.1 F.1 q 0 hat rfl (i32_vin (ok_hI o2) h0 h1) hd k2
theorem g_zald {a n : Nat} {i : Int} (hd : decode Y.2.1 pc = .ok (.baload, 1)) (ha : Sh a = (3, n)) (h0 : 0 ≤ i) (h1 : i < n) (kk : Go X Y d (pc + 1) ls (XI (M a i.toNat) :: st) M Post) : Go X Y d pc ls (XI i :: XR a :: st) M Post := by
  intro o1 o2 o3 p e R s m args below meth c cells slots Q H locs lsA C F hl K
  obtain ⟨q, hq⟩ := xat (Sh_mem ha (by decide))
  have hat := ws_at X M hq
  rw [xcont3 X M ha] at hat
  have k2 := kk o1 (ok_cI (by rcases MR_z (j := i.toNat) o3 ha with z | z <;> (rw [z]; constructor <;> decide)) (ok_t (ok_t o2))) o3 p e R s m args below meth c cells slots Q H locs lsA C F hl K
  rw [← i32_nat (ok_hI o2) h0] at k2
  exact va_zald C.1 C.2.1 C.2.2.2.2.2.1 F.1 q 2 hat rfl (i32_vin (ok_hI o2) h0 h1) hd k2
theorem g_lald {a n : Nat} {i : Int} (hd : decode Y.2.1 pc = .ok (.laload, 1)) (ha : Sh a = (2, n)) (h0 : 0 ≤ i) (h1 : i < n) (kk : Go X Y d (pc + 1) ls (XL (M a i.toNat) :: st) M Post) : Go X Y d pc ls (XI i :: XR a :: st) M Post := by
  intro o1 o2 o3 p e R s m args below meth c cells slots Q H locs lsA C F hl K
  obtain ⟨q, hq⟩ := xat (Sh_mem ha (by decide))
  have hat := ws_at X M hq
  rw [xcont2 X M ha] at hat
  have k2 := kk o1 (ok_cL (MR_l o3 ha) (ok_t (ok_t o2))) o3 p e R s m args below meth c cells slots Q H locs lsA C F hl K
  rw [← i32_nat (ok_hI o2) h0] at k2
  exact va_lald C.1 C.2.1 C.2.2.2.2.2.1 F.1 q 1 hat rfl (i32_vin (ok_hI o2) h0 h1) hd k2
theorem xrf_at {X : XC} {a n j : Nat} (h : j < n) : va_rf (xrf X.ad a n j) = xc X.ad (XR (a + 36 + 16 * j)) := by unfold xrf; rw [if_pos h]; rfl
theorem g_aald {a n kd : Nat} {i : Int} (hd : decode Y.2.1 pc = .ok (.aaload, 1)) (ha : Sh a = (kd, n)) (hkd : kd = 4 ∨ kd = 5 ∨ kd = 6) (h0 : 0 ≤ i) (h1 : i < n) (kk : Go X Y d (pc + 1) ls (XR (a + 36 + 16 * i.toNat) :: st) M Post) : Go X Y d pc ls (XI i :: XR a :: st) M Post := by
  intro o1 o2 o3 p e R s m args below meth c cells slots Q H locs lsA C F hl K
  obtain ⟨q, hq⟩ := xat (Sh_mem ha (by omega))
  have hat := ws_at X M hq
  have k2 := kk o1 (ok_cR (ok_t (ok_t o2))) o3 p e R s m args below meth c cells slots Q H locs lsA C F hl K
  have k3 : W p X.1 e R s m args below meth c H locs cells slots Q (F0 m (pc + 1) lsA (va_rf (xrf X.ad a n (Int32.ofInt i).toNatClampNeg) :: xst X st)) := by
    rw [i32_nat (ok_hI o2) h0, xrf_at (by omega)]; exact k2
  have hlt : (Int32.ofInt i).toNatClampNeg < n := by rw [i32_nat (ok_hI o2) h0]; omega
  rcases hkd with rfl | rfl | rfl
  · rw [xcont4 X M ha] at hat
    exact va_aldq C.1 C.2.1 C.2.2.2.2.2.1 F.1 q 3 hat rfl (i32_vin (ok_hI o2) h0 h1) hd k3
  · rw [xcont5 X M ha] at hat
    exact va_aldq C.1 C.2.1 C.2.2.2.2.2.1 F.1 q 4 hat rfl (i32_vin (ok_hI o2) h0 h1) hd k3
  · rw [xcont6 X M ha] at hat
    exact W.aald (v := va_rf (xrf X.ad a n (Int32.ofInt i).toNatClampNeg)) (ty := .array .long) C.1 C.2.1 (F.1 q _ hat) ((C.2.2.2.2.2.1.2 5 _ rfl).1 n (fun j => va_rf (xrf X.ad a n j))) rfl (fun z => by cases z) (by show ¬ (_ ∨ (arrV _ _ _).slots.size ≤ _); rw [arrV_size]; exact i32_vin (ok_hI o2) h0 h1) (by show (arrV _ _ _).slots[_]? = _; rw [arrV_read _ _ hlt]) rfl rfl hd k3
theorem g_alen {a n kd : Nat} (hd : decode Y.2.1 pc = .ok (.arraylength, 1)) (ha : Sh a = (kd, n)) (hkd : 1 ≤ kd ∧ kd ≤ 6) (hn : n < 1000) (kk : Go X Y d (pc + 1) ls (XI n :: st) M Post) : Go X Y d pc ls (XR a :: st) M Post := by
  intro o1 o2 o3 p e R s m args below meth c cells slots Q H locs lsA C F hl K
  obtain ⟨q, hq⟩ := xat (Sh_mem ha (by omega))
  have hat := ws_at X M hq
  have k2 := kk o1 (ok_cI (by constructor <;> omega) (ok_t o2)) o3 p e R s m args below meth c cells slots Q H locs lsA C F hl K
  have hv : Int32.ofNat n = Int32.ofInt (n : Int) := Int32.ofInt_eq_ofNat.symm
  rcases (show kd = 1 ∨ kd = 2 ∨ kd = 3 ∨ kd = 4 ∨ kd = 5 ∨ kd = 6 by omega) with rfl | rfl | rfl | rfl | rfl | rfl
  · rw [xcont1 X M ha] at hat; exact va_alen C.1 C.2.1 C.2.2.2.2.2.1 F.1 q 0 hat rfl hv hd k2
  · rw [xcont2 X M ha] at hat; exact va_alen C.1 C.2.1 C.2.2.2.2.2.1 F.1 q 1 hat rfl hv hd k2
  · rw [xcont3 X M ha] at hat; exact va_alen C.1 C.2.1 C.2.2.2.2.2.1 F.1 q 2 hat rfl hv hd k2
  · rw [xcont4 X M ha] at hat; exact va_alen C.1 C.2.1 C.2.2.2.2.2.1 F.1 q 3 hat rfl hv hd k2
  · rw [xcont5 X M ha] at hat; exact va_alen C.1 C.2.1 C.2.2.2.2.2.1 F.1 q 4 hat rfl hv hd k2
  · rw [xcont6 X M ha] at hat; exact va_alen C.1 C.2.1 C.2.2.2.2.2.1 F.1 q 5 hat rfl hv hd k2
-- the static PLACES (7), the script (5)
theorem g_gets {idx : Nat} (hd : decode Y.2.1 pc = .ok (.getstatic idx, 3)) (hw : Cond.fieldLinkNest Y.1.cls idx "KeepCount" "PLACES" "[I" "KeepCount" ∈ xtbl) (kk : Go X Y d (pc + 3) ls (XR 7 :: st) M Post) : Go X Y d pc ls st M Post := by
  intro o1 o2 o3 p e R s m args below meth c cells slots Q H locs lsA C F hl K
  have k2 := kk o1 (ok_cR o2) o3 p e R s m args below meth c cells slots Q H locs lsA C F hl K
  obtain ⟨hx, hb, hml, hown, hts, hK, hI, hSt, -⟩ := C
  exact va_getsN hx hb hSt.1 F.2 hown (hts _ hw) (fun x h => h) hd k2
theorem g_alenC (hd : decode Y.2.1 pc = .ok (.arraylength, 1)) (kk : Go X Y d (pc + 1) ls (XI 8 :: st) M Post) : Go X Y d pc ls (XR 7 :: st) M Post := by
  intro o1 o2 o3 p e R s m args below meth c cells slots Q H locs lsA C F hl K
  have k2 := kk o1 (ok_cI (by constructor <;> decide) (ok_t o2)) o3 p e R s m args below meth c cells slots Q H locs lsA C F hl K
  obtain ⟨hx, hb, hml, hown, hts, hK, hI, hSt, -⟩ := C
  exact va_tlen hx hb hSt.2.1 F.2 (v := Int32.ofInt 8) rfl hd k2
theorem xpl_ok (j : Nat) : i32 (xpl j) := by
  by_cases h : j < 8
  · rcases (show j = 0 ∨ j = 1 ∨ j = 2 ∨ j = 3 ∨ j = 4 ∨ j = 5 ∨ j = 6 ∨ j = 7 by omega) with rfl | rfl | rfl | rfl | rfl | rfl | rfl | rfl <;> (constructor <;> decide)
  · have : xpl j = 0 := by unfold xpl; rw [List.getD_eq_getElem?_getD, List.getElem?_eq_none (by show 8 ≤ j; omega)]; rfl
    rw [this]; exact i32_0
theorem g_ialdC {i : Int} (hd : decode Y.2.1 pc = .ok (.iaload, 1)) (h0 : 0 ≤ i) (h1 : i < 8) (kk : Go X Y d (pc + 1) ls (XI (xpl i.toNat) :: st) M Post) : Go X Y d pc ls (XI i :: XR 7 :: st) M Post := by
  intro o1 o2 o3 p e R s m args below meth c cells slots Q H locs lsA C F hl K
  have k2 := kk o1 (ok_cI (xpl_ok _) (ok_t (ok_t o2))) o3 p e R s m args below meth c cells slots Q H locs lsA C F hl K
  obtain ⟨hx, hb, hml, hown, hts, hK, hI, hSt, -⟩ := C
  rw [← i32_nat (ok_hI o2) h0] at k2
  exact va_ti hx hb hSt.2.1 F.2 (i32_vin (n := 8) (ok_hI o2) h0 h1) rfl hd k2
theorem g_alenS (hL : X.2.2.2.2.1 < 2147483648) (hd : decode Y.2.1 pc = .ok (.arraylength, 1)) (kk : Go X Y d (pc + 1) ls (XI (X.2.2.2.2.1 : Nat) :: st) M Post) : Go X Y d pc ls (XR 5 :: st) M Post := by
  intro o1 o2 o3 p e R s m args below meth c cells slots Q H locs lsA C F hl K
  have k2 := kk o1 (ok_cI (by constructor <;> omega) (ok_t o2)) o3 p e R s m args below meth c cells slots Q H locs lsA C F hl K
  obtain ⟨hx, hb, hml, hown, hts, hK, hI, hSt, -⟩ := C
  refine va_slen hx hb hSt.2.2.1 hSt.2.2.2.1 hSt.2.2.2.2 F.2 hd ?_
  rw [← Int32.ofInt_eq_ofNat]; exact k2
theorem g_ialdS {i : Int} (hd : decode Y.2.1 pc = .ok (.iaload, 1)) (h0 : 0 ≤ i) (h1 : i < X.2.2.2.2.1) (kk : Go X Y d (pc + 1) ls (XI (X.2.2.2.2.2 i.toNat).toInt :: st) M Post) : Go X Y d pc ls (XI i :: XR 5 :: st) M Post := by
  intro o1 o2 o3 p e R s m args below meth c cells slots Q H locs lsA C F hl K
  have k2 := kk o1 (ok_cI (i32_to _) (ok_t (ok_t o2))) o3 p e R s m args below meth c cells slots Q H locs lsA C F hl K
  obtain ⟨hx, hb, hml, hown, hts, hK, hI, hSt, -⟩ := C
  refine va_sld hx hb hSt.2.2.1 hSt.2.2.2.1 hSt.2.2.2.2 F.2 (i32_vin (ok_hI o2) h0 h1) hd ?_
  rw [i32_nat (ok_hI o2) h0, ← Int32.ofInt_toInt (X.2.2.2.2.2 i.toNat)]; exact k2
end
end
section
section
variable {X : XC} {Y : XY} {d pc : Nat} {ls ls' : List (Nat × XV)} {st : List XV} {M : Mem} {Post : Option XV → Mem → Prop}
theorem g_iast {a n : Nat} {i v : Int} (hd : decode Y.2.1 pc = .ok (.iastore, 1)) (ha : Sh a = (1, n)) (h0 : 0 ≤ i) (h1 : i < n) (kk : Go X Y d (pc + 1) ls st (wr M a i.toNat v) Post) : Go X Y d pc ls (XI v :: XI i :: XR a :: st) M Post := by
  intro o1 o2 o3 p e R s m args below meth c cells slots Q H locs lsA C F hl K
  obtain ⟨q, hq⟩ := xat (Sh_mem ha (by decide))
  have hat := ws_at X M hq
  rw [xcont1 X M ha] at hat
  refine va_iast C.1 C.2.1 C.2.2.2.2.2.1 F.1 (wsD X M C.2.2.2.2.2.2.1) F.2 q 0 hat rfl (i32_vin (ok_hI (ok_t o2)) h0 h1) hd (fun H1 locs1 a1 _ a3 => ?_)
  refine kk o1 (ok_t (ok_t (ok_t o2))) (MR_wr o3 (by rw [xk1 ha]; exact ok_hI o2)) p e R s m args below meth c cells slots Q H1 locs1 lsA C ⟨?_, a3⟩ hl K
  rw [← ws_set X hq (fun j hj => wr_ne hj), xcont1 X (wr M a i.toNat v) ha]
  rw [i32_nat (ok_hI (ok_t o2)) h0] at a1
  have e : upd (fun j => Int32.ofInt (M a j)) i.toNat (Int32.ofInt v) = fun j => Int32.ofInt (wr M a i.toNat v a j) := by
    funext j; rw [wr_at]; unfold upd; by_cases h : j = i.toNat
    · rw [if_pos h, if_pos h]
    · rw [if_neg h, if_neg h]
  rw [e] at a1
  exact a1
theorem z01n {v : Int} (h : v = 0 ∨ v = 1) : vp_nar .boolean (Int32.ofInt v) = Int32.ofInt v := by rcases h with rfl | rfl <;> rfl
theorem g_zast {a n : Nat} {i v : Int} (hd : decode Y.2.1 pc = .ok (.bastore, 1)) (ha : Sh a = (3, n)) (h0 : 0 ≤ i) (h1 : i < n) (hv : v = 0 ∨ v = 1) (kk : Go X Y d (pc + 1) ls st (wr M a i.toNat v) Post) : Go X Y d pc ls (XI v :: XI i :: XR a :: st) M Post := by
  intro o1 o2 o3 p e R s m args below meth c cells slots Q H locs lsA C F hl K
  obtain ⟨q, hq⟩ := xat (Sh_mem ha (by decide))
  have hat := ws_at X M hq
  rw [xcont3 X M ha] at hat
  refine va_zast C.1 C.2.1 C.2.2.2.2.2.1 F.1 (wsD X M C.2.2.2.2.2.2.1) F.2 q 2 hat rfl (i32_vin (ok_hI (ok_t o2)) h0 h1) hd (fun H1 locs1 a1 _ a3 => ?_)
  refine kk o1 (ok_t (ok_t (ok_t o2))) (MR_wr o3 (by rw [xk3 ha]; exact hv)) p e R s m args below meth c cells slots Q H1 locs1 lsA C ⟨?_, a3⟩ hl K
  rw [← ws_set X hq (fun j hj => wr_ne hj), xcont3 X (wr M a i.toNat v) ha]
  rw [i32_nat (ok_hI (ok_t o2)) h0, z01n hv] at a1
  have e : upd (fun j => Int32.ofInt (M a j)) i.toNat (Int32.ofInt v) = fun j => Int32.ofInt (wr M a i.toNat v a j) := by
    funext j; rw [wr_at]; unfold upd; by_cases h : j = i.toNat
    · rw [if_pos h, if_pos h]
    · rw [if_neg h, if_neg h]
  rw [e] at a1
  exact a1
theorem g_last {a n : Nat} {i v : Int} (hd : decode Y.2.1 pc = .ok (.lastore, 1)) (ha : Sh a = (2, n)) (h0 : 0 ≤ i) (h1 : i < n) (kk : Go X Y d (pc + 1) ls st (wr M a i.toNat v) Post) : Go X Y d pc ls (XL v :: XI i :: XR a :: st) M Post := by
  intro o1 o2 o3 p e R s m args below meth c cells slots Q H locs lsA C F hl K
  obtain ⟨q, hq⟩ := xat (Sh_mem ha (by decide))
  have hat := ws_at X M hq
  rw [xcont2 X M ha] at hat
  refine va_last C.1 C.2.1 C.2.2.2.2.2.1 F.1 (wsD X M C.2.2.2.2.2.2.1) F.2 q 1 hat rfl (i32_vin (ok_hI (ok_t o2)) h0 h1) hd (fun H1 locs1 a1 _ a3 => ?_)
  refine kk o1 (ok_t (ok_t (ok_t o2))) (MR_wr o3 (by rw [xk2 ha]; exact ok_hL o2)) p e R s m args below meth c cells slots Q H1 locs1 lsA C ⟨?_, a3⟩ hl K
  rw [← ws_set X hq (fun j hj => wr_ne hj), xcont2 X (wr M a i.toNat v) ha]
  rw [i32_nat (ok_hI (ok_t o2)) h0] at a1
  have e : vp_updL (fun j => Int64.ofInt (M a j)) i.toNat (Int64.ofInt v) = fun j => Int64.ofInt (wr M a i.toNat v a j) := by
    funext j; rw [wr_at]; unfold vp_updL; by_cases h : j = i.toNat
    · rw [if_pos h, if_pos h]
    · rw [if_neg h, if_neg h]
  rw [e] at a1
  exact a1
-- arraycopy
theorem w_nat : Cond.native arraycopyName ∈ xtbl := at_x 839 (by decide +kernel) rfl
theorem w_stt : Cond.static arraycopyName ∈ xtbl := at_x 838 (by decide +kernel) rfl
theorem w_inS : Cond.initialized "java/lang/System" ∈ xtbl := at_x 81 (by decide +kernel) rfl
theorem cp_ne {a i b j n x : Nat} (h : x ≠ b) : cpM M a i b j n x = M x := by
  funext k; unfold cpM; rw [if_neg (fun z => h z.1)]
theorem cp_at {a i b j n k : Nat} : cpM M a i b j n b k = if j ≤ k ∧ k < j + n then M a (i + (k - j)) else M b k := by
  unfold cpM
  by_cases h : j ≤ k ∧ k < j + n
  · rw [if_pos ⟨rfl, h⟩, if_pos h]
  · rw [if_neg (fun z => h z.2), if_neg h]
theorem MR_cp {a i b j n : Nat} (h : MR M) (hk : ∀ x y, xkind a x = xkind b y) : MR (cpM M a i b j n) := by
  intro x k
  unfold cpM
  by_cases e : x = b ∧ j ≤ k ∧ k < j + n
  · rw [if_pos e, e.1]; rw [← hk (i + (k - j)) k]; exact h a _
  · rw [if_neg e]; exact h x k
def xcat (st : List XV) : Nat := (st.map (fun v => if xlong v then 2 else 1)).sum
theorem xcat_eq (X : XC) : ∀ st : List XV, ((xst X st).map fun v => v.category).sum = xcat st
  | [] => rfl
  | v :: st => by
    have h := xcat_eq X st
    show (xc X.ad v).category + ((xst X st).map fun v => v.category).sum = (if xlong v then 2 else 1) + xcat st
    rw [h]
    rcases v with v | v | v | v <;> rfl
theorem g_copy {a b kd n0 n1 idx : Nat} {sp dp n : Int} (hd : decode Y.2.1 pc = .ok (.invokestatic idx, 3)) (hw : Cond.methodLink Y.1.cls idx arraycopyName ∈ xtbl) (ha : Sh a = (kd, n0)) (hb0 : Sh b = (kd, n1)) (hkd : kd = 1 ∨ kd = 2 ∨ kd = 3) (h1 : 0 ≤ sp) (h2 : 0 ≤ dp) (h3 : 0 ≤ n) (h4 : sp + n ≤ n0) (h5 : dp + n ≤ n1) (hst : xcat st ≤ 8)
    (kk : Go X Y (d + 1) (pc + 3) ls st (cpM M a sp.toNat b dp.toNat n.toNat) Post) : Go X Y (d + 1) pc ls (XI n :: XI dp :: XR b :: XI sp :: XR a :: st) M Post := by
  intro o1 o2 o3 p e R s m args below meth c cells slots Q H locs lsA C F hl K
  obtain ⟨q0, hq0⟩ := xat (Sh_mem ha (by omega))
  obtain ⟨q1, hq1⟩ := xat (Sh_mem hb0 (by omega))
  have hat0 := ws_at X M hq0
  have hat1 := ws_at X M hq1
  have okn := ok_hI o2
  have okd := ok_hI (ok_t o2)
  have oks := ok_hI (ok_t (ok_t (ok_t o2)))
  obtain ⟨hx, hb, hml, hown, hts, hK, hI, hSt, hfr, hlo, hce, hsl⟩ := id C
  have e1 := i32_nat oks h1
  have e2 := i32_nat okd h2
  have e3 := i32_nat okn h3
  have n1' : ¬ Int32.ofInt sp < 0 := fun z => by have := (i32_lt oks i32_0).mp z; omega
  have n2' : ¬ Int32.ofInt dp < 0 := fun z => by have := (i32_lt okd i32_0).mp z; omega
  have n3' : ¬ Int32.ofInt n < 0 := fun z => by have := (i32_lt okn i32_0).mp z; omega
  have hloc : ((xst X st).map fun v => v.category).sum + (nativeFrameWords "java/lang/System" "arraycopy" 5 + 11) ≤ R.locals := by
    rw [xcat_eq]
    have : nativeFrameWords "java/lang/System" "arraycopy" 5 ≤ 18 := by decide +kernel
    omega
  have fin : ∀ (H1 : Heap) (locs1 : List Loc), va_P X.2.1 vwCl (wsM X (cpM M a sp.toNat b dp.toNat n.toNat)) H1 → va_S (XA X) s.heap H1 locs1 → (∀ x y, xkind a x = xkind b y) → W p X.1 e R s m args below meth c H1 locs1 cells slots Q (F0 m (pc + 3) lsA (xst X st)) := fun H1 locs1 a1 a3 hk =>
    kk o1 (ok_t (ok_t (ok_t (ok_t (ok_t o2))))) (MR_cp o3 hk) p e R s m args below meth c cells slots Q H1 locs1 lsA C ⟨a1, a3⟩ hl K
  rcases hkd with rfl | rfl | rfl
  · rw [xcont1 X M ha] at hat0
    rw [xcont1 X M hb0] at hat1
    refine va_copyi hx hb (hml.trans hl.1.symm) hown (hts _ hw) (hts _ w_nat) (hts _ w_stt) (hts _ w_inS) hK F.1 (wsD X M hI) F.2 q0 q1 0 0 hat0 hat1 rfl rfl rfl n1' n2' n3' (by rw [e1, e3]; omega) (by rw [e2, e3]; omega) (fun i hi => rfl) (by omega) hloc hd (fun H1 locs1 a1 _ a3 => ?_)
    rw [e1, e2, e3] at a1
    refine fin H1 locs1 ?_ a3 (fun x y => by rw [xk1 ha, xk1 hb0])
    rw [← ws_set X hq1 (fun j hj => cp_ne hj), xcont1 X _ hb0]
    have e : va_cpy (fun j => Int32.ofInt (M a j)) (fun j => Int32.ofInt (M b j)) sp.toNat dp.toNat n.toNat = fun j => Int32.ofInt (cpM M a sp.toNat b dp.toNat n.toNat b j) := by
      funext j; rw [cp_at]; unfold va_cpy; by_cases h : dp.toNat ≤ j ∧ j < dp.toNat + n.toNat
      · rw [if_pos h, if_pos h]
      · rw [if_neg h, if_neg h]
    rw [e] at a1
    exact a1
  · rw [xcont2 X M ha] at hat0
    rw [xcont2 X M hb0] at hat1
    refine va_copyl hx hb (hml.trans hl.1.symm) hown (hts _ hw) (hts _ w_nat) (hts _ w_stt) (hts _ w_inS) hK F.1 (wsD X M hI) F.2 q0 q1 1 1 hat0 hat1 rfl rfl rfl n1' n2' n3' (by rw [e1, e3]; omega) (by rw [e2, e3]; omega) (fun i hi => rfl) (by omega) hloc hd (fun H1 locs1 a1 _ a3 => ?_)
    rw [e1, e2, e3] at a1
    refine fin H1 locs1 ?_ a3 (fun x y => by rw [xk2 ha, xk2 hb0])
    rw [← ws_set X hq1 (fun j hj => cp_ne hj), xcont2 X _ hb0]
    have e : va_cpy (fun j => Int64.ofInt (M a j)) (fun j => Int64.ofInt (M b j)) sp.toNat dp.toNat n.toNat = fun j => Int64.ofInt (cpM M a sp.toNat b dp.toNat n.toNat b j) := by
      funext j; rw [cp_at]; unfold va_cpy; by_cases h : dp.toNat ≤ j ∧ j < dp.toNat + n.toNat
      · rw [if_pos h, if_pos h]
      · rw [if_neg h, if_neg h]
    rw [e] at a1
    exact a1
  · rw [xcont3 X M ha] at hat0
    rw [xcont3 X M hb0] at hat1
    refine va_copyi (ty := .boolean) hx hb (hml.trans hl.1.symm) hown (hts _ hw) (hts _ w_nat) (hts _ w_stt) (hts _ w_inS) hK F.1 (wsD X M hI) F.2 q0 q1 2 2 hat0 hat1 rfl rfl rfl n1' n2' n3' (by rw [e1, e3]; omega) (by rw [e2, e3]; omega) (fun i hi => (z01 (MR_z o3 ha)).2) (by omega) hloc hd (fun H1 locs1 a1 _ a3 => ?_)
    rw [e1, e2, e3] at a1
    refine fin H1 locs1 ?_ a3 (fun x y => by rw [xk3 ha, xk3 hb0])
    rw [← ws_set X hq1 (fun j hj => cp_ne hj), xcont3 X _ hb0]
    have e : va_cpy (fun j => Int32.ofInt (M a j)) (fun j => Int32.ofInt (M b j)) sp.toNat dp.toNat n.toNat = fun j => Int32.ofInt (cpM M a sp.toNat b dp.toNat n.toNat b j) := by
      funext j; rw [cp_at]; unfold va_cpy; by_cases h : dp.toNat ≤ j ∧ j < dp.toNat + n.toNat
      · rw [if_pos h, if_pos h]
      · rw [if_neg h, if_neg h]
    rw [e] at a1
    exact a1
end
end
section
section
variable {X : XC} {Y : XY} {d pc : Nat} {ls ls' : List (Nat × XV)} {st : List XV} {M : Mem} {Post : Option XV → Mem → Prop}
-- Math
theorem w_maxI : Cond.static Lib.Math.max.name ∈ xtbl ∧ Cond.initialized "java/lang/Math" ∈ xtbl ∧ Cond.code Lib.Math.max.name Lib.Math.max.code 2 (some .int) ∈ xtbl := ⟨at_x 427 (by decide +kernel) rfl, at_x 79 (by decide +kernel) rfl, at_x 428 (by decide +kernel) rfl⟩
theorem w_maxL : Cond.static Lib.MathLoose.max_long.x ∈ xtbl ∧ Cond.code Lib.MathLoose.max_long.x Lib.MathLoose.max_long.code 4 (some .long) ∈ xtbl := ⟨at_x 566 (by decide +kernel) rfl, at_x 567 (by decide +kernel) rfl⟩
theorem w_minL : Cond.static Lib.MathLoose.min_long.x ∈ xtbl ∧ Cond.code Lib.MathLoose.min_long.x Lib.MathLoose.min_long.code 4 (some .long) ∈ xtbl := ⟨at_x 559 (by decide +kernel) rfl, at_x 560 (by decide +kernel) rfl⟩
theorem g_maxI {a b : Int} {idx : Nat} (hd : decode Y.2.1 pc = .ok (.invokestatic idx, 3)) (hw : Cond.methodLink Y.1.cls idx Lib.Math.max.name ∈ xtbl) (hst : xcat st ≤ 8) (kk : Go X Y (d + 1) (pc + 3) ls (XI (if a < b then b else a) :: st) M Post) : Go X Y (d + 1) pc ls (XI b :: XI a :: st) M Post := by
  intro o1 o2 o3 p e R s m args below meth c cells slots Q H locs lsA C F hl K
  have oa := ok_hI (ok_t o2)
  have ob := ok_hI o2
  have k2 := kk o1 (ok_cI (by split <;> assumption) (ok_t (ok_t o2))) o3 p e R s m args below meth c cells slots Q H locs lsA C F hl K
  obtain ⟨hx, hb, hml, hown, hts, hK, hI, hSt, hfr, hlo, hce, hsl⟩ := id C
  refine va_mmax hx hb (hml.trans hl.1.symm) hown (hts _ hw) (hts _ w_maxI.1) (hts _ w_maxI.2.1) (hts _ w_maxI.2.2) (by omega) (by rw [show ((List.map (xc X.ad) st).map fun v => v.category).sum = xcat st from xcat_eq X st]; omega) hce hsl hd ?_
  have e : (if Int32.ofInt a < Int32.ofInt b then Int32.ofInt b else Int32.ofInt a) = Int32.ofInt (if a < b then b else a) := by
    by_cases h : a < b
    · rw [if_pos h, if_pos ((i32_lt oa ob).mpr h)]
    · rw [if_neg h, if_neg (fun z => h ((i32_lt oa ob).mp z))]
  rw [e]; exact k2
theorem g_maxL {a b : Int} {idx : Nat} (hd : decode Y.2.1 pc = .ok (.invokestatic idx, 3)) (hw : Cond.methodLink Y.1.cls idx Lib.MathLoose.max_long.x ∈ xtbl) (hst : xcat st ≤ 8) (kk : Go X Y (d + 1) (pc + 3) ls (XL (if b < a then a else b) :: st) M Post) : Go X Y (d + 1) pc ls (XL b :: XL a :: st) M Post := by
  intro o1 o2 o3 p e R s m args below meth c cells slots Q H locs lsA C F hl K
  have oa := ok_hL (ok_t o2)
  have ob := ok_hL o2
  have k2 := kk o1 (ok_cL (by split <;> assumption) (ok_t (ok_t o2))) o3 p e R s m args below meth c cells slots Q H locs lsA C F hl K
  obtain ⟨hx, hb, hml, hown, hts, hK, hI, hSt, hfr, hlo, hce, hsl⟩ := id C
  refine va_mmax_long hx hb (hml.trans hl.1.symm) hown (hts _ hw) (hts _ w_maxL.1) (hts _ w_maxI.2.1) (hts _ w_maxL.2) (by omega) (by rw [show ((List.map (xc X.ad) st).map fun v => v.category).sum = xcat st from xcat_eq X st]; omega) hce hsl hd ?_
  have e : (if Int64.ofInt b < Int64.ofInt a then Int64.ofInt a else Int64.ofInt b) = Int64.ofInt (if b < a then a else b) := by
    by_cases h : b < a
    · rw [if_pos h, if_pos ((i64_lt ob oa).mpr h)]
    · rw [if_neg h, if_neg (fun z => h ((i64_lt ob oa).mp z))]
  rw [e]; exact k2
theorem g_minL {a b : Int} {idx : Nat} (hd : decode Y.2.1 pc = .ok (.invokestatic idx, 3)) (hw : Cond.methodLink Y.1.cls idx Lib.MathLoose.min_long.x ∈ xtbl) (hst : xcat st ≤ 8) (kk : Go X Y (d + 1) (pc + 3) ls (XL (if a < b then a else b) :: st) M Post) : Go X Y (d + 1) pc ls (XL b :: XL a :: st) M Post := by
  intro o1 o2 o3 p e R s m args below meth c cells slots Q H locs lsA C F hl K
  have oa := ok_hL (ok_t o2)
  have ob := ok_hL o2
  have k2 := kk o1 (ok_cL (by split <;> assumption) (ok_t (ok_t o2))) o3 p e R s m args below meth c cells slots Q H locs lsA C F hl K
  obtain ⟨hx, hb, hml, hown, hts, hK, hI, hSt, hfr, hlo, hce, hsl⟩ := id C
  refine va_mmin_long hx hb (hml.trans hl.1.symm) hown (hts _ hw) (hts _ w_minL.1) (hts _ w_maxI.2.1) (hts _ w_minL.2) (by omega) (by rw [show ((List.map (xc X.ad) st).map fun v => v.category).sum = xcat st from xcat_eq X st]; omega) hce hsl hd ?_
  have e : (if Int64.ofInt b < Int64.ofInt a then Int64.ofInt b else Int64.ofInt a) = Int64.ofInt (if a < b then a else b) := by
    by_cases h : a < b
    · rw [if_pos h, if_neg (fun z => by have := (i64_lt ob oa).mp z; omega)]
    · rcases Int.lt_trichotomy a b with h2 | h2 | h2
      · exact absurd h2 h
      · rw [h2, if_neg (Int.lt_irrefl b), if_neg (fun z => by have := (i64_lt ob ob).mp z; omega)]
      · rw [if_neg h, if_pos ((i64_lt ob oa).mpr h2)]
  first | (rw [e]; exact k2) | (
    have e2 : (if Int64.ofInt a < Int64.ofInt b then Int64.ofInt a else Int64.ofInt b) = Int64.ofInt (if a < b then a else b) := by
      by_cases h : a < b
      · rw [if_pos h, if_pos ((i64_lt oa ob).mpr h)]
      · rw [if_neg h, if_neg (fun z => h ((i64_lt oa ob).mp z))]
    rw [e2]; exact k2)
-- the world that never changes
theorem XSt.kept {U : State} {H H1 : Heap} (h : XSt X U H) (hsz : H.size ≤ H1.size) (hq : ∀ a : Nat, a < H.size → ¬ XA X a → H1[a]? = H[a]?) : XSt X U H1 :=
  ⟨h.1.kept hq, h.2.1.kept hq, h.2.2.1.kept (hq _ h.2.2.2.1 h.2.2.2.2), Nat.lt_of_lt_of_le h.2.2.2.1 hsz, h.2.2.2.2⟩
theorem XSt.moved {u U : State} {H : Heap} (hvm : u.vm.Alike U.vm) (h : XSt X u H) : XSt X U H := ⟨h.1.moved hvm, h.2.1.moved hvm, h.2.2.1.moved hvm, h.2.2.2⟩
theorem goodY {Y' : XY} (hc : Cond.code Y'.1 Y'.2.1 Y'.2.2.1 Y'.2.2.2 ∈ xtbl) {ws : List Cond} (hm : ∀ w ∈ ws, w ∈ xtbl ∧ goodWord w = true) : GoodIn xtbl (ws ++ xws Y') := by
  intro w hw
  have h : w ∈ xtbl ∧ goodWord w = true := by
    rcases List.mem_append.mp hw with h | h
    · exact hm w h
    · rcases List.mem_cons.mp h with h | h
      · rw [h]; exact ⟨hc, rfl⟩
      · exact x_of_good h
  exact ⟨h.1, good_of_word h.2⟩
theorem blindW (X : XC) (M : Mem) (av : List Value) : FrameBlind (va_Pc av (Wd X M)) := fun a U g mk q => ⟨q.1, q.2.1, va_K.moved (u := U) (U := U.calling g mk a) (Vm.Alike.refl U.vm) q.2.2.1, q.2.2.2.1, XSt.moved (u := U) (U := U.calling g mk a) (Vm.Alike.refl U.vm) q.2.2.2.2.1, XNw.same (u := U) (U := U.calling g mk a) rfl q.2.2.2.2.2⟩
/-- of a method: the tables' words -/
def MD (Y' : XY) (n : Nat) : Prop := Cond.code Y'.1 Y'.2.1 Y'.2.2.1 Y'.2.2.2 ∈ xtbl ∧ Cond.initialized Y'.1.cls ∈ xtbl ∧ (Y'.1.cls ≠ "java/lang/invoke/MethodHandle" ∧ Y'.1.cls ≠ "java/lang/invoke/VarHandle" ∧ (parseMethodDescriptor Y'.1.desc).map (fun d => d.parameters.length) = some n) ∧ Y'.2.2.1 ≤ 18
def MV (Y' : XY) : Prop := Cond.instanceMethod Y'.1 ∈ xtbl ∧ Cond.selects Y'.1.cls Y'.1 Y'.1 ∈ xtbl
theorem go_after {Y' : XY} {as : List XV} {Pq : Option XV → Mem → Prop} {p : Program} {e : Env} {R : Room} {s : State} {m : MethodId} {args : Array Value} {below : List Frame} {meth : Method} {c : Code} {cells slots : Nat} {Q : State → Prop} {H : Heap} {locs : List Loc} {lsA : Array Slot} {st0 : List Value} {aa : Array Value}
    (hr : va_Run p X.1 e R s m args below meth c H locs cells slots 0 0 (F0 m pc lsA st0) (xst X st) (QP X Pq aa) (XA X)) (k : ∀ r M', Pq r M' → Go X Y d (pc + 3) ls (r.toList ++ st) M' Post)
    (o1 : ∀ q ∈ ls, xok q.2) (o2 : ∀ v ∈ st, xok v) (C : XCtx X Y d p R s m args meth c cells slots) (F : XF X M s H locs) (hl : lv_has lsA Y.2.2.1 (xls X ls))
    (K : ∀ (r : Option XV) (M' : Mem) (H' : Heap) (locs' : List Loc) (pc' : Nat) (lsA' : Array Slot), Post r M' → XRet Y pc' r → (∀ v ∈ r, xok v) → MR M' → XF X M' s H' locs' →
      W p X.1 e R s m args below meth c H' locs' cells slots Q (F0 m pc' lsA' (xst X r.toList))) : W p X.1 e R s m args below meth c H locs cells slots Q (F0 m pc lsA st0) := by
  intro T hT Xs
  obtain ⟨v, st₀, t, T', L, h0, X', hL, e1, e2, ⟨r, M', hp, hro, hMR, hv, hPP, hFF⟩, step⟩ := hr T hT Xs
  cases hv
  have hS : va_S (XA X) s.heap T'.heap (locs ++ L) := by
    obtain ⟨z1, z2⟩ := hFF
    rw [h0] at z1 z2
    refine ⟨Nat.le_trans F.2.1 (by rw [e1]; exact z1), fun q h1 h2 => ?_, fun q hq => ?_⟩
    · rw [e1, z2 q (Nat.lt_of_lt_of_le h1 F.2.1) h2]; exact F.2.2.1 q h1 h2
    · rcases List.mem_append.mp hq with h | h
      · exact F.2.2.2 q h
      · exact hL q h
  have ho : ∀ w ∈ r.toList ++ st, xok w := fun w hw => by
    rcases List.mem_append.mp hw with h | h
    · exact hro w (by cases r with | none => cases h | some x => exact (List.mem_singleton.mp h) ▸ rfl)
    · exact o2 w h
  have k2 := k r M' hp o1 ho hMR p e R s m args below meth c cells slots Q T'.heap (locs ++ L) lsA C ⟨by rw [e1]; exact hPP, hS⟩ hl K
  obtain ⟨t2, a1, b1⟩ := k2 T' rfl X'
  refine ⟨t2, step t2 ?_, b1⟩
  have es : (r.map (xc X.ad)).toList ++ xst X st = xst X (r.toList ++ st) := by
    cases r <;> simp [xst]
  show Steps p.tables e below (T'.setTop (F0 m (pc + 3) lsA ((r.map (xc X.ad)).toList ++ xst X st))) t2
  rw [es]; exact a1
theorem xst_rev (X : XC) (as st : List XV) : xst X (as.reverse ++ st) = (as.map (xc X.ad)).reverse ++ xst X st := by
  unfold xst; rw [List.map_append, List.map_reverse]
theorem g_callV {Y' : XY} {as : List XV} {o ci n N idx : Nat} {Pq : Option XV → Mem → Prop} (hd : decode Y.2.1 pc = .ok (.invokevirtual idx, 3)) (hw : Cond.methodLink Y.1.cls idx Y'.1 ∈ xtbl) (hm : MD Y' n) (hv : MV Y') (hn : as.length = n) (ho : Sh o = (10 + ci, N)) (hci : (vwCl[ci]?).map (·.1) = some Y'.1.cls) (hst : xcat st ≤ 8)
    (hc : Ct X Y' d (XR o :: as) M Pq) {st0 : List XV} (h0 : as.reverse ++ XR o :: st = st0) (k : ∀ r M', Pq r M' → Go X Y (d + 1) (pc + 3) ls (r.toList ++ st) M' Post) : Go X Y (d + 1) pc ls st0 M Post := by
  subst h0
  intro o1 o2 o3 p e R s m args below meth c cells slots Q H locs lsA C F hl K
  have o4 : ∀ v ∈ XR o :: as, xok v := fun v hv => by
    rcases List.mem_cons.mp hv with h | h
    · rw [h]; exact True.intro
    · exact o2 v (List.mem_append_left _ (List.mem_reverse.mpr h))
  have o5 : ∀ v ∈ st, xok v := fun v hv => o2 v (List.mem_append_right _ (List.mem_cons_of_mem _ hv))
  obtain ⟨hx, hb, hml, hown, hts, hK, hI, hSt, hfr, hlo, hce, hsl⟩ := id C
  obtain ⟨q, hq⟩ := xat (Sh_mem ho (by omega))
  have hat := ws_at X M hq
  rw [xcontO X M ho] at hat
  obtain ⟨vc, hvc, hvn⟩ : ∃ vc, vwCl[ci]? = some vc ∧ vc.1 = Y'.1.cls := by
    cases h : vwCl[ci]? with
    | none => rw [h] at hci; cases hci
    | some vc => rw [h] at hci; exact ⟨vc, rfl, Option.some.inj hci⟩
  have hrec := va_recv hK F.1 hvc hat
  rw [hvn] at hrec
  have hG : GoodIn xtbl (wsV Y.1.cls idx Y'.1.cls Y'.1 (xws Y')) := goodY hm.1 (fun w hw' => by
    simp only [List.mem_cons, List.not_mem_nil, or_false] at hw'
    rcases hw' with h | h | h | h
    · rw [h]; exact ⟨hw, rfl⟩
    · rw [h]; exact ⟨hv.1, rfl⟩
    · rw [h]; exact ⟨hv.2, rfl⟩
    · rw [h]; exact ⟨hm.2.1, rfl⟩)
  have run := va_runV (l := X.1) (e := e) (below := below) (meth := meth) (locs := locs) (cells := cells) (slots := slots) (As := as.map (xc X.ad)) (rest := xst X st) (g := F0 m pc lsA (xst X (as.reverse ++ XR o :: st))) ⟨hx, hb, hml, hown, hts⟩ (hc o4 o3) (cwV n hts hG rfl rfl rfl ⟨rfl, hm.2.2.1⟩ ⟨hfr, by have := hm.2.2.2; show 8 + (Y'.2.2.1 + 11) + 37 * d ≤ R.locals; omega⟩)
    ⟨blindW X M _, hrec, fun U hU hW => ⟨rfl, by rw [hU]; exact F.1, va_K.moved hW.alike hK, hI, (XSt.kept hSt (by rw [hU]; exact F.2.1) (fun a h1 h2 => by rw [hU]; exact F.2.2.1 a h1 h2)).moved hW.alike, (XNw.of hts).warm hW⟩⟩
    rfl (by rw [List.length_map]; exact hn) hl.1 (xst_rev X as (XR o :: st)) (lv_room (by rw [xcat_eq]; exact hst)) hd ⟨hce, hsl⟩
  exact go_after (Y' := Y') (as := as) run k o1 o5 C F hl K
theorem g_callS {Y' : XY} {as : List XV} {n idx : Nat} {Pq : Option XV → Mem → Prop} (hd : decode Y.2.1 pc = .ok (.invokestatic idx, 3)) (hw : Cond.methodLink Y.1.cls idx Y'.1 ∈ xtbl) (hm : MD Y' n) (hv : Cond.static Y'.1 ∈ xtbl) (hn : as.length = n) (hst : xcat st ≤ 8)
    (hc : Ct X Y' d as M Pq) {st0 : List XV} (h0 : as.reverse ++ st = st0) (k : ∀ r M', Pq r M' → Go X Y (d + 1) (pc + 3) ls (r.toList ++ st) M' Post) : Go X Y (d + 1) pc ls st0 M Post := by
  subst h0
  intro o1 o2 o3 p e R s m args below meth c cells slots Q H locs lsA C F hl K
  have o4 : ∀ v ∈ as, xok v := fun v hv => o2 v (List.mem_append_left _ (List.mem_reverse.mpr hv))
  have o5 : ∀ v ∈ st, xok v := fun v hv => o2 v (List.mem_append_right _ hv)
  obtain ⟨hx, hb, hml, hown, hts, hK, hI, hSt, hfr, hlo, hce, hsl⟩ := id C
  have hG : GoodIn xtbl (va_wsS Y.1.cls idx Y'.1 (xws Y')) := goodY hm.1 (fun w hw' => by
    simp only [List.mem_cons, List.not_mem_nil, or_false] at hw'
    rcases hw' with h | h | h
    · rw [h]; exact ⟨hw, rfl⟩
    · rw [h]; exact ⟨hv, rfl⟩
    · rw [h]; exact ⟨hm.2.1, rfl⟩)
  have run := va_runS (l := X.1) (e := e) (below := below) (meth := meth) (locs := locs) (cells := cells) (slots := slots) (As := as.map (xc X.ad)) (rest := xst X st) (g := F0 m pc lsA (xst X (as.reverse ++ st))) ⟨hx, hb, hml, hown, hts⟩ (hc o4 o3) (va_cwS n hts hG rfl rfl rfl hm.2.2.1 ⟨hfr, by have := hm.2.2.2; show 8 + (Y'.2.2.1 + 11) + 37 * d ≤ R.locals; omega⟩)
    ⟨blindW X M _, fun U hU hW => ⟨rfl, by rw [hU]; exact F.1, va_K.moved hW.alike hK, hI, (XSt.kept hSt (by rw [hU]; exact F.2.1) (fun a h1 h2 => by rw [hU]; exact F.2.2.1 a h1 h2)).moved hW.alike, (XNw.of hts).warm hW⟩⟩
    rfl (by rw [List.length_map]; exact hn) hl.1 (xst_rev X as st) (lv_room (by rw [xcat_eq]; exact hst)) hd ⟨hce, hsl⟩
  exact go_after (Y' := Y') (as := as) run k o1 o5 C F hl K
/-- a nest mate's private static method -/
theorem g_callN {Y' : XY} {as : List XV} {n idx : Nat} {host : String} {Pq : Option XV → Mem → Prop} (hd : decode Y.2.1 pc = .ok (.invokestatic idx, 3)) (hw : Cond.methodLinkNest Y.1.cls idx Y'.1 host ∈ xtbl) (hm : MD Y' n) (hv : Cond.static Y'.1 ∈ xtbl) (hn : as.length = n) (hst : xcat st ≤ 8)
    (hc : Ct X Y' d as M Pq) {st0 : List XV} (h0 : as.reverse ++ st = st0) (k : ∀ r M', Pq r M' → Go X Y (d + 1) (pc + 3) ls (r.toList ++ st) M' Post) : Go X Y (d + 1) pc ls st0 M Post := by
  subst h0
  intro o1 o2 o3 p e R s m args below meth c cells slots Q H locs lsA C F hl K
  have o4 : ∀ v ∈ as, xok v := fun v hv => o2 v (List.mem_append_left _ (List.mem_reverse.mpr hv))
  have o5 : ∀ v ∈ st, xok v := fun v hv => o2 v (List.mem_append_right _ hv)
  obtain ⟨hx, hb, hml, hown, hts, hK, hI, hSt, hfr, hlo, hce, hsl⟩ := id C
  have hG : GoodIn xtbl (xws Y') := goodY (ws := []) hm.1 (fun w hw' => by cases hw')
  have run := va_runSN (l := X.1) (e := e) (below := below) (meth := meth) (locs := locs) (cells := cells) (slots := slots) (host := host) (As := as.map (xc X.ad)) (rest := xst X st) (g := F0 m pc lsA (xst X (as.reverse ++ st))) ⟨hx, hb, hml, hown, hts⟩ (hc o4 o3) ⟨va_cnB n hts hG rfl rfl rfl (va_Nw.of rfl (hts _ hw)) (hts _ hm.2.1) hm.2.2.1 ⟨hfr, by have := hm.2.2.2; show 8 + (Y'.2.2.1 + 11) + 37 * d ≤ R.locals; omega⟩, hts _ hv, trivial⟩
    ⟨blindW X M _, fun U hU hW => ⟨rfl, by rw [hU]; exact F.1, va_K.moved hW.alike hK, hI, (XSt.kept hSt (by rw [hU]; exact F.2.1) (fun a h1 h2 => by rw [hU]; exact F.2.2.1 a h1 h2)).moved hW.alike, (XNw.of hts).warm hW⟩⟩
    rfl (by rw [List.length_map]; exact hn) hl.1 (xst_rev X as st) (lv_room (by rw [xcat_eq]; exact hst)) hd ⟨hce, hsl⟩
  exact go_after (Y' := Y') (as := as) run k o1 o5 C F hl K
-- contracts
def xargs : Nat → List XV → List (Nat × XV)
  | _, [] => []
  | i, v :: vs => (i, v) :: xargs (if xlong v then i + 2 else i + 1) vs
theorem xargs_eq (X : XC) : ∀ (i : Nat) (as : List XV), lv_args i (as.map (xc X.ad)) = xls X (xargs i as)
  | _, [] => rfl
  | i, v :: vs => by
    show (i, xc X.ad v) :: lv_args (if (xc X.ad v).category = 2 then i + 2 else i + 1) (vs.map (xc X.ad)) = (i, xc X.ad v) :: xls X (xargs (if xlong v then i + 2 else i + 1) vs)
    rw [xargs_eq X _ vs]
    rcases v with v | v | v | v <;> rfl
theorem xsl_len (X : XC) : ∀ as : List XV, (lg_sl (as.map (xc X.ad))).length = xcat as
  | [] => rfl
  | v :: vs => by
    have h := xsl_len X vs
    unfold lg_sl at h ⊢
    rw [List.map_cons, List.flatMap_cons, List.length_append, h]
    rcases v with v | v | v | v <;> rfl
theorem xargs_ok : ∀ (i : Nat) (as : List XV), (∀ v ∈ as, xok v) → ∀ q ∈ xargs i as, xok q.2
  | _, [], _, q, hq => by cases hq
  | i, v :: vs, h, q, hq => by
    rcases List.mem_cons.mp hq with e | e
    · rw [e]; exact ok_h h
    · exact xargs_ok _ vs (ok_t h) q e
theorem ct_go {as : List XV} (hy : plainName Y.1.cls = true) (hn : xcat as ≤ Y.2.2.1) (hl : xargs 0 as = ls) (k : Go X Y d 0 ls [] M Post) : Ct X Y d as M Post := by
  subst hl
  intro oa om
  refine Met.ofW (cc := Y.2.1) (maxL := Y.2.2.1) (ret := Y.2.2.2) hy rfl ?_
  intro p e s m args below meth c s₁ B hml hv
  obtain ⟨rfl, hP, hK, hI, hSt, hNw⟩ := hv
  have hts0 := atoms_spec (ws := xws Y) B.pre
  have hts : ∀ w ∈ xtbl, w.before (as.map (xc X.ad)).toArray s = true := hNw.all (fun w h => hts0 w (List.mem_cons_of_mem _ h))
  have hr := B.returns
  have hlocks := B.notSynchronized
  rw [lg_entry_eq]
  have hl := lv_entry (as.map (xc X.ad)) (n := Y.2.2.1) (by rw [xsl_len]; exact hn)
  rw [xargs_eq] at hl
  refine k (xargs_ok 0 as oa) (fun _ h => by cases h) om p e _ s m _ below meth c 0 0 _ s.heap [] _ ⟨B.exec, B.bytes, hml, findClass_of_methodNamed B.named, hts, hK, hI, hSt, Nat.le_refl _, Nat.le_refl _, Nat.le_refl _, Nat.le_refl _⟩ ⟨hP, va_S.rf⟩ hl ?_
  intro r M' H' locs' pc' lsA' hp hret hro hMR F
  have hq : ∀ t : State, t.heap = H' → s.WarmedH t.vm → QP X Post (as.map (xc X.ad)).toArray s (.returned (r.map (xc X.ad))) t := fun t ht _ => ⟨r, M', hp, hro, hMR, rfl, by rw [ht]; exact F.1, F.2.F ht⟩
  have hf : ∀ q ∈ locs', XA X q.base := F.2.2.2
  rcases r with _ | (v | v | v | v)
  · exact W.vret B.exec B.bytes (hr.trans hret.2) hq hf hret.1
  · rcases hret.2 with h | ⟨h, h01⟩
    · exact W.iret B.exec B.bytes (hr.trans h) hq hf hret.1
    · exact W.zret (ty := .boolean) B.exec B.bytes (hr.trans h) (z01 h01).1 hq hf hret.1
  · exact W.lret B.exec B.bytes (hr.trans hret.2) hq hf hret.1
  · obtain ⟨hd, n, h⟩ := hret
    exact W.aret (rt := .object n) B.exec B.bytes (hr.trans h) (Or.inl ⟨n, rfl⟩) (Or.inl rfl) hq hf hd
  · obtain ⟨hd, n, h⟩ := hret
    exact W.aret (rt := .object n) B.exec B.bytes (hr.trans h) (Or.inl ⟨n, rfl⟩) (Or.inr ⟨_, rfl⟩) hq hf hd
theorem Ct.ok {as : List XV} (h : (∀ v ∈ as, xok v) → MR M → Ct X Y d as M Post) : Ct X Y d as M Post := fun o1 o2 => h o1 o2 o1 o2
theorem Go.okM (h : MR M → Go X Y d pc ls st M Post) : Go X Y d pc ls st M Post := fun o1 o2 o3 => h o3 o1 o2 o3
end
end
section
section
theorem nhJ7 : RJ7 ≠ "java/lang/invoke/MethodHandle" ∧ RJ7 ≠ "java/lang/invoke/VarHandle" := ⟨by decide +kernel, by decide +kernel⟩
theorem nhJ9 : RJ9 ≠ "java/lang/invoke/MethodHandle" ∧ RJ9 ≠ "java/lang/invoke/VarHandle" := ⟨by decide +kernel, by decide +kernel⟩
theorem nhL : RL ≠ "java/lang/invoke/MethodHandle" ∧ RL ≠ "java/lang/invoke/VarHandle" := ⟨by decide +kernel, by decide +kernel⟩
theorem nhX0 : RX0 ≠ "java/lang/invoke/MethodHandle" ∧ RX0 ≠ "java/lang/invoke/VarHandle" := ⟨by decide +kernel, by decide +kernel⟩
theorem nhX1 : RX1 ≠ "java/lang/invoke/MethodHandle" ∧ RX1 ≠ "java/lang/invoke/VarHandle" := ⟨by decide +kernel, by decide +kernel⟩
theorem nhX2 : RX2 ≠ "java/lang/invoke/MethodHandle" ∧ RX2 ≠ "java/lang/invoke/VarHandle" := ⟨by decide +kernel, by decide +kernel⟩
theorem nhX3 : RX3 ≠ "java/lang/invoke/MethodHandle" ∧ RX3 ≠ "java/lang/invoke/VarHandle" := ⟨by decide +kernel, by decide +kernel⟩
theorem nhX4 : RX4 ≠ "java/lang/invoke/MethodHandle" ∧ RX4 ≠ "java/lang/invoke/VarHandle" := ⟨by decide +kernel, by decide +kernel⟩
theorem nhX5 : RX5 ≠ "java/lang/invoke/MethodHandle" ∧ RX5 ≠ "java/lang/invoke/VarHandle" := ⟨by decide +kernel, by decide +kernel⟩
theorem nhX6 : RX6 ≠ "java/lang/invoke/MethodHandle" ∧ RX6 ≠ "java/lang/invoke/VarHandle" := ⟨by decide +kernel, by decide +kernel⟩
theorem nhX7 : RX7 ≠ "java/lang/invoke/MethodHandle" ∧ RX7 ≠ "java/lang/invoke/VarHandle" := ⟨by decide +kernel, by decide +kernel⟩
theorem nhX8 : RX8 ≠ "java/lang/invoke/MethodHandle" ∧ RX8 ≠ "java/lang/invoke/VarHandle" := ⟨by decide +kernel, by decide +kernel⟩
theorem nhX9 : RX9 ≠ "java/lang/invoke/MethodHandle" ∧ RX9 ≠ "java/lang/invoke/VarHandle" := ⟨by decide +kernel, by decide +kernel⟩
abbrev mX0_init : XY := (yX0_init, cX0_init, 1, none)
abbrev mX0_gather : XY := (yX0_gather, cX0_gather, 4, none)
set_option maxRecDepth 100000 in
theorem mdX0_gather : MD mX0_gather 1 := ⟨at_x 498 rfl rfl, at_x 72 rfl rfl, ⟨nhX0.1, nhX0.2, by decide +kernel⟩, by decide⟩
set_option maxRecDepth 100000 in
theorem mvX0_gather : MV mX0_gather := ⟨at_x 496 rfl rfl, at_x 497 rfl rfl⟩
abbrev mX0_put : XY := (yX0_put, cX0_put, 5, none)
set_option maxRecDepth 100000 in
theorem mdX0_put : MD mX0_put 2 := ⟨at_x 509 rfl rfl, at_x 72 rfl rfl, ⟨nhX0.1, nhX0.2, by decide +kernel⟩, by decide⟩
set_option maxRecDepth 100000 in
theorem mvX0_put : MV mX0_put := ⟨at_x 508 rfl rfl, at_x 5 rfl rfl⟩
abbrev mX1_init : XY := (yX1_init, cX1_init, 1, none)
abbrev mX1_copyFrom : XY := (yX1_copyFrom, cX1_copyFrom, 3, none)
set_option maxRecDepth 100000 in
theorem mdX1_copyFrom : MD mX1_copyFrom 1 := ⟨at_x 697 rfl rfl, at_x 70 rfl rfl, ⟨nhX1.1, nhX1.2, by decide +kernel⟩, by decide⟩
set_option maxRecDepth 100000 in
theorem mvX1_copyFrom : MV mX1_copyFrom := ⟨at_x 695 rfl rfl, at_x 696 rfl rfl⟩
abbrev mX1_hasCandidate : XY := (yX1_hasCandidate, cX1_hasCandidate, 2, some .boolean)
set_option maxRecDepth 100000 in
theorem mdX1_hasCandidate : MD mX1_hasCandidate 1 := ⟨at_x 461 rfl rfl, at_x 70 rfl rfl, ⟨nhX1.1, nhX1.2, by decide +kernel⟩, by decide⟩
set_option maxRecDepth 100000 in
theorem mvX1_hasCandidate : MV mX1_hasCandidate := ⟨at_x 459 rfl rfl, at_x 460 rfl rfl⟩
abbrev mX1_hasBallot : XY := (yX1_hasBallot, cX1_hasBallot, 2, some .boolean)
set_option maxRecDepth 100000 in
theorem mdX1_hasBallot : MD mX1_hasBallot 1 := ⟨at_x 449 rfl rfl, at_x 70 rfl rfl, ⟨nhX1.1, nhX1.2, by decide +kernel⟩, by decide⟩
set_option maxRecDepth 100000 in
theorem mvX1_hasBallot : MV mX1_hasBallot := ⟨at_x 447 rfl rfl, at_x 448 rfl rfl⟩
abbrev mX1_together : XY := (yX1_together, cX1_together, 4, some .long)
set_option maxRecDepth 100000 in
theorem mdX1_together : MD mX1_together 0 := ⟨at_x 716 rfl rfl, at_x 70 rfl rfl, ⟨nhX1.1, nhX1.2, by decide +kernel⟩, by decide⟩
set_option maxRecDepth 100000 in
theorem mvX1_together : MV mX1_together := ⟨at_x 714 rfl rfl, at_x 715 rfl rfl⟩
abbrev mX1_placeInLot : XY := (yX1_placeInLot, cX1_placeInLot, 3, some .int)
set_option maxRecDepth 100000 in
theorem mdX1_placeInLot : MD mX1_placeInLot 1 := ⟨at_x 588 rfl rfl, at_x 70 rfl rfl, ⟨nhX1.1, nhX1.2, by decide +kernel⟩, by decide⟩
set_option maxRecDepth 100000 in
theorem mvX1_placeInLot : MV mX1_placeInLot := ⟨at_x 586 rfl rfl, at_x 587 rfl rfl⟩
abbrev mX1_firstHere : XY := (yX1_firstHere, cX1_firstHere, 3, some .int)
set_option maxRecDepth 100000 in
theorem mdX1_firstHere : MD mX1_firstHere 1 := ⟨at_x 596 rfl rfl, at_x 70 rfl rfl, ⟨nhX1.1, nhX1.2, by decide +kernel⟩, by decide⟩
set_option maxRecDepth 100000 in
theorem mvX1_firstHere : MV mX1_firstHere := ⟨at_x 594 rfl rfl, at_x 595 rfl rfl⟩
abbrev mX1_manyFirst : XY := (yX1_manyFirst, cX1_manyFirst, 4, some .int)
set_option maxRecDepth 100000 in
theorem mdX1_manyFirst : MD mX1_manyFirst 1 := ⟨at_x 592 rfl rfl, at_x 70 rfl rfl, ⟨nhX1.1, nhX1.2, by decide +kernel⟩, by decide⟩
set_option maxRecDepth 100000 in
theorem mvX1_manyFirst : MV mX1_manyFirst := ⟨at_x 590 rfl rfl, at_x 591 rfl rfl⟩
abbrev mX1_manyAhead : XY := (yX1_manyAhead, cX1_manyAhead, 5, some .int)
set_option maxRecDepth 100000 in
theorem mdX1_manyAhead : MD mX1_manyAhead 2 := ⟨at_x 670 rfl rfl, at_x 70 rfl rfl, ⟨nhX1.1, nhX1.2, by decide +kernel⟩, by decide⟩
set_option maxRecDepth 100000 in
theorem mvX1_manyAhead : MV mX1_manyAhead := ⟨at_x 668 rfl rfl, at_x 669 rfl rfl⟩
abbrev mX1_isSeenSo : XY := (yX1_isSeenSo, cX1_isSeenSo, 3, some .boolean)
set_option maxRecDepth 100000 in
theorem mdX1_isSeenSo : MD mX1_isSeenSo 1 := ⟨at_x 728 rfl rfl, at_x 70 rfl rfl, ⟨nhX1.1, nhX1.2, by decide +kernel⟩, by decide⟩
set_option maxRecDepth 100000 in
theorem mvX1_isSeenSo : MV mX1_isSeenSo := ⟨at_x 726 rfl rfl, at_x 727 rfl rfl⟩
abbrev mX1_suffer : XY := (yX1_suffer, cX1_suffer, 3, none)
set_option maxRecDepth 100000 in
theorem mdX1_suffer : MD mX1_suffer 2 := ⟨at_x 740 rfl rfl, at_x 70 rfl rfl, ⟨nhX1.1, nhX1.2, by decide +kernel⟩, by decide⟩
set_option maxRecDepth 100000 in
theorem mvX1_suffer : MV mX1_suffer := ⟨at_x 738 rfl rfl, at_x 739 rfl rfl⟩
abbrev mX1_emptyLedBy : XY := (yX1_emptyLedBy, cX1_emptyLedBy, 3, none)
set_option maxRecDepth 100000 in
theorem mdX1_emptyLedBy : MD mX1_emptyLedBy 1 := ⟨at_x 745 rfl rfl, at_x 70 rfl rfl, ⟨nhX1.1, nhX1.2, by decide +kernel⟩, by decide⟩
set_option maxRecDepth 100000 in
theorem mvX1_emptyLedBy : MV mX1_emptyLedBy := ⟨at_x 744 rfl rfl, at_x 21 rfl rfl⟩
abbrev mX2_isRow : XY := (yX2_isRow, cX2_isRow, 6, some .boolean)
set_option maxRecDepth 100000 in
theorem mdX2_isRow : MD mX2_isRow 2 := ⟨at_x 417 rfl rfl, at_x 78 rfl rfl, ⟨nhX2.1, nhX2.2, by decide +kernel⟩, by decide⟩
set_option maxRecDepth 100000 in
theorem msX2_isRow : Cond.static mX2_isRow.1 ∈ xtbl := at_x 416 rfl rfl
abbrev mX2_filledUp : XY := (yX2_filledUp, cX2_filledUp, 3, some .int)
set_option maxRecDepth 100000 in
theorem mdX2_filledUp : MD mX2_filledUp 1 := ⟨at_x 441 rfl rfl, at_x 78 rfl rfl, ⟨nhX2.1, nhX2.2, by decide +kernel⟩, by decide⟩
set_option maxRecDepth 100000 in
theorem msX2_filledUp : Cond.static mX2_filledUp.1 ∈ xtbl := at_x 440 rfl rfl
abbrev mX2_asTold : XY := (yX2_asTold, cX2_asTold, 3, some .int)
set_option maxRecDepth 100000 in
theorem mdX2_asTold : MD mX2_asTold 1 := ⟨at_x 662 rfl rfl, at_x 78 rfl rfl, ⟨nhX2.1, nhX2.2, by decide +kernel⟩, by decide⟩
set_option maxRecDepth 100000 in
theorem msX2_asTold : Cond.static mX2_asTold.1 ∈ xtbl := at_x 661 rfl rfl
abbrev mX2_at : XY := (yX2_at, cX2_at, 2, some .int)
set_option maxRecDepth 100000 in
theorem mdX2_at : MD mX2_at 2 := ⟨at_x 504 rfl rfl, at_x 78 rfl rfl, ⟨nhX2.1, nhX2.2, by decide +kernel⟩, by decide⟩
set_option maxRecDepth 100000 in
theorem msX2_at : Cond.static mX2_at.1 ∈ xtbl := at_x 503 rfl rfl
abbrev mX2_length : XY := (yX2_length, cX2_length, 3, some .int)
set_option maxRecDepth 100000 in
theorem mdX2_length : MD mX2_length 1 := ⟨at_x 605 rfl rfl, at_x 78 rfl rfl, ⟨nhX2.1, nhX2.2, by decide +kernel⟩, by decide⟩
set_option maxRecDepth 100000 in
theorem msX2_length : Cond.static mX2_length.1 ∈ xtbl := at_x 604 rfl rfl
abbrev mX2_placeOf : XY := (yX2_placeOf, cX2_placeOf, 3, some .int)
set_option maxRecDepth 100000 in
theorem mdX2_placeOf : MD mX2_placeOf 2 := ⟨at_x 673 rfl rfl, at_x 78 rfl rfl, ⟨nhX2.1, nhX2.2, by decide +kernel⟩, by decide⟩
set_option maxRecDepth 100000 in
theorem msX2_placeOf : Cond.static mX2_placeOf.1 ∈ xtbl := at_x 672 rfl rfl
abbrev mX2_leftOf : XY := (yX2_leftOf, cX2_leftOf, 5, some .int)
set_option maxRecDepth 100000 in
theorem mdX2_leftOf : MD mX2_leftOf 2 := ⟨at_x 501 rfl rfl, at_x 78 rfl rfl, ⟨nhX2.1, nhX2.2, by decide +kernel⟩, by decide⟩
set_option maxRecDepth 100000 in
theorem msX2_leftOf : Cond.static mX2_leftOf.1 ∈ xtbl := at_x 500 rfl rfl
abbrev mX2_ledBy : XY := (yX2_ledBy, cX2_ledBy, 5, some .int)
set_option maxRecDepth 100000 in
theorem mdX2_ledBy : MD mX2_ledBy 2 := ⟨at_x 708 rfl rfl, at_x 78 rfl rfl, ⟨nhX2.1, nhX2.2, by decide +kernel⟩, by decide⟩
set_option maxRecDepth 100000 in
theorem msX2_ledBy : Cond.static mX2_ledBy.1 ∈ xtbl := at_x 707 rfl rfl
abbrev mX3_init : XY := (yX3_init, cX3_init, 1, none)
abbrev mX4_init : XY := (yX4_init, cX4_init, 3, none)
abbrev mX4_stageAt : XY := (yX4_stageAt, cX4_stageAt, 2, some (.object "KeepCount$Stage"))
set_option maxRecDepth 100000 in
theorem mdX4_stageAt : MD mX4_stageAt 1 := ⟨at_x 624 rfl rfl, at_x 71 rfl rfl, ⟨nhX4.1, nhX4.2, by decide +kernel⟩, by decide⟩
set_option maxRecDepth 100000 in
theorem mvX4_stageAt : MV mX4_stageAt := ⟨at_x 622 rfl rfl, at_x 623 rfl rfl⟩
abbrev mX4_work : XY := (yX4_work, cX4_work, 4, none)
set_option maxRecDepth 100000 in
theorem mdX4_work : MD mX4_work 0 := ⟨at_x 494 rfl rfl, at_x 71 rfl rfl, ⟨nhX4.1, nhX4.2, by decide +kernel⟩, by decide⟩
set_option maxRecDepth 100000 in
theorem mvX4_work : MV mX4_work := ⟨at_x 492 rfl rfl, at_x 493 rfl rfl⟩
abbrev mX4_begin : XY := (yX4_begin, cX4_begin, 3, none)
set_option maxRecDepth 100000 in
theorem mdX4_begin : MD mX4_begin 0 := ⟨at_x 513 rfl rfl, at_x 71 rfl rfl, ⟨nhX4.1, nhX4.2, by decide +kernel⟩, by decide⟩
set_option maxRecDepth 100000 in
theorem mvX4_begin : MV mX4_begin := ⟨at_x 512 rfl rfl, at_x 6 rfl rfl⟩
abbrev mX4_fill : XY := (yX4_fill, cX4_fill, 2, none)
set_option maxRecDepth 100000 in
theorem mdX4_fill : MD mX4_fill 1 := ⟨at_x 518 rfl rfl, at_x 71 rfl rfl, ⟨nhX4.1, nhX4.2, by decide +kernel⟩, by decide⟩
set_option maxRecDepth 100000 in
theorem mvX4_fill : MV mX4_fill := ⟨at_x 517 rfl rfl, at_x 7 rfl rfl⟩
abbrev mX4_goByRounds : XY := (yX4_goByRounds, cX4_goByRounds, 6, none)
set_option maxRecDepth 100000 in
theorem mdX4_goByRounds : MD mX4_goByRounds 2 := ⟨at_x 553 rfl rfl, at_x 71 rfl rfl, ⟨nhX4.1, nhX4.2, by decide +kernel⟩, by decide⟩
set_option maxRecDepth 100000 in
theorem mvX4_goByRounds : MV mX4_goByRounds := ⟨at_x 552 rfl rfl, at_x 12 rfl rfl⟩
abbrev mX4_turnKeeps : XY := (yX4_turnKeeps, cX4_turnKeeps, 4, none)
set_option maxRecDepth 100000 in
theorem mdX4_turnKeeps : MD mX4_turnKeeps 0 := ⟨at_x 557 rfl rfl, at_x 71 rfl rfl, ⟨nhX4.1, nhX4.2, by decide +kernel⟩, by decide⟩
set_option maxRecDepth 100000 in
theorem mvX4_turnKeeps : MV mX4_turnKeeps := ⟨at_x 556 rfl rfl, at_x 13 rfl rfl⟩
abbrev mX4_workOut : XY := (yX4_workOut, cX4_workOut, 2, none)
set_option maxRecDepth 100000 in
theorem mdX4_workOut : MD mX4_workOut 0 := ⟨at_x 522 rfl rfl, at_x 71 rfl rfl, ⟨nhX4.1, nhX4.2, by decide +kernel⟩, by decide⟩
set_option maxRecDepth 100000 in
theorem mvX4_workOut : MV mX4_workOut := ⟨at_x 521 rfl rfl, at_x 8 rfl rfl⟩
abbrev mX4_passOn : XY := (yX4_passOn, cX4_passOn, 10, some .long)
set_option maxRecDepth 100000 in
theorem mdX4_passOn : MD mX4_passOn 2 := ⟨at_x 529 rfl rfl, at_x 71 rfl rfl, ⟨nhX4.1, nhX4.2, by decide +kernel⟩, by decide⟩
set_option maxRecDepth 100000 in
theorem mvX4_passOn : MV mX4_passOn := ⟨at_x 528 rfl rfl, at_x 9 rfl rfl⟩
abbrev mX4_surplus : XY := (yX4_surplus, cX4_surplus, 4, some .long)
set_option maxRecDepth 100000 in
theorem mdX4_surplus : MD mX4_surplus 0 := ⟨at_x 564 rfl rfl, at_x 71 rfl rfl, ⟨nhX4.1, nhX4.2, by decide +kernel⟩, by decide⟩
set_option maxRecDepth 100000 in
theorem mvX4_surplus : MV mX4_surplus := ⟨at_x 563 rfl rfl, at_x 14 rfl rfl⟩
abbrev mX4_note : XY := (yX4_note, cX4_note, 6, none)
set_option maxRecDepth 100000 in
theorem mdX4_note : MD mX4_note 3 := ⟨at_x 537 rfl rfl, at_x 71 rfl rfl, ⟨nhX4.1, nhX4.2, by decide +kernel⟩, by decide⟩
set_option maxRecDepth 100000 in
theorem mvX4_note : MV mX4_note := ⟨at_x 536 rfl rfl, at_x 10 rfl rfl⟩
abbrev mX4_whoReachesQuota : XY := (yX4_whoReachesQuota, cX4_whoReachesQuota, 3, some .int)
set_option maxRecDepth 100000 in
theorem mdX4_whoReachesQuota : MD mX4_whoReachesQuota 0 := ⟨at_x 571 rfl rfl, at_x 71 rfl rfl, ⟨nhX4.1, nhX4.2, by decide +kernel⟩, by decide⟩
set_option maxRecDepth 100000 in
theorem mvX4_whoReachesQuota : MV mX4_whoReachesQuota := ⟨at_x 570 rfl rfl, at_x 15 rfl rfl⟩
abbrev mX4_elect : XY := (yX4_elect, cX4_elect, 5, none)
set_option maxRecDepth 100000 in
theorem mdX4_elect : MD mX4_elect 2 := ⟨at_x 545 rfl rfl, at_x 71 rfl rfl, ⟨nhX4.1, nhX4.2, by decide +kernel⟩, by decide⟩
set_option maxRecDepth 100000 in
theorem mvX4_elect : MV mX4_elect := ⟨at_x 544 rfl rfl, at_x 11 rfl rfl⟩
abbrev mX4_exclude : XY := (yX4_exclude, cX4_exclude, 4, none)
set_option maxRecDepth 100000 in
theorem mdX4_exclude : MD mX4_exclude 1 := ⟨at_x 575 rfl rfl, at_x 71 rfl rfl, ⟨nhX4.1, nhX4.2, by decide +kernel⟩, by decide⟩
set_option maxRecDepth 100000 in
theorem mvX4_exclude : MV mX4_exclude := ⟨at_x 574 rfl rfl, at_x 16 rfl rfl⟩
abbrev mX4_whoHasFewest : XY := (yX4_whoHasFewest, cX4_whoHasFewest, 7, some .int)
set_option maxRecDepth 100000 in
theorem mdX4_whoHasFewest : MD mX4_whoHasFewest 2 := ⟨at_x 579 rfl rfl, at_x 71 rfl rfl, ⟨nhX4.1, nhX4.2, by decide +kernel⟩, by decide⟩
set_option maxRecDepth 100000 in
theorem mvX4_whoHasFewest : MV mX4_whoHasFewest := ⟨at_x 578 rfl rfl, at_x 17 rfl rfl⟩
abbrev mX4_lastInLot : XY := (yX4_lastInLot, cX4_lastInLot, 3, some .int)
set_option maxRecDepth 100000 in
theorem mdX4_lastInLot : MD mX4_lastInLot 1 := ⟨at_x 584 rfl rfl, at_x 71 rfl rfl, ⟨nhX4.1, nhX4.2, by decide +kernel⟩, by decide⟩
set_option maxRecDepth 100000 in
theorem mvX4_lastInLot : MV mX4_lastInLot := ⟨at_x 583 rfl rfl, at_x 18 rfl rfl⟩
abbrev mX4_whoIs : XY := (yX4_whoIs, cX4_whoIs, 4, some .int)
set_option maxRecDepth 100000 in
theorem mdX4_whoIs : MD mX4_whoIs 1 := ⟨at_x 541 rfl rfl, at_x 71 rfl rfl, ⟨nhX4.1, nhX4.2, by decide +kernel⟩, by decide⟩
set_option maxRecDepth 100000 in
theorem mvX4_whoIs : MV mX4_whoIs := ⟨at_x 539 rfl rfl, at_x 540 rfl rfl⟩
abbrev mX4_whoIsHere : XY := (yX4_whoIsHere, cX4_whoIsHere, 1, some .int)
set_option maxRecDepth 100000 in
theorem mdX4_whoIsHere : MD mX4_whoIsHere 0 := ⟨at_x 654 rfl rfl, at_x 71 rfl rfl, ⟨nhX4.1, nhX4.2, by decide +kernel⟩, by decide⟩
set_option maxRecDepth 100000 in
theorem mvX4_whoIsHere : MV mX4_whoIsHere := ⟨at_x 652 rfl rfl, at_x 653 rfl rfl⟩
abbrev mX4_leader : XY := (yX4_leader, cX4_leader, 9, some .int)
set_option maxRecDepth 100000 in
theorem mdX4_leader : MD mX4_leader 3 := ⟨at_x 549 rfl rfl, at_x 71 rfl rfl, ⟨nhX4.1, nhX4.2, by decide +kernel⟩, by decide⟩
set_option maxRecDepth 100000 in
theorem mvX4_leader : MV mX4_leader := ⟨at_x 547 rfl rfl, at_x 548 rfl rfl⟩
abbrev mX4_rankAt : XY := (yX4_rankAt, cX4_rankAt, 5, some .int)
set_option maxRecDepth 100000 in
theorem mdX4_rankAt : MD mX4_rankAt 1 := ⟨at_x 645 rfl rfl, at_x 71 rfl rfl, ⟨nhX4.1, nhX4.2, by decide +kernel⟩, by decide⟩
set_option maxRecDepth 100000 in
theorem mvX4_rankAt : MV mX4_rankAt := ⟨at_x 643 rfl rfl, at_x 644 rfl rfl⟩
abbrev mX5_init : XY := (yX5_init, cX5_init, 1, none)
abbrev mX5_become : XY := (yX5_become, cX5_become, 3, none)
set_option maxRecDepth 100000 in
theorem mdX5_become : MD mX5_become 2 := ⟨at_x 815 rfl rfl, at_x 76 rfl rfl, ⟨nhX5.1, nhX5.2, by decide +kernel⟩, by decide⟩
set_option maxRecDepth 100000 in
theorem mvX5_become : MV mX5_become := ⟨at_x 813 rfl rfl, at_x 814 rfl rfl⟩
abbrev mX5_fitted : XY := (yX5_fitted, cX5_fitted, 3, some .long)
set_option maxRecDepth 100000 in
theorem mdX5_fitted : MD mX5_fitted 1 := ⟨at_x 824 rfl rfl, at_x 76 rfl rfl, ⟨nhX5.1, nhX5.2, by decide +kernel⟩, by decide⟩
set_option maxRecDepth 100000 in
theorem mvX5_fitted : MV mX5_fitted := ⟨at_x 822 rfl rfl, at_x 823 rfl rfl⟩
abbrev mX5_hasRoom : XY := (yX5_hasRoom, cX5_hasRoom, 3, some .boolean)
set_option maxRecDepth 100000 in
theorem mdX5_hasRoom : MD mX5_hasRoom 2 := ⟨at_x 836 rfl rfl, at_x 76 rfl rfl, ⟨nhX5.1, nhX5.2, by decide +kernel⟩, by decide⟩
set_option maxRecDepth 100000 in
theorem mvX5_hasRoom : MV mX5_hasRoom := ⟨at_x 834 rfl rfl, at_x 835 rfl rfl⟩
abbrev mX6_init : XY := (yX6_init, cX6_init, 1, none)
abbrev mX6_sign : XY := (yX6_sign, cX6_sign, 1, some .int)
set_option maxRecDepth 100000 in
theorem mdX6_sign : MD mX6_sign 0 := ⟨at_x 765 rfl rfl, at_x 74 rfl rfl, ⟨nhX6.1, nhX6.2, by decide +kernel⟩, by decide⟩
set_option maxRecDepth 100000 in
theorem mvX6_sign : MV mX6_sign := ⟨at_x 764 rfl rfl, at_x 23 rfl rfl⟩
abbrev mX6_faultToldTo : XY := (yX6_faultToldTo, cX6_faultToldTo, 4, some .int)
set_option maxRecDepth 100000 in
theorem mdX6_faultToldTo : MD mX6_faultToldTo 1 := ⟨at_x 757 rfl rfl, at_x 74 rfl rfl, ⟨nhX6.1, nhX6.2, by decide +kernel⟩, by decide⟩
set_option maxRecDepth 100000 in
theorem mvX6_faultToldTo : MV mX6_faultToldTo := ⟨at_x 755 rfl rfl, at_x 756 rfl rfl⟩
abbrev mX6_readsClause : XY := (yX6_readsClause, cX6_readsClause, 2, some .boolean)
set_option maxRecDepth 100000 in
theorem mdX6_readsClause : MD mX6_readsClause 1 := ⟨at_x 761 rfl rfl, at_x 74 rfl rfl, ⟨nhX6.1, nhX6.2, by decide +kernel⟩, by decide⟩
set_option maxRecDepth 100000 in
theorem mvX6_readsClause : MV mX6_readsClause := ⟨at_x 760 rfl rfl, at_x 22 rfl rfl⟩
abbrev mX6_readsBallot : XY := (yX6_readsBallot, cX6_readsBallot, 2, some .boolean)
set_option maxRecDepth 100000 in
theorem mdX6_readsBallot : MD mX6_readsBallot 1 := ⟨at_x 769 rfl rfl, at_x 74 rfl rfl, ⟨nhX6.1, nhX6.2, by decide +kernel⟩, by decide⟩
set_option maxRecDepth 100000 in
theorem mvX6_readsBallot : MV mX6_readsBallot := ⟨at_x 768 rfl rfl, at_x 24 rfl rfl⟩
abbrev mX6_number : XY := (yX6_number, cX6_number, 4, some .int)
set_option maxRecDepth 100000 in
theorem mdX6_number : MD mX6_number 1 := ⟨at_x 773 rfl rfl, at_x 74 rfl rfl, ⟨nhX6.1, nhX6.2, by decide +kernel⟩, by decide⟩
set_option maxRecDepth 100000 in
theorem mvX6_number : MV mX6_number := ⟨at_x 772 rfl rfl, at_x 25 rfl rfl⟩
abbrev mX7_init : XY := (yX7_init, cX7_init, 1, none)
abbrev mX7_begin : XY := (yX7_begin, cX7_begin, 3, none)
set_option maxRecDepth 100000 in
theorem mdX7_begin : MD mX7_begin 2 := ⟨at_x 433 rfl rfl, at_x 75 rfl rfl, ⟨nhX7.1, nhX7.2, by decide +kernel⟩, by decide⟩
set_option maxRecDepth 100000 in
theorem mvX7_begin : MV mX7_begin := ⟨at_x 431 rfl rfl, at_x 432 rfl rfl⟩
abbrev mX7_addCause : XY := (yX7_addCause, cX7_addCause, 3, none)
set_option maxRecDepth 100000 in
theorem mdX7_addCause : MD mX7_addCause 2 := ⟨at_x 437 rfl rfl, at_x 75 rfl rfl, ⟨nhX7.1, nhX7.2, by decide +kernel⟩, by decide⟩
set_option maxRecDepth 100000 in
theorem mvX7_addCause : MV mX7_addCause := ⟨at_x 435 rfl rfl, at_x 436 rfl rfl⟩
abbrev mX8_init : XY := (yX8_init, cX8_init, 2, none)
abbrev mX8_candidate : XY := (yX8_candidate, cX8_candidate, 2, some .int)
set_option maxRecDepth 100000 in
theorem mdX8_candidate : MD mX8_candidate 0 := ⟨at_x 410 rfl rfl, at_x 69 rfl rfl, ⟨nhX8.1, nhX8.2, by decide +kernel⟩, by decide⟩
set_option maxRecDepth 100000 in
theorem mvX8_candidate : MV mX8_candidate := ⟨at_x 408 rfl rfl, at_x 409 rfl rfl⟩
abbrev mX8_ballot : XY := (yX8_ballot, cX8_ballot, 4, some .int)
set_option maxRecDepth 100000 in
theorem mdX8_ballot : MD mX8_ballot 2 := ⟨at_x 414 rfl rfl, at_x 69 rfl rfl, ⟨nhX8.1, nhX8.2, by decide +kernel⟩, by decide⟩
set_option maxRecDepth 100000 in
theorem mvX8_ballot : MV mX8_ballot := ⟨at_x 412 rfl rfl, at_x 413 rfl rfl⟩
abbrev mX8_many : XY := (yX8_many, cX8_many, 4, some .int)
set_option maxRecDepth 100000 in
theorem mdX8_many : MD mX8_many 2 := ⟨at_x 445 rfl rfl, at_x 69 rfl rfl, ⟨nhX8.1, nhX8.2, by decide +kernel⟩, by decide⟩
set_option maxRecDepth 100000 in
theorem mvX8_many : MV mX8_many := ⟨at_x 443 rfl rfl, at_x 444 rfl rfl⟩
abbrev mX8_drop : XY := (yX8_drop, cX8_drop, 1, some .int)
set_option maxRecDepth 100000 in
theorem mdX8_drop : MD mX8_drop 0 := ⟨at_x 453 rfl rfl, at_x 69 rfl rfl, ⟨nhX8.1, nhX8.2, by decide +kernel⟩, by decide⟩
set_option maxRecDepth 100000 in
theorem mvX8_drop : MV mX8_drop := ⟨at_x 451 rfl rfl, at_x 452 rfl rfl⟩
abbrev mX8_gone : XY := (yX8_gone, cX8_gone, 4, some .int)
set_option maxRecDepth 100000 in
theorem mdX8_gone : MD mX8_gone 2 := ⟨at_x 457 rfl rfl, at_x 69 rfl rfl, ⟨nhX8.1, nhX8.2, by decide +kernel⟩, by decide⟩
set_option maxRecDepth 100000 in
theorem mvX8_gone : MV mX8_gone := ⟨at_x 455 rfl rfl, at_x 456 rfl rfl⟩
abbrev mX8_set : XY := (yX8_set, cX8_set, 3, some .int)
set_option maxRecDepth 100000 in
theorem mdX8_set : MD mX8_set 2 := ⟨at_x 465 rfl rfl, at_x 69 rfl rfl, ⟨nhX8.1, nhX8.2, by decide +kernel⟩, by decide⟩
set_option maxRecDepth 100000 in
theorem mvX8_set : MV mX8_set := ⟨at_x 463 rfl rfl, at_x 464 rfl rfl⟩
abbrev mX8_putSeats : XY := (yX8_putSeats, cX8_putSeats, 3, some .int)
set_option maxRecDepth 100000 in
theorem mdX8_putSeats : MD mX8_putSeats 1 := ⟨at_x 469 rfl rfl, at_x 69 rfl rfl, ⟨nhX8.1, nhX8.2, by decide +kernel⟩, by decide⟩
set_option maxRecDepth 100000 in
theorem mvX8_putSeats : MV mX8_putSeats := ⟨at_x 468 rfl rfl, at_x 1 rfl rfl⟩
abbrev mX8_putLimit : XY := (yX8_putLimit, cX8_putLimit, 3, some .int)
set_option maxRecDepth 100000 in
theorem mdX8_putLimit : MD mX8_putLimit 1 := ⟨at_x 474 rfl rfl, at_x 69 rfl rfl, ⟨nhX8.1, nhX8.2, by decide +kernel⟩, by decide⟩
set_option maxRecDepth 100000 in
theorem mvX8_putLimit : MV mX8_putLimit := ⟨at_x 473 rfl rfl, at_x 2 rfl rfl⟩
abbrev mX8_putRounds : XY := (yX8_putRounds, cX8_putRounds, 3, some .int)
set_option maxRecDepth 100000 in
theorem mdX8_putRounds : MD mX8_putRounds 1 := ⟨at_x 478 rfl rfl, at_x 69 rfl rfl, ⟨nhX8.1, nhX8.2, by decide +kernel⟩, by decide⟩
set_option maxRecDepth 100000 in
theorem mvX8_putRounds : MV mX8_putRounds := ⟨at_x 477 rfl rfl, at_x 3 rfl rfl⟩
abbrev mX8_swap : XY := (yX8_swap, cX8_swap, 4, some .int)
set_option maxRecDepth 100000 in
theorem mdX8_swap : MD mX8_swap 2 := ⟨at_x 482 rfl rfl, at_x 69 rfl rfl, ⟨nhX8.1, nhX8.2, by decide +kernel⟩, by decide⟩
set_option maxRecDepth 100000 in
theorem mvX8_swap : MV mX8_swap := ⟨at_x 480 rfl rfl, at_x 481 rfl rfl⟩
abbrev mX8_isOver : XY := (yX8_isOver, cX8_isOver, 7, some .boolean)
set_option maxRecDepth 100000 in
theorem mdX8_isOver : MD mX8_isOver 2 := ⟨at_x 425 rfl rfl, at_x 69 rfl rfl, ⟨nhX8.1, nhX8.2, by decide +kernel⟩, by decide⟩
set_option maxRecDepth 100000 in
theorem mvX8_isOver : MV mX8_isOver := ⟨at_x 424 rfl rfl, at_x 0 rfl rfl⟩
abbrev mX8_tallied : XY := (yX8_tallied, cX8_tallied, 1, some (.object "KeepCount$Tally"))
set_option maxRecDepth 100000 in
theorem mdX8_tallied : MD mX8_tallied 0 := ⟨at_x 490 rfl rfl, at_x 69 rfl rfl, ⟨nhX8.1, nhX8.2, by decide +kernel⟩, by decide⟩
set_option maxRecDepth 100000 in
theorem mvX8_tallied : MV mX8_tallied := ⟨at_x 489 rfl rfl, at_x 4 rfl rfl⟩
abbrev mX8_of : XY := (yX8_of, cX8_of, 3, some .int)
set_option maxRecDepth 100000 in
theorem mdX8_of : MD mX8_of 2 := ⟨at_x 486 rfl rfl, at_x 69 rfl rfl, ⟨nhX8.1, nhX8.2, by decide +kernel⟩, by decide⟩
set_option maxRecDepth 100000 in
theorem mvX8_of : MV mX8_of := ⟨at_x 484 rfl rfl, at_x 485 rfl rfl⟩
abbrev mX8_ballotOf : XY := (yX8_ballotOf, cX8_ballotOf, 3, some .int)
set_option maxRecDepth 100000 in
theorem mdX8_ballotOf : MD mX8_ballotOf 2 := ⟨at_x 602 rfl rfl, at_x 69 rfl rfl, ⟨nhX8.1, nhX8.2, by decide +kernel⟩, by decide⟩
set_option maxRecDepth 100000 in
theorem mvX8_ballotOf : MV mX8_ballotOf := ⟨at_x 600 rfl rfl, at_x 601 rfl rfl⟩
abbrev mX8_rowOf : XY := (yX8_rowOf, cX8_rowOf, 4, some .int)
set_option maxRecDepth 100000 in
theorem mdX8_rowOf : MD mX8_rowOf 2 := ⟨at_x 610 rfl rfl, at_x 69 rfl rfl, ⟨nhX8.1, nhX8.2, by decide +kernel⟩, by decide⟩
set_option maxRecDepth 100000 in
theorem mvX8_rowOf : MV mX8_rowOf := ⟨at_x 608 rfl rfl, at_x 609 rfl rfl⟩
abbrev mX8_told : XY := (yX8_told, cX8_told, 2, some .int)
set_option maxRecDepth 100000 in
theorem mdX8_told : MD mX8_told 1 := ⟨at_x 615 rfl rfl, at_x 69 rfl rfl, ⟨nhX8.1, nhX8.2, by decide +kernel⟩, by decide⟩
set_option maxRecDepth 100000 in
theorem mvX8_told : MV mX8_told := ⟨at_x 613 rfl rfl, at_x 614 rfl rfl⟩
abbrev mX8_stageOf : XY := (yX8_stageOf, cX8_stageOf, 4, some .int)
set_option maxRecDepth 100000 in
theorem mdX8_stageOf : MD mX8_stageOf 2 := ⟨at_x 620 rfl rfl, at_x 69 rfl rfl, ⟨nhX8.1, nhX8.2, by decide +kernel⟩, by decide⟩
set_option maxRecDepth 100000 in
theorem mvX8_stageOf : MV mX8_stageOf := ⟨at_x 618 rfl rfl, at_x 619 rfl rfl⟩
abbrev mX8_amount : XY := (yX8_amount, cX8_amount, 4, some .long)
set_option maxRecDepth 100000 in
theorem mdX8_amount : MD mX8_amount 2 := ⟨at_x 628 rfl rfl, at_x 69 rfl rfl, ⟨nhX8.1, nhX8.2, by decide +kernel⟩, by decide⟩
set_option maxRecDepth 100000 in
theorem mvX8_amount : MV mX8_amount := ⟨at_x 626 rfl rfl, at_x 627 rfl rfl⟩
abbrev mX8_votes : XY := (yX8_votes, cX8_votes, 5, some .long)
set_option maxRecDepth 100000 in
theorem mdX8_votes : MD mX8_votes 3 := ⟨at_x 633 rfl rfl, at_x 69 rfl rfl, ⟨nhX8.1, nhX8.2, by decide +kernel⟩, by decide⟩
set_option maxRecDepth 100000 in
theorem mvX8_votes : MV mX8_votes := ⟨at_x 631 rfl rfl, at_x 632 rfl rfl⟩
abbrev mX8_elected : XY := (yX8_elected, cX8_elected, 3, some .int)
set_option maxRecDepth 100000 in
theorem mdX8_elected : MD mX8_elected 1 := ⟨at_x 637 rfl rfl, at_x 69 rfl rfl, ⟨nhX8.1, nhX8.2, by decide +kernel⟩, by decide⟩
set_option maxRecDepth 100000 in
theorem mvX8_elected : MV mX8_elected := ⟨at_x 635 rfl rfl, at_x 636 rfl rfl⟩
abbrev mX8_ranked : XY := (yX8_ranked, cX8_ranked, 2, some .int)
set_option maxRecDepth 100000 in
theorem mdX8_ranked : MD mX8_ranked 1 := ⟨at_x 641 rfl rfl, at_x 69 rfl rfl, ⟨nhX8.1, nhX8.2, by decide +kernel⟩, by decide⟩
set_option maxRecDepth 100000 in
theorem mvX8_ranked : MV mX8_ranked := ⟨at_x 639 rfl rfl, at_x 640 rfl rfl⟩
abbrev mX8_standing : XY := (yX8_standing, cX8_standing, 5, some .int)
set_option maxRecDepth 100000 in
theorem mdX8_standing : MD mX8_standing 2 := ⟨at_x 650 rfl rfl, at_x 69 rfl rfl, ⟨nhX8.1, nhX8.2, by decide +kernel⟩, by decide⟩
set_option maxRecDepth 100000 in
theorem mvX8_standing : MV mX8_standing := ⟨at_x 648 rfl rfl, at_x 649 rfl rfl⟩
abbrev mX8_pile : XY := (yX8_pile, cX8_pile, 4, some .int)
set_option maxRecDepth 100000 in
theorem mdX8_pile : MD mX8_pile 2 := ⟨at_x 659 rfl rfl, at_x 69 rfl rfl, ⟨nhX8.1, nhX8.2, by decide +kernel⟩, by decide⟩
set_option maxRecDepth 100000 in
theorem mvX8_pile : MV mX8_pile := ⟨at_x 657 rfl rfl, at_x 658 rfl rfl⟩
abbrev mX8_preferred : XY := (yX8_preferred, cX8_preferred, 3, some .int)
set_option maxRecDepth 100000 in
theorem mdX8_preferred : MD mX8_preferred 2 := ⟨at_x 666 rfl rfl, at_x 69 rfl rfl, ⟨nhX8.1, nhX8.2, by decide +kernel⟩, by decide⟩
set_option maxRecDepth 100000 in
theorem mvX8_preferred : MV mX8_preferred := ⟨at_x 664 rfl rfl, at_x 665 rfl rfl⟩
abbrev mX8_best : XY := (yX8_best, cX8_best, 2, some .int)
set_option maxRecDepth 100000 in
theorem mdX8_best : MD mX8_best 0 := ⟨at_x 677 rfl rfl, at_x 69 rfl rfl, ⟨nhX8.1, nhX8.2, by decide +kernel⟩, by decide⟩
set_option maxRecDepth 100000 in
theorem mvX8_best : MV mX8_best := ⟨at_x 675 rfl rfl, at_x 676 rfl rfl⟩
abbrev mX8_beatsAll : XY := (yX8_beatsAll, cX8_beatsAll, 4, some .boolean)
set_option maxRecDepth 100000 in
theorem mdX8_beatsAll : MD mX8_beatsAll 1 := ⟨at_x 681 rfl rfl, at_x 69 rfl rfl, ⟨nhX8.1, nhX8.2, by decide +kernel⟩, by decide⟩
set_option maxRecDepth 100000 in
theorem mvX8_beatsAll : MV mX8_beatsAll := ⟨at_x 680 rfl rfl, at_x 19 rfl rfl⟩
abbrev mX8_share : XY := (yX8_share, cX8_share, 9, some .long)
set_option maxRecDepth 100000 in
theorem mdX8_share : MD mX8_share 3 := ⟨at_x 685 rfl rfl, at_x 69 rfl rfl, ⟨nhX8.1, nhX8.2, by decide +kernel⟩, by decide⟩
set_option maxRecDepth 100000 in
theorem mvX8_share : MV mX8_share := ⟨at_x 683 rfl rfl, at_x 684 rfl rfl⟩
abbrev mX8_commonDivisor : XY := (yX8_commonDivisor, cX8_commonDivisor, 11, some .long)
set_option maxRecDepth 100000 in
theorem mdX8_commonDivisor : MD mX8_commonDivisor 2 := ⟨at_x 688 rfl rfl, at_x 69 rfl rfl, ⟨nhX8.1, nhX8.2, by decide +kernel⟩, by decide⟩
set_option maxRecDepth 100000 in
theorem msX8_commonDivisor : Cond.static mX8_commonDivisor.1 ∈ xtbl := at_x 687 rfl rfl
abbrev mX8_cut : XY := (yX8_cut, cX8_cut, 4, some .long)
set_option maxRecDepth 100000 in
theorem mdX8_cut : MD mX8_cut 2 := ⟨at_x 533 rfl rfl, at_x 69 rfl rfl, ⟨nhX8.1, nhX8.2, by decide +kernel⟩, by decide⟩
set_option maxRecDepth 100000 in
theorem msX8_cut : Cond.static mX8_cut.1 ∈ xtbl := at_x 532 rfl rfl
abbrev mX8_electedInThought : XY := (yX8_electedInThought, cX8_electedInThought, 1, some .int)
set_option maxRecDepth 100000 in
theorem mdX8_electedInThought : MD mX8_electedInThought 0 := ⟨at_x 701 rfl rfl, at_x 69 rfl rfl, ⟨nhX8.1, nhX8.2, by decide +kernel⟩, by decide⟩
set_option maxRecDepth 100000 in
theorem mvX8_electedInThought : MV mX8_electedInThought := ⟨at_x 700 rfl rfl, at_x 20 rfl rfl⟩
abbrev mX8_without : XY := (yX8_without, cX8_without, 2, some .int)
set_option maxRecDepth 100000 in
theorem mdX8_without : MD mX8_without 1 := ⟨at_x 693 rfl rfl, at_x 69 rfl rfl, ⟨nhX8.1, nhX8.2, by decide +kernel⟩, by decide⟩
set_option maxRecDepth 100000 in
theorem mvX8_without : MV mX8_without := ⟨at_x 691 rfl rfl, at_x 692 rfl rfl⟩
abbrev mX8_raised : XY := (yX8_raised, cX8_raised, 3, some .int)
set_option maxRecDepth 100000 in
theorem mdX8_raised : MD mX8_raised 2 := ⟨at_x 705 rfl rfl, at_x 69 rfl rfl, ⟨nhX8.1, nhX8.2, by decide +kernel⟩, by decide⟩
set_option maxRecDepth 100000 in
theorem mvX8_raised : MV mX8_raised := ⟨at_x 703 rfl rfl, at_x 704 rfl rfl⟩
abbrev mX8_needs : XY := (yX8_needs, cX8_needs, 7, some .int)
set_option maxRecDepth 100000 in
theorem mdX8_needs : MD mX8_needs 2 := ⟨at_x 712 rfl rfl, at_x 69 rfl rfl, ⟨nhX8.1, nhX8.2, by decide +kernel⟩, by decide⟩
set_option maxRecDepth 100000 in
theorem mvX8_needs : MV mX8_needs := ⟨at_x 710 rfl rfl, at_x 711 rfl rfl⟩
abbrev mX8_see : XY := (yX8_see, cX8_see, 3, some .int)
set_option maxRecDepth 100000 in
theorem mdX8_see : MD mX8_see 2 := ⟨at_x 720 rfl rfl, at_x 69 rfl rfl, ⟨nhX8.1, nhX8.2, by decide +kernel⟩, by decide⟩
set_option maxRecDepth 100000 in
theorem mvX8_see : MV mX8_see := ⟨at_x 718 rfl rfl, at_x 719 rfl rfl⟩
abbrev mX8_fits : XY := (yX8_fits, cX8_fits, 5, some .int)
set_option maxRecDepth 100000 in
theorem mdX8_fits : MD mX8_fits 1 := ⟨at_x 724 rfl rfl, at_x 69 rfl rfl, ⟨nhX8.1, nhX8.2, by decide +kernel⟩, by decide⟩
set_option maxRecDepth 100000 in
theorem mvX8_fits : MV mX8_fits := ⟨at_x 722 rfl rfl, at_x 723 rfl rfl⟩
abbrev mX8_event : XY := (yX8_event, cX8_event, 3, some .int)
set_option maxRecDepth 100000 in
theorem mdX8_event : MD mX8_event 2 := ⟨at_x 732 rfl rfl, at_x 69 rfl rfl, ⟨nhX8.1, nhX8.2, by decide +kernel⟩, by decide⟩
set_option maxRecDepth 100000 in
theorem mvX8_event : MV mX8_event := ⟨at_x 730 rfl rfl, at_x 731 rfl rfl⟩
abbrev mX8_after : XY := (yX8_after, cX8_after, 2, some .int)
set_option maxRecDepth 100000 in
theorem mdX8_after : MD mX8_after 0 := ⟨at_x 736 rfl rfl, at_x 69 rfl rfl, ⟨nhX8.1, nhX8.2, by decide +kernel⟩, by decide⟩
set_option maxRecDepth 100000 in
theorem mvX8_after : MV mX8_after := ⟨at_x 734 rfl rfl, at_x 735 rfl rfl⟩
abbrev mX8_feed : XY := (yX8_feed, cX8_feed, 2, some .int)
set_option maxRecDepth 100000 in
theorem mdX8_feed : MD mX8_feed 1 := ⟨at_x 749 rfl rfl, at_x 69 rfl rfl, ⟨nhX8.1, nhX8.2, by decide +kernel⟩, by decide⟩
set_option maxRecDepth 100000 in
theorem mvX8_feed : MV mX8_feed := ⟨at_x 747 rfl rfl, at_x 748 rfl rfl⟩
abbrev mX8_read : XY := (yX8_read, cX8_read, 4, some .int)
set_option maxRecDepth 100000 in
theorem mdX8_read : MD mX8_read 0 := ⟨at_x 753 rfl rfl, at_x 69 rfl rfl, ⟨nhX8.1, nhX8.2, by decide +kernel⟩, by decide⟩
set_option maxRecDepth 100000 in
theorem mvX8_read : MV mX8_read := ⟨at_x 751 rfl rfl, at_x 752 rfl rfl⟩
abbrev mX8_isDone : XY := (yX8_isDone, cX8_isDone, 4, some .boolean)
set_option maxRecDepth 100000 in
theorem mdX8_isDone : MD mX8_isDone 3 := ⟨at_x 779 rfl rfl, at_x 69 rfl rfl, ⟨nhX8.1, nhX8.2, by decide +kernel⟩, by decide⟩
set_option maxRecDepth 100000 in
theorem mvX8_isDone : MV mX8_isDone := ⟨at_x 778 rfl rfl, at_x 26 rfl rfl⟩
abbrev mX8_cause : XY := (yX8_cause, cX8_cause, 3, some .int)
set_option maxRecDepth 100000 in
theorem mdX8_cause : MD mX8_cause 2 := ⟨at_x 787 rfl rfl, at_x 69 rfl rfl, ⟨nhX8.1, nhX8.2, by decide +kernel⟩, by decide⟩
set_option maxRecDepth 100000 in
theorem mvX8_cause : MV mX8_cause := ⟨at_x 785 rfl rfl, at_x 786 rfl rfl⟩
abbrev mX8_tapeAt : XY := (yX8_tapeAt, cX8_tapeAt, 2, some (.object "KeepCount$Tape"))
set_option maxRecDepth 100000 in
theorem mdX8_tapeAt : MD mX8_tapeAt 1 := ⟨at_x 795 rfl rfl, at_x 69 rfl rfl, ⟨nhX8.1, nhX8.2, by decide +kernel⟩, by decide⟩
set_option maxRecDepth 100000 in
theorem mvX8_tapeAt : MV mX8_tapeAt := ⟨at_x 794 rfl rfl, at_x 27 rfl rfl⟩
abbrev mX8_judge : XY := (yX8_judge, cX8_judge, 7, some .int)
set_option maxRecDepth 100000 in
theorem mdX8_judge : MD mX8_judge 3 := ⟨at_x 791 rfl rfl, at_x 69 rfl rfl, ⟨nhX8.1, nhX8.2, by decide +kernel⟩, by decide⟩
set_option maxRecDepth 100000 in
theorem mvX8_judge : MV mX8_judge := ⟨at_x 789 rfl rfl, at_x 790 rfl rfl⟩
abbrev mX8_image : XY := (yX8_image, cX8_image, 1, some .int)
set_option maxRecDepth 100000 in
theorem mdX8_image : MD mX8_image 0 := ⟨at_x 799 rfl rfl, at_x 69 rfl rfl, ⟨nhX8.1, nhX8.2, by decide +kernel⟩, by decide⟩
set_option maxRecDepth 100000 in
theorem mvX8_image : MV mX8_image := ⟨at_x 797 rfl rfl, at_x 798 rfl rfl⟩
abbrev mX8_undo : XY := (yX8_undo, cX8_undo, 1, some .int)
set_option maxRecDepth 100000 in
theorem mdX8_undo : MD mX8_undo 0 := ⟨at_x 803 rfl rfl, at_x 69 rfl rfl, ⟨nhX8.1, nhX8.2, by decide +kernel⟩, by decide⟩
set_option maxRecDepth 100000 in
theorem mvX8_undo : MV mX8_undo := ⟨at_x 801 rfl rfl, at_x 802 rfl rfl⟩
abbrev mX8_count : XY := (yX8_count, cX8_count, 2, some .int)
set_option maxRecDepth 100000 in
theorem mdX8_count : MD mX8_count 1 := ⟨at_x 807 rfl rfl, at_x 69 rfl rfl, ⟨nhX8.1, nhX8.2, by decide +kernel⟩, by decide⟩
set_option maxRecDepth 100000 in
theorem mvX8_count : MV mX8_count := ⟨at_x 805 rfl rfl, at_x 806 rfl rfl⟩
abbrev mX8_tape : XY := (yX8_tape, cX8_tape, 5, some .int)
set_option maxRecDepth 100000 in
theorem mdX8_tape : MD mX8_tape 3 := ⟨at_x 811 rfl rfl, at_x 69 rfl rfl, ⟨nhX8.1, nhX8.2, by decide +kernel⟩, by decide⟩
set_option maxRecDepth 100000 in
theorem mvX8_tape : MV mX8_tape := ⟨at_x 809 rfl rfl, at_x 810 rfl rfl⟩
abbrev mX8_item : XY := (yX8_item, cX8_item, 6, some .int)
set_option maxRecDepth 100000 in
theorem mdX8_item : MD mX8_item 3 := ⟨at_x 820 rfl rfl, at_x 69 rfl rfl, ⟨nhX8.1, nhX8.2, by decide +kernel⟩, by decide⟩
set_option maxRecDepth 100000 in
theorem mvX8_item : MV mX8_item := ⟨at_x 818 rfl rfl, at_x 819 rfl rfl⟩
abbrev mX8_peek : XY := (yX8_peek, cX8_peek, 4, some .long)
set_option maxRecDepth 100000 in
theorem mdX8_peek : MD mX8_peek 2 := ⟨at_x 828 rfl rfl, at_x 69 rfl rfl, ⟨nhX8.1, nhX8.2, by decide +kernel⟩, by decide⟩
set_option maxRecDepth 100000 in
theorem mvX8_peek : MV mX8_peek := ⟨at_x 826 rfl rfl, at_x 827 rfl rfl⟩
abbrev mX8_shift : XY := (yX8_shift, cX8_shift, 8, some .int)
set_option maxRecDepth 100000 in
theorem mdX8_shift : MD mX8_shift 5 := ⟨at_x 832 rfl rfl, at_x 69 rfl rfl, ⟨nhX8.1, nhX8.2, by decide +kernel⟩, by decide⟩
set_option maxRecDepth 100000 in
theorem mvX8_shift : MV mX8_shift := ⟨at_x 830 rfl rfl, at_x 831 rfl rfl⟩
abbrev mX9_init : XY := (yX9_init, cX9_init, 1, none)
abbrev mX9_in : XY := (yX9_in, cX9_in, 6, some .boolean)
set_option maxRecDepth 100000 in
theorem mdX9_in : MD mX9_in 3 := ⟨at_x 1071 rfl rfl, at_x 77 rfl rfl, ⟨nhX9.1, nhX9.2, by decide +kernel⟩, by decide⟩
set_option maxRecDepth 100000 in
theorem msX9_in : Cond.static mX9_in.1 ∈ xtbl := at_x 1070 rfl rfl
abbrev mX9_isOne : XY := (yX9_isOne, cX9_isOne, 2, some .boolean)
set_option maxRecDepth 100000 in
theorem mdX9_isOne : MD mX9_isOne 1 := ⟨at_x 1104 rfl rfl, at_x 77 rfl rfl, ⟨nhX9.1, nhX9.2, by decide +kernel⟩, by decide⟩
set_option maxRecDepth 100000 in
theorem mvX9_isOne : MV mX9_isOne := ⟨at_x 1103 rfl rfl, at_x 32 rfl rfl⟩
abbrev mX9_isBallot : XY := (yX9_isBallot, cX9_isBallot, 2, some .boolean)
set_option maxRecDepth 100000 in
theorem mdX9_isBallot : MD mX9_isBallot 1 := ⟨at_x 1092 rfl rfl, at_x 77 rfl rfl, ⟨nhX9.1, nhX9.2, by decide +kernel⟩, by decide⟩
set_option maxRecDepth 100000 in
theorem mvX9_isBallot : MV mX9_isBallot := ⟨at_x 1091 rfl rfl, at_x 31 rfl rfl⟩
abbrev mX9_has : XY := (yX9_has, cX9_has, 2, some .boolean)
set_option maxRecDepth 100000 in
theorem mdX9_has : MD mX9_has 2 := ⟨at_x 1074 rfl rfl, at_x 77 rfl rfl, ⟨nhX9.1, nhX9.2, by decide +kernel⟩, by decide⟩
set_option maxRecDepth 100000 in
theorem msX9_has : Cond.static mX9_has.1 ∈ xtbl := at_x 1073 rfl rfl
abbrev mX9_lengthOf : XY := (yX9_lengthOf, cX9_lengthOf, 3, some .int)
set_option maxRecDepth 100000 in
theorem mdX9_lengthOf : MD mX9_lengthOf 1 := ⟨at_x 1136 rfl rfl, at_x 77 rfl rfl, ⟨nhX9.1, nhX9.2, by decide +kernel⟩, by decide⟩
set_option maxRecDepth 100000 in
theorem msX9_lengthOf : Cond.static mX9_lengthOf.1 ∈ xtbl := at_x 1135 rfl rfl
abbrev mX9_digitAt : XY := (yX9_digitAt, cX9_digitAt, 4, some .int)
set_option maxRecDepth 100000 in
theorem mdX9_digitAt : MD mX9_digitAt 2 := ⟨at_x 1139 rfl rfl, at_x 77 rfl rfl, ⟨nhX9.1, nhX9.2, by decide +kernel⟩, by decide⟩
set_option maxRecDepth 100000 in
theorem msX9_digitAt : Cond.static mX9_digitAt.1 ∈ xtbl := at_x 1138 rfl rfl
abbrev mX9_left : XY := (yX9_left, cX9_left, 5, some .int)
set_option maxRecDepth 100000 in
theorem mdX9_left : MD mX9_left 1 := ⟨at_x 1133 rfl rfl, at_x 77 rfl rfl, ⟨nhX9.1, nhX9.2, by decide +kernel⟩, by decide⟩
set_option maxRecDepth 100000 in
theorem mvX9_left : MV mX9_left := ⟨at_x 1132 rfl rfl, at_x 35 rfl rfl⟩
abbrev mX9_firstOver : XY := (yX9_firstOver, cX9_firstOver, 5, some .int)
set_option maxRecDepth 100000 in
theorem mdX9_firstOver : MD mX9_firstOver 1 := ⟨at_x 1079 rfl rfl, at_x 77 rfl rfl, ⟨nhX9.1, nhX9.2, by decide +kernel⟩, by decide⟩
set_option maxRecDepth 100000 in
theorem mvX9_firstOver : MV mX9_firstOver := ⟨at_x 1078 rfl rfl, at_x 29 rfl rfl⟩
abbrev mX9_over : XY := (yX9_over, cX9_over, 2, some .int)
set_option maxRecDepth 100000 in
theorem mdX9_over : MD mX9_over 1 := ⟨at_x 1084 rfl rfl, at_x 77 rfl rfl, ⟨nhX9.1, nhX9.2, by decide +kernel⟩, by decide⟩
set_option maxRecDepth 100000 in
theorem mvX9_over : MV mX9_over := ⟨at_x 1083 rfl rfl, at_x 30 rfl rfl⟩
abbrev mX9_candidate : XY := (yX9_candidate, cX9_candidate, 1, some .int)
set_option maxRecDepth 100000 in
theorem mdX9_candidate : MD mX9_candidate 0 := ⟨at_x 1059 rfl rfl, at_x 77 rfl rfl, ⟨nhX9.1, nhX9.2, by decide +kernel⟩, by decide⟩
set_option maxRecDepth 100000 in
theorem mvX9_candidate : MV mX9_candidate := ⟨at_x 1057 rfl rfl, at_x 1058 rfl rfl⟩
abbrev mX9_isRow : XY := (yX9_isRow, cX9_isRow, 5, some .boolean)
set_option maxRecDepth 100000 in
theorem mdX9_isRow : MD mX9_isRow 1 := ⟨at_x 1067 rfl rfl, at_x 77 rfl rfl, ⟨nhX9.1, nhX9.2, by decide +kernel⟩, by decide⟩
set_option maxRecDepth 100000 in
theorem mvX9_isRow : MV mX9_isRow := ⟨at_x 1066 rfl rfl, at_x 28 rfl rfl⟩
abbrev mX9_ballot : XY := (yX9_ballot, cX9_ballot, 4, some .int)
set_option maxRecDepth 100000 in
theorem mdX9_ballot : MD mX9_ballot 2 := ⟨at_x 1063 rfl rfl, at_x 77 rfl rfl, ⟨nhX9.1, nhX9.2, by decide +kernel⟩, by decide⟩
set_option maxRecDepth 100000 in
theorem mvX9_ballot : MV mX9_ballot := ⟨at_x 1061 rfl rfl, at_x 1062 rfl rfl⟩
abbrev mX9_many : XY := (yX9_many, cX9_many, 5, some .int)
set_option maxRecDepth 100000 in
theorem mdX9_many : MD mX9_many 2 := ⟨at_x 1088 rfl rfl, at_x 77 rfl rfl, ⟨nhX9.1, nhX9.2, by decide +kernel⟩, by decide⟩
set_option maxRecDepth 100000 in
theorem mvX9_many : MV mX9_many := ⟨at_x 1086 rfl rfl, at_x 1087 rfl rfl⟩
abbrev mX9_drop : XY := (yX9_drop, cX9_drop, 1, some .int)
set_option maxRecDepth 100000 in
theorem mdX9_drop : MD mX9_drop 0 := ⟨at_x 1096 rfl rfl, at_x 77 rfl rfl, ⟨nhX9.1, nhX9.2, by decide +kernel⟩, by decide⟩
set_option maxRecDepth 100000 in
theorem mvX9_drop : MV mX9_drop := ⟨at_x 1094 rfl rfl, at_x 1095 rfl rfl⟩
abbrev mX9_gone : XY := (yX9_gone, cX9_gone, 4, some .int)
set_option maxRecDepth 100000 in
theorem mdX9_gone : MD mX9_gone 2 := ⟨at_x 1100 rfl rfl, at_x 77 rfl rfl, ⟨nhX9.1, nhX9.2, by decide +kernel⟩, by decide⟩
set_option maxRecDepth 100000 in
theorem mvX9_gone : MV mX9_gone := ⟨at_x 1098 rfl rfl, at_x 1099 rfl rfl⟩
abbrev mX9_set : XY := (yX9_set, cX9_set, 4, some .int)
set_option maxRecDepth 100000 in
theorem mdX9_set : MD mX9_set 2 := ⟨at_x 1108 rfl rfl, at_x 77 rfl rfl, ⟨nhX9.1, nhX9.2, by decide +kernel⟩, by decide⟩
set_option maxRecDepth 100000 in
theorem mvX9_set : MV mX9_set := ⟨at_x 1106 rfl rfl, at_x 1107 rfl rfl⟩
abbrev mX9_swap : XY := (yX9_swap, cX9_swap, 4, some .int)
set_option maxRecDepth 100000 in
theorem mdX9_swap : MD mX9_swap 2 := ⟨at_x 1116 rfl rfl, at_x 77 rfl rfl, ⟨nhX9.1, nhX9.2, by decide +kernel⟩, by decide⟩
set_option maxRecDepth 100000 in
theorem mvX9_swap : MV mX9_swap := ⟨at_x 1114 rfl rfl, at_x 1115 rfl rfl⟩
abbrev mX9_lotOf : XY := (yX9_lotOf, cX9_lotOf, 3, some .int)
set_option maxRecDepth 100000 in
theorem mdX9_lotOf : MD mX9_lotOf 1 := ⟨at_x 1179 rfl rfl, at_x 77 rfl rfl, ⟨nhX9.1, nhX9.2, by decide +kernel⟩, by decide⟩
set_option maxRecDepth 100000 in
theorem mvX9_lotOf : MV mX9_lotOf := ⟨at_x 1178 rfl rfl, at_x 44 rfl rfl⟩
abbrev mX9_keyOf : XY := (yX9_keyOf, cX9_keyOf, 3, some .int)
set_option maxRecDepth 100000 in
theorem mdX9_keyOf : MD mX9_keyOf 1 := ⟨at_x 1146 rfl rfl, at_x 77 rfl rfl, ⟨nhX9.1, nhX9.2, by decide +kernel⟩, by decide⟩
set_option maxRecDepth 100000 in
theorem msX9_keyOf : Cond.static mX9_keyOf.1 ∈ xtbl := at_x 1145 rfl rfl
abbrev mX9_comesTo : XY := (yX9_comesTo, cX9_comesTo, 6, none)
set_option maxRecDepth 100000 in
theorem mdX9_comesTo : MD mX9_comesTo 2 := ⟨at_x 1143 rfl rfl, at_x 77 rfl rfl, ⟨nhX9.1, nhX9.2, by decide +kernel⟩, by decide⟩
set_option maxRecDepth 100000 in
theorem mvX9_comesTo : MV mX9_comesTo := ⟨at_x 1142 rfl rfl, at_x 36 rfl rfl⟩
abbrev mX9_tellPiles : XY := (yX9_tellPiles, cX9_tellPiles, 3, none)
set_option maxRecDepth 100000 in
theorem mdX9_tellPiles : MD mX9_tellPiles 0 := ⟨at_x 1129 rfl rfl, at_x 77 rfl rfl, ⟨nhX9.1, nhX9.2, by decide +kernel⟩, by decide⟩
set_option maxRecDepth 100000 in
theorem mvX9_tellPiles : MV mX9_tellPiles := ⟨at_x 1128 rfl rfl, at_x 34 rfl rfl⟩
abbrev mX9_many_ : XY := (yX9_many_, cX9_many_, 4, some .int)
set_option maxRecDepth 100000 in
theorem mdX9_many_ : MD mX9_many_ 1 := ⟨at_x 1151 rfl rfl, at_x 77 rfl rfl, ⟨nhX9.1, nhX9.2, by decide +kernel⟩, by decide⟩
set_option maxRecDepth 100000 in
theorem mvX9_many_ : MV mX9_many_ := ⟨at_x 1150 rfl rfl, at_x 37 rfl rfl⟩
abbrev mX9_tellVotes : XY := (yX9_tellVotes, cX9_tellVotes, 8, none)
set_option maxRecDepth 100000 in
theorem mdX9_tellVotes : MD mX9_tellVotes 0 := ⟨at_x 1159 rfl rfl, at_x 77 rfl rfl, ⟨nhX9.1, nhX9.2, by decide +kernel⟩, by decide⟩
set_option maxRecDepth 100000 in
theorem mvX9_tellVotes : MV mX9_tellVotes := ⟨at_x 1158 rfl rfl, at_x 39 rfl rfl⟩
abbrev mX9_isAhead : XY := (yX9_isAhead, cX9_isAhead, 3, some .boolean)
set_option maxRecDepth 100000 in
theorem mdX9_isAhead : MD mX9_isAhead 2 := ⟨at_x 1175 rfl rfl, at_x 77 rfl rfl, ⟨nhX9.1, nhX9.2, by decide +kernel⟩, by decide⟩
set_option maxRecDepth 100000 in
theorem mvX9_isAhead : MV mX9_isAhead := ⟨at_x 1174 rfl rfl, at_x 43 rfl rfl⟩
abbrev mX9_becomesElected : XY := (yX9_becomesElected, cX9_becomesElected, 2, none)
set_option maxRecDepth 100000 in
theorem mdX9_becomesElected : MD mX9_becomesElected 1 := ⟨at_x 1163 rfl rfl, at_x 77 rfl rfl, ⟨nhX9.1, nhX9.2, by decide +kernel⟩, by decide⟩
set_option maxRecDepth 100000 in
theorem mvX9_becomesElected : MV mX9_becomesElected := ⟨at_x 1162 rfl rfl, at_x 40 rfl rfl⟩
abbrev mX9_lines : XY := (yX9_lines, cX9_lines, 3, none)
set_option maxRecDepth 100000 in
theorem mdX9_lines : MD mX9_lines 0 := ⟨at_x 1171 rfl rfl, at_x 77 rfl rfl, ⟨nhX9.1, nhX9.2, by decide +kernel⟩, by decide⟩
set_option maxRecDepth 100000 in
theorem mvX9_lines : MV mX9_lines := ⟨at_x 1170 rfl rfl, at_x 42 rfl rfl⟩
abbrev mX9_fills : XY := (yX9_fills, cX9_fills, 2, none)
set_option maxRecDepth 100000 in
theorem mdX9_fills : MD mX9_fills 0 := ⟨at_x 1155 rfl rfl, at_x 77 rfl rfl, ⟨nhX9.1, nhX9.2, by decide +kernel⟩, by decide⟩
set_option maxRecDepth 100000 in
theorem mvX9_fills : MV mX9_fills := ⟨at_x 1154 rfl rfl, at_x 38 rfl rfl⟩
abbrev mX9_keepsAnew : XY := (yX9_keepsAnew, cX9_keepsAnew, 4, none)
set_option maxRecDepth 100000 in
theorem mdX9_keepsAnew : MD mX9_keepsAnew 0 := ⟨at_x 1187 rfl rfl, at_x 77 rfl rfl, ⟨nhX9.1, nhX9.2, by decide +kernel⟩, by decide⟩
set_option maxRecDepth 100000 in
theorem mvX9_keepsAnew : MV mX9_keepsAnew := ⟨at_x 1186 rfl rfl, at_x 46 rfl rfl⟩
abbrev mX9_elects : XY := (yX9_elects, cX9_elects, 4, some .boolean)
set_option maxRecDepth 100000 in
theorem mdX9_elects : MD mX9_elects 0 := ⟨at_x 1196 rfl rfl, at_x 77 rfl rfl, ⟨nhX9.1, nhX9.2, by decide +kernel⟩, by decide⟩
set_option maxRecDepth 100000 in
theorem mvX9_elects : MV mX9_elects := ⟨at_x 1195 rfl rfl, at_x 48 rfl rfl⟩
abbrev mX9_tellSurplus : XY := (yX9_tellSurplus, cX9_tellSurplus, 2, none)
set_option maxRecDepth 100000 in
theorem mdX9_tellSurplus : MD mX9_tellSurplus 0 := ⟨at_x 1192 rfl rfl, at_x 77 rfl rfl, ⟨nhX9.1, nhX9.2, by decide +kernel⟩, by decide⟩
set_option maxRecDepth 100000 in
theorem mvX9_tellSurplus : MV mX9_tellSurplus := ⟨at_x 1191 rfl rfl, at_x 47 rfl rfl⟩
abbrev mX9_goesRather : XY := (yX9_goesRather, cX9_goesRather, 8, some .boolean)
set_option maxRecDepth 100000 in
theorem mdX9_goesRather : MD mX9_goesRather 2 := ⟨at_x 1204 rfl rfl, at_x 77 rfl rfl, ⟨nhX9.1, nhX9.2, by decide +kernel⟩, by decide⟩
set_option maxRecDepth 100000 in
theorem mvX9_goesRather : MV mX9_goesRather := ⟨at_x 1203 rfl rfl, at_x 50 rfl rfl⟩
abbrev mX9_worst : XY := (yX9_worst, cX9_worst, 3, some .int)
set_option maxRecDepth 100000 in
theorem mdX9_worst : MD mX9_worst 0 := ⟨at_x 1200 rfl rfl, at_x 77 rfl rfl, ⟨nhX9.1, nhX9.2, by decide +kernel⟩, by decide⟩
set_option maxRecDepth 100000 in
theorem mvX9_worst : MV mX9_worst := ⟨at_x 1199 rfl rfl, at_x 49 rfl rfl⟩
abbrev mX9_endsStage : XY := (yX9_endsStage, cX9_endsStage, 3, none)
set_option maxRecDepth 100000 in
theorem mdX9_endsStage : MD mX9_endsStage 1 := ⟨at_x 1167 rfl rfl, at_x 77 rfl rfl, ⟨nhX9.1, nhX9.2, by decide +kernel⟩, by decide⟩
set_option maxRecDepth 100000 in
theorem mvX9_endsStage : MV mX9_endsStage := ⟨at_x 1166 rfl rfl, at_x 41 rfl rfl⟩
abbrev mX9_goesStage : XY := (yX9_goesStage, cX9_goesStage, 5, none)
set_option maxRecDepth 100000 in
theorem mdX9_goesStage : MD mX9_goesStage 1 := ⟨at_x 1183 rfl rfl, at_x 77 rfl rfl, ⟨nhX9.1, nhX9.2, by decide +kernel⟩, by decide⟩
set_option maxRecDepth 100000 in
theorem mvX9_goesStage : MV mX9_goesStage := ⟨at_x 1182 rfl rfl, at_x 45 rfl rfl⟩
abbrev mX9_counts : XY := (yX9_counts, cX9_counts, 2, none)
set_option maxRecDepth 100000 in
theorem mdX9_counts : MD mX9_counts 0 := ⟨at_x 1125 rfl rfl, at_x 77 rfl rfl, ⟨nhX9.1, nhX9.2, by decide +kernel⟩, by decide⟩
set_option maxRecDepth 100000 in
theorem mvX9_counts : MV mX9_counts := ⟨at_x 1124 rfl rfl, at_x 33 rfl rfl⟩
abbrev mX9_electedSet : XY := (yX9_electedSet, cX9_electedSet, 3, some .int)
set_option maxRecDepth 100000 in
theorem mdX9_electedSet : MD mX9_electedSet 0 := ⟨at_x 1225 rfl rfl, at_x 77 rfl rfl, ⟨nhX9.1, nhX9.2, by decide +kernel⟩, by decide⟩
set_option maxRecDepth 100000 in
theorem mvX9_electedSet : MV mX9_electedSet := ⟨at_x 1224 rfl rfl, at_x 52 rfl rfl⟩
abbrev mX9_firstMany : XY := (yX9_firstMany, cX9_firstMany, 5, some .int)
set_option maxRecDepth 100000 in
theorem mdX9_firstMany : MD mX9_firstMany 1 := ⟨at_x 1208 rfl rfl, at_x 77 rfl rfl, ⟨nhX9.1, nhX9.2, by decide +kernel⟩, by decide⟩
set_option maxRecDepth 100000 in
theorem mvX9_firstMany : MV mX9_firstMany := ⟨at_x 1207 rfl rfl, at_x 51 rfl rfl⟩
abbrev mX9_of : XY := (yX9_of, cX9_of, 3, some .int)
set_option maxRecDepth 100000 in
theorem mdX9_of : MD mX9_of 2 := ⟨at_x 1120 rfl rfl, at_x 77 rfl rfl, ⟨nhX9.1, nhX9.2, by decide +kernel⟩, by decide⟩
set_option maxRecDepth 100000 in
theorem mvX9_of : MV mX9_of := ⟨at_x 1118 rfl rfl, at_x 1119 rfl rfl⟩
abbrev mX9_ballotOf : XY := (yX9_ballotOf, cX9_ballotOf, 4, some .int)
set_option maxRecDepth 100000 in
theorem mdX9_ballotOf : MD mX9_ballotOf 2 := ⟨at_x 1212 rfl rfl, at_x 77 rfl rfl, ⟨nhX9.1, nhX9.2, by decide +kernel⟩, by decide⟩
set_option maxRecDepth 100000 in
theorem mvX9_ballotOf : MV mX9_ballotOf := ⟨at_x 1210 rfl rfl, at_x 1211 rfl rfl⟩
abbrev mX9_rowOf : XY := (yX9_rowOf, cX9_rowOf, 3, some .int)
set_option maxRecDepth 100000 in
theorem mdX9_rowOf : MD mX9_rowOf 2 := ⟨at_x 1216 rfl rfl, at_x 77 rfl rfl, ⟨nhX9.1, nhX9.2, by decide +kernel⟩, by decide⟩
set_option maxRecDepth 100000 in
theorem mvX9_rowOf : MV mX9_rowOf := ⟨at_x 1214 rfl rfl, at_x 1215 rfl rfl⟩
abbrev mX9_told : XY := (yX9_told, cX9_told, 3, some .int)
set_option maxRecDepth 100000 in
theorem mdX9_told : MD mX9_told 1 := ⟨at_x 1220 rfl rfl, at_x 77 rfl rfl, ⟨nhX9.1, nhX9.2, by decide +kernel⟩, by decide⟩
set_option maxRecDepth 100000 in
theorem mvX9_told : MV mX9_told := ⟨at_x 1218 rfl rfl, at_x 1219 rfl rfl⟩
abbrev mX9_isStage : XY := (yX9_isStage, cX9_isStage, 2, some .boolean)
set_option maxRecDepth 100000 in
theorem mdX9_isStage : MD mX9_isStage 1 := ⟨at_x 1233 rfl rfl, at_x 77 rfl rfl, ⟨nhX9.1, nhX9.2, by decide +kernel⟩, by decide⟩
set_option maxRecDepth 100000 in
theorem mvX9_isStage : MV mX9_isStage := ⟨at_x 1232 rfl rfl, at_x 53 rfl rfl⟩
abbrev mX9_stageOf : XY := (yX9_stageOf, cX9_stageOf, 3, some .int)
set_option maxRecDepth 100000 in
theorem mdX9_stageOf : MD mX9_stageOf 2 := ⟨at_x 1229 rfl rfl, at_x 77 rfl rfl, ⟨nhX9.1, nhX9.2, by decide +kernel⟩, by decide⟩
set_option maxRecDepth 100000 in
theorem mvX9_stageOf : MV mX9_stageOf := ⟨at_x 1227 rfl rfl, at_x 1228 rfl rfl⟩
abbrev mX9_amount : XY := (yX9_amount, cX9_amount, 3, some .long)
set_option maxRecDepth 100000 in
theorem mdX9_amount : MD mX9_amount 2 := ⟨at_x 1237 rfl rfl, at_x 77 rfl rfl, ⟨nhX9.1, nhX9.2, by decide +kernel⟩, by decide⟩
set_option maxRecDepth 100000 in
theorem mvX9_amount : MV mX9_amount := ⟨at_x 1235 rfl rfl, at_x 1236 rfl rfl⟩
abbrev mX9_votes : XY := (yX9_votes, cX9_votes, 4, some .long)
set_option maxRecDepth 100000 in
theorem mdX9_votes : MD mX9_votes 3 := ⟨at_x 1242 rfl rfl, at_x 77 rfl rfl, ⟨nhX9.1, nhX9.2, by decide +kernel⟩, by decide⟩
set_option maxRecDepth 100000 in
theorem mvX9_votes : MV mX9_votes := ⟨at_x 1240 rfl rfl, at_x 1241 rfl rfl⟩
abbrev mX9_elected : XY := (yX9_elected, cX9_elected, 2, some .int)
set_option maxRecDepth 100000 in
theorem mdX9_elected : MD mX9_elected 1 := ⟨at_x 1246 rfl rfl, at_x 77 rfl rfl, ⟨nhX9.1, nhX9.2, by decide +kernel⟩, by decide⟩
set_option maxRecDepth 100000 in
theorem mvX9_elected : MV mX9_elected := ⟨at_x 1244 rfl rfl, at_x 1245 rfl rfl⟩
abbrev mX9_ranksBy : XY := (yX9_ranksBy, cX9_ranksBy, 8, some .int)
set_option maxRecDepth 100000 in
theorem mdX9_ranksBy : MD mX9_ranksBy 3 := ⟨at_x 1256 rfl rfl, at_x 77 rfl rfl, ⟨nhX9.1, nhX9.2, by decide +kernel⟩, by decide⟩
set_option maxRecDepth 100000 in
theorem mvX9_ranksBy : MV mX9_ranksBy := ⟨at_x 1255 rfl rfl, at_x 54 rfl rfl⟩
abbrev mX9_isBefore : XY := (yX9_isBefore, cX9_isBefore, 8, some .boolean)
set_option maxRecDepth 100000 in
theorem mdX9_isBefore : MD mX9_isBefore 3 := ⟨at_x 1260 rfl rfl, at_x 77 rfl rfl, ⟨nhX9.1, nhX9.2, by decide +kernel⟩, by decide⟩
set_option maxRecDepth 100000 in
theorem mvX9_isBefore : MV mX9_isBefore := ⟨at_x 1259 rfl rfl, at_x 55 rfl rfl⟩
abbrev mX9_ranked : XY := (yX9_ranked, cX9_ranked, 4, some .int)
set_option maxRecDepth 100000 in
theorem mdX9_ranked : MD mX9_ranked 1 := ⟨at_x 1250 rfl rfl, at_x 77 rfl rfl, ⟨nhX9.1, nhX9.2, by decide +kernel⟩, by decide⟩
set_option maxRecDepth 100000 in
theorem mvX9_ranked : MV mX9_ranked := ⟨at_x 1248 rfl rfl, at_x 1249 rfl rfl⟩
abbrev mX9_standing : XY := (yX9_standing, cX9_standing, 4, some .int)
set_option maxRecDepth 100000 in
theorem mdX9_standing : MD mX9_standing 2 := ⟨at_x 1264 rfl rfl, at_x 77 rfl rfl, ⟨nhX9.1, nhX9.2, by decide +kernel⟩, by decide⟩
set_option maxRecDepth 100000 in
theorem mvX9_standing : MV mX9_standing := ⟨at_x 1262 rfl rfl, at_x 1263 rfl rfl⟩
abbrev mX9_pile : XY := (yX9_pile, cX9_pile, 3, some .int)
set_option maxRecDepth 100000 in
theorem mdX9_pile : MD mX9_pile 2 := ⟨at_x 1268 rfl rfl, at_x 77 rfl rfl, ⟨nhX9.1, nhX9.2, by decide +kernel⟩, by decide⟩
set_option maxRecDepth 100000 in
theorem mvX9_pile : MV mX9_pile := ⟨at_x 1266 rfl rfl, at_x 1267 rfl rfl⟩
abbrev mX9_isTwo : XY := (yX9_isTwo, cX9_isTwo, 3, some .boolean)
set_option maxRecDepth 100000 in
theorem mdX9_isTwo : MD mX9_isTwo 2 := ⟨at_x 1276 rfl rfl, at_x 77 rfl rfl, ⟨nhX9.1, nhX9.2, by decide +kernel⟩, by decide⟩
set_option maxRecDepth 100000 in
theorem mvX9_isTwo : MV mX9_isTwo := ⟨at_x 1275 rfl rfl, at_x 56 rfl rfl⟩
abbrev mX9_preferredTo : XY := (yX9_preferredTo, cX9_preferredTo, 9, some .int)
set_option maxRecDepth 100000 in
theorem mdX9_preferredTo : MD mX9_preferredTo 2 := ⟨at_x 1280 rfl rfl, at_x 77 rfl rfl, ⟨nhX9.1, nhX9.2, by decide +kernel⟩, by decide⟩
set_option maxRecDepth 100000 in
theorem mvX9_preferredTo : MV mX9_preferredTo := ⟨at_x 1279 rfl rfl, at_x 57 rfl rfl⟩
abbrev mX9_preferred : XY := (yX9_preferred, cX9_preferred, 3, some .int)
set_option maxRecDepth 100000 in
theorem mdX9_preferred : MD mX9_preferred 2 := ⟨at_x 1272 rfl rfl, at_x 77 rfl rfl, ⟨nhX9.1, nhX9.2, by decide +kernel⟩, by decide⟩
set_option maxRecDepth 100000 in
theorem mvX9_preferred : MV mX9_preferred := ⟨at_x 1270 rfl rfl, at_x 1271 rfl rfl⟩
abbrev mX9_isBest : XY := (yX9_isBest, cX9_isBest, 4, some .boolean)
set_option maxRecDepth 100000 in
theorem mdX9_isBest : MD mX9_isBest 1 := ⟨at_x 1288 rfl rfl, at_x 77 rfl rfl, ⟨nhX9.1, nhX9.2, by decide +kernel⟩, by decide⟩
set_option maxRecDepth 100000 in
theorem mvX9_isBest : MV mX9_isBest := ⟨at_x 1287 rfl rfl, at_x 58 rfl rfl⟩
abbrev mX9_best : XY := (yX9_best, cX9_best, 2, some .int)
set_option maxRecDepth 100000 in
theorem mdX9_best : MD mX9_best 0 := ⟨at_x 1284 rfl rfl, at_x 77 rfl rfl, ⟨nhX9.1, nhX9.2, by decide +kernel⟩, by decide⟩
set_option maxRecDepth 100000 in
theorem mvX9_best : MV mX9_best := ⟨at_x 1282 rfl rfl, at_x 1283 rfl rfl⟩
abbrev mX9_lowest : XY := (yX9_lowest, cX9_lowest, 11, some .long)
set_option maxRecDepth 100000 in
theorem mdX9_lowest : MD mX9_lowest 3 := ⟨at_x 1295 rfl rfl, at_x 77 rfl rfl, ⟨nhX9.1, nhX9.2, by decide +kernel⟩, by decide⟩
set_option maxRecDepth 100000 in
theorem msX9_lowest : Cond.static mX9_lowest.1 ∈ xtbl := at_x 1294 rfl rfl
abbrev mX9_share : XY := (yX9_share, cX9_share, 4, some .long)
set_option maxRecDepth 100000 in
theorem mdX9_share : MD mX9_share 3 := ⟨at_x 1292 rfl rfl, at_x 77 rfl rfl, ⟨nhX9.1, nhX9.2, by decide +kernel⟩, by decide⟩
set_option maxRecDepth 100000 in
theorem mvX9_share : MV mX9_share := ⟨at_x 1290 rfl rfl, at_x 1291 rfl rfl⟩
abbrev mX9_without : XY := (yX9_without, cX9_without, 4, some .int)
set_option maxRecDepth 100000 in
theorem mdX9_without : MD mX9_without 1 := ⟨at_x 1299 rfl rfl, at_x 77 rfl rfl, ⟨nhX9.1, nhX9.2, by decide +kernel⟩, by decide⟩
set_option maxRecDepth 100000 in
theorem mvX9_without : MV mX9_without := ⟨at_x 1297 rfl rfl, at_x 1298 rfl rfl⟩
abbrev mX9_raised : XY := (yX9_raised, cX9_raised, 6, some .int)
set_option maxRecDepth 100000 in
theorem mdX9_raised : MD mX9_raised 2 := ⟨at_x 1303 rfl rfl, at_x 77 rfl rfl, ⟨nhX9.1, nhX9.2, by decide +kernel⟩, by decide⟩
set_option maxRecDepth 100000 in
theorem mvX9_raised : MV mX9_raised := ⟨at_x 1301 rfl rfl, at_x 1302 rfl rfl⟩
abbrev mX9_needs : XY := (yX9_needs, cX9_needs, 5, some .int)
set_option maxRecDepth 100000 in
theorem mdX9_needs : MD mX9_needs 2 := ⟨at_x 1307 rfl rfl, at_x 77 rfl rfl, ⟨nhX9.1, nhX9.2, by decide +kernel⟩, by decide⟩
set_option maxRecDepth 100000 in
theorem mvX9_needs : MV mX9_needs := ⟨at_x 1305 rfl rfl, at_x 1306 rfl rfl⟩
abbrev mX9_see : XY := (yX9_see, cX9_see, 3, some .int)
set_option maxRecDepth 100000 in
theorem mdX9_see : MD mX9_see 2 := ⟨at_x 1312 rfl rfl, at_x 77 rfl rfl, ⟨nhX9.1, nhX9.2, by decide +kernel⟩, by decide⟩
set_option maxRecDepth 100000 in
theorem mvX9_see : MV mX9_see := ⟨at_x 1310 rfl rfl, at_x 1311 rfl rfl⟩
abbrev mX9_isAsSeen : XY := (yX9_isAsSeen, cX9_isAsSeen, 3, some .boolean)
set_option maxRecDepth 100000 in
theorem mdX9_isAsSeen : MD mX9_isAsSeen 0 := ⟨at_x 1320 rfl rfl, at_x 77 rfl rfl, ⟨nhX9.1, nhX9.2, by decide +kernel⟩, by decide⟩
set_option maxRecDepth 100000 in
theorem mvX9_isAsSeen : MV mX9_isAsSeen := ⟨at_x 1319 rfl rfl, at_x 59 rfl rfl⟩
abbrev mX9_fits : XY := (yX9_fits, cX9_fits, 6, some .int)
set_option maxRecDepth 100000 in
theorem mdX9_fits : MD mX9_fits 1 := ⟨at_x 1316 rfl rfl, at_x 77 rfl rfl, ⟨nhX9.1, nhX9.2, by decide +kernel⟩, by decide⟩
set_option maxRecDepth 100000 in
theorem mvX9_fits : MV mX9_fits := ⟨at_x 1314 rfl rfl, at_x 1315 rfl rfl⟩
abbrev mX9_event : XY := (yX9_event, cX9_event, 3, some .int)
set_option maxRecDepth 100000 in
theorem mdX9_event : MD mX9_event 2 := ⟨at_x 1324 rfl rfl, at_x 77 rfl rfl, ⟨nhX9.1, nhX9.2, by decide +kernel⟩, by decide⟩
set_option maxRecDepth 100000 in
theorem mvX9_event : MV mX9_event := ⟨at_x 1322 rfl rfl, at_x 1323 rfl rfl⟩
abbrev mX9_happens : XY := (yX9_happens, cX9_happens, 5, none)
set_option maxRecDepth 100000 in
theorem mdX9_happens : MD mX9_happens 2 := ⟨at_x 1332 rfl rfl, at_x 77 rfl rfl, ⟨nhX9.1, nhX9.2, by decide +kernel⟩, by decide⟩
set_option maxRecDepth 100000 in
theorem mvX9_happens : MV mX9_happens := ⟨at_x 1331 rfl rfl, at_x 60 rfl rfl⟩
abbrev mX9_after : XY := (yX9_after, cX9_after, 3, some .int)
set_option maxRecDepth 100000 in
theorem mdX9_after : MD mX9_after 0 := ⟨at_x 1328 rfl rfl, at_x 77 rfl rfl, ⟨nhX9.1, nhX9.2, by decide +kernel⟩, by decide⟩
set_option maxRecDepth 100000 in
theorem mvX9_after : MV mX9_after := ⟨at_x 1326 rfl rfl, at_x 1327 rfl rfl⟩
abbrev mX9_feed : XY := (yX9_feed, cX9_feed, 2, some .int)
set_option maxRecDepth 100000 in
theorem mdX9_feed : MD mX9_feed 1 := ⟨at_x 1336 rfl rfl, at_x 77 rfl rfl, ⟨nhX9.1, nhX9.2, by decide +kernel⟩, by decide⟩
set_option maxRecDepth 100000 in
theorem mvX9_feed : MV mX9_feed := ⟨at_x 1334 rfl rfl, at_x 1335 rfl rfl⟩
abbrev mX9_signAt : XY := (yX9_signAt, cX9_signAt, 2, some .int)
set_option maxRecDepth 100000 in
theorem mdX9_signAt : MD mX9_signAt 1 := ⟨at_x 1349 rfl rfl, at_x 77 rfl rfl, ⟨nhX9.1, nhX9.2, by decide +kernel⟩, by decide⟩
set_option maxRecDepth 100000 in
theorem mvX9_signAt : MV mX9_signAt := ⟨at_x 1348 rfl rfl, at_x 62 rfl rfl⟩
abbrev mX9_fails : XY := (yX9_fails, cX9_fails, 2, none)
set_option maxRecDepth 100000 in
theorem mdX9_fails : MD mX9_fails 1 := ⟨at_x 1353 rfl rfl, at_x 77 rfl rfl, ⟨nhX9.1, nhX9.2, by decide +kernel⟩, by decide⟩
set_option maxRecDepth 100000 in
theorem mvX9_fails : MV mX9_fails := ⟨at_x 1352 rfl rfl, at_x 63 rfl rfl⟩
abbrev mX9_numberRead : XY := (yX9_numberRead, cX9_numberRead, 4, some .int)
set_option maxRecDepth 100000 in
theorem mdX9_numberRead : MD mX9_numberRead 1 := ⟨at_x 1357 rfl rfl, at_x 77 rfl rfl, ⟨nhX9.1, nhX9.2, by decide +kernel⟩, by decide⟩
set_option maxRecDepth 100000 in
theorem mvX9_numberRead : MV mX9_numberRead := ⟨at_x 1356 rfl rfl, at_x 64 rfl rfl⟩
abbrev mX9_clauseRead : XY := (yX9_clauseRead, cX9_clauseRead, 2, none)
set_option maxRecDepth 100000 in
theorem mdX9_clauseRead : MD mX9_clauseRead 0 := ⟨at_x 1345 rfl rfl, at_x 77 rfl rfl, ⟨nhX9.1, nhX9.2, by decide +kernel⟩, by decide⟩
set_option maxRecDepth 100000 in
theorem mvX9_clauseRead : MV mX9_clauseRead := ⟨at_x 1344 rfl rfl, at_x 61 rfl rfl⟩
abbrev mX9_done : XY := (yX9_done, cX9_done, 2, some .int)
set_option maxRecDepth 100000 in
theorem mdX9_done : MD mX9_done 1 := ⟨at_x 1367 rfl rfl, at_x 77 rfl rfl, ⟨nhX9.1, nhX9.2, by decide +kernel⟩, by decide⟩
set_option maxRecDepth 100000 in
theorem mvX9_done : MV mX9_done := ⟨at_x 1366 rfl rfl, at_x 66 rfl rfl⟩
abbrev mX9_faulty : XY := (yX9_faulty, cX9_faulty, 2, some .int)
set_option maxRecDepth 100000 in
theorem mdX9_faulty : MD mX9_faulty 0 := ⟨at_x 1363 rfl rfl, at_x 77 rfl rfl, ⟨nhX9.1, nhX9.2, by decide +kernel⟩, by decide⟩
set_option maxRecDepth 100000 in
theorem mvX9_faulty : MV mX9_faulty := ⟨at_x 1362 rfl rfl, at_x 65 rfl rfl⟩
abbrev mX9_read : XY := (yX9_read, cX9_read, 4, some .int)
set_option maxRecDepth 100000 in
theorem mdX9_read : MD mX9_read 0 := ⟨at_x 1341 rfl rfl, at_x 77 rfl rfl, ⟨nhX9.1, nhX9.2, by decide +kernel⟩, by decide⟩
set_option maxRecDepth 100000 in
theorem mvX9_read : MV mX9_read := ⟨at_x 1339 rfl rfl, at_x 1340 rfl rfl⟩
abbrev mX9_cause : XY := (yX9_cause, cX9_cause, 3, some .int)
set_option maxRecDepth 100000 in
theorem mdX9_cause : MD mX9_cause 2 := ⟨at_x 1375 rfl rfl, at_x 77 rfl rfl, ⟨nhX9.1, nhX9.2, by decide +kernel⟩, by decide⟩
set_option maxRecDepth 100000 in
theorem mvX9_cause : MV mX9_cause := ⟨at_x 1373 rfl rfl, at_x 1374 rfl rfl⟩
abbrev mX9_judge : XY := (yX9_judge, cX9_judge, 5, some .int)
set_option maxRecDepth 100000 in
theorem mdX9_judge : MD mX9_judge 3 := ⟨at_x 1379 rfl rfl, at_x 77 rfl rfl, ⟨nhX9.1, nhX9.2, by decide +kernel⟩, by decide⟩
set_option maxRecDepth 100000 in
theorem mvX9_judge : MV mX9_judge := ⟨at_x 1377 rfl rfl, at_x 1378 rfl rfl⟩
abbrev mX9_image : XY := (yX9_image, cX9_image, 1, some .int)
set_option maxRecDepth 100000 in
theorem mdX9_image : MD mX9_image 0 := ⟨at_x 1387 rfl rfl, at_x 77 rfl rfl, ⟨nhX9.1, nhX9.2, by decide +kernel⟩, by decide⟩
set_option maxRecDepth 100000 in
theorem mvX9_image : MV mX9_image := ⟨at_x 1385 rfl rfl, at_x 1386 rfl rfl⟩
abbrev mX9_undo : XY := (yX9_undo, cX9_undo, 1, some .int)
set_option maxRecDepth 100000 in
theorem mdX9_undo : MD mX9_undo 0 := ⟨at_x 1391 rfl rfl, at_x 77 rfl rfl, ⟨nhX9.1, nhX9.2, by decide +kernel⟩, by decide⟩
set_option maxRecDepth 100000 in
theorem mvX9_undo : MV mX9_undo := ⟨at_x 1389 rfl rfl, at_x 1390 rfl rfl⟩
abbrev mX9_count : XY := (yX9_count, cX9_count, 2, some .int)
set_option maxRecDepth 100000 in
theorem mdX9_count : MD mX9_count 1 := ⟨at_x 1395 rfl rfl, at_x 77 rfl rfl, ⟨nhX9.1, nhX9.2, by decide +kernel⟩, by decide⟩
set_option maxRecDepth 100000 in
theorem mvX9_count : MV mX9_count := ⟨at_x 1393 rfl rfl, at_x 1394 rfl rfl⟩
abbrev mX9_isTape : XY := (yX9_isTape, cX9_isTape, 1, some .boolean)
set_option maxRecDepth 100000 in
theorem mdX9_isTape : MD mX9_isTape 1 := ⟨at_x 1382 rfl rfl, at_x 77 rfl rfl, ⟨nhX9.1, nhX9.2, by decide +kernel⟩, by decide⟩
set_option maxRecDepth 100000 in
theorem msX9_isTape : Cond.static mX9_isTape.1 ∈ xtbl := at_x 1381 rfl rfl
abbrev mX9_tape : XY := (yX9_tape, cX9_tape, 5, some .int)
set_option maxRecDepth 100000 in
theorem mdX9_tape : MD mX9_tape 3 := ⟨at_x 1399 rfl rfl, at_x 77 rfl rfl, ⟨nhX9.1, nhX9.2, by decide +kernel⟩, by decide⟩
set_option maxRecDepth 100000 in
theorem mvX9_tape : MV mX9_tape := ⟨at_x 1397 rfl rfl, at_x 1398 rfl rfl⟩
abbrev mX9_refusal : XY := (yX9_refusal, cX9_refusal, 3, some .int)
set_option maxRecDepth 100000 in
theorem mdX9_refusal : MD mX9_refusal 2 := ⟨at_x 1409 rfl rfl, at_x 77 rfl rfl, ⟨nhX9.1, nhX9.2, by decide +kernel⟩, by decide⟩
set_option maxRecDepth 100000 in
theorem mvX9_refusal : MV mX9_refusal := ⟨at_x 1408 rfl rfl, at_x 67 rfl rfl⟩
abbrev mX9_item : XY := (yX9_item, cX9_item, 7, some .int)
set_option maxRecDepth 100000 in
theorem mdX9_item : MD mX9_item 3 := ⟨at_x 1405 rfl rfl, at_x 77 rfl rfl, ⟨nhX9.1, nhX9.2, by decide +kernel⟩, by decide⟩
set_option maxRecDepth 100000 in
theorem mvX9_item : MV mX9_item := ⟨at_x 1403 rfl rfl, at_x 1404 rfl rfl⟩
abbrev mX9_peek : XY := (yX9_peek, cX9_peek, 3, some .long)
set_option maxRecDepth 100000 in
theorem mdX9_peek : MD mX9_peek 2 := ⟨at_x 1413 rfl rfl, at_x 77 rfl rfl, ⟨nhX9.1, nhX9.2, by decide +kernel⟩, by decide⟩
set_option maxRecDepth 100000 in
theorem mvX9_peek : MV mX9_peek := ⟨at_x 1411 rfl rfl, at_x 1412 rfl rfl⟩
abbrev mX9_shift : XY := (yX9_shift, cX9_shift, 6, some .int)
set_option maxRecDepth 100000 in
theorem mdX9_shift : MD mX9_shift 5 := ⟨at_x 1417 rfl rfl, at_x 77 rfl rfl, ⟨nhX9.1, nhX9.2, by decide +kernel⟩, by decide⟩
set_option maxRecDepth 100000 in
theorem mvX9_shift : MV mX9_shift := ⟨at_x 1415 rfl rfl, at_x 1416 rfl rfl⟩
abbrev mJ9_max_7cf53 : XY := (yJ9_max_7cf53, cJ9_max_7cf53, 2, some .int)
abbrev mJ9_max_f86c9 : XY := (yJ9_max_f86c9, cJ9_max_f86c9, 4, some .long)
abbrev mJ9_min_f86c9 : XY := (yJ9_min_f86c9, cJ9_min_f86c9, 4, some .long)
abbrev mJ7_fill_d0a16 : XY := (yJ7_fill_d0a16, cJ7_fill_d0a16, 5, none)
set_option maxRecDepth 100000 in
theorem mdJ7_fill_d0a16 : MD mJ7_fill_d0a16 2 := ⟨at_x 525 rfl rfl, at_x 80 rfl rfl, ⟨nhJ7.1, nhJ7.2, by decide +kernel⟩, by decide⟩
set_option maxRecDepth 100000 in
theorem msJ7_fill_d0a16 : Cond.static mJ7_fill_d0a16.1 ∈ xtbl := at_x 524 rfl rfl
set_option maxRecDepth 100000 in
theorem flX8_14 : FL RX8 14 7 0 := ⟨RX8, TX8, 10, tyX8, rfl, by decide, x_ps inX8 gdX8, tyX8_ok, nmX8, Or.inl (at_x 376 rfl rfl), rfl, Or.inr (Or.inr (Or.inr rfl))⟩
set_option maxRecDepth 100000 in
theorem flX8_18 : FL RX8 18 7 1 := ⟨RX8, TX8, 10, tyX8, rfl, by decide, x_ps inX8 gdX8, tyX8_ok, nmX8, Or.inl (at_x 377 rfl rfl), rfl, Or.inr (Or.inr (Or.inr rfl))⟩
set_option maxRecDepth 100000 in
theorem flX8_21 : FL RX8 21 7 2 := ⟨RX8, TX8, 10, tyX8, rfl, by decide, x_ps inX8 gdX8, tyX8_ok, nmX8, Or.inl (at_x 378 rfl rfl), rfl, Or.inr (Or.inr (Or.inr rfl))⟩
set_option maxRecDepth 100000 in
theorem flX8_24 : FL RX8 24 7 3 := ⟨RX8, TX8, 10, tyX8, rfl, by decide, x_ps inX8 gdX8, tyX8_ok, nmX8, Or.inl (at_x 379 rfl rfl), rfl, Or.inr (Or.inr (Or.inl ⟨rfl, rfl, rfl⟩))⟩
set_option maxRecDepth 100000 in
theorem flX8_33 : FL RX8 33 7 4 := ⟨RX8, TX8, 10, tyX8, rfl, by decide, x_ps inX8 gdX8, tyX8_ok, nmX8, Or.inl (at_x 380 rfl rfl), rfl, Or.inr (Or.inr (Or.inr rfl))⟩
set_option maxRecDepth 100000 in
theorem flX8_37 : FL RX8 37 7 5 := ⟨RX8, TX8, 10, tyX8, rfl, by decide, x_ps inX8 gdX8, tyX8_ok, nmX8, Or.inl (at_x 381 rfl rfl), rfl, Or.inr (Or.inr (Or.inr rfl))⟩
set_option maxRecDepth 100000 in
theorem flX8_40 : FL RX8 40 7 6 := ⟨RX8, TX8, 10, tyX8, rfl, by decide, x_ps inX8 gdX8, tyX8_ok, nmX8, Or.inl (at_x 382 rfl rfl), rfl, Or.inr (Or.inr (Or.inl ⟨rfl, rfl, rfl⟩))⟩
set_option maxRecDepth 100000 in
theorem flX8_46 : FL RX8 46 7 7 := ⟨RX8, TX8, 10, tyX8, rfl, by decide, x_ps inX8 gdX8, tyX8_ok, nmX8, Or.inl (at_x 383 rfl rfl), rfl, Or.inr (Or.inr (Or.inr rfl))⟩
set_option maxRecDepth 100000 in
theorem flX8_53 : FL RX8 53 7 8 := ⟨RX8, TX8, 10, tyX8, rfl, by decide, x_ps inX8 gdX8, tyX8_ok, nmX8, Or.inl (at_x 384 rfl rfl), rfl, Or.inr (Or.inr (Or.inr rfl))⟩
set_option maxRecDepth 100000 in
theorem flX8_59 : FL RX8 59 7 9 := ⟨RX8, TX8, 10, tyX8, rfl, by decide, x_ps inX8 gdX8, tyX8_ok, nmX8, Or.inl (at_x 385 rfl rfl), rfl, Or.inr (Or.inr (Or.inr rfl))⟩
set_option maxRecDepth 100000 in
theorem flX8_64 : FL RX8 64 1 0 := ⟨RX1, TX1, 15, tyX1, rfl, by decide, x_ps inX1 gdX1, tyX1_ok, nmX1, Or.inr ⟨"KeepCount", at_x 97 rfl rfl⟩, rfl, Or.inl ⟨rfl, rfl, rfl⟩⟩
set_option maxRecDepth 100000 in
theorem flX8_68 : FL RX8 68 1 1 := ⟨RX1, TX1, 15, tyX1, rfl, by decide, x_ps inX1 gdX1, tyX1_ok, nmX1, Or.inr ⟨"KeepCount", at_x 100 rfl rfl⟩, rfl, Or.inr (Or.inr (Or.inr rfl))⟩
set_option maxRecDepth 100000 in
theorem flX8_72 : FL RX8 72 1 2 := ⟨RX1, TX1, 15, tyX1, rfl, by decide, x_ps inX1 gdX1, tyX1_ok, nmX1, Or.inr ⟨"KeepCount", at_x 104 rfl rfl⟩, rfl, Or.inr (Or.inr (Or.inr rfl))⟩
set_option maxRecDepth 100000 in
theorem flX8_83 : FL RX8 83 1 3 := ⟨RX1, TX1, 15, tyX1, rfl, by decide, x_ps inX1 gdX1, tyX1_ok, nmX1, Or.inr ⟨"KeepCount", at_x 108 rfl rfl⟩, rfl, Or.inl ⟨rfl, rfl, rfl⟩⟩
set_option maxRecDepth 100000 in
theorem flX8_89 : FL RX8 89 1 4 := ⟨RX1, TX1, 15, tyX1, rfl, by decide, x_ps inX1 gdX1, tyX1_ok, nmX1, Or.inr ⟨"KeepCount", at_x 111 rfl rfl⟩, rfl, Or.inr (Or.inr (Or.inr rfl))⟩
set_option maxRecDepth 100000 in
theorem flX8_96 : FL RX8 96 1 5 := ⟨RX1, TX1, 15, tyX1, rfl, by decide, x_ps inX1 gdX1, tyX1_ok, nmX1, Or.inr ⟨"KeepCount", at_x 114 rfl rfl⟩, rfl, Or.inr (Or.inr (Or.inr rfl))⟩
set_option maxRecDepth 100000 in
theorem flX8_116 : FL RX8 116 1 6 := ⟨RX1, TX1, 15, tyX1, rfl, by decide, x_ps inX1 gdX1, tyX1_ok, nmX1, Or.inr ⟨"KeepCount", at_x 117 rfl rfl⟩, rfl, Or.inl ⟨rfl, rfl, rfl⟩⟩
set_option maxRecDepth 100000 in
theorem flX8_119 : FL RX8 119 1 7 := ⟨RX1, TX1, 15, tyX1, rfl, by decide, x_ps inX1 gdX1, tyX1_ok, nmX1, Or.inr ⟨"KeepCount", at_x 120 rfl rfl⟩, rfl, Or.inl ⟨rfl, rfl, rfl⟩⟩
set_option maxRecDepth 100000 in
theorem flX8_122 : FL RX8 122 1 8 := ⟨RX1, TX1, 15, tyX1, rfl, by decide, x_ps inX1 gdX1, tyX1_ok, nmX1, Or.inr ⟨"KeepCount", at_x 123 rfl rfl⟩, rfl, Or.inl ⟨rfl, rfl, rfl⟩⟩
set_option maxRecDepth 100000 in
theorem flX8_147 : FL RX8 147 3 2 := ⟨RX4, TX4, 14, tyX4, rfl, by decide, x_ps inX4 gdX4, tyX4_ok, nmX4, Or.inr ⟨"KeepCount", at_x 255 rfl rfl⟩, rfl, Or.inr (Or.inr (Or.inr rfl))⟩
set_option maxRecDepth 100000 in
theorem flX8_150 : FL RX8 150 3 3 := ⟨RX4, TX4, 14, tyX4, rfl, by decide, x_ps inX4 gdX4, tyX4_ok, nmX4, Or.inr ⟨"KeepCount", at_x 257 rfl rfl⟩, rfl, Or.inr (Or.inr (Or.inr rfl))⟩
set_option maxRecDepth 100000 in
theorem flX8_168 : FL RX8 168 3 7 := ⟨RX4, TX4, 14, tyX4, rfl, by decide, x_ps inX4 gdX4, tyX4_ok, nmX4, Or.inr ⟨"KeepCount", at_x 264 rfl rfl⟩, rfl, Or.inl ⟨rfl, rfl, rfl⟩⟩
set_option maxRecDepth 100000 in
theorem flX8_171 : FL RX8 171 3 5 := ⟨RX4, TX4, 14, tyX4, rfl, by decide, x_ps inX4 gdX4, tyX4_ok, nmX4, Or.inr ⟨"KeepCount", at_x 261 rfl rfl⟩, rfl, Or.inl ⟨rfl, rfl, rfl⟩⟩
set_option maxRecDepth 100000 in
theorem flX8_177 : FL RX8 177 3 1 := ⟨RX4, TX4, 14, tyX4, rfl, by decide, x_ps inX4 gdX4, tyX4_ok, nmX4, Or.inr ⟨"KeepCount", at_x 253 rfl rfl⟩, rfl, Or.inr (Or.inr (Or.inr rfl))⟩
set_option maxRecDepth 100000 in
theorem flX8_181 : FL RX8 181 0 0 := ⟨RX0, TX0, 3, tyX0, rfl, by decide, x_ps inX0 gdX0, tyX0_ok, nmX0, Or.inr ⟨"KeepCount", at_x 183 rfl rfl⟩, rfl, Or.inl ⟨rfl, rfl, rfl⟩⟩
set_option maxRecDepth 100000 in
theorem flX8_190 : FL RX8 190 2 0 := ⟨RX3, TX3, 9, tyX3, rfl, by decide, x_ps inX3 gdX3, tyX3_ok, nmX3, Or.inr ⟨"KeepCount", at_x 206 rfl rfl⟩, rfl, Or.inl ⟨rfl, rfl, rfl⟩⟩
set_option maxRecDepth 100000 in
theorem flX8_193 : FL RX8 193 2 1 := ⟨RX3, TX3, 9, tyX3, rfl, by decide, x_ps inX3 gdX3, tyX3_ok, nmX3, Or.inr ⟨"KeepCount", at_x 209 rfl rfl⟩, rfl, Or.inl ⟨rfl, rfl, rfl⟩⟩
set_option maxRecDepth 100000 in
theorem flX8_196 : FL RX8 196 2 2 := ⟨RX3, TX3, 9, tyX3, rfl, by decide, x_ps inX3 gdX3, tyX3_ok, nmX3, Or.inr ⟨"KeepCount", at_x 212 rfl rfl⟩, rfl, Or.inl ⟨rfl, rfl, rfl⟩⟩
set_option maxRecDepth 100000 in
theorem flX8_201 : FL RX8 201 2 3 := ⟨RX3, TX3, 9, tyX3, rfl, by decide, x_ps inX3 gdX3, tyX3_ok, nmX3, Or.inr ⟨"KeepCount", at_x 215 rfl rfl⟩, rfl, Or.inr (Or.inl ⟨rfl, rfl, rfl⟩)⟩
set_option maxRecDepth 100000 in
theorem flX8_205 : FL RX8 205 2 4 := ⟨RX3, TX3, 9, tyX3, rfl, by decide, x_ps inX3 gdX3, tyX3_ok, nmX3, Or.inr ⟨"KeepCount", at_x 218 rfl rfl⟩, rfl, Or.inr (Or.inl ⟨rfl, rfl, rfl⟩)⟩
set_option maxRecDepth 100000 in
theorem flX8_208 : FL RX8 208 2 5 := ⟨RX3, TX3, 9, tyX3, rfl, by decide, x_ps inX3 gdX3, tyX3_ok, nmX3, Or.inr ⟨"KeepCount", at_x 221 rfl rfl⟩, rfl, Or.inr (Or.inl ⟨rfl, rfl, rfl⟩)⟩
set_option maxRecDepth 100000 in
theorem flX8_211 : FL RX8 211 2 6 := ⟨RX3, TX3, 9, tyX3, rfl, by decide, x_ps inX3 gdX3, tyX3_ok, nmX3, Or.inr ⟨"KeepCount", at_x 224 rfl rfl⟩, rfl, Or.inr (Or.inl ⟨rfl, rfl, rfl⟩)⟩
set_option maxRecDepth 100000 in
theorem flX8_214 : FL RX8 214 2 7 := ⟨RX3, TX3, 9, tyX3, rfl, by decide, x_ps inX3 gdX3, tyX3_ok, nmX3, Or.inr ⟨"KeepCount", at_x 227 rfl rfl⟩, rfl, Or.inr (Or.inr (Or.inr rfl))⟩
set_option maxRecDepth 100000 in
theorem flX8_218 : FL RX8 218 2 8 := ⟨RX3, TX3, 9, tyX3, rfl, by decide, x_ps inX3 gdX3, tyX3_ok, nmX3, Or.inr ⟨"KeepCount", at_x 230 rfl rfl⟩, rfl, Or.inr (Or.inr (Or.inr rfl))⟩
set_option maxRecDepth 100000 in
theorem flX8_221 : FL RX8 221 3 4 := ⟨RX4, TX4, 14, tyX4, rfl, by decide, x_ps inX4 gdX4, tyX4_ok, nmX4, Or.inr ⟨"KeepCount", at_x 259 rfl rfl⟩, rfl, Or.inr (Or.inr (Or.inr rfl))⟩
set_option maxRecDepth 100000 in
theorem flX8_235 : FL RX8 235 0 1 := ⟨RX0, TX0, 3, tyX0, rfl, by decide, x_ps inX0 gdX0, tyX0_ok, nmX0, Or.inr ⟨"KeepCount", at_x 186 rfl rfl⟩, rfl, Or.inr (Or.inr (Or.inr rfl))⟩
set_option maxRecDepth 100000 in
theorem flX8_239 : FL RX8 239 0 2 := ⟨RX0, TX0, 3, tyX0, rfl, by decide, x_ps inX0 gdX0, tyX0_ok, nmX0, Or.inr ⟨"KeepCount", at_x 189 rfl rfl⟩, rfl, Or.inr (Or.inr (Or.inr rfl))⟩
set_option maxRecDepth 100000 in
theorem flX8_266 : FL RX8 266 1 9 := ⟨RX1, TX1, 15, tyX1, rfl, by decide, x_ps inX1 gdX1, tyX1_ok, nmX1, Or.inr ⟨"KeepCount", at_x 125 rfl rfl⟩, rfl, Or.inl ⟨rfl, rfl, rfl⟩⟩
set_option maxRecDepth 100000 in
theorem flX8_269 : FL RX8 269 1 10 := ⟨RX1, TX1, 15, tyX1, rfl, by decide, x_ps inX1 gdX1, tyX1_ok, nmX1, Or.inr ⟨"KeepCount", at_x 127 rfl rfl⟩, rfl, Or.inr (Or.inr (Or.inr rfl))⟩
set_option maxRecDepth 100000 in
theorem flX8_272 : FL RX8 272 1 11 := ⟨RX1, TX1, 15, tyX1, rfl, by decide, x_ps inX1 gdX1, tyX1_ok, nmX1, Or.inr ⟨"KeepCount", at_x 129 rfl rfl⟩, rfl, Or.inr (Or.inr (Or.inr rfl))⟩
set_option maxRecDepth 100000 in
theorem flX8_278 : FL RX8 278 1 12 := ⟨RX1, TX1, 15, tyX1, rfl, by decide, x_ps inX1 gdX1, tyX1_ok, nmX1, Or.inr ⟨"KeepCount", at_x 131 rfl rfl⟩, rfl, Or.inl ⟨rfl, rfl, rfl⟩⟩
set_option maxRecDepth 100000 in
theorem flX8_281 : FL RX8 281 1 13 := ⟨RX1, TX1, 15, tyX1, rfl, by decide, x_ps inX1 gdX1, tyX1_ok, nmX1, Or.inr ⟨"KeepCount", at_x 133 rfl rfl⟩, rfl, Or.inr (Or.inr (Or.inr rfl))⟩
set_option maxRecDepth 100000 in
theorem flX8_284 : FL RX8 284 1 14 := ⟨RX1, TX1, 15, tyX1, rfl, by decide, x_ps inX1 gdX1, tyX1_ok, nmX1, Or.inr ⟨"KeepCount", at_x 135 rfl rfl⟩, rfl, Or.inr (Or.inr (Or.inr rfl))⟩
set_option maxRecDepth 100000 in
theorem flX8_290 : FL RX8 290 5 0 := ⟨RX6, TX6, 8, tyX6, rfl, by decide, x_ps inX6 gdX6, tyX6_ok, nmX6, Or.inr ⟨"KeepCount", at_x 307 rfl rfl⟩, rfl, Or.inl ⟨rfl, rfl, rfl⟩⟩
set_option maxRecDepth 100000 in
theorem flX8_291 : FL RX8 291 5 1 := ⟨RX6, TX6, 8, tyX6, rfl, by decide, x_ps inX6 gdX6, tyX6_ok, nmX6, Or.inr ⟨"KeepCount", at_x 309 rfl rfl⟩, rfl, Or.inr (Or.inr (Or.inr rfl))⟩
set_option maxRecDepth 100000 in
theorem flX8_298 : FL RX8 298 5 2 := ⟨RX6, TX6, 8, tyX6, rfl, by decide, x_ps inX6 gdX6, tyX6_ok, nmX6, Or.inr ⟨"KeepCount", at_x 311 rfl rfl⟩, rfl, Or.inl ⟨rfl, rfl, rfl⟩⟩
set_option maxRecDepth 100000 in
theorem flX8_301 : FL RX8 301 5 3 := ⟨RX6, TX6, 8, tyX6, rfl, by decide, x_ps inX6 gdX6, tyX6_ok, nmX6, Or.inr ⟨"KeepCount", at_x 313 rfl rfl⟩, rfl, Or.inr (Or.inr (Or.inr rfl))⟩
set_option maxRecDepth 100000 in
theorem flX8_304 : FL RX8 304 5 4 := ⟨RX6, TX6, 8, tyX6, rfl, by decide, x_ps inX6 gdX6, tyX6_ok, nmX6, Or.inr ⟨"KeepCount", at_x 315 rfl rfl⟩, rfl, Or.inr (Or.inr (Or.inr rfl))⟩
set_option maxRecDepth 100000 in
theorem flX8_307 : FL RX8 307 5 5 := ⟨RX6, TX6, 8, tyX6, rfl, by decide, x_ps inX6 gdX6, tyX6_ok, nmX6, Or.inr ⟨"KeepCount", at_x 317 rfl rfl⟩, rfl, Or.inr (Or.inr (Or.inr rfl))⟩
set_option maxRecDepth 100000 in
theorem flX8_327 : FL RX8 327 6 0 := ⟨RX7, TX7, 3, tyX7, rfl, by decide, x_ps inX7 gdX7, tyX7_ok, nmX7, Or.inr ⟨"KeepCount", at_x 344 rfl rfl⟩, rfl, Or.inl ⟨rfl, rfl, rfl⟩⟩
set_option maxRecDepth 100000 in
theorem flX8_328 : FL RX8 328 6 1 := ⟨RX7, TX7, 3, tyX7, rfl, by decide, x_ps inX7 gdX7, tyX7_ok, nmX7, Or.inr ⟨"KeepCount", at_x 346 rfl rfl⟩, rfl, Or.inr (Or.inr (Or.inr rfl))⟩
set_option maxRecDepth 100000 in
theorem flX8_331 : FL RX8 331 6 2 := ⟨RX7, TX7, 3, tyX7, rfl, by decide, x_ps inX7 gdX7, tyX7_ok, nmX7, Or.inr ⟨"KeepCount", at_x 348 rfl rfl⟩, rfl, Or.inr (Or.inr (Or.inr rfl))⟩
set_option maxRecDepth 100000 in
theorem flX8_338 : FL RX8 338 4 0 := ⟨RX5, TX5, 3, tyX5, rfl, by decide, x_ps inX5 gdX5, tyX5_ok, nmX5, Or.inr ⟨"KeepCount", at_x 364 rfl rfl⟩, rfl, Or.inl ⟨rfl, rfl, rfl⟩⟩
set_option maxRecDepth 100000 in
theorem flX8_340 : FL RX8 340 4 1 := ⟨RX5, TX5, 3, tyX5, rfl, by decide, x_ps inX5 gdX5, tyX5_ok, nmX5, Or.inr ⟨"KeepCount", at_x 366 rfl rfl⟩, rfl, Or.inl ⟨rfl, rfl, rfl⟩⟩
set_option maxRecDepth 100000 in
theorem flX8_341 : FL RX8 341 4 2 := ⟨RX5, TX5, 3, tyX5, rfl, by decide, x_ps inX5 gdX5, tyX5_ok, nmX5, Or.inr ⟨"KeepCount", at_x 368 rfl rfl⟩, rfl, Or.inr (Or.inr (Or.inr rfl))⟩
set_option maxRecDepth 100000 in
theorem flX0_9 : FL RX0 9 0 0 := ⟨RX0, TX0, 3, tyX0, rfl, by decide, x_ps inX0 gdX0, tyX0_ok, nmX0, Or.inl (at_x 181 rfl rfl), rfl, Or.inl ⟨rfl, rfl, rfl⟩⟩
set_option maxRecDepth 100000 in
theorem flX0_15 : FL RX0 15 0 1 := ⟨RX0, TX0, 3, tyX0, rfl, by decide, x_ps inX0 gdX0, tyX0_ok, nmX0, Or.inl (at_x 184 rfl rfl), rfl, Or.inr (Or.inr (Or.inr rfl))⟩
set_option maxRecDepth 100000 in
theorem flX0_19 : FL RX0 19 0 2 := ⟨RX0, TX0, 3, tyX0, rfl, by decide, x_ps inX0 gdX0, tyX0_ok, nmX0, Or.inl (at_x 187 rfl rfl), rfl, Or.inr (Or.inr (Or.inr rfl))⟩
set_option maxRecDepth 100000 in
theorem flX0_22 : FL RX0 22 1 3 := ⟨RX1, TX1, 15, tyX1, rfl, by decide, x_ps inX1 gdX1, tyX1_ok, nmX1, Or.inr ⟨"KeepCount", at_x 107 rfl rfl⟩, rfl, Or.inl ⟨rfl, rfl, rfl⟩⟩
set_option maxRecDepth 100000 in
theorem flX0_27 : FL RX0 27 1 4 := ⟨RX1, TX1, 15, tyX1, rfl, by decide, x_ps inX1 gdX1, tyX1_ok, nmX1, Or.inr ⟨"KeepCount", at_x 110 rfl rfl⟩, rfl, Or.inr (Or.inr (Or.inr rfl))⟩
set_option maxRecDepth 100000 in
theorem flX0_28 : FL RX0 28 1 2 := ⟨RX1, TX1, 15, tyX1, rfl, by decide, x_ps inX1 gdX1, tyX1_ok, nmX1, Or.inr ⟨"KeepCount", at_x 103 rfl rfl⟩, rfl, Or.inr (Or.inr (Or.inr rfl))⟩
set_option maxRecDepth 100000 in
theorem flX0_38 : FL RX0 38 1 5 := ⟨RX1, TX1, 15, tyX1, rfl, by decide, x_ps inX1 gdX1, tyX1_ok, nmX1, Or.inr ⟨"KeepCount", at_x 113 rfl rfl⟩, rfl, Or.inr (Or.inr (Or.inr rfl))⟩
set_option maxRecDepth 100000 in
theorem flX1_9 : FL RX1 9 1 0 := ⟨RX1, TX1, 15, tyX1, rfl, by decide, x_ps inX1 gdX1, tyX1_ok, nmX1, Or.inl (at_x 96 rfl rfl), rfl, Or.inl ⟨rfl, rfl, rfl⟩⟩
set_option maxRecDepth 100000 in
theorem flX1_15 : FL RX1 15 1 1 := ⟨RX1, TX1, 15, tyX1, rfl, by decide, x_ps inX1 gdX1, tyX1_ok, nmX1, Or.inl (at_x 99 rfl rfl), rfl, Or.inr (Or.inr (Or.inr rfl))⟩
set_option maxRecDepth 100000 in
theorem flX1_19 : FL RX1 19 1 2 := ⟨RX1, TX1, 15, tyX1, rfl, by decide, x_ps inX1 gdX1, tyX1_ok, nmX1, Or.inl (at_x 102 rfl rfl), rfl, Or.inr (Or.inr (Or.inr rfl))⟩
set_option maxRecDepth 100000 in
theorem flX1_23 : FL RX1 23 1 3 := ⟨RX1, TX1, 15, tyX1, rfl, by decide, x_ps inX1 gdX1, tyX1_ok, nmX1, Or.inl (at_x 106 rfl rfl), rfl, Or.inl ⟨rfl, rfl, rfl⟩⟩
set_option maxRecDepth 100000 in
theorem flX1_26 : FL RX1 26 1 4 := ⟨RX1, TX1, 15, tyX1, rfl, by decide, x_ps inX1 gdX1, tyX1_ok, nmX1, Or.inl (at_x 109 rfl rfl), rfl, Or.inr (Or.inr (Or.inr rfl))⟩
set_option maxRecDepth 100000 in
theorem flX1_29 : FL RX1 29 1 5 := ⟨RX1, TX1, 15, tyX1, rfl, by decide, x_ps inX1 gdX1, tyX1_ok, nmX1, Or.inl (at_x 112 rfl rfl), rfl, Or.inr (Or.inr (Or.inr rfl))⟩
set_option maxRecDepth 100000 in
theorem flX1_32 : FL RX1 32 1 6 := ⟨RX1, TX1, 15, tyX1, rfl, by decide, x_ps inX1 gdX1, tyX1_ok, nmX1, Or.inl (at_x 115 rfl rfl), rfl, Or.inl ⟨rfl, rfl, rfl⟩⟩
set_option maxRecDepth 100000 in
theorem flX1_35 : FL RX1 35 1 7 := ⟨RX1, TX1, 15, tyX1, rfl, by decide, x_ps inX1 gdX1, tyX1_ok, nmX1, Or.inl (at_x 118 rfl rfl), rfl, Or.inl ⟨rfl, rfl, rfl⟩⟩
set_option maxRecDepth 100000 in
theorem flX1_38 : FL RX1 38 1 8 := ⟨RX1, TX1, 15, tyX1, rfl, by decide, x_ps inX1 gdX1, tyX1_ok, nmX1, Or.inl (at_x 121 rfl rfl), rfl, Or.inl ⟨rfl, rfl, rfl⟩⟩
set_option maxRecDepth 100000 in
theorem flX1_41 : FL RX1 41 1 9 := ⟨RX1, TX1, 15, tyX1, rfl, by decide, x_ps inX1 gdX1, tyX1_ok, nmX1, Or.inl (at_x 124 rfl rfl), rfl, Or.inl ⟨rfl, rfl, rfl⟩⟩
set_option maxRecDepth 100000 in
theorem flX1_44 : FL RX1 44 1 10 := ⟨RX1, TX1, 15, tyX1, rfl, by decide, x_ps inX1 gdX1, tyX1_ok, nmX1, Or.inl (at_x 126 rfl rfl), rfl, Or.inr (Or.inr (Or.inr rfl))⟩
set_option maxRecDepth 100000 in
theorem flX1_47 : FL RX1 47 1 11 := ⟨RX1, TX1, 15, tyX1, rfl, by decide, x_ps inX1 gdX1, tyX1_ok, nmX1, Or.inl (at_x 128 rfl rfl), rfl, Or.inr (Or.inr (Or.inr rfl))⟩
set_option maxRecDepth 100000 in
theorem flX1_50 : FL RX1 50 1 12 := ⟨RX1, TX1, 15, tyX1, rfl, by decide, x_ps inX1 gdX1, tyX1_ok, nmX1, Or.inl (at_x 130 rfl rfl), rfl, Or.inl ⟨rfl, rfl, rfl⟩⟩
set_option maxRecDepth 100000 in
theorem flX1_53 : FL RX1 53 1 13 := ⟨RX1, TX1, 15, tyX1, rfl, by decide, x_ps inX1 gdX1, tyX1_ok, nmX1, Or.inl (at_x 132 rfl rfl), rfl, Or.inr (Or.inr (Or.inr rfl))⟩
set_option maxRecDepth 100000 in
theorem flX1_56 : FL RX1 56 1 14 := ⟨RX1, TX1, 15, tyX1, rfl, by decide, x_ps inX1 gdX1, tyX1_ok, nmX1, Or.inl (at_x 134 rfl rfl), rfl, Or.inr (Or.inr (Or.inr rfl))⟩
set_option maxRecDepth 100000 in
theorem flX3_9 : FL RX3 9 2 0 := ⟨RX3, TX3, 9, tyX3, rfl, by decide, x_ps inX3 gdX3, tyX3_ok, nmX3, Or.inl (at_x 204 rfl rfl), rfl, Or.inl ⟨rfl, rfl, rfl⟩⟩
set_option maxRecDepth 100000 in
theorem flX3_15 : FL RX3 15 2 1 := ⟨RX3, TX3, 9, tyX3, rfl, by decide, x_ps inX3 gdX3, tyX3_ok, nmX3, Or.inl (at_x 207 rfl rfl), rfl, Or.inl ⟨rfl, rfl, rfl⟩⟩
set_option maxRecDepth 100000 in
theorem flX3_18 : FL RX3 18 2 2 := ⟨RX3, TX3, 9, tyX3, rfl, by decide, x_ps inX3 gdX3, tyX3_ok, nmX3, Or.inl (at_x 210 rfl rfl), rfl, Or.inl ⟨rfl, rfl, rfl⟩⟩
set_option maxRecDepth 100000 in
theorem flX3_21 : FL RX3 21 2 3 := ⟨RX3, TX3, 9, tyX3, rfl, by decide, x_ps inX3 gdX3, tyX3_ok, nmX3, Or.inl (at_x 213 rfl rfl), rfl, Or.inr (Or.inl ⟨rfl, rfl, rfl⟩)⟩
set_option maxRecDepth 100000 in
theorem flX3_25 : FL RX3 25 2 4 := ⟨RX3, TX3, 9, tyX3, rfl, by decide, x_ps inX3 gdX3, tyX3_ok, nmX3, Or.inl (at_x 216 rfl rfl), rfl, Or.inr (Or.inl ⟨rfl, rfl, rfl⟩)⟩
set_option maxRecDepth 100000 in
theorem flX3_28 : FL RX3 28 2 5 := ⟨RX3, TX3, 9, tyX3, rfl, by decide, x_ps inX3 gdX3, tyX3_ok, nmX3, Or.inl (at_x 219 rfl rfl), rfl, Or.inr (Or.inl ⟨rfl, rfl, rfl⟩)⟩
set_option maxRecDepth 100000 in
theorem flX3_31 : FL RX3 31 2 6 := ⟨RX3, TX3, 9, tyX3, rfl, by decide, x_ps inX3 gdX3, tyX3_ok, nmX3, Or.inl (at_x 222 rfl rfl), rfl, Or.inr (Or.inl ⟨rfl, rfl, rfl⟩)⟩
set_option maxRecDepth 100000 in
theorem flX3_34 : FL RX3 34 2 7 := ⟨RX3, TX3, 9, tyX3, rfl, by decide, x_ps inX3 gdX3, tyX3_ok, nmX3, Or.inl (at_x 225 rfl rfl), rfl, Or.inr (Or.inr (Or.inr rfl))⟩
set_option maxRecDepth 100000 in
theorem flX3_38 : FL RX3 38 2 8 := ⟨RX3, TX3, 9, tyX3, rfl, by decide, x_ps inX3 gdX3, tyX3_ok, nmX3, Or.inl (at_x 228 rfl rfl), rfl, Or.inr (Or.inr (Or.inr rfl))⟩
set_option maxRecDepth 100000 in
theorem flX4_12 : FL RX4 12 3 1 := ⟨RX4, TX4, 14, tyX4, rfl, by decide, x_ps inX4 gdX4, tyX4_ok, nmX4, Or.inl (at_x 252 rfl rfl), rfl, Or.inr (Or.inr (Or.inr rfl))⟩
set_option maxRecDepth 100000 in
theorem flX4_18 : FL RX4 18 3 2 := ⟨RX4, TX4, 14, tyX4, rfl, by decide, x_ps inX4 gdX4, tyX4_ok, nmX4, Or.inl (at_x 254 rfl rfl), rfl, Or.inr (Or.inr (Or.inr rfl))⟩
set_option maxRecDepth 100000 in
theorem flX4_22 : FL RX4 22 3 3 := ⟨RX4, TX4, 14, tyX4, rfl, by decide, x_ps inX4 gdX4, tyX4_ok, nmX4, Or.inl (at_x 256 rfl rfl), rfl, Or.inr (Or.inr (Or.inr rfl))⟩
set_option maxRecDepth 100000 in
theorem flX4_25 : FL RX4 25 3 4 := ⟨RX4, TX4, 14, tyX4, rfl, by decide, x_ps inX4 gdX4, tyX4_ok, nmX4, Or.inl (at_x 258 rfl rfl), rfl, Or.inr (Or.inr (Or.inr rfl))⟩
set_option maxRecDepth 100000 in
theorem flX4_28 : FL RX4 28 3 5 := ⟨RX4, TX4, 14, tyX4, rfl, by decide, x_ps inX4 gdX4, tyX4_ok, nmX4, Or.inl (at_x 260 rfl rfl), rfl, Or.inl ⟨rfl, rfl, rfl⟩⟩
set_option maxRecDepth 100000 in
theorem flX4_32 : FL RX4 32 3 6 := ⟨RX4, TX4, 14, tyX4, rfl, by decide, x_ps inX4 gdX4, tyX4_ok, nmX4, Or.inl (at_x 262 rfl rfl), rfl, Or.inl ⟨rfl, rfl, rfl⟩⟩
set_option maxRecDepth 100000 in
theorem flX4_35 : FL RX4 35 3 7 := ⟨RX4, TX4, 14, tyX4, rfl, by decide, x_ps inX4 gdX4, tyX4_ok, nmX4, Or.inl (at_x 263 rfl rfl), rfl, Or.inl ⟨rfl, rfl, rfl⟩⟩
set_option maxRecDepth 100000 in
theorem flX4_40 : FL RX4 40 3 8 := ⟨RX4, TX4, 14, tyX4, rfl, by decide, x_ps inX4 gdX4, tyX4_ok, nmX4, Or.inl (at_x 265 rfl rfl), rfl, Or.inr (Or.inr (Or.inr rfl))⟩
set_option maxRecDepth 100000 in
theorem flX4_44 : FL RX4 44 3 9 := ⟨RX4, TX4, 14, tyX4, rfl, by decide, x_ps inX4 gdX4, tyX4_ok, nmX4, Or.inl (at_x 266 rfl rfl), rfl, Or.inr (Or.inr (Or.inr rfl))⟩
set_option maxRecDepth 100000 in
theorem flX4_48 : FL RX4 48 3 10 := ⟨RX4, TX4, 14, tyX4, rfl, by decide, x_ps inX4 gdX4, tyX4_ok, nmX4, Or.inl (at_x 267 rfl rfl), rfl, Or.inr (Or.inr (Or.inr rfl))⟩
set_option maxRecDepth 100000 in
theorem flX4_51 : FL RX4 51 3 11 := ⟨RX4, TX4, 14, tyX4, rfl, by decide, x_ps inX4 gdX4, tyX4_ok, nmX4, Or.inl (at_x 268 rfl rfl), rfl, Or.inr (Or.inl ⟨rfl, rfl, rfl⟩)⟩
set_option maxRecDepth 100000 in
theorem flX4_55 : FL RX4 55 3 12 := ⟨RX4, TX4, 14, tyX4, rfl, by decide, x_ps inX4 gdX4, tyX4_ok, nmX4, Or.inl (at_x 269 rfl rfl), rfl, Or.inr (Or.inl ⟨rfl, rfl, rfl⟩)⟩
set_option maxRecDepth 100000 in
theorem flX4_58 : FL RX4 58 3 13 := ⟨RX4, TX4, 14, tyX4, rfl, by decide, x_ps inX4 gdX4, tyX4_ok, nmX4, Or.inl (at_x 270 rfl rfl), rfl, Or.inr (Or.inl ⟨rfl, rfl, rfl⟩)⟩
set_option maxRecDepth 100000 in
theorem flX4_61 : FL RX4 61 3 0 := ⟨RX4, TX4, 14, tyX4, rfl, by decide, x_ps inX4 gdX4, tyX4_ok, nmX4, Or.inl (at_x 251 rfl rfl), rfl, Or.inr (Or.inr (Or.inr rfl))⟩
set_option maxRecDepth 100000 in
theorem flX4_73 : FL RX4 73 1 6 := ⟨RX1, TX1, 15, tyX1, rfl, by decide, x_ps inX1 gdX1, tyX1_ok, nmX1, Or.inr ⟨"KeepCount", at_x 116 rfl rfl⟩, rfl, Or.inl ⟨rfl, rfl, rfl⟩⟩
set_option maxRecDepth 100000 in
theorem flX4_78 : FL RX4 78 2 2 := ⟨RX3, TX3, 9, tyX3, rfl, by decide, x_ps inX3 gdX3, tyX3_ok, nmX3, Or.inr ⟨"KeepCount", at_x 211 rfl rfl⟩, rfl, Or.inl ⟨rfl, rfl, rfl⟩⟩
set_option maxRecDepth 100000 in
theorem flX4_81 : FL RX4 81 2 1 := ⟨RX3, TX3, 9, tyX3, rfl, by decide, x_ps inX3 gdX3, tyX3_ok, nmX3, Or.inr ⟨"KeepCount", at_x 208 rfl rfl⟩, rfl, Or.inl ⟨rfl, rfl, rfl⟩⟩
set_option maxRecDepth 100000 in
theorem flX4_92 : FL RX4 92 1 0 := ⟨RX1, TX1, 15, tyX1, rfl, by decide, x_ps inX1 gdX1, tyX1_ok, nmX1, Or.inr ⟨"KeepCount", at_x 98 rfl rfl⟩, rfl, Or.inl ⟨rfl, rfl, rfl⟩⟩
set_option maxRecDepth 100000 in
theorem flX4_95 : FL RX4 95 1 2 := ⟨RX1, TX1, 15, tyX1, rfl, by decide, x_ps inX1 gdX1, tyX1_ok, nmX1, Or.inr ⟨"KeepCount", at_x 105 rfl rfl⟩, rfl, Or.inr (Or.inr (Or.inr rfl))⟩
set_option maxRecDepth 100000 in
theorem flX4_116 : FL RX4 116 1 8 := ⟨RX1, TX1, 15, tyX1, rfl, by decide, x_ps inX1 gdX1, tyX1_ok, nmX1, Or.inr ⟨"KeepCount", at_x 122 rfl rfl⟩, rfl, Or.inl ⟨rfl, rfl, rfl⟩⟩
set_option maxRecDepth 100000 in
theorem flX4_130 : FL RX4 130 1 7 := ⟨RX1, TX1, 15, tyX1, rfl, by decide, x_ps inX1 gdX1, tyX1_ok, nmX1, Or.inr ⟨"KeepCount", at_x 119 rfl rfl⟩, rfl, Or.inl ⟨rfl, rfl, rfl⟩⟩
set_option maxRecDepth 100000 in
theorem flX4_147 : FL RX4 147 0 0 := ⟨RX0, TX0, 3, tyX0, rfl, by decide, x_ps inX0 gdX0, tyX0_ok, nmX0, Or.inr ⟨"KeepCount", at_x 182 rfl rfl⟩, rfl, Or.inl ⟨rfl, rfl, rfl⟩⟩
set_option maxRecDepth 100000 in
theorem flX4_150 : FL RX4 150 0 1 := ⟨RX0, TX0, 3, tyX0, rfl, by decide, x_ps inX0 gdX0, tyX0_ok, nmX0, Or.inr ⟨"KeepCount", at_x 185 rfl rfl⟩, rfl, Or.inr (Or.inr (Or.inr rfl))⟩
set_option maxRecDepth 100000 in
theorem flX4_153 : FL RX4 153 0 2 := ⟨RX0, TX0, 3, tyX0, rfl, by decide, x_ps inX0 gdX0, tyX0_ok, nmX0, Or.inr ⟨"KeepCount", at_x 188 rfl rfl⟩, rfl, Or.inr (Or.inr (Or.inr rfl))⟩
set_option maxRecDepth 100000 in
theorem flX4_172 : FL RX4 172 2 0 := ⟨RX3, TX3, 9, tyX3, rfl, by decide, x_ps inX3 gdX3, tyX3_ok, nmX3, Or.inr ⟨"KeepCount", at_x 205 rfl rfl⟩, rfl, Or.inl ⟨rfl, rfl, rfl⟩⟩
set_option maxRecDepth 100000 in
theorem flX4_173 : FL RX4 173 2 3 := ⟨RX3, TX3, 9, tyX3, rfl, by decide, x_ps inX3 gdX3, tyX3_ok, nmX3, Or.inr ⟨"KeepCount", at_x 214 rfl rfl⟩, rfl, Or.inr (Or.inl ⟨rfl, rfl, rfl⟩)⟩
set_option maxRecDepth 100000 in
theorem flX4_174 : FL RX4 174 2 4 := ⟨RX3, TX3, 9, tyX3, rfl, by decide, x_ps inX3 gdX3, tyX3_ok, nmX3, Or.inr ⟨"KeepCount", at_x 217 rfl rfl⟩, rfl, Or.inr (Or.inl ⟨rfl, rfl, rfl⟩)⟩
set_option maxRecDepth 100000 in
theorem flX4_175 : FL RX4 175 2 5 := ⟨RX3, TX3, 9, tyX3, rfl, by decide, x_ps inX3 gdX3, tyX3_ok, nmX3, Or.inr ⟨"KeepCount", at_x 220 rfl rfl⟩, rfl, Or.inr (Or.inl ⟨rfl, rfl, rfl⟩)⟩
set_option maxRecDepth 100000 in
theorem flX4_177 : FL RX4 177 2 6 := ⟨RX3, TX3, 9, tyX3, rfl, by decide, x_ps inX3 gdX3, tyX3_ok, nmX3, Or.inr ⟨"KeepCount", at_x 223 rfl rfl⟩, rfl, Or.inr (Or.inl ⟨rfl, rfl, rfl⟩)⟩
set_option maxRecDepth 100000 in
theorem flX4_178 : FL RX4 178 2 7 := ⟨RX3, TX3, 9, tyX3, rfl, by decide, x_ps inX3 gdX3, tyX3_ok, nmX3, Or.inr ⟨"KeepCount", at_x 226 rfl rfl⟩, rfl, Or.inr (Or.inr (Or.inr rfl))⟩
set_option maxRecDepth 100000 in
theorem flX4_179 : FL RX4 179 2 8 := ⟨RX3, TX3, 9, tyX3, rfl, by decide, x_ps inX3 gdX3, tyX3_ok, nmX3, Or.inr ⟨"KeepCount", at_x 229 rfl rfl⟩, rfl, Or.inr (Or.inr (Or.inr rfl))⟩
set_option maxRecDepth 100000 in
theorem flX4_195 : FL RX4 195 1 1 := ⟨RX1, TX1, 15, tyX1, rfl, by decide, x_ps inX1 gdX1, tyX1_ok, nmX1, Or.inr ⟨"KeepCount", at_x 101 rfl rfl⟩, rfl, Or.inr (Or.inr (Or.inr rfl))⟩
set_option maxRecDepth 100000 in
theorem flX5_9 : FL RX5 9 4 0 := ⟨RX5, TX5, 3, tyX5, rfl, by decide, x_ps inX5 gdX5, tyX5_ok, nmX5, Or.inl (at_x 363 rfl rfl), rfl, Or.inl ⟨rfl, rfl, rfl⟩⟩
set_option maxRecDepth 100000 in
theorem flX5_15 : FL RX5 15 4 1 := ⟨RX5, TX5, 3, tyX5, rfl, by decide, x_ps inX5 gdX5, tyX5_ok, nmX5, Or.inl (at_x 365 rfl rfl), rfl, Or.inl ⟨rfl, rfl, rfl⟩⟩
set_option maxRecDepth 100000 in
theorem flX5_18 : FL RX5 18 4 2 := ⟨RX5, TX5, 3, tyX5, rfl, by decide, x_ps inX5 gdX5, tyX5_ok, nmX5, Or.inl (at_x 367 rfl rfl), rfl, Or.inr (Or.inr (Or.inr rfl))⟩
set_option maxRecDepth 100000 in
theorem flX6_9 : FL RX6 9 5 0 := ⟨RX6, TX6, 8, tyX6, rfl, by decide, x_ps inX6 gdX6, tyX6_ok, nmX6, Or.inl (at_x 306 rfl rfl), rfl, Or.inl ⟨rfl, rfl, rfl⟩⟩
set_option maxRecDepth 100000 in
theorem flX6_15 : FL RX6 15 5 1 := ⟨RX6, TX6, 8, tyX6, rfl, by decide, x_ps inX6 gdX6, tyX6_ok, nmX6, Or.inl (at_x 308 rfl rfl), rfl, Or.inr (Or.inr (Or.inr rfl))⟩
set_option maxRecDepth 100000 in
theorem flX6_19 : FL RX6 19 5 2 := ⟨RX6, TX6, 8, tyX6, rfl, by decide, x_ps inX6 gdX6, tyX6_ok, nmX6, Or.inl (at_x 310 rfl rfl), rfl, Or.inl ⟨rfl, rfl, rfl⟩⟩
set_option maxRecDepth 100000 in
theorem flX6_22 : FL RX6 22 5 3 := ⟨RX6, TX6, 8, tyX6, rfl, by decide, x_ps inX6 gdX6, tyX6_ok, nmX6, Or.inl (at_x 312 rfl rfl), rfl, Or.inr (Or.inr (Or.inr rfl))⟩
set_option maxRecDepth 100000 in
theorem flX6_25 : FL RX6 25 5 4 := ⟨RX6, TX6, 8, tyX6, rfl, by decide, x_ps inX6 gdX6, tyX6_ok, nmX6, Or.inl (at_x 314 rfl rfl), rfl, Or.inr (Or.inr (Or.inr rfl))⟩
set_option maxRecDepth 100000 in
theorem flX6_28 : FL RX6 28 5 5 := ⟨RX6, TX6, 8, tyX6, rfl, by decide, x_ps inX6 gdX6, tyX6_ok, nmX6, Or.inl (at_x 316 rfl rfl), rfl, Or.inr (Or.inr (Or.inr rfl))⟩
set_option maxRecDepth 100000 in
theorem flX6_31 : FL RX6 31 5 6 := ⟨RX6, TX6, 8, tyX6, rfl, by decide, x_ps inX6 gdX6, tyX6_ok, nmX6, Or.inl (at_x 318 rfl rfl), rfl, Or.inl ⟨rfl, rfl, rfl⟩⟩
set_option maxRecDepth 100000 in
theorem flX6_34 : FL RX6 34 5 7 := ⟨RX6, TX6, 8, tyX6, rfl, by decide, x_ps inX6 gdX6, tyX6_ok, nmX6, Or.inl (at_x 319 rfl rfl), rfl, Or.inr (Or.inr (Or.inl ⟨rfl, rfl, rfl⟩))⟩
set_option maxRecDepth 100000 in
theorem flX7_7 : FL RX7 7 6 0 := ⟨RX7, TX7, 3, tyX7, rfl, by decide, x_ps inX7 gdX7, tyX7_ok, nmX7, Or.inl (at_x 343 rfl rfl), rfl, Or.inl ⟨rfl, rfl, rfl⟩⟩
set_option maxRecDepth 100000 in
theorem flX7_13 : FL RX7 13 6 1 := ⟨RX7, TX7, 3, tyX7, rfl, by decide, x_ps inX7 gdX7, tyX7_ok, nmX7, Or.inl (at_x 345 rfl rfl), rfl, Or.inr (Or.inr (Or.inr rfl))⟩
set_option maxRecDepth 100000 in
theorem flX7_17 : FL RX7 17 6 2 := ⟨RX7, TX7, 3, tyX7, rfl, by decide, x_ps inX7 gdX7, tyX7_ok, nmX7, Or.inl (at_x 347 rfl rfl), rfl, Or.inr (Or.inr (Or.inr rfl))⟩
set_option maxRecDepth 100000 in
theorem flX9_11 : FL RX9 11 8 2 := ⟨RX9, TX9, 69, tyX9, rfl, by decide, x_ps inX9 gdX9, tyX9_ok, nmX9, Or.inl (at_x 850 rfl rfl), rfl, Or.inr (Or.inr (Or.inr rfl))⟩
set_option maxRecDepth 100000 in
theorem flX9_15 : FL RX9 15 8 3 := ⟨RX9, TX9, 69, tyX9, rfl, by decide, x_ps inX9 gdX9, tyX9_ok, nmX9, Or.inl (at_x 851 rfl rfl), rfl, Or.inr (Or.inr (Or.inr rfl))⟩
set_option maxRecDepth 100000 in
theorem flX9_19 : FL RX9 19 8 4 := ⟨RX9, TX9, 69, tyX9, rfl, by decide, x_ps inX9 gdX9, tyX9_ok, nmX9, Or.inl (at_x 852 rfl rfl), rfl, Or.inr (Or.inr (Or.inr rfl))⟩
set_option maxRecDepth 100000 in
theorem flX9_22 : FL RX9 22 8 5 := ⟨RX9, TX9, 69, tyX9, rfl, by decide, x_ps inX9 gdX9, tyX9_ok, nmX9, Or.inl (at_x 853 rfl rfl), rfl, Or.inr (Or.inr (Or.inr rfl))⟩
set_option maxRecDepth 100000 in
theorem flX9_25 : FL RX9 25 8 6 := ⟨RX9, TX9, 69, tyX9, rfl, by decide, x_ps inX9 gdX9, tyX9_ok, nmX9, Or.inl (at_x 854 rfl rfl), rfl, Or.inl ⟨rfl, rfl, rfl⟩⟩
set_option maxRecDepth 100000 in
theorem flX9_29 : FL RX9 29 8 7 := ⟨RX9, TX9, 69, tyX9, rfl, by decide, x_ps inX9 gdX9, tyX9_ok, nmX9, Or.inl (at_x 855 rfl rfl), rfl, Or.inl ⟨rfl, rfl, rfl⟩⟩
set_option maxRecDepth 100000 in
theorem flX9_32 : FL RX9 32 8 8 := ⟨RX9, TX9, 69, tyX9, rfl, by decide, x_ps inX9 gdX9, tyX9_ok, nmX9, Or.inl (at_x 856 rfl rfl), rfl, Or.inl ⟨rfl, rfl, rfl⟩⟩
set_option maxRecDepth 100000 in
theorem flX9_35 : FL RX9 35 8 11 := ⟨RX9, TX9, 69, tyX9, rfl, by decide, x_ps inX9 gdX9, tyX9_ok, nmX9, Or.inl (at_x 859 rfl rfl), rfl, Or.inr (Or.inr (Or.inr rfl))⟩
set_option maxRecDepth 100000 in
theorem flX9_38 : FL RX9 38 8 12 := ⟨RX9, TX9, 69, tyX9, rfl, by decide, x_ps inX9 gdX9, tyX9_ok, nmX9, Or.inl (at_x 860 rfl rfl), rfl, Or.inr (Or.inr (Or.inr rfl))⟩
set_option maxRecDepth 100000 in
theorem flX9_41 : FL RX9 41 8 13 := ⟨RX9, TX9, 69, tyX9, rfl, by decide, x_ps inX9 gdX9, tyX9_ok, nmX9, Or.inl (at_x 861 rfl rfl), rfl, Or.inr (Or.inr (Or.inr rfl))⟩
set_option maxRecDepth 100000 in
theorem flX9_44 : FL RX9 44 8 14 := ⟨RX9, TX9, 69, tyX9, rfl, by decide, x_ps inX9 gdX9, tyX9_ok, nmX9, Or.inl (at_x 862 rfl rfl), rfl, Or.inr (Or.inr (Or.inr rfl))⟩
set_option maxRecDepth 100000 in
theorem flX9_47 : FL RX9 47 8 16 := ⟨RX9, TX9, 69, tyX9, rfl, by decide, x_ps inX9 gdX9, tyX9_ok, nmX9, Or.inl (at_x 864 rfl rfl), rfl, Or.inr (Or.inr (Or.inr rfl))⟩
set_option maxRecDepth 100000 in
theorem flX9_50 : FL RX9 50 8 17 := ⟨RX9, TX9, 69, tyX9, rfl, by decide, x_ps inX9 gdX9, tyX9_ok, nmX9, Or.inl (at_x 865 rfl rfl), rfl, Or.inr (Or.inr (Or.inr rfl))⟩
set_option maxRecDepth 100000 in
theorem flX9_53 : FL RX9 53 8 19 := ⟨RX9, TX9, 69, tyX9, rfl, by decide, x_ps inX9 gdX9, tyX9_ok, nmX9, Or.inl (at_x 867 rfl rfl), rfl, Or.inr (Or.inr (Or.inr rfl))⟩
set_option maxRecDepth 100000 in
theorem flX9_56 : FL RX9 56 8 20 := ⟨RX9, TX9, 69, tyX9, rfl, by decide, x_ps inX9 gdX9, tyX9_ok, nmX9, Or.inl (at_x 868 rfl rfl), rfl, Or.inr (Or.inr (Or.inr rfl))⟩
set_option maxRecDepth 100000 in
theorem flX9_59 : FL RX9 59 8 21 := ⟨RX9, TX9, 69, tyX9, rfl, by decide, x_ps inX9 gdX9, tyX9_ok, nmX9, Or.inl (at_x 869 rfl rfl), rfl, Or.inr (Or.inr (Or.inr rfl))⟩
set_option maxRecDepth 100000 in
theorem flX9_62 : FL RX9 62 8 24 := ⟨RX9, TX9, 69, tyX9, rfl, by decide, x_ps inX9 gdX9, tyX9_ok, nmX9, Or.inl (at_x 872 rfl rfl), rfl, Or.inr (Or.inr (Or.inr rfl))⟩
set_option maxRecDepth 100000 in
theorem flX9_65 : FL RX9 65 8 25 := ⟨RX9, TX9, 69, tyX9, rfl, by decide, x_ps inX9 gdX9, tyX9_ok, nmX9, Or.inl (at_x 873 rfl rfl), rfl, Or.inr (Or.inr (Or.inr rfl))⟩
set_option maxRecDepth 100000 in
theorem flX9_68 : FL RX9 68 8 26 := ⟨RX9, TX9, 69, tyX9, rfl, by decide, x_ps inX9 gdX9, tyX9_ok, nmX9, Or.inl (at_x 874 rfl rfl), rfl, Or.inr (Or.inr (Or.inr rfl))⟩
set_option maxRecDepth 100000 in
theorem flX9_71 : FL RX9 71 8 27 := ⟨RX9, TX9, 69, tyX9, rfl, by decide, x_ps inX9 gdX9, tyX9_ok, nmX9, Or.inl (at_x 875 rfl rfl), rfl, Or.inr (Or.inr (Or.inr rfl))⟩
set_option maxRecDepth 100000 in
theorem flX9_74 : FL RX9 74 8 28 := ⟨RX9, TX9, 69, tyX9, rfl, by decide, x_ps inX9 gdX9, tyX9_ok, nmX9, Or.inl (at_x 876 rfl rfl), rfl, Or.inr (Or.inr (Or.inr rfl))⟩
set_option maxRecDepth 100000 in
theorem flX9_78 : FL RX9 78 8 33 := ⟨RX9, TX9, 69, tyX9, rfl, by decide, x_ps inX9 gdX9, tyX9_ok, nmX9, Or.inl (at_x 881 rfl rfl), rfl, Or.inr (Or.inr (Or.inr rfl))⟩
set_option maxRecDepth 100000 in
theorem flX9_81 : FL RX9 81 8 34 := ⟨RX9, TX9, 69, tyX9, rfl, by decide, x_ps inX9 gdX9, tyX9_ok, nmX9, Or.inl (at_x 882 rfl rfl), rfl, Or.inr (Or.inr (Or.inr rfl))⟩
set_option maxRecDepth 100000 in
theorem flX9_84 : FL RX9 84 8 35 := ⟨RX9, TX9, 69, tyX9, rfl, by decide, x_ps inX9 gdX9, tyX9_ok, nmX9, Or.inl (at_x 883 rfl rfl), rfl, Or.inr (Or.inr (Or.inr rfl))⟩
set_option maxRecDepth 100000 in
theorem flX9_87 : FL RX9 87 8 36 := ⟨RX9, TX9, 69, tyX9, rfl, by decide, x_ps inX9 gdX9, tyX9_ok, nmX9, Or.inl (at_x 884 rfl rfl), rfl, Or.inr (Or.inr (Or.inr rfl))⟩
set_option maxRecDepth 100000 in
theorem flX9_90 : FL RX9 90 8 37 := ⟨RX9, TX9, 69, tyX9, rfl, by decide, x_ps inX9 gdX9, tyX9_ok, nmX9, Or.inl (at_x 885 rfl rfl), rfl, Or.inr (Or.inr (Or.inr rfl))⟩
set_option maxRecDepth 100000 in
theorem flX9_93 : FL RX9 93 8 38 := ⟨RX9, TX9, 69, tyX9, rfl, by decide, x_ps inX9 gdX9, tyX9_ok, nmX9, Or.inl (at_x 886 rfl rfl), rfl, Or.inr (Or.inr (Or.inr rfl))⟩
set_option maxRecDepth 100000 in
theorem flX9_96 : FL RX9 96 8 39 := ⟨RX9, TX9, 69, tyX9, rfl, by decide, x_ps inX9 gdX9, tyX9_ok, nmX9, Or.inl (at_x 887 rfl rfl), rfl, Or.inr (Or.inr (Or.inr rfl))⟩
set_option maxRecDepth 100000 in
theorem flX9_99 : FL RX9 99 8 40 := ⟨RX9, TX9, 69, tyX9, rfl, by decide, x_ps inX9 gdX9, tyX9_ok, nmX9, Or.inl (at_x 888 rfl rfl), rfl, Or.inr (Or.inr (Or.inr rfl))⟩
set_option maxRecDepth 100000 in
theorem flX9_102 : FL RX9 102 8 41 := ⟨RX9, TX9, 69, tyX9, rfl, by decide, x_ps inX9 gdX9, tyX9_ok, nmX9, Or.inl (at_x 889 rfl rfl), rfl, Or.inr (Or.inr (Or.inr rfl))⟩
set_option maxRecDepth 100000 in
theorem flX9_105 : FL RX9 105 8 42 := ⟨RX9, TX9, 69, tyX9, rfl, by decide, x_ps inX9 gdX9, tyX9_ok, nmX9, Or.inl (at_x 890 rfl rfl), rfl, Or.inr (Or.inr (Or.inr rfl))⟩
set_option maxRecDepth 100000 in
theorem flX9_108 : FL RX9 108 8 43 := ⟨RX9, TX9, 69, tyX9, rfl, by decide, x_ps inX9 gdX9, tyX9_ok, nmX9, Or.inl (at_x 891 rfl rfl), rfl, Or.inr (Or.inr (Or.inr rfl))⟩
set_option maxRecDepth 100000 in
theorem flX9_111 : FL RX9 111 8 44 := ⟨RX9, TX9, 69, tyX9, rfl, by decide, x_ps inX9 gdX9, tyX9_ok, nmX9, Or.inl (at_x 892 rfl rfl), rfl, Or.inr (Or.inr (Or.inr rfl))⟩
set_option maxRecDepth 100000 in
theorem flX9_114 : FL RX9 114 8 45 := ⟨RX9, TX9, 69, tyX9, rfl, by decide, x_ps inX9 gdX9, tyX9_ok, nmX9, Or.inl (at_x 893 rfl rfl), rfl, Or.inr (Or.inr (Or.inr rfl))⟩
set_option maxRecDepth 100000 in
theorem flX9_117 : FL RX9 117 8 52 := ⟨RX9, TX9, 69, tyX9, rfl, by decide, x_ps inX9 gdX9, tyX9_ok, nmX9, Or.inl (at_x 900 rfl rfl), rfl, Or.inr (Or.inr (Or.inr rfl))⟩
set_option maxRecDepth 100000 in
theorem flX9_120 : FL RX9 120 8 53 := ⟨RX9, TX9, 69, tyX9, rfl, by decide, x_ps inX9 gdX9, tyX9_ok, nmX9, Or.inl (at_x 901 rfl rfl), rfl, Or.inr (Or.inr (Or.inr rfl))⟩
set_option maxRecDepth 100000 in
theorem flX9_123 : FL RX9 123 8 54 := ⟨RX9, TX9, 69, tyX9, rfl, by decide, x_ps inX9 gdX9, tyX9_ok, nmX9, Or.inl (at_x 902 rfl rfl), rfl, Or.inr (Or.inr (Or.inr rfl))⟩
set_option maxRecDepth 100000 in
theorem flX9_126 : FL RX9 126 8 56 := ⟨RX9, TX9, 69, tyX9, rfl, by decide, x_ps inX9 gdX9, tyX9_ok, nmX9, Or.inl (at_x 904 rfl rfl), rfl, Or.inr (Or.inr (Or.inr rfl))⟩
set_option maxRecDepth 100000 in
theorem flX9_129 : FL RX9 129 8 57 := ⟨RX9, TX9, 69, tyX9, rfl, by decide, x_ps inX9 gdX9, tyX9_ok, nmX9, Or.inl (at_x 905 rfl rfl), rfl, Or.inr (Or.inr (Or.inr rfl))⟩
set_option maxRecDepth 100000 in
theorem flX9_132 : FL RX9 132 8 58 := ⟨RX9, TX9, 69, tyX9, rfl, by decide, x_ps inX9 gdX9, tyX9_ok, nmX9, Or.inl (at_x 906 rfl rfl), rfl, Or.inr (Or.inr (Or.inr rfl))⟩
set_option maxRecDepth 100000 in
theorem flX9_135 : FL RX9 135 8 59 := ⟨RX9, TX9, 69, tyX9, rfl, by decide, x_ps inX9 gdX9, tyX9_ok, nmX9, Or.inl (at_x 907 rfl rfl), rfl, Or.inr (Or.inr (Or.inr rfl))⟩
set_option maxRecDepth 100000 in
theorem flX9_138 : FL RX9 138 8 60 := ⟨RX9, TX9, 69, tyX9, rfl, by decide, x_ps inX9 gdX9, tyX9_ok, nmX9, Or.inl (at_x 908 rfl rfl), rfl, Or.inr (Or.inr (Or.inr rfl))⟩
set_option maxRecDepth 100000 in
theorem flX9_141 : FL RX9 141 8 61 := ⟨RX9, TX9, 69, tyX9, rfl, by decide, x_ps inX9 gdX9, tyX9_ok, nmX9, Or.inl (at_x 909 rfl rfl), rfl, Or.inr (Or.inr (Or.inr rfl))⟩
set_option maxRecDepth 100000 in
theorem flX9_144 : FL RX9 144 8 62 := ⟨RX9, TX9, 69, tyX9, rfl, by decide, x_ps inX9 gdX9, tyX9_ok, nmX9, Or.inl (at_x 910 rfl rfl), rfl, Or.inr (Or.inr (Or.inr rfl))⟩
set_option maxRecDepth 100000 in
theorem flX9_147 : FL RX9 147 8 63 := ⟨RX9, TX9, 69, tyX9, rfl, by decide, x_ps inX9 gdX9, tyX9_ok, nmX9, Or.inl (at_x 911 rfl rfl), rfl, Or.inr (Or.inr (Or.inr rfl))⟩
set_option maxRecDepth 100000 in
theorem flX9_150 : FL RX9 150 8 64 := ⟨RX9, TX9, 69, tyX9, rfl, by decide, x_ps inX9 gdX9, tyX9_ok, nmX9, Or.inl (at_x 912 rfl rfl), rfl, Or.inr (Or.inr (Or.inr rfl))⟩
set_option maxRecDepth 100000 in
theorem flX9_153 : FL RX9 153 8 65 := ⟨RX9, TX9, 69, tyX9, rfl, by decide, x_ps inX9 gdX9, tyX9_ok, nmX9, Or.inl (at_x 913 rfl rfl), rfl, Or.inr (Or.inr (Or.inr rfl))⟩
set_option maxRecDepth 100000 in
theorem flX9_156 : FL RX9 156 8 66 := ⟨RX9, TX9, 69, tyX9, rfl, by decide, x_ps inX9 gdX9, tyX9_ok, nmX9, Or.inl (at_x 914 rfl rfl), rfl, Or.inr (Or.inr (Or.inr rfl))⟩
set_option maxRecDepth 100000 in
theorem flX9_161 : FL RX9 161 8 67 := ⟨RX9, TX9, 69, tyX9, rfl, by decide, x_ps inX9 gdX9, tyX9_ok, nmX9, Or.inl (at_x 915 rfl rfl), rfl, Or.inr (Or.inr (Or.inr rfl))⟩
set_option maxRecDepth 100000 in
theorem flX9_164 : FL RX9 164 8 68 := ⟨RX9, TX9, 69, tyX9, rfl, by decide, x_ps inX9 gdX9, tyX9_ok, nmX9, Or.inl (at_x 916 rfl rfl), rfl, Or.inr (Or.inr (Or.inr rfl))⟩
set_option maxRecDepth 100000 in
theorem flX9_167 : FL RX9 167 8 0 := ⟨RX9, TX9, 69, tyX9, rfl, by decide, x_ps inX9 gdX9, tyX9_ok, nmX9, Or.inl (at_x 848 rfl rfl), rfl, Or.inl ⟨rfl, rfl, rfl⟩⟩
set_option maxRecDepth 100000 in
theorem flX9_174 : FL RX9 174 8 1 := ⟨RX9, TX9, 69, tyX9, rfl, by decide, x_ps inX9 gdX9, tyX9_ok, nmX9, Or.inl (at_x 849 rfl rfl), rfl, Or.inl ⟨rfl, rfl, rfl⟩⟩
set_option maxRecDepth 100000 in
theorem flX9_187 : FL RX9 187 8 15 := ⟨RX9, TX9, 69, tyX9, rfl, by decide, x_ps inX9 gdX9, tyX9_ok, nmX9, Or.inl (at_x 863 rfl rfl), rfl, Or.inl ⟨rfl, rfl, rfl⟩⟩
set_option maxRecDepth 100000 in
theorem flX9_225 : FL RX9 225 8 18 := ⟨RX9, TX9, 69, tyX9, rfl, by decide, x_ps inX9 gdX9, tyX9_ok, nmX9, Or.inl (at_x 866 rfl rfl), rfl, Or.inl ⟨rfl, rfl, rfl⟩⟩
set_option maxRecDepth 100000 in
theorem flX9_235 : FL RX9 235 8 30 := ⟨RX9, TX9, 69, tyX9, rfl, by decide, x_ps inX9 gdX9, tyX9_ok, nmX9, Or.inl (at_x 878 rfl rfl), rfl, Or.inr (Or.inl ⟨rfl, rfl, rfl⟩)⟩
set_option maxRecDepth 100000 in
theorem flX9_239 : FL RX9 239 8 32 := ⟨RX9, TX9, 69, tyX9, rfl, by decide, x_ps inX9 gdX9, tyX9_ok, nmX9, Or.inl (at_x 880 rfl rfl), rfl, Or.inr (Or.inl ⟨rfl, rfl, rfl⟩)⟩
set_option maxRecDepth 100000 in
theorem flX9_242 : FL RX9 242 8 29 := ⟨RX9, TX9, 69, tyX9, rfl, by decide, x_ps inX9 gdX9, tyX9_ok, nmX9, Or.inl (at_x 877 rfl rfl), rfl, Or.inr (Or.inl ⟨rfl, rfl, rfl⟩)⟩
set_option maxRecDepth 100000 in
theorem flX9_248 : FL RX9 248 8 22 := ⟨RX9, TX9, 69, tyX9, rfl, by decide, x_ps inX9 gdX9, tyX9_ok, nmX9, Or.inl (at_x 870 rfl rfl), rfl, Or.inl ⟨rfl, rfl, rfl⟩⟩
set_option maxRecDepth 100000 in
theorem flX9_251 : FL RX9 251 8 23 := ⟨RX9, TX9, 69, tyX9, rfl, by decide, x_ps inX9 gdX9, tyX9_ok, nmX9, Or.inl (at_x 871 rfl rfl), rfl, Or.inl ⟨rfl, rfl, rfl⟩⟩
set_option maxRecDepth 100000 in
theorem flX9_260 : FL RX9 260 8 31 := ⟨RX9, TX9, 69, tyX9, rfl, by decide, x_ps inX9 gdX9, tyX9_ok, nmX9, Or.inl (at_x 879 rfl rfl), rfl, Or.inr (Or.inl ⟨rfl, rfl, rfl⟩)⟩
set_option maxRecDepth 100000 in
theorem flX9_360 : FL RX9 360 8 9 := ⟨RX9, TX9, 69, tyX9, rfl, by decide, x_ps inX9 gdX9, tyX9_ok, nmX9, Or.inl (at_x 857 rfl rfl), rfl, Or.inl ⟨rfl, rfl, rfl⟩⟩
set_option maxRecDepth 100000 in
theorem flX9_366 : FL RX9 366 8 10 := ⟨RX9, TX9, 69, tyX9, rfl, by decide, x_ps inX9 gdX9, tyX9_ok, nmX9, Or.inl (at_x 858 rfl rfl), rfl, Or.inl ⟨rfl, rfl, rfl⟩⟩
set_option maxRecDepth 100000 in
theorem flX9_374 : FL RX9 374 8 46 := ⟨RX9, TX9, 69, tyX9, rfl, by decide, x_ps inX9 gdX9, tyX9_ok, nmX9, Or.inl (at_x 894 rfl rfl), rfl, Or.inl ⟨rfl, rfl, rfl⟩⟩
set_option maxRecDepth 100000 in
theorem flX9_377 : FL RX9 377 8 48 := ⟨RX9, TX9, 69, tyX9, rfl, by decide, x_ps inX9 gdX9, tyX9_ok, nmX9, Or.inl (at_x 896 rfl rfl), rfl, Or.inl ⟨rfl, rfl, rfl⟩⟩
set_option maxRecDepth 100000 in
theorem flX9_380 : FL RX9 380 8 47 := ⟨RX9, TX9, 69, tyX9, rfl, by decide, x_ps inX9 gdX9, tyX9_ok, nmX9, Or.inl (at_x 895 rfl rfl), rfl, Or.inl ⟨rfl, rfl, rfl⟩⟩
set_option maxRecDepth 100000 in
theorem flX9_383 : FL RX9 383 8 51 := ⟨RX9, TX9, 69, tyX9, rfl, by decide, x_ps inX9 gdX9, tyX9_ok, nmX9, Or.inl (at_x 899 rfl rfl), rfl, Or.inr (Or.inr (Or.inl ⟨rfl, rfl, rfl⟩))⟩
set_option maxRecDepth 100000 in
theorem flX9_397 : FL RX9 397 8 50 := ⟨RX9, TX9, 69, tyX9, rfl, by decide, x_ps inX9 gdX9, tyX9_ok, nmX9, Or.inl (at_x 898 rfl rfl), rfl, Or.inl ⟨rfl, rfl, rfl⟩⟩
set_option maxRecDepth 100000 in
theorem flX9_400 : FL RX9 400 8 49 := ⟨RX9, TX9, 69, tyX9, rfl, by decide, x_ps inX9 gdX9, tyX9_ok, nmX9, Or.inl (at_x 897 rfl rfl), rfl, Or.inl ⟨rfl, rfl, rfl⟩⟩
set_option maxRecDepth 100000 in
theorem flX9_431 : FL RX9 431 8 55 := ⟨RX9, TX9, 69, tyX9, rfl, by decide, x_ps inX9 gdX9, tyX9_ok, nmX9, Or.inl (at_x 903 rfl rfl), rfl, Or.inr (Or.inr (Or.inl ⟨rfl, rfl, rfl⟩))⟩
set_option maxRecDepth 100000 in
theorem mlX8_76 : Cond.methodLink RX8 76 mX2_isRow.1 ∈ xtbl := at_x 415 rfl rfl
set_option maxRecDepth 100000 in
theorem mlX8_86 : Cond.methodLink RX8 86 mX8_isOver.1 ∈ xtbl := at_x 422 rfl rfl
set_option maxRecDepth 100000 in
theorem mlX8_92 : Cond.methodLink RX8 92 mX2_filledUp.1 ∈ xtbl := at_x 439 rfl rfl
set_option maxRecDepth 100000 in
theorem mlX8_99 : Cond.methodLink RX8 99 mX1_hasBallot.1 ∈ xtbl := at_x 446 rfl rfl
set_option maxRecDepth 100000 in
theorem mlX8_103 : Cond.methodLink RX8 103 mX1_hasCandidate.1 ∈ xtbl := at_x 458 rfl rfl
set_option maxRecDepth 100000 in
theorem mlX8_106 : Cond.methodLink RX8 106 mX8_putSeats.1 ∈ xtbl := at_x 466 rfl rfl
set_option maxRecDepth 100000 in
theorem mlX8_110 : Cond.methodLink RX8 110 mX8_putLimit.1 ∈ xtbl := at_x 471 rfl rfl
set_option maxRecDepth 100000 in
theorem mlX8_113 : Cond.methodLink RX8 113 mX8_putRounds.1 ∈ xtbl := at_x 475 rfl rfl
set_option maxRecDepth 100000 in
theorem mlX8_125 : Cond.methodLink RX8 125 Lib.Math.max.name ∈ xtbl := at_x 426 rfl rfl
set_option maxRecDepth 100000 in
theorem mlX8_133 : Cond.methodLink RX8 133 mX7_begin.1 ∈ xtbl := at_x 430 rfl rfl
set_option maxRecDepth 100000 in
theorem mlX8_137 : Cond.methodLink RX8 137 mX7_addCause.1 ∈ xtbl := at_x 438 rfl rfl
set_option maxRecDepth 100000 in
theorem mlX8_140 : Cond.methodLink RX8 140 mX4_work.1 ∈ xtbl := at_x 491 rfl rfl
set_option maxRecDepth 100000 in
theorem mlX8_143 : Cond.methodLink RX8 143 mX8_tallied.1 ∈ xtbl := at_x 487 rfl rfl
set_option maxRecDepth 100000 in
theorem mlX8_153 : Cond.methodLink RX8 153 mX1_placeInLot.1 ∈ xtbl := at_x 585 rfl rfl
set_option maxRecDepth 100000 in
theorem mlX8_156 : Cond.methodLink RX8 156 mX1_manyFirst.1 ∈ xtbl := at_x 589 rfl rfl
set_option maxRecDepth 100000 in
theorem mlX8_159 : Cond.methodLink RX8 159 mX2_length.1 ∈ xtbl := at_x 603 rfl rfl
set_option maxRecDepth 100000 in
theorem mlX8_162 : Cond.methodLink RX8 162 mX1_firstHere.1 ∈ xtbl := at_x 606 rfl rfl
set_option maxRecDepth 100000 in
theorem mlX8_165 : Cond.methodLink RX8 165 mX2_at.1 ∈ xtbl := at_x 611 rfl rfl
set_option maxRecDepth 100000 in
theorem mlX8_174 : Cond.methodLink RX8 174 mX4_whoIs.1 ∈ xtbl := at_x 616 rfl rfl
set_option maxRecDepth 100000 in
theorem mlX8_186 : Cond.methodLink RX8 186 mX4_stageAt.1 ∈ xtbl := at_x 621 rfl rfl
set_option maxRecDepth 100000 in
theorem mlX8_224 : Cond.methodLink RX8 224 mX4_rankAt.1 ∈ xtbl := at_x 642 rfl rfl
set_option maxRecDepth 100000 in
theorem mlX8_227 : Cond.methodLink RX8 227 mX4_whoIsHere.1 ∈ xtbl := at_x 651 rfl rfl
set_option maxRecDepth 100000 in
theorem mlX8_231 : Cond.methodLink RX8 231 mX4_leader.1 ∈ xtbl := at_x 655 rfl rfl
set_option maxRecDepth 100000 in
theorem mlX8_236 : Cond.methodLink RX8 236 mX2_asTold.1 ∈ xtbl := at_x 660 rfl rfl
set_option maxRecDepth 100000 in
theorem mlX8_240 : Cond.methodLink RX8 240 mX1_manyAhead.1 ∈ xtbl := at_x 667 rfl rfl
set_option maxRecDepth 100000 in
theorem mlX8_243 : Cond.methodLink RX8 243 mX8_beatsAll.1 ∈ xtbl := at_x 678 rfl rfl
set_option maxRecDepth 100000 in
theorem mlX8_246 : Cond.methodLink RX8 246 mX8_commonDivisor.1 ∈ xtbl := at_x 686 rfl rfl
set_option maxRecDepth 100000 in
theorem mlX8_250 : Cond.methodLink RX8 250 mX8_cut.1 ∈ xtbl := at_x 689 rfl rfl
set_option maxRecDepth 100000 in
theorem mlX8_253 : Cond.methodLink RX8 253 mX1_copyFrom.1 ∈ xtbl := at_x 694 rfl rfl
set_option maxRecDepth 100000 in
theorem mlX8_256 : Cond.methodLink RX8 256 mX8_electedInThought.1 ∈ xtbl := at_x 698 rfl rfl
set_option maxRecDepth 100000 in
theorem mlX8_259 : Cond.methodLink RX8 259 mX2_ledBy.1 ∈ xtbl := at_x 706 rfl rfl
set_option maxRecDepth 100000 in
theorem mlX8_262 : Cond.methodLink RX8 262 mX1_together.1 ∈ xtbl := at_x 713 rfl rfl
set_option maxRecDepth 100000 in
theorem mlX8_275 : Cond.methodLink RX8 275 mX1_isSeenSo.1 ∈ xtbl := at_x 725 rfl rfl
set_option maxRecDepth 100000 in
theorem mlX8_287 : Cond.methodLink RX8 287 mX1_suffer.1 ∈ xtbl := at_x 737 rfl rfl
set_option maxRecDepth 100000 in
theorem mlX8_294 : Cond.methodLink RX8 294 mX6_faultToldTo.1 ∈ xtbl := at_x 754 rfl rfl
set_option maxRecDepth 100000 in
theorem mlX8_310 : Cond.methodLink RX8 310 mX8_isDone.1 ∈ xtbl := at_x 776 rfl rfl
set_option maxRecDepth 100000 in
theorem mlX8_314 : Cond.methodLink RX8 314 mX8_candidate.1 ∈ xtbl := at_x 780 rfl rfl
set_option maxRecDepth 100000 in
theorem mlX8_317 : Cond.methodLink RX8 317 mX8_ballot.1 ∈ xtbl := at_x 781 rfl rfl
set_option maxRecDepth 100000 in
theorem mlX8_320 : Cond.methodLink RX8 320 mX8_set.1 ∈ xtbl := at_x 782 rfl rfl
set_option maxRecDepth 100000 in
theorem mlX8_323 : Cond.methodLink RX8 323 mX8_gone.1 ∈ xtbl := at_x 783 rfl rfl
set_option maxRecDepth 100000 in
theorem mlX8_334 : Cond.methodLink RX8 334 mX8_tapeAt.1 ∈ xtbl := at_x 792 rfl rfl
set_option maxRecDepth 100000 in
theorem mlX8_344 : Cond.methodLink RX8 344 mX5_become.1 ∈ xtbl := at_x 812 rfl rfl
set_option maxRecDepth 100000 in
theorem mlX8_347 : Cond.methodLink RX8 347 mX5_fitted.1 ∈ xtbl := at_x 821 rfl rfl
set_option maxRecDepth 100000 in
theorem mlX8_351 : Cond.methodLink RX8 351 mX5_hasRoom.1 ∈ xtbl := at_x 833 rfl rfl
set_option maxRecDepth 100000 in
theorem mlX8_354 : Cond.methodLink RX8 354 arraycopyName ∈ xtbl := at_x 837 rfl rfl
set_option maxRecDepth 100000 in
theorem mlX0_32 : Cond.methodLink RX0 32 mX2_leftOf.1 ∈ xtbl := at_x 499 rfl rfl
set_option maxRecDepth 100000 in
theorem mlX0_39 : Cond.methodLink RX0 39 mX0_put.1 ∈ xtbl := at_x 506 rfl rfl
set_option maxRecDepth 100000 in
theorem mlX1_59 : Cond.methodLink RX1 59 mX2_leftOf.1 ∈ xtbl := at_x 597 rfl rfl
set_option maxRecDepth 100000 in
theorem mlX1_65 : Cond.methodLink RX1 65 mX2_at.1 ∈ xtbl := at_x 598 rfl rfl
set_option maxRecDepth 100000 in
theorem mlX1_69 : Cond.methodLink RX1 69 mX1_firstHere.1 ∈ xtbl := at_x 593 rfl rfl
set_option maxRecDepth 100000 in
theorem mlX1_73 : Cond.methodLink RX1 73 mX2_placeOf.1 ∈ xtbl := at_x 671 rfl rfl
set_option maxRecDepth 100000 in
theorem mlX1_76 : Cond.methodLink RX1 76 mX1_hasCandidate.1 ∈ xtbl := at_x 741 rfl rfl
set_option maxRecDepth 100000 in
theorem mlX1_80 : Cond.methodLink RX1 80 mX1_emptyLedBy.1 ∈ xtbl := at_x 742 rfl rfl
set_option maxRecDepth 100000 in
theorem mlX2_14 : Cond.methodLink RX2 14 mX2_at.1 ∈ xtbl := at_x 502 rfl rfl
set_option maxRecDepth 100000 in
theorem mlX2_20 : Cond.methodLink RX2 20 mX2_filledUp.1 ∈ xtbl := at_x 505 rfl rfl
set_option maxRecDepth 100000 in
theorem mlX4_66 : Cond.methodLink RX4 66 mX0_gather.1 ∈ xtbl := at_x 495 rfl rfl
set_option maxRecDepth 100000 in
theorem mlX4_70 : Cond.methodLink RX4 70 mX4_begin.1 ∈ xtbl := at_x 510 rfl rfl
set_option maxRecDepth 100000 in
theorem mlX4_84 : Cond.methodLink RX4 84 mX4_fill.1 ∈ xtbl := at_x 515 rfl rfl
set_option maxRecDepth 100000 in
theorem mlX4_88 : Cond.methodLink RX4 88 mX4_goByRounds.1 ∈ xtbl := at_x 550 rfl rfl
set_option maxRecDepth 100000 in
theorem mlX4_101 : Cond.methodLink RX4 101 mX4_workOut.1 ∈ xtbl := at_x 519 rfl rfl
set_option maxRecDepth 100000 in
theorem mlX4_104 : Cond.methodLink RX4 104 mX4_note.1 ∈ xtbl := at_x 534 rfl rfl
set_option maxRecDepth 100000 in
theorem mlX4_108 : Cond.methodLink RX4 108 mX4_whoIs.1 ∈ xtbl := at_x 538 rfl rfl
set_option maxRecDepth 100000 in
theorem mlX4_112 : Cond.methodLink RX4 112 mX4_elect.1 ∈ xtbl := at_x 542 rfl rfl
set_option maxRecDepth 100000 in
theorem mlX4_119 : Cond.methodLink RX4 119 mX4_turnKeeps.1 ∈ xtbl := at_x 554 rfl rfl
set_option maxRecDepth 100000 in
theorem mlX4_122 : Cond.methodLink RX4 122 mX4_surplus.1 ∈ xtbl := at_x 561 rfl rfl
set_option maxRecDepth 100000 in
theorem mlX4_126 : Cond.methodLink RX4 126 mX4_whoReachesQuota.1 ∈ xtbl := at_x 568 rfl rfl
set_option maxRecDepth 100000 in
theorem mlX4_133 : Cond.methodLink RX4 133 mX4_exclude.1 ∈ xtbl := at_x 572 rfl rfl
set_option maxRecDepth 100000 in
theorem mlX4_136 : Cond.methodLink RX4 136 Lib.MathLoose.min_long.x ∈ xtbl := at_x 558 rfl rfl
set_option maxRecDepth 100000 in
theorem mlX4_142 : Cond.methodLink RX4 142 mJ7_fill_d0a16.1 ∈ xtbl := at_x 523 rfl rfl
set_option maxRecDepth 100000 in
theorem mlX4_156 : Cond.methodLink RX4 156 mX4_passOn.1 ∈ xtbl := at_x 526 rfl rfl
set_option maxRecDepth 100000 in
theorem mlX4_160 : Cond.methodLinkNest RX4 160 mX8_cut.1 "KeepCount" ∈ xtbl := at_x 531 rfl rfl
set_option maxRecDepth 100000 in
theorem mlX4_163 : Cond.methodLink RX4 163 mX2_at.1 ∈ xtbl := at_x 530 rfl rfl
set_option maxRecDepth 100000 in
theorem mlX4_169 : Cond.methodLink RX4 169 Lib.MathLoose.max_long.x ∈ xtbl := at_x 565 rfl rfl
set_option maxRecDepth 100000 in
theorem mlX4_180 : Cond.methodLink RX4 180 mX4_leader.1 ∈ xtbl := at_x 546 rfl rfl
set_option maxRecDepth 100000 in
theorem mlX4_184 : Cond.methodLink RX4 184 mX4_whoHasFewest.1 ∈ xtbl := at_x 576 rfl rfl
set_option maxRecDepth 100000 in
theorem mlX4_188 : Cond.methodLink RX4 188 mX4_lastInLot.1 ∈ xtbl := at_x 581 rfl rfl
set_option maxRecDepth 100000 in
theorem mlX4_198 : Cond.methodLink RX4 198 mX4_stageAt.1 ∈ xtbl := at_x 646 rfl rfl
set_option maxRecDepth 100000 in
theorem mlX5_22 : Cond.methodLink RX5 22 mJ7_fill_d0a16.1 ∈ xtbl := at_x 816 rfl rfl
set_option maxRecDepth 100000 in
theorem mlX6_38 : Cond.methodLink RX6 38 mX6_readsClause.1 ∈ xtbl := at_x 758 rfl rfl
set_option maxRecDepth 100000 in
theorem mlX6_42 : Cond.methodLink RX6 42 mX7_begin.1 ∈ xtbl := at_x 774 rfl rfl
set_option maxRecDepth 100000 in
theorem mlX6_48 : Cond.methodLink RX6 48 mX7_addCause.1 ∈ xtbl := at_x 775 rfl rfl
set_option maxRecDepth 100000 in
theorem mlX6_51 : Cond.methodLink RX6 51 mX6_sign.1 ∈ xtbl := at_x 762 rfl rfl
set_option maxRecDepth 100000 in
theorem mlX6_55 : Cond.methodLink RX6 55 mX6_readsBallot.1 ∈ xtbl := at_x 766 rfl rfl
set_option maxRecDepth 100000 in
theorem mlX6_58 : Cond.methodLink RX6 58 mX6_number.1 ∈ xtbl := at_x 770 rfl rfl
set_option maxRecDepth 100000 in
theorem mlX7_20 : Cond.methodLink RX7 20 mX7_addCause.1 ∈ xtbl := at_x 434 rfl rfl
set_option maxRecDepth 100000 in
theorem mlL_13 : Cond.methodLink RL 13 mX8_candidate.1 ∈ xtbl := at_x 407 rfl rfl
set_option maxRecDepth 100000 in
theorem mlL_17 : Cond.methodLink RL 17 mX9_candidate.1 ∈ xtbl := at_x 1056 rfl rfl
set_option maxRecDepth 100000 in
theorem mlL_18 : Cond.methodLink RL 18 mX8_ballot.1 ∈ xtbl := at_x 411 rfl rfl
set_option maxRecDepth 100000 in
theorem mlL_22 : Cond.methodLink RL 22 mX9_ballot.1 ∈ xtbl := at_x 1060 rfl rfl
set_option maxRecDepth 100000 in
theorem mlL_23 : Cond.methodLink RL 23 mX8_many.1 ∈ xtbl := at_x 442 rfl rfl
set_option maxRecDepth 100000 in
theorem mlL_26 : Cond.methodLink RL 26 mX9_many.1 ∈ xtbl := at_x 1085 rfl rfl
set_option maxRecDepth 100000 in
theorem mlL_27 : Cond.methodLink RL 27 mX8_drop.1 ∈ xtbl := at_x 450 rfl rfl
set_option maxRecDepth 100000 in
theorem mlL_30 : Cond.methodLink RL 30 mX9_drop.1 ∈ xtbl := at_x 1093 rfl rfl
set_option maxRecDepth 100000 in
theorem mlL_31 : Cond.methodLink RL 31 mX8_gone.1 ∈ xtbl := at_x 454 rfl rfl
set_option maxRecDepth 100000 in
theorem mlL_35 : Cond.methodLink RL 35 mX9_gone.1 ∈ xtbl := at_x 1097 rfl rfl
set_option maxRecDepth 100000 in
theorem mlL_36 : Cond.methodLink RL 36 mX8_set.1 ∈ xtbl := at_x 462 rfl rfl
set_option maxRecDepth 100000 in
theorem mlL_39 : Cond.methodLink RL 39 mX9_set.1 ∈ xtbl := at_x 1105 rfl rfl
set_option maxRecDepth 100000 in
theorem mlL_40 : Cond.methodLink RL 40 mX8_swap.1 ∈ xtbl := at_x 479 rfl rfl
set_option maxRecDepth 100000 in
theorem mlL_43 : Cond.methodLink RL 43 mX9_swap.1 ∈ xtbl := at_x 1113 rfl rfl
set_option maxRecDepth 100000 in
theorem mlL_44 : Cond.methodLink RL 44 mX8_of.1 ∈ xtbl := at_x 483 rfl rfl
set_option maxRecDepth 100000 in
theorem mlL_47 : Cond.methodLink RL 47 mX9_of.1 ∈ xtbl := at_x 1117 rfl rfl
set_option maxRecDepth 100000 in
theorem mlL_48 : Cond.methodLink RL 48 mX8_ballotOf.1 ∈ xtbl := at_x 599 rfl rfl
set_option maxRecDepth 100000 in
theorem mlL_51 : Cond.methodLink RL 51 mX9_ballotOf.1 ∈ xtbl := at_x 1209 rfl rfl
set_option maxRecDepth 100000 in
theorem mlL_52 : Cond.methodLink RL 52 mX8_rowOf.1 ∈ xtbl := at_x 607 rfl rfl
set_option maxRecDepth 100000 in
theorem mlL_55 : Cond.methodLink RL 55 mX9_rowOf.1 ∈ xtbl := at_x 1213 rfl rfl
set_option maxRecDepth 100000 in
theorem mlL_56 : Cond.methodLink RL 56 mX8_told.1 ∈ xtbl := at_x 612 rfl rfl
set_option maxRecDepth 100000 in
theorem mlL_60 : Cond.methodLink RL 60 mX9_told.1 ∈ xtbl := at_x 1217 rfl rfl
set_option maxRecDepth 100000 in
theorem mlL_61 : Cond.methodLink RL 61 mX8_stageOf.1 ∈ xtbl := at_x 617 rfl rfl
set_option maxRecDepth 100000 in
theorem mlL_64 : Cond.methodLink RL 64 mX9_stageOf.1 ∈ xtbl := at_x 1226 rfl rfl
set_option maxRecDepth 100000 in
theorem mlL_65 : Cond.methodLink RL 65 mX8_amount.1 ∈ xtbl := at_x 625 rfl rfl
set_option maxRecDepth 100000 in
theorem mlL_69 : Cond.methodLink RL 69 mX9_amount.1 ∈ xtbl := at_x 1234 rfl rfl
set_option maxRecDepth 100000 in
theorem mlL_70 : Cond.methodLink RL 70 mX8_votes.1 ∈ xtbl := at_x 630 rfl rfl
set_option maxRecDepth 100000 in
theorem mlL_74 : Cond.methodLink RL 74 mX9_votes.1 ∈ xtbl := at_x 1239 rfl rfl
set_option maxRecDepth 100000 in
theorem mlL_75 : Cond.methodLink RL 75 mX8_elected.1 ∈ xtbl := at_x 634 rfl rfl
set_option maxRecDepth 100000 in
theorem mlL_78 : Cond.methodLink RL 78 mX9_elected.1 ∈ xtbl := at_x 1243 rfl rfl
set_option maxRecDepth 100000 in
theorem mlL_79 : Cond.methodLink RL 79 mX8_ranked.1 ∈ xtbl := at_x 638 rfl rfl
set_option maxRecDepth 100000 in
theorem mlL_82 : Cond.methodLink RL 82 mX9_ranked.1 ∈ xtbl := at_x 1247 rfl rfl
set_option maxRecDepth 100000 in
theorem mlL_83 : Cond.methodLink RL 83 mX8_standing.1 ∈ xtbl := at_x 647 rfl rfl
set_option maxRecDepth 100000 in
theorem mlL_86 : Cond.methodLink RL 86 mX9_standing.1 ∈ xtbl := at_x 1261 rfl rfl
set_option maxRecDepth 100000 in
theorem mlL_87 : Cond.methodLink RL 87 mX8_pile.1 ∈ xtbl := at_x 656 rfl rfl
set_option maxRecDepth 100000 in
theorem mlL_90 : Cond.methodLink RL 90 mX9_pile.1 ∈ xtbl := at_x 1265 rfl rfl
set_option maxRecDepth 100000 in
theorem mlL_91 : Cond.methodLink RL 91 mX8_preferred.1 ∈ xtbl := at_x 663 rfl rfl
set_option maxRecDepth 100000 in
theorem mlL_94 : Cond.methodLink RL 94 mX9_preferred.1 ∈ xtbl := at_x 1269 rfl rfl
set_option maxRecDepth 100000 in
theorem mlL_95 : Cond.methodLink RL 95 mX8_best.1 ∈ xtbl := at_x 674 rfl rfl
set_option maxRecDepth 100000 in
theorem mlL_98 : Cond.methodLink RL 98 mX9_best.1 ∈ xtbl := at_x 1281 rfl rfl
set_option maxRecDepth 100000 in
theorem mlL_99 : Cond.methodLink RL 99 mX8_share.1 ∈ xtbl := at_x 682 rfl rfl
set_option maxRecDepth 100000 in
theorem mlL_102 : Cond.methodLink RL 102 mX9_share.1 ∈ xtbl := at_x 1289 rfl rfl
set_option maxRecDepth 100000 in
theorem mlL_103 : Cond.methodLink RL 103 mX8_without.1 ∈ xtbl := at_x 690 rfl rfl
set_option maxRecDepth 100000 in
theorem mlL_106 : Cond.methodLink RL 106 mX9_without.1 ∈ xtbl := at_x 1296 rfl rfl
set_option maxRecDepth 100000 in
theorem mlL_107 : Cond.methodLink RL 107 mX8_raised.1 ∈ xtbl := at_x 702 rfl rfl
set_option maxRecDepth 100000 in
theorem mlL_110 : Cond.methodLink RL 110 mX9_raised.1 ∈ xtbl := at_x 1300 rfl rfl
set_option maxRecDepth 100000 in
theorem mlL_111 : Cond.methodLink RL 111 mX8_needs.1 ∈ xtbl := at_x 709 rfl rfl
set_option maxRecDepth 100000 in
theorem mlL_114 : Cond.methodLink RL 114 mX9_needs.1 ∈ xtbl := at_x 1304 rfl rfl
set_option maxRecDepth 100000 in
theorem mlL_115 : Cond.methodLink RL 115 mX8_see.1 ∈ xtbl := at_x 717 rfl rfl
set_option maxRecDepth 100000 in
theorem mlL_118 : Cond.methodLink RL 118 mX9_see.1 ∈ xtbl := at_x 1309 rfl rfl
set_option maxRecDepth 100000 in
theorem mlL_119 : Cond.methodLink RL 119 mX8_fits.1 ∈ xtbl := at_x 721 rfl rfl
set_option maxRecDepth 100000 in
theorem mlL_122 : Cond.methodLink RL 122 mX9_fits.1 ∈ xtbl := at_x 1313 rfl rfl
set_option maxRecDepth 100000 in
theorem mlL_123 : Cond.methodLink RL 123 mX8_event.1 ∈ xtbl := at_x 729 rfl rfl
set_option maxRecDepth 100000 in
theorem mlL_126 : Cond.methodLink RL 126 mX9_event.1 ∈ xtbl := at_x 1321 rfl rfl
set_option maxRecDepth 100000 in
theorem mlL_127 : Cond.methodLink RL 127 mX8_after.1 ∈ xtbl := at_x 733 rfl rfl
set_option maxRecDepth 100000 in
theorem mlL_130 : Cond.methodLink RL 130 mX9_after.1 ∈ xtbl := at_x 1325 rfl rfl
set_option maxRecDepth 100000 in
theorem mlL_131 : Cond.methodLink RL 131 mX8_feed.1 ∈ xtbl := at_x 746 rfl rfl
set_option maxRecDepth 100000 in
theorem mlL_134 : Cond.methodLink RL 134 mX9_feed.1 ∈ xtbl := at_x 1333 rfl rfl
set_option maxRecDepth 100000 in
theorem mlL_135 : Cond.methodLink RL 135 mX8_read.1 ∈ xtbl := at_x 750 rfl rfl
set_option maxRecDepth 100000 in
theorem mlL_138 : Cond.methodLink RL 138 mX9_read.1 ∈ xtbl := at_x 1338 rfl rfl
set_option maxRecDepth 100000 in
theorem mlL_139 : Cond.methodLink RL 139 mX8_cause.1 ∈ xtbl := at_x 784 rfl rfl
set_option maxRecDepth 100000 in
theorem mlL_142 : Cond.methodLink RL 142 mX9_cause.1 ∈ xtbl := at_x 1372 rfl rfl
set_option maxRecDepth 100000 in
theorem mlL_143 : Cond.methodLink RL 143 mX8_judge.1 ∈ xtbl := at_x 788 rfl rfl
set_option maxRecDepth 100000 in
theorem mlL_147 : Cond.methodLink RL 147 mX9_judge.1 ∈ xtbl := at_x 1376 rfl rfl
set_option maxRecDepth 100000 in
theorem mlL_148 : Cond.methodLink RL 148 mX8_image.1 ∈ xtbl := at_x 796 rfl rfl
set_option maxRecDepth 100000 in
theorem mlL_151 : Cond.methodLink RL 151 mX9_image.1 ∈ xtbl := at_x 1384 rfl rfl
set_option maxRecDepth 100000 in
theorem mlL_152 : Cond.methodLink RL 152 mX8_undo.1 ∈ xtbl := at_x 800 rfl rfl
set_option maxRecDepth 100000 in
theorem mlL_155 : Cond.methodLink RL 155 mX9_undo.1 ∈ xtbl := at_x 1388 rfl rfl
set_option maxRecDepth 100000 in
theorem mlL_156 : Cond.methodLink RL 156 mX8_count.1 ∈ xtbl := at_x 804 rfl rfl
set_option maxRecDepth 100000 in
theorem mlL_159 : Cond.methodLink RL 159 mX9_count.1 ∈ xtbl := at_x 1392 rfl rfl
set_option maxRecDepth 100000 in
theorem mlL_160 : Cond.methodLink RL 160 mX8_tape.1 ∈ xtbl := at_x 808 rfl rfl
set_option maxRecDepth 100000 in
theorem mlL_163 : Cond.methodLink RL 163 mX9_tape.1 ∈ xtbl := at_x 1396 rfl rfl
set_option maxRecDepth 100000 in
theorem mlL_166 : Cond.methodLink RL 166 mX8_item.1 ∈ xtbl := at_x 817 rfl rfl
set_option maxRecDepth 100000 in
theorem mlL_170 : Cond.methodLink RL 170 mX9_item.1 ∈ xtbl := at_x 1402 rfl rfl
set_option maxRecDepth 100000 in
theorem mlL_171 : Cond.methodLink RL 171 mX8_peek.1 ∈ xtbl := at_x 825 rfl rfl
set_option maxRecDepth 100000 in
theorem mlL_174 : Cond.methodLink RL 174 mX9_peek.1 ∈ xtbl := at_x 1410 rfl rfl
set_option maxRecDepth 100000 in
theorem mlL_175 : Cond.methodLink RL 175 mX8_shift.1 ∈ xtbl := at_x 829 rfl rfl
set_option maxRecDepth 100000 in
theorem mlL_179 : Cond.methodLink RL 179 mX9_shift.1 ∈ xtbl := at_x 1414 rfl rfl
set_option maxRecDepth 100000 in
theorem mlX9_170 : Cond.methodLink RX9 170 mX9_in.1 ∈ xtbl := at_x 1069 rfl rfl
set_option maxRecDepth 100000 in
theorem mlX9_177 : Cond.methodLink RX9 177 mX9_lengthOf.1 ∈ xtbl := at_x 1134 rfl rfl
set_option maxRecDepth 100000 in
theorem mlX9_181 : Cond.methodLink RX9 181 mX9_digitAt.1 ∈ xtbl := at_x 1137 rfl rfl
set_option maxRecDepth 100000 in
theorem mlX9_192 : Cond.methodLink RX9 192 mX9_has.1 ∈ xtbl := at_x 1072 rfl rfl
set_option maxRecDepth 100000 in
theorem mlX9_196 : Cond.methodLink RX9 196 mX9_isRow.1 ∈ xtbl := at_x 1064 rfl rfl
set_option maxRecDepth 100000 in
theorem mlX9_202 : Cond.methodLink RX9 202 mX9_firstOver.1 ∈ xtbl := at_x 1076 rfl rfl
set_option maxRecDepth 100000 in
theorem mlX9_205 : Cond.methodLink RX9 205 mX9_over.1 ∈ xtbl := at_x 1081 rfl rfl
set_option maxRecDepth 100000 in
theorem mlX9_208 : Cond.methodLink RX9 208 mX9_isBallot.1 ∈ xtbl := at_x 1089 rfl rfl
set_option maxRecDepth 100000 in
theorem mlX9_211 : Cond.methodLink RX9 211 mX9_isOne.1 ∈ xtbl := at_x 1101 rfl rfl
set_option maxRecDepth 100000 in
theorem mlX9_222 : Cond.methodLink RX9 222 mX9_keyOf.1 ∈ xtbl := at_x 1144 rfl rfl
set_option maxRecDepth 100000 in
theorem mlX9_228 : Cond.methodLink RX9 228 mX9_left.1 ∈ xtbl := at_x 1130 rfl rfl
set_option maxRecDepth 100000 in
theorem mlX9_231 : Cond.methodLink RX9 231 mX9_comesTo.1 ∈ xtbl := at_x 1140 rfl rfl
set_option maxRecDepth 100000 in
theorem mlX9_245 : Cond.methodLink RX9 245 mX9_lotOf.1 ∈ xtbl := at_x 1176 rfl rfl
set_option maxRecDepth 100000 in
theorem mlX9_254 : Cond.methodLink RX9 254 mX9_isAhead.1 ∈ xtbl := at_x 1172 rfl rfl
set_option maxRecDepth 100000 in
theorem mlX9_257 : Cond.methodLink RX9 257 mX9_tellVotes.1 ∈ xtbl := at_x 1156 rfl rfl
set_option maxRecDepth 100000 in
theorem mlX9_263 : Cond.methodLink RX9 263 mX9_becomesElected.1 ∈ xtbl := at_x 1160 rfl rfl
set_option maxRecDepth 100000 in
theorem mlX9_267 : Cond.methodLink RX9 267 mX9_endsStage.1 ∈ xtbl := at_x 1164 rfl rfl
set_option maxRecDepth 100000 in
theorem mlX9_270 : Cond.methodLink RX9 270 Lib.MathLoose.min_long.x ∈ xtbl := at_x 1188 rfl rfl
set_option maxRecDepth 100000 in
theorem mlX9_276 : Cond.methodLink RX9 276 mX9_many_.1 ∈ xtbl := at_x 1148 rfl rfl
set_option maxRecDepth 100000 in
theorem mlX9_279 : Cond.methodLink RX9 279 mX9_goesRather.1 ∈ xtbl := at_x 1201 rfl rfl
set_option maxRecDepth 100000 in
theorem mlX9_282 : Cond.methodLink RX9 282 mX9_lines.1 ∈ xtbl := at_x 1168 rfl rfl
set_option maxRecDepth 100000 in
theorem mlX9_285 : Cond.methodLink RX9 285 mX9_keepsAnew.1 ∈ xtbl := at_x 1184 rfl rfl
set_option maxRecDepth 100000 in
theorem mlX9_288 : Cond.methodLink RX9 288 mX9_tellSurplus.1 ∈ xtbl := at_x 1189 rfl rfl
set_option maxRecDepth 100000 in
theorem mlX9_291 : Cond.methodLink RX9 291 mX9_elects.1 ∈ xtbl := at_x 1193 rfl rfl
set_option maxRecDepth 100000 in
theorem mlX9_295 : Cond.methodLink RX9 295 mX9_worst.1 ∈ xtbl := at_x 1197 rfl rfl
set_option maxRecDepth 100000 in
theorem mlX9_299 : Cond.methodLink RX9 299 mX9_tellPiles.1 ∈ xtbl := at_x 1126 rfl rfl
set_option maxRecDepth 100000 in
theorem mlX9_303 : Cond.methodLink RX9 303 mX9_fills.1 ∈ xtbl := at_x 1152 rfl rfl
set_option maxRecDepth 100000 in
theorem mlX9_306 : Cond.methodLink RX9 306 mX9_goesStage.1 ∈ xtbl := at_x 1180 rfl rfl
set_option maxRecDepth 100000 in
theorem mlX9_310 : Cond.methodLink RX9 310 mX9_counts.1 ∈ xtbl := at_x 1122 rfl rfl
set_option maxRecDepth 100000 in
theorem mlX9_315 : Cond.methodLink RX9 315 mX9_firstMany.1 ∈ xtbl := at_x 1205 rfl rfl
set_option maxRecDepth 100000 in
theorem mlX9_320 : Cond.methodLink RX9 320 mX9_electedSet.1 ∈ xtbl := at_x 1222 rfl rfl
set_option maxRecDepth 100000 in
theorem mlX9_323 : Cond.methodLink RX9 323 mX9_isStage.1 ∈ xtbl := at_x 1230 rfl rfl
set_option maxRecDepth 100000 in
theorem mlX9_328 : Cond.methodLink RX9 328 mX9_isBefore.1 ∈ xtbl := at_x 1257 rfl rfl
set_option maxRecDepth 100000 in
theorem mlX9_332 : Cond.methodLink RX9 332 arraycopyName ∈ xtbl := at_x 1251 rfl rfl
set_option maxRecDepth 100000 in
theorem mlX9_338 : Cond.methodLink RX9 338 Lib.Math.max.name ∈ xtbl := at_x 1252 rfl rfl
set_option maxRecDepth 100000 in
theorem mlX9_341 : Cond.methodLink RX9 341 mX9_ranksBy.1 ∈ xtbl := at_x 1253 rfl rfl
set_option maxRecDepth 100000 in
theorem mlX9_345 : Cond.methodLink RX9 345 mX9_isTwo.1 ∈ xtbl := at_x 1273 rfl rfl
set_option maxRecDepth 100000 in
theorem mlX9_348 : Cond.methodLink RX9 348 mX9_preferredTo.1 ∈ xtbl := at_x 1277 rfl rfl
set_option maxRecDepth 100000 in
theorem mlX9_351 : Cond.methodLink RX9 351 mX9_isBest.1 ∈ xtbl := at_x 1285 rfl rfl
set_option maxRecDepth 100000 in
theorem mlX9_354 : Cond.methodLink RX9 354 mX9_lowest.1 ∈ xtbl := at_x 1293 rfl rfl
set_option maxRecDepth 100000 in
theorem mlX9_363 : Cond.methodLink RX9 363 mX9_isAsSeen.1 ∈ xtbl := at_x 1317 rfl rfl
set_option maxRecDepth 100000 in
theorem mlX9_369 : Cond.methodLink RX9 369 mX9_happens.1 ∈ xtbl := at_x 1329 rfl rfl
set_option maxRecDepth 100000 in
theorem mlX9_387 : Cond.methodLink RX9 387 mX9_signAt.1 ∈ xtbl := at_x 1346 rfl rfl
set_option maxRecDepth 100000 in
theorem mlX9_394 : Cond.methodLink RX9 394 mX9_fails.1 ∈ xtbl := at_x 1350 rfl rfl
set_option maxRecDepth 100000 in
theorem mlX9_403 : Cond.methodLink RX9 403 mX9_numberRead.1 ∈ xtbl := at_x 1354 rfl rfl
set_option maxRecDepth 100000 in
theorem mlX9_406 : Cond.methodLink RX9 406 mX9_candidate.1 ∈ xtbl := at_x 1368 rfl rfl
set_option maxRecDepth 100000 in
theorem mlX9_409 : Cond.methodLink RX9 409 mX9_ballot.1 ∈ xtbl := at_x 1369 rfl rfl
set_option maxRecDepth 100000 in
theorem mlX9_412 : Cond.methodLink RX9 412 mX9_set.1 ∈ xtbl := at_x 1370 rfl rfl
set_option maxRecDepth 100000 in
theorem mlX9_415 : Cond.methodLink RX9 415 mX9_gone.1 ∈ xtbl := at_x 1371 rfl rfl
set_option maxRecDepth 100000 in
theorem mlX9_419 : Cond.methodLink RX9 419 mX9_clauseRead.1 ∈ xtbl := at_x 1342 rfl rfl
set_option maxRecDepth 100000 in
theorem mlX9_422 : Cond.methodLink RX9 422 mX9_faulty.1 ∈ xtbl := at_x 1360 rfl rfl
set_option maxRecDepth 100000 in
theorem mlX9_425 : Cond.methodLink RX9 425 mX9_done.1 ∈ xtbl := at_x 1364 rfl rfl
set_option maxRecDepth 100000 in
theorem mlX9_428 : Cond.methodLink RX9 428 mX9_isTape.1 ∈ xtbl := at_x 1380 rfl rfl
set_option maxRecDepth 100000 in
theorem mlX9_440 : Cond.methodLink RX9 440 mX9_refusal.1 ∈ xtbl := at_x 1406 rfl rfl
set_option maxRecDepth 100000 in
theorem csX8_82 : Cond.constant RX8 82 (1000000 : Int32) ∈ xtbl := at_x 421 rfl rfl
set_option maxRecDepth 100000 in
theorem csX8_109 : Cond.constant RX8 109 (1000000000 : Int32) ∈ xtbl := at_x 470 rfl rfl
set_option maxRecDepth 100000 in
theorem csX8_131 : Cond.constantLong RX8 131 (4611686 : Int64) ∈ xtbl := at_x 429 rfl rfl
set_option maxRecDepth 100000 in
theorem csX8_199 : Cond.constantLong RX8 199 (-9223372036854775808 : Int64) ∈ xtbl := at_x 629 rfl rfl
set_option maxRecDepth 100000 in
theorem csX2_7 : Cond.constant RX2 7 (99999999 : Int32) ∈ xtbl := at_x 418 rfl rfl
set_option maxRecDepth 100000 in
theorem csX4_99 : Cond.constantLong RX4 99 (1000000 : Int64) ∈ xtbl := at_x 514 rfl rfl
set_option maxRecDepth 100000 in
theorem csX4_193 : Cond.constantLong RX4 193 (9223372036854775807 : Int64) ∈ xtbl := at_x 580 rfl rfl
set_option maxRecDepth 100000 in
theorem csL_164 : Cond.constantLong RL 164 (4294967295 : Int64) ∈ xtbl := at_x 1418 rfl rfl
set_option maxRecDepth 100000 in
theorem csX9_185 : Cond.constantLong RX9 185 (4611686 : Int64) ∈ xtbl := at_x 1080 rfl rfl
set_option maxRecDepth 100000 in
theorem csX9_190 : Cond.constantLong RX9 190 (99999999 : Int64) ∈ xtbl := at_x 1068 rfl rfl
set_option maxRecDepth 100000 in
theorem csX9_200 : Cond.constantLong RX9 200 (1000000 : Int64) ∈ xtbl := at_x 1075 rfl rfl
set_option maxRecDepth 100000 in
theorem csX9_214 : Cond.constantLong RX9 214 (2 : Int64) ∈ xtbl := at_x 1109 rfl rfl
set_option maxRecDepth 100000 in
theorem csX9_216 : Cond.constantLong RX9 216 (7 : Int64) ∈ xtbl := at_x 1110 rfl rfl
set_option maxRecDepth 100000 in
theorem csX9_218 : Cond.constantLong RX9 218 (1000000000 : Int64) ∈ xtbl := at_x 1111 rfl rfl
set_option maxRecDepth 100000 in
theorem csX9_220 : Cond.constantLong RX9 220 (20 : Int64) ∈ xtbl := at_x 1112 rfl rfl
set_option maxRecDepth 100000 in
theorem csX9_302 : Cond.constant RX9 302 (1000000 : Int32) ∈ xtbl := at_x 1147 rfl rfl
set_option maxRecDepth 100000 in
theorem csX9_313 : Cond.constantLong RX9 313 (3 : Int64) ∈ xtbl := at_x 1121 rfl rfl
set_option maxRecDepth 100000 in
theorem csX9_318 : Cond.constantLong RX9 318 (8 : Int64) ∈ xtbl := at_x 1221 rfl rfl
set_option maxRecDepth 100000 in
theorem csX9_326 : Cond.constantLong RX9 326 (-9223372036854775808 : Int64) ∈ xtbl := at_x 1238 rfl rfl
set_option maxRecDepth 100000 in
theorem csX9_358 : Cond.constantLong RX9 358 (10000 : Int64) ∈ xtbl := at_x 1308 rfl rfl
set_option maxRecDepth 100000 in
theorem csX9_372 : Cond.constantLong RX9 372 (127 : Int64) ∈ xtbl := at_x 1337 rfl rfl
set_option maxRecDepth 100000 in
theorem csX9_390 : Cond.constantLong RX9 390 (48 : Int64) ∈ xtbl := at_x 1358 rfl rfl
set_option maxRecDepth 100000 in
theorem csX9_392 : Cond.constantLong RX9 392 (57 : Int64) ∈ xtbl := at_x 1359 rfl rfl
set_option maxRecDepth 100000 in
theorem csX9_434 : Cond.constantLong RX9 434 (5 : Int64) ∈ xtbl := at_x 1383 rfl rfl
set_option maxRecDepth 100000 in
theorem csX9_436 : Cond.constantLong RX9 436 (-1 : Int64) ∈ xtbl := at_x 1400 rfl rfl
set_option maxRecDepth 100000 in
theorem csX9_438 : Cond.constantLong RX9 438 (4 : Int64) ∈ xtbl := at_x 1401 rfl rfl
set_option maxRecDepth 100000 in
theorem gsX2_8 : Cond.fieldLinkNest RX2 8 "KeepCount" "PLACES" "[I" "KeepCount" ∈ xtbl := at_x 419 rfl rfl
theorem sh_all {P : Nat → Bool} (h : xcells.all P = true) {o k n : Nat} (e : Sh o = (k, n)) (hk : k ≠ 9) : P o = true := List.all_eq_true.mp h o (Sh_mem e hk)
theorem ob_0 {o : Nat} (h : Sh o = (10, 3)) : o ∈ ([1020, 2020] : List Nat) := by
  have e := sh_all (P := fun o => decide (Sh o = (10, 3) → o ∈ ([1020, 2020] : List Nat))) (by decide +kernel) h (by decide)
  exact of_decide_eq_true e h
theorem sf_0_1 {o : Nat} (h : Sh o = (10, 3)) : Sh (o + 2) = (1, 25) := (by decide +kernel : ∀ o ∈ ([1020, 2020] : List Nat), Sh (o + 2) = (1, 25)) o (ob_0 h)
theorem sf_0_2 {o : Nat} (h : Sh o = (10, 3)) : Sh (o + 3) = (1, 25) := (by decide +kernel : ∀ o ∈ ([1020, 2020] : List Nat), Sh (o + 3) = (1, 25)) o (ob_0 h)
theorem ob_1 {o : Nat} (h : Sh o = (11, 15)) : o ∈ ([11000, 12000, 13000] : List Nat) := by
  have e := sh_all (P := fun o => decide (Sh o = (11, 15) → o ∈ ([11000, 12000, 13000] : List Nat))) (by decide +kernel) h (by decide)
  exact of_decide_eq_true e h
theorem sf_1_1 {o : Nat} (h : Sh o = (11, 15)) : Sh (o + 2) = (1, 8) := (by decide +kernel : ∀ o ∈ ([11000, 12000, 13000] : List Nat), Sh (o + 2) = (1, 8)) o (ob_1 h)
theorem sf_1_2 {o : Nat} (h : Sh o = (11, 15)) : Sh (o + 3) = (3, 8) := (by decide +kernel : ∀ o ∈ ([11000, 12000, 13000] : List Nat), Sh (o + 3) = (3, 8)) o (ob_1 h)
theorem sf_1_4 {o : Nat} (h : Sh o = (11, 15)) : Sh (o + 5) = (1, 25) := (by decide +kernel : ∀ o ∈ ([11000, 12000, 13000] : List Nat), Sh (o + 5) = (1, 25)) o (ob_1 h)
theorem sf_1_5 {o : Nat} (h : Sh o = (11, 15)) : Sh (o + 6) = (1, 25) := (by decide +kernel : ∀ o ∈ ([11000, 12000, 13000] : List Nat), Sh (o + 6) = (1, 25)) o (ob_1 h)
theorem sf_1_10 {o : Nat} (h : Sh o = (11, 15)) : Sh (o + 11) = (1, 5) := (by decide +kernel : ∀ o ∈ ([11000, 12000, 13000] : List Nat), Sh (o + 11) = (1, 5)) o (ob_1 h)
theorem sf_1_11 {o : Nat} (h : Sh o = (11, 15)) : Sh (o + 12) = (3, 5) := (by decide +kernel : ∀ o ∈ ([11000, 12000, 13000] : List Nat), Sh (o + 12) = (3, 5)) o (ob_1 h)
theorem sf_1_13 {o : Nat} (h : Sh o = (11, 15)) : Sh (o + 14) = (1, 8) := (by decide +kernel : ∀ o ∈ ([11000, 12000, 13000] : List Nat), Sh (o + 14) = (1, 8)) o (ob_1 h)
theorem sf_1_14 {o : Nat} (h : Sh o = (11, 15)) : Sh (o + 15) = (1, 8) := (by decide +kernel : ∀ o ∈ ([11000, 12000, 13000] : List Nat), Sh (o + 15) = (1, 8)) o (ob_1 h)
theorem ob_2 {o : Nat} (h : Sh o = (12, 9)) : o ∈ ([1045, 1061, 1077, 1093, 1109, 1125, 1141, 1157, 2045, 2061, 2077, 2093, 2109, 2125, 2141, 2157] : List Nat) := by
  have e := sh_all (P := fun o => decide (Sh o = (12, 9) → o ∈ ([1045, 1061, 1077, 1093, 1109, 1125, 1141, 1157, 2045, 2061, 2077, 2093, 2109, 2125, 2141, 2157] : List Nat))) (by decide +kernel) h (by decide)
  exact of_decide_eq_true e h
theorem sf_2_7 {o : Nat} (h : Sh o = (12, 9)) : Sh (o + 8) = (2, 8) := (by decide +kernel : ∀ o ∈ ([1045, 1061, 1077, 1093, 1109, 1125, 1141, 1157, 2045, 2061, 2077, 2093, 2109, 2125, 2141, 2157] : List Nat), Sh (o + 8) = (2, 8)) o (ob_2 h)
theorem sf_2_8 {o : Nat} (h : Sh o = (12, 9)) : Sh (o + 9) = (2, 8) := (by decide +kernel : ∀ o ∈ ([1045, 1061, 1077, 1093, 1109, 1125, 1141, 1157, 2045, 2061, 2077, 2093, 2109, 2125, 2141, 2157] : List Nat), Sh (o + 9) = (2, 8)) o (ob_2 h)
theorem ob_3 {o : Nat} (h : Sh o = (13, 14)) : o ∈ ([1000, 2000] : List Nat) := by
  have e := sh_all (P := fun o => decide (Sh o = (13, 14) → o ∈ ([1000, 2000] : List Nat))) (by decide +kernel) h (by decide)
  exact of_decide_eq_true e h
theorem sf_3_0 {o : Nat} (h : Sh o = (13, 14)) : Sh (o + 10000) = (11, 15) := (by decide +kernel : ∀ o ∈ ([1000, 2000] : List Nat), Sh (o + 10000) = (11, 15)) o (ob_3 h)
theorem sf_3_1 {o : Nat} (h : Sh o = (13, 14)) : Sh (o + 20) = (10, 3) := (by decide +kernel : ∀ o ∈ ([1000, 2000] : List Nat), Sh (o + 20) = (10, 3)) o (ob_3 h)
theorem sf_3_2 {o : Nat} (h : Sh o = (13, 14)) : Sh (o + 3) = (1, 8) := (by decide +kernel : ∀ o ∈ ([1000, 2000] : List Nat), Sh (o + 3) = (1, 8)) o (ob_3 h)
theorem sf_3_3 {o : Nat} (h : Sh o = (13, 14)) : Sh (o + 4) = (1, 8) := (by decide +kernel : ∀ o ∈ ([1000, 2000] : List Nat), Sh (o + 4) = (1, 8)) o (ob_3 h)
theorem sf_3_4 {o : Nat} (h : Sh o = (13, 14)) : Sh (o + 5) = (1, 8) := (by decide +kernel : ∀ o ∈ ([1000, 2000] : List Nat), Sh (o + 5) = (1, 8)) o (ob_3 h)
theorem sf_3_8 {o : Nat} (h : Sh o = (13, 14)) : Sh (o + 9) = (4, 8) := (by decide +kernel : ∀ o ∈ ([1000, 2000] : List Nat), Sh (o + 9) = (4, 8)) o (ob_3 h)
theorem sf_3_9 {o : Nat} (h : Sh o = (13, 14)) : Sh (o + 10) = (2, 8) := (by decide +kernel : ∀ o ∈ ([1000, 2000] : List Nat), Sh (o + 10) = (2, 8)) o (ob_3 h)
theorem sf_3_10 {o : Nat} (h : Sh o = (13, 14)) : Sh (o + 11) = (2, 8) := (by decide +kernel : ∀ o ∈ ([1000, 2000] : List Nat), Sh (o + 11) = (2, 8)) o (ob_3 h)
theorem ob_4 {o : Nat} (h : Sh o = (14, 3)) : o ∈ ([56, 72, 88, 104, 120, 136] : List Nat) := by
  have e := sh_all (P := fun o => decide (Sh o = (14, 3) → o ∈ ([56, 72, 88, 104, 120, 136] : List Nat))) (by decide +kernel) h (by decide)
  exact of_decide_eq_true e h
theorem sf_4_2 {o : Nat} (h : Sh o = (14, 3)) : Sh (o + 3) = (2, 60) := (by decide +kernel : ∀ o ∈ ([56, 72, 88, 104, 120, 136] : List Nat), Sh (o + 3) = (2, 60)) o (ob_4 h)
theorem ob_5 {o : Nat} (h : Sh o = (15, 8)) : o ∈ ([210] : List Nat) := by
  have e := sh_all (P := fun o => decide (Sh o = (15, 8) → o ∈ ([210] : List Nat))) (by decide +kernel) h (by decide)
  exact of_decide_eq_true e h
theorem sf_5_1 {o : Nat} (h : Sh o = (15, 8)) : Sh (o + 2) = (1, 100) := (by decide +kernel : ∀ o ∈ ([210] : List Nat), Sh (o + 2) = (1, 100)) o (ob_5 h)
theorem sf_5_3 {o : Nat} (h : Sh o = (15, 8)) : Sh (o + 4) = (1, 12) := (by decide +kernel : ∀ o ∈ ([210] : List Nat), Sh (o + 4) = (1, 12)) o (ob_5 h)
theorem sf_5_4 {o : Nat} (h : Sh o = (15, 8)) : Sh (o + 5) = (1, 12) := (by decide +kernel : ∀ o ∈ ([210] : List Nat), Sh (o + 5) = (1, 12)) o (ob_5 h)
theorem sf_5_5 {o : Nat} (h : Sh o = (15, 8)) : Sh (o + 6) = (1, 12) := (by decide +kernel : ∀ o ∈ ([210] : List Nat), Sh (o + 6) = (1, 12)) o (ob_5 h)
theorem ob_6 {o : Nat} (h : Sh o = (16, 3)) : o ∈ ([310] : List Nat) := by
  have e := sh_all (P := fun o => decide (Sh o = (16, 3) → o ∈ ([310] : List Nat))) (by decide +kernel) h (by decide)
  exact of_decide_eq_true e h
theorem sf_6_1 {o : Nat} (h : Sh o = (16, 3)) : Sh (o + 2) = (1, 3) := (by decide +kernel : ∀ o ∈ ([310] : List Nat), Sh (o + 2) = (1, 3)) o (ob_6 h)
theorem sf_6_2 {o : Nat} (h : Sh o = (16, 3)) : Sh (o + 3) = (1, 3) := (by decide +kernel : ∀ o ∈ ([310] : List Nat), Sh (o + 3) = (1, 3)) o (ob_6 h)
theorem ob_7 {o : Nat} (h : Sh o = (17, 10)) : o ∈ ([10] : List Nat) := by
  have e := sh_all (P := fun o => decide (Sh o = (17, 10) → o ∈ ([10] : List Nat))) (by decide +kernel) h (by decide)
  exact of_decide_eq_true e h
theorem sf_7_0 {o : Nat} (h : Sh o = (17, 10)) : Sh (o + 10990) = (11, 15) := (by decide +kernel : ∀ o ∈ ([10] : List Nat), Sh (o + 10990) = (11, 15)) o (ob_7 h)
theorem sf_7_1 {o : Nat} (h : Sh o = (17, 10)) : Sh (o + 11990) = (11, 15) := (by decide +kernel : ∀ o ∈ ([10] : List Nat), Sh (o + 11990) = (11, 15)) o (ob_7 h)
theorem sf_7_2 {o : Nat} (h : Sh o = (17, 10)) : Sh (o + 12990) = (11, 15) := (by decide +kernel : ∀ o ∈ ([10] : List Nat), Sh (o + 12990) = (11, 15)) o (ob_7 h)
theorem sf_7_4 {o : Nat} (h : Sh o = (17, 10)) : Sh (o + 990) = (13, 14) := (by decide +kernel : ∀ o ∈ ([10] : List Nat), Sh (o + 990) = (13, 14)) o (ob_7 h)
theorem sf_7_5 {o : Nat} (h : Sh o = (17, 10)) : Sh (o + 1990) = (13, 14) := (by decide +kernel : ∀ o ∈ ([10] : List Nat), Sh (o + 1990) = (13, 14)) o (ob_7 h)
theorem sf_7_7 {o : Nat} (h : Sh o = (17, 10)) : Sh (o + 200) = (15, 8) := (by decide +kernel : ∀ o ∈ ([10] : List Nat), Sh (o + 200) = (15, 8)) o (ob_7 h)
theorem sf_7_8 {o : Nat} (h : Sh o = (17, 10)) : Sh (o + 300) = (16, 3) := (by decide +kernel : ∀ o ∈ ([10] : List Nat), Sh (o + 300) = (16, 3)) o (ob_7 h)
theorem sf_7_9 {o : Nat} (h : Sh o = (17, 10)) : Sh (o + 10) = (5, 6) := (by decide +kernel : ∀ o ∈ ([10] : List Nat), Sh (o + 10) = (5, 6)) o (ob_7 h)
theorem ob_8 {o : Nat} (h : Sh o = (18, 69)) : o ∈ ([20000] : List Nat) := by
  have e := sh_all (P := fun o => decide (Sh o = (18, 69) → o ∈ ([20000] : List Nat))) (by decide +kernel) h (by decide)
  exact of_decide_eq_true e h
theorem sf_8_2 {o : Nat} (h : Sh o = (18, 69)) : Sh (o + 3) = (3, 8) := (by decide +kernel : ∀ o ∈ ([20000] : List Nat), Sh (o + 3) = (3, 8)) o (ob_8 h)
theorem sf_8_3 {o : Nat} (h : Sh o = (18, 69)) : Sh (o + 4) = (1, 8) := (by decide +kernel : ∀ o ∈ ([20000] : List Nat), Sh (o + 4) = (1, 8)) o (ob_8 h)
theorem sf_8_4 {o : Nat} (h : Sh o = (18, 69)) : Sh (o + 5) = (1, 25) := (by decide +kernel : ∀ o ∈ ([20000] : List Nat), Sh (o + 5) = (1, 25)) o (ob_8 h)
theorem sf_8_5 {o : Nat} (h : Sh o = (18, 69)) : Sh (o + 6) = (1, 25) := (by decide +kernel : ∀ o ∈ ([20000] : List Nat), Sh (o + 6) = (1, 25)) o (ob_8 h)
theorem sf_8_11 {o : Nat} (h : Sh o = (18, 69)) : Sh (o + 12) = (1, 5) := (by decide +kernel : ∀ o ∈ ([20000] : List Nat), Sh (o + 12) = (1, 5)) o (ob_8 h)
theorem sf_8_12 {o : Nat} (h : Sh o = (18, 69)) : Sh (o + 13) = (1, 8) := (by decide +kernel : ∀ o ∈ ([20000] : List Nat), Sh (o + 13) = (1, 8)) o (ob_8 h)
theorem sf_8_13 {o : Nat} (h : Sh o = (18, 69)) : Sh (o + 14) = (1, 8) := (by decide +kernel : ∀ o ∈ ([20000] : List Nat), Sh (o + 14) = (1, 8)) o (ob_8 h)
theorem sf_8_14 {o : Nat} (h : Sh o = (18, 69)) : Sh (o + 15) = (3, 5) := (by decide +kernel : ∀ o ∈ ([20000] : List Nat), Sh (o + 15) = (3, 5)) o (ob_8 h)
theorem sf_8_16 {o : Nat} (h : Sh o = (18, 69)) : Sh (o + 17) = (1, 3) := (by decide +kernel : ∀ o ∈ ([20000] : List Nat), Sh (o + 17) = (1, 3)) o (ob_8 h)
theorem sf_8_17 {o : Nat} (h : Sh o = (18, 69)) : Sh (o + 18) = (1, 3) := (by decide +kernel : ∀ o ∈ ([20000] : List Nat), Sh (o + 18) = (1, 3)) o (ob_8 h)
theorem sf_8_19 {o : Nat} (h : Sh o = (18, 69)) : Sh (o + 20) = (1, 25) := (by decide +kernel : ∀ o ∈ ([20000] : List Nat), Sh (o + 20) = (1, 25)) o (ob_8 h)
theorem sf_8_20 {o : Nat} (h : Sh o = (18, 69)) : Sh (o + 21) = (1, 25) := (by decide +kernel : ∀ o ∈ ([20000] : List Nat), Sh (o + 21) = (1, 25)) o (ob_8 h)
theorem sf_8_21 {o : Nat} (h : Sh o = (18, 69)) : Sh (o + 22) = (1, 25) := (by decide +kernel : ∀ o ∈ ([20000] : List Nat), Sh (o + 22) = (1, 25)) o (ob_8 h)
theorem sf_8_24 {o : Nat} (h : Sh o = (18, 69)) : Sh (o + 25) = (1, 8) := (by decide +kernel : ∀ o ∈ ([20000] : List Nat), Sh (o + 25) = (1, 8)) o (ob_8 h)
theorem sf_8_25 {o : Nat} (h : Sh o = (18, 69)) : Sh (o + 26) = (1, 8) := (by decide +kernel : ∀ o ∈ ([20000] : List Nat), Sh (o + 26) = (1, 8)) o (ob_8 h)
theorem sf_8_26 {o : Nat} (h : Sh o = (18, 69)) : Sh (o + 27) = (1, 8) := (by decide +kernel : ∀ o ∈ ([20000] : List Nat), Sh (o + 27) = (1, 8)) o (ob_8 h)
theorem sf_8_27 {o : Nat} (h : Sh o = (18, 69)) : Sh (o + 28) = (1, 8) := (by decide +kernel : ∀ o ∈ ([20000] : List Nat), Sh (o + 28) = (1, 8)) o (ob_8 h)
theorem sf_8_28 {o : Nat} (h : Sh o = (18, 69)) : Sh (o + 29) = (2, 8) := (by decide +kernel : ∀ o ∈ ([20000] : List Nat), Sh (o + 29) = (2, 8)) o (ob_8 h)
theorem sf_8_33 {o : Nat} (h : Sh o = (18, 69)) : Sh (o + 34) = (2, 72) := (by decide +kernel : ∀ o ∈ ([20000] : List Nat), Sh (o + 34) = (2, 72)) o (ob_8 h)
theorem sf_8_34 {o : Nat} (h : Sh o = (18, 69)) : Sh (o + 35) = (2, 9) := (by decide +kernel : ∀ o ∈ ([20000] : List Nat), Sh (o + 35) = (2, 9)) o (ob_8 h)
theorem sf_8_35 {o : Nat} (h : Sh o = (18, 69)) : Sh (o + 36) = (2, 9) := (by decide +kernel : ∀ o ∈ ([20000] : List Nat), Sh (o + 36) = (2, 9)) o (ob_8 h)
theorem sf_8_36 {o : Nat} (h : Sh o = (18, 69)) : Sh (o + 37) = (2, 9) := (by decide +kernel : ∀ o ∈ ([20000] : List Nat), Sh (o + 37) = (2, 9)) o (ob_8 h)
theorem sf_8_37 {o : Nat} (h : Sh o = (18, 69)) : Sh (o + 38) = (2, 9) := (by decide +kernel : ∀ o ∈ ([20000] : List Nat), Sh (o + 38) = (2, 9)) o (ob_8 h)
theorem sf_8_38 {o : Nat} (h : Sh o = (18, 69)) : Sh (o + 39) = (1, 72) := (by decide +kernel : ∀ o ∈ ([20000] : List Nat), Sh (o + 39) = (1, 72)) o (ob_8 h)
theorem sf_8_39 {o : Nat} (h : Sh o = (18, 69)) : Sh (o + 40) = (1, 9) := (by decide +kernel : ∀ o ∈ ([20000] : List Nat), Sh (o + 40) = (1, 9)) o (ob_8 h)
theorem sf_8_40 {o : Nat} (h : Sh o = (18, 69)) : Sh (o + 41) = (1, 9) := (by decide +kernel : ∀ o ∈ ([20000] : List Nat), Sh (o + 41) = (1, 9)) o (ob_8 h)
theorem sf_8_41 {o : Nat} (h : Sh o = (18, 69)) : Sh (o + 42) = (1, 9) := (by decide +kernel : ∀ o ∈ ([20000] : List Nat), Sh (o + 42) = (1, 9)) o (ob_8 h)
theorem sf_8_42 {o : Nat} (h : Sh o = (18, 69)) : Sh (o + 43) = (1, 8) := (by decide +kernel : ∀ o ∈ ([20000] : List Nat), Sh (o + 43) = (1, 8)) o (ob_8 h)
theorem sf_8_43 {o : Nat} (h : Sh o = (18, 69)) : Sh (o + 44) = (3, 8) := (by decide +kernel : ∀ o ∈ ([20000] : List Nat), Sh (o + 44) = (3, 8)) o (ob_8 h)
theorem sf_8_44 {o : Nat} (h : Sh o = (18, 69)) : Sh (o + 45) = (1, 25) := (by decide +kernel : ∀ o ∈ ([20000] : List Nat), Sh (o + 45) = (1, 25)) o (ob_8 h)
theorem sf_8_45 {o : Nat} (h : Sh o = (18, 69)) : Sh (o + 46) = (1, 100) := (by decide +kernel : ∀ o ∈ ([20000] : List Nat), Sh (o + 46) = (1, 100)) o (ob_8 h)
theorem sf_8_52 {o : Nat} (h : Sh o = (18, 69)) : Sh (o + 53) = (1, 12) := (by decide +kernel : ∀ o ∈ ([20000] : List Nat), Sh (o + 53) = (1, 12)) o (ob_8 h)
theorem sf_8_53 {o : Nat} (h : Sh o = (18, 69)) : Sh (o + 54) = (1, 12) := (by decide +kernel : ∀ o ∈ ([20000] : List Nat), Sh (o + 54) = (1, 12)) o (ob_8 h)
theorem sf_8_54 {o : Nat} (h : Sh o = (18, 69)) : Sh (o + 55) = (1, 12) := (by decide +kernel : ∀ o ∈ ([20000] : List Nat), Sh (o + 55) = (1, 12)) o (ob_8 h)
theorem sf_8_56 {o : Nat} (h : Sh o = (18, 69)) : Sh (o + 57) = (1, 7) := (by decide +kernel : ∀ o ∈ ([20000] : List Nat), Sh (o + 57) = (1, 7)) o (ob_8 h)
theorem sf_8_57 {o : Nat} (h : Sh o = (18, 69)) : Sh (o + 58) = (1, 8) := (by decide +kernel : ∀ o ∈ ([20000] : List Nat), Sh (o + 58) = (1, 8)) o (ob_8 h)
theorem sf_8_58 {o : Nat} (h : Sh o = (18, 69)) : Sh (o + 59) = (1, 25) := (by decide +kernel : ∀ o ∈ ([20000] : List Nat), Sh (o + 59) = (1, 25)) o (ob_8 h)
theorem sf_8_59 {o : Nat} (h : Sh o = (18, 69)) : Sh (o + 60) = (1, 25) := (by decide +kernel : ∀ o ∈ ([20000] : List Nat), Sh (o + 60) = (1, 25)) o (ob_8 h)
theorem sf_8_60 {o : Nat} (h : Sh o = (18, 69)) : Sh (o + 61) = (1, 5) := (by decide +kernel : ∀ o ∈ ([20000] : List Nat), Sh (o + 61) = (1, 5)) o (ob_8 h)
theorem sf_8_61 {o : Nat} (h : Sh o = (18, 69)) : Sh (o + 62) = (1, 8) := (by decide +kernel : ∀ o ∈ ([20000] : List Nat), Sh (o + 62) = (1, 8)) o (ob_8 h)
theorem sf_8_62 {o : Nat} (h : Sh o = (18, 69)) : Sh (o + 63) = (1, 8) := (by decide +kernel : ∀ o ∈ ([20000] : List Nat), Sh (o + 63) = (1, 8)) o (ob_8 h)
theorem sf_8_63 {o : Nat} (h : Sh o = (18, 69)) : Sh (o + 64) = (3, 8) := (by decide +kernel : ∀ o ∈ ([20000] : List Nat), Sh (o + 64) = (3, 8)) o (ob_8 h)
theorem sf_8_64 {o : Nat} (h : Sh o = (18, 69)) : Sh (o + 65) = (3, 5) := (by decide +kernel : ∀ o ∈ ([20000] : List Nat), Sh (o + 65) = (3, 5)) o (ob_8 h)
theorem sf_8_65 {o : Nat} (h : Sh o = (18, 69)) : Sh (o + 66) = (1, 6) := (by decide +kernel : ∀ o ∈ ([20000] : List Nat), Sh (o + 66) = (1, 6)) o (ob_8 h)
theorem sf_8_66 {o : Nat} (h : Sh o = (18, 69)) : Sh (o + 67) = (1, 6) := (by decide +kernel : ∀ o ∈ ([20000] : List Nat), Sh (o + 67) = (1, 6)) o (ob_8 h)
theorem sf_8_67 {o : Nat} (h : Sh o = (18, 69)) : Sh (o + 68) = (6, 6) := (by decide +kernel : ∀ o ∈ ([20000] : List Nat), Sh (o + 68) = (6, 6)) o (ob_8 h)
theorem sf_8_68 {o : Nat} (h : Sh o = (18, 69)) : Sh (o + 69) = (2, 60) := (by decide +kernel : ∀ o ∈ ([20000] : List Nat), Sh (o + 69) = (2, 60)) o (ob_8 h)
theorem or_4 {o : Nat} (h : Sh o = (4, 8)) : o ∈ ([1009, 2009] : List Nat) := by
  have e := sh_all (P := fun o => decide (Sh o = (4, 8) → o ∈ ([1009, 2009] : List Nat))) (by decide +kernel) h (by decide)
  exact of_decide_eq_true e h
theorem sr_4 {o j : Nat} (h : Sh o = (4, 8)) (hj : j < 8) : Sh (o + 36 + 16 * j) = (12, 9) := (by decide +kernel : ∀ o ∈ ([1009, 2009] : List Nat), ∀ j, j < 8 → Sh (o + 36 + 16 * j) = (12, 9)) o (or_4 h) j hj
theorem or_5 {o : Nat} (h : Sh o = (5, 6)) : o ∈ ([20] : List Nat) := by
  have e := sh_all (P := fun o => decide (Sh o = (5, 6) → o ∈ ([20] : List Nat))) (by decide +kernel) h (by decide)
  exact of_decide_eq_true e h
theorem sr_5 {o j : Nat} (h : Sh o = (5, 6)) (hj : j < 6) : Sh (o + 36 + 16 * j) = (14, 3) := (by decide +kernel : ∀ o ∈ ([20] : List Nat), ∀ j, j < 6 → Sh (o + 36 + 16 * j) = (14, 3)) o (or_5 h) j hj
theorem or_6 {o : Nat} (h : Sh o = (6, 6)) : o ∈ ([20068] : List Nat) := by
  have e := sh_all (P := fun o => decide (Sh o = (6, 6) → o ∈ ([20068] : List Nat))) (by decide +kernel) h (by decide)
  exact of_decide_eq_true e h
theorem sr_6 {o j : Nat} (h : Sh o = (6, 6)) (hj : j < 6) : Sh (o + 36 + 16 * j) = (2, 60) := (by decide +kernel : ∀ o ∈ ([20068] : List Nat), ∀ j, j < 6 → Sh (o + 36 + 16 * j) = (2, 60)) o (or_6 h) j hj
end
end
section
section
variable {X : XC} {Y : XY} {d pc : Nat} {ls ls' : List (Nat × XV)} {st : List XV} {M : Mem} {Post : Option XV → Mem → Prop}
/-! what the walks use -/
abbrev nm {α : Type} {β : Type} (x : α) (k : α → β) : β := k x
theorem nm_s {α β : Type} {x y : α} {k : α → β} {r : β} (e : y = x) (h : nm x k = r) : k y = r := by subst e; exact h
theorem chk_some {α : Type} {c : Prop} [Decidable c] {k : Option α} {x : α} (h : (if c then k else none) = some x) : c ∧ k = some x := by
  by_cases hc : c
  · rw [if_pos hc] at h; exact ⟨hc, h⟩
  · rw [if_neg hc] at h; cases h
theorem bnd_some {α β : Type} {x : Option α} {k : α → Option β} {r : β} (h : Option.bind x k = some r) : ∃ q, x = some q ∧ k q = some r := by
  cases x with
  | none => cases h
  | some q => exact ⟨q, rfl, h⟩
/-- a reference that may be null -/
abbrev oc {α : Type} (x : Option Nat) (n : Option α) (s : Nat → Option α) : Option α := match x with
  | none => n
  | some a => s a
/-- a loop that may return -/
abbrev lr {α β γ : Type} (x : Option (α ⊕ β)) (f : α → γ) (k : β → Option γ) : Option γ := match x with
  | none => none
  | some (.inl a) => some (f a)
  | some (.inr b) => k b
theorem lr_some {α β γ : Type} {x : Option (α ⊕ β)} {f : α → γ} {k : β → Option γ} {r : γ} (h : lr x f k = some r) : ∃ q, x = some q ∧ (∀ a, q = .inl a → f a = r) ∧ (∀ b, q = .inr b → k b = some r) := by
  rcases x with _ | (a | b)
  · cases h
  · exact ⟨.inl a, rfl, (fun a' e => by cases e; exact Option.some.inj h), (fun b e => by cases e)⟩
  · exact ⟨.inr b, rfl, (fun a e => by cases e), (fun b' e => by cases e; exact h)⟩
theorem i32l {v : Int} (h : decide (-2147483648 ≤ v ∧ v ≤ 2147483647) = true) : i32 v := (of_decide_eq_true h : -2147483648 ≤ v ∧ v ≤ 2147483647)
theorem i64l {v : Int} (h : decide (-9223372036854775808 ≤ v ∧ v ≤ 9223372036854775807) = true) : i64 v := (of_decide_eq_true h : -9223372036854775808 ≤ v ∧ v ≤ 9223372036854775807)
theorem tn_lt {i : Int} {n : Nat} (h0 : 0 ≤ i) (h1 : i < (n : Int)) : i.toNat < n := by omega
theorem g_nmM (k : ∀ M1 : Mem, M1 = M → Go X Y d pc ls st M1 Post) : Go X Y d pc ls st M Post := k M rfl
theorem g_nmI {v : Int} (k : ∀ w : Int, w = v → Go X Y d pc ls (XI w :: st) M Post) : Go X Y d pc ls (XI v :: st) M Post := k v rfl
theorem g_nmL {v : Int} (k : ∀ w : Int, w = v → Go X Y d pc ls (XL w :: st) M Post) : Go X Y d pc ls (XL v :: st) M Post := k v rfl
theorem g_bip {n : Int} (hd : decode Y.2.1 pc = .ok (.bipush n, 2)) (h : decide (-128 ≤ n ∧ n ≤ 127) = true) (k : Go X Y d (pc + 2) ls (XI n :: st) M Post) : Go X Y d pc ls st M Post := by
  have h2 := of_decide_eq_true h
  exact g_bipush hd (Int8.toInt32_ofInt (by show (-128 : Int) ≤ n; exact h2.1) (by show n ≤ (127 : Int); exact h2.2)) ⟨by omega, by omega⟩ k
theorem g_sip {n : Int} (hd : decode Y.2.1 pc = .ok (.sipush n, 3)) (h : decide (-32768 ≤ n ∧ n ≤ 32767) = true) (k : Go X Y d (pc + 3) ls (XI n :: st) M Post) : Go X Y d pc ls st M Post := by
  have h2 := of_decide_eq_true h
  exact g_sipush hd (Int16.toInt32_ofInt (by show (-32768 : Int) ≤ n; exact h2.1) (by show n ≤ (32767 : Int); exact h2.2)) ⟨by omega, by omega⟩ k
theorem g_alenV {a n kd : Nat} (v : Int) (hd : decode Y.2.1 pc = .ok (.arraylength, 1)) (ha : Sh a = (kd, n)) (hkd : decide (1 ≤ kd ∧ kd ≤ 6) = true) (hn : decide (n < 1000) = true) (hv : (n : Int) = v) (kk : Go X Y d (pc + 1) ls (XI v :: st) M Post) : Go X Y d pc ls (XR a :: st) M Post := by
  subst hv; exact g_alen hd ha (of_decide_eq_true hkd) (of_decide_eq_true hn) kk
theorem g_sub (ks : List Nat) (h : ks.filterMap (fun k => ls[k]?) = ls') (k : Go X Y d pc ls' st M Post) : Go X Y d pc ls st M Post := by
  subst h
  intro o1 o2 o3 p e R s m args below meth c cells slots Q H locs lsA C F hl K
  refine k (fun q hq => ?_) o2 o3 p e R s m args below meth c cells slots Q H locs lsA C F (lv_sub hl ks ?_) K
  · obtain ⟨i, -, hi⟩ := List.mem_filterMap.mp hq
    exact o1 q (List.mem_of_getElem? hi)
  · unfold lv_pick xls
    rw [List.map_filterMap]
    congr 1
    funext i
    rw [List.getElem?_map]
def pI (q : Int × Mem) : Option XV → Mem → Prop := fun r M' => r = some (XI q.1) ∧ M' = q.2
def pJ (q : Int × Mem) : Option XV → Mem → Prop := fun r M' => r = some (XL q.1) ∧ M' = q.2
def pV (q : Int × Mem) : Option XV → Mem → Prop := fun r M' => r = none ∧ M' = q.2
def xoR : Option Nat → XV
  | none => XN
  | some a => XR a
def pR (q : Option Nat × Mem) : Option XV → Mem → Prop := fun r M' => r = some (xoR q.1) ∧ M' = q.2
section CV
variable {Y' : XY} {as : List XV} {o ci n N idx : Nat} {host : String}
theorem v_I {q : Int × Mem} (hd : decode Y.2.1 pc = .ok (.invokevirtual idx, 3)) (hw : Cond.methodLink Y.1.cls idx Y'.1 ∈ xtbl) (hm : MD Y' n) (hv : MV Y') (hn : as.length = n) (ho : Sh o = (10 + ci, N)) (hci : (vwCl[ci]?).map (·.1) = some Y'.1.cls) (hst : xcat st ≤ 8)
    (hc : Ct X Y' d (XR o :: as) M (pI q)) {st0 : List XV} (h0 : as.reverse ++ XR o :: st = st0) (k : Go X Y (d + 1) (pc + 3) ls (XI q.1 :: st) q.2 Post) : Go X Y (d + 1) pc ls st0 M Post :=
  g_callV hd hw hm hv hn ho hci hst hc h0 (fun r M' h => by obtain ⟨rfl, rfl⟩ := h; exact k)
theorem v_J {q : Int × Mem} (hd : decode Y.2.1 pc = .ok (.invokevirtual idx, 3)) (hw : Cond.methodLink Y.1.cls idx Y'.1 ∈ xtbl) (hm : MD Y' n) (hv : MV Y') (hn : as.length = n) (ho : Sh o = (10 + ci, N)) (hci : (vwCl[ci]?).map (·.1) = some Y'.1.cls) (hst : xcat st ≤ 8)
    (hc : Ct X Y' d (XR o :: as) M (pJ q)) {st0 : List XV} (h0 : as.reverse ++ XR o :: st = st0) (k : Go X Y (d + 1) (pc + 3) ls (XL q.1 :: st) q.2 Post) : Go X Y (d + 1) pc ls st0 M Post :=
  g_callV hd hw hm hv hn ho hci hst hc h0 (fun r M' h => by obtain ⟨rfl, rfl⟩ := h; exact k)
theorem v_V {q : Int × Mem} (hd : decode Y.2.1 pc = .ok (.invokevirtual idx, 3)) (hw : Cond.methodLink Y.1.cls idx Y'.1 ∈ xtbl) (hm : MD Y' n) (hv : MV Y') (hn : as.length = n) (ho : Sh o = (10 + ci, N)) (hci : (vwCl[ci]?).map (·.1) = some Y'.1.cls) (hst : xcat st ≤ 8)
    (hc : Ct X Y' d (XR o :: as) M (pV q)) {st0 : List XV} (h0 : as.reverse ++ XR o :: st = st0) (k : Go X Y (d + 1) (pc + 3) ls st q.2 Post) : Go X Y (d + 1) pc ls st0 M Post :=
  g_callV hd hw hm hv hn ho hci hst hc h0 (fun r M' h => by obtain ⟨rfl, rfl⟩ := h; exact k)
theorem v_R {q : Option Nat × Mem} (hd : decode Y.2.1 pc = .ok (.invokevirtual idx, 3)) (hw : Cond.methodLink Y.1.cls idx Y'.1 ∈ xtbl) (hm : MD Y' n) (hv : MV Y') (hn : as.length = n) (ho : Sh o = (10 + ci, N)) (hci : (vwCl[ci]?).map (·.1) = some Y'.1.cls) (hst : xcat st ≤ 8)
    (hc : Ct X Y' d (XR o :: as) M (pR q)) {st0 : List XV} (h0 : as.reverse ++ XR o :: st = st0) (k1 : q.1 = none → Go X Y (d + 1) (pc + 3) ls (XN :: st) q.2 Post) (k2 : ∀ a, q.1 = some a → Go X Y (d + 1) (pc + 3) ls (XR a :: st) q.2 Post) : Go X Y (d + 1) pc ls st0 M Post :=
  g_callV hd hw hm hv hn ho hci hst hc h0 (fun r M' h => by
    obtain ⟨rfl, rfl⟩ := h
    cases hq : q.1 with
    | none => exact k1 hq
    | some a => exact k2 a hq)
theorem s_I {q : Int × Mem} (hd : decode Y.2.1 pc = .ok (.invokestatic idx, 3)) (hw : Cond.methodLink Y.1.cls idx Y'.1 ∈ xtbl) (hm : MD Y' n) (hv : Cond.static Y'.1 ∈ xtbl) (hn : as.length = n) (hst : xcat st ≤ 8)
    (hc : Ct X Y' d as M (pI q)) {st0 : List XV} (h0 : as.reverse ++ st = st0) (k : Go X Y (d + 1) (pc + 3) ls (XI q.1 :: st) q.2 Post) : Go X Y (d + 1) pc ls st0 M Post :=
  g_callS hd hw hm hv hn hst hc h0 (fun r M' h => by obtain ⟨rfl, rfl⟩ := h; exact k)
theorem s_J {q : Int × Mem} (hd : decode Y.2.1 pc = .ok (.invokestatic idx, 3)) (hw : Cond.methodLink Y.1.cls idx Y'.1 ∈ xtbl) (hm : MD Y' n) (hv : Cond.static Y'.1 ∈ xtbl) (hn : as.length = n) (hst : xcat st ≤ 8)
    (hc : Ct X Y' d as M (pJ q)) {st0 : List XV} (h0 : as.reverse ++ st = st0) (k : Go X Y (d + 1) (pc + 3) ls (XL q.1 :: st) q.2 Post) : Go X Y (d + 1) pc ls st0 M Post :=
  g_callS hd hw hm hv hn hst hc h0 (fun r M' h => by obtain ⟨rfl, rfl⟩ := h; exact k)
theorem s_V {q : Int × Mem} (hd : decode Y.2.1 pc = .ok (.invokestatic idx, 3)) (hw : Cond.methodLink Y.1.cls idx Y'.1 ∈ xtbl) (hm : MD Y' n) (hv : Cond.static Y'.1 ∈ xtbl) (hn : as.length = n) (hst : xcat st ≤ 8)
    (hc : Ct X Y' d as M (pV q)) {st0 : List XV} (h0 : as.reverse ++ st = st0) (k : Go X Y (d + 1) (pc + 3) ls st q.2 Post) : Go X Y (d + 1) pc ls st0 M Post :=
  g_callS hd hw hm hv hn hst hc h0 (fun r M' h => by obtain ⟨rfl, rfl⟩ := h; exact k)
theorem n_J {q : Int × Mem} (hd : decode Y.2.1 pc = .ok (.invokestatic idx, 3)) (hw : Cond.methodLinkNest Y.1.cls idx Y'.1 host ∈ xtbl) (hm : MD Y' n) (hv : Cond.static Y'.1 ∈ xtbl) (hn : as.length = n) (hst : xcat st ≤ 8)
    (hc : Ct X Y' d as M (pJ q)) {st0 : List XV} (h0 : as.reverse ++ st = st0) (k : Go X Y (d + 1) (pc + 3) ls (XL q.1 :: st) q.2 Post) : Go X Y (d + 1) pc ls st0 M Post :=
  g_callN hd hw hm hv hn hst hc h0 (fun r M' h => by obtain ⟨rfl, rfl⟩ := h; exact k)
end CV
end
end
section
section
theorem zz_t : True := trivial
end
end
