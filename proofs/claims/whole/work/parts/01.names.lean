-- ===== PART A: goes FIRST, ahead of the names: the tables' words, and 'selects' of the private methods out of them =====
/-- a private method of a class that the tables say can be made, by its rows of tables_1 -/
def lw_okq (q : MethodName × Nat) : Prop := (q.1.cls ≠ "java/lang/invoke/MethodHandle" ∧ q.1.cls ≠ "java/lang/invoke/VarHandle") ∧ Cond.instantiable q.1.cls q.2 ∈ tables_1 ∧ Cond.privateMethod q.1 ∈ tables_1 ∧ Cond.instanceMethod q.1 ∈ tables_1
theorem lw_p0 : lw_okq (⟨"KeepCount", "isOver", "(II)Z"⟩, 10) := ⟨⟨by decide +kernel, by decide +kernel⟩, List.mem_of_getElem? (i := 15) (by decide +kernel), List.mem_of_getElem? (i := 355) (by decide +kernel), List.mem_of_getElem? (i := 356) (by decide +kernel)⟩
theorem lw_p1 : lw_okq (⟨"KeepCount", "putSeats", "(I)I"⟩, 10) := ⟨⟨by decide +kernel, by decide +kernel⟩, List.mem_of_getElem? (i := 15) (by decide +kernel), List.mem_of_getElem? (i := 399) (by decide +kernel), List.mem_of_getElem? (i := 400) (by decide +kernel)⟩
theorem lw_p2 : lw_okq (⟨"KeepCount", "putLimit", "(I)I"⟩, 10) := ⟨⟨by decide +kernel, by decide +kernel⟩, List.mem_of_getElem? (i := 15) (by decide +kernel), List.mem_of_getElem? (i := 404) (by decide +kernel), List.mem_of_getElem? (i := 405) (by decide +kernel)⟩
theorem lw_p3 : lw_okq (⟨"KeepCount", "putRounds", "(I)I"⟩, 10) := ⟨⟨by decide +kernel, by decide +kernel⟩, List.mem_of_getElem? (i := 15) (by decide +kernel), List.mem_of_getElem? (i := 408) (by decide +kernel), List.mem_of_getElem? (i := 409) (by decide +kernel)⟩
theorem lw_p4 : lw_okq (⟨"KeepCount", "tallied", "()LKeepCount$Tally;"⟩, 10) := ⟨⟨by decide +kernel, by decide +kernel⟩, List.mem_of_getElem? (i := 15) (by decide +kernel), List.mem_of_getElem? (i := 420) (by decide +kernel), List.mem_of_getElem? (i := 421) (by decide +kernel)⟩
theorem lw_p5 : lw_okq (⟨"KeepCount$Piles", "put", "(II)V"⟩, 3) := ⟨⟨by decide +kernel, by decide +kernel⟩, List.mem_of_getElem? (i := 108) (by decide +kernel), List.mem_of_getElem? (i := 439) (by decide +kernel), List.mem_of_getElem? (i := 440) (by decide +kernel)⟩
theorem lw_p6 : lw_okq (⟨"KeepCount$Tally", "begin", "()V"⟩, 14) := ⟨⟨by decide +kernel, by decide +kernel⟩, List.mem_of_getElem? (i := 102) (by decide +kernel), List.mem_of_getElem? (i := 443) (by decide +kernel), List.mem_of_getElem? (i := 444) (by decide +kernel)⟩
theorem lw_p7 : lw_okq (⟨"KeepCount$Tally", "fill", "(LKeepCount$Stage;)V"⟩, 14) := ⟨⟨by decide +kernel, by decide +kernel⟩, List.mem_of_getElem? (i := 102) (by decide +kernel), List.mem_of_getElem? (i := 448) (by decide +kernel), List.mem_of_getElem? (i := 449) (by decide +kernel)⟩
theorem lw_p8 : lw_okq (⟨"KeepCount$Tally", "workOut", "()V"⟩, 14) := ⟨⟨by decide +kernel, by decide +kernel⟩, List.mem_of_getElem? (i := 102) (by decide +kernel), List.mem_of_getElem? (i := 452) (by decide +kernel), List.mem_of_getElem? (i := 453) (by decide +kernel)⟩
theorem lw_p9 : lw_okq (⟨"KeepCount$Tally", "passOn", "(IJ)J"⟩, 14) := ⟨⟨by decide +kernel, by decide +kernel⟩, List.mem_of_getElem? (i := 102) (by decide +kernel), List.mem_of_getElem? (i := 459) (by decide +kernel), List.mem_of_getElem? (i := 460) (by decide +kernel)⟩
theorem lw_p10 : lw_okq (⟨"KeepCount$Tally", "note", "(LKeepCount$Stage;IJ)V"⟩, 14) := ⟨⟨by decide +kernel, by decide +kernel⟩, List.mem_of_getElem? (i := 102) (by decide +kernel), List.mem_of_getElem? (i := 467) (by decide +kernel), List.mem_of_getElem? (i := 468) (by decide +kernel)⟩
theorem lw_p11 : lw_okq (⟨"KeepCount$Tally", "elect", "(LKeepCount$Stage;I)V"⟩, 14) := ⟨⟨by decide +kernel, by decide +kernel⟩, List.mem_of_getElem? (i := 102) (by decide +kernel), List.mem_of_getElem? (i := 475) (by decide +kernel), List.mem_of_getElem? (i := 476) (by decide +kernel)⟩
theorem lw_p12 : lw_okq (⟨"KeepCount$Tally", "goByRounds", "(LKeepCount$Stage;Z)V"⟩, 14) := ⟨⟨by decide +kernel, by decide +kernel⟩, List.mem_of_getElem? (i := 102) (by decide +kernel), List.mem_of_getElem? (i := 483) (by decide +kernel), List.mem_of_getElem? (i := 484) (by decide +kernel)⟩
theorem lw_p13 : lw_okq (⟨"KeepCount$Tally", "turnKeeps", "()V"⟩, 14) := ⟨⟨by decide +kernel, by decide +kernel⟩, List.mem_of_getElem? (i := 102) (by decide +kernel), List.mem_of_getElem? (i := 487) (by decide +kernel), List.mem_of_getElem? (i := 488) (by decide +kernel)⟩
theorem lw_p14 : lw_okq (⟨"KeepCount$Tally", "surplus", "()J"⟩, 14) := ⟨⟨by decide +kernel, by decide +kernel⟩, List.mem_of_getElem? (i := 102) (by decide +kernel), List.mem_of_getElem? (i := 494) (by decide +kernel), List.mem_of_getElem? (i := 495) (by decide +kernel)⟩
theorem lw_p15 : lw_okq (⟨"KeepCount$Tally", "whoReachesQuota", "()I"⟩, 14) := ⟨⟨by decide +kernel, by decide +kernel⟩, List.mem_of_getElem? (i := 102) (by decide +kernel), List.mem_of_getElem? (i := 501) (by decide +kernel), List.mem_of_getElem? (i := 502) (by decide +kernel)⟩
def lw_privs_1 : List (MethodName × Nat) := [(⟨"KeepCount", "isOver", "(II)Z"⟩, 10), (⟨"KeepCount", "putSeats", "(I)I"⟩, 10), (⟨"KeepCount", "putLimit", "(I)I"⟩, 10), (⟨"KeepCount", "putRounds", "(I)I"⟩, 10), (⟨"KeepCount", "tallied", "()LKeepCount$Tally;"⟩, 10), (⟨"KeepCount$Piles", "put", "(II)V"⟩, 3), (⟨"KeepCount$Tally", "begin", "()V"⟩, 14), (⟨"KeepCount$Tally", "fill", "(LKeepCount$Stage;)V"⟩, 14), (⟨"KeepCount$Tally", "workOut", "()V"⟩, 14), (⟨"KeepCount$Tally", "passOn", "(IJ)J"⟩, 14), (⟨"KeepCount$Tally", "note", "(LKeepCount$Stage;IJ)V"⟩, 14), (⟨"KeepCount$Tally", "elect", "(LKeepCount$Stage;I)V"⟩, 14), (⟨"KeepCount$Tally", "goByRounds", "(LKeepCount$Stage;Z)V"⟩, 14), (⟨"KeepCount$Tally", "turnKeeps", "()V"⟩, 14), (⟨"KeepCount$Tally", "surplus", "()J"⟩, 14), (⟨"KeepCount$Tally", "whoReachesQuota", "()I"⟩, 14)]
theorem lw_r1 : ∀ q ∈ lw_privs_1, lw_okq q := List.forall_mem_cons.mpr ⟨lw_p0, List.forall_mem_cons.mpr ⟨lw_p1, List.forall_mem_cons.mpr ⟨lw_p2, List.forall_mem_cons.mpr ⟨lw_p3, List.forall_mem_cons.mpr ⟨lw_p4, List.forall_mem_cons.mpr ⟨lw_p5, List.forall_mem_cons.mpr ⟨lw_p6, List.forall_mem_cons.mpr ⟨lw_p7, List.forall_mem_cons.mpr ⟨lw_p8, List.forall_mem_cons.mpr ⟨lw_p9, List.forall_mem_cons.mpr ⟨lw_p10, List.forall_mem_cons.mpr ⟨lw_p11, List.forall_mem_cons.mpr ⟨lw_p12, List.forall_mem_cons.mpr ⟨lw_p13, List.forall_mem_cons.mpr ⟨lw_p14, List.forall_mem_cons.mpr ⟨lw_p15, fun _ h => absurd h List.not_mem_nil⟩⟩⟩⟩⟩⟩⟩⟩⟩⟩⟩⟩⟩⟩⟩⟩
theorem lw_p16 : lw_okq (⟨"KeepCount$Tally", "exclude", "(LKeepCount$Stage;)V"⟩, 14) := ⟨⟨by decide +kernel, by decide +kernel⟩, List.mem_of_getElem? (i := 102) (by decide +kernel), List.mem_of_getElem? (i := 505) (by decide +kernel), List.mem_of_getElem? (i := 506) (by decide +kernel)⟩
theorem lw_p17 : lw_okq (⟨"KeepCount$Tally", "whoHasFewest", "([JI)I"⟩, 14) := ⟨⟨by decide +kernel, by decide +kernel⟩, List.mem_of_getElem? (i := 102) (by decide +kernel), List.mem_of_getElem? (i := 509) (by decide +kernel), List.mem_of_getElem? (i := 510) (by decide +kernel)⟩
theorem lw_p18 : lw_okq (⟨"KeepCount$Tally", "lastInLot", "(I)I"⟩, 14) := ⟨⟨by decide +kernel, by decide +kernel⟩, List.mem_of_getElem? (i := 102) (by decide +kernel), List.mem_of_getElem? (i := 514) (by decide +kernel), List.mem_of_getElem? (i := 515) (by decide +kernel)⟩
theorem lw_p19 : lw_okq (⟨"KeepCount", "beatsAll", "(I)Z"⟩, 10) := ⟨⟨by decide +kernel, by decide +kernel⟩, List.mem_of_getElem? (i := 15) (by decide +kernel), List.mem_of_getElem? (i := 611) (by decide +kernel), List.mem_of_getElem? (i := 612) (by decide +kernel)⟩
theorem lw_p20 : lw_okq (⟨"KeepCount", "electedInThought", "()I"⟩, 10) := ⟨⟨by decide +kernel, by decide +kernel⟩, List.mem_of_getElem? (i := 15) (by decide +kernel), List.mem_of_getElem? (i := 631) (by decide +kernel), List.mem_of_getElem? (i := 632) (by decide +kernel)⟩
theorem lw_p21 : lw_okq (⟨"KeepCount$Poll", "emptyLedBy", "(I)V"⟩, 15) := ⟨⟨by decide +kernel, by decide +kernel⟩, List.mem_of_getElem? (i := 23) (by decide +kernel), List.mem_of_getElem? (i := 675) (by decide +kernel), List.mem_of_getElem? (i := 676) (by decide +kernel)⟩
theorem lw_p22 : lw_okq (⟨"KeepCount$Text", "readsClause", "(I)Z"⟩, 8) := ⟨⟨by decide +kernel, by decide +kernel⟩, List.mem_of_getElem? (i := 233) (by decide +kernel), List.mem_of_getElem? (i := 691) (by decide +kernel), List.mem_of_getElem? (i := 692) (by decide +kernel)⟩
theorem lw_p23 : lw_okq (⟨"KeepCount$Text", "sign", "()I"⟩, 8) := ⟨⟨by decide +kernel, by decide +kernel⟩, List.mem_of_getElem? (i := 233) (by decide +kernel), List.mem_of_getElem? (i := 695) (by decide +kernel), List.mem_of_getElem? (i := 696) (by decide +kernel)⟩
theorem lw_p24 : lw_okq (⟨"KeepCount$Text", "readsBallot", "(I)Z"⟩, 8) := ⟨⟨by decide +kernel, by decide +kernel⟩, List.mem_of_getElem? (i := 233) (by decide +kernel), List.mem_of_getElem? (i := 699) (by decide +kernel), List.mem_of_getElem? (i := 700) (by decide +kernel)⟩
theorem lw_p25 : lw_okq (⟨"KeepCount$Text", "number", "(I)I"⟩, 8) := ⟨⟨by decide +kernel, by decide +kernel⟩, List.mem_of_getElem? (i := 233) (by decide +kernel), List.mem_of_getElem? (i := 703) (by decide +kernel), List.mem_of_getElem? (i := 704) (by decide +kernel)⟩
theorem lw_p26 : lw_okq (⟨"KeepCount", "isDone", "(III)Z"⟩, 10) := ⟨⟨by decide +kernel, by decide +kernel⟩, List.mem_of_getElem? (i := 15) (by decide +kernel), List.mem_of_getElem? (i := 709) (by decide +kernel), List.mem_of_getElem? (i := 710) (by decide +kernel)⟩
theorem lw_p27 : lw_okq (⟨"KeepCount", "tapeAt", "(I)LKeepCount$Tape;"⟩, 10) := ⟨⟨by decide +kernel, by decide +kernel⟩, List.mem_of_getElem? (i := 15) (by decide +kernel), List.mem_of_getElem? (i := 725) (by decide +kernel), List.mem_of_getElem? (i := 726) (by decide +kernel)⟩
theorem lw_p28 : lw_okq (⟨"KeepCountModel", "isRow", "(I)Z"⟩, 69) := ⟨⟨by decide +kernel, by decide +kernel⟩, List.mem_of_getElem? (i := 773) (by decide +kernel), List.mem_of_getElem? (i := 997) (by decide +kernel), List.mem_of_getElem? (i := 998) (by decide +kernel)⟩
theorem lw_p29 : lw_okq (⟨"KeepCountModel", "firstOver", "(I)I"⟩, 69) := ⟨⟨by decide +kernel, by decide +kernel⟩, List.mem_of_getElem? (i := 773) (by decide +kernel), List.mem_of_getElem? (i := 1009) (by decide +kernel), List.mem_of_getElem? (i := 1010) (by decide +kernel)⟩
theorem lw_p30 : lw_okq (⟨"KeepCountModel", "over", "(I)I"⟩, 69) := ⟨⟨by decide +kernel, by decide +kernel⟩, List.mem_of_getElem? (i := 773) (by decide +kernel), List.mem_of_getElem? (i := 1014) (by decide +kernel), List.mem_of_getElem? (i := 1015) (by decide +kernel)⟩
theorem lw_p31 : lw_okq (⟨"KeepCountModel", "isBallot", "(I)Z"⟩, 69) := ⟨⟨by decide +kernel, by decide +kernel⟩, List.mem_of_getElem? (i := 773) (by decide +kernel), List.mem_of_getElem? (i := 1022) (by decide +kernel), List.mem_of_getElem? (i := 1023) (by decide +kernel)⟩
def lw_privs_2 : List (MethodName × Nat) := [(⟨"KeepCount$Tally", "exclude", "(LKeepCount$Stage;)V"⟩, 14), (⟨"KeepCount$Tally", "whoHasFewest", "([JI)I"⟩, 14), (⟨"KeepCount$Tally", "lastInLot", "(I)I"⟩, 14), (⟨"KeepCount", "beatsAll", "(I)Z"⟩, 10), (⟨"KeepCount", "electedInThought", "()I"⟩, 10), (⟨"KeepCount$Poll", "emptyLedBy", "(I)V"⟩, 15), (⟨"KeepCount$Text", "readsClause", "(I)Z"⟩, 8), (⟨"KeepCount$Text", "sign", "()I"⟩, 8), (⟨"KeepCount$Text", "readsBallot", "(I)Z"⟩, 8), (⟨"KeepCount$Text", "number", "(I)I"⟩, 8), (⟨"KeepCount", "isDone", "(III)Z"⟩, 10), (⟨"KeepCount", "tapeAt", "(I)LKeepCount$Tape;"⟩, 10), (⟨"KeepCountModel", "isRow", "(I)Z"⟩, 69), (⟨"KeepCountModel", "firstOver", "(I)I"⟩, 69), (⟨"KeepCountModel", "over", "(I)I"⟩, 69), (⟨"KeepCountModel", "isBallot", "(I)Z"⟩, 69)]
theorem lw_r2 : ∀ q ∈ lw_privs_2, lw_okq q := List.forall_mem_cons.mpr ⟨lw_p16, List.forall_mem_cons.mpr ⟨lw_p17, List.forall_mem_cons.mpr ⟨lw_p18, List.forall_mem_cons.mpr ⟨lw_p19, List.forall_mem_cons.mpr ⟨lw_p20, List.forall_mem_cons.mpr ⟨lw_p21, List.forall_mem_cons.mpr ⟨lw_p22, List.forall_mem_cons.mpr ⟨lw_p23, List.forall_mem_cons.mpr ⟨lw_p24, List.forall_mem_cons.mpr ⟨lw_p25, List.forall_mem_cons.mpr ⟨lw_p26, List.forall_mem_cons.mpr ⟨lw_p27, List.forall_mem_cons.mpr ⟨lw_p28, List.forall_mem_cons.mpr ⟨lw_p29, List.forall_mem_cons.mpr ⟨lw_p30, List.forall_mem_cons.mpr ⟨lw_p31, fun _ h => absurd h List.not_mem_nil⟩⟩⟩⟩⟩⟩⟩⟩⟩⟩⟩⟩⟩⟩⟩⟩
theorem lw_p32 : lw_okq (⟨"KeepCountModel", "isOne", "(I)Z"⟩, 69) := ⟨⟨by decide +kernel, by decide +kernel⟩, List.mem_of_getElem? (i := 773) (by decide +kernel), List.mem_of_getElem? (i := 1034) (by decide +kernel), List.mem_of_getElem? (i := 1035) (by decide +kernel)⟩
theorem lw_p33 : lw_okq (⟨"KeepCountModel", "counts", "()V"⟩, 69) := ⟨⟨by decide +kernel, by decide +kernel⟩, List.mem_of_getElem? (i := 773) (by decide +kernel), List.mem_of_getElem? (i := 1055) (by decide +kernel), List.mem_of_getElem? (i := 1056) (by decide +kernel)⟩
theorem lw_p34 : lw_okq (⟨"KeepCountModel", "tellPiles", "()V"⟩, 69) := ⟨⟨by decide +kernel, by decide +kernel⟩, List.mem_of_getElem? (i := 773) (by decide +kernel), List.mem_of_getElem? (i := 1059) (by decide +kernel), List.mem_of_getElem? (i := 1060) (by decide +kernel)⟩
theorem lw_p35 : lw_okq (⟨"KeepCountModel", "left", "(I)I"⟩, 69) := ⟨⟨by decide +kernel, by decide +kernel⟩, List.mem_of_getElem? (i := 773) (by decide +kernel), List.mem_of_getElem? (i := 1063) (by decide +kernel), List.mem_of_getElem? (i := 1064) (by decide +kernel)⟩
theorem lw_p36 : lw_okq (⟨"KeepCountModel", "comesTo", "(II)V"⟩, 69) := ⟨⟨by decide +kernel, by decide +kernel⟩, List.mem_of_getElem? (i := 773) (by decide +kernel), List.mem_of_getElem? (i := 1073) (by decide +kernel), List.mem_of_getElem? (i := 1074) (by decide +kernel)⟩
theorem lw_p37 : lw_okq (⟨"KeepCountModel", "many", "(I)I"⟩, 69) := ⟨⟨by decide +kernel, by decide +kernel⟩, List.mem_of_getElem? (i := 773) (by decide +kernel), List.mem_of_getElem? (i := 1081) (by decide +kernel), List.mem_of_getElem? (i := 1082) (by decide +kernel)⟩
theorem lw_p38 : lw_okq (⟨"KeepCountModel", "fills", "()V"⟩, 69) := ⟨⟨by decide +kernel, by decide +kernel⟩, List.mem_of_getElem? (i := 773) (by decide +kernel), List.mem_of_getElem? (i := 1085) (by decide +kernel), List.mem_of_getElem? (i := 1086) (by decide +kernel)⟩
theorem lw_p39 : lw_okq (⟨"KeepCountModel", "tellVotes", "()V"⟩, 69) := ⟨⟨by decide +kernel, by decide +kernel⟩, List.mem_of_getElem? (i := 773) (by decide +kernel), List.mem_of_getElem? (i := 1089) (by decide +kernel), List.mem_of_getElem? (i := 1090) (by decide +kernel)⟩
theorem lw_p40 : lw_okq (⟨"KeepCountModel", "becomesElected", "(I)V"⟩, 69) := ⟨⟨by decide +kernel, by decide +kernel⟩, List.mem_of_getElem? (i := 773) (by decide +kernel), List.mem_of_getElem? (i := 1093) (by decide +kernel), List.mem_of_getElem? (i := 1094) (by decide +kernel)⟩
theorem lw_p41 : lw_okq (⟨"KeepCountModel", "endsStage", "(I)V"⟩, 69) := ⟨⟨by decide +kernel, by decide +kernel⟩, List.mem_of_getElem? (i := 773) (by decide +kernel), List.mem_of_getElem? (i := 1097) (by decide +kernel), List.mem_of_getElem? (i := 1098) (by decide +kernel)⟩
theorem lw_p42 : lw_okq (⟨"KeepCountModel", "lines", "()V"⟩, 69) := ⟨⟨by decide +kernel, by decide +kernel⟩, List.mem_of_getElem? (i := 773) (by decide +kernel), List.mem_of_getElem? (i := 1101) (by decide +kernel), List.mem_of_getElem? (i := 1102) (by decide +kernel)⟩
theorem lw_p43 : lw_okq (⟨"KeepCountModel", "isAhead", "(II)Z"⟩, 69) := ⟨⟨by decide +kernel, by decide +kernel⟩, List.mem_of_getElem? (i := 773) (by decide +kernel), List.mem_of_getElem? (i := 1105) (by decide +kernel), List.mem_of_getElem? (i := 1106) (by decide +kernel)⟩
theorem lw_p44 : lw_okq (⟨"KeepCountModel", "lotOf", "(I)I"⟩, 69) := ⟨⟨by decide +kernel, by decide +kernel⟩, List.mem_of_getElem? (i := 773) (by decide +kernel), List.mem_of_getElem? (i := 1109) (by decide +kernel), List.mem_of_getElem? (i := 1110) (by decide +kernel)⟩
theorem lw_p45 : lw_okq (⟨"KeepCountModel", "goesStage", "(Z)V"⟩, 69) := ⟨⟨by decide +kernel, by decide +kernel⟩, List.mem_of_getElem? (i := 773) (by decide +kernel), List.mem_of_getElem? (i := 1113) (by decide +kernel), List.mem_of_getElem? (i := 1114) (by decide +kernel)⟩
theorem lw_p46 : lw_okq (⟨"KeepCountModel", "keepsAnew", "()V"⟩, 69) := ⟨⟨by decide +kernel, by decide +kernel⟩, List.mem_of_getElem? (i := 773) (by decide +kernel), List.mem_of_getElem? (i := 1117) (by decide +kernel), List.mem_of_getElem? (i := 1118) (by decide +kernel)⟩
theorem lw_p47 : lw_okq (⟨"KeepCountModel", "tellSurplus", "()V"⟩, 69) := ⟨⟨by decide +kernel, by decide +kernel⟩, List.mem_of_getElem? (i := 773) (by decide +kernel), List.mem_of_getElem? (i := 1122) (by decide +kernel), List.mem_of_getElem? (i := 1123) (by decide +kernel)⟩
def lw_privs_3 : List (MethodName × Nat) := [(⟨"KeepCountModel", "isOne", "(I)Z"⟩, 69), (⟨"KeepCountModel", "counts", "()V"⟩, 69), (⟨"KeepCountModel", "tellPiles", "()V"⟩, 69), (⟨"KeepCountModel", "left", "(I)I"⟩, 69), (⟨"KeepCountModel", "comesTo", "(II)V"⟩, 69), (⟨"KeepCountModel", "many", "(I)I"⟩, 69), (⟨"KeepCountModel", "fills", "()V"⟩, 69), (⟨"KeepCountModel", "tellVotes", "()V"⟩, 69), (⟨"KeepCountModel", "becomesElected", "(I)V"⟩, 69), (⟨"KeepCountModel", "endsStage", "(I)V"⟩, 69), (⟨"KeepCountModel", "lines", "()V"⟩, 69), (⟨"KeepCountModel", "isAhead", "(II)Z"⟩, 69), (⟨"KeepCountModel", "lotOf", "(I)I"⟩, 69), (⟨"KeepCountModel", "goesStage", "(Z)V"⟩, 69), (⟨"KeepCountModel", "keepsAnew", "()V"⟩, 69), (⟨"KeepCountModel", "tellSurplus", "()V"⟩, 69)]
theorem lw_r3 : ∀ q ∈ lw_privs_3, lw_okq q := List.forall_mem_cons.mpr ⟨lw_p32, List.forall_mem_cons.mpr ⟨lw_p33, List.forall_mem_cons.mpr ⟨lw_p34, List.forall_mem_cons.mpr ⟨lw_p35, List.forall_mem_cons.mpr ⟨lw_p36, List.forall_mem_cons.mpr ⟨lw_p37, List.forall_mem_cons.mpr ⟨lw_p38, List.forall_mem_cons.mpr ⟨lw_p39, List.forall_mem_cons.mpr ⟨lw_p40, List.forall_mem_cons.mpr ⟨lw_p41, List.forall_mem_cons.mpr ⟨lw_p42, List.forall_mem_cons.mpr ⟨lw_p43, List.forall_mem_cons.mpr ⟨lw_p44, List.forall_mem_cons.mpr ⟨lw_p45, List.forall_mem_cons.mpr ⟨lw_p46, List.forall_mem_cons.mpr ⟨lw_p47, fun _ h => absurd h List.not_mem_nil⟩⟩⟩⟩⟩⟩⟩⟩⟩⟩⟩⟩⟩⟩⟩⟩
theorem lw_p48 : lw_okq (⟨"KeepCountModel", "elects", "()Z"⟩, 69) := ⟨⟨by decide +kernel, by decide +kernel⟩, List.mem_of_getElem? (i := 773) (by decide +kernel), List.mem_of_getElem? (i := 1126) (by decide +kernel), List.mem_of_getElem? (i := 1127) (by decide +kernel)⟩
theorem lw_p49 : lw_okq (⟨"KeepCountModel", "worst", "()I"⟩, 69) := ⟨⟨by decide +kernel, by decide +kernel⟩, List.mem_of_getElem? (i := 773) (by decide +kernel), List.mem_of_getElem? (i := 1130) (by decide +kernel), List.mem_of_getElem? (i := 1131) (by decide +kernel)⟩
theorem lw_p50 : lw_okq (⟨"KeepCountModel", "goesRather", "(II)Z"⟩, 69) := ⟨⟨by decide +kernel, by decide +kernel⟩, List.mem_of_getElem? (i := 773) (by decide +kernel), List.mem_of_getElem? (i := 1134) (by decide +kernel), List.mem_of_getElem? (i := 1135) (by decide +kernel)⟩
theorem lw_p51 : lw_okq (⟨"KeepCountModel", "firstMany", "(I)I"⟩, 69) := ⟨⟨by decide +kernel, by decide +kernel⟩, List.mem_of_getElem? (i := 773) (by decide +kernel), List.mem_of_getElem? (i := 1138) (by decide +kernel), List.mem_of_getElem? (i := 1139) (by decide +kernel)⟩
theorem lw_p52 : lw_okq (⟨"KeepCountModel", "electedSet", "()I"⟩, 69) := ⟨⟨by decide +kernel, by decide +kernel⟩, List.mem_of_getElem? (i := 773) (by decide +kernel), List.mem_of_getElem? (i := 1155) (by decide +kernel), List.mem_of_getElem? (i := 1156) (by decide +kernel)⟩
theorem lw_p53 : lw_okq (⟨"KeepCountModel", "isStage", "(I)Z"⟩, 69) := ⟨⟨by decide +kernel, by decide +kernel⟩, List.mem_of_getElem? (i := 773) (by decide +kernel), List.mem_of_getElem? (i := 1163) (by decide +kernel), List.mem_of_getElem? (i := 1164) (by decide +kernel)⟩
theorem lw_p54 : lw_okq (⟨"KeepCountModel", "ranksBy", "(III)I"⟩, 69) := ⟨⟨by decide +kernel, by decide +kernel⟩, List.mem_of_getElem? (i := 773) (by decide +kernel), List.mem_of_getElem? (i := 1186) (by decide +kernel), List.mem_of_getElem? (i := 1187) (by decide +kernel)⟩
theorem lw_p55 : lw_okq (⟨"KeepCountModel", "isBefore", "(III)Z"⟩, 69) := ⟨⟨by decide +kernel, by decide +kernel⟩, List.mem_of_getElem? (i := 773) (by decide +kernel), List.mem_of_getElem? (i := 1190) (by decide +kernel), List.mem_of_getElem? (i := 1191) (by decide +kernel)⟩
theorem lw_p56 : lw_okq (⟨"KeepCountModel", "isTwo", "(II)Z"⟩, 69) := ⟨⟨by decide +kernel, by decide +kernel⟩, List.mem_of_getElem? (i := 773) (by decide +kernel), List.mem_of_getElem? (i := 1206) (by decide +kernel), List.mem_of_getElem? (i := 1207) (by decide +kernel)⟩
theorem lw_p57 : lw_okq (⟨"KeepCountModel", "preferredTo", "(II)I"⟩, 69) := ⟨⟨by decide +kernel, by decide +kernel⟩, List.mem_of_getElem? (i := 773) (by decide +kernel), List.mem_of_getElem? (i := 1210) (by decide +kernel), List.mem_of_getElem? (i := 1211) (by decide +kernel)⟩
theorem lw_p58 : lw_okq (⟨"KeepCountModel", "isBest", "(I)Z"⟩, 69) := ⟨⟨by decide +kernel, by decide +kernel⟩, List.mem_of_getElem? (i := 773) (by decide +kernel), List.mem_of_getElem? (i := 1218) (by decide +kernel), List.mem_of_getElem? (i := 1219) (by decide +kernel)⟩
theorem lw_p59 : lw_okq (⟨"KeepCountModel", "isAsSeen", "()Z"⟩, 69) := ⟨⟨by decide +kernel, by decide +kernel⟩, List.mem_of_getElem? (i := 773) (by decide +kernel), List.mem_of_getElem? (i := 1250) (by decide +kernel), List.mem_of_getElem? (i := 1251) (by decide +kernel)⟩
theorem lw_p60 : lw_okq (⟨"KeepCountModel", "happens", "(II)V"⟩, 69) := ⟨⟨by decide +kernel, by decide +kernel⟩, List.mem_of_getElem? (i := 773) (by decide +kernel), List.mem_of_getElem? (i := 1262) (by decide +kernel), List.mem_of_getElem? (i := 1263) (by decide +kernel)⟩
theorem lw_p61 : lw_okq (⟨"KeepCountModel", "clauseRead", "()V"⟩, 69) := ⟨⟨by decide +kernel, by decide +kernel⟩, List.mem_of_getElem? (i := 773) (by decide +kernel), List.mem_of_getElem? (i := 1275) (by decide +kernel), List.mem_of_getElem? (i := 1276) (by decide +kernel)⟩
theorem lw_p62 : lw_okq (⟨"KeepCountModel", "signAt", "(I)I"⟩, 69) := ⟨⟨by decide +kernel, by decide +kernel⟩, List.mem_of_getElem? (i := 773) (by decide +kernel), List.mem_of_getElem? (i := 1279) (by decide +kernel), List.mem_of_getElem? (i := 1280) (by decide +kernel)⟩
theorem lw_p63 : lw_okq (⟨"KeepCountModel", "fails", "(Z)V"⟩, 69) := ⟨⟨by decide +kernel, by decide +kernel⟩, List.mem_of_getElem? (i := 773) (by decide +kernel), List.mem_of_getElem? (i := 1283) (by decide +kernel), List.mem_of_getElem? (i := 1284) (by decide +kernel)⟩
def lw_privs_4 : List (MethodName × Nat) := [(⟨"KeepCountModel", "elects", "()Z"⟩, 69), (⟨"KeepCountModel", "worst", "()I"⟩, 69), (⟨"KeepCountModel", "goesRather", "(II)Z"⟩, 69), (⟨"KeepCountModel", "firstMany", "(I)I"⟩, 69), (⟨"KeepCountModel", "electedSet", "()I"⟩, 69), (⟨"KeepCountModel", "isStage", "(I)Z"⟩, 69), (⟨"KeepCountModel", "ranksBy", "(III)I"⟩, 69), (⟨"KeepCountModel", "isBefore", "(III)Z"⟩, 69), (⟨"KeepCountModel", "isTwo", "(II)Z"⟩, 69), (⟨"KeepCountModel", "preferredTo", "(II)I"⟩, 69), (⟨"KeepCountModel", "isBest", "(I)Z"⟩, 69), (⟨"KeepCountModel", "isAsSeen", "()Z"⟩, 69), (⟨"KeepCountModel", "happens", "(II)V"⟩, 69), (⟨"KeepCountModel", "clauseRead", "()V"⟩, 69), (⟨"KeepCountModel", "signAt", "(I)I"⟩, 69), (⟨"KeepCountModel", "fails", "(Z)V"⟩, 69)]
theorem lw_r4 : ∀ q ∈ lw_privs_4, lw_okq q := List.forall_mem_cons.mpr ⟨lw_p48, List.forall_mem_cons.mpr ⟨lw_p49, List.forall_mem_cons.mpr ⟨lw_p50, List.forall_mem_cons.mpr ⟨lw_p51, List.forall_mem_cons.mpr ⟨lw_p52, List.forall_mem_cons.mpr ⟨lw_p53, List.forall_mem_cons.mpr ⟨lw_p54, List.forall_mem_cons.mpr ⟨lw_p55, List.forall_mem_cons.mpr ⟨lw_p56, List.forall_mem_cons.mpr ⟨lw_p57, List.forall_mem_cons.mpr ⟨lw_p58, List.forall_mem_cons.mpr ⟨lw_p59, List.forall_mem_cons.mpr ⟨lw_p60, List.forall_mem_cons.mpr ⟨lw_p61, List.forall_mem_cons.mpr ⟨lw_p62, List.forall_mem_cons.mpr ⟨lw_p63, fun _ h => absurd h List.not_mem_nil⟩⟩⟩⟩⟩⟩⟩⟩⟩⟩⟩⟩⟩⟩⟩⟩
theorem lw_p64 : lw_okq (⟨"KeepCountModel", "numberRead", "(I)I"⟩, 69) := ⟨⟨by decide +kernel, by decide +kernel⟩, List.mem_of_getElem? (i := 773) (by decide +kernel), List.mem_of_getElem? (i := 1287) (by decide +kernel), List.mem_of_getElem? (i := 1288) (by decide +kernel)⟩
theorem lw_p65 : lw_okq (⟨"KeepCountModel", "faulty", "()I"⟩, 69) := ⟨⟨by decide +kernel, by decide +kernel⟩, List.mem_of_getElem? (i := 773) (by decide +kernel), List.mem_of_getElem? (i := 1293) (by decide +kernel), List.mem_of_getElem? (i := 1294) (by decide +kernel)⟩
theorem lw_p66 : lw_okq (⟨"KeepCountModel", "done", "(I)I"⟩, 69) := ⟨⟨by decide +kernel, by decide +kernel⟩, List.mem_of_getElem? (i := 773) (by decide +kernel), List.mem_of_getElem? (i := 1297) (by decide +kernel), List.mem_of_getElem? (i := 1298) (by decide +kernel)⟩
theorem lw_p67 : lw_okq (⟨"KeepCountModel", "refusal", "(II)I"⟩, 69) := ⟨⟨by decide +kernel, by decide +kernel⟩, List.mem_of_getElem? (i := 773) (by decide +kernel), List.mem_of_getElem? (i := 1339) (by decide +kernel), List.mem_of_getElem? (i := 1340) (by decide +kernel)⟩
def lw_privs_5 : List (MethodName × Nat) := [(⟨"KeepCountModel", "numberRead", "(I)I"⟩, 69), (⟨"KeepCountModel", "faulty", "()I"⟩, 69), (⟨"KeepCountModel", "done", "(I)I"⟩, 69), (⟨"KeepCountModel", "refusal", "(II)I"⟩, 69)]
theorem lw_r5 : ∀ q ∈ lw_privs_5, lw_okq q := List.forall_mem_cons.mpr ⟨lw_p64, List.forall_mem_cons.mpr ⟨lw_p65, List.forall_mem_cons.mpr ⟨lw_p66, List.forall_mem_cons.mpr ⟨lw_p67, fun _ h => absurd h List.not_mem_nil⟩⟩⟩⟩
def lw_privs : List (MethodName × Nat) := lw_privs_1 ++ (lw_privs_2 ++ (lw_privs_3 ++ (lw_privs_4 ++ (lw_privs_5))))
def lw_tbl : List Cond := k2_sels lw_privs ++ tables_1
theorem lw_privs_ok : ∀ q ∈ lw_privs, lw_okq q := by
  show ∀ q ∈ lw_privs_1 ++ (lw_privs_2 ++ (lw_privs_3 ++ (lw_privs_4 ++ (lw_privs_5)))), lw_okq q
  exact List.forall_mem_append.mpr ⟨lw_r1, List.forall_mem_append.mpr ⟨lw_r2, List.forall_mem_append.mpr ⟨lw_r3, List.forall_mem_append.mpr ⟨lw_r4, lw_r5⟩⟩⟩⟩
theorem mem_ps {big ws : List Cond} (ps : List Nat) (hp : ws = ps.filterMap (fun i => big[i]?)) : ∀ w ∈ ws, w ∈ big := by
  intro w hw
  rw [hp] at hw
  obtain ⟨i, -, hi⟩ := List.mem_filterMap.mp hw
  exact List.mem_of_getElem? hi
theorem at_tbl {w : Cond} (i : Nat) (h : lw_tbl[i]? = some w) : w ∈ lw_tbl := List.mem_of_getElem? h
def RX0 : String := "KeepCount$Piles"
def TX0 : u_T := fun k => match k with
  | 0 => ("KeepCount$Piles", "size", "I", false)
  | 1 => ("KeepCount$Piles", "row", "[I", true)
  | _ => ("KeepCount$Piles", "heap", "[I", true)
def tyX0 : Nat → FieldType := fun k => match k with
  | 0 => .int
  | 1 => .array .int
  | _ => .array .int
abbrev wsX00 : List Cond := u_ws RX0 TX0 3
theorem nmX0 : ∀ a, a < 3 → ∀ b, b < 3 → a ≠ b → (TX0 a).2.1 ≠ (TX0 b).2.1 := by decide +kernel
theorem tyX0_ok : ∀ k, k < 3 → parseFieldDescriptor (TX0 k).2.2.1 = some (tyX0 k) := by decide +kernel
abbrev cX0_init : ByteArray := prog_2_method_1_code
def yX0_init : MethodName := ⟨RX0, "<init>", "()V"⟩
abbrev cX0_gather : ByteArray := prog_2_method_2_code
def yX0_gather : MethodName := ⟨RX0, "gather", "(LKeepCount$Poll;)V"⟩
abbrev cX0_put : ByteArray := prog_2_method_3_code
def yX0_put : MethodName := ⟨RX0, "put", "(II)V"⟩
def RX1 : String := "KeepCount$Poll"
def TX1 : u_T := fun k => match k with
  | 0 => ("KeepCount$Poll", "candidates", "I", false)
  | 1 => ("KeepCount$Poll", "lot", "[I", true)
  | 2 => ("KeepCount$Poll", "away", "[Z", true)
  | 3 => ("KeepCount$Poll", "ballots", "I", false)
  | 4 => ("KeepCount$Poll", "row", "[I", true)
  | 5 => ("KeepCount$Poll", "heap", "[I", true)
  | 6 => ("KeepCount$Poll", "seats", "I", false)
  | 7 => ("KeepCount$Poll", "limit", "I", false)
  | 8 => ("KeepCount$Poll", "rounds", "I", false)
  | 9 => ("KeepCount$Poll", "seen", "I", false)
  | 10 => ("KeepCount$Poll", "seenWho", "[I", true)
  | 11 => ("KeepCount$Poll", "seenIs", "[Z", true)
  | 12 => ("KeepCount$Poll", "events", "I", false)
  | 13 => ("KeepCount$Poll", "eventWhat", "[I", true)
  | _ => ("KeepCount$Poll", "eventNumber", "[I", true)
def tyX1 : Nat → FieldType := fun k => match k with
  | 0 => .int
  | 1 => .array .int
  | 2 => .array .boolean
  | 3 => .int
  | 4 => .array .int
  | 5 => .array .int
  | 6 => .int
  | 7 => .int
  | 8 => .int
  | 9 => .int
  | 10 => .array .int
  | 11 => .array .boolean
  | 12 => .int
  | 13 => .array .int
  | _ => .array .int
abbrev wsX10 : List Cond := u_ws RX1 TX1 15
theorem nmX1 : ∀ a, a < 15 → ∀ b, b < 15 → a ≠ b → (TX1 a).2.1 ≠ (TX1 b).2.1 := by decide +kernel
theorem tyX1_ok : ∀ k, k < 15 → parseFieldDescriptor (TX1 k).2.2.1 = some (tyX1 k) := by decide +kernel
abbrev cX1_init : ByteArray := prog_3_method_1_code
def yX1_init : MethodName := ⟨RX1, "<init>", "()V"⟩
abbrev cX1_copyFrom : ByteArray := prog_3_method_2_code
def yX1_copyFrom : MethodName := ⟨RX1, "copyFrom", "(LKeepCount$Poll;)V"⟩
abbrev cX1_hasCandidate : ByteArray := prog_3_method_3_code
def yX1_hasCandidate : MethodName := ⟨RX1, "hasCandidate", "(I)Z"⟩
abbrev cX1_hasBallot : ByteArray := prog_3_method_4_code
def yX1_hasBallot : MethodName := ⟨RX1, "hasBallot", "(I)Z"⟩
abbrev cX1_together : ByteArray := prog_3_method_5_code
def yX1_together : MethodName := ⟨RX1, "together", "()J"⟩
abbrev cX1_placeInLot : ByteArray := prog_3_method_6_code
def yX1_placeInLot : MethodName := ⟨RX1, "placeInLot", "(I)I"⟩
abbrev cX1_firstHere : ByteArray := prog_3_method_7_code
def yX1_firstHere : MethodName := ⟨RX1, "firstHere", "(I)I"⟩
abbrev cX1_manyFirst : ByteArray := prog_3_method_8_code
def yX1_manyFirst : MethodName := ⟨RX1, "manyFirst", "(I)I"⟩
abbrev cX1_manyAhead : ByteArray := prog_3_method_9_code
def yX1_manyAhead : MethodName := ⟨RX1, "manyAhead", "(II)I"⟩
abbrev cX1_isSeenSo : ByteArray := prog_3_method_10_code
def yX1_isSeenSo : MethodName := ⟨RX1, "isSeenSo", "(I)Z"⟩
abbrev cX1_suffer : ByteArray := prog_3_method_11_code
def yX1_suffer : MethodName := ⟨RX1, "suffer", "(II)V"⟩
abbrev cX1_emptyLedBy : ByteArray := prog_3_method_12_code
def yX1_emptyLedBy : MethodName := ⟨RX1, "emptyLedBy", "(I)V"⟩
def RX2 : String := "KeepCount$Row"
def TX2 : u_T := fun k => match k with
  | _ => ("", "", "", false)
def tyX2 : Nat → FieldType := fun k => match k with
  | _ => .int
abbrev wsX20 : List Cond := u_ws RX2 TX2 0
theorem nmX2 : ∀ a, a < 0 → ∀ b, b < 0 → a ≠ b → (TX2 a).2.1 ≠ (TX2 b).2.1 := by decide +kernel
theorem tyX2_ok : ∀ k, k < 0 → parseFieldDescriptor (TX2 k).2.2.1 = some (tyX2 k) := by decide +kernel
abbrev cX2_isRow : ByteArray := prog_4_method_2_code
def yX2_isRow : MethodName := ⟨RX2, "isRow", "(II)Z"⟩
abbrev cX2_filledUp : ByteArray := prog_4_method_3_code
def yX2_filledUp : MethodName := ⟨RX2, "filledUp", "(I)I"⟩
abbrev cX2_asTold : ByteArray := prog_4_method_4_code
def yX2_asTold : MethodName := ⟨RX2, "asTold", "(I)I"⟩
abbrev cX2_at : ByteArray := prog_4_method_5_code
def yX2_at : MethodName := ⟨RX2, "at", "(II)I"⟩
abbrev cX2_length : ByteArray := prog_4_method_6_code
def yX2_length : MethodName := ⟨RX2, "length", "(I)I"⟩
abbrev cX2_placeOf : ByteArray := prog_4_method_7_code
def yX2_placeOf : MethodName := ⟨RX2, "placeOf", "(II)I"⟩
abbrev cX2_leftOf : ByteArray := prog_4_method_8_code
def yX2_leftOf : MethodName := ⟨RX2, "leftOf", "(I[Z)I"⟩
abbrev cX2_ledBy : ByteArray := prog_4_method_9_code
def yX2_ledBy : MethodName := ⟨RX2, "ledBy", "(II)I"⟩
def RX3 : String := "KeepCount$Stage"
def TX3 : u_T := fun k => match k with
  | 0 => ("KeepCount$Stage", "rounds", "I", false)
  | 1 => ("KeepCount$Stage", "out", "I", false)
  | 2 => ("KeepCount$Stage", "in", "I", false)
  | 3 => ("KeepCount$Stage", "quota", "J", false)
  | 4 => ("KeepCount$Stage", "excess", "J", false)
  | 5 => ("KeepCount$Stage", "surplus", "J", false)
  | 6 => ("KeepCount$Stage", "total", "J", false)
  | 7 => ("KeepCount$Stage", "got", "[J", true)
  | _ => ("KeepCount$Stage", "keep", "[J", true)
def tyX3 : Nat → FieldType := fun k => match k with
  | 0 => .int
  | 1 => .int
  | 2 => .int
  | 3 => .long
  | 4 => .long
  | 5 => .long
  | 6 => .long
  | 7 => .array .long
  | _ => .array .long
abbrev wsX30 : List Cond := u_ws RX3 TX3 9
theorem nmX3 : ∀ a, a < 9 → ∀ b, b < 9 → a ≠ b → (TX3 a).2.1 ≠ (TX3 b).2.1 := by decide +kernel
theorem tyX3_ok : ∀ k, k < 9 → parseFieldDescriptor (TX3 k).2.2.1 = some (tyX3 k) := by decide +kernel
abbrev cX3_init : ByteArray := prog_5_method_1_code
def yX3_init : MethodName := ⟨RX3, "<init>", "()V"⟩
def RX4 : String := "KeepCount$Tally"
def TX4 : u_T := fun k => match k with
  | 0 => ("KeepCount$Tally", "poll", "LKeepCount$Poll;", true)
  | 1 => ("KeepCount$Tally", "piles", "LKeepCount$Piles;", true)
  | 2 => ("KeepCount$Tally", "fate", "[I", true)
  | 3 => ("KeepCount$Tally", "when", "[I", true)
  | 4 => ("KeepCount$Tally", "order", "[I", true)
  | 5 => ("KeepCount$Tally", "elects", "I", false)
  | 6 => ("KeepCount$Tally", "hopefuls", "I", false)
  | 7 => ("KeepCount$Tally", "stages", "I", false)
  | 8 => ("KeepCount$Tally", "stage", "[LKeepCount$Stage;", true)
  | 9 => ("KeepCount$Tally", "keep", "[J", true)
  | 10 => ("KeepCount$Tally", "got", "[J", true)
  | 11 => ("KeepCount$Tally", "quota", "J", false)
  | 12 => ("KeepCount$Tally", "excess", "J", false)
  | _ => ("KeepCount$Tally", "total", "J", false)
def tyX4 : Nat → FieldType := fun k => match k with
  | 0 => .object "KeepCount$Poll"
  | 1 => .object "KeepCount$Piles"
  | 2 => .array .int
  | 3 => .array .int
  | 4 => .array .int
  | 5 => .int
  | 6 => .int
  | 7 => .int
  | 8 => .array (.object "KeepCount$Stage")
  | 9 => .array .long
  | 10 => .array .long
  | 11 => .long
  | 12 => .long
  | _ => .long
abbrev wsX40 : List Cond := u_ws RX4 TX4 14
theorem nmX4 : ∀ a, a < 14 → ∀ b, b < 14 → a ≠ b → (TX4 a).2.1 ≠ (TX4 b).2.1 := by decide +kernel
theorem tyX4_ok : ∀ k, k < 14 → parseFieldDescriptor (TX4 k).2.2.1 = some (tyX4 k) := by decide +kernel
abbrev cX4_init : ByteArray := prog_6_method_1_code
def yX4_init : MethodName := ⟨RX4, "<init>", "(LKeepCount$Poll;)V"⟩
abbrev cX4_stageAt : ByteArray := prog_6_method_2_code
def yX4_stageAt : MethodName := ⟨RX4, "stageAt", "(I)LKeepCount$Stage;"⟩
abbrev cX4_work : ByteArray := prog_6_method_3_code
def yX4_work : MethodName := ⟨RX4, "work", "()V"⟩
abbrev cX4_begin : ByteArray := prog_6_method_4_code
def yX4_begin : MethodName := ⟨RX4, "begin", "()V"⟩
abbrev cX4_fill : ByteArray := prog_6_method_5_code
def yX4_fill : MethodName := ⟨RX4, "fill", "(LKeepCount$Stage;)V"⟩
abbrev cX4_goByRounds : ByteArray := prog_6_method_6_code
def yX4_goByRounds : MethodName := ⟨RX4, "goByRounds", "(LKeepCount$Stage;Z)V"⟩
abbrev cX4_turnKeeps : ByteArray := prog_6_method_7_code
def yX4_turnKeeps : MethodName := ⟨RX4, "turnKeeps", "()V"⟩
abbrev cX4_workOut : ByteArray := prog_6_method_8_code
def yX4_workOut : MethodName := ⟨RX4, "workOut", "()V"⟩
abbrev cX4_passOn : ByteArray := prog_6_method_9_code
def yX4_passOn : MethodName := ⟨RX4, "passOn", "(IJ)J"⟩
abbrev cX4_surplus : ByteArray := prog_6_method_10_code
def yX4_surplus : MethodName := ⟨RX4, "surplus", "()J"⟩
abbrev cX4_note : ByteArray := prog_6_method_11_code
def yX4_note : MethodName := ⟨RX4, "note", "(LKeepCount$Stage;IJ)V"⟩
abbrev cX4_whoReachesQuota : ByteArray := prog_6_method_12_code
def yX4_whoReachesQuota : MethodName := ⟨RX4, "whoReachesQuota", "()I"⟩
abbrev cX4_elect : ByteArray := prog_6_method_13_code
def yX4_elect : MethodName := ⟨RX4, "elect", "(LKeepCount$Stage;I)V"⟩
abbrev cX4_exclude : ByteArray := prog_6_method_14_code
def yX4_exclude : MethodName := ⟨RX4, "exclude", "(LKeepCount$Stage;)V"⟩
abbrev cX4_whoHasFewest : ByteArray := prog_6_method_15_code
def yX4_whoHasFewest : MethodName := ⟨RX4, "whoHasFewest", "([JI)I"⟩
abbrev cX4_lastInLot : ByteArray := prog_6_method_16_code
def yX4_lastInLot : MethodName := ⟨RX4, "lastInLot", "(I)I"⟩
abbrev cX4_whoIs : ByteArray := prog_6_method_17_code
def yX4_whoIs : MethodName := ⟨RX4, "whoIs", "(I)I"⟩
abbrev cX4_whoIsHere : ByteArray := prog_6_method_18_code
def yX4_whoIsHere : MethodName := ⟨RX4, "whoIsHere", "()I"⟩
abbrev cX4_leader : ByteArray := prog_6_method_19_code
def yX4_leader : MethodName := ⟨RX4, "leader", "([JII)I"⟩
abbrev cX4_rankAt : ByteArray := prog_6_method_20_code
def yX4_rankAt : MethodName := ⟨RX4, "rankAt", "(I)I"⟩
def RX5 : String := "KeepCount$Tape"
def TX5 : u_T := fun k => match k with
  | 0 => ("KeepCount$Tape", "sort", "I", false)
  | 1 => ("KeepCount$Tape", "size", "I", false)
  | _ => ("KeepCount$Tape", "items", "[J", true)
def tyX5 : Nat → FieldType := fun k => match k with
  | 0 => .int
  | 1 => .int
  | _ => .array .long
abbrev wsX50 : List Cond := u_ws RX5 TX5 3
theorem nmX5 : ∀ a, a < 3 → ∀ b, b < 3 → a ≠ b → (TX5 a).2.1 ≠ (TX5 b).2.1 := by decide +kernel
theorem tyX5_ok : ∀ k, k < 3 → parseFieldDescriptor (TX5 k).2.2.1 = some (tyX5 k) := by decide +kernel
abbrev cX5_init : ByteArray := prog_7_method_1_code
def yX5_init : MethodName := ⟨RX5, "<init>", "()V"⟩
abbrev cX5_become : ByteArray := prog_7_method_2_code
def yX5_become : MethodName := ⟨RX5, "become", "(II)V"⟩
abbrev cX5_fitted : ByteArray := prog_7_method_3_code
def yX5_fitted : MethodName := ⟨RX5, "fitted", "(J)J"⟩
abbrev cX5_hasRoom : ByteArray := prog_7_method_4_code
def yX5_hasRoom : MethodName := ⟨RX5, "hasRoom", "(II)Z"⟩
def RX6 : String := "KeepCount$Text"
def TX6 : u_T := fun k => match k with
  | 0 => ("KeepCount$Text", "size", "I", false)
  | 1 => ("KeepCount$Text", "signs", "[I", true)
  | 2 => ("KeepCount$Text", "clauses", "I", false)
  | 3 => ("KeepCount$Text", "kind", "[I", true)
  | 4 => ("KeepCount$Text", "first", "[I", true)
  | 5 => ("KeepCount$Text", "second", "[I", true)
  | 6 => ("KeepCount$Text", "place", "I", false)
  | _ => ("KeepCount$Text", "lacksNumber", "Z", false)
def tyX6 : Nat → FieldType := fun k => match k with
  | 0 => .int
  | 1 => .array .int
  | 2 => .int
  | 3 => .array .int
  | 4 => .array .int
  | 5 => .array .int
  | 6 => .int
  | _ => .boolean
abbrev wsX60 : List Cond := u_ws RX6 TX6 8
theorem nmX6 : ∀ a, a < 8 → ∀ b, b < 8 → a ≠ b → (TX6 a).2.1 ≠ (TX6 b).2.1 := by decide +kernel
theorem tyX6_ok : ∀ k, k < 8 → parseFieldDescriptor (TX6 k).2.2.1 = some (tyX6 k) := by decide +kernel
abbrev cX6_init : ByteArray := prog_8_method_1_code
def yX6_init : MethodName := ⟨RX6, "<init>", "()V"⟩
abbrev cX6_sign : ByteArray := prog_8_method_2_code
def yX6_sign : MethodName := ⟨RX6, "sign", "()I"⟩
abbrev cX6_faultToldTo : ByteArray := prog_8_method_3_code
def yX6_faultToldTo : MethodName := ⟨RX6, "faultToldTo", "(LKeepCount$Trouble;)I"⟩
abbrev cX6_readsClause : ByteArray := prog_8_method_4_code
def yX6_readsClause : MethodName := ⟨RX6, "readsClause", "(I)Z"⟩
abbrev cX6_readsBallot : ByteArray := prog_8_method_5_code
def yX6_readsBallot : MethodName := ⟨RX6, "readsBallot", "(I)Z"⟩
abbrev cX6_number : ByteArray := prog_8_method_6_code
def yX6_number : MethodName := ⟨RX6, "number", "(I)I"⟩
def RX7 : String := "KeepCount$Trouble"
def TX7 : u_T := fun k => match k with
  | 0 => ("KeepCount$Trouble", "size", "I", false)
  | 1 => ("KeepCount$Trouble", "sort", "[I", true)
  | _ => ("KeepCount$Trouble", "number", "[I", true)
def tyX7 : Nat → FieldType := fun k => match k with
  | 0 => .int
  | 1 => .array .int
  | _ => .array .int
abbrev wsX70 : List Cond := u_ws RX7 TX7 3
theorem nmX7 : ∀ a, a < 3 → ∀ b, b < 3 → a ≠ b → (TX7 a).2.1 ≠ (TX7 b).2.1 := by decide +kernel
theorem tyX7_ok : ∀ k, k < 3 → parseFieldDescriptor (TX7 k).2.2.1 = some (tyX7 k) := by decide +kernel
abbrev cX7_init : ByteArray := prog_9_method_1_code
def yX7_init : MethodName := ⟨RX7, "<init>", "()V"⟩
abbrev cX7_begin : ByteArray := prog_9_method_2_code
def yX7_begin : MethodName := ⟨RX7, "begin", "(II)V"⟩
abbrev cX7_addCause : ByteArray := prog_9_method_3_code
def yX7_addCause : MethodName := ⟨RX7, "addCause", "(II)V"⟩
def RX8 : String := "KeepCount"
def TX8 : u_T := fun k => match k with
  | 0 => ("KeepCount", "poll", "LKeepCount$Poll;", true)
  | 1 => ("KeepCount", "thought", "LKeepCount$Poll;", true)
  | 2 => ("KeepCount", "picture", "LKeepCount$Poll;", true)
  | 3 => ("KeepCount", "pictured", "Z", false)
  | 4 => ("KeepCount", "pollTally", "LKeepCount$Tally;", true)
  | 5 => ("KeepCount", "thoughtTally", "LKeepCount$Tally;", true)
  | 6 => ("KeepCount", "fresh", "Z", false)
  | 7 => ("KeepCount", "text", "LKeepCount$Text;", true)
  | 8 => ("KeepCount", "trouble", "LKeepCount$Trouble;", true)
  | _ => ("KeepCount", "tapes", "[LKeepCount$Tape;", true)
def tyX8 : Nat → FieldType := fun k => match k with
  | 0 => .object "KeepCount$Poll"
  | 1 => .object "KeepCount$Poll"
  | 2 => .object "KeepCount$Poll"
  | 3 => .boolean
  | 4 => .object "KeepCount$Tally"
  | 5 => .object "KeepCount$Tally"
  | 6 => .boolean
  | 7 => .object "KeepCount$Text"
  | 8 => .object "KeepCount$Trouble"
  | _ => .array (.object "KeepCount$Tape")
abbrev wsX80 : List Cond := u_ws RX8 TX8 10
theorem nmX8 : ∀ a, a < 10 → ∀ b, b < 10 → a ≠ b → (TX8 a).2.1 ≠ (TX8 b).2.1 := by decide +kernel
theorem tyX8_ok : ∀ k, k < 10 → parseFieldDescriptor (TX8 k).2.2.1 = some (tyX8 k) := by decide +kernel
abbrev cX8_init : ByteArray := prog_1_method_1_code
def yX8_init : MethodName := ⟨RX8, "<init>", "()V"⟩
abbrev cX8_candidate : ByteArray := prog_1_method_2_code
def yX8_candidate : MethodName := ⟨RX8, "candidate", "()I"⟩
abbrev cX8_ballot : ByteArray := prog_1_method_3_code
def yX8_ballot : MethodName := ⟨RX8, "ballot", "(II)I"⟩
abbrev cX8_many : ByteArray := prog_1_method_4_code
def yX8_many : MethodName := ⟨RX8, "many", "(II)I"⟩
abbrev cX8_drop : ByteArray := prog_1_method_5_code
def yX8_drop : MethodName := ⟨RX8, "drop", "()I"⟩
abbrev cX8_gone : ByteArray := prog_1_method_6_code
def yX8_gone : MethodName := ⟨RX8, "gone", "(IZ)I"⟩
abbrev cX8_set : ByteArray := prog_1_method_7_code
def yX8_set : MethodName := ⟨RX8, "set", "(II)I"⟩
abbrev cX8_putSeats : ByteArray := prog_1_method_8_code
def yX8_putSeats : MethodName := ⟨RX8, "putSeats", "(I)I"⟩
abbrev cX8_putLimit : ByteArray := prog_1_method_9_code
def yX8_putLimit : MethodName := ⟨RX8, "putLimit", "(I)I"⟩
abbrev cX8_putRounds : ByteArray := prog_1_method_10_code
def yX8_putRounds : MethodName := ⟨RX8, "putRounds", "(I)I"⟩
abbrev cX8_swap : ByteArray := prog_1_method_11_code
def yX8_swap : MethodName := ⟨RX8, "swap", "(II)I"⟩
abbrev cX8_isOver : ByteArray := prog_1_method_12_code
def yX8_isOver : MethodName := ⟨RX8, "isOver", "(II)Z"⟩
abbrev cX8_tallied : ByteArray := prog_1_method_13_code
def yX8_tallied : MethodName := ⟨RX8, "tallied", "()LKeepCount$Tally;"⟩
abbrev cX8_of : ByteArray := prog_1_method_14_code
def yX8_of : MethodName := ⟨RX8, "of", "(II)I"⟩
abbrev cX8_ballotOf : ByteArray := prog_1_method_15_code
def yX8_ballotOf : MethodName := ⟨RX8, "ballotOf", "(II)I"⟩
abbrev cX8_rowOf : ByteArray := prog_1_method_16_code
def yX8_rowOf : MethodName := ⟨RX8, "rowOf", "(II)I"⟩
abbrev cX8_told : ByteArray := prog_1_method_17_code
def yX8_told : MethodName := ⟨RX8, "told", "(I)I"⟩
abbrev cX8_stageOf : ByteArray := prog_1_method_18_code
def yX8_stageOf : MethodName := ⟨RX8, "stageOf", "(II)I"⟩
abbrev cX8_amount : ByteArray := prog_1_method_19_code
def yX8_amount : MethodName := ⟨RX8, "amount", "(II)J"⟩
abbrev cX8_votes : ByteArray := prog_1_method_20_code
def yX8_votes : MethodName := ⟨RX8, "votes", "(III)J"⟩
abbrev cX8_elected : ByteArray := prog_1_method_21_code
def yX8_elected : MethodName := ⟨RX8, "elected", "(I)I"⟩
abbrev cX8_ranked : ByteArray := prog_1_method_22_code
def yX8_ranked : MethodName := ⟨RX8, "ranked", "(I)I"⟩
abbrev cX8_standing : ByteArray := prog_1_method_23_code
def yX8_standing : MethodName := ⟨RX8, "standing", "(II)I"⟩
abbrev cX8_pile : ByteArray := prog_1_method_24_code
def yX8_pile : MethodName := ⟨RX8, "pile", "(II)I"⟩
abbrev cX8_preferred : ByteArray := prog_1_method_25_code
def yX8_preferred : MethodName := ⟨RX8, "preferred", "(II)I"⟩
abbrev cX8_best : ByteArray := prog_1_method_26_code
def yX8_best : MethodName := ⟨RX8, "best", "()I"⟩
abbrev cX8_beatsAll : ByteArray := prog_1_method_27_code
def yX8_beatsAll : MethodName := ⟨RX8, "beatsAll", "(I)Z"⟩
abbrev cX8_share : ByteArray := prog_1_method_28_code
def yX8_share : MethodName := ⟨RX8, "share", "(III)J"⟩
abbrev cX8_commonDivisor : ByteArray := prog_1_method_29_code
def yX8_commonDivisor : MethodName := ⟨RX8, "commonDivisor", "(JJ)J"⟩
abbrev cX8_cut : ByteArray := prog_1_method_30_code
def yX8_cut : MethodName := ⟨RX8, "cut", "(JJ)J"⟩
abbrev cX8_electedInThought : ByteArray := prog_1_method_31_code
def yX8_electedInThought : MethodName := ⟨RX8, "electedInThought", "()I"⟩
abbrev cX8_without : ByteArray := prog_1_method_32_code
def yX8_without : MethodName := ⟨RX8, "without", "(I)I"⟩
abbrev cX8_raised : ByteArray := prog_1_method_33_code
def yX8_raised : MethodName := ⟨RX8, "raised", "(II)I"⟩
abbrev cX8_needs : ByteArray := prog_1_method_34_code
def yX8_needs : MethodName := ⟨RX8, "needs", "(II)I"⟩
abbrev cX8_see : ByteArray := prog_1_method_35_code
def yX8_see : MethodName := ⟨RX8, "see", "(IZ)I"⟩
abbrev cX8_fits : ByteArray := prog_1_method_36_code
def yX8_fits : MethodName := ⟨RX8, "fits", "(I)I"⟩
abbrev cX8_event : ByteArray := prog_1_method_37_code
def yX8_event : MethodName := ⟨RX8, "event", "(II)I"⟩
abbrev cX8_after : ByteArray := prog_1_method_38_code
def yX8_after : MethodName := ⟨RX8, "after", "()I"⟩
abbrev cX8_feed : ByteArray := prog_1_method_39_code
def yX8_feed : MethodName := ⟨RX8, "feed", "(I)I"⟩
abbrev cX8_read : ByteArray := prog_1_method_40_code
def yX8_read : MethodName := ⟨RX8, "read", "()I"⟩
abbrev cX8_isDone : ByteArray := prog_1_method_41_code
def yX8_isDone : MethodName := ⟨RX8, "isDone", "(III)Z"⟩
abbrev cX8_cause : ByteArray := prog_1_method_42_code
def yX8_cause : MethodName := ⟨RX8, "cause", "(II)I"⟩
abbrev cX8_tapeAt : ByteArray := prog_1_method_43_code
def yX8_tapeAt : MethodName := ⟨RX8, "tapeAt", "(I)LKeepCount$Tape;"⟩
abbrev cX8_judge : ByteArray := prog_1_method_44_code
def yX8_judge : MethodName := ⟨RX8, "judge", "(III)I"⟩
abbrev cX8_image : ByteArray := prog_1_method_45_code
def yX8_image : MethodName := ⟨RX8, "image", "()I"⟩
abbrev cX8_undo : ByteArray := prog_1_method_46_code
def yX8_undo : MethodName := ⟨RX8, "undo", "()I"⟩
abbrev cX8_count : ByteArray := prog_1_method_47_code
def yX8_count : MethodName := ⟨RX8, "count", "(I)I"⟩
abbrev cX8_tape : ByteArray := prog_1_method_48_code
def yX8_tape : MethodName := ⟨RX8, "tape", "(III)I"⟩
abbrev cX8_item : ByteArray := prog_1_method_49_code
def yX8_item : MethodName := ⟨RX8, "item", "(IIJ)I"⟩
abbrev cX8_peek : ByteArray := prog_1_method_50_code
def yX8_peek : MethodName := ⟨RX8, "peek", "(II)J"⟩
abbrev cX8_shift : ByteArray := prog_1_method_51_code
def yX8_shift : MethodName := ⟨RX8, "shift", "(IIIII)I"⟩
def RX9 : String := "KeepCountModel"
def TX9 : u_T := fun k => match k with
  | 0 => ("KeepCountModel", "people", "I", false)
  | 1 => ("KeepCountModel", "ballots", "I", false)
  | 2 => ("KeepCountModel", "isGone", "[Z", true)
  | 3 => ("KeepCountModel", "lot", "[I", true)
  | 4 => ("KeepCountModel", "rows", "[I", true)
  | 5 => ("KeepCountModel", "manies", "[I", true)
  | 6 => ("KeepCountModel", "seats", "I", false)
  | 7 => ("KeepCountModel", "limit", "I", false)
  | 8 => ("KeepCountModel", "rounds", "I", false)
  | 9 => ("KeepCountModel", "seen", "I", false)
  | 10 => ("KeepCountModel", "events", "I", false)
  | 11 => ("KeepCountModel", "seenWho", "[I", true)
  | 12 => ("KeepCountModel", "eventWhat", "[I", true)
  | 13 => ("KeepCountModel", "eventOf", "[I", true)
  | 14 => ("KeepCountModel", "seenSo", "[Z", true)
  | 15 => ("KeepCountModel", "troubles", "I", false)
  | 16 => ("KeepCountModel", "sorts", "[I", true)
  | 17 => ("KeepCountModel", "tells", "[I", true)
  | 18 => ("KeepCountModel", "piles", "I", false)
  | 19 => ("KeepCountModel", "pileRow", "[I", true)
  | 20 => ("KeepCountModel", "pileKey", "[I", true)
  | 21 => ("KeepCountModel", "pileMany", "[I", true)
  | 22 => ("KeepCountModel", "stages", "I", false)
  | 23 => ("KeepCountModel", "electedMany", "I", false)
  | 24 => ("KeepCountModel", "state", "[I", true)
  | 25 => ("KeepCountModel", "keep", "[I", true)
  | 26 => ("KeepCountModel", "stageOfOne", "[I", true)
  | 27 => ("KeepCountModel", "elected", "[I", true)
  | 28 => ("KeepCountModel", "vote", "[J", true)
  | 29 => ("KeepCountModel", "quota", "J", false)
  | 30 => ("KeepCountModel", "excess", "J", false)
  | 31 => ("KeepCountModel", "surplus", "J", false)
  | 32 => ("KeepCountModel", "allVotes", "J", false)
  | 33 => ("KeepCountModel", "votesOf", "[J", true)
  | 34 => ("KeepCountModel", "quotas", "[J", true)
  | 35 => ("KeepCountModel", "excesses", "[J", true)
  | 36 => ("KeepCountModel", "surpluses", "[J", true)
  | 37 => ("KeepCountModel", "wholes", "[J", true)
  | 38 => ("KeepCountModel", "keepsOf", "[I", true)
  | 39 => ("KeepCountModel", "roundsOf", "[I", true)
  | 40 => ("KeepCountModel", "outOf", "[I", true)
  | 41 => ("KeepCountModel", "inOf", "[I", true)
  | 42 => ("KeepCountModel", "ranks", "[I", true)
  | 43 => ("KeepCountModel", "goneWas", "[Z", true)
  | 44 => ("KeepCountModel", "maniesWere", "[I", true)
  | 45 => ("KeepCountModel", "text", "[I", true)
  | 46 => ("KeepCountModel", "texted", "I", false)
  | 47 => ("KeepCountModel", "at", "I", false)
  | 48 => ("KeepCountModel", "fault", "I", false)
  | 49 => ("KeepCountModel", "clauses", "I", false)
  | 50 => ("KeepCountModel", "begun", "I", false)
  | 51 => ("KeepCountModel", "isNumber", "Z", false)
  | 52 => ("KeepCountModel", "words", "[I", true)
  | 53 => ("KeepCountModel", "firsts", "[I", true)
  | 54 => ("KeepCountModel", "seconds", "[I", true)
  | 55 => ("KeepCountModel", "hasImage", "Z", false)
  | 56 => ("KeepCountModel", "imageNumbers", "[I", true)
  | 57 => ("KeepCountModel", "imageLot", "[I", true)
  | 58 => ("KeepCountModel", "imageRows", "[I", true)
  | 59 => ("KeepCountModel", "imageManies", "[I", true)
  | 60 => ("KeepCountModel", "imageWho", "[I", true)
  | 61 => ("KeepCountModel", "imageWhat", "[I", true)
  | 62 => ("KeepCountModel", "imageOf", "[I", true)
  | 63 => ("KeepCountModel", "imageGone", "[Z", true)
  | 64 => ("KeepCountModel", "imageSo", "[Z", true)
  | 65 => ("KeepCountModel", "tapeSort", "[I", true)
  | 66 => ("KeepCountModel", "lengths", "[I", true)
  | 67 => ("KeepCountModel", "items", "[[J", true)
  | _ => ("KeepCountModel", "passed", "[J", true)
def tyX9 : Nat → FieldType := fun k => match k with
  | 0 => .int
  | 1 => .int
  | 2 => .array .boolean
  | 3 => .array .int
  | 4 => .array .int
  | 5 => .array .int
  | 6 => .int
  | 7 => .int
  | 8 => .int
  | 9 => .int
  | 10 => .int
  | 11 => .array .int
  | 12 => .array .int
  | 13 => .array .int
  | 14 => .array .boolean
  | 15 => .int
  | 16 => .array .int
  | 17 => .array .int
  | 18 => .int
  | 19 => .array .int
  | 20 => .array .int
  | 21 => .array .int
  | 22 => .int
  | 23 => .int
  | 24 => .array .int
  | 25 => .array .int
  | 26 => .array .int
  | 27 => .array .int
  | 28 => .array .long
  | 29 => .long
  | 30 => .long
  | 31 => .long
  | 32 => .long
  | 33 => .array .long
  | 34 => .array .long
  | 35 => .array .long
  | 36 => .array .long
  | 37 => .array .long
  | 38 => .array .int
  | 39 => .array .int
  | 40 => .array .int
  | 41 => .array .int
  | 42 => .array .int
  | 43 => .array .boolean
  | 44 => .array .int
  | 45 => .array .int
  | 46 => .int
  | 47 => .int
  | 48 => .int
  | 49 => .int
  | 50 => .int
  | 51 => .boolean
  | 52 => .array .int
  | 53 => .array .int
  | 54 => .array .int
  | 55 => .boolean
  | 56 => .array .int
  | 57 => .array .int
  | 58 => .array .int
  | 59 => .array .int
  | 60 => .array .int
  | 61 => .array .int
  | 62 => .array .int
  | 63 => .array .boolean
  | 64 => .array .boolean
  | 65 => .array .int
  | 66 => .array .int
  | 67 => .array (.array .long)
  | _ => .array .long
abbrev wsX90 : List Cond := u_ws RX9 TX9 69
theorem nmX9 : ∀ a, a < 69 → ∀ b, b < 69 → a ≠ b → (TX9 a).2.1 ≠ (TX9 b).2.1 := by decide +kernel
theorem tyX9_ok : ∀ k, k < 69 → parseFieldDescriptor (TX9 k).2.2.1 = some (tyX9 k) := by decide +kernel
abbrev cX9_init : ByteArray := prog_11_method_1_code
def yX9_init : MethodName := ⟨RX9, "<init>", "()V"⟩
abbrev cX9_in : ByteArray := prog_11_method_2_code
def yX9_in : MethodName := ⟨RX9, "in", "(JJJ)Z"⟩
abbrev cX9_isOne : ByteArray := prog_11_method_3_code
def yX9_isOne : MethodName := ⟨RX9, "isOne", "(I)Z"⟩
abbrev cX9_isBallot : ByteArray := prog_11_method_4_code
def yX9_isBallot : MethodName := ⟨RX9, "isBallot", "(I)Z"⟩
abbrev cX9_has : ByteArray := prog_11_method_5_code
def yX9_has : MethodName := ⟨RX9, "has", "(II)Z"⟩
abbrev cX9_lengthOf : ByteArray := prog_11_method_6_code
def yX9_lengthOf : MethodName := ⟨RX9, "lengthOf", "(I)I"⟩
abbrev cX9_digitAt : ByteArray := prog_11_method_7_code
def yX9_digitAt : MethodName := ⟨RX9, "digitAt", "(II)I"⟩
abbrev cX9_left : ByteArray := prog_11_method_8_code
def yX9_left : MethodName := ⟨RX9, "left", "(I)I"⟩
abbrev cX9_firstOver : ByteArray := prog_11_method_9_code
def yX9_firstOver : MethodName := ⟨RX9, "firstOver", "(I)I"⟩
abbrev cX9_over : ByteArray := prog_11_method_10_code
def yX9_over : MethodName := ⟨RX9, "over", "(I)I"⟩
abbrev cX9_candidate : ByteArray := prog_11_method_11_code
def yX9_candidate : MethodName := ⟨RX9, "candidate", "()I"⟩
abbrev cX9_isRow : ByteArray := prog_11_method_12_code
def yX9_isRow : MethodName := ⟨RX9, "isRow", "(I)Z"⟩
abbrev cX9_ballot : ByteArray := prog_11_method_13_code
def yX9_ballot : MethodName := ⟨RX9, "ballot", "(II)I"⟩
abbrev cX9_many : ByteArray := prog_11_method_14_code
def yX9_many : MethodName := ⟨RX9, "many", "(II)I"⟩
abbrev cX9_drop : ByteArray := prog_11_method_15_code
def yX9_drop : MethodName := ⟨RX9, "drop", "()I"⟩
abbrev cX9_gone : ByteArray := prog_11_method_16_code
def yX9_gone : MethodName := ⟨RX9, "gone", "(IZ)I"⟩
abbrev cX9_set : ByteArray := prog_11_method_17_code
def yX9_set : MethodName := ⟨RX9, "set", "(II)I"⟩
abbrev cX9_swap : ByteArray := prog_11_method_18_code
def yX9_swap : MethodName := ⟨RX9, "swap", "(II)I"⟩
abbrev cX9_lotOf : ByteArray := prog_11_method_19_code
def yX9_lotOf : MethodName := ⟨RX9, "lotOf", "(I)I"⟩
abbrev cX9_keyOf : ByteArray := prog_11_method_20_code
def yX9_keyOf : MethodName := ⟨RX9, "keyOf", "(I)I"⟩
abbrev cX9_comesTo : ByteArray := prog_11_method_21_code
def yX9_comesTo : MethodName := ⟨RX9, "comesTo", "(II)V"⟩
abbrev cX9_tellPiles : ByteArray := prog_11_method_22_code
def yX9_tellPiles : MethodName := ⟨RX9, "tellPiles", "()V"⟩
abbrev cX9_many_ : ByteArray := prog_11_method_23_code
def yX9_many_ : MethodName := ⟨RX9, "many", "(I)I"⟩
abbrev cX9_tellVotes : ByteArray := prog_11_method_24_code
def yX9_tellVotes : MethodName := ⟨RX9, "tellVotes", "()V"⟩
abbrev cX9_isAhead : ByteArray := prog_11_method_25_code
def yX9_isAhead : MethodName := ⟨RX9, "isAhead", "(II)Z"⟩
abbrev cX9_becomesElected : ByteArray := prog_11_method_26_code
def yX9_becomesElected : MethodName := ⟨RX9, "becomesElected", "(I)V"⟩
abbrev cX9_lines : ByteArray := prog_11_method_27_code
def yX9_lines : MethodName := ⟨RX9, "lines", "()V"⟩
abbrev cX9_fills : ByteArray := prog_11_method_28_code
def yX9_fills : MethodName := ⟨RX9, "fills", "()V"⟩
abbrev cX9_keepsAnew : ByteArray := prog_11_method_29_code
def yX9_keepsAnew : MethodName := ⟨RX9, "keepsAnew", "()V"⟩
abbrev cX9_elects : ByteArray := prog_11_method_30_code
def yX9_elects : MethodName := ⟨RX9, "elects", "()Z"⟩
abbrev cX9_tellSurplus : ByteArray := prog_11_method_31_code
def yX9_tellSurplus : MethodName := ⟨RX9, "tellSurplus", "()V"⟩
abbrev cX9_goesRather : ByteArray := prog_11_method_32_code
def yX9_goesRather : MethodName := ⟨RX9, "goesRather", "(II)Z"⟩
abbrev cX9_worst : ByteArray := prog_11_method_33_code
def yX9_worst : MethodName := ⟨RX9, "worst", "()I"⟩
abbrev cX9_endsStage : ByteArray := prog_11_method_34_code
def yX9_endsStage : MethodName := ⟨RX9, "endsStage", "(I)V"⟩
abbrev cX9_goesStage : ByteArray := prog_11_method_35_code
def yX9_goesStage : MethodName := ⟨RX9, "goesStage", "(Z)V"⟩
abbrev cX9_counts : ByteArray := prog_11_method_36_code
def yX9_counts : MethodName := ⟨RX9, "counts", "()V"⟩
abbrev cX9_electedSet : ByteArray := prog_11_method_37_code
def yX9_electedSet : MethodName := ⟨RX9, "electedSet", "()I"⟩
abbrev cX9_firstMany : ByteArray := prog_11_method_38_code
def yX9_firstMany : MethodName := ⟨RX9, "firstMany", "(I)I"⟩
abbrev cX9_of : ByteArray := prog_11_method_39_code
def yX9_of : MethodName := ⟨RX9, "of", "(II)I"⟩
abbrev cX9_ballotOf : ByteArray := prog_11_method_40_code
def yX9_ballotOf : MethodName := ⟨RX9, "ballotOf", "(II)I"⟩
abbrev cX9_rowOf : ByteArray := prog_11_method_41_code
def yX9_rowOf : MethodName := ⟨RX9, "rowOf", "(II)I"⟩
abbrev cX9_told : ByteArray := prog_11_method_42_code
def yX9_told : MethodName := ⟨RX9, "told", "(I)I"⟩
abbrev cX9_isStage : ByteArray := prog_11_method_43_code
def yX9_isStage : MethodName := ⟨RX9, "isStage", "(I)Z"⟩
abbrev cX9_stageOf : ByteArray := prog_11_method_44_code
def yX9_stageOf : MethodName := ⟨RX9, "stageOf", "(II)I"⟩
abbrev cX9_amount : ByteArray := prog_11_method_45_code
def yX9_amount : MethodName := ⟨RX9, "amount", "(II)J"⟩
abbrev cX9_votes : ByteArray := prog_11_method_46_code
def yX9_votes : MethodName := ⟨RX9, "votes", "(III)J"⟩
abbrev cX9_elected : ByteArray := prog_11_method_47_code
def yX9_elected : MethodName := ⟨RX9, "elected", "(I)I"⟩
abbrev cX9_ranksBy : ByteArray := prog_11_method_48_code
def yX9_ranksBy : MethodName := ⟨RX9, "ranksBy", "(III)I"⟩
abbrev cX9_isBefore : ByteArray := prog_11_method_49_code
def yX9_isBefore : MethodName := ⟨RX9, "isBefore", "(III)Z"⟩
abbrev cX9_ranked : ByteArray := prog_11_method_50_code
def yX9_ranked : MethodName := ⟨RX9, "ranked", "(I)I"⟩
abbrev cX9_standing : ByteArray := prog_11_method_51_code
def yX9_standing : MethodName := ⟨RX9, "standing", "(II)I"⟩
abbrev cX9_pile : ByteArray := prog_11_method_52_code
def yX9_pile : MethodName := ⟨RX9, "pile", "(II)I"⟩
abbrev cX9_isTwo : ByteArray := prog_11_method_53_code
def yX9_isTwo : MethodName := ⟨RX9, "isTwo", "(II)Z"⟩
abbrev cX9_preferredTo : ByteArray := prog_11_method_54_code
def yX9_preferredTo : MethodName := ⟨RX9, "preferredTo", "(II)I"⟩
abbrev cX9_preferred : ByteArray := prog_11_method_55_code
def yX9_preferred : MethodName := ⟨RX9, "preferred", "(II)I"⟩
abbrev cX9_isBest : ByteArray := prog_11_method_56_code
def yX9_isBest : MethodName := ⟨RX9, "isBest", "(I)Z"⟩
abbrev cX9_best : ByteArray := prog_11_method_57_code
def yX9_best : MethodName := ⟨RX9, "best", "()I"⟩
abbrev cX9_lowest : ByteArray := prog_11_method_58_code
def yX9_lowest : MethodName := ⟨RX9, "lowest", "(JJI)J"⟩
abbrev cX9_share : ByteArray := prog_11_method_59_code
def yX9_share : MethodName := ⟨RX9, "share", "(III)J"⟩
abbrev cX9_without : ByteArray := prog_11_method_60_code
def yX9_without : MethodName := ⟨RX9, "without", "(I)I"⟩
abbrev cX9_raised : ByteArray := prog_11_method_61_code
def yX9_raised : MethodName := ⟨RX9, "raised", "(II)I"⟩
abbrev cX9_needs : ByteArray := prog_11_method_62_code
def yX9_needs : MethodName := ⟨RX9, "needs", "(II)I"⟩
abbrev cX9_see : ByteArray := prog_11_method_63_code
def yX9_see : MethodName := ⟨RX9, "see", "(IZ)I"⟩
abbrev cX9_isAsSeen : ByteArray := prog_11_method_64_code
def yX9_isAsSeen : MethodName := ⟨RX9, "isAsSeen", "()Z"⟩
abbrev cX9_fits : ByteArray := prog_11_method_65_code
def yX9_fits : MethodName := ⟨RX9, "fits", "(I)I"⟩
abbrev cX9_event : ByteArray := prog_11_method_66_code
def yX9_event : MethodName := ⟨RX9, "event", "(II)I"⟩
abbrev cX9_happens : ByteArray := prog_11_method_67_code
def yX9_happens : MethodName := ⟨RX9, "happens", "(II)V"⟩
abbrev cX9_after : ByteArray := prog_11_method_68_code
def yX9_after : MethodName := ⟨RX9, "after", "()I"⟩
abbrev cX9_feed : ByteArray := prog_11_method_69_code
def yX9_feed : MethodName := ⟨RX9, "feed", "(I)I"⟩
abbrev cX9_signAt : ByteArray := prog_11_method_70_code
def yX9_signAt : MethodName := ⟨RX9, "signAt", "(I)I"⟩
abbrev cX9_fails : ByteArray := prog_11_method_71_code
def yX9_fails : MethodName := ⟨RX9, "fails", "(Z)V"⟩
abbrev cX9_numberRead : ByteArray := prog_11_method_72_code
def yX9_numberRead : MethodName := ⟨RX9, "numberRead", "(I)I"⟩
abbrev cX9_clauseRead : ByteArray := prog_11_method_73_code
def yX9_clauseRead : MethodName := ⟨RX9, "clauseRead", "()V"⟩
abbrev cX9_done : ByteArray := prog_11_method_74_code
def yX9_done : MethodName := ⟨RX9, "done", "(I)I"⟩
abbrev cX9_faulty : ByteArray := prog_11_method_75_code
def yX9_faulty : MethodName := ⟨RX9, "faulty", "()I"⟩
abbrev cX9_read : ByteArray := prog_11_method_76_code
def yX9_read : MethodName := ⟨RX9, "read", "()I"⟩
abbrev cX9_cause : ByteArray := prog_11_method_77_code
def yX9_cause : MethodName := ⟨RX9, "cause", "(II)I"⟩
abbrev cX9_judge : ByteArray := prog_11_method_78_code
def yX9_judge : MethodName := ⟨RX9, "judge", "(III)I"⟩
abbrev cX9_image : ByteArray := prog_11_method_79_code
def yX9_image : MethodName := ⟨RX9, "image", "()I"⟩
abbrev cX9_undo : ByteArray := prog_11_method_80_code
def yX9_undo : MethodName := ⟨RX9, "undo", "()I"⟩
abbrev cX9_count : ByteArray := prog_11_method_81_code
def yX9_count : MethodName := ⟨RX9, "count", "(I)I"⟩
abbrev cX9_isTape : ByteArray := prog_11_method_82_code
def yX9_isTape : MethodName := ⟨RX9, "isTape", "(I)Z"⟩
abbrev cX9_tape : ByteArray := prog_11_method_83_code
def yX9_tape : MethodName := ⟨RX9, "tape", "(III)I"⟩
abbrev cX9_refusal : ByteArray := prog_11_method_84_code
def yX9_refusal : MethodName := ⟨RX9, "refusal", "(II)I"⟩
abbrev cX9_item : ByteArray := prog_11_method_85_code
def yX9_item : MethodName := ⟨RX9, "item", "(IIJ)I"⟩
abbrev cX9_peek : ByteArray := prog_11_method_86_code
def yX9_peek : MethodName := ⟨RX9, "peek", "(II)J"⟩
abbrev cX9_shift : ByteArray := prog_11_method_87_code
def yX9_shift : MethodName := ⟨RX9, "shift", "(IIIII)I"⟩
def RJ9 : String := "java/lang/Math"
def TJ9 : u_T := fun k => match k with
  | _ => ("", "", "", false)
def tyJ9 : Nat → FieldType := fun k => match k with
  | _ => .int
abbrev wsJ90 : List Cond := u_ws RJ9 TJ9 0
theorem nmJ9 : ∀ a, a < 0 → ∀ b, b < 0 → a ≠ b → (TJ9 a).2.1 ≠ (TJ9 b).2.1 := by decide +kernel
theorem tyJ9_ok : ∀ k, k < 0 → parseFieldDescriptor (TJ9 k).2.2.1 = some (tyJ9 k) := by decide +kernel
abbrev cJ9_max_7cf53 : ByteArray := prog_12_method_65_code
def yJ9_max_7cf53 : MethodName := ⟨RJ9, "max", "(II)I"⟩
abbrev cJ9_max_f86c9 : ByteArray := prog_12_method_66_code
def yJ9_max_f86c9 : MethodName := ⟨RJ9, "max", "(JJ)J"⟩
abbrev cJ9_min_f86c9 : ByteArray := prog_12_method_70_code
def yJ9_min_f86c9 : MethodName := ⟨RJ9, "min", "(JJ)J"⟩
def RJ10 : String := "java/lang/System"
def TJ10 : u_T := fun k => match k with
  | _ => ("", "", "", false)
def tyJ10 : Nat → FieldType := fun k => match k with
  | _ => .int
abbrev wsJ100 : List Cond := u_ws RJ10 TJ10 0
theorem nmJ10 : ∀ a, a < 0 → ∀ b, b < 0 → a ≠ b → (TJ10 a).2.1 ≠ (TJ10 b).2.1 := by decide +kernel
theorem tyJ10_ok : ∀ k, k < 0 → parseFieldDescriptor (TJ10 k).2.2.1 = some (tyJ10 k) := by decide +kernel
def RJ7 : String := "java/util/Arrays"
def TJ7 : u_T := fun k => match k with
  | _ => ("", "", "", false)
def tyJ7 : Nat → FieldType := fun k => match k with
  | _ => .int
abbrev wsJ70 : List Cond := u_ws RJ7 TJ7 0
theorem nmJ7 : ∀ a, a < 0 → ∀ b, b < 0 → a ≠ b → (TJ7 a).2.1 ≠ (TJ7 b).2.1 := by decide +kernel
theorem tyJ7_ok : ∀ k, k < 0 → parseFieldDescriptor (TJ7 k).2.2.1 = some (tyJ7 k) := by decide +kernel
abbrev cJ7_fill_d0a16 : ByteArray := prog_14_method_101_code
def yJ7_fill_d0a16 : MethodName := ⟨RJ7, "fill", "([JJ)V"⟩
def RL : String := "KeepCountLaw"
abbrev cL_law : ByteArray := code
def yL_law : MethodName := ⟨RL, "law", "([I)Z"⟩
abbrev vwCl : List vw_C := [(RX0, TX0, 3), (RX1, TX1, 15), (RX3, TX3, 9), (RX4, TX4, 14), (RX5, TX5, 3), (RX6, TX6, 8), (RX7, TX7, 3), (RX8, TX8, 10), (RX9, TX9, 69)]
set_option maxRecDepth 100000 in
theorem inX0 : ∀ w ∈ u_ws RX0 TX0 3, w ∈ lw_tbl := mem_ps [190, 192, 194] (by decide +kernel)
theorem gdX0 : (u_ws RX0 TX0 3).all goodWord = true := by decide +kernel
set_option maxRecDepth 100000 in
theorem inX1 : ∀ w ∈ u_ws RX1 TX1 15, w ∈ lw_tbl := mem_ps [136, 138, 140, 142, 144, 146, 148, 150, 152, 154, 156, 158, 160, 162, 164] (by decide +kernel)
theorem gdX1 : (u_ws RX1 TX1 15).all goodWord = true := by decide +kernel
set_option maxRecDepth 100000 in
theorem inX2 : ∀ w ∈ u_ws RX2 TX2 0, w ∈ lw_tbl := mem_ps [] (by decide +kernel)
theorem gdX2 : (u_ws RX2 TX2 0).all goodWord = true := by decide +kernel
set_option maxRecDepth 100000 in
theorem inX3 : ∀ w ∈ u_ws RX3 TX3 9, w ∈ lw_tbl := mem_ps [231, 233, 235, 237, 239, 241, 243, 245, 247] (by decide +kernel)
theorem gdX3 : (u_ws RX3 TX3 9).all goodWord = true := by decide +kernel
set_option maxRecDepth 100000 in
theorem inX4 : ∀ w ∈ u_ws RX4 TX4 14, w ∈ lw_tbl := mem_ps [271, 273, 275, 277, 279, 281, 283, 285, 287, 289, 291, 293, 295, 297] (by decide +kernel)
theorem gdX4 : (u_ws RX4 TX4 14).all goodWord = true := by decide +kernel
set_option maxRecDepth 100000 in
theorem inX5 : ∀ w ∈ u_ws RX5 TX5 3, w ∈ lw_tbl := mem_ps [369, 371, 373] (by decide +kernel)
theorem gdX5 : (u_ws RX5 TX5 3).all goodWord = true := by decide +kernel
set_option maxRecDepth 100000 in
theorem inX6 : ∀ w ∈ u_ws RX6 TX6 8, w ∈ lw_tbl := mem_ps [320, 322, 324, 326, 328, 330, 332, 334] (by decide +kernel)
theorem gdX6 : (u_ws RX6 TX6 8).all goodWord = true := by decide +kernel
set_option maxRecDepth 100000 in
theorem inX7 : ∀ w ∈ u_ws RX7 TX7 3, w ∈ lw_tbl := mem_ps [349, 351, 353] (by decide +kernel)
theorem gdX7 : (u_ws RX7 TX7 3).all goodWord = true := by decide +kernel
set_option maxRecDepth 100000 in
theorem inX8 : ∀ w ∈ u_ws RX8 TX8 10, w ∈ lw_tbl := mem_ps [386, 388, 390, 392, 394, 396, 398, 400, 402, 404] (by decide +kernel)
theorem gdX8 : (u_ws RX8 TX8 10).all goodWord = true := by decide +kernel
set_option maxRecDepth 100000 in
theorem inX9 : ∀ w ∈ u_ws RX9 TX9 69, w ∈ lw_tbl := mem_ps [917, 919, 921, 923, 925, 927, 929, 931, 933, 935, 937, 939, 941, 943, 945, 947, 949, 951, 953, 955, 957, 959, 961, 963, 965, 967, 969, 971, 973, 975, 977, 979, 981, 983, 985, 987, 989, 991, 993, 995, 997, 999, 1001, 1003, 1005, 1007, 1009, 1011, 1013, 1015, 1017, 1019, 1021, 1023, 1025, 1027, 1029, 1031, 1033, 1035, 1037, 1039, 1041, 1043, 1045, 1047, 1049, 1051, 1053] (by decide +kernel)
theorem gdX9 : (u_ws RX9 TX9 69).all goodWord = true := by decide +kernel
