section
set_option maxHeartbeats 8000000 in
set_option maxRecDepth 20000 in
theorem kX8_told {X : XC} {d : Nat} {x0 : Nat} {x1 : Int} (hx0 : Sh x0 = (17, 10)) {M : Mem} {q : Int × Mem} (h : fX8_told x0 x1 M = some q) : Ct X mX8_told (d + 6) [XR x0, XI x1] M (pI q) := by
  unfold fX8_told at h
  refine ct_go (by decide +kernel) (Nat.le_of_ble_eq_true rfl) (ls := [(0, XR x0), (1, XI x1)]) rfl ?_
  refine g_iload_n 1 dX8_told_0 rfl ?_
  by_cases b1 : x1 = 0
  · replace h := ifp b1 h
    refine g_tswIn (off := 51) (tgt := 52) dX8_told_1 (by rw [b1]; decide) (by rw [b1]; decide) (by rw [b1]; rfl) (by decide) ?_
    refine g_aload_n 0 dX8_told_52 rfl ?_
    refine g_getR dX8_told_53 flX8_14 (by decide) rfl hx0 ?_
    refine g_getI dX8_told_56 flX8_64 (by decide) rfl (sf_7_0 hx0) ?_
    cases h
    exact g_ireturn dX8_told_59 rfl ⟨rfl, rfl⟩
  · replace h := ifn b1 h
    by_cases b2 : x1 = 1
    · replace h := ifp b2 h
      refine g_tswIn (off := 59) (tgt := 60) dX8_told_1 (by rw [b2]; decide) (by rw [b2]; decide) (by rw [b2]; rfl) (by decide) ?_
      refine g_aload_n 0 dX8_told_60 rfl ?_
      refine g_getR dX8_told_61 flX8_14 (by decide) rfl hx0 ?_
      refine g_getI dX8_told_64 flX8_83 (by decide) rfl (sf_7_0 hx0) ?_
      cases h
      exact g_ireturn dX8_told_67 rfl ⟨rfl, rfl⟩
    · replace h := ifn b2 h
      by_cases b3 : x1 = 2
      · replace h := ifp b3 h
        refine g_tswIn (off := 67) (tgt := 68) dX8_told_1 (by rw [b3]; decide) (by rw [b3]; decide) (by rw [b3]; rfl) (by decide) ?_
        refine g_aload_n 0 dX8_told_68 rfl ?_
        obtain ⟨q4, hq4, h⟩ := bnd_some h
        refine v_R (ci := 7) (as := []) dX8_told_69 mlX8_143 mdX8_tallied mvX8_tallied rfl hx0 rfl (Nat.le_of_ble_eq_true rfl) (kX8_tallied hx0 hq4) rfl (fun ea5 => ?_) (fun a5 ea5 => ?_)
        · replace h := oc_n ea5 h
          cases h
        · replace h := oc_s ea5 h
          obtain ⟨c6, h⟩ := chk_some h
          refine g_getI dX8_told_72 flX8_168 (by decide) rfl c6 ?_
          cases h
          exact g_ireturn dX8_told_75 rfl ⟨rfl, rfl⟩
      · replace h := ifn b3 h
        by_cases b7 : x1 = 3
        · replace h := ifp b7 h
          refine g_tswIn (off := 75) (tgt := 76) dX8_told_1 (by rw [b7]; decide) (by rw [b7]; decide) (by rw [b7]; rfl) (by decide) ?_
          refine g_aload_n 0 dX8_told_76 rfl ?_
          refine g_getR dX8_told_77 flX8_14 (by decide) rfl hx0 ?_
          refine g_getI dX8_told_80 flX8_116 (by decide) rfl (sf_7_0 hx0) ?_
          cases h
          exact g_ireturn dX8_told_83 rfl ⟨rfl, rfl⟩
        · replace h := ifn b7 h
          by_cases b8 : x1 = 4
          · replace h := ifp b8 h
            refine g_tswIn (off := 83) (tgt := 84) dX8_told_1 (by rw [b8]; decide) (by rw [b8]; decide) (by rw [b8]; rfl) (by decide) ?_
            refine g_aload_n 0 dX8_told_84 rfl ?_
            refine g_getR dX8_told_85 flX8_14 (by decide) rfl hx0 ?_
            refine g_getI dX8_told_88 flX8_119 (by decide) rfl (sf_7_0 hx0) ?_
            cases h
            exact g_ireturn dX8_told_91 rfl ⟨rfl, rfl⟩
          · replace h := ifn b8 h
            by_cases b9 : x1 = 5
            · replace h := ifp b9 h
              refine g_tswIn (off := 91) (tgt := 92) dX8_told_1 (by rw [b9]; decide) (by rw [b9]; decide) (by rw [b9]; rfl) (by decide) ?_
              refine g_aload_n 0 dX8_told_92 rfl ?_
              refine g_getR dX8_told_93 flX8_14 (by decide) rfl hx0 ?_
              refine g_getI dX8_told_96 flX8_122 (by decide) rfl (sf_7_0 hx0) ?_
              cases h
              exact g_ireturn dX8_told_99 rfl ⟨rfl, rfl⟩
            · replace h := ifn b9 h
              by_cases b10 : x1 = 6
              · replace h := ifp b10 h
                refine g_tswIn (off := 99) (tgt := 100) dX8_told_1 (by rw [b10]; decide) (by rw [b10]; decide) (by rw [b10]; rfl) (by decide) ?_
                refine g_aload_n 0 dX8_told_100 rfl ?_
                obtain ⟨q11, hq11, h⟩ := bnd_some h
                refine v_R (ci := 7) (as := []) dX8_told_101 mlX8_143 mdX8_tallied mvX8_tallied rfl hx0 rfl (Nat.le_of_ble_eq_true rfl) (kX8_tallied hx0 hq11) rfl (fun ea12 => ?_) (fun a12 ea12 => ?_)
                · replace h := oc_n ea12 h
                  cases h
                · replace h := oc_s ea12 h
                  obtain ⟨c13, h⟩ := chk_some h
                  refine g_getI dX8_told_104 flX8_171 (by decide) rfl c13 ?_
                  cases h
                  exact g_ireturn dX8_told_107 rfl ⟨rfl, rfl⟩
              · replace h := ifn b10 h
                by_cases b14 : x1 = 7
                · replace h := ifp b14 h
                  refine g_tswIn (off := 107) (tgt := 108) dX8_told_1 (by rw [b14]; decide) (by rw [b14]; decide) (by rw [b14]; rfl) (by decide) ?_
                  refine g_aload_n 0 dX8_told_108 rfl ?_
                  obtain ⟨q15, hq15, h⟩ := bnd_some h
                  refine v_R (ci := 7) (as := []) dX8_told_109 mlX8_143 mdX8_tallied mvX8_tallied rfl hx0 rfl (Nat.le_of_ble_eq_true rfl) (kX8_tallied hx0 hq15) rfl (fun ea16 => ?_) (fun a16 ea16 => ?_)
                  · replace h := oc_n ea16 h
                    refine g_iconst (v := 2) dX8_told_112 rfl (i32l rfl) ?_
                    cases h
                  · replace h := oc_s ea16 h
                    obtain ⟨c17, h⟩ := chk_some h
                    refine g_iconst (v := 2) dX8_told_112 rfl (i32l rfl) ?_
                    obtain ⟨q18, hq18, h⟩ := bnd_some h
                    refine v_I (ci := 3) (as := [XI 2]) dX8_told_113 mlX8_174 mdX4_whoIs mvX4_whoIs rfl c17 rfl (Nat.le_of_ble_eq_true rfl) (kX4_whoIs c17 hq18) rfl ?_
                    cases h
                    exact g_ireturn dX8_told_116 rfl ⟨rfl, rfl⟩
                · replace h := ifn b14 h
                  by_cases b19 : x1 = 8
                  · replace h := ifp b19 h
                    refine g_tswIn (off := 116) (tgt := 117) dX8_told_1 (by rw [b19]; decide) (by rw [b19]; decide) (by rw [b19]; rfl) (by decide) ?_
                    refine g_aload_n 0 dX8_told_117 rfl ?_
                    obtain ⟨q20, hq20, h⟩ := bnd_some h
                    refine v_R (ci := 7) (as := []) dX8_told_118 mlX8_143 mdX8_tallied mvX8_tallied rfl hx0 rfl (Nat.le_of_ble_eq_true rfl) (kX8_tallied hx0 hq20) rfl (fun ea21 => ?_) (fun a21 ea21 => ?_)
                    · replace h := oc_n ea21 h
                      cases h
                    · replace h := oc_s ea21 h
                      obtain ⟨c22, h⟩ := chk_some h
                      refine g_getR dX8_told_121 flX8_177 (by decide) rfl c22 ?_
                      refine g_getI dX8_told_124 flX8_181 (by decide) rfl (sf_3_1 c22) ?_
                      cases h
                      exact g_ireturn dX8_told_127 rfl ⟨rfl, rfl⟩
                  · replace h := ifn b19 h
                    refine g_tswOut (tgt := 128) dX8_told_1 (by omega) (by decide) ?_
                    refine g_iconst (v := -1) dX8_told_128 rfl (i32l rfl) ?_
                    cases h
                    exact g_ireturn dX8_told_129 rfl ⟨rfl, rfl⟩
set_option maxHeartbeats 8000000 in
set_option maxRecDepth 20000 in
theorem kX8_stageOf {X : XC} {d : Nat} {x0 : Nat} {x1 : Int} {x2 : Int} (hx0 : Sh x0 = (17, 10)) {M : Mem} {q : Int × Mem} (h : fX8_stageOf x0 x1 x2 M = some q) : Ct X mX8_stageOf (d + 6) [XR x0, XI x1, XI x2] M (pI q) := by
  unfold fX8_stageOf at h
  refine ct_go (by decide +kernel) (Nat.le_of_ble_eq_true rfl) (ls := [(0, XR x0), (1, XI x1), (2, XI x2)]) rfl ?_
  refine g_aload_n 0 dX8_stageOf_0 rfl ?_
  obtain ⟨q1, hq1, h⟩ := bnd_some h
  refine v_R (ci := 7) (as := []) dX8_stageOf_1 mlX8_143 mdX8_tallied mvX8_tallied rfl hx0 rfl (Nat.le_of_ble_eq_true rfl) (kX8_tallied hx0 hq1) rfl (fun ea2 => ?_) (fun a2 ea2 => ?_)
  · replace h := oc_n ea2 h
    refine g_iload_n 1 dX8_stageOf_4 rfl ?_
    cases h
  · replace h := oc_s ea2 h
    obtain ⟨c3, h⟩ := chk_some h
    refine g_iload_n 1 dX8_stageOf_4 rfl ?_
    obtain ⟨q4, hq4, h⟩ := bnd_some h
    refine v_R (ci := 3) (as := [XI x1]) dX8_stageOf_5 mlX8_186 mdX4_stageAt mvX4_stageAt rfl c3 rfl (Nat.le_of_ble_eq_true rfl) (kX4_stageAt c3 hq4) rfl (fun ea5 => ?_) (fun a5 ea5 => ?_)
    · replace h := oc_n ea5 h
      refine g_astore_nN (ls' := [(3, XN), (0, XR x0), (1, XI x1), (2, XI x2)]) dX8_stageOf_8 (by decide) rfl ?_
      refine g_aload_nN 0 dX8_stageOf_9 rfl ?_
      refine g_ifnonnullN dX8_stageOf_10 ?_
      refine g_iconst (v := -1) dX8_stageOf_13 rfl (i32l rfl) ?_
      cases h
      exact g_ireturn dX8_stageOf_14 rfl ⟨rfl, rfl⟩
    · replace h := oc_s ea5 h
      obtain ⟨c6, h⟩ := chk_some h
      refine g_astore_n (ls' := [(3, XR a5), (0, XR x0), (1, XI x1), (2, XI x2)]) dX8_stageOf_8 (by decide) rfl ?_
      refine g_aload_n 0 dX8_stageOf_9 rfl ?_
      refine g_ifnonnullR (tgt := 15) dX8_stageOf_10 (by decide) ?_
      refine g_iload_n 3 dX8_stageOf_15 rfl ?_
      by_cases b7 : x2 = 0
      · replace h := ifp b7 h
        refine g_tswIn (off := 28) (tgt := 44) dX8_stageOf_16 (by rw [b7]; decide) (by rw [b7]; decide) (by rw [b7]; rfl) (by decide) ?_
        refine g_aload_n 0 dX8_stageOf_44 rfl ?_
        refine g_getI dX8_stageOf_45 flX8_190 (by decide) rfl c6 ?_
        cases h
        exact g_ireturn dX8_stageOf_48 rfl ⟨rfl, rfl⟩
      · replace h := ifn b7 h
        by_cases b8 : x2 = 1
        · replace h := ifp b8 h
          refine g_tswIn (off := 33) (tgt := 49) dX8_stageOf_16 (by rw [b8]; decide) (by rw [b8]; decide) (by rw [b8]; rfl) (by decide) ?_
          refine g_aload_n 0 dX8_stageOf_49 rfl ?_
          refine g_getI dX8_stageOf_50 flX8_193 (by decide) rfl c6 ?_
          cases h
          exact g_ireturn dX8_stageOf_53 rfl ⟨rfl, rfl⟩
        · replace h := ifn b8 h
          by_cases b9 : x2 = 2
          · replace h := ifp b9 h
            refine g_tswIn (off := 38) (tgt := 54) dX8_stageOf_16 (by rw [b9]; decide) (by rw [b9]; decide) (by rw [b9]; rfl) (by decide) ?_
            refine g_aload_n 0 dX8_stageOf_54 rfl ?_
            refine g_getI dX8_stageOf_55 flX8_196 (by decide) rfl c6 ?_
            cases h
            exact g_ireturn dX8_stageOf_58 rfl ⟨rfl, rfl⟩
          · replace h := ifn b9 h
            refine g_tswOut (tgt := 59) dX8_stageOf_16 (by omega) (by decide) ?_
            refine g_iconst (v := -1) dX8_stageOf_59 rfl (i32l rfl) ?_
            cases h
            exact g_ireturn dX8_stageOf_60 rfl ⟨rfl, rfl⟩
set_option maxHeartbeats 8000000 in
set_option maxRecDepth 20000 in
theorem kX8_amount {X : XC} {d : Nat} {x0 : Nat} {x1 : Int} {x2 : Int} (hx0 : Sh x0 = (17, 10)) {M : Mem} {q : Int × Mem} (h : fX8_amount x0 x1 x2 M = some q) : Ct X mX8_amount (d + 6) [XR x0, XI x1, XI x2] M (pJ q) := by
  unfold fX8_amount at h
  refine ct_go (by decide +kernel) (Nat.le_of_ble_eq_true rfl) (ls := [(0, XR x0), (1, XI x1), (2, XI x2)]) rfl ?_
  refine g_aload_n 0 dX8_amount_0 rfl ?_
  obtain ⟨q1, hq1, h⟩ := bnd_some h
  refine v_R (ci := 7) (as := []) dX8_amount_1 mlX8_143 mdX8_tallied mvX8_tallied rfl hx0 rfl (Nat.le_of_ble_eq_true rfl) (kX8_tallied hx0 hq1) rfl (fun ea2 => ?_) (fun a2 ea2 => ?_)
  · replace h := oc_n ea2 h
    refine g_iload_n 1 dX8_amount_4 rfl ?_
    cases h
  · replace h := oc_s ea2 h
    obtain ⟨c3, h⟩ := chk_some h
    refine g_iload_n 1 dX8_amount_4 rfl ?_
    obtain ⟨q4, hq4, h⟩ := bnd_some h
    refine v_R (ci := 3) (as := [XI x1]) dX8_amount_5 mlX8_186 mdX4_stageAt mvX4_stageAt rfl c3 rfl (Nat.le_of_ble_eq_true rfl) (kX4_stageAt c3 hq4) rfl (fun ea5 => ?_) (fun a5 ea5 => ?_)
    · replace h := oc_n ea5 h
      refine g_astore_nN (ls' := [(3, XN), (0, XR x0), (1, XI x1), (2, XI x2)]) dX8_amount_8 (by decide) rfl ?_
      refine g_aload_nN 0 dX8_amount_9 rfl ?_
      refine g_ifnonnullN dX8_amount_10 ?_
      refine g_ldc2 (v := -9223372036854775808) dX8_amount_13 csX8_199 (by decide +kernel) (i64l rfl) ?_
      cases h
      exact g_lreturn dX8_amount_16 rfl ⟨rfl, rfl⟩
    · replace h := oc_s ea5 h
      obtain ⟨c6, h⟩ := chk_some h
      refine g_astore_n (ls' := [(3, XR a5), (0, XR x0), (1, XI x1), (2, XI x2)]) dX8_amount_8 (by decide) rfl ?_
      refine g_aload_n 0 dX8_amount_9 rfl ?_
      refine g_ifnonnullR (tgt := 17) dX8_amount_10 (by decide) ?_
      refine g_iload_n 3 dX8_amount_17 rfl ?_
      by_cases b7 : x2 = 0
      · replace h := ifp b7 h
        refine g_tswIn (off := 30) (tgt := 48) dX8_amount_18 (by rw [b7]; decide) (by rw [b7]; decide) (by rw [b7]; rfl) (by decide) ?_
        refine g_aload_n 0 dX8_amount_48 rfl ?_
        refine g_getJ dX8_amount_49 flX8_201 (by decide) rfl c6 ?_
        cases h
        exact g_lreturn dX8_amount_52 rfl ⟨rfl, rfl⟩
      · replace h := ifn b7 h
        by_cases b8 : x2 = 1
        · replace h := ifp b8 h
          refine g_tswIn (off := 35) (tgt := 53) dX8_amount_18 (by rw [b8]; decide) (by rw [b8]; decide) (by rw [b8]; rfl) (by decide) ?_
          refine g_aload_n 0 dX8_amount_53 rfl ?_
          refine g_getJ dX8_amount_54 flX8_205 (by decide) rfl c6 ?_
          cases h
          exact g_lreturn dX8_amount_57 rfl ⟨rfl, rfl⟩
        · replace h := ifn b8 h
          by_cases b9 : x2 = 2
          · replace h := ifp b9 h
            refine g_tswIn (off := 40) (tgt := 58) dX8_amount_18 (by rw [b9]; decide) (by rw [b9]; decide) (by rw [b9]; rfl) (by decide) ?_
            refine g_aload_n 0 dX8_amount_58 rfl ?_
            refine g_getJ dX8_amount_59 flX8_208 (by decide) rfl c6 ?_
            cases h
            exact g_lreturn dX8_amount_62 rfl ⟨rfl, rfl⟩
          · replace h := ifn b9 h
            by_cases b10 : x2 = 3
            · replace h := ifp b10 h
              refine g_tswIn (off := 45) (tgt := 63) dX8_amount_18 (by rw [b10]; decide) (by rw [b10]; decide) (by rw [b10]; rfl) (by decide) ?_
              refine g_aload_n 0 dX8_amount_63 rfl ?_
              refine g_getJ dX8_amount_64 flX8_211 (by decide) rfl c6 ?_
              cases h
              exact g_lreturn dX8_amount_67 rfl ⟨rfl, rfl⟩
            · replace h := ifn b10 h
              refine g_tswOut (tgt := 68) dX8_amount_18 (by omega) (by decide) ?_
              refine g_ldc2 (v := -9223372036854775808) dX8_amount_68 csX8_199 (by decide +kernel) (i64l rfl) ?_
              cases h
              exact g_lreturn dX8_amount_71 rfl ⟨rfl, rfl⟩
set_option maxHeartbeats 8000000 in
set_option maxRecDepth 20000 in
theorem kX8_votes {X : XC} {d : Nat} {x0 : Nat} {x1 : Int} {x2 : Int} {x3 : Int} (hx0 : Sh x0 = (17, 10)) {M : Mem} {q : Int × Mem} (h : fX8_votes x0 x1 x2 x3 M = some q) : Ct X mX8_votes (d + 6) [XR x0, XI x1, XI x2, XI x3] M (pJ q) := by
  unfold fX8_votes at h
  refine ct_go (by decide +kernel) (Nat.le_of_ble_eq_true rfl) (ls := [(0, XR x0), (1, XI x1), (2, XI x2), (3, XI x3)]) rfl ?_
  refine g_aload_n 0 dX8_votes_0 rfl ?_
  obtain ⟨q1, hq1, h⟩ := bnd_some h
  refine v_R (ci := 7) (as := []) dX8_votes_1 mlX8_143 mdX8_tallied mvX8_tallied rfl hx0 rfl (Nat.le_of_ble_eq_true rfl) (kX8_tallied hx0 hq1) rfl (fun ea2 => ?_) (fun a2 ea2 => ?_)
  · replace h := oc_n ea2 h
    refine g_iload_n 1 dX8_votes_4 rfl ?_
    cases h
  · replace h := oc_s ea2 h
    obtain ⟨c3, h⟩ := chk_some h
    refine g_iload_n 1 dX8_votes_4 rfl ?_
    obtain ⟨q4, hq4, h⟩ := bnd_some h
    refine v_R (ci := 3) (as := [XI x1]) dX8_votes_5 mlX8_186 mdX4_stageAt mvX4_stageAt rfl c3 rfl (Nat.le_of_ble_eq_true rfl) (kX4_stageAt c3 hq4) rfl (fun ea5 => ?_) (fun a5 ea5 => ?_)
    · replace h := oc_n ea5 h
      refine g_astoreN (ls' := [(4, XN), (0, XR x0), (1, XI x1), (2, XI x2), (3, XI x3)]) dX8_votes_8 (by decide) rfl ?_
      refine g_aloadN 0 dX8_votes_10 rfl ?_
      refine g_ifnullN (tgt := 26) dX8_votes_12 (by decide) ?_
      refine g_ldc2 (v := -9223372036854775808) dX8_votes_26 csX8_199 (by decide +kernel) (i64l rfl) ?_
      cases h
      exact g_lreturn dX8_votes_29 rfl ⟨rfl, rfl⟩
    · replace h := oc_s ea5 h
      obtain ⟨c6, h⟩ := chk_some h
      refine g_astore (ls' := [(4, XR a5), (0, XR x0), (1, XI x1), (2, XI x2), (3, XI x3)]) dX8_votes_8 (by decide) rfl ?_
      refine g_aload 0 dX8_votes_10 rfl ?_
      refine g_ifnullR dX8_votes_12 ?_
      refine g_aload_n 1 dX8_votes_15 rfl ?_
      refine g_getR dX8_votes_16 flX8_14 (by decide) rfl hx0 ?_
      refine g_iload_n 3 dX8_votes_19 rfl ?_
      obtain ⟨q7, hq7, h⟩ := bnd_some h
      refine v_I (ci := 1) (as := [XI x2]) dX8_votes_20 mlX8_103 mdX1_hasCandidate mvX1_hasCandidate rfl (sf_7_0 hx0) rfl (Nat.le_of_ble_eq_true rfl) (kX1_hasCandidate (sf_7_0 hx0) hq7) rfl ?_
      refine g_if_ne (tgt := 30) dX8_votes_23 (by decide) (fun b8 => ?_) (fun b8 => ?_)
      · replace h := ifn b8 h
        refine g_iload_n 4 dX8_votes_30 rfl ?_
        by_cases b9 : x3 = 0
        · replace h := ifp b9 h
          refine g_lsw (off := 25) (tgt := 56) dX8_votes_31 (by decide) (by rw [b9]; rfl) (by decide) ?_
          refine g_aload 0 dX8_votes_56 rfl ?_
          refine g_getR dX8_votes_58 flX8_214 (by decide) rfl c6 ?_
          refine g_iload_n 3 dX8_votes_61 rfl ?_
          obtain ⟨c10, h⟩ := chk_some h
          refine g_lald dX8_votes_62 (sf_2_7 c6) c10.1 c10.2 ?_
          cases h
          exact g_lreturn dX8_votes_63 rfl ⟨rfl, rfl⟩
        · replace h := ifn b9 h
          by_cases b11 : x3 = 1
          · replace h := ifp b11 h
            refine g_lsw (off := 33) (tgt := 64) dX8_votes_31 (by decide) (by rw [b11]; rfl) (by decide) ?_
            refine g_aload 0 dX8_votes_64 rfl ?_
            refine g_getR dX8_votes_66 flX8_218 (by decide) rfl c6 ?_
            refine g_iload_n 3 dX8_votes_69 rfl ?_
            obtain ⟨c12, h⟩ := chk_some h
            refine g_lald dX8_votes_70 (sf_2_8 c6) c12.1 c12.2 ?_
            cases h
            exact g_lreturn dX8_votes_71 rfl ⟨rfl, rfl⟩
          · replace h := ifn b11 h
            refine g_lsw (off := 41) (tgt := 72) dX8_votes_31 (by decide) (by simp [Op.lookupswitch.offset, Ne.symm b9, b9, Ne.symm b11, b11]) (by decide) ?_
            refine g_ldc2 (v := -9223372036854775808) dX8_votes_72 csX8_199 (by decide +kernel) (i64l rfl) ?_
            cases h
            exact g_lreturn dX8_votes_75 rfl ⟨rfl, rfl⟩
      · replace h := ifp b8 h
        refine g_pc (pc' := 26) rfl ?_
        refine g_ldc2 (v := -9223372036854775808) dX8_votes_26 csX8_199 (by decide +kernel) (i64l rfl) ?_
        cases h
        exact g_lreturn dX8_votes_29 rfl ⟨rfl, rfl⟩
set_option maxHeartbeats 8000000 in
set_option maxRecDepth 20000 in
theorem kX8_elected {X : XC} {d : Nat} {x0 : Nat} {x1 : Int} (hx0 : Sh x0 = (17, 10)) {M : Mem} {q : Int × Mem} (h : fX8_elected x0 x1 M = some q) : Ct X mX8_elected (d + 6) [XR x0, XI x1] M (pI q) := by
  unfold fX8_elected at h
  refine ct_go (by decide +kernel) (Nat.le_of_ble_eq_true rfl) (ls := [(0, XR x0), (1, XI x1)]) rfl ?_
  refine g_aload_n 0 dX8_elected_0 rfl ?_
  obtain ⟨q1, hq1, h⟩ := bnd_some h
  refine v_R (ci := 7) (as := []) dX8_elected_1 mlX8_143 mdX8_tallied mvX8_tallied rfl hx0 rfl (Nat.le_of_ble_eq_true rfl) (kX8_tallied hx0 hq1) rfl (fun ea2 => ?_) (fun a2 ea2 => ?_)
  · replace h := oc_n ea2 h
    refine g_astore_nN (ls' := [(2, XN), (0, XR x0), (1, XI x1)]) dX8_elected_4 (by decide) rfl ?_
    refine g_iload_n 2 dX8_elected_5 rfl ?_
    refine g_if_lt (tgt := 17) dX8_elected_6 (by decide) (fun b5 => ?_) (fun b5 => ?_)
    · replace h := ifp b5 h
      refine g_bip dX8_elected_17 rfl ?_
      refine g_goto (tgt := 28) dX8_elected_19 (by decide) ?_
      cases h
      exact g_ireturn dX8_elected_28 rfl ⟨rfl, rfl⟩
    · replace h := ifn b5 h
      refine g_pc (pc' := 9) rfl ?_
      refine g_iload_n 2 dX8_elected_9 rfl ?_
      refine g_aload_nN 0 dX8_elected_10 rfl ?_
      cases h
  · replace h := oc_s ea2 h
    obtain ⟨c3, h⟩ := chk_some h
    refine g_astore_n (ls' := [(2, XR a2), (0, XR x0), (1, XI x1)]) dX8_elected_4 (by decide) rfl ?_
    refine g_iload_n 2 dX8_elected_5 rfl ?_
    obtain ⟨t9, ht9, h⟩ := bnd_some h
    have Kt9 : Go X mX8_elected (d + 6) 28 [] [XI t9] q1.2 (pI q) := by
      cases h
      exact g_ireturn dX8_elected_28 rfl ⟨rfl, rfl⟩
    refine g_if_lt (tgt := 17) dX8_elected_6 (by decide) (fun b10 => ?_) (fun b10 => ?_)
    · replace ht9 := ifp b10 ht9
      refine g_bip dX8_elected_17 rfl ?_
      refine g_goto (tgt := 28) dX8_elected_19 (by decide) ?_
      cases ht9
      exact g_sub [] rfl Kt9
    · replace ht9 := ifn b10 ht9
      refine g_pc (pc' := 9) rfl ?_
      refine g_iload_n 2 dX8_elected_9 rfl ?_
      refine g_aload_n 0 dX8_elected_10 rfl ?_
      refine g_getI dX8_elected_11 flX8_171 (by decide) rfl c3 ?_
      refine g_icmp_lt (tgt := 22) dX8_elected_14 (by decide) (fun b11 => ?_) (fun b11 => ?_)
      · replace ht9 := ifp b11 ht9
        refine g_aload_n 0 dX8_elected_22 rfl ?_
        refine g_getR dX8_elected_23 flX8_221 (by decide) rfl c3 ?_
        refine g_iload_n 2 dX8_elected_26 rfl ?_
        obtain ⟨c12, ht9⟩ := chk_some ht9
        refine g_iald dX8_elected_27 (sf_3_4 c3) c12.1 c12.2 ?_
        cases ht9
        exact g_sub [] rfl Kt9
      · replace ht9 := ifn b11 ht9
        refine g_pc (pc' := 17) rfl ?_
        refine g_bip dX8_elected_17 rfl ?_
        refine g_goto (tgt := 28) dX8_elected_19 (by decide) ?_
        cases ht9
        exact g_sub [] rfl Kt9
set_option maxHeartbeats 8000000 in
set_option maxRecDepth 20000 in
theorem kX8_ranked {X : XC} {d : Nat} {x0 : Nat} {x1 : Int} (hx0 : Sh x0 = (17, 10)) {M : Mem} {q : Int × Mem} (h : fX8_ranked x0 x1 M = some q) : Ct X mX8_ranked (d + 6) [XR x0, XI x1] M (pI q) := by
  unfold fX8_ranked at h
  refine ct_go (by decide +kernel) (Nat.le_of_ble_eq_true rfl) (ls := [(0, XR x0), (1, XI x1)]) rfl ?_
  refine g_aload_n 0 dX8_ranked_0 rfl ?_
  refine g_getR dX8_ranked_1 flX8_14 (by decide) rfl hx0 ?_
  refine g_iload_n 1 dX8_ranked_4 rfl ?_
  obtain ⟨q1, hq1, h⟩ := bnd_some h
  refine v_I (ci := 1) (as := [XI x1]) dX8_ranked_5 mlX8_103 mdX1_hasCandidate mvX1_hasCandidate rfl (sf_7_0 hx0) rfl (Nat.le_of_ble_eq_true rfl) (kX1_hasCandidate (sf_7_0 hx0) hq1) rfl ?_
  obtain ⟨t7, ht7, h⟩ := bnd_some h
  have Kt7 : Go X mX8_ranked (d + 6) 23 [] [XI t7.1] t7.2 (pI q) := by
    cases h
    exact g_ireturn dX8_ranked_23 rfl ⟨rfl, rfl⟩
  refine g_if_eq (tgt := 22) dX8_ranked_8 (by decide) (fun b8 => ?_) (fun b8 => ?_)
  · replace ht7 := ifp b8 ht7
    refine g_iconst (v := -1) dX8_ranked_22 rfl (i32l rfl) ?_
    cases ht7
    exact g_sub [] rfl Kt7
  · replace ht7 := ifn b8 ht7
    refine g_pc (pc' := 11) rfl ?_
    refine g_aload_n 0 dX8_ranked_11 rfl ?_
    obtain ⟨q9, hq9, ht7⟩ := bnd_some ht7
    refine v_R (ci := 7) (as := []) dX8_ranked_12 mlX8_143 mdX8_tallied mvX8_tallied rfl hx0 rfl (Nat.le_of_ble_eq_true rfl) (kX8_tallied hx0 hq9) rfl (fun ea10 => ?_) (fun a10 ea10 => ?_)
    · replace ht7 := oc_n ea10 ht7
      refine g_iload_n 1 dX8_ranked_15 rfl ?_
      cases ht7
    · replace ht7 := oc_s ea10 ht7
      obtain ⟨c11, ht7⟩ := chk_some ht7
      refine g_iload_n 1 dX8_ranked_15 rfl ?_
      obtain ⟨q12, hq12, ht7⟩ := bnd_some ht7
      refine v_I (ci := 3) (as := [XI x1]) dX8_ranked_16 mlX8_224 mdX4_rankAt mvX4_rankAt rfl c11 rfl (Nat.le_of_ble_eq_true rfl) (kX4_rankAt c11 hq12) rfl ?_
      refine g_goto (tgt := 23) dX8_ranked_19 (by decide) ?_
      cases ht7
      exact g_sub [] rfl Kt7
set_option maxHeartbeats 8000000 in
set_option maxRecDepth 20000 in
theorem kX8_standing {X : XC} {d : Nat} {x0 : Nat} {x1 : Int} {x2 : Int} (hx0 : Sh x0 = (17, 10)) {M : Mem} {q : Int × Mem} (h : fX8_standing x0 x1 x2 M = some q) : Ct X mX8_standing (d + 6) [XR x0, XI x1, XI x2] M (pI q) := by
  unfold fX8_standing at h
  refine ct_go (by decide +kernel) (Nat.le_of_ble_eq_true rfl) (ls := [(0, XR x0), (1, XI x1), (2, XI x2)]) rfl ?_
  refine g_aload_n 0 dX8_standing_0 rfl ?_
  obtain ⟨q1, hq1, h⟩ := bnd_some h
  refine v_R (ci := 7) (as := []) dX8_standing_1 mlX8_143 mdX8_tallied mvX8_tallied rfl hx0 rfl (Nat.le_of_ble_eq_true rfl) (kX8_tallied hx0 hq1) rfl (fun ea2 => ?_) (fun a2 ea2 => ?_)
  · replace h := oc_n ea2 h
    refine g_astore_nN (ls' := [(3, XN), (0, XR x0), (1, XI x1), (2, XI x2)]) dX8_standing_4 (by decide) rfl ?_
    refine g_aload_nN 0 dX8_standing_5 rfl ?_
    refine g_iload_n 2 dX8_standing_6 rfl ?_
    cases h
  · replace h := oc_s ea2 h
    obtain ⟨c3, h⟩ := chk_some h
    refine g_astore_n (ls' := [(3, XR a2), (0, XR x0), (1, XI x1), (2, XI x2)]) dX8_standing_4 (by decide) rfl ?_
    refine g_aload_n 0 dX8_standing_5 rfl ?_
    refine g_iload_n 2 dX8_standing_6 rfl ?_
    obtain ⟨q4, hq4, h⟩ := bnd_some h
    refine v_R (ci := 3) (as := [XI x1]) dX8_standing_7 mlX8_186 mdX4_stageAt mvX4_stageAt rfl c3 rfl (Nat.le_of_ble_eq_true rfl) (kX4_stageAt c3 hq4) rfl (fun ea5 => ?_) (fun a5 ea5 => ?_)
    · replace h := oc_n ea5 h
      refine g_astoreN (ls' := [(4, XN), (3, XR a2), (0, XR x0), (1, XI x1), (2, XI x2)]) dX8_standing_10 (by decide) rfl ?_
      refine g_aloadN 0 dX8_standing_12 rfl ?_
      refine g_ifnullN (tgt := 28) dX8_standing_14 (by decide) ?_
      refine g_iconst (v := -1) dX8_standing_28 rfl (i32l rfl) ?_
      cases h
      exact g_ireturn dX8_standing_29 rfl ⟨rfl, rfl⟩
    · replace h := oc_s ea5 h
      obtain ⟨c6, h⟩ := chk_some h
      refine g_astore (ls' := [(4, XR a5), (3, XR a2), (0, XR x0), (1, XI x1), (2, XI x2)]) dX8_standing_10 (by decide) rfl ?_
      refine g_aload 0 dX8_standing_12 rfl ?_
      refine g_ifnullR dX8_standing_14 ?_
      refine g_aload_n 2 dX8_standing_17 rfl ?_
      refine g_getR dX8_standing_18 flX8_14 (by decide) rfl hx0 ?_
      refine g_iload_n 4 dX8_standing_21 rfl ?_
      obtain ⟨q7, hq7, h⟩ := bnd_some h
      refine v_I (ci := 1) (as := [XI x2]) dX8_standing_22 mlX8_103 mdX1_hasCandidate mvX1_hasCandidate rfl (sf_7_0 hx0) rfl (Nat.le_of_ble_eq_true rfl) (kX1_hasCandidate (sf_7_0 hx0) hq7) rfl ?_
      refine g_if_ne (tgt := 30) dX8_standing_25 (by decide) (fun b8 => ?_) (fun b8 => ?_)
      · replace h := ifn b8 h
        refine g_aload_n 1 dX8_standing_30 rfl ?_
        refine g_aload 0 dX8_standing_31 rfl ?_
        refine g_getR dX8_standing_33 flX8_214 (by decide) rfl c6 ?_
        refine g_aload_n 1 dX8_standing_36 rfl ?_
        obtain ⟨q9, hq9, h⟩ := bnd_some h
        refine v_I (ci := 3) (as := []) dX8_standing_37 mlX8_227 mdX4_whoIsHere mvX4_whoIsHere rfl c3 rfl (Nat.le_of_ble_eq_true rfl) (kX4_whoIsHere c3 hq9) rfl ?_
        refine g_iload_n 4 dX8_standing_40 rfl ?_
        obtain ⟨q10, hq10, h⟩ := bnd_some h
        refine v_I (ci := 3) (as := [XR (a5 + 8), XI q9.1, XI x2]) dX8_standing_41 mlX8_231 mdX4_leader mvX4_leader rfl c3 rfl (Nat.le_of_ble_eq_true rfl) (kX4_leader c3 (sf_2_7 c6) hq10) rfl ?_
        cases h
        exact g_ireturn dX8_standing_44 rfl ⟨rfl, rfl⟩
      · replace h := ifp b8 h
        refine g_pc (pc' := 28) rfl ?_
        refine g_iconst (v := -1) dX8_standing_28 rfl (i32l rfl) ?_
        cases h
        exact g_ireturn dX8_standing_29 rfl ⟨rfl, rfl⟩
set_option maxHeartbeats 8000000 in
set_option maxRecDepth 20000 in
theorem kX8_pile {X : XC} {d : Nat} {x0 : Nat} {x1 : Int} {x2 : Int} (hx0 : Sh x0 = (17, 10)) {M : Mem} {q : Int × Mem} (h : fX8_pile x0 x1 x2 M = some q) : Ct X mX8_pile (d + 6) [XR x0, XI x1, XI x2] M (pI q) := by
  unfold fX8_pile at h
  refine ct_go (by decide +kernel) (Nat.le_of_ble_eq_true rfl) (ls := [(0, XR x0), (1, XI x1), (2, XI x2)]) rfl ?_
  refine g_aload_n 0 dX8_pile_0 rfl ?_
  obtain ⟨q1, hq1, h⟩ := bnd_some h
  refine v_R (ci := 7) (as := []) dX8_pile_1 mlX8_143 mdX8_tallied mvX8_tallied rfl hx0 rfl (Nat.le_of_ble_eq_true rfl) (kX8_tallied hx0 hq1) rfl (fun ea2 => ?_) (fun a2 ea2 => ?_)
  · replace h := oc_n ea2 h
    cases h
  · replace h := oc_s ea2 h
    obtain ⟨c3, h⟩ := chk_some h
    refine g_getR dX8_pile_4 flX8_177 (by decide) rfl c3 ?_
    refine g_astore_n (ls' := [(3, XR (a2 + 20)), (0, XR x0), (1, XI x1), (2, XI x2)]) dX8_pile_7 (by decide) rfl ?_
    refine g_iload_n 2 dX8_pile_8 rfl ?_
    refine g_if_lt (tgt := 20) dX8_pile_9 (by decide) (fun b4 => ?_) (fun b4 => ?_)
    · replace h := ifp b4 h
      refine g_iconst (v := -1) dX8_pile_20 rfl (i32l rfl) ?_
      cases h
      exact g_ireturn dX8_pile_21 rfl ⟨rfl, rfl⟩
    · replace h := ifn b4 h
      refine g_pc (pc' := 12) rfl ?_
      refine g_iload_n 2 dX8_pile_12 rfl ?_
      refine g_aload_n 0 dX8_pile_13 rfl ?_
      refine g_getI dX8_pile_14 flX8_181 (by decide) rfl (sf_3_1 c3) ?_
      refine g_icmp_lt (tgt := 22) dX8_pile_17 (by decide) (fun b5 => ?_) (fun b5 => ?_)
      · replace h := ifp b5 h
        refine g_iload_n 3 dX8_pile_22 rfl ?_
        by_cases b6 : x2 = 0
        · replace h := ifp b6 h
          refine g_lsw (off := 25) (tgt := 48) dX8_pile_23 (by decide) (by rw [b6]; rfl) (by decide) ?_
          refine g_aload_n 0 dX8_pile_48 rfl ?_
          refine g_getR dX8_pile_49 flX8_235 (by decide) rfl (sf_3_1 c3) ?_
          refine g_iload_n 2 dX8_pile_52 rfl ?_
          obtain ⟨c7, h⟩ := chk_some h
          refine g_iald dX8_pile_53 (sf_0_1 (sf_3_1 c3)) c7.1 c7.2 ?_
          obtain ⟨q8, hq8, h⟩ := bnd_some h
          refine s_I (as := [XI (q1.2 ((a2 + 20) + 2) (Int.toNat x1))]) dX8_pile_54 mlX8_236 mdX2_asTold msX2_asTold rfl (Nat.le_of_ble_eq_true rfl) (kX2_asTold  hq8) rfl ?_
          cases h
          exact g_ireturn dX8_pile_57 rfl ⟨rfl, rfl⟩
        · replace h := ifn b6 h
          by_cases b9 : x2 = 1
          · replace h := ifp b9 h
            refine g_lsw (off := 35) (tgt := 58) dX8_pile_23 (by decide) (by rw [b9]; rfl) (by decide) ?_
            refine g_aload_n 0 dX8_pile_58 rfl ?_
            refine g_getR dX8_pile_59 flX8_239 (by decide) rfl (sf_3_1 c3) ?_
            refine g_iload_n 2 dX8_pile_62 rfl ?_
            obtain ⟨c10, h⟩ := chk_some h
            refine g_iald dX8_pile_63 (sf_0_2 (sf_3_1 c3)) c10.1 c10.2 ?_
            cases h
            exact g_ireturn dX8_pile_64 rfl ⟨rfl, rfl⟩
          · replace h := ifn b9 h
            refine g_lsw (off := 42) (tgt := 65) dX8_pile_23 (by decide) (by simp [Op.lookupswitch.offset, Ne.symm b6, b6, Ne.symm b9, b9]) (by decide) ?_
            refine g_iconst (v := -1) dX8_pile_65 rfl (i32l rfl) ?_
            cases h
            exact g_ireturn dX8_pile_66 rfl ⟨rfl, rfl⟩
      · replace h := ifn b5 h
        refine g_pc (pc' := 20) rfl ?_
        refine g_iconst (v := -1) dX8_pile_20 rfl (i32l rfl) ?_
        cases h
        exact g_ireturn dX8_pile_21 rfl ⟨rfl, rfl⟩
set_option maxHeartbeats 8000000 in
set_option maxRecDepth 20000 in
theorem kX8_preferred {X : XC} {d : Nat} {x0 : Nat} {x1 : Int} {x2 : Int} (hx0 : Sh x0 = (17, 10)) {M : Mem} {q : Int × Mem} (h : fX8_preferred x0 x1 x2 M = some q) : Ct X mX8_preferred (d + 3) [XR x0, XI x1, XI x2] M (pI q) := by
  unfold fX8_preferred at h
  refine ct_go (by decide +kernel) (Nat.le_of_ble_eq_true rfl) (ls := [(0, XR x0), (1, XI x1), (2, XI x2)]) rfl ?_
  refine g_aload_n 0 dX8_preferred_0 rfl ?_
  refine g_getR dX8_preferred_1 flX8_14 (by decide) rfl hx0 ?_
  refine g_iload_n 1 dX8_preferred_4 rfl ?_
  obtain ⟨q1, hq1, h⟩ := bnd_some h
  refine v_I (ci := 1) (as := [XI x1]) dX8_preferred_5 mlX8_103 mdX1_hasCandidate mvX1_hasCandidate rfl (sf_7_0 hx0) rfl (Nat.le_of_ble_eq_true rfl) (kX1_hasCandidate (sf_7_0 hx0) hq1) rfl ?_
  refine g_if_eq (tgt := 27) dX8_preferred_8 (by decide) (fun b2 => ?_) (fun b2 => ?_)
  · replace h := ifp b2 h
    refine g_iconst (v := -1) dX8_preferred_27 rfl (i32l rfl) ?_
    cases h
    exact g_ireturn dX8_preferred_28 rfl ⟨rfl, rfl⟩
  · replace h := ifn b2 h
    refine g_pc (pc' := 11) rfl ?_
    refine g_aload_n 0 dX8_preferred_11 rfl ?_
    refine g_getR dX8_preferred_12 flX8_14 (by decide) rfl hx0 ?_
    refine g_iload_n 2 dX8_preferred_15 rfl ?_
    obtain ⟨q3, hq3, h⟩ := bnd_some h
    refine v_I (ci := 1) (as := [XI x2]) dX8_preferred_16 mlX8_103 mdX1_hasCandidate mvX1_hasCandidate rfl (sf_7_0 hx0) rfl (Nat.le_of_ble_eq_true rfl) (kX1_hasCandidate (sf_7_0 hx0) hq3) rfl ?_
    refine g_if_eq (tgt := 27) dX8_preferred_19 (by decide) (fun b4 => ?_) (fun b4 => ?_)
    · replace h := ifp b4 h
      refine g_iconst (v := -1) dX8_preferred_27 rfl (i32l rfl) ?_
      cases h
      exact g_ireturn dX8_preferred_28 rfl ⟨rfl, rfl⟩
    · replace h := ifn b4 h
      refine g_pc (pc' := 22) rfl ?_
      refine g_iload_n 1 dX8_preferred_22 rfl ?_
      refine g_iload_n 2 dX8_preferred_23 rfl ?_
      refine g_icmp_ne (tgt := 29) dX8_preferred_24 (by decide) (fun b5 => ?_) (fun b5 => ?_)
      · replace h := ifn b5 h
        refine g_aload_n 0 dX8_preferred_29 rfl ?_
        refine g_getR dX8_preferred_30 flX8_14 (by decide) rfl hx0 ?_
        refine g_iload_n 1 dX8_preferred_33 rfl ?_
        refine g_iload_n 2 dX8_preferred_34 rfl ?_
        obtain ⟨q6, hq6, h⟩ := bnd_some h
        refine v_I (ci := 1) (as := [XI x1, XI x2]) dX8_preferred_35 mlX8_240 mdX1_manyAhead mvX1_manyAhead rfl (sf_7_0 hx0) rfl (Nat.le_of_ble_eq_true rfl) (kX1_manyAhead (sf_7_0 hx0) hq6) rfl ?_
        cases h
        exact g_ireturn dX8_preferred_38 rfl ⟨rfl, rfl⟩
      · replace h := ifp b5 h
        refine g_pc (pc' := 27) rfl ?_
        refine g_iconst (v := -1) dX8_preferred_27 rfl (i32l rfl) ?_
        cases h
        exact g_ireturn dX8_preferred_28 rfl ⟨rfl, rfl⟩
end
