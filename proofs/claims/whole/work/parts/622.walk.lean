section
set_option maxHeartbeats 8000000 in
set_option maxRecDepth 20000 in
theorem kX9_rowOf {X : XC} {d : Nat} {x0 : Nat} {x1 : Int} {x2 : Int} (hx0 : Sh x0 = (18, 69)) {M : Mem} {q : Int × Mem} (h : fX9_rowOf x0 x1 x2 M = some q) : Ct X mX9_rowOf (d + 2) [XR x0, XI x1, XI x2] M (pI q) := by
  unfold fX9_rowOf at h
  refine ct_go (by decide +kernel) (Nat.le_of_ble_eq_true rfl) (ls := [(0, XR x0), (1, XI x1), (2, XI x2)]) rfl ?_
  refine g_aload_n 0 dX9_rowOf_0 rfl ?_
  refine g_iload_n 1 dX9_rowOf_1 rfl ?_
  obtain ⟨q1, hq1, h⟩ := bnd_some h
  refine v_I (ci := 8) (as := [XI x1]) dX9_rowOf_2 mlX9_208 mdX9_isBallot mvX9_isBallot rfl hx0 rfl (Nat.le_of_ble_eq_true rfl) (kX9_isBallot hx0 hq1) rfl ?_
  refine g_if_eq (tgt := 29) dX9_rowOf_5 (by decide) (fun b2 => ?_) (fun b2 => ?_)
  · replace h := ifp b2 h
    refine g_iconst (v := -1) dX9_rowOf_29 rfl (i32l rfl) ?_
    cases h
    exact g_ireturn dX9_rowOf_30 rfl ⟨rfl, rfl⟩
  · replace h := ifn b2 h
    refine g_pc (pc' := 8) rfl ?_
    refine g_iload_n 2 dX9_rowOf_8 rfl ?_
    refine g_i2l dX9_rowOf_9 ?_
    refine g_lconst (v := 0) dX9_rowOf_10 rfl (i64l rfl) ?_
    refine g_aload_n 0 dX9_rowOf_11 rfl ?_
    refine g_getR dX9_rowOf_12 flX9_19 (by decide) rfl hx0 ?_
    refine g_iload_n 1 dX9_rowOf_15 rfl ?_
    obtain ⟨c3, h⟩ := chk_some h
    refine g_iald dX9_rowOf_16 (sf_8_4 hx0) c3.1 c3.2 ?_
    obtain ⟨q4, hq4, h⟩ := bnd_some h
    refine s_I (as := [XI (q1.2 (x0 + 5) (Int.toNat x1))]) dX9_rowOf_17 mlX9_177 mdX9_lengthOf msX9_lengthOf rfl (Nat.le_of_ble_eq_true rfl) (kX9_lengthOf  hq4) rfl ?_
    refine g_pc (pc' := 20) rfl ?_
    refine g_iconst (v := 1) dX9_rowOf_20 rfl (i32l rfl) ?_
    obtain ⟨c5, h⟩ := chk_some h
    refine g_isub dX9_rowOf_21 rfl c5 ?_
    refine g_i2l dX9_rowOf_22 ?_
    obtain ⟨q6, hq6, h⟩ := bnd_some h
    refine s_I (as := [XL x2, XL 0, XL (q4.1 - 1)]) dX9_rowOf_23 mlX9_170 mdX9_in msX9_in rfl (Nat.le_of_ble_eq_true rfl) (kX9_in  hq6) rfl ?_
    refine g_if_ne (tgt := 31) dX9_rowOf_26 (by decide) (fun b7 => ?_) (fun b7 => ?_)
    · replace h := ifn b7 h
      refine g_aload_n 0 dX9_rowOf_31 rfl ?_
      refine g_getR dX9_rowOf_32 flX9_19 (by decide) rfl hx0 ?_
      refine g_iload_n 1 dX9_rowOf_35 rfl ?_
      obtain ⟨c8, h⟩ := chk_some h
      refine g_iald dX9_rowOf_36 (sf_8_4 hx0) c8.1 c8.2 ?_
      refine g_iload_n 2 dX9_rowOf_37 rfl ?_
      obtain ⟨q9, hq9, h⟩ := bnd_some h
      refine s_I (as := [XI (q6.2 (x0 + 5) (Int.toNat x1)), XI x2]) dX9_rowOf_38 mlX9_181 mdX9_digitAt msX9_digitAt rfl (Nat.le_of_ble_eq_true rfl) (kX9_digitAt  hq9) rfl ?_
      refine g_iconst (v := 1) dX9_rowOf_41 rfl (i32l rfl) ?_
      obtain ⟨c10, h⟩ := chk_some h
      refine g_isub dX9_rowOf_42 rfl c10 ?_
      refine g_pc (pc' := 43) rfl ?_
      cases h
      exact g_ireturn dX9_rowOf_43 rfl ⟨rfl, rfl⟩
    · replace h := ifp b7 h
      refine g_pc (pc' := 29) rfl ?_
      refine g_iconst (v := -1) dX9_rowOf_29 rfl (i32l rfl) ?_
      cases h
      exact g_ireturn dX9_rowOf_30 rfl ⟨rfl, rfl⟩
set_option maxHeartbeats 8000000 in
set_option maxRecDepth 20000 in
theorem kX9_told {X : XC} {d : Nat} {x0 : Nat} {x1 : Int} (hx0 : Sh x0 = (18, 69)) {M : Mem} {q : Int × Mem} (h : fX9_told x0 x1 M = some q) : Ct X mX9_told (d + 7) [XR x0, XI x1] M (pI q) := by
  unfold fX9_told at h
  refine ct_go (by decide +kernel) (Nat.le_of_ble_eq_true rfl) (ls := [(0, XR x0), (1, XI x1)]) rfl ?_
  refine g_iload_n 1 dX9_told_0 rfl ?_
  refine g_i2l dX9_told_1 ?_
  refine g_lconst (v := 0) dX9_told_2 rfl (i64l rfl) ?_
  refine g_ldc2 (v := 8) dX9_told_3 csX9_318 (by decide +kernel) (i64l rfl) ?_
  obtain ⟨q1, hq1, h⟩ := bnd_some h
  refine s_I (as := [XL x1, XL 0, XL 8]) dX9_told_6 mlX9_170 mdX9_in msX9_in rfl (Nat.le_of_ble_eq_true rfl) (kX9_in  hq1) rfl ?_
  refine g_if_ne (tgt := 14) dX9_told_9 (by decide) (fun b2 => ?_) (fun b2 => ?_)
  · replace h := ifn b2 h
    refine g_aload_n 0 dX9_told_14 rfl ?_
    obtain ⟨q3, hq3, h⟩ := bnd_some h
    refine v_I (ci := 8) (as := []) dX9_told_15 mlX9_320 mdX9_electedSet mvX9_electedSet rfl hx0 rfl (Nat.le_of_ble_eq_true rfl) (kX9_electedSet hx0 hq3) rfl ?_
    refine g_nmI (fun v4 ev4 => ?_)
    replace h := nm_s ev4 h
    refine g_istore_n (ls' := [(2, XI v4), (0, XR x0), (1, XI x1)]) dX9_told_18 (by decide) rfl ?_
    refine g_iload_n 2 dX9_told_19 rfl ?_
    by_cases b5 : x1 = 0
    · replace h := ifp b5 h
      refine g_tswIn (off := 48) (tgt := 68) dX9_told_20 (by rw [b5]; decide) (by rw [b5]; decide) (by rw [b5]; rfl) (by decide) ?_
      refine g_aload_n 1 dX9_told_68 rfl ?_
      refine g_getI dX9_told_69 flX9_167 (by decide) rfl hx0 ?_
      cases h
      exact g_ireturn dX9_told_72 rfl ⟨rfl, rfl⟩
    · replace h := ifn b5 h
      by_cases b6 : x1 = 1
      · replace h := ifp b6 h
        refine g_tswIn (off := 53) (tgt := 73) dX9_told_20 (by rw [b6]; decide) (by rw [b6]; decide) (by rw [b6]; rfl) (by decide) ?_
        refine g_aload_n 1 dX9_told_73 rfl ?_
        refine g_getI dX9_told_74 flX9_174 (by decide) rfl hx0 ?_
        cases h
        exact g_ireturn dX9_told_77 rfl ⟨rfl, rfl⟩
      · replace h := ifn b6 h
        by_cases b7 : x1 = 2
        · replace h := ifp b7 h
          refine g_tswIn (off := 58) (tgt := 78) dX9_told_20 (by rw [b7]; decide) (by rw [b7]; decide) (by rw [b7]; rfl) (by decide) ?_
          refine g_aload_n 1 dX9_told_78 rfl ?_
          refine g_getI dX9_told_79 flX9_248 (by decide) rfl hx0 ?_
          cases h
          exact g_ireturn dX9_told_82 rfl ⟨rfl, rfl⟩
        · replace h := ifn b7 h
          by_cases b8 : x1 = 3
          · replace h := ifp b8 h
            refine g_tswIn (off := 63) (tgt := 83) dX9_told_20 (by rw [b8]; decide) (by rw [b8]; decide) (by rw [b8]; rfl) (by decide) ?_
            refine g_aload_n 1 dX9_told_83 rfl ?_
            refine g_getI dX9_told_84 flX9_25 (by decide) rfl hx0 ?_
            cases h
            exact g_ireturn dX9_told_87 rfl ⟨rfl, rfl⟩
          · replace h := ifn b8 h
            by_cases b9 : x1 = 4
            · replace h := ifp b9 h
              refine g_tswIn (off := 68) (tgt := 88) dX9_told_20 (by rw [b9]; decide) (by rw [b9]; decide) (by rw [b9]; rfl) (by decide) ?_
              refine g_aload_n 1 dX9_told_88 rfl ?_
              refine g_getI dX9_told_89 flX9_29 (by decide) rfl hx0 ?_
              cases h
              exact g_ireturn dX9_told_92 rfl ⟨rfl, rfl⟩
            · replace h := ifn b9 h
              by_cases b10 : x1 = 5
              · replace h := ifp b10 h
                refine g_tswIn (off := 73) (tgt := 93) dX9_told_20 (by rw [b10]; decide) (by rw [b10]; decide) (by rw [b10]; rfl) (by decide) ?_
                refine g_aload_n 1 dX9_told_93 rfl ?_
                refine g_getI dX9_told_94 flX9_32 (by decide) rfl hx0 ?_
                cases h
                exact g_ireturn dX9_told_97 rfl ⟨rfl, rfl⟩
              · replace h := ifn b10 h
                by_cases b11 : x1 = 6
                · replace h := ifp b11 h
                  refine g_tswIn (off := 78) (tgt := 98) dX9_told_20 (by rw [b11]; decide) (by rw [b11]; decide) (by rw [b11]; rfl) (by decide) ?_
                  refine g_aload_n 1 dX9_told_98 rfl ?_
                  refine g_getI dX9_told_99 flX9_251 (by decide) rfl hx0 ?_
                  cases h
                  exact g_ireturn dX9_told_102 rfl ⟨rfl, rfl⟩
                · replace h := ifn b11 h
                  by_cases b12 : x1 = 7
                  · replace h := ifp b12 h
                    refine g_tswIn (off := 83) (tgt := 103) dX9_told_20 (by rw [b12]; decide) (by rw [b12]; decide) (by rw [b12]; rfl) (by decide) ?_
                    refine g_iload_n 0 dX9_told_103 rfl ?_
                    cases h
                    exact g_ireturn dX9_told_104 rfl ⟨rfl, rfl⟩
                  · replace h := ifn b12 h
                    refine g_tswOut (tgt := 105) dX9_told_20 (by omega) (by decide) ?_
                    refine g_aload_n 1 dX9_told_105 rfl ?_
                    refine g_getI dX9_told_106 flX9_225 (by decide) rfl hx0 ?_
                    cases h
                    exact g_ireturn dX9_told_109 rfl ⟨rfl, rfl⟩
  · replace h := ifp b2 h
    refine g_pc (pc' := 12) rfl ?_
    refine g_iconst (v := -1) dX9_told_12 rfl (i32l rfl) ?_
    cases h
    exact g_ireturn dX9_told_13 rfl ⟨rfl, rfl⟩
set_option maxHeartbeats 8000000 in
set_option maxRecDepth 20000 in
theorem kX9_isStage {X : XC} {d : Nat} {x0 : Nat} {x1 : Int} (hx0 : Sh x0 = (18, 69)) {M : Mem} {q : Int × Mem} (h : fX9_isStage x0 x1 M = some q) : Ct X mX9_isStage (d + 6) [XR x0, XI x1] M (pI q) := by
  unfold fX9_isStage at h
  refine ct_go (by decide +kernel) (Nat.le_of_ble_eq_true rfl) (ls := [(0, XR x0), (1, XI x1)]) rfl ?_
  refine g_aload_n 0 dX9_isStage_0 rfl ?_
  obtain ⟨q1, hq1, h⟩ := bnd_some h
  refine v_V (ci := 8) (as := []) dX9_isStage_1 mlX9_310 mdX9_counts mvX9_counts rfl hx0 rfl (Nat.le_of_ble_eq_true rfl) (kX9_counts hx0 hq1) rfl ?_
  refine g_iload_n 1 dX9_isStage_4 rfl ?_
  refine g_i2l dX9_isStage_5 ?_
  refine g_lconst (v := 0) dX9_isStage_6 rfl (i64l rfl) ?_
  refine g_aload_n 0 dX9_isStage_7 rfl ?_
  refine g_getI dX9_isStage_8 flX9_248 (by decide) rfl hx0 ?_
  refine g_iconst (v := 1) dX9_isStage_11 rfl (i32l rfl) ?_
  refine g_pc (pc' := 12) rfl ?_
  obtain ⟨c2, h⟩ := chk_some h
  refine g_isub dX9_isStage_12 rfl c2 ?_
  refine g_i2l dX9_isStage_13 ?_
  obtain ⟨q3, hq3, h⟩ := bnd_some h
  refine s_I (as := [XL x1, XL 0, XL ((q1.2 x0 22) - 1)]) dX9_isStage_14 mlX9_170 mdX9_in msX9_in rfl (Nat.le_of_ble_eq_true rfl) (kX9_in  hq3) rfl ?_
  obtain ⟨cz, h⟩ := chk_some h
  cases h
  exact g_zreturn dX9_isStage_17 rfl cz ⟨rfl, rfl⟩
set_option maxHeartbeats 8000000 in
set_option maxRecDepth 20000 in
theorem kX9_stageOf {X : XC} {d : Nat} {x0 : Nat} {x1 : Int} {x2 : Int} (hx0 : Sh x0 = (18, 69)) {M : Mem} {q : Int × Mem} (h : fX9_stageOf x0 x1 x2 M = some q) : Ct X mX9_stageOf (d + 7) [XR x0, XI x1, XI x2] M (pI q) := by
  unfold fX9_stageOf at h
  refine ct_go (by decide +kernel) (Nat.le_of_ble_eq_true rfl) (ls := [(0, XR x0), (1, XI x1), (2, XI x2)]) rfl ?_
  refine g_aload_n 0 dX9_stageOf_0 rfl ?_
  refine g_iload_n 1 dX9_stageOf_1 rfl ?_
  obtain ⟨q1, hq1, h⟩ := bnd_some h
  refine v_I (ci := 8) (as := [XI x1]) dX9_stageOf_2 mlX9_323 mdX9_isStage mvX9_isStage rfl hx0 rfl (Nat.le_of_ble_eq_true rfl) (kX9_isStage hx0 hq1) rfl ?_
  refine g_if_eq (tgt := 20) dX9_stageOf_5 (by decide) (fun b2 => ?_) (fun b2 => ?_)
  · replace h := ifp b2 h
    refine g_iconst (v := -1) dX9_stageOf_20 rfl (i32l rfl) ?_
    cases h
    exact g_ireturn dX9_stageOf_21 rfl ⟨rfl, rfl⟩
  · replace h := ifn b2 h
    refine g_pc (pc' := 8) rfl ?_
    refine g_iload_n 2 dX9_stageOf_8 rfl ?_
    refine g_i2l dX9_stageOf_9 ?_
    refine g_lconst (v := 0) dX9_stageOf_10 rfl (i64l rfl) ?_
    refine g_ldc2 (v := 2) dX9_stageOf_11 csX9_214 (by decide +kernel) (i64l rfl) ?_
    obtain ⟨q3, hq3, h⟩ := bnd_some h
    refine s_I (as := [XL x2, XL 0, XL 2]) dX9_stageOf_14 mlX9_170 mdX9_in msX9_in rfl (Nat.le_of_ble_eq_true rfl) (kX9_in  hq3) rfl ?_
    refine g_if_ne (tgt := 22) dX9_stageOf_17 (by decide) (fun b4 => ?_) (fun b4 => ?_)
    · replace h := ifn b4 h
      refine g_iload_n 2 dX9_stageOf_22 rfl ?_
      obtain ⟨t10, ht10, h⟩ := bnd_some h
      have Kt10 : Go X mX9_stageOf (d + 7) 55 [] [XI t10] q3.2 (pI q) := by
        cases h
        exact g_ireturn dX9_stageOf_55 rfl ⟨rfl, rfl⟩
      refine g_if_ne (tgt := 35) dX9_stageOf_23 (by decide) (fun b11 => ?_) (fun b11 => ?_)
      · replace ht10 := ifn b11 ht10
        refine g_iload_n 2 dX9_stageOf_35 rfl ?_
        refine g_iconst (v := 1) dX9_stageOf_36 rfl (i32l rfl) ?_
        refine g_icmp_ne (tgt := 49) dX9_stageOf_37 (by decide) (fun b12 => ?_) (fun b12 => ?_)
        · replace ht10 := ifn b12 ht10
          refine g_aload_n 0 dX9_stageOf_49 rfl ?_
          refine g_getR dX9_stageOf_50 flX9_102 (by decide) rfl hx0 ?_
          refine g_iload_n 1 dX9_stageOf_53 rfl ?_
          obtain ⟨c13, ht10⟩ := chk_some ht10
          refine g_iald dX9_stageOf_54 (sf_8_41 hx0) c13.1 c13.2 ?_
          cases ht10
          exact g_sub [] rfl Kt10
        · replace ht10 := ifp b12 ht10
          refine g_pc (pc' := 40) rfl ?_
          refine g_aload_n 0 dX9_stageOf_40 rfl ?_
          refine g_getR dX9_stageOf_41 flX9_99 (by decide) rfl hx0 ?_
          refine g_iload_n 1 dX9_stageOf_44 rfl ?_
          obtain ⟨c14, ht10⟩ := chk_some ht10
          refine g_iald dX9_stageOf_45 (sf_8_40 hx0) c14.1 c14.2 ?_
          refine g_goto (tgt := 55) dX9_stageOf_46 (by decide) ?_
          cases ht10
          exact g_sub [] rfl Kt10
      · replace ht10 := ifp b11 ht10
        refine g_pc (pc' := 26) rfl ?_
        refine g_aload_n 0 dX9_stageOf_26 rfl ?_
        refine g_getR dX9_stageOf_27 flX9_96 (by decide) rfl hx0 ?_
        refine g_iload_n 1 dX9_stageOf_30 rfl ?_
        obtain ⟨c15, ht10⟩ := chk_some ht10
        refine g_iald dX9_stageOf_31 (sf_8_39 hx0) c15.1 c15.2 ?_
        refine g_goto (tgt := 55) dX9_stageOf_32 (by decide) ?_
        cases ht10
        exact g_sub [] rfl Kt10
    · replace h := ifp b4 h
      refine g_pc (pc' := 20) rfl ?_
      refine g_iconst (v := -1) dX9_stageOf_20 rfl (i32l rfl) ?_
      cases h
      exact g_ireturn dX9_stageOf_21 rfl ⟨rfl, rfl⟩
set_option maxHeartbeats 8000000 in
set_option maxRecDepth 20000 in
theorem kX9_amount {X : XC} {d : Nat} {x0 : Nat} {x1 : Int} {x2 : Int} (hx0 : Sh x0 = (18, 69)) {M : Mem} {q : Int × Mem} (h : fX9_amount x0 x1 x2 M = some q) : Ct X mX9_amount (d + 7) [XR x0, XI x1, XI x2] M (pJ q) := by
  unfold fX9_amount at h
  refine ct_go (by decide +kernel) (Nat.le_of_ble_eq_true rfl) (ls := [(0, XR x0), (1, XI x1), (2, XI x2)]) rfl ?_
  refine g_aload_n 0 dX9_amount_0 rfl ?_
  refine g_iload_n 1 dX9_amount_1 rfl ?_
  obtain ⟨q1, hq1, h⟩ := bnd_some h
  refine v_I (ci := 8) (as := [XI x1]) dX9_amount_2 mlX9_323 mdX9_isStage mvX9_isStage rfl hx0 rfl (Nat.le_of_ble_eq_true rfl) (kX9_isStage hx0 hq1) rfl ?_
  refine g_if_eq (tgt := 20) dX9_amount_5 (by decide) (fun b2 => ?_) (fun b2 => ?_)
  · replace h := ifp b2 h
    refine g_ldc2 (v := -9223372036854775808) dX9_amount_20 csX9_326 (by decide +kernel) (i64l rfl) ?_
    cases h
    exact g_lreturn dX9_amount_23 rfl ⟨rfl, rfl⟩
  · replace h := ifn b2 h
    refine g_pc (pc' := 8) rfl ?_
    refine g_iload_n 2 dX9_amount_8 rfl ?_
    refine g_i2l dX9_amount_9 ?_
    refine g_lconst (v := 0) dX9_amount_10 rfl (i64l rfl) ?_
    refine g_ldc2 (v := 3) dX9_amount_11 csX9_313 (by decide +kernel) (i64l rfl) ?_
    obtain ⟨q3, hq3, h⟩ := bnd_some h
    refine s_I (as := [XL x2, XL 0, XL 3]) dX9_amount_14 mlX9_170 mdX9_in msX9_in rfl (Nat.le_of_ble_eq_true rfl) (kX9_in  hq3) rfl ?_
    refine g_if_ne (tgt := 24) dX9_amount_17 (by decide) (fun b4 => ?_) (fun b4 => ?_)
    · replace h := ifn b4 h
      refine g_iload_n 2 dX9_amount_24 rfl ?_
      obtain ⟨t12, ht12, h⟩ := bnd_some h
      have Kt12 : Go X mX9_amount (d + 7) 71 [] [XL t12] q3.2 (pJ q) := by
        cases h
        exact g_lreturn dX9_amount_71 rfl ⟨rfl, rfl⟩
      refine g_if_ne (tgt := 37) dX9_amount_25 (by decide) (fun b13 => ?_) (fun b13 => ?_)
      · replace ht12 := ifn b13 ht12
        refine g_iload_n 2 dX9_amount_37 rfl ?_
        refine g_iconst (v := 1) dX9_amount_38 rfl (i32l rfl) ?_
        refine g_icmp_ne (tgt := 51) dX9_amount_39 (by decide) (fun b14 => ?_) (fun b14 => ?_)
        · replace ht12 := ifn b14 ht12
          refine g_iload_n 2 dX9_amount_51 rfl ?_
          refine g_iconst (v := 2) dX9_amount_52 rfl (i32l rfl) ?_
          refine g_icmp_ne (tgt := 65) dX9_amount_53 (by decide) (fun b15 => ?_) (fun b15 => ?_)
          · replace ht12 := ifn b15 ht12
            refine g_aload_n 0 dX9_amount_65 rfl ?_
            refine g_getR dX9_amount_66 flX9_90 (by decide) rfl hx0 ?_
            refine g_iload_n 1 dX9_amount_69 rfl ?_
            obtain ⟨c16, ht12⟩ := chk_some ht12
            refine g_lald dX9_amount_70 (sf_8_37 hx0) c16.1 c16.2 ?_
            cases ht12
            exact g_sub [] rfl Kt12
          · replace ht12 := ifp b15 ht12
            refine g_pc (pc' := 56) rfl ?_
            refine g_aload_n 0 dX9_amount_56 rfl ?_
            refine g_getR dX9_amount_57 flX9_87 (by decide) rfl hx0 ?_
            refine g_iload_n 1 dX9_amount_60 rfl ?_
            obtain ⟨c17, ht12⟩ := chk_some ht12
            refine g_lald dX9_amount_61 (sf_8_36 hx0) c17.1 c17.2 ?_
            refine g_goto (tgt := 71) dX9_amount_62 (by decide) ?_
            cases ht12
            exact g_sub [] rfl Kt12
        · replace ht12 := ifp b14 ht12
          refine g_pc (pc' := 42) rfl ?_
          refine g_aload_n 0 dX9_amount_42 rfl ?_
          refine g_getR dX9_amount_43 flX9_84 (by decide) rfl hx0 ?_
          refine g_iload_n 1 dX9_amount_46 rfl ?_
          obtain ⟨c18, ht12⟩ := chk_some ht12
          refine g_lald dX9_amount_47 (sf_8_35 hx0) c18.1 c18.2 ?_
          refine g_goto (tgt := 71) dX9_amount_48 (by decide) ?_
          cases ht12
          exact g_sub [] rfl Kt12
      · replace ht12 := ifp b13 ht12
        refine g_pc (pc' := 28) rfl ?_
        refine g_aload_n 0 dX9_amount_28 rfl ?_
        refine g_getR dX9_amount_29 flX9_81 (by decide) rfl hx0 ?_
        refine g_iload_n 1 dX9_amount_32 rfl ?_
        obtain ⟨c19, ht12⟩ := chk_some ht12
        refine g_lald dX9_amount_33 (sf_8_34 hx0) c19.1 c19.2 ?_
        refine g_goto (tgt := 71) dX9_amount_34 (by decide) ?_
        cases ht12
        exact g_sub [] rfl Kt12
    · replace h := ifp b4 h
      refine g_pc (pc' := 20) rfl ?_
      refine g_ldc2 (v := -9223372036854775808) dX9_amount_20 csX9_326 (by decide +kernel) (i64l rfl) ?_
      cases h
      exact g_lreturn dX9_amount_23 rfl ⟨rfl, rfl⟩
set_option maxHeartbeats 8000000 in
set_option maxRecDepth 20000 in
theorem kX9_votes {X : XC} {d : Nat} {x0 : Nat} {x1 : Int} {x2 : Int} {x3 : Int} (hx0 : Sh x0 = (18, 69)) {M : Mem} {q : Int × Mem} (h : fX9_votes x0 x1 x2 x3 M = some q) : Ct X mX9_votes (d + 7) [XR x0, XI x1, XI x2, XI x3] M (pJ q) := by
  unfold fX9_votes at h
  refine ct_go (by decide +kernel) (Nat.le_of_ble_eq_true rfl) (ls := [(0, XR x0), (1, XI x1), (2, XI x2), (3, XI x3)]) rfl ?_
  refine g_aload_n 0 dX9_votes_0 rfl ?_
  refine g_iload_n 1 dX9_votes_1 rfl ?_
  obtain ⟨q1, hq1, h⟩ := bnd_some h
  refine v_I (ci := 8) (as := [XI x1]) dX9_votes_2 mlX9_323 mdX9_isStage mvX9_isStage rfl hx0 rfl (Nat.le_of_ble_eq_true rfl) (kX9_isStage hx0 hq1) rfl ?_
  refine g_if_eq (tgt := 26) dX9_votes_5 (by decide) (fun b2 => ?_) (fun b2 => ?_)
  · replace h := ifp b2 h
    refine g_ldc2 (v := -9223372036854775808) dX9_votes_26 csX9_326 (by decide +kernel) (i64l rfl) ?_
    cases h
    exact g_lreturn dX9_votes_29 rfl ⟨rfl, rfl⟩
  · replace h := ifn b2 h
    refine g_pc (pc' := 8) rfl ?_
    refine g_aload_n 0 dX9_votes_8 rfl ?_
    refine g_iload_n 2 dX9_votes_9 rfl ?_
    obtain ⟨q3, hq3, h⟩ := bnd_some h
    refine v_I (ci := 8) (as := [XI x2]) dX9_votes_10 mlX9_211 mdX9_isOne mvX9_isOne rfl hx0 rfl (Nat.le_of_ble_eq_true rfl) (kX9_isOne hx0 hq3) rfl ?_
    refine g_if_eq (tgt := 26) dX9_votes_13 (by decide) (fun b4 => ?_) (fun b4 => ?_)
    · replace h := ifp b4 h
      refine g_ldc2 (v := -9223372036854775808) dX9_votes_26 csX9_326 (by decide +kernel) (i64l rfl) ?_
      cases h
      exact g_lreturn dX9_votes_29 rfl ⟨rfl, rfl⟩
    · replace h := ifn b4 h
      refine g_pc (pc' := 16) rfl ?_
      refine g_iload_n 3 dX9_votes_16 rfl ?_
      refine g_i2l dX9_votes_17 ?_
      refine g_lconst (v := 0) dX9_votes_18 rfl (i64l rfl) ?_
      refine g_lconst (v := 1) dX9_votes_19 rfl (i64l rfl) ?_
      obtain ⟨q5, hq5, h⟩ := bnd_some h
      refine s_I (as := [XL x3, XL 0, XL 1]) dX9_votes_20 mlX9_170 mdX9_in msX9_in rfl (Nat.le_of_ble_eq_true rfl) (kX9_in  hq5) rfl ?_
      refine g_if_ne (tgt := 30) dX9_votes_23 (by decide) (fun b6 => ?_) (fun b6 => ?_)
      · replace h := ifn b6 h
        refine g_iload_n 3 dX9_votes_30 rfl ?_
        obtain ⟨t14, ht14, h⟩ := bnd_some h
        have Kt14 : Go X mX9_votes (d + 7) 60 [] [XL t14] q5.2 (pJ q) := by
          cases h
          exact g_lreturn dX9_votes_60 rfl ⟨rfl, rfl⟩
        refine g_if_ne (tgt := 48) dX9_votes_31 (by decide) (fun b15 => ?_) (fun b15 => ?_)
        · replace ht14 := ifn b15 ht14
          refine g_aload_n 0 dX9_votes_48 rfl ?_
          refine g_getR dX9_votes_49 flX9_93 (by decide) rfl hx0 ?_
          refine g_bip dX9_votes_52 rfl ?_
          refine g_iload_n 1 dX9_votes_54 rfl ?_
          obtain ⟨c16, ht14⟩ := chk_some ht14
          refine g_imul dX9_votes_55 rfl c16 ?_
          refine g_iload_n 2 dX9_votes_56 rfl ?_
          obtain ⟨c17, ht14⟩ := chk_some ht14
          refine g_iadd dX9_votes_57 rfl c17 ?_
          obtain ⟨c18, ht14⟩ := chk_some ht14
          refine g_iald dX9_votes_58 (sf_8_38 hx0) c18.1 c18.2 ?_
          refine g_pc (pc' := 59) rfl ?_
          refine g_i2l dX9_votes_59 ?_
          cases ht14
          exact g_sub [] rfl Kt14
        · replace ht14 := ifp b15 ht14
          refine g_pc (pc' := 34) rfl ?_
          refine g_aload_n 0 dX9_votes_34 rfl ?_
          refine g_getR dX9_votes_35 flX9_78 (by decide) rfl hx0 ?_
          refine g_bip dX9_votes_38 rfl ?_
          refine g_iload_n 1 dX9_votes_40 rfl ?_
          obtain ⟨c19, ht14⟩ := chk_some ht14
          refine g_imul dX9_votes_41 rfl c19 ?_
          refine g_iload_n 2 dX9_votes_42 rfl ?_
          obtain ⟨c20, ht14⟩ := chk_some ht14
          refine g_iadd dX9_votes_43 rfl c20 ?_
          obtain ⟨c21, ht14⟩ := chk_some ht14
          refine g_lald dX9_votes_44 (sf_8_33 hx0) c21.1 c21.2 ?_
          refine g_pc (pc' := 45) rfl ?_
          refine g_goto (tgt := 60) dX9_votes_45 (by decide) ?_
          cases ht14
          exact g_sub [] rfl Kt14
      · replace h := ifp b6 h
        refine g_pc (pc' := 26) rfl ?_
        refine g_ldc2 (v := -9223372036854775808) dX9_votes_26 csX9_326 (by decide +kernel) (i64l rfl) ?_
        cases h
        exact g_lreturn dX9_votes_29 rfl ⟨rfl, rfl⟩
set_option maxHeartbeats 8000000 in
set_option maxRecDepth 20000 in
theorem kX9_elected {X : XC} {d : Nat} {x0 : Nat} {x1 : Int} (hx0 : Sh x0 = (18, 69)) {M : Mem} {q : Int × Mem} (h : fX9_elected x0 x1 M = some q) : Ct X mX9_elected (d + 6) [XR x0, XI x1] M (pI q) := by
  unfold fX9_elected at h
  refine ct_go (by decide +kernel) (Nat.le_of_ble_eq_true rfl) (ls := [(0, XR x0), (1, XI x1)]) rfl ?_
  refine g_aload_n 0 dX9_elected_0 rfl ?_
  obtain ⟨q1, hq1, h⟩ := bnd_some h
  refine v_V (ci := 8) (as := []) dX9_elected_1 mlX9_310 mdX9_counts mvX9_counts rfl hx0 rfl (Nat.le_of_ble_eq_true rfl) (kX9_counts hx0 hq1) rfl ?_
  refine g_iload_n 1 dX9_elected_4 rfl ?_
  refine g_i2l dX9_elected_5 ?_
  refine g_lconst (v := 0) dX9_elected_6 rfl (i64l rfl) ?_
  refine g_aload_n 0 dX9_elected_7 rfl ?_
  refine g_getI dX9_elected_8 flX9_251 (by decide) rfl hx0 ?_
  refine g_iconst (v := 1) dX9_elected_11 rfl (i32l rfl) ?_
  refine g_pc (pc' := 12) rfl ?_
  obtain ⟨c2, h⟩ := chk_some h
  refine g_isub dX9_elected_12 rfl c2 ?_
  refine g_i2l dX9_elected_13 ?_
  obtain ⟨q3, hq3, h⟩ := bnd_some h
  refine s_I (as := [XL x1, XL 0, XL ((q1.2 x0 23) - 1)]) dX9_elected_14 mlX9_170 mdX9_in msX9_in rfl (Nat.le_of_ble_eq_true rfl) (kX9_in  hq3) rfl ?_
  obtain ⟨t6, ht6, h⟩ := bnd_some h
  have Kt6 : Go X mX9_elected (d + 6) 31 [] [XI t6] q3.2 (pI q) := by
    cases h
    exact g_ireturn dX9_elected_31 rfl ⟨rfl, rfl⟩
  refine g_if_eq (tgt := 29) dX9_elected_17 (by decide) (fun b7 => ?_) (fun b7 => ?_)
  · replace ht6 := ifp b7 ht6
    refine g_bip dX9_elected_29 rfl ?_
    cases ht6
    exact g_sub [] rfl Kt6
  · replace ht6 := ifn b7 ht6
    refine g_pc (pc' := 20) rfl ?_
    refine g_aload_n 0 dX9_elected_20 rfl ?_
    refine g_getR dX9_elected_21 flX9_71 (by decide) rfl hx0 ?_
    refine g_iload_n 1 dX9_elected_24 rfl ?_
    obtain ⟨c8, ht6⟩ := chk_some ht6
    refine g_iald dX9_elected_25 (sf_8_27 hx0) c8.1 c8.2 ?_
    refine g_goto (tgt := 31) dX9_elected_26 (by decide) ?_
    cases ht6
    exact g_sub [] rfl Kt6
set_option maxHeartbeats 8000000 in
set_option maxRecDepth 20000 in
theorem kX9_isBefore {X : XC} {d : Nat} {x0 : Nat} {x1 : Int} {x2 : Int} {x3 : Int} (hx0 : Sh x0 = (18, 69)) {M : Mem} {q : Int × Mem} (h : fX9_isBefore x0 x1 x2 x3 M = some q) : Ct X mX9_isBefore (d + 1) [XR x0, XI x1, XI x2, XI x3] M (pI q) := by
  unfold fX9_isBefore at h
  refine ct_go (by decide +kernel) (Nat.le_of_ble_eq_true rfl) (ls := [(0, XR x0), (1, XI x1), (2, XI x2), (3, XI x3)]) rfl ?_
  refine g_aload_n 0 dX9_isBefore_0 rfl ?_
  refine g_getR dX9_isBefore_1 flX9_78 (by decide) rfl hx0 ?_
  refine g_bip dX9_isBefore_4 rfl ?_
  refine g_iload_n 3 dX9_isBefore_6 rfl ?_
  obtain ⟨c1, h⟩ := chk_some h
  refine g_imul dX9_isBefore_7 rfl c1 ?_
  refine g_iload_n 1 dX9_isBefore_8 rfl ?_
  obtain ⟨c2, h⟩ := chk_some h
  refine g_iadd dX9_isBefore_9 rfl c2 ?_
  obtain ⟨c3, h⟩ := chk_some h
  refine g_lald dX9_isBefore_10 (sf_8_33 hx0) c3.1 c3.2 ?_
  refine g_pc (pc' := 11) rfl ?_
  refine g_nmL (fun v4 ev4 => ?_)
  replace h := nm_s ev4 h
  refine g_lstore (ls' := [(4, XL v4), (0, XR x0), (1, XI x1), (2, XI x2), (3, XI x3)]) dX9_isBefore_11 (by decide) rfl ?_
  refine g_aload_n 1 dX9_isBefore_13 rfl ?_
  refine g_getR dX9_isBefore_14 flX9_78 (by decide) rfl hx0 ?_
  refine g_bip dX9_isBefore_17 rfl ?_
  refine g_iload_n 4 dX9_isBefore_19 rfl ?_
  obtain ⟨c5, h⟩ := chk_some h
  refine g_imul dX9_isBefore_20 rfl c5 ?_
  refine g_iload_n 3 dX9_isBefore_21 rfl ?_
  obtain ⟨c6, h⟩ := chk_some h
  refine g_iadd dX9_isBefore_22 rfl c6 ?_
  obtain ⟨c7, h⟩ := chk_some h
  refine g_lald dX9_isBefore_23 (sf_8_33 hx0) c7.1 c7.2 ?_
  refine g_pc (pc' := 24) rfl ?_
  refine g_nmL (fun v8 ev8 => ?_)
  replace h := nm_s ev8 h
  refine g_lstore (ls' := [(6, XL v8), (4, XL v4), (0, XR x0), (1, XI x1), (2, XI x2), (3, XI x3)]) dX9_isBefore_24 (by decide) rfl ?_
  refine g_lload 1 dX9_isBefore_26 rfl ?_
  refine g_lload 0 dX9_isBefore_28 rfl ?_
  obtain ⟨t14, ht14, h⟩ := bnd_some h
  have Kt14 : Go X mX9_isBefore (d + 1) 60 [] [XI t14.1] t14.2 (pI q) := by
    obtain ⟨cz, h⟩ := chk_some h
    cases h
    exact g_zreturn dX9_isBefore_60 rfl cz ⟨rfl, rfl⟩
  refine g_lcmp_gt (tgt := 55) dX9_isBefore_30 dX9_isBefore_31 (by decide) (fun b15 => ?_) (fun b15 => ?_)
  · replace ht14 := ifp b15 ht14
    refine g_iconst (v := 1) dX9_isBefore_55 rfl (i32l rfl) ?_
    refine g_goto (tgt := 60) dX9_isBefore_56 (by decide) ?_
    cases ht14
    exact g_sub [] rfl Kt14
  · replace ht14 := ifn b15 ht14
    refine g_pc (pc' := 34) rfl ?_
    refine g_lload 1 dX9_isBefore_34 rfl ?_
    refine g_lload 0 dX9_isBefore_36 rfl ?_
    refine g_lcmp_ne (tgt := 59) dX9_isBefore_38 dX9_isBefore_39 (by decide) (fun b16 => ?_) (fun b16 => ?_)
    · replace ht14 := ifn b16 ht14
      refine g_iconst (v := 0) dX9_isBefore_59 rfl (i32l rfl) ?_
      cases ht14
      exact g_sub [] rfl Kt14
    · replace ht14 := ifp b16 ht14
      refine g_pc (pc' := 42) rfl ?_
      refine g_aload_n 2 dX9_isBefore_42 rfl ?_
      refine g_iload_n 3 dX9_isBefore_43 rfl ?_
      obtain ⟨q17, hq17, ht14⟩ := bnd_some ht14
      refine v_I (ci := 8) (as := [XI x1]) dX9_isBefore_44 mlX9_245 mdX9_lotOf mvX9_lotOf rfl hx0 rfl (Nat.le_of_ble_eq_true rfl) (kX9_lotOf hx0 hq17) rfl ?_
      refine g_aload_n 2 dX9_isBefore_47 rfl ?_
      refine g_iload_n 4 dX9_isBefore_48 rfl ?_
      obtain ⟨q18, hq18, ht14⟩ := bnd_some ht14
      refine v_I (ci := 8) (as := [XI x2]) dX9_isBefore_49 mlX9_245 mdX9_lotOf mvX9_lotOf rfl hx0 rfl (Nat.le_of_ble_eq_true rfl) (kX9_lotOf hx0 hq18) rfl ?_
      refine g_icmp_ge (tgt := 59) dX9_isBefore_52 (by decide) (fun b19 => ?_) (fun b19 => ?_)
      · replace ht14 := ifp b19 ht14
        refine g_iconst (v := 0) dX9_isBefore_59 rfl (i32l rfl) ?_
        cases ht14
        exact g_sub [] rfl Kt14
      · replace ht14 := ifn b19 ht14
        refine g_pc (pc' := 55) rfl ?_
        refine g_iconst (v := 1) dX9_isBefore_55 rfl (i32l rfl) ?_
        refine g_goto (tgt := 60) dX9_isBefore_56 (by decide) ?_
        cases ht14
        exact g_sub [] rfl Kt14
end
