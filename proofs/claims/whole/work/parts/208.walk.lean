section
def fX9_told (x0 : Nat) (x1 : Int) (M : Mem) : Option (Int × Mem) := Option.bind (fX9_in x1 0 8 M) (fun q1 => (if q1.1 = 0 then some ((-1), q1.2) else Option.bind (fX9_electedSet x0 q1.2) (fun q3 => nm (q3.1) (fun v4 => (if x1 = 0 then some ((q3.2 x0 0), q3.2) else if x1 = 1 then some ((q3.2 x0 1), q3.2) else if x1 = 2 then some ((q3.2 x0 22), q3.2) else if x1 = 3 then some ((q3.2 x0 6), q3.2) else if x1 = 4 then some ((q3.2 x0 7), q3.2) else if x1 = 5 then some ((q3.2 x0 8), q3.2) else if x1 = 6 then some ((q3.2 x0 23), q3.2) else if x1 = 7 then some (v4, q3.2) else some ((q3.2 x0 18), q3.2))))))
set_option maxRecDepth 20000 in
theorem kX9_told {X : XC} {d : Nat} {x0 : Nat} {x1 : Int} (hx0 : Sh x0 = (18, 69)) {M : Mem} {q : Int × Mem} (h : fX9_told x0 x1 M = some q) : Ct X mX9_told (d + 7) [XR x0, XI x1] M (pI q) := by
  unfold fX9_told at h
  refine ct_go (by decide +kernel) (Nat.le_of_ble_eq_true rfl) (ls := [(0, XR x0), (1, XI x1)]) rfl ?_
  refine g_iload_n 1 dX9_told_0 rfl ?_
  refine g_i2l dX9_told_1 ?_
  refine g_lconst (v := 0) dX9_told_2 rfl (i64l rfl) ?_
  refine g_ldc2 (v := 8) dX9_told_3 csX9_318 (by decide +kernel) (i64l rfl) ?_
  obtain ⟨q1, hq1, h⟩ := bnd_some h
  refine s_I (as := [XL x1, XL 0, XL 8]) dX9_told_6 mlX9_170 mdX9_in msX9_in rfl (Nat.le_of_ble_eq_true rfl) (kX9_in  hq1) rfl ?_
  refine g_if_ne (tgt := 14) dX9_told_9 (by decide) (fun b2 => ?_) (fun b2 => ?_)
  · replace h := ifn b2 h
    refine g_aload_n 0 dX9_told_14 rfl ?_
    obtain ⟨q3, hq3, h⟩ := bnd_some h
    refine v_I (ci := 8) (as := []) dX9_told_15 mlX9_320 mdX9_electedSet mvX9_electedSet rfl hx0 rfl (Nat.le_of_ble_eq_true rfl) (kX9_electedSet hx0 hq3) rfl ?_
    refine g_nmI (fun v4 ev4 => ?_)
    replace h := nm_s ev4 h
    refine g_istore_n (ls' := [(2, XI v4), (0, XR x0), (1, XI x1)]) dX9_told_18 (by decide) rfl ?_
    refine g_iload_n 2 dX9_told_19 rfl ?_
    by_cases b5 : x1 = 0
    · replace h := ifp b5 h
      refine g_tswIn (off := 48) (tgt := 68) dX9_told_20 (by rw [b5]; decide) (by rw [b5]; decide) (by rw [b5]; rfl) (by decide) ?_
      refine g_aload_n 1 dX9_told_68 rfl ?_
      refine g_getI dX9_told_69 flX9_167 (by decide) rfl hx0 ?_
      cases h
      exact g_ireturn dX9_told_72 rfl ⟨rfl, rfl⟩
    · replace h := ifn b5 h
      by_cases b6 : x1 = 1
      · replace h := ifp b6 h
        refine g_tswIn (off := 53) (tgt := 73) dX9_told_20 (by rw [b6]; decide) (by rw [b6]; decide) (by rw [b6]; rfl) (by decide) ?_
        refine g_aload_n 1 dX9_told_73 rfl ?_
        refine g_getI dX9_told_74 flX9_174 (by decide) rfl hx0 ?_
        cases h
        exact g_ireturn dX9_told_77 rfl ⟨rfl, rfl⟩
      · replace h := ifn b6 h
        by_cases b7 : x1 = 2
        · replace h := ifp b7 h
          refine g_tswIn (off := 58) (tgt := 78) dX9_told_20 (by rw [b7]; decide) (by rw [b7]; decide) (by rw [b7]; rfl) (by decide) ?_
          refine g_aload_n 1 dX9_told_78 rfl ?_
          refine g_getI dX9_told_79 flX9_248 (by decide) rfl hx0 ?_
          cases h
          exact g_ireturn dX9_told_82 rfl ⟨rfl, rfl⟩
        · replace h := ifn b7 h
          by_cases b8 : x1 = 3
          · replace h := ifp b8 h
            refine g_tswIn (off := 63) (tgt := 83) dX9_told_20 (by rw [b8]; decide) (by rw [b8]; decide) (by rw [b8]; rfl) (by decide) ?_
            refine g_aload_n 1 dX9_told_83 rfl ?_
            refine g_getI dX9_told_84 flX9_25 (by decide) rfl hx0 ?_
            cases h
            exact g_ireturn dX9_told_87 rfl ⟨rfl, rfl⟩
          · replace h := ifn b8 h
            by_cases b9 : x1 = 4
            · replace h := ifp b9 h
              refine g_tswIn (off := 68) (tgt := 88) dX9_told_20 (by rw [b9]; decide) (by rw [b9]; decide) (by rw [b9]; rfl) (by decide) ?_
              refine g_aload_n 1 dX9_told_88 rfl ?_
              refine g_getI dX9_told_89 flX9_29 (by decide) rfl hx0 ?_
              cases h
              exact g_ireturn dX9_told_92 rfl ⟨rfl, rfl⟩
            · replace h := ifn b9 h
              by_cases b10 : x1 = 5
              · replace h := ifp b10 h
                refine g_tswIn (off := 73) (tgt := 93) dX9_told_20 (by rw [b10]; decide) (by rw [b10]; decide) (by rw [b10]; rfl) (by decide) ?_
                refine g_aload_n 1 dX9_told_93 rfl ?_
                refine g_getI dX9_told_94 flX9_32 (by decide) rfl hx0 ?_
                cases h
                exact g_ireturn dX9_told_97 rfl ⟨rfl, rfl⟩
              · replace h := ifn b10 h
                by_cases b11 : x1 = 6
                · replace h := ifp b11 h
                  refine g_tswIn (off := 78) (tgt := 98) dX9_told_20 (by rw [b11]; decide) (by rw [b11]; decide) (by rw [b11]; rfl) (by decide) ?_
                  refine g_aload_n 1 dX9_told_98 rfl ?_
                  refine g_getI dX9_told_99 flX9_251 (by decide) rfl hx0 ?_
                  cases h
                  exact g_ireturn dX9_told_102 rfl ⟨rfl, rfl⟩
                · replace h := ifn b11 h
                  by_cases b12 : x1 = 7
                  · replace h := ifp b12 h
                    refine g_tswIn (off := 83) (tgt := 103) dX9_told_20 (by rw [b12]; decide) (by rw [b12]; decide) (by rw [b12]; rfl) (by decide) ?_
                    refine g_iload_n 0 dX9_told_103 rfl ?_
                    cases h
                    exact g_ireturn dX9_told_104 rfl ⟨rfl, rfl⟩
                  · replace h := ifn b12 h
                    refine g_tswOut (tgt := 105) dX9_told_20 (by omega) (by decide) ?_
                    refine g_aload_n 1 dX9_told_105 rfl ?_
                    refine g_getI dX9_told_106 flX9_225 (by decide) rfl hx0 ?_
                    cases h
                    exact g_ireturn dX9_told_109 rfl ⟨rfl, rfl⟩
  · replace h := ifp b2 h
    refine g_pc (pc' := 12) rfl ?_
    refine g_iconst (v := -1) dX9_told_12 rfl (i32l rfl) ?_
    cases h
    exact g_ireturn dX9_told_13 rfl ⟨rfl, rfl⟩
def fX9_isStage (x0 : Nat) (x1 : Int) (M : Mem) : Option (Int × Mem) := Option.bind (fX9_counts x0 M) (fun q1 => if -2147483648 ≤ ((q1.2 x0 22) - 1) ∧ ((q1.2 x0 22) - 1) ≤ 2147483647 then Option.bind (fX9_in x1 0 ((q1.2 x0 22) - 1) q1.2) (fun q3 => if q3.1 = 0 ∨ q3.1 = 1 then some (q3.1, q3.2) else none) else none)
set_option maxRecDepth 20000 in
theorem kX9_isStage {X : XC} {d : Nat} {x0 : Nat} {x1 : Int} (hx0 : Sh x0 = (18, 69)) {M : Mem} {q : Int × Mem} (h : fX9_isStage x0 x1 M = some q) : Ct X mX9_isStage (d + 6) [XR x0, XI x1] M (pI q) := by
  unfold fX9_isStage at h
  refine ct_go (by decide +kernel) (Nat.le_of_ble_eq_true rfl) (ls := [(0, XR x0), (1, XI x1)]) rfl ?_
  refine g_aload_n 0 dX9_isStage_0 rfl ?_
  obtain ⟨q1, hq1, h⟩ := bnd_some h
  refine v_V (ci := 8) (as := []) dX9_isStage_1 mlX9_310 mdX9_counts mvX9_counts rfl hx0 rfl (Nat.le_of_ble_eq_true rfl) (kX9_counts hx0 hq1) rfl ?_
  refine g_iload_n 1 dX9_isStage_4 rfl ?_
  refine g_i2l dX9_isStage_5 ?_
  refine g_lconst (v := 0) dX9_isStage_6 rfl (i64l rfl) ?_
  refine g_aload_n 0 dX9_isStage_7 rfl ?_
  refine g_getI dX9_isStage_8 flX9_248 (by decide) rfl hx0 ?_
  refine g_iconst (v := 1) dX9_isStage_11 rfl (i32l rfl) ?_
  refine g_pc (pc' := 12) rfl ?_
  obtain ⟨c2, h⟩ := chk_some h
  refine g_isub dX9_isStage_12 rfl c2 ?_
  refine g_i2l dX9_isStage_13 ?_
  obtain ⟨q3, hq3, h⟩ := bnd_some h
  refine s_I (as := [XL x1, XL 0, XL ((q1.2 x0 22) - 1)]) dX9_isStage_14 mlX9_170 mdX9_in msX9_in rfl (Nat.le_of_ble_eq_true rfl) (kX9_in  hq3) rfl ?_
  obtain ⟨cz, h⟩ := chk_some h
  cases h
  exact g_zreturn dX9_isStage_17 rfl cz ⟨rfl, rfl⟩
def fX9_stageOf (x0 : Nat) (x1 : Int) (x2 : Int) (M : Mem) : Option (Int × Mem) := Option.bind (fX9_isStage x0 x1 M) (fun q1 => (if q1.1 = 0 then some ((-1), q1.2) else Option.bind (fX9_in x2 0 2 q1.2) (fun q3 => (if q3.1 = 0 then some ((-1), q3.2) else Option.bind ((if x2 = 0 then if 0 ≤ x1 ∧ x1 < 9 then some ((q3.2 (x0 + 40) (Int.toNat x1))) else none else (if x2 = 1 then if 0 ≤ x1 ∧ x1 < 9 then some ((q3.2 (x0 + 41) (Int.toNat x1))) else none else if 0 ≤ x1 ∧ x1 < 9 then some ((q3.2 (x0 + 42) (Int.toNat x1))) else none)) : Option (Int)) (fun t10 => some (t10, q3.2))))))
set_option maxRecDepth 20000 in
theorem kX9_stageOf {X : XC} {d : Nat} {x0 : Nat} {x1 : Int} {x2 : Int} (hx0 : Sh x0 = (18, 69)) {M : Mem} {q : Int × Mem} (h : fX9_stageOf x0 x1 x2 M = some q) : Ct X mX9_stageOf (d + 7) [XR x0, XI x1, XI x2] M (pI q) := by
  unfold fX9_stageOf at h
  refine ct_go (by decide +kernel) (Nat.le_of_ble_eq_true rfl) (ls := [(0, XR x0), (1, XI x1), (2, XI x2)]) rfl ?_
  refine g_aload_n 0 dX9_stageOf_0 rfl ?_
  refine g_iload_n 1 dX9_stageOf_1 rfl ?_
  obtain ⟨q1, hq1, h⟩ := bnd_some h
  refine v_I (ci := 8) (as := [XI x1]) dX9_stageOf_2 mlX9_323 mdX9_isStage mvX9_isStage rfl hx0 rfl (Nat.le_of_ble_eq_true rfl) (kX9_isStage hx0 hq1) rfl ?_
  refine g_if_eq (tgt := 20) dX9_stageOf_5 (by decide) (fun b2 => ?_) (fun b2 => ?_)
  · replace h := ifp b2 h
    refine g_iconst (v := -1) dX9_stageOf_20 rfl (i32l rfl) ?_
    cases h
    exact g_ireturn dX9_stageOf_21 rfl ⟨rfl, rfl⟩
  · replace h := ifn b2 h
    refine g_pc (pc' := 8) rfl ?_
    refine g_iload_n 2 dX9_stageOf_8 rfl ?_
    refine g_i2l dX9_stageOf_9 ?_
    refine g_lconst (v := 0) dX9_stageOf_10 rfl (i64l rfl) ?_
    refine g_ldc2 (v := 2) dX9_stageOf_11 csX9_214 (by decide +kernel) (i64l rfl) ?_
    obtain ⟨q3, hq3, h⟩ := bnd_some h
    refine s_I (as := [XL x2, XL 0, XL 2]) dX9_stageOf_14 mlX9_170 mdX9_in msX9_in rfl (Nat.le_of_ble_eq_true rfl) (kX9_in  hq3) rfl ?_
    refine g_if_ne (tgt := 22) dX9_stageOf_17 (by decide) (fun b4 => ?_) (fun b4 => ?_)
    · replace h := ifn b4 h
      refine g_iload_n 2 dX9_stageOf_22 rfl ?_
      obtain ⟨t10, ht10, h⟩ := bnd_some h
      have Kt10 : Go X mX9_stageOf (d + 7) 55 [] [XI t10] q3.2 (pI q) := by
        cases h
        exact g_ireturn dX9_stageOf_55 rfl ⟨rfl, rfl⟩
      refine g_if_ne (tgt := 35) dX9_stageOf_23 (by decide) (fun b11 => ?_) (fun b11 => ?_)
      · replace ht10 := ifn b11 ht10
        refine g_iload_n 2 dX9_stageOf_35 rfl ?_
        refine g_iconst (v := 1) dX9_stageOf_36 rfl (i32l rfl) ?_
        refine g_icmp_ne (tgt := 49) dX9_stageOf_37 (by decide) (fun b12 => ?_) (fun b12 => ?_)
        · replace ht10 := ifn b12 ht10
          refine g_aload_n 0 dX9_stageOf_49 rfl ?_
          refine g_getR dX9_stageOf_50 flX9_102 (by decide) rfl hx0 ?_
          refine g_iload_n 1 dX9_stageOf_53 rfl ?_
          obtain ⟨c13, ht10⟩ := chk_some ht10
          refine g_iald dX9_stageOf_54 (sf_8_41 hx0) c13.1 c13.2 ?_
          cases ht10
          exact g_sub [] rfl Kt10
        · replace ht10 := ifp b12 ht10
          refine g_pc (pc' := 40) rfl ?_
          refine g_aload_n 0 dX9_stageOf_40 rfl ?_
          refine g_getR dX9_stageOf_41 flX9_99 (by decide) rfl hx0 ?_
          refine g_iload_n 1 dX9_stageOf_44 rfl ?_
          obtain ⟨c14, ht10⟩ := chk_some ht10
          refine g_iald dX9_stageOf_45 (sf_8_40 hx0) c14.1 c14.2 ?_
          refine g_goto (tgt := 55) dX9_stageOf_46 (by decide) ?_
          cases ht10
          exact g_sub [] rfl Kt10
      · replace ht10 := ifp b11 ht10
        refine g_pc (pc' := 26) rfl ?_
        refine g_aload_n 0 dX9_stageOf_26 rfl ?_
        refine g_getR dX9_stageOf_27 flX9_96 (by decide) rfl hx0 ?_
        refine g_iload_n 1 dX9_stageOf_30 rfl ?_
        obtain ⟨c15, ht10⟩ := chk_some ht10
        refine g_iald dX9_stageOf_31 (sf_8_39 hx0) c15.1 c15.2 ?_
        refine g_goto (tgt := 55) dX9_stageOf_32 (by decide) ?_
        cases ht10
        exact g_sub [] rfl Kt10
    · replace h := ifp b4 h
      refine g_pc (pc' := 20) rfl ?_
      refine g_iconst (v := -1) dX9_stageOf_20 rfl (i32l rfl) ?_
      cases h
      exact g_ireturn dX9_stageOf_21 rfl ⟨rfl, rfl⟩
def fX9_amount (x0 : Nat) (x1 : Int) (x2 : Int) (M : Mem) : Option (Int × Mem) := Option.bind (fX9_isStage x0 x1 M) (fun q1 => (if q1.1 = 0 then some ((-9223372036854775808), q1.2) else Option.bind (fX9_in x2 0 3 q1.2) (fun q3 => (if q3.1 = 0 then some ((-9223372036854775808), q3.2) else Option.bind ((if x2 = 0 then if 0 ≤ x1 ∧ x1 < 9 then some ((q3.2 (x0 + 35) (Int.toNat x1))) else none else (if x2 = 1 then if 0 ≤ x1 ∧ x1 < 9 then some ((q3.2 (x0 + 36) (Int.toNat x1))) else none else (if x2 = 2 then if 0 ≤ x1 ∧ x1 < 9 then some ((q3.2 (x0 + 37) (Int.toNat x1))) else none else if 0 ≤ x1 ∧ x1 < 9 then some ((q3.2 (x0 + 38) (Int.toNat x1))) else none))) : Option (Int)) (fun t12 => some (t12, q3.2))))))
set_option maxRecDepth 20000 in
theorem kX9_amount {X : XC} {d : Nat} {x0 : Nat} {x1 : Int} {x2 : Int} (hx0 : Sh x0 = (18, 69)) {M : Mem} {q : Int × Mem} (h : fX9_amount x0 x1 x2 M = some q) : Ct X mX9_amount (d + 7) [XR x0, XI x1, XI x2] M (pJ q) := by
  unfold fX9_amount at h
  refine ct_go (by decide +kernel) (Nat.le_of_ble_eq_true rfl) (ls := [(0, XR x0), (1, XI x1), (2, XI x2)]) rfl ?_
  refine g_aload_n 0 dX9_amount_0 rfl ?_
  refine g_iload_n 1 dX9_amount_1 rfl ?_
  obtain ⟨q1, hq1, h⟩ := bnd_some h
  refine v_I (ci := 8) (as := [XI x1]) dX9_amount_2 mlX9_323 mdX9_isStage mvX9_isStage rfl hx0 rfl (Nat.le_of_ble_eq_true rfl) (kX9_isStage hx0 hq1) rfl ?_
  refine g_if_eq (tgt := 20) dX9_amount_5 (by decide) (fun b2 => ?_) (fun b2 => ?_)
  · replace h := ifp b2 h
    refine g_ldc2 (v := -9223372036854775808) dX9_amount_20 csX9_326 (by decide +kernel) (i64l rfl) ?_
    cases h
    exact g_lreturn dX9_amount_23 rfl ⟨rfl, rfl⟩
  · replace h := ifn b2 h
    refine g_pc (pc' := 8) rfl ?_
    refine g_iload_n 2 dX9_amount_8 rfl ?_
    refine g_i2l dX9_amount_9 ?_
    refine g_lconst (v := 0) dX9_amount_10 rfl (i64l rfl) ?_
    refine g_ldc2 (v := 3) dX9_amount_11 csX9_313 (by decide +kernel) (i64l rfl) ?_
    obtain ⟨q3, hq3, h⟩ := bnd_some h
    refine s_I (as := [XL x2, XL 0, XL 3]) dX9_amount_14 mlX9_170 mdX9_in msX9_in rfl (Nat.le_of_ble_eq_true rfl) (kX9_in  hq3) rfl ?_
    refine g_if_ne (tgt := 24) dX9_amount_17 (by decide) (fun b4 => ?_) (fun b4 => ?_)
    · replace h := ifn b4 h
      refine g_iload_n 2 dX9_amount_24 rfl ?_
      obtain ⟨t12, ht12, h⟩ := bnd_some h
      have Kt12 : Go X mX9_amount (d + 7) 71 [] [XL t12] q3.2 (pJ q) := by
        cases h
        exact g_lreturn dX9_amount_71 rfl ⟨rfl, rfl⟩
      refine g_if_ne (tgt := 37) dX9_amount_25 (by decide) (fun b13 => ?_) (fun b13 => ?_)
      · replace ht12 := ifn b13 ht12
        refine g_iload_n 2 dX9_amount_37 rfl ?_
        refine g_iconst (v := 1) dX9_amount_38 rfl (i32l rfl) ?_
        refine g_icmp_ne (tgt := 51) dX9_amount_39 (by decide) (fun b14 => ?_) (fun b14 => ?_)
        · replace ht12 := ifn b14 ht12
          refine g_iload_n 2 dX9_amount_51 rfl ?_
          refine g_iconst (v := 2) dX9_amount_52 rfl (i32l rfl) ?_
          refine g_icmp_ne (tgt := 65) dX9_amount_53 (by decide) (fun b15 => ?_) (fun b15 => ?_)
          · replace ht12 := ifn b15 ht12
            refine g_aload_n 0 dX9_amount_65 rfl ?_
            refine g_getR dX9_amount_66 flX9_90 (by decide) rfl hx0 ?_
            refine g_iload_n 1 dX9_amount_69 rfl ?_
            obtain ⟨c16, ht12⟩ := chk_some ht12
            refine g_lald dX9_amount_70 (sf_8_37 hx0) c16.1 c16.2 ?_
            cases ht12
            exact g_sub [] rfl Kt12
          · replace ht12 := ifp b15 ht12
            refine g_pc (pc' := 56) rfl ?_
            refine g_aload_n 0 dX9_amount_56 rfl ?_
            refine g_getR dX9_amount_57 flX9_87 (by decide) rfl hx0 ?_
            refine g_iload_n 1 dX9_amount_60 rfl ?_
            obtain ⟨c17, ht12⟩ := chk_some ht12
            refine g_lald dX9_amount_61 (sf_8_36 hx0) c17.1 c17.2 ?_
            refine g_goto (tgt := 71) dX9_amount_62 (by decide) ?_
            cases ht12
            exact g_sub [] rfl Kt12
        · replace ht12 := ifp b14 ht12
          refine g_pc (pc' := 42) rfl ?_
          refine g_aload_n 0 dX9_amount_42 rfl ?_
          refine g_getR dX9_amount_43 flX9_84 (by decide) rfl hx0 ?_
          refine g_iload_n 1 dX9_amount_46 rfl ?_
          obtain ⟨c18, ht12⟩ := chk_some ht12
          refine g_lald dX9_amount_47 (sf_8_35 hx0) c18.1 c18.2 ?_
          refine g_goto (tgt := 71) dX9_amount_48 (by decide) ?_
          cases ht12
          exact g_sub [] rfl Kt12
      · replace ht12 := ifp b13 ht12
        refine g_pc (pc' := 28) rfl ?_
        refine g_aload_n 0 dX9_amount_28 rfl ?_
        refine g_getR dX9_amount_29 flX9_81 (by decide) rfl hx0 ?_
        refine g_iload_n 1 dX9_amount_32 rfl ?_
        obtain ⟨c19, ht12⟩ := chk_some ht12
        refine g_lald dX9_amount_33 (sf_8_34 hx0) c19.1 c19.2 ?_
        refine g_goto (tgt := 71) dX9_amount_34 (by decide) ?_
        cases ht12
        exact g_sub [] rfl Kt12
    · replace h := ifp b4 h
      refine g_pc (pc' := 20) rfl ?_
      refine g_ldc2 (v := -9223372036854775808) dX9_amount_20 csX9_326 (by decide +kernel) (i64l rfl) ?_
      cases h
      exact g_lreturn dX9_amount_23 rfl ⟨rfl, rfl⟩
def fX9_votes (x0 : Nat) (x1 : Int) (x2 : Int) (x3 : Int) (M : Mem) : Option (Int × Mem) := Option.bind (fX9_isStage x0 x1 M) (fun q1 => (if q1.1 = 0 then some ((-9223372036854775808), q1.2) else Option.bind (fX9_isOne x0 x2 q1.2) (fun q3 => (if q3.1 = 0 then some ((-9223372036854775808), q3.2) else Option.bind (fX9_in x3 0 1 q3.2) (fun q5 => (if q5.1 = 0 then some ((-9223372036854775808), q5.2) else Option.bind ((if x3 = 0 then if -2147483648 ≤ (8 * x1) ∧ (8 * x1) ≤ 2147483647 then if -2147483648 ≤ ((8 * x1) + x2) ∧ ((8 * x1) + x2) ≤ 2147483647 then if 0 ≤ ((8 * x1) + x2) ∧ ((8 * x1) + x2) < 72 then some ((q5.2 (x0 + 34) (Int.toNat ((8 * x1) + x2)))) else none else none else none else if -2147483648 ≤ (8 * x1) ∧ (8 * x1) ≤ 2147483647 then if -2147483648 ≤ ((8 * x1) + x2) ∧ ((8 * x1) + x2) ≤ 2147483647 then if 0 ≤ ((8 * x1) + x2) ∧ ((8 * x1) + x2) < 72 then some ((q5.2 (x0 + 39) (Int.toNat ((8 * x1) + x2)))) else none else none else none) : Option (Int)) (fun t14 => some (t14, q5.2))))))))
set_option maxRecDepth 20000 in
theorem kX9_votes {X : XC} {d : Nat} {x0 : Nat} {x1 : Int} {x2 : Int} {x3 : Int} (hx0 : Sh x0 = (18, 69)) {M : Mem} {q : Int × Mem} (h : fX9_votes x0 x1 x2 x3 M = some q) : Ct X mX9_votes (d + 7) [XR x0, XI x1, XI x2, XI x3] M (pJ q) := by
  unfold fX9_votes at h
  refine ct_go (by decide +kernel) (Nat.le_of_ble_eq_true rfl) (ls := [(0, XR x0), (1, XI x1), (2, XI x2), (3, XI x3)]) rfl ?_
  refine g_aload_n 0 dX9_votes_0 rfl ?_
  refine g_iload_n 1 dX9_votes_1 rfl ?_
  obtain ⟨q1, hq1, h⟩ := bnd_some h
  refine v_I (ci := 8) (as := [XI x1]) dX9_votes_2 mlX9_323 mdX9_isStage mvX9_isStage rfl hx0 rfl (Nat.le_of_ble_eq_true rfl) (kX9_isStage hx0 hq1) rfl ?_
  refine g_if_eq (tgt := 26) dX9_votes_5 (by decide) (fun b2 => ?_) (fun b2 => ?_)
  · replace h := ifp b2 h
    refine g_ldc2 (v := -9223372036854775808) dX9_votes_26 csX9_326 (by decide +kernel) (i64l rfl) ?_
    cases h
    exact g_lreturn dX9_votes_29 rfl ⟨rfl, rfl⟩
  · replace h := ifn b2 h
    refine g_pc (pc' := 8) rfl ?_
    refine g_aload_n 0 dX9_votes_8 rfl ?_
    refine g_iload_n 2 dX9_votes_9 rfl ?_
    obtain ⟨q3, hq3, h⟩ := bnd_some h
    refine v_I (ci := 8) (as := [XI x2]) dX9_votes_10 mlX9_211 mdX9_isOne mvX9_isOne rfl hx0 rfl (Nat.le_of_ble_eq_true rfl) (kX9_isOne hx0 hq3) rfl ?_
    refine g_if_eq (tgt := 26) dX9_votes_13 (by decide) (fun b4 => ?_) (fun b4 => ?_)
    · replace h := ifp b4 h
      refine g_ldc2 (v := -9223372036854775808) dX9_votes_26 csX9_326 (by decide +kernel) (i64l rfl) ?_
      cases h
      exact g_lreturn dX9_votes_29 rfl ⟨rfl, rfl⟩
    · replace h := ifn b4 h
      refine g_pc (pc' := 16) rfl ?_
      refine g_iload_n 3 dX9_votes_16 rfl ?_
      refine g_i2l dX9_votes_17 ?_
      refine g_lconst (v := 0) dX9_votes_18 rfl (i64l rfl) ?_
      refine g_lconst (v := 1) dX9_votes_19 rfl (i64l rfl) ?_
      obtain ⟨q5, hq5, h⟩ := bnd_some h
      refine s_I (as := [XL x3, XL 0, XL 1]) dX9_votes_20 mlX9_170 mdX9_in msX9_in rfl (Nat.le_of_ble_eq_true rfl) (kX9_in  hq5) rfl ?_
      refine g_if_ne (tgt := 30) dX9_votes_23 (by decide) (fun b6 => ?_) (fun b6 => ?_)
      · replace h := ifn b6 h
        refine g_iload_n 3 dX9_votes_30 rfl ?_
        obtain ⟨t14, ht14, h⟩ := bnd_some h
        have Kt14 : Go X mX9_votes (d + 7) 60 [] [XL t14] q5.2 (pJ q) := by
          cases h
          exact g_lreturn dX9_votes_60 rfl ⟨rfl, rfl⟩
        refine g_if_ne (tgt := 48) dX9_votes_31 (by decide) (fun b15 => ?_) (fun b15 => ?_)
        · replace ht14 := ifn b15 ht14
          refine g_aload_n 0 dX9_votes_48 rfl ?_
          refine g_getR dX9_votes_49 flX9_93 (by decide) rfl hx0 ?_
          refine g_bip dX9_votes_52 rfl ?_
          refine g_iload_n 1 dX9_votes_54 rfl ?_
          obtain ⟨c16, ht14⟩ := chk_some ht14
          refine g_imul dX9_votes_55 rfl c16 ?_
          refine g_iload_n 2 dX9_votes_56 rfl ?_
          obtain ⟨c17, ht14⟩ := chk_some ht14
          refine g_iadd dX9_votes_57 rfl c17 ?_
          obtain ⟨c18, ht14⟩ := chk_some ht14
          refine g_iald dX9_votes_58 (sf_8_38 hx0) c18.1 c18.2 ?_
          refine g_pc (pc' := 59) rfl ?_
          refine g_i2l dX9_votes_59 ?_
          cases ht14
          exact g_sub [] rfl Kt14
        · replace ht14 := ifp b15 ht14
          refine g_pc (pc' := 34) rfl ?_
          refine g_aload_n 0 dX9_votes_34 rfl ?_
          refine g_getR dX9_votes_35 flX9_78 (by decide) rfl hx0 ?_
          refine g_bip dX9_votes_38 rfl ?_
          refine g_iload_n 1 dX9_votes_40 rfl ?_
          obtain ⟨c19, ht14⟩ := chk_some ht14
          refine g_imul dX9_votes_41 rfl c19 ?_
          refine g_iload_n 2 dX9_votes_42 rfl ?_
          obtain ⟨c20, ht14⟩ := chk_some ht14
          refine g_iadd dX9_votes_43 rfl c20 ?_
          obtain ⟨c21, ht14⟩ := chk_some ht14
          refine g_lald dX9_votes_44 (sf_8_33 hx0) c21.1 c21.2 ?_
          refine g_pc (pc' := 45) rfl ?_
          refine g_goto (tgt := 60) dX9_votes_45 (by decide) ?_
          cases ht14
          exact g_sub [] rfl Kt14
      · replace h := ifp b6 h
        refine g_pc (pc' := 26) rfl ?_
        refine g_ldc2 (v := -9223372036854775808) dX9_votes_26 csX9_326 (by decide +kernel) (i64l rfl) ?_
        cases h
        exact g_lreturn dX9_votes_29 rfl ⟨rfl, rfl⟩
def fX9_elected (x0 : Nat) (x1 : Int) (M : Mem) : Option (Int × Mem) := Option.bind (fX9_counts x0 M) (fun q1 => if -2147483648 ≤ ((q1.2 x0 23) - 1) ∧ ((q1.2 x0 23) - 1) ≤ 2147483647 then Option.bind (fX9_in x1 0 ((q1.2 x0 23) - 1) q1.2) (fun q3 => Option.bind ((if q3.1 = 0 then some ((-5)) else if 0 ≤ x1 ∧ x1 < 8 then some ((q3.2 (x0 + 28) (Int.toNat x1))) else none) : Option (Int)) (fun t6 => some (t6, q3.2))) else none)
set_option maxRecDepth 20000 in
theorem kX9_elected {X : XC} {d : Nat} {x0 : Nat} {x1 : Int} (hx0 : Sh x0 = (18, 69)) {M : Mem} {q : Int × Mem} (h : fX9_elected x0 x1 M = some q) : Ct X mX9_elected (d + 6) [XR x0, XI x1] M (pI q) := by
  unfold fX9_elected at h
  refine ct_go (by decide +kernel) (Nat.le_of_ble_eq_true rfl) (ls := [(0, XR x0), (1, XI x1)]) rfl ?_
  refine g_aload_n 0 dX9_elected_0 rfl ?_
  obtain ⟨q1, hq1, h⟩ := bnd_some h
  refine v_V (ci := 8) (as := []) dX9_elected_1 mlX9_310 mdX9_counts mvX9_counts rfl hx0 rfl (Nat.le_of_ble_eq_true rfl) (kX9_counts hx0 hq1) rfl ?_
  refine g_iload_n 1 dX9_elected_4 rfl ?_
  refine g_i2l dX9_elected_5 ?_
  refine g_lconst (v := 0) dX9_elected_6 rfl (i64l rfl) ?_
  refine g_aload_n 0 dX9_elected_7 rfl ?_
  refine g_getI dX9_elected_8 flX9_251 (by decide) rfl hx0 ?_
  refine g_iconst (v := 1) dX9_elected_11 rfl (i32l rfl) ?_
  refine g_pc (pc' := 12) rfl ?_
  obtain ⟨c2, h⟩ := chk_some h
  refine g_isub dX9_elected_12 rfl c2 ?_
  refine g_i2l dX9_elected_13 ?_
  obtain ⟨q3, hq3, h⟩ := bnd_some h
  refine s_I (as := [XL x1, XL 0, XL ((q1.2 x0 23) - 1)]) dX9_elected_14 mlX9_170 mdX9_in msX9_in rfl (Nat.le_of_ble_eq_true rfl) (kX9_in  hq3) rfl ?_
  obtain ⟨t6, ht6, h⟩ := bnd_some h
  have Kt6 : Go X mX9_elected (d + 6) 31 [] [XI t6] q3.2 (pI q) := by
    cases h
    exact g_ireturn dX9_elected_31 rfl ⟨rfl, rfl⟩
  refine g_if_eq (tgt := 29) dX9_elected_17 (by decide) (fun b7 => ?_) (fun b7 => ?_)
  · replace ht6 := ifp b7 ht6
    refine g_bip dX9_elected_29 rfl ?_
    cases ht6
    exact g_sub [] rfl Kt6
  · replace ht6 := ifn b7 ht6
    refine g_pc (pc' := 20) rfl ?_
    refine g_aload_n 0 dX9_elected_20 rfl ?_
    refine g_getR dX9_elected_21 flX9_71 (by decide) rfl hx0 ?_
    refine g_iload_n 1 dX9_elected_24 rfl ?_
    obtain ⟨c8, ht6⟩ := chk_some ht6
    refine g_iald dX9_elected_25 (sf_8_27 hx0) c8.1 c8.2 ?_
    refine g_goto (tgt := 31) dX9_elected_26 (by decide) ?_
    cases ht6
    exact g_sub [] rfl Kt6
def fX9_isBefore (x0 : Nat) (x1 : Int) (x2 : Int) (x3 : Int) (M : Mem) : Option (Int × Mem) := if -2147483648 ≤ (8 * x3) ∧ (8 * x3) ≤ 2147483647 then if -2147483648 ≤ ((8 * x3) + x1) ∧ ((8 * x3) + x1) ≤ 2147483647 then if 0 ≤ ((8 * x3) + x1) ∧ ((8 * x3) + x1) < 72 then nm ((M (x0 + 34) (Int.toNat ((8 * x3) + x1)))) (fun v4 => if -2147483648 ≤ (8 * x3) ∧ (8 * x3) ≤ 2147483647 then if -2147483648 ≤ ((8 * x3) + x2) ∧ ((8 * x3) + x2) ≤ 2147483647 then if 0 ≤ ((8 * x3) + x2) ∧ ((8 * x3) + x2) < 72 then nm ((M (x0 + 34) (Int.toNat ((8 * x3) + x2)))) (fun v8 => Option.bind ((if v8 < v4 then some (1, M) else (if v4 = v8 then Option.bind (fX9_lotOf x0 x1 M) (fun q17 => Option.bind (fX9_lotOf x0 x2 q17.2) (fun q18 => (if q18.1 ≤ q17.1 then some (0, q18.2) else some (1, q18.2)))) else some (0, M))) : Option (Int × Mem)) (fun t14 => if t14.1 = 0 ∨ t14.1 = 1 then some (t14.1, t14.2) else none)) else none else none else none) else none else none else none
set_option maxRecDepth 20000 in
theorem kX9_isBefore {X : XC} {d : Nat} {x0 : Nat} {x1 : Int} {x2 : Int} {x3 : Int} (hx0 : Sh x0 = (18, 69)) {M : Mem} {q : Int × Mem} (h : fX9_isBefore x0 x1 x2 x3 M = some q) : Ct X mX9_isBefore (d + 1) [XR x0, XI x1, XI x2, XI x3] M (pI q) := by
  unfold fX9_isBefore at h
  refine ct_go (by decide +kernel) (Nat.le_of_ble_eq_true rfl) (ls := [(0, XR x0), (1, XI x1), (2, XI x2), (3, XI x3)]) rfl ?_
  refine g_aload_n 0 dX9_isBefore_0 rfl ?_
  refine g_getR dX9_isBefore_1 flX9_78 (by decide) rfl hx0 ?_
  refine g_bip dX9_isBefore_4 rfl ?_
  refine g_iload_n 3 dX9_isBefore_6 rfl ?_
  obtain ⟨c1, h⟩ := chk_some h
  refine g_imul dX9_isBefore_7 rfl c1 ?_
  refine g_iload_n 1 dX9_isBefore_8 rfl ?_
  obtain ⟨c2, h⟩ := chk_some h
  refine g_iadd dX9_isBefore_9 rfl c2 ?_
  obtain ⟨c3, h⟩ := chk_some h
  refine g_lald dX9_isBefore_10 (sf_8_33 hx0) c3.1 c3.2 ?_
  refine g_pc (pc' := 11) rfl ?_
  refine g_nmL (fun v4 ev4 => ?_)
  replace h := nm_s ev4 h
  refine g_lstore (ls' := [(4, XL v4), (0, XR x0), (1, XI x1), (2, XI x2), (3, XI x3)]) dX9_isBefore_11 (by decide) rfl ?_
  refine g_aload_n 1 dX9_isBefore_13 rfl ?_
  refine g_getR dX9_isBefore_14 flX9_78 (by decide) rfl hx0 ?_
  refine g_bip dX9_isBefore_17 rfl ?_
  refine g_iload_n 4 dX9_isBefore_19 rfl ?_
  obtain ⟨c5, h⟩ := chk_some h
  refine g_imul dX9_isBefore_20 rfl c5 ?_
  refine g_iload_n 3 dX9_isBefore_21 rfl ?_
  obtain ⟨c6, h⟩ := chk_some h
  refine g_iadd dX9_isBefore_22 rfl c6 ?_
  obtain ⟨c7, h⟩ := chk_some h
  refine g_lald dX9_isBefore_23 (sf_8_33 hx0) c7.1 c7.2 ?_
  refine g_pc (pc' := 24) rfl ?_
  refine g_nmL (fun v8 ev8 => ?_)
  replace h := nm_s ev8 h
  refine g_lstore (ls' := [(6, XL v8), (4, XL v4), (0, XR x0), (1, XI x1), (2, XI x2), (3, XI x3)]) dX9_isBefore_24 (by decide) rfl ?_
  refine g_lload 1 dX9_isBefore_26 rfl ?_
  refine g_lload 0 dX9_isBefore_28 rfl ?_
  obtain ⟨t14, ht14, h⟩ := bnd_some h
  have Kt14 : Go X mX9_isBefore (d + 1) 60 [] [XI t14.1] t14.2 (pI q) := by
    obtain ⟨cz, h⟩ := chk_some h
    cases h
    exact g_zreturn dX9_isBefore_60 rfl cz ⟨rfl, rfl⟩
  refine g_lcmp_gt (tgt := 55) dX9_isBefore_30 dX9_isBefore_31 (by decide) (fun b15 => ?_) (fun b15 => ?_)
  · replace ht14 := ifp b15 ht14
    refine g_iconst (v := 1) dX9_isBefore_55 rfl (i32l rfl) ?_
    refine g_goto (tgt := 60) dX9_isBefore_56 (by decide) ?_
    cases ht14
    exact g_sub [] rfl Kt14
  · replace ht14 := ifn b15 ht14
    refine g_pc (pc' := 34) rfl ?_
    refine g_lload 1 dX9_isBefore_34 rfl ?_
    refine g_lload 0 dX9_isBefore_36 rfl ?_
    refine g_lcmp_ne (tgt := 59) dX9_isBefore_38 dX9_isBefore_39 (by decide) (fun b16 => ?_) (fun b16 => ?_)
    · replace ht14 := ifn b16 ht14
      refine g_iconst (v := 0) dX9_isBefore_59 rfl (i32l rfl) ?_
      cases ht14
      exact g_sub [] rfl Kt14
    · replace ht14 := ifp b16 ht14
      refine g_pc (pc' := 42) rfl ?_
      refine g_aload_n 2 dX9_isBefore_42 rfl ?_
      refine g_iload_n 3 dX9_isBefore_43 rfl ?_
      obtain ⟨q17, hq17, ht14⟩ := bnd_some ht14
      refine v_I (ci := 8) (as := [XI x1]) dX9_isBefore_44 mlX9_245 mdX9_lotOf mvX9_lotOf rfl hx0 rfl (Nat.le_of_ble_eq_true rfl) (kX9_lotOf hx0 hq17) rfl ?_
      refine g_aload_n 2 dX9_isBefore_47 rfl ?_
      refine g_iload_n 4 dX9_isBefore_48 rfl ?_
      obtain ⟨q18, hq18, ht14⟩ := bnd_some ht14
      refine v_I (ci := 8) (as := [XI x2]) dX9_isBefore_49 mlX9_245 mdX9_lotOf mvX9_lotOf rfl hx0 rfl (Nat.le_of_ble_eq_true rfl) (kX9_lotOf hx0 hq18) rfl ?_
      refine g_icmp_ge (tgt := 59) dX9_isBefore_52 (by decide) (fun b19 => ?_) (fun b19 => ?_)
      · replace ht14 := ifp b19 ht14
        refine g_iconst (v := 0) dX9_isBefore_59 rfl (i32l rfl) ?_
        cases ht14
        exact g_sub [] rfl Kt14
      · replace ht14 := ifn b19 ht14
        refine g_pc (pc' := 55) rfl ?_
        refine g_iconst (v := 1) dX9_isBefore_55 rfl (i32l rfl) ?_
        refine g_goto (tgt := 60) dX9_isBefore_56 (by decide) ?_
        cases ht14
        exact g_sub [] rfl Kt14
def fX9_ranksBy_l68 (x0 : Nat) (x1 : Int) (x2 : Int) (x3 : Int) (x4 : Int) (x5 : Int) : Nat → Int → Mem → Option (Int × Mem)
  | 0, _, _ => none
  | n + 1, x7, M => (if x7 ≤ x1 then some (x7, M) else if -2147483648 ≤ (x7 - 1) ∧ (x7 - 1) ≤ 2147483647 then if 0 ≤ (x7 - 1) ∧ (x7 - 1) < 8 then Option.bind (fX9_isBefore x0 x5 (M (x0 + 43) (Int.toNat (x7 - 1))) x3 M) (fun q23 => (if q23.1 = 0 then some (x7, q23.2) else if -2147483648 ≤ (x7 - 1) ∧ (x7 - 1) ≤ 2147483647 then if 0 ≤ (x7 - 1) ∧ (x7 - 1) < 8 then if 0 ≤ x7 ∧ x7 < 8 then nm (wr q23.2 (x0 + 43) (Int.toNat x7) (q23.2 (x0 + 43) (Int.toNat (x7 - 1)))) (fun M28 => if -2147483648 ≤ (x7 + (-1)) ∧ (x7 + (-1)) ≤ 2147483647 then fX9_ranksBy_l68 x0 x1 x2 x3 x4 x5 n (x7 + (-1)) M28 else none) else none else none else none)) else none else none)
def fX9_ranksBy_l6 (x0 : Nat) (x1 : Int) (x2 : Int) (x3 : Int) : Nat → Int → Int → Mem → Option (Int × Int × Mem)
  | 0, _, _, _ => none
  | n + 1, x4, x5, M => (if (M x0 0) ≤ x5 then some (x4, x5, M) else Option.bind ((if x2 = (-1) then if 0 ≤ x5 ∧ x5 < 8 then (if (M (x0 + 25) (Int.toNat x5)) = 0 then some (0) else some (1)) else none else if 0 ≤ x5 ∧ x5 < 8 then (if (M (x0 + 25) (Int.toNat x5)) = x2 then some (1) else some (0)) else none) : Option (Int)) (fun t7 => Option.bind ((if t7 = 0 then some (x4, M) else Option.bind (fX9_ranksBy_l68 x0 x1 x2 x3 x4 x5 1000 x4 M) (fun z30 => if 0 ≤ z30.1 ∧ z30.1 < 8 then nm (wr z30.2 (x0 + 43) (Int.toNat z30.1) x5) (fun M32 => if -2147483648 ≤ (x4 + 1) ∧ (x4 + 1) ≤ 2147483647 then some ((x4 + 1), M32) else none) else none)) : Option (Int × Mem)) (fun t18 => if -2147483648 ≤ (x5 + 1) ∧ (x5 + 1) ≤ 2147483647 then fX9_ranksBy_l6 x0 x1 x2 x3 n t18.1 (x5 + 1) t18.2 else none)))
def fX9_ranksBy (x0 : Nat) (x1 : Int) (x2 : Int) (x3 : Int) (M : Mem) : Option (Int × Mem) := Option.bind (fX9_ranksBy_l6 x0 x1 x2 x3 1000 x1 0 M) (fun z35 => some (z35.1, z35.2.2))
set_option maxRecDepth 20000 in
theorem lX9_ranksBy_l68 {X : XC} {d : Nat} {Post : Option XV → Mem → Prop} {x0 : Nat} {x1 : Int} {x2 : Int} {x3 : Int} {x4 : Int} {x5 : Int} (hx0 : Sh x0 = (18, 69)) : ∀ (n : Nat) (x7 : Int) (M : Mem) (t0 : Int × Mem), fX9_ranksBy_l68 x0 x1 x2 x3 x4 x5 n x7 M = some t0 → Go X mX9_ranksBy (d + 2) 115 [(0, XR x0), (1, XI x1), (2, XI x2), (3, XI x3), (4, XI x4), (5, XI x5), (7, XI t0.1)] [] t0.2 Post → Go X mX9_ranksBy (d + 2) 68 [(0, XR x0), (1, XI x1), (2, XI x2), (3, XI x3), (4, XI x4), (5, XI x5), (7, XI x7)] [] M Post := by
  intro n
  induction n with
  | zero => intro _ _ _ h; cases h
  | succ n ih =>
    intro x7 M t0 h K
    unfold fX9_ranksBy_l68 at h
    refine g_iload 6 dX9_ranksBy_68 rfl ?_
    refine g_iload_n 1 dX9_ranksBy_70 rfl ?_
    refine g_icmp_le (tgt := 115) dX9_ranksBy_71 (by decide) (fun b20 => ?_) (fun b20 => ?_)
    · replace h := ifp b20 h
      cases h
      exact g_sub [0, 1, 2, 3, 4, 5, 6] rfl K
    · replace h := ifn b20 h
      refine g_pc (pc' := 74) rfl ?_
      refine g_aload_n 0 dX9_ranksBy_74 rfl ?_
      refine g_iload 5 dX9_ranksBy_75 rfl ?_
      refine g_aload_n 0 dX9_ranksBy_77 rfl ?_
      refine g_getR dX9_ranksBy_78 flX9_105 (by decide) rfl hx0 ?_
      refine g_iload 6 dX9_ranksBy_81 rfl ?_
      refine g_iconst (v := 1) dX9_ranksBy_83 rfl (i32l rfl) ?_
      obtain ⟨c21, h⟩ := chk_some h
      refine g_isub dX9_ranksBy_84 rfl c21 ?_
      obtain ⟨c22, h⟩ := chk_some h
      refine g_iald dX9_ranksBy_85 (sf_8_42 hx0) c22.1 c22.2 ?_
      refine g_pc (pc' := 86) rfl ?_
      refine g_iload_n 3 dX9_ranksBy_86 rfl ?_
      obtain ⟨q23, hq23, h⟩ := bnd_some h
      refine v_I (ci := 8) (as := [XI x5, XI (M (x0 + 43) (Int.toNat (x7 - 1))), XI x3]) dX9_ranksBy_87 mlX9_328 mdX9_isBefore mvX9_isBefore rfl hx0 rfl (Nat.le_of_ble_eq_true rfl) (kX9_isBefore hx0 hq23) rfl ?_
      refine g_if_eq (tgt := 115) dX9_ranksBy_90 (by decide) (fun b24 => ?_) (fun b24 => ?_)
      · replace h := ifp b24 h
        cases h
        exact g_sub [0, 1, 2, 3, 4, 5, 6] rfl K
      · replace h := ifn b24 h
        refine g_pc (pc' := 93) rfl ?_
        refine g_aload_n 0 dX9_ranksBy_93 rfl ?_
        refine g_getR dX9_ranksBy_94 flX9_105 (by decide) rfl hx0 ?_
        refine g_iload 6 dX9_ranksBy_97 rfl ?_
        refine g_aload_n 0 dX9_ranksBy_99 rfl ?_
        refine g_getR dX9_ranksBy_100 flX9_105 (by decide) rfl hx0 ?_
        refine g_iload 6 dX9_ranksBy_103 rfl ?_
        refine g_iconst (v := 1) dX9_ranksBy_105 rfl (i32l rfl) ?_
        obtain ⟨c25, h⟩ := chk_some h
        refine g_isub dX9_ranksBy_106 rfl c25 ?_
        refine g_pc (pc' := 107) rfl ?_
        obtain ⟨c26, h⟩ := chk_some h
        refine g_iald dX9_ranksBy_107 (sf_8_42 hx0) c26.1 c26.2 ?_
        obtain ⟨c27, h⟩ := chk_some h
        refine g_iast dX9_ranksBy_108 (sf_8_42 hx0) c27.1 c27.2 ?_
        refine g_nmM (fun M28 eM28 => ?_)
        replace h := nm_s eM28 h
        obtain ⟨c29, h⟩ := chk_some h
        refine g_iinc (ls' := [(7, XI (x7 + (-1))), (0, XR x0), (1, XI x1), (2, XI x2), (3, XI x3), (4, XI x4), (5, XI x5)]) 6 dX9_ranksBy_109 rfl rfl c29 (by decide) rfl ?_
        refine g_goto (tgt := 68) dX9_ranksBy_112 (by decide) ?_
        exact g_sub [1, 2, 3, 4, 5, 6, 0] rfl (ih _ _ _ h K)
set_option maxRecDepth 20000 in
theorem lX9_ranksBy_l6 {X : XC} {d : Nat} {Post : Option XV → Mem → Prop} {x0 : Nat} {x1 : Int} {x2 : Int} {x3 : Int} (hx0 : Sh x0 = (18, 69)) : ∀ (n : Nat) (x4 x5 : Int) (M : Mem) (t0 : Int × Int × Mem), fX9_ranksBy_l6 x0 x1 x2 x3 n x4 x5 M = some t0 → Go X mX9_ranksBy (d + 2) 133 [(4, XI t0.1)] [] t0.2.2 Post → Go X mX9_ranksBy (d + 2) 6 [(0, XR x0), (1, XI x1), (2, XI x2), (3, XI x3), (4, XI x4), (5, XI x5)] [] M Post := by
  intro n
  induction n with
  | zero => intro _ _ _ _ h; cases h
  | succ n ih =>
    intro x4 x5 M t0 h K
    unfold fX9_ranksBy_l6 at h
    refine g_iload 5 dX9_ranksBy_6 rfl ?_
    refine g_aload_n 0 dX9_ranksBy_8 rfl ?_
    refine g_getI dX9_ranksBy_9 flX9_167 (by decide) rfl hx0 ?_
    refine g_icmp_ge (tgt := 133) dX9_ranksBy_12 (by decide) (fun b1 => ?_) (fun b1 => ?_)
    · replace h := ifp b1 h
      cases h
      exact g_sub [4] rfl K
    · replace h := ifn b1 h
      refine g_pc (pc' := 15) rfl ?_
      refine g_iload_n 2 dX9_ranksBy_15 rfl ?_
      refine g_iconst (v := -1) dX9_ranksBy_16 rfl (i32l rfl) ?_
      obtain ⟨t7, ht7, h⟩ := bnd_some h
      have Kt7 : Go X mX9_ranksBy (d + 2) 54 [(0, XR x0), (1, XI x1), (2, XI x2), (3, XI x3), (4, XI x4), (5, XI x5)] [XI t7] M Post := by
        refine g_istore (ls' := [(6, XI t7), (0, XR x0), (1, XI x1), (2, XI x2), (3, XI x3), (4, XI x4), (5, XI x5)]) dX9_ranksBy_54 (by decide) rfl ?_
        refine g_iload 0 dX9_ranksBy_56 rfl ?_
        obtain ⟨t18, ht18, h⟩ := bnd_some h
        have Kt18 : Go X mX9_ranksBy (d + 2) 127 [(0, XR x0), (1, XI x1), (2, XI x2), (3, XI x3), (4, XI t18.1), (5, XI x5)] [] t18.2 Post := by
          obtain ⟨c34, h⟩ := chk_some h
          refine g_iinc (ls' := [(5, XI (x5 + 1)), (0, XR x0), (1, XI x1), (2, XI x2), (3, XI x3), (4, XI t18.1)]) 5 dX9_ranksBy_127 rfl rfl c34 (by decide) rfl ?_
          refine g_goto (tgt := 6) dX9_ranksBy_130 (by decide) ?_
          exact g_sub [1, 2, 3, 4, 5, 0] rfl (ih _ _ _ _ h K)
        refine g_if_ne (tgt := 64) dX9_ranksBy_58 (by decide) (fun b19 => ?_) (fun b19 => ?_)
        · replace ht18 := ifn b19 ht18
          refine g_iload 5 dX9_ranksBy_64 rfl ?_
          refine g_istore (ls' := [(7, XI x4), (6, XI t7), (0, XR x0), (1, XI x1), (2, XI x2), (3, XI x3), (4, XI x4), (5, XI x5)]) dX9_ranksBy_66 (by decide) rfl ?_
          obtain ⟨z30, hz30, ht18⟩ := bnd_some ht18
          refine g_sub (ls' := [(0, XR x0), (1, XI x1), (2, XI x2), (3, XI x3), (4, XI x4), (5, XI x5), (7, XI x4)]) [2, 3, 4, 5, 6, 7, 0] rfl ?_
          refine lX9_ranksBy_l68 hx0 1000 _ _ _ hz30 ?_
          refine g_aload_n 0 dX9_ranksBy_115 rfl ?_
          refine g_getR dX9_ranksBy_116 flX9_105 (by decide) rfl hx0 ?_
          refine g_iload 6 dX9_ranksBy_119 rfl ?_
          refine g_iload 5 dX9_ranksBy_121 rfl ?_
          obtain ⟨c31, ht18⟩ := chk_some ht18
          refine g_iast dX9_ranksBy_123 (sf_8_42 hx0) c31.1 c31.2 ?_
          refine g_nmM (fun M32 eM32 => ?_)
          replace ht18 := nm_s eM32 ht18
          obtain ⟨c33, ht18⟩ := chk_some ht18
          refine g_iinc (ls' := [(4, XI (x4 + 1)), (0, XR x0), (1, XI x1), (2, XI x2), (3, XI x3), (5, XI x5), (7, XI z30.1)]) 4 dX9_ranksBy_124 rfl rfl c33 (by decide) rfl ?_
          cases ht18
          exact g_sub [1, 2, 3, 4, 0, 5] rfl Kt18
        · replace ht18 := ifp b19 ht18
          refine g_pc (pc' := 61) rfl ?_
          refine g_goto (tgt := 127) dX9_ranksBy_61 (by decide) ?_
          cases ht18
          exact g_sub [1, 2, 3, 4, 5, 6] rfl Kt18
      refine g_icmp_ne (tgt := 38) dX9_ranksBy_17 (by decide) (fun b8 => ?_) (fun b8 => ?_)
      · replace ht7 := ifn b8 ht7
        refine g_aload_n 0 dX9_ranksBy_38 rfl ?_
        refine g_getR dX9_ranksBy_39 flX9_62 (by decide) rfl hx0 ?_
        refine g_iload 5 dX9_ranksBy_42 rfl ?_
        obtain ⟨c9, ht7⟩ := chk_some ht7
        refine g_iald dX9_ranksBy_44 (sf_8_24 hx0) c9.1 c9.2 ?_
        refine g_iload_n 2 dX9_ranksBy_45 rfl ?_
        refine g_icmp_ne (tgt := 53) dX9_ranksBy_46 (by decide) (fun b10 => ?_) (fun b10 => ?_)
        · replace ht7 := ifn b10 ht7
          refine g_iconst (v := 0) dX9_ranksBy_53 rfl (i32l rfl) ?_
          cases ht7
          exact g_sub [0, 1, 2, 3, 4, 5] rfl Kt7
        · replace ht7 := ifp b10 ht7
          refine g_pc (pc' := 49) rfl ?_
          refine g_iconst (v := 1) dX9_ranksBy_49 rfl (i32l rfl) ?_
          refine g_goto (tgt := 54) dX9_ranksBy_50 (by decide) ?_
          cases ht7
          exact g_sub [0, 1, 2, 3, 4, 5] rfl Kt7
      · replace ht7 := ifp b8 ht7
        refine g_pc (pc' := 20) rfl ?_
        refine g_aload_n 0 dX9_ranksBy_20 rfl ?_
        refine g_getR dX9_ranksBy_21 flX9_62 (by decide) rfl hx0 ?_
        refine g_iload 5 dX9_ranksBy_24 rfl ?_
        obtain ⟨c11, ht7⟩ := chk_some ht7
        refine g_iald dX9_ranksBy_26 (sf_8_24 hx0) c11.1 c11.2 ?_
        refine g_if_eq (tgt := 34) dX9_ranksBy_27 (by decide) (fun b12 => ?_) (fun b12 => ?_)
        · replace ht7 := ifp b12 ht7
          refine g_iconst (v := 0) dX9_ranksBy_34 rfl (i32l rfl) ?_
          refine g_goto (tgt := 54) dX9_ranksBy_35 (by decide) ?_
          cases ht7
          exact g_sub [0, 1, 2, 3, 4, 5] rfl Kt7
        · replace ht7 := ifn b12 ht7
          refine g_pc (pc' := 30) rfl ?_
          refine g_iconst (v := 1) dX9_ranksBy_30 rfl (i32l rfl) ?_
          refine g_goto (tgt := 54) dX9_ranksBy_31 (by decide) ?_
          cases ht7
          exact g_sub [0, 1, 2, 3, 4, 5] rfl Kt7
set_option maxRecDepth 20000 in
theorem kX9_ranksBy {X : XC} {d : Nat} {x0 : Nat} {x1 : Int} {x2 : Int} {x3 : Int} (hx0 : Sh x0 = (18, 69)) {M : Mem} {q : Int × Mem} (h : fX9_ranksBy x0 x1 x2 x3 M = some q) : Ct X mX9_ranksBy (d + 2) [XR x0, XI x1, XI x2, XI x3] M (pI q) := by
  unfold fX9_ranksBy at h
  refine ct_go (by decide +kernel) (Nat.le_of_ble_eq_true rfl) (ls := [(0, XR x0), (1, XI x1), (2, XI x2), (3, XI x3)]) rfl ?_
  refine g_iload_n 1 dX9_ranksBy_0 rfl ?_
  refine g_istore (ls' := [(4, XI x1), (0, XR x0), (1, XI x1), (2, XI x2), (3, XI x3)]) dX9_ranksBy_1 (by decide) rfl ?_
  refine g_iconst (v := 0) dX9_ranksBy_3 rfl (i32l rfl) ?_
  refine g_istore (ls' := [(5, XI 0), (4, XI x1), (0, XR x0), (1, XI x1), (2, XI x2), (3, XI x3)]) dX9_ranksBy_4 (by decide) rfl ?_
  obtain ⟨z35, hz35, h⟩ := bnd_some h
  refine g_sub (ls' := [(0, XR x0), (1, XI x1), (2, XI x2), (3, XI x3), (4, XI x1), (5, XI 0)]) [2, 3, 4, 5, 1, 0] rfl ?_
  refine lX9_ranksBy_l6 hx0 1000 _ _ _ _ hz35 ?_
  refine g_iload 0 dX9_ranksBy_133 rfl ?_
  cases h
  exact g_ireturn dX9_ranksBy_135 rfl ⟨rfl, rfl⟩
def fX9_ranked_l58 (x0 : Nat) (x1 : Int) : Nat → Int → Int → Mem → Option (Int × Int × Mem)
  | 0, _, _, _ => none
  | n + 1, x2, x3, M => (if x3 < 0 then some (x2, x3, M) else if 0 ≤ x3 ∧ x3 < 9 then Option.bind ((if (M (x0 + 41) (Int.toNat x3)) = (-5) then some (x2, M) else if 0 ≤ x3 ∧ x3 < 9 then if 0 ≤ x2 ∧ x2 < 8 then nm (wr M (x0 + 43) (Int.toNat x2) (M (x0 + 41) (Int.toNat x3))) (fun M22 => if -2147483648 ≤ (x2 + 1) ∧ (x2 + 1) ≤ 2147483647 then some ((x2 + 1), M22) else none) else none else none) : Option (Int × Mem)) (fun t18 => if -2147483648 ≤ (x3 + (-1)) ∧ (x3 + (-1)) ≤ 2147483647 then fX9_ranked_l58 x0 x1 n t18.1 (x3 + (-1)) t18.2 else none) else none)
def fX9_ranked_l99 (x0 : Nat) (x1 : Int) : Nat → Int → Int → Mem → Option (Int × Int × Mem)
  | 0, _, _, _ => none
  | n + 1, x2, x3, M => (if (M x0 0) ≤ x3 then some (x2, x3, M) else if 0 ≤ x3 ∧ x3 < 8 then Option.bind ((if (M (x0 + 25) (Int.toNat x3)) = 0 then if 0 ≤ x2 ∧ x2 < 8 then nm (wr M (x0 + 43) (Int.toNat x2) x3) (fun M35 => if -2147483648 ≤ (x2 + 1) ∧ (x2 + 1) ≤ 2147483647 then some ((x2 + 1), M35) else none) else none else some (x2, M)) : Option (Int × Mem)) (fun t32 => if -2147483648 ≤ (x3 + 1) ∧ (x3 + 1) ≤ 2147483647 then fX9_ranked_l99 x0 x1 n t32.1 (x3 + 1) t32.2 else none) else none)
def fX9_ranked (x0 : Nat) (x1 : Int) (M : Mem) : Option (Int × Mem) := Option.bind (fX9_isOne x0 x1 M) (fun q1 => (if q1.1 = 0 then some ((-1), q1.2) else Option.bind (fX9_counts x0 q1.2) (fun q3 => if 0 ≤ 0 ∧ 0 ≤ 0 ∧ 0 ≤ (q3.2 x0 23) ∧ 0 + (q3.2 x0 23) ≤ 8 ∧ 0 + (q3.2 x0 23) ≤ 8 then nm (cpM q3.2 (x0 + 28) (Int.toNat 0) (x0 + 43) (Int.toNat 0) (Int.toNat (q3.2 x0 23))) (fun M5 => if -2147483648 ≤ ((M5 x0 22) - 1) ∧ ((M5 x0 22) - 1) ≤ 2147483647 then Option.bind (fX9_ranksBy x0 (M5 x0 23) 1 (if 0 < ((M5 x0 22) - 1) then ((M5 x0 22) - 1) else 0) M5) (fun q7 => nm (q7.1) (fun v8 => if -2147483648 ≤ ((q7.2 x0 22) - 1) ∧ ((q7.2 x0 22) - 1) ≤ 2147483647 then nm (((q7.2 x0 22) - 1)) (fun v10 => Option.bind (fX9_ranked_l58 x0 x1 1000 v8 v10 q7.2) (fun z25 => Option.bind (fX9_ranked_l99 x0 x1 1000 z25.1 0 z25.2.2) (fun z38 => if 0 ≤ x1 ∧ x1 < 8 then some ((z38.2.2 (x0 + 43) (Int.toNat x1)), z38.2.2) else none))) else none)) else none) else none)))
set_option maxRecDepth 20000 in
theorem lX9_ranked_l58 {X : XC} {d : Nat} {Post : Option XV → Mem → Prop} {x0 : Nat} {x1 : Int} (hx0 : Sh x0 = (18, 69)) : ∀ (n : Nat) (x2 x3 : Int) (M : Mem) (t0 : Int × Int × Mem), fX9_ranked_l58 x0 x1 n x2 x3 M = some t0 → Go X mX9_ranked (d + 6) 97 [(0, XR x0), (1, XI x1), (2, XI t0.1)] [] t0.2.2 Post → Go X mX9_ranked (d + 6) 58 [(0, XR x0), (1, XI x1), (2, XI x2), (3, XI x3)] [] M Post := by
  intro n
  induction n with
  | zero => intro _ _ _ _ h; cases h
  | succ n ih =>
    intro x2 x3 M t0 h K
    unfold fX9_ranked_l58 at h
    refine g_iload_n 3 dX9_ranked_58 rfl ?_
    refine g_if_lt (tgt := 97) dX9_ranked_59 (by decide) (fun b11 => ?_) (fun b11 => ?_)
    · replace h := ifp b11 h
      cases h
      exact g_sub [0, 1, 2] rfl K
    · replace h := ifn b11 h
      refine g_pc (pc' := 62) rfl ?_
      refine g_aload_n 0 dX9_ranked_62 rfl ?_
      refine g_getR dX9_ranked_63 flX9_99 (by decide) rfl hx0 ?_
      refine g_iload_n 3 dX9_ranked_66 rfl ?_
      obtain ⟨c12, h⟩ := chk_some h
      refine g_iald dX9_ranked_67 (sf_8_40 hx0) c12.1 c12.2 ?_
      refine g_bip dX9_ranked_68 rfl ?_
      obtain ⟨t18, ht18, h⟩ := bnd_some h
      have Kt18 : Go X mX9_ranked (d + 6) 91 [(0, XR x0), (1, XI x1), (2, XI t18.1), (3, XI x3)] [] t18.2 Post := by
        obtain ⟨c24, h⟩ := chk_some h
        refine g_iinc (ls' := [(3, XI (x3 + (-1))), (0, XR x0), (1, XI x1), (2, XI t18.1)]) 3 dX9_ranked_91 rfl rfl c24 (by decide) rfl ?_
        refine g_goto (tgt := 58) dX9_ranked_94 (by decide) ?_
        exact g_sub [1, 2, 3, 0] rfl (ih _ _ _ _ h K)
      refine g_icmp_ne (tgt := 76) dX9_ranked_70 (by decide) (fun b19 => ?_) (fun b19 => ?_)
      · replace ht18 := ifn b19 ht18
        refine g_aload_n 0 dX9_ranked_76 rfl ?_
        refine g_getR dX9_ranked_77 flX9_105 (by decide) rfl hx0 ?_
        refine g_iload_n 2 dX9_ranked_80 rfl ?_
        refine g_aload_n 0 dX9_ranked_81 rfl ?_
        refine g_getR dX9_ranked_82 flX9_99 (by decide) rfl hx0 ?_
        refine g_iload_n 3 dX9_ranked_85 rfl ?_
        obtain ⟨c20, ht18⟩ := chk_some ht18
        refine g_iald dX9_ranked_86 (sf_8_40 hx0) c20.1 c20.2 ?_
        obtain ⟨c21, ht18⟩ := chk_some ht18
        refine g_iast dX9_ranked_87 (sf_8_42 hx0) c21.1 c21.2 ?_
        refine g_nmM (fun M22 eM22 => ?_)
        replace ht18 := nm_s eM22 ht18
        refine g_pc (pc' := 88) rfl ?_
        obtain ⟨c23, ht18⟩ := chk_some ht18
        refine g_iinc (ls' := [(2, XI (x2 + 1)), (0, XR x0), (1, XI x1), (3, XI x3)]) 2 dX9_ranked_88 rfl rfl c23 (by decide) rfl ?_
        cases ht18
        exact g_sub [1, 2, 0, 3] rfl Kt18
      · replace ht18 := ifp b19 ht18
        refine g_pc (pc' := 73) rfl ?_
        refine g_goto (tgt := 91) dX9_ranked_73 (by decide) ?_
        cases ht18
        exact g_sub [0, 1, 2, 3] rfl Kt18
set_option maxRecDepth 20000 in
theorem lX9_ranked_l99 {X : XC} {d : Nat} {Post : Option XV → Mem → Prop} {x0 : Nat} {x1 : Int} (hx0 : Sh x0 = (18, 69)) : ∀ (n : Nat) (x2 x3 : Int) (M : Mem) (t0 : Int × Int × Mem), fX9_ranked_l99 x0 x1 n x2 x3 M = some t0 → Go X mX9_ranked (d + 6) 135 [(0, XR x0), (1, XI x1)] [] t0.2.2 Post → Go X mX9_ranked (d + 6) 99 [(0, XR x0), (1, XI x1), (2, XI x2), (3, XI x3)] [] M Post := by
  intro n
  induction n with
  | zero => intro _ _ _ _ h; cases h
  | succ n ih =>
    intro x2 x3 M t0 h K
    unfold fX9_ranked_l99 at h
    refine g_iload_n 3 dX9_ranked_99 rfl ?_
    refine g_aload_n 0 dX9_ranked_100 rfl ?_
    refine g_getI dX9_ranked_101 flX9_167 (by decide) rfl hx0 ?_
    refine g_icmp_ge (tgt := 135) dX9_ranked_104 (by decide) (fun b26 => ?_) (fun b26 => ?_)
    · replace h := ifp b26 h
      cases h
      exact g_sub [0, 1] rfl K
    · replace h := ifn b26 h
      refine g_pc (pc' := 107) rfl ?_
      refine g_aload_n 0 dX9_ranked_107 rfl ?_
      refine g_getR dX9_ranked_108 flX9_62 (by decide) rfl hx0 ?_
      refine g_iload_n 3 dX9_ranked_111 rfl ?_
      obtain ⟨c27, h⟩ := chk_some h
      refine g_iald dX9_ranked_112 (sf_8_24 hx0) c27.1 c27.2 ?_
      obtain ⟨t32, ht32, h⟩ := bnd_some h
      have Kt32 : Go X mX9_ranked (d + 6) 129 [(0, XR x0), (1, XI x1), (2, XI t32.1), (3, XI x3)] [] t32.2 Post := by
        obtain ⟨c37, h⟩ := chk_some h
        refine g_iinc (ls' := [(3, XI (x3 + 1)), (0, XR x0), (1, XI x1), (2, XI t32.1)]) 3 dX9_ranked_129 rfl rfl c37 (by decide) rfl ?_
        refine g_goto (tgt := 99) dX9_ranked_132 (by decide) ?_
        exact g_sub [1, 2, 3, 0] rfl (ih _ _ _ _ h K)
      refine g_if_eq (tgt := 119) dX9_ranked_113 (by decide) (fun b33 => ?_) (fun b33 => ?_)
      · replace ht32 := ifp b33 ht32
        refine g_aload_n 0 dX9_ranked_119 rfl ?_
        refine g_getR dX9_ranked_120 flX9_105 (by decide) rfl hx0 ?_
        refine g_iload_n 2 dX9_ranked_123 rfl ?_
        refine g_iload_n 3 dX9_ranked_124 rfl ?_
        obtain ⟨c34, ht32⟩ := chk_some ht32
        refine g_iast dX9_ranked_125 (sf_8_42 hx0) c34.1 c34.2 ?_
        refine g_nmM (fun M35 eM35 => ?_)
        replace ht32 := nm_s eM35 ht32
        obtain ⟨c36, ht32⟩ := chk_some ht32
        refine g_iinc (ls' := [(2, XI (x2 + 1)), (0, XR x0), (1, XI x1), (3, XI x3)]) 2 dX9_ranked_126 rfl rfl c36 (by decide) rfl ?_
        cases ht32
        exact g_sub [1, 2, 0, 3] rfl Kt32
      · replace ht32 := ifn b33 ht32
        refine g_pc (pc' := 116) rfl ?_
        refine g_goto (tgt := 129) dX9_ranked_116 (by decide) ?_
        cases ht32
        exact g_sub [0, 1, 2, 3] rfl Kt32
set_option maxRecDepth 20000 in
theorem kX9_ranked {X : XC} {d : Nat} {x0 : Nat} {x1 : Int} (hx0 : Sh x0 = (18, 69)) {M : Mem} {q : Int × Mem} (h : fX9_ranked x0 x1 M = some q) : Ct X mX9_ranked (d + 6) [XR x0, XI x1] M (pI q) := by
  unfold fX9_ranked at h
  refine ct_go (by decide +kernel) (Nat.le_of_ble_eq_true rfl) (ls := [(0, XR x0), (1, XI x1)]) rfl ?_
  refine g_aload_n 0 dX9_ranked_0 rfl ?_
  refine g_iload_n 1 dX9_ranked_1 rfl ?_
  obtain ⟨q1, hq1, h⟩ := bnd_some h
  refine v_I (ci := 8) (as := [XI x1]) dX9_ranked_2 mlX9_211 mdX9_isOne mvX9_isOne rfl hx0 rfl (Nat.le_of_ble_eq_true rfl) (kX9_isOne hx0 hq1) rfl ?_
  refine g_if_ne (tgt := 10) dX9_ranked_5 (by decide) (fun b2 => ?_) (fun b2 => ?_)
  · replace h := ifn b2 h
    refine g_aload_n 0 dX9_ranked_10 rfl ?_
    obtain ⟨q3, hq3, h⟩ := bnd_some h
    refine v_V (ci := 8) (as := []) dX9_ranked_11 mlX9_310 mdX9_counts mvX9_counts rfl hx0 rfl (Nat.le_of_ble_eq_true rfl) (kX9_counts hx0 hq3) rfl ?_
    refine g_aload_n 0 dX9_ranked_14 rfl ?_
    refine g_getR dX9_ranked_15 flX9_71 (by decide) rfl hx0 ?_
    refine g_iconst (v := 0) dX9_ranked_18 rfl (i32l rfl) ?_
    refine g_aload_n 0 dX9_ranked_19 rfl ?_
    refine g_getR dX9_ranked_20 flX9_105 (by decide) rfl hx0 ?_
    refine g_iconst (v := 0) dX9_ranked_23 rfl (i32l rfl) ?_
    refine g_pc (pc' := 24) rfl ?_
    refine g_aload_n 0 dX9_ranked_24 rfl ?_
    refine g_getI dX9_ranked_25 flX9_251 (by decide) rfl hx0 ?_
    obtain ⟨c4, h⟩ := chk_some h
    refine g_copy dX9_ranked_28 mlX9_332 (sf_8_27 hx0) (sf_8_42 hx0) (by decide) c4.1 c4.2.1 c4.2.2.1 c4.2.2.2.1 c4.2.2.2.2 (Nat.le_of_ble_eq_true rfl) ?_
    refine g_nmM (fun M5 eM5 => ?_)
    replace h := nm_s eM5 h
    refine g_aload_n 0 dX9_ranked_31 rfl ?_
    refine g_aload_n 0 dX9_ranked_32 rfl ?_
    refine g_getI dX9_ranked_33 flX9_251 (by decide) rfl hx0 ?_
    refine g_iconst (v := 1) dX9_ranked_36 rfl (i32l rfl) ?_
    refine g_iconst (v := 0) dX9_ranked_37 rfl (i32l rfl) ?_
    refine g_aload_n 0 dX9_ranked_38 rfl ?_
    refine g_pc (pc' := 39) rfl ?_
    refine g_getI dX9_ranked_39 flX9_248 (by decide) rfl hx0 ?_
    refine g_iconst (v := 1) dX9_ranked_42 rfl (i32l rfl) ?_
    obtain ⟨c6, h⟩ := chk_some h
    refine g_isub dX9_ranked_43 rfl c6 ?_
    refine g_maxI dX9_ranked_44 mlX9_338 (Nat.le_of_ble_eq_true rfl) ?_
    obtain ⟨q7, hq7, h⟩ := bnd_some h
    refine v_I (ci := 8) (as := [XI (M5 x0 23), XI 1, XI (if 0 < ((M5 x0 22) - 1) then ((M5 x0 22) - 1) else 0)]) dX9_ranked_47 mlX9_341 mdX9_ranksBy mvX9_ranksBy rfl hx0 rfl (Nat.le_of_ble_eq_true rfl) (kX9_ranksBy hx0 hq7) rfl ?_
    refine g_nmI (fun v8 ev8 => ?_)
    replace h := nm_s ev8 h
    refine g_istore_n (ls' := [(2, XI v8), (0, XR x0), (1, XI x1)]) dX9_ranked_50 (by decide) rfl ?_
    refine g_aload_n 1 dX9_ranked_51 rfl ?_
    refine g_getI dX9_ranked_52 flX9_248 (by decide) rfl hx0 ?_
    refine g_iconst (v := 1) dX9_ranked_55 rfl (i32l rfl) ?_
    refine g_pc (pc' := 56) rfl ?_
    obtain ⟨c9, h⟩ := chk_some h
    refine g_isub dX9_ranked_56 rfl c9 ?_
    refine g_nmI (fun v10 ev10 => ?_)
    replace h := nm_s ev10 h
    refine g_istore_n (ls' := [(3, XI v10), (2, XI v8), (0, XR x0), (1, XI x1)]) dX9_ranked_57 (by decide) rfl ?_
    obtain ⟨z25, hz25, h⟩ := bnd_some h
    refine g_sub (ls' := [(0, XR x0), (1, XI x1), (2, XI v8), (3, XI v10)]) [2, 3, 1, 0] rfl ?_
    refine lX9_ranked_l58 hx0 1000 _ _ _ _ hz25 ?_
    refine g_iconst (v := 0) dX9_ranked_97 rfl (i32l rfl) ?_
    refine g_istore_n (ls' := [(3, XI 0), (0, XR x0), (1, XI x1), (2, XI z25.1)]) dX9_ranked_98 (by decide) rfl ?_
    obtain ⟨z38, hz38, h⟩ := bnd_some h
    refine g_sub (ls' := [(0, XR x0), (1, XI x1), (2, XI z25.1), (3, XI 0)]) [1, 2, 3, 0] rfl ?_
    refine lX9_ranked_l99 hx0 1000 _ _ _ _ hz38 ?_
    refine g_aload_n 0 dX9_ranked_135 rfl ?_
    refine g_getR dX9_ranked_136 flX9_105 (by decide) rfl hx0 ?_
    refine g_iload_n 1 dX9_ranked_139 rfl ?_
    obtain ⟨c39, h⟩ := chk_some h
    refine g_iald dX9_ranked_140 (sf_8_42 hx0) c39.1 c39.2 ?_
    cases h
    exact g_ireturn dX9_ranked_141 rfl ⟨rfl, rfl⟩
  · replace h := ifp b2 h
    refine g_pc (pc' := 8) rfl ?_
    refine g_iconst (v := -1) dX9_ranked_8 rfl (i32l rfl) ?_
    cases h
    exact g_ireturn dX9_ranked_9 rfl ⟨rfl, rfl⟩
def fX9_standing (x0 : Nat) (x1 : Int) (x2 : Int) (M : Mem) : Option (Int × Mem) := Option.bind (fX9_isStage x0 x1 M) (fun q1 => (if q1.1 = 0 then some ((-1), q1.2) else Option.bind (fX9_ranksBy x0 0 (-1) x1 q1.2) (fun q3 => nm (q3.1) (fun v4 => if -2147483648 ≤ (v4 - 1) ∧ (v4 - 1) ≤ 2147483647 then Option.bind (fX9_in x2 0 (v4 - 1) q3.2) (fun q6 => Option.bind ((if q6.1 = 0 then some ((-1)) else if 0 ≤ x2 ∧ x2 < 8 then some ((q6.2 (x0 + 43) (Int.toNat x2))) else none) : Option (Int)) (fun t9 => some (t9, q6.2))) else none))))
set_option maxRecDepth 20000 in
theorem kX9_standing {X : XC} {d : Nat} {x0 : Nat} {x1 : Int} {x2 : Int} (hx0 : Sh x0 = (18, 69)) {M : Mem} {q : Int × Mem} (h : fX9_standing x0 x1 x2 M = some q) : Ct X mX9_standing (d + 7) [XR x0, XI x1, XI x2] M (pI q) := by
  unfold fX9_standing at h
  refine ct_go (by decide +kernel) (Nat.le_of_ble_eq_true rfl) (ls := [(0, XR x0), (1, XI x1), (2, XI x2)]) rfl ?_
  refine g_aload_n 0 dX9_standing_0 rfl ?_
  refine g_iload_n 1 dX9_standing_1 rfl ?_
  obtain ⟨q1, hq1, h⟩ := bnd_some h
  refine v_I (ci := 8) (as := [XI x1]) dX9_standing_2 mlX9_323 mdX9_isStage mvX9_isStage rfl hx0 rfl (Nat.le_of_ble_eq_true rfl) (kX9_isStage hx0 hq1) rfl ?_
  refine g_if_ne (tgt := 10) dX9_standing_5 (by decide) (fun b2 => ?_) (fun b2 => ?_)
  · replace h := ifn b2 h
    refine g_aload_n 0 dX9_standing_10 rfl ?_
    refine g_iconst (v := 0) dX9_standing_11 rfl (i32l rfl) ?_
    refine g_iconst (v := -1) dX9_standing_12 rfl (i32l rfl) ?_
    refine g_iload_n 1 dX9_standing_13 rfl ?_
    obtain ⟨q3, hq3, h⟩ := bnd_some h
    refine v_I (ci := 8) (as := [XI 0, XI (-1), XI x1]) dX9_standing_14 mlX9_341 mdX9_ranksBy mvX9_ranksBy rfl hx0 rfl (Nat.le_of_ble_eq_true rfl) (kX9_ranksBy hx0 hq3) rfl ?_
    refine g_nmI (fun v4 ev4 => ?_)
    replace h := nm_s ev4 h
    refine g_istore_n (ls' := [(3, XI v4), (0, XR x0), (1, XI x1), (2, XI x2)]) dX9_standing_17 (by decide) rfl ?_
    refine g_iload_n 3 dX9_standing_18 rfl ?_
    refine g_i2l dX9_standing_19 ?_
    refine g_pc (pc' := 20) rfl ?_
    refine g_lconst (v := 0) dX9_standing_20 rfl (i64l rfl) ?_
    refine g_iload_n 0 dX9_standing_21 rfl ?_
    refine g_iconst (v := 1) dX9_standing_22 rfl (i32l rfl) ?_
    obtain ⟨c5, h⟩ := chk_some h
    refine g_isub dX9_standing_23 rfl c5 ?_
    refine g_i2l dX9_standing_24 ?_
    obtain ⟨q6, hq6, h⟩ := bnd_some h
    refine s_I (as := [XL x2, XL 0, XL (v4 - 1)]) dX9_standing_25 mlX9_170 mdX9_in msX9_in rfl (Nat.le_of_ble_eq_true rfl) (kX9_in  hq6) rfl ?_
    obtain ⟨t9, ht9, h⟩ := bnd_some h
    have Kt9 : Go X mX9_standing (d + 7) 41 [] [XI t9] q6.2 (pI q) := by
      cases h
      exact g_ireturn dX9_standing_41 rfl ⟨rfl, rfl⟩
    refine g_if_eq (tgt := 40) dX9_standing_28 (by decide) (fun b10 => ?_) (fun b10 => ?_)
    · replace ht9 := ifp b10 ht9
      refine g_iconst (v := -1) dX9_standing_40 rfl (i32l rfl) ?_
      cases ht9
      exact g_sub [] rfl Kt9
    · replace ht9 := ifn b10 ht9
      refine g_pc (pc' := 31) rfl ?_
      refine g_aload_n 1 dX9_standing_31 rfl ?_
      refine g_getR dX9_standing_32 flX9_105 (by decide) rfl hx0 ?_
      refine g_iload_n 3 dX9_standing_35 rfl ?_
      obtain ⟨c11, ht9⟩ := chk_some ht9
      refine g_iald dX9_standing_36 (sf_8_42 hx0) c11.1 c11.2 ?_
      refine g_goto (tgt := 41) dX9_standing_37 (by decide) ?_
      cases ht9
      exact g_sub [] rfl Kt9
  · replace h := ifp b2 h
    refine g_pc (pc' := 8) rfl ?_
    refine g_iconst (v := -1) dX9_standing_8 rfl (i32l rfl) ?_
    cases h
    exact g_ireturn dX9_standing_9 rfl ⟨rfl, rfl⟩
def fX9_pile (x0 : Nat) (x1 : Int) (x2 : Int) (M : Mem) : Option (Int × Mem) := Option.bind (fX9_tellPiles x0 M) (fun q1 => if -2147483648 ≤ ((q1.2 x0 18) - 1) ∧ ((q1.2 x0 18) - 1) ≤ 2147483647 then Option.bind (fX9_in x1 0 ((q1.2 x0 18) - 1) q1.2) (fun q3 => (if q3.1 = 0 then some ((-1), q3.2) else Option.bind (fX9_in x2 0 1 q3.2) (fun q5 => (if q5.1 = 0 then some ((-1), q5.2) else Option.bind ((if x2 = 0 then if 0 ≤ x1 ∧ x1 < 25 then some ((q5.2 (x0 + 20) (Int.toNat x1))) else none else if 0 ≤ x1 ∧ x1 < 25 then some ((q5.2 (x0 + 22) (Int.toNat x1))) else none) : Option (Int)) (fun t10 => some (t10, q5.2)))))) else none)
set_option maxRecDepth 20000 in
theorem kX9_pile {X : XC} {d : Nat} {x0 : Nat} {x1 : Int} {x2 : Int} (hx0 : Sh x0 = (18, 69)) {M : Mem} {q : Int × Mem} (h : fX9_pile x0 x1 x2 M = some q) : Ct X mX9_pile (d + 4) [XR x0, XI x1, XI x2] M (pI q) := by
  unfold fX9_pile at h
  refine ct_go (by decide +kernel) (Nat.le_of_ble_eq_true rfl) (ls := [(0, XR x0), (1, XI x1), (2, XI x2)]) rfl ?_
  refine g_aload_n 0 dX9_pile_0 rfl ?_
  obtain ⟨q1, hq1, h⟩ := bnd_some h
  refine v_V (ci := 8) (as := []) dX9_pile_1 mlX9_299 mdX9_tellPiles mvX9_tellPiles rfl hx0 rfl (Nat.le_of_ble_eq_true rfl) (kX9_tellPiles hx0 hq1) rfl ?_
  refine g_iload_n 1 dX9_pile_4 rfl ?_
  refine g_i2l dX9_pile_5 ?_
  refine g_lconst (v := 0) dX9_pile_6 rfl (i64l rfl) ?_
  refine g_aload_n 0 dX9_pile_7 rfl ?_
  refine g_getI dX9_pile_8 flX9_225 (by decide) rfl hx0 ?_
  refine g_iconst (v := 1) dX9_pile_11 rfl (i32l rfl) ?_
  refine g_pc (pc' := 12) rfl ?_
  obtain ⟨c2, h⟩ := chk_some h
  refine g_isub dX9_pile_12 rfl c2 ?_
  refine g_i2l dX9_pile_13 ?_
  obtain ⟨q3, hq3, h⟩ := bnd_some h
  refine s_I (as := [XL x1, XL 0, XL ((q1.2 x0 18) - 1)]) dX9_pile_14 mlX9_170 mdX9_in msX9_in rfl (Nat.le_of_ble_eq_true rfl) (kX9_in  hq3) rfl ?_
  refine g_if_eq (tgt := 30) dX9_pile_17 (by decide) (fun b4 => ?_) (fun b4 => ?_)
  · replace h := ifp b4 h
    refine g_iconst (v := -1) dX9_pile_30 rfl (i32l rfl) ?_
    cases h
    exact g_ireturn dX9_pile_31 rfl ⟨rfl, rfl⟩
  · replace h := ifn b4 h
    refine g_pc (pc' := 20) rfl ?_
    refine g_iload_n 2 dX9_pile_20 rfl ?_
    refine g_i2l dX9_pile_21 ?_
    refine g_lconst (v := 0) dX9_pile_22 rfl (i64l rfl) ?_
    refine g_lconst (v := 1) dX9_pile_23 rfl (i64l rfl) ?_
    obtain ⟨q5, hq5, h⟩ := bnd_some h
    refine s_I (as := [XL x2, XL 0, XL 1]) dX9_pile_24 mlX9_170 mdX9_in msX9_in rfl (Nat.le_of_ble_eq_true rfl) (kX9_in  hq5) rfl ?_
    refine g_if_ne (tgt := 32) dX9_pile_27 (by decide) (fun b6 => ?_) (fun b6 => ?_)
    · replace h := ifn b6 h
      refine g_iload_n 2 dX9_pile_32 rfl ?_
      obtain ⟨t10, ht10, h⟩ := bnd_some h
      have Kt10 : Go X mX9_pile (d + 4) 51 [] [XI t10] q5.2 (pI q) := by
        cases h
        exact g_ireturn dX9_pile_51 rfl ⟨rfl, rfl⟩
      refine g_if_ne (tgt := 45) dX9_pile_33 (by decide) (fun b11 => ?_) (fun b11 => ?_)
      · replace ht10 := ifn b11 ht10
        refine g_aload_n 0 dX9_pile_45 rfl ?_
        refine g_getR dX9_pile_46 flX9_59 (by decide) rfl hx0 ?_
        refine g_iload_n 1 dX9_pile_49 rfl ?_
        obtain ⟨c12, ht10⟩ := chk_some ht10
        refine g_iald dX9_pile_50 (sf_8_21 hx0) c12.1 c12.2 ?_
        cases ht10
        exact g_sub [] rfl Kt10
      · replace ht10 := ifp b11 ht10
        refine g_pc (pc' := 36) rfl ?_
        refine g_aload_n 0 dX9_pile_36 rfl ?_
        refine g_getR dX9_pile_37 flX9_53 (by decide) rfl hx0 ?_
        refine g_iload_n 1 dX9_pile_40 rfl ?_
        obtain ⟨c13, ht10⟩ := chk_some ht10
        refine g_iald dX9_pile_41 (sf_8_19 hx0) c13.1 c13.2 ?_
        refine g_goto (tgt := 51) dX9_pile_42 (by decide) ?_
        cases ht10
        exact g_sub [] rfl Kt10
    · replace h := ifp b6 h
      refine g_pc (pc' := 30) rfl ?_
      refine g_iconst (v := -1) dX9_pile_30 rfl (i32l rfl) ?_
      cases h
      exact g_ireturn dX9_pile_31 rfl ⟨rfl, rfl⟩
def fX9_isTwo (x0 : Nat) (x1 : Int) (x2 : Int) (M : Mem) : Option (Int × Mem) := Option.bind (fX9_isOne x0 x1 M) (fun q1 => Option.bind ((if q1.1 = 0 then some (0, q1.2) else Option.bind (fX9_isOne x0 x2 q1.2) (fun q8 => (if q8.1 = 0 then some (0, q8.2) else (if x1 = x2 then some (0, q8.2) else some (1, q8.2))))) : Option (Int × Mem)) (fun t6 => if t6.1 = 0 ∨ t6.1 = 1 then some (t6.1, t6.2) else none))
set_option maxRecDepth 20000 in
theorem kX9_isTwo {X : XC} {d : Nat} {x0 : Nat} {x1 : Int} {x2 : Int} (hx0 : Sh x0 = (18, 69)) {M : Mem} {q : Int × Mem} (h : fX9_isTwo x0 x1 x2 M = some q) : Ct X mX9_isTwo (d + 2) [XR x0, XI x1, XI x2] M (pI q) := by
  unfold fX9_isTwo at h
  refine ct_go (by decide +kernel) (Nat.le_of_ble_eq_true rfl) (ls := [(0, XR x0), (1, XI x1), (2, XI x2)]) rfl ?_
  refine g_aload_n 0 dX9_isTwo_0 rfl ?_
  refine g_iload_n 1 dX9_isTwo_1 rfl ?_
  obtain ⟨q1, hq1, h⟩ := bnd_some h
  refine v_I (ci := 8) (as := [XI x1]) dX9_isTwo_2 mlX9_211 mdX9_isOne mvX9_isOne rfl hx0 rfl (Nat.le_of_ble_eq_true rfl) (kX9_isOne hx0 hq1) rfl ?_
  obtain ⟨t6, ht6, h⟩ := bnd_some h
  have Kt6 : Go X mX9_isTwo (d + 2) 26 [] [XI t6.1] t6.2 (pI q) := by
    obtain ⟨cz, h⟩ := chk_some h
    cases h
    exact g_zreturn dX9_isTwo_26 rfl cz ⟨rfl, rfl⟩
  refine g_if_eq (tgt := 25) dX9_isTwo_5 (by decide) (fun b7 => ?_) (fun b7 => ?_)
  · replace ht6 := ifp b7 ht6
    refine g_iconst (v := 0) dX9_isTwo_25 rfl (i32l rfl) ?_
    cases ht6
    exact g_sub [] rfl Kt6
  · replace ht6 := ifn b7 ht6
    refine g_pc (pc' := 8) rfl ?_
    refine g_aload_n 0 dX9_isTwo_8 rfl ?_
    refine g_iload_n 2 dX9_isTwo_9 rfl ?_
    obtain ⟨q8, hq8, ht6⟩ := bnd_some ht6
    refine v_I (ci := 8) (as := [XI x2]) dX9_isTwo_10 mlX9_211 mdX9_isOne mvX9_isOne rfl hx0 rfl (Nat.le_of_ble_eq_true rfl) (kX9_isOne hx0 hq8) rfl ?_
    refine g_if_eq (tgt := 25) dX9_isTwo_13 (by decide) (fun b9 => ?_) (fun b9 => ?_)
    · replace ht6 := ifp b9 ht6
      refine g_iconst (v := 0) dX9_isTwo_25 rfl (i32l rfl) ?_
      cases ht6
      exact g_sub [] rfl Kt6
    · replace ht6 := ifn b9 ht6
      refine g_pc (pc' := 16) rfl ?_
      refine g_iload_n 1 dX9_isTwo_16 rfl ?_
      refine g_iload_n 2 dX9_isTwo_17 rfl ?_
      refine g_icmp_eq (tgt := 25) dX9_isTwo_18 (by decide) (fun b10 => ?_) (fun b10 => ?_)
      · replace ht6 := ifp b10 ht6
        refine g_iconst (v := 0) dX9_isTwo_25 rfl (i32l rfl) ?_
        cases ht6
        exact g_sub [] rfl Kt6
      · replace ht6 := ifn b10 ht6
        refine g_pc (pc' := 21) rfl ?_
        refine g_iconst (v := 1) dX9_isTwo_21 rfl (i32l rfl) ?_
        refine g_goto (tgt := 26) dX9_isTwo_22 (by decide) ?_
        cases ht6
        exact g_sub [] rfl Kt6
def fX9_preferredTo_l35 (x0 : Nat) (x1 : Int) (x2 : Int) (x3 : Int) (x4 : Int) (x5 : Int) : Nat → Int → Int → Mem → Option (Int × Int × Mem)
  | 0, _, _, _ => none
  | n + 1, x6, x7, M => (if x7 < 0 then some (x6, x7, M) else Option.bind (fX9_digitAt x5 x7 M) (fun q8 => if -2147483648 ≤ (q8.1 - 1) ∧ (q8.1 - 1) ≤ 2147483647 then nm ((q8.1 - 1)) (fun v10 => Option.bind ((if v10 = x1 then some (v10) else (if v10 = x2 then some (v10) else some (x6))) : Option (Int)) (fun t13 => if -2147483648 ≤ (x7 + (-1)) ∧ (x7 + (-1)) ≤ 2147483647 then fX9_preferredTo_l35 x0 x1 x2 x3 x4 x5 n t13 (x7 + (-1)) q8.2 else none)) else none))
def fX9_preferredTo_l5 (x0 : Nat) (x1 : Int) (x2 : Int) : Nat → Int → Int → Mem → Option (Int × Int × Mem)
  | 0, _, _, _ => none
  | n + 1, x3, x4, M => (if (M x0 1) ≤ x4 then some (x3, x4, M) else if 0 ≤ x4 ∧ x4 < 25 then nm ((M (x0 + 5) (Int.toNat x4))) (fun v3 => Option.bind (fX9_lengthOf v3 M) (fun q4 => if -2147483648 ≤ (q4.1 - 1) ∧ (q4.1 - 1) ≤ 2147483647 then nm ((q4.1 - 1)) (fun v6 => Option.bind (fX9_preferredTo_l35 x0 x1 x2 x3 x4 v3 1000 (-1) v6 q4.2) (fun z17 => Option.bind ((if z17.1 = x1 then if 0 ≤ x4 ∧ x4 < 25 then if -2147483648 ≤ (x3 + (z17.2.2 (x0 + 6) (Int.toNat x4))) ∧ (x3 + (z17.2.2 (x0 + 6) (Int.toNat x4))) ≤ 2147483647 then nm ((x3 + (z17.2.2 (x0 + 6) (Int.toNat x4)))) (fun v26 => some (v26)) else none else none else some (x3)) : Option (Int)) (fun t22 => if -2147483648 ≤ (x4 + 1) ∧ (x4 + 1) ≤ 2147483647 then fX9_preferredTo_l5 x0 x1 x2 n t22 (x4 + 1) z17.2.2 else none))) else none)) else none)
def fX9_preferredTo (x0 : Nat) (x1 : Int) (x2 : Int) (M : Mem) : Option (Int × Mem) := Option.bind (fX9_preferredTo_l5 x0 x1 x2 1000 0 0 M) (fun z28 => some (z28.1, z28.2.2))
set_option maxRecDepth 20000 in
theorem lX9_preferredTo_l35 {X : XC} {d : Nat} {Post : Option XV → Mem → Prop} {x0 : Nat} {x1 : Int} {x2 : Int} {x3 : Int} {x4 : Int} {x5 : Int} (hx0 : Sh x0 = (18, 69)) : ∀ (n : Nat) (x6 x7 : Int) (M : Mem) (t0 : Int × Int × Mem), fX9_preferredTo_l35 x0 x1 x2 x3 x4 x5 n x6 x7 M = some t0 → Go X mX9_preferredTo (d + 2) 73 [(0, XR x0), (1, XI x1), (2, XI x2), (3, XI x3), (4, XI x4), (6, XI t0.1)] [] t0.2.2 Post → Go X mX9_preferredTo (d + 2) 35 [(0, XR x0), (1, XI x1), (2, XI x2), (3, XI x3), (4, XI x4), (5, XI x5), (6, XI x6), (7, XI x7)] [] M Post := by
  intro n
  induction n with
  | zero => intro _ _ _ _ h; cases h
  | succ n ih =>
    intro x6 x7 M t0 h K
    unfold fX9_preferredTo_l35 at h
    refine g_iload 7 dX9_preferredTo_35 rfl ?_
    refine g_if_lt (tgt := 73) dX9_preferredTo_37 (by decide) (fun b7 => ?_) (fun b7 => ?_)
    · replace h := ifp b7 h
      cases h
      exact g_sub [0, 1, 2, 3, 4, 6] rfl K
    · replace h := ifn b7 h
      refine g_pc (pc' := 40) rfl ?_
      refine g_iload 5 dX9_preferredTo_40 rfl ?_
      refine g_iload 7 dX9_preferredTo_42 rfl ?_
      obtain ⟨q8, hq8, h⟩ := bnd_some h
      refine s_I (as := [XI x5, XI x7]) dX9_preferredTo_44 mlX9_181 mdX9_digitAt msX9_digitAt rfl (Nat.le_of_ble_eq_true rfl) (kX9_digitAt  hq8) rfl ?_
      refine g_iconst (v := 1) dX9_preferredTo_47 rfl (i32l rfl) ?_
      obtain ⟨c9, h⟩ := chk_some h
      refine g_isub dX9_preferredTo_48 rfl c9 ?_
      refine g_nmI (fun v10 ev10 => ?_)
      replace h := nm_s ev10 h
      refine g_istore (ls' := [(8, XI v10), (0, XR x0), (1, XI x1), (2, XI x2), (3, XI x3), (4, XI x4), (5, XI x5), (6, XI x6), (7, XI x7)]) dX9_preferredTo_49 (by decide) rfl ?_
      refine g_iload 0 dX9_preferredTo_51 rfl ?_
      refine g_iload_n 2 dX9_preferredTo_53 rfl ?_
      refine g_pc (pc' := 54) rfl ?_
      obtain ⟨t13, ht13, h⟩ := bnd_some h
      have Kt13 : Go X mX9_preferredTo (d + 2) 67 [(0, XR x0), (1, XI x1), (2, XI x2), (3, XI x3), (4, XI x4), (5, XI x5), (6, XI t13), (7, XI x7)] [] q8.2 Post := by
        obtain ⟨c16, h⟩ := chk_some h
        refine g_iinc (ls' := [(7, XI (x7 + (-1))), (0, XR x0), (1, XI x1), (2, XI x2), (3, XI x3), (4, XI x4), (5, XI x5), (6, XI t13)]) 7 dX9_preferredTo_67 rfl rfl c16 (by decide) rfl ?_
        refine g_goto (tgt := 35) dX9_preferredTo_70 (by decide) ?_
        exact g_sub [1, 2, 3, 4, 5, 6, 7, 0] rfl (ih _ _ _ _ h K)
      refine g_icmp_eq (tgt := 63) dX9_preferredTo_54 (by decide) (fun b14 => ?_) (fun b14 => ?_)
      · replace ht13 := ifp b14 ht13
        refine g_iload 0 dX9_preferredTo_63 rfl ?_
        refine g_istore (ls' := [(6, XI v10), (8, XI v10), (0, XR x0), (1, XI x1), (2, XI x2), (3, XI x3), (4, XI x4), (5, XI x5), (7, XI x7)]) dX9_preferredTo_65 (by decide) rfl ?_
        cases ht13
        exact g_sub [2, 3, 4, 5, 6, 7, 0, 8] rfl Kt13
      · replace ht13 := ifn b14 ht13
        refine g_pc (pc' := 57) rfl ?_
        refine g_iload 0 dX9_preferredTo_57 rfl ?_
        refine g_iload_n 3 dX9_preferredTo_59 rfl ?_
        refine g_icmp_ne (tgt := 67) dX9_preferredTo_60 (by decide) (fun b15 => ?_) (fun b15 => ?_)
        · replace ht13 := ifn b15 ht13
          cases ht13
          exact g_sub [1, 2, 3, 4, 5, 6, 7, 8] rfl Kt13
        · replace ht13 := ifp b15 ht13
          refine g_pc (pc' := 63) rfl ?_
          refine g_iload 0 dX9_preferredTo_63 rfl ?_
          refine g_istore (ls' := [(6, XI v10), (8, XI v10), (0, XR x0), (1, XI x1), (2, XI x2), (3, XI x3), (4, XI x4), (5, XI x5), (7, XI x7)]) dX9_preferredTo_65 (by decide) rfl ?_
          cases ht13
          exact g_sub [2, 3, 4, 5, 6, 7, 0, 8] rfl Kt13
set_option maxRecDepth 20000 in
theorem lX9_preferredTo_l5 {X : XC} {d : Nat} {Post : Option XV → Mem → Prop} {x0 : Nat} {x1 : Int} {x2 : Int} (hx0 : Sh x0 = (18, 69)) : ∀ (n : Nat) (x3 x4 : Int) (M : Mem) (t0 : Int × Int × Mem), fX9_preferredTo_l5 x0 x1 x2 n x3 x4 M = some t0 → Go X mX9_preferredTo (d + 2) 95 [(3, XI t0.1)] [] t0.2.2 Post → Go X mX9_preferredTo (d + 2) 5 [(0, XR x0), (1, XI x1), (2, XI x2), (3, XI x3), (4, XI x4)] [] M Post := by
  intro n
  induction n with
  | zero => intro _ _ _ _ h; cases h
  | succ n ih =>
    intro x3 x4 M t0 h K
    unfold fX9_preferredTo_l5 at h
    refine g_iload 4 dX9_preferredTo_5 rfl ?_
    refine g_aload_n 0 dX9_preferredTo_7 rfl ?_
    refine g_getI dX9_preferredTo_8 flX9_174 (by decide) rfl hx0 ?_
    refine g_icmp_ge (tgt := 95) dX9_preferredTo_11 (by decide) (fun b1 => ?_) (fun b1 => ?_)
    · replace h := ifp b1 h
      cases h
      exact g_sub [3] rfl K
    · replace h := ifn b1 h
      refine g_pc (pc' := 14) rfl ?_
      refine g_aload_n 0 dX9_preferredTo_14 rfl ?_
      refine g_getR dX9_preferredTo_15 flX9_19 (by decide) rfl hx0 ?_
      refine g_iload 4 dX9_preferredTo_18 rfl ?_
      obtain ⟨c2, h⟩ := chk_some h
      refine g_iald dX9_preferredTo_20 (sf_8_4 hx0) c2.1 c2.2 ?_
      refine g_nmI (fun v3 ev3 => ?_)
      replace h := nm_s ev3 h
      refine g_istore (ls' := [(5, XI v3), (0, XR x0), (1, XI x1), (2, XI x2), (3, XI x3), (4, XI x4)]) dX9_preferredTo_21 (by decide) rfl ?_
      refine g_iconst (v := -1) dX9_preferredTo_23 rfl (i32l rfl) ?_
      refine g_istore (ls' := [(6, XI (-1)), (5, XI v3), (0, XR x0), (1, XI x1), (2, XI x2), (3, XI x3), (4, XI x4)]) dX9_preferredTo_24 (by decide) rfl ?_
      refine g_iload 1 dX9_preferredTo_26 rfl ?_
      refine g_pc (pc' := 28) rfl ?_
      obtain ⟨q4, hq4, h⟩ := bnd_some h
      refine s_I (as := [XI v3]) dX9_preferredTo_28 mlX9_177 mdX9_lengthOf msX9_lengthOf rfl (Nat.le_of_ble_eq_true rfl) (kX9_lengthOf  hq4) rfl ?_
      refine g_iconst (v := 1) dX9_preferredTo_31 rfl (i32l rfl) ?_
      obtain ⟨c5, h⟩ := chk_some h
      refine g_isub dX9_preferredTo_32 rfl c5 ?_
      refine g_nmI (fun v6 ev6 => ?_)
      replace h := nm_s ev6 h
      refine g_istore (ls' := [(7, XI v6), (6, XI (-1)), (5, XI v3), (0, XR x0), (1, XI x1), (2, XI x2), (3, XI x3), (4, XI x4)]) dX9_preferredTo_33 (by decide) rfl ?_
      obtain ⟨z17, hz17, h⟩ := bnd_some h
      refine g_sub (ls' := [(0, XR x0), (1, XI x1), (2, XI x2), (3, XI x3), (4, XI x4), (5, XI v3), (6, XI (-1)), (7, XI v6)]) [3, 4, 5, 6, 7, 2, 1, 0] rfl ?_
      refine lX9_preferredTo_l35 hx0 1000 _ _ _ _ hz17 ?_
      refine g_iload 5 dX9_preferredTo_73 rfl ?_
      refine g_iload_n 1 dX9_preferredTo_75 rfl ?_
      obtain ⟨t22, ht22, h⟩ := bnd_some h
      have Kt22 : Go X mX9_preferredTo (d + 2) 89 [(0, XR x0), (1, XI x1), (2, XI x2), (3, XI t22), (4, XI x4)] [] z17.2.2 Post := by
        obtain ⟨c27, h⟩ := chk_some h
        refine g_iinc (ls' := [(4, XI (x4 + 1)), (0, XR x0), (1, XI x1), (2, XI x2), (3, XI t22)]) 4 dX9_preferredTo_89 rfl rfl c27 (by decide) rfl ?_
        refine g_goto (tgt := 5) dX9_preferredTo_92 (by decide) ?_
        exact g_sub [1, 2, 3, 4, 0] rfl (ih _ _ _ _ h K)
      refine g_icmp_ne (tgt := 89) dX9_preferredTo_76 (by decide) (fun b23 => ?_) (fun b23 => ?_)
      · replace ht22 := ifn b23 ht22
        cases ht22
        exact g_sub [0, 1, 2, 3, 4] rfl Kt22
      · replace ht22 := ifp b23 ht22
        refine g_pc (pc' := 79) rfl ?_
        refine g_iload_n 3 dX9_preferredTo_79 rfl ?_
        refine g_aload_n 0 dX9_preferredTo_80 rfl ?_
        refine g_getR dX9_preferredTo_81 flX9_22 (by decide) rfl hx0 ?_
        refine g_iload 4 dX9_preferredTo_84 rfl ?_
        obtain ⟨c24, ht22⟩ := chk_some ht22
        refine g_iald dX9_preferredTo_86 (sf_8_5 hx0) c24.1 c24.2 ?_
        obtain ⟨c25, ht22⟩ := chk_some ht22
        refine g_iadd dX9_preferredTo_87 rfl c25 ?_
        refine g_nmI (fun v26 ev26 => ?_)
        replace ht22 := nm_s ev26 ht22
        refine g_istore_n (ls' := [(3, XI v26), (0, XR x0), (1, XI x1), (2, XI x2), (4, XI x4), (6, XI z17.1)]) dX9_preferredTo_88 (by decide) rfl ?_
        cases ht22
        exact g_sub [1, 2, 3, 0, 4] rfl Kt22
set_option maxRecDepth 20000 in
theorem kX9_preferredTo {X : XC} {d : Nat} {x0 : Nat} {x1 : Int} {x2 : Int} (hx0 : Sh x0 = (18, 69)) {M : Mem} {q : Int × Mem} (h : fX9_preferredTo x0 x1 x2 M = some q) : Ct X mX9_preferredTo (d + 2) [XR x0, XI x1, XI x2] M (pI q) := by
  unfold fX9_preferredTo at h
  refine ct_go (by decide +kernel) (Nat.le_of_ble_eq_true rfl) (ls := [(0, XR x0), (1, XI x1), (2, XI x2)]) rfl ?_
  refine g_iconst (v := 0) dX9_preferredTo_0 rfl (i32l rfl) ?_
  refine g_istore_n (ls' := [(3, XI 0), (0, XR x0), (1, XI x1), (2, XI x2)]) dX9_preferredTo_1 (by decide) rfl ?_
  refine g_iconst (v := 0) dX9_preferredTo_2 rfl (i32l rfl) ?_
  refine g_istore (ls' := [(4, XI 0), (3, XI 0), (0, XR x0), (1, XI x1), (2, XI x2)]) dX9_preferredTo_3 (by decide) rfl ?_
  obtain ⟨z28, hz28, h⟩ := bnd_some h
  refine g_sub (ls' := [(0, XR x0), (1, XI x1), (2, XI x2), (3, XI 0), (4, XI 0)]) [2, 3, 4, 1, 0] rfl ?_
  refine lX9_preferredTo_l5 hx0 1000 _ _ _ _ hz28 ?_
  refine g_iload_n 0 dX9_preferredTo_95 rfl ?_
  cases h
  exact g_ireturn dX9_preferredTo_96 rfl ⟨rfl, rfl⟩
def fX9_preferred (x0 : Nat) (x1 : Int) (x2 : Int) (M : Mem) : Option (Int × Mem) := Option.bind (fX9_isTwo x0 x1 x2 M) (fun q1 => Option.bind ((if q1.1 = 0 then some ((-1), q1.2) else Option.bind (fX9_preferredTo x0 x1 x2 q1.2) (fun q6 => some (q6.1, q6.2))) : Option (Int × Mem)) (fun t4 => some (t4.1, t4.2)))
set_option maxRecDepth 20000 in
theorem kX9_preferred {X : XC} {d : Nat} {x0 : Nat} {x1 : Int} {x2 : Int} (hx0 : Sh x0 = (18, 69)) {M : Mem} {q : Int × Mem} (h : fX9_preferred x0 x1 x2 M = some q) : Ct X mX9_preferred (d + 3) [XR x0, XI x1, XI x2] M (pI q) := by
  unfold fX9_preferred at h
  refine ct_go (by decide +kernel) (Nat.le_of_ble_eq_true rfl) (ls := [(0, XR x0), (1, XI x1), (2, XI x2)]) rfl ?_
  refine g_aload_n 0 dX9_preferred_0 rfl ?_
  refine g_iload_n 1 dX9_preferred_1 rfl ?_
  refine g_iload_n 2 dX9_preferred_2 rfl ?_
  obtain ⟨q1, hq1, h⟩ := bnd_some h
  refine v_I (ci := 8) (as := [XI x1, XI x2]) dX9_preferred_3 mlX9_345 mdX9_isTwo mvX9_isTwo rfl hx0 rfl (Nat.le_of_ble_eq_true rfl) (kX9_isTwo hx0 hq1) rfl ?_
  obtain ⟨t4, ht4, h⟩ := bnd_some h
  have Kt4 : Go X mX9_preferred (d + 3) 19 [] [XI t4.1] t4.2 (pI q) := by
    cases h
    exact g_ireturn dX9_preferred_19 rfl ⟨rfl, rfl⟩
  refine g_if_eq (tgt := 18) dX9_preferred_6 (by decide) (fun b5 => ?_) (fun b5 => ?_)
  · replace ht4 := ifp b5 ht4
    refine g_iconst (v := -1) dX9_preferred_18 rfl (i32l rfl) ?_
    cases ht4
    exact g_sub [] rfl Kt4
  · replace ht4 := ifn b5 ht4
    refine g_pc (pc' := 9) rfl ?_
    refine g_aload_n 0 dX9_preferred_9 rfl ?_
    refine g_iload_n 1 dX9_preferred_10 rfl ?_
    refine g_iload_n 2 dX9_preferred_11 rfl ?_
    obtain ⟨q6, hq6, ht4⟩ := bnd_some ht4
    refine v_I (ci := 8) (as := [XI x1, XI x2]) dX9_preferred_12 mlX9_348 mdX9_preferredTo mvX9_preferredTo rfl hx0 rfl (Nat.le_of_ble_eq_true rfl) (kX9_preferredTo hx0 hq6) rfl ?_
    refine g_goto (tgt := 19) dX9_preferred_15 (by decide) ?_
    cases ht4
    exact g_sub [] rfl Kt4
def fX9_isBest_l17 (x0 : Nat) (x1 : Int) : Nat → Int → Int → Mem → Option (Int × Int × Mem)
  | 0, _, _, _ => none
  | n + 1, x2, x3, M => (if (M x0 0) ≤ x3 then some (x2, x3, M) else Option.bind ((if x3 = x1 then some (x2, M) else if 0 ≤ x3 ∧ x3 < 8 then (if (M (x0 + 3) (Int.toNat x3)) = 0 then Option.bind ((if x2 = 0 then some (0, M) else Option.bind (fX9_preferredTo x0 x1 x3 M) (fun q29 => Option.bind (fX9_preferredTo x0 x3 x1 q29.2) (fun q30 => (if q29.1 ≤ q30.1 then some (0, q30.2) else some (1, q30.2))))) : Option (Int × Mem)) (fun t27 => nm (t27.1) (fun v32 => some (v32, t27.2))) else some (x2, M)) else none) : Option (Int × Mem)) (fun t19 => if -2147483648 ≤ (x3 + 1) ∧ (x3 + 1) ≤ 2147483647 then fX9_isBest_l17 x0 x1 n t19.1 (x3 + 1) t19.2 else none))
def fX9_isBest (x0 : Nat) (x1 : Int) (M : Mem) : Option (Int × Mem) := if 0 ≤ x1 ∧ x1 < 8 then Option.bind ((if (M (x0 + 3) (Int.toNat x1)) = 0 then some (1) else some (0)) : Option (Int)) (fun t3 => Option.bind (fX9_isBest_l17 x0 x1 1000 t3 0 M) (fun z34 => if z34.1 = 0 ∨ z34.1 = 1 then some (z34.1, z34.2.2) else none)) else none
set_option maxRecDepth 20000 in
theorem lX9_isBest_l17 {X : XC} {d : Nat} {Post : Option XV → Mem → Prop} {x0 : Nat} {x1 : Int} (hx0 : Sh x0 = (18, 69)) : ∀ (n : Nat) (x2 x3 : Int) (M : Mem) (t0 : Int × Int × Mem), fX9_isBest_l17 x0 x1 n x2 x3 M = some t0 → Go X mX9_isBest (d + 3) 70 [(2, XI t0.1)] [] t0.2.2 Post → Go X mX9_isBest (d + 3) 17 [(0, XR x0), (1, XI x1), (2, XI x2), (3, XI x3)] [] M Post := by
  intro n
  induction n with
  | zero => intro _ _ _ _ h; cases h
  | succ n ih =>
    intro x2 x3 M t0 h K
    unfold fX9_isBest_l17 at h
    refine g_iload_n 3 dX9_isBest_17 rfl ?_
    refine g_aload_n 0 dX9_isBest_18 rfl ?_
    refine g_getI dX9_isBest_19 flX9_167 (by decide) rfl hx0 ?_
    refine g_icmp_ge (tgt := 70) dX9_isBest_22 (by decide) (fun b5 => ?_) (fun b5 => ?_)
    · replace h := ifp b5 h
      cases h
      exact g_sub [2] rfl K
    · replace h := ifn b5 h
      refine g_pc (pc' := 25) rfl ?_
      refine g_iload_n 3 dX9_isBest_25 rfl ?_
      refine g_iload_n 1 dX9_isBest_26 rfl ?_
      obtain ⟨t19, ht19, h⟩ := bnd_some h
      have Kt19 : Go X mX9_isBest (d + 3) 64 [(0, XR x0), (1, XI x1), (2, XI t19.1), (3, XI x3)] [] t19.2 Post := by
        obtain ⟨c33, h⟩ := chk_some h
        refine g_iinc (ls' := [(3, XI (x3 + 1)), (0, XR x0), (1, XI x1), (2, XI t19.1)]) 3 dX9_isBest_64 rfl rfl c33 (by decide) rfl ?_
        refine g_goto (tgt := 17) dX9_isBest_67 (by decide) ?_
        exact g_sub [1, 2, 3, 0] rfl (ih _ _ _ _ h K)
      refine g_icmp_eq (tgt := 64) dX9_isBest_27 (by decide) (fun b20 => ?_) (fun b20 => ?_)
      · replace ht19 := ifp b20 ht19
        cases ht19
        exact g_sub [0, 1, 2, 3] rfl Kt19
      · replace ht19 := ifn b20 ht19
        refine g_pc (pc' := 30) rfl ?_
        refine g_aload_n 0 dX9_isBest_30 rfl ?_
        refine g_getR dX9_isBest_31 flX9_11 (by decide) rfl hx0 ?_
        refine g_iload_n 3 dX9_isBest_34 rfl ?_
        obtain ⟨c21, ht19⟩ := chk_some ht19
        refine g_zald dX9_isBest_35 (sf_8_2 hx0) c21.1 c21.2 ?_
        refine g_if_ne (tgt := 64) dX9_isBest_36 (by decide) (fun b22 => ?_) (fun b22 => ?_)
        · replace ht19 := ifn b22 ht19
          cases ht19
          exact g_sub [0, 1, 2, 3] rfl Kt19
        · replace ht19 := ifp b22 ht19
          refine g_pc (pc' := 39) rfl ?_
          refine g_iload_n 2 dX9_isBest_39 rfl ?_
          obtain ⟨t27, ht27, ht19⟩ := bnd_some ht19
          have Kt27 : Go X mX9_isBest (d + 3) 63 [(0, XR x0), (1, XI x1), (3, XI x3)] [XI t27.1] t27.2 Post := by
            refine g_nmI (fun v32 ev32 => ?_)
            replace ht19 := nm_s ev32 ht19
            refine g_istore_n (ls' := [(2, XI v32), (0, XR x0), (1, XI x1), (3, XI x3)]) dX9_isBest_63 (by decide) rfl ?_
            cases ht19
            exact g_sub [1, 2, 0, 3] rfl Kt19
          refine g_if_eq (tgt := 62) dX9_isBest_40 (by decide) (fun b28 => ?_) (fun b28 => ?_)
          · replace ht27 := ifp b28 ht27
            refine g_iconst (v := 0) dX9_isBest_62 rfl (i32l rfl) ?_
            cases ht27
            exact g_sub [0, 1, 3] rfl Kt27
          · replace ht27 := ifn b28 ht27
            refine g_pc (pc' := 43) rfl ?_
            refine g_aload_n 0 dX9_isBest_43 rfl ?_
            refine g_iload_n 1 dX9_isBest_44 rfl ?_
            refine g_iload_n 3 dX9_isBest_45 rfl ?_
            obtain ⟨q29, hq29, ht27⟩ := bnd_some ht27
            refine v_I (ci := 8) (as := [XI x1, XI x3]) dX9_isBest_46 mlX9_348 mdX9_preferredTo mvX9_preferredTo rfl hx0 rfl (Nat.le_of_ble_eq_true rfl) (kX9_preferredTo hx0 hq29) rfl ?_
            refine g_aload_n 0 dX9_isBest_49 rfl ?_
            refine g_iload_n 3 dX9_isBest_50 rfl ?_
            refine g_iload_n 1 dX9_isBest_51 rfl ?_
            obtain ⟨q30, hq30, ht27⟩ := bnd_some ht27
            refine v_I (ci := 8) (as := [XI x3, XI x1]) dX9_isBest_52 mlX9_348 mdX9_preferredTo mvX9_preferredTo rfl hx0 rfl (Nat.le_of_ble_eq_true rfl) (kX9_preferredTo hx0 hq30) rfl ?_
            refine g_pc (pc' := 55) rfl ?_
            refine g_icmp_le (tgt := 62) dX9_isBest_55 (by decide) (fun b31 => ?_) (fun b31 => ?_)
            · replace ht27 := ifp b31 ht27
              refine g_iconst (v := 0) dX9_isBest_62 rfl (i32l rfl) ?_
              cases ht27
              exact g_sub [0, 1, 3] rfl Kt27
            · replace ht27 := ifn b31 ht27
              refine g_pc (pc' := 58) rfl ?_
              refine g_iconst (v := 1) dX9_isBest_58 rfl (i32l rfl) ?_
              refine g_goto (tgt := 63) dX9_isBest_59 (by decide) ?_
              cases ht27
              exact g_sub [0, 1, 3] rfl Kt27
set_option maxRecDepth 20000 in
theorem kX9_isBest {X : XC} {d : Nat} {x0 : Nat} {x1 : Int} (hx0 : Sh x0 = (18, 69)) {M : Mem} {q : Int × Mem} (h : fX9_isBest x0 x1 M = some q) : Ct X mX9_isBest (d + 3) [XR x0, XI x1] M (pI q) := by
  unfold fX9_isBest at h
  refine ct_go (by decide +kernel) (Nat.le_of_ble_eq_true rfl) (ls := [(0, XR x0), (1, XI x1)]) rfl ?_
  refine g_aload_n 0 dX9_isBest_0 rfl ?_
  refine g_getR dX9_isBest_1 flX9_11 (by decide) rfl hx0 ?_
  refine g_iload_n 1 dX9_isBest_4 rfl ?_
  obtain ⟨c1, h⟩ := chk_some h
  refine g_zald dX9_isBest_5 (sf_8_2 hx0) c1.1 c1.2 ?_
  obtain ⟨t3, ht3, h⟩ := bnd_some h
  have Kt3 : Go X mX9_isBest (d + 3) 14 [(0, XR x0), (1, XI x1)] [XI t3] M (pI q) := by
    refine g_istore_n (ls' := [(2, XI t3), (0, XR x0), (1, XI x1)]) dX9_isBest_14 (by decide) rfl ?_
    refine g_iconst (v := 0) dX9_isBest_15 rfl (i32l rfl) ?_
    refine g_istore_n (ls' := [(3, XI 0), (2, XI t3), (0, XR x0), (1, XI x1)]) dX9_isBest_16 (by decide) rfl ?_
    obtain ⟨z34, hz34, h⟩ := bnd_some h
    refine g_sub (ls' := [(0, XR x0), (1, XI x1), (2, XI t3), (3, XI 0)]) [2, 3, 1, 0] rfl ?_
    refine lX9_isBest_l17 hx0 1000 _ _ _ _ hz34 ?_
    refine g_iload_n 0 dX9_isBest_70 rfl ?_
    obtain ⟨cz, h⟩ := chk_some h
    cases h
    exact g_zreturn dX9_isBest_71 rfl cz ⟨rfl, rfl⟩
  refine g_if_ne (tgt := 13) dX9_isBest_6 (by decide) (fun b4 => ?_) (fun b4 => ?_)
  · replace ht3 := ifn b4 ht3
    refine g_iconst (v := 0) dX9_isBest_13 rfl (i32l rfl) ?_
    cases ht3
    exact g_sub [0, 1] rfl Kt3
  · replace ht3 := ifp b4 ht3
    refine g_pc (pc' := 9) rfl ?_
    refine g_iconst (v := 1) dX9_isBest_9 rfl (i32l rfl) ?_
    refine g_goto (tgt := 14) dX9_isBest_10 (by decide) ?_
    cases ht3
    exact g_sub [0, 1] rfl Kt3
def fX9_best_l2 (x0 : Nat) : Nat → Int → Mem → Option ((Int × Mem) ⊕ (Int × Mem))
  | 0, _, _ => none
  | n + 1, x1, M => (if (M x0 0) ≤ x1 then some (.inl ((-5), M)) else Option.bind (fX9_isBest x0 x1 M) (fun q2 => (if q2.1 = 0 then if -2147483648 ≤ (x1 + 1) ∧ (x1 + 1) ≤ 2147483647 then fX9_best_l2 x0 n (x1 + 1) q2.2 else none else some (.inl (x1, q2.2)))))
def fX9_best (x0 : Nat) (M : Mem) : Option (Int × Mem) := lr (fX9_best_l2 x0 1000 0 M) (fun r => r) (fun _ => none)
set_option maxRecDepth 20000 in
theorem lX9_best_l2 {X : XC} {d : Nat} {Post : Option XV → Mem → Prop} {x0 : Nat} (hx0 : Sh x0 = (18, 69)) : ∀ (n : Nat) (x1 : Int) (M : Mem) (z : (Int × Mem) ⊕ (Int × Mem)), fX9_best_l2 x0 n x1 M = some z → (∀ r, z = .inl r → Post (some (XI r.1)) r.2) → Go X mX9_best (d + 4) 2 [(0, XR x0), (1, XI x1)] [] M Post := by
  intro n
  induction n with
  | zero => intro _ _ _ h; cases h
  | succ n ih =>
    intro x1 M z h K1
    unfold fX9_best_l2 at h
    refine g_iload_n 1 dX9_best_2 rfl ?_
    refine g_aload_n 0 dX9_best_3 rfl ?_
    refine g_getI dX9_best_4 flX9_167 (by decide) rfl hx0 ?_
    refine g_icmp_ge (tgt := 26) dX9_best_7 (by decide) (fun b1 => ?_) (fun b1 => ?_)
    · replace h := ifp b1 h
      refine g_bip dX9_best_26 rfl ?_
      cases h
      exact g_ireturn dX9_best_28 rfl (K1 ((-5), M) rfl)
    · replace h := ifn b1 h
      refine g_pc (pc' := 10) rfl ?_
      refine g_aload_n 0 dX9_best_10 rfl ?_
      refine g_iload_n 1 dX9_best_11 rfl ?_
      obtain ⟨q2, hq2, h⟩ := bnd_some h
      refine v_I (ci := 8) (as := [XI x1]) dX9_best_12 mlX9_351 mdX9_isBest mvX9_isBest rfl hx0 rfl (Nat.le_of_ble_eq_true rfl) (kX9_isBest hx0 hq2) rfl ?_
      refine g_if_eq (tgt := 20) dX9_best_15 (by decide) (fun b3 => ?_) (fun b3 => ?_)
      · replace h := ifp b3 h
        obtain ⟨c4, h⟩ := chk_some h
        refine g_iinc (ls' := [(1, XI (x1 + 1)), (0, XR x0)]) 1 dX9_best_20 rfl rfl c4 (by decide) rfl ?_
        refine g_goto (tgt := 2) dX9_best_23 (by decide) ?_
        exact g_sub [1, 0] rfl (ih _ _ _ h K1)
      · replace h := ifn b3 h
        refine g_pc (pc' := 18) rfl ?_
        refine g_iload_n 1 dX9_best_18 rfl ?_
        cases h
        exact g_ireturn dX9_best_19 rfl (K1 (x1, q2.2) rfl)
set_option maxRecDepth 20000 in
theorem kX9_best {X : XC} {d : Nat} {x0 : Nat} (hx0 : Sh x0 = (18, 69)) {M : Mem} {q : Int × Mem} (h : fX9_best x0 M = some q) : Ct X mX9_best (d + 4) [XR x0] M (pI q) := by
  unfold fX9_best at h
  refine ct_go (by decide +kernel) (Nat.le_of_ble_eq_true rfl) (ls := [(0, XR x0)]) rfl ?_
  refine g_iconst (v := 0) dX9_best_0 rfl (i32l rfl) ?_
  refine g_istore_n (ls' := [(1, XI 0), (0, XR x0)]) dX9_best_1 (by decide) rfl ?_
  obtain ⟨z5, hz5, rz5, h⟩ := lr_some h
  refine g_sub (ls' := [(0, XR x0), (1, XI 0)]) [1, 0] rfl ?_
  refine lX9_best_l2 hx0 1000 _ _ _ hz5 (fun r e => ?_)
  have rz5 := rz5 r e
  subst rz5
  exact ⟨rfl, rfl⟩
def fX9_lowest_l6 (x0 : Int) (x2 : Int) (x4 : Int) : Nat → Int → Int → Mem → Option (Int × Int × Mem)
  | 0, _, _, _ => none
  | n + 1, x5, x7, M => (if x7 = 0 then some (x5, x7, M) else if 0 ≤ x5 ∧ 0 < x7 then nm ((x5 % x7)) (fun v3 => fX9_lowest_l6 x0 x2 x4 n x7 v3 M) else none)
def fX9_lowest (x0 : Int) (x2 : Int) (x4 : Int) (M : Mem) : Option (Int × Mem) := Option.bind (fX9_lowest_l6 x0 x2 x4 1000 x0 x2 M) (fun z4 => Option.bind ((if x4 = 0 then some (x0) else some (x2)) : Option (Int)) (fun t6 => if 0 ≤ t6 ∧ 0 < z4.1 then some ((t6 / z4.1), z4.2.2) else none))
set_option maxRecDepth 20000 in
theorem lX9_lowest_l6 {X : XC} {d : Nat} {Post : Option XV → Mem → Prop} {x0 : Int} {x2 : Int} {x4 : Int}  : ∀ (n : Nat) (x5 x7 : Int) (M : Mem) (t0 : Int × Int × Mem), fX9_lowest_l6 x0 x2 x4 n x5 x7 M = some t0 → Go X mX9_lowest d 31 [(0, XL x0), (2, XL x2), (4, XI x4), (5, XL t0.1)] [] t0.2.2 Post → Go X mX9_lowest d 6 [(0, XL x0), (2, XL x2), (4, XI x4), (5, XL x5), (7, XL x7)] [] M Post := by
  intro n
  induction n with
  | zero => intro _ _ _ _ h; cases h
  | succ n ih =>
    intro x5 x7 M t0 h K
    unfold fX9_lowest_l6 at h
    refine g_lload 4 dX9_lowest_6 rfl ?_
    refine g_lconst (v := 0) dX9_lowest_8 rfl (i64l rfl) ?_
    refine g_lcmp_eq (tgt := 31) dX9_lowest_9 dX9_lowest_10 (by decide) (fun b1 => ?_) (fun b1 => ?_)
    · replace h := ifp b1 h
      cases h
      exact g_sub [0, 1, 2, 3] rfl K
    · replace h := ifn b1 h
      refine g_pc (pc' := 13) rfl ?_
      refine g_lload 3 dX9_lowest_13 rfl ?_
      refine g_lload 4 dX9_lowest_15 rfl ?_
      obtain ⟨c2, h⟩ := chk_some h
      refine g_lrem dX9_lowest_17 c2.1 c2.2 rfl ?_
      refine g_nmL (fun v3 ev3 => ?_)
      replace h := nm_s ev3 h
      refine g_lstore (ls' := [(9, XL v3), (0, XL x0), (2, XL x2), (4, XI x4), (5, XL x5), (7, XL x7)]) dX9_lowest_18 (by decide) rfl ?_
      refine g_lload 5 dX9_lowest_20 rfl ?_
      refine g_lstore (ls' := [(5, XL x7), (9, XL v3), (0, XL x0), (2, XL x2), (4, XI x4), (7, XL x7)]) dX9_lowest_22 (by decide) rfl ?_
      refine g_lload 1 dX9_lowest_24 rfl ?_
      refine g_lstore (ls' := [(7, XL v3), (5, XL x7), (9, XL v3), (0, XL x0), (2, XL x2), (4, XI x4)]) dX9_lowest_26 (by decide) rfl ?_
      refine g_pc (pc' := 28) rfl ?_
      refine g_goto (tgt := 6) dX9_lowest_28 (by decide) ?_
      exact g_sub [3, 4, 5, 1, 0] rfl (ih _ _ _ _ h K)
set_option maxRecDepth 20000 in
theorem kX9_lowest {X : XC} {d : Nat} {x0 : Int} {x2 : Int} {x4 : Int}  {M : Mem} {q : Int × Mem} (h : fX9_lowest x0 x2 x4 M = some q) : Ct X mX9_lowest d [XL x0, XL x2, XI x4] M (pJ q) := by
  unfold fX9_lowest at h
  refine ct_go (by decide +kernel) (Nat.le_of_ble_eq_true rfl) (ls := [(0, XL x0), (2, XL x2), (4, XI x4)]) rfl ?_
  refine g_lload_n 0 dX9_lowest_0 rfl ?_
  refine g_lstore (ls' := [(5, XL x0), (0, XL x0), (2, XL x2), (4, XI x4)]) dX9_lowest_1 (by decide) rfl ?_
  refine g_lload_n 2 dX9_lowest_3 rfl ?_
  refine g_lstore (ls' := [(7, XL x2), (5, XL x0), (0, XL x0), (2, XL x2), (4, XI x4)]) dX9_lowest_4 (by decide) rfl ?_
  obtain ⟨z4, hz4, h⟩ := bnd_some h
  refine g_sub (ls' := [(0, XL x0), (2, XL x2), (4, XI x4), (5, XL x0), (7, XL x2)]) [2, 3, 4, 1, 0] rfl ?_
  refine lX9_lowest_l6  1000 _ _ _ _ hz4 ?_
  refine g_iload 2 dX9_lowest_31 rfl ?_
  obtain ⟨t6, ht6, h⟩ := bnd_some h
  have Kt6 : Go X mX9_lowest d 41 [(5, XL z4.1)] [XL t6] z4.2.2 (pJ q) := by
    refine g_lload 0 dX9_lowest_41 rfl ?_
    obtain ⟨c8, h⟩ := chk_some h
    refine g_ldiv dX9_lowest_43 c8.1 c8.2 rfl ?_
    cases h
    exact g_lreturn dX9_lowest_44 rfl ⟨rfl, rfl⟩
  refine g_if_ne (tgt := 40) dX9_lowest_33 (by decide) (fun b7 => ?_) (fun b7 => ?_)
  · replace ht6 := ifn b7 ht6
    refine g_lload_n 1 dX9_lowest_40 rfl ?_
    cases ht6
    exact g_sub [3] rfl Kt6
  · replace ht6 := ifp b7 ht6
    refine g_pc (pc' := 36) rfl ?_
    refine g_lload_n 0 dX9_lowest_36 rfl ?_
    refine g_goto (tgt := 41) dX9_lowest_37 (by decide) ?_
    cases ht6
    exact g_sub [3] rfl Kt6
def fX9_share (x0 : Nat) (x1 : Int) (x2 : Int) (x3 : Int) (M : Mem) : Option (Int × Mem) := Option.bind (fX9_isStage x0 x1 M) (fun q1 => (if q1.1 = 0 then some ((-9223372036854775808), q1.2) else Option.bind (fX9_isOne x0 x2 q1.2) (fun q3 => (if q3.1 = 0 then some ((-9223372036854775808), q3.2) else Option.bind (fX9_in x3 0 1 q3.2) (fun q5 => (if q5.1 = 0 then some ((-9223372036854775808), q5.2) else if 0 ≤ x1 ∧ x1 < 9 then (if (q5.2 (x0 + 38) (Int.toNat x1)) = 0 then some (x3, q5.2) else if -2147483648 ≤ (8 * x1) ∧ (8 * x1) ≤ 2147483647 then if -2147483648 ≤ ((8 * x1) + x2) ∧ ((8 * x1) + x2) ≤ 2147483647 then if 0 ≤ ((8 * x1) + x2) ∧ ((8 * x1) + x2) < 72 then if 0 ≤ x1 ∧ x1 < 9 then Option.bind (fX9_lowest (q5.2 (x0 + 34) (Int.toNat ((8 * x1) + x2))) (q5.2 (x0 + 38) (Int.toNat x1)) x3 q5.2) (fun q13 => some (q13.1, q13.2)) else none else none else none else none) else none))))))
set_option maxRecDepth 20000 in
theorem kX9_share {X : XC} {d : Nat} {x0 : Nat} {x1 : Int} {x2 : Int} {x3 : Int} (hx0 : Sh x0 = (18, 69)) {M : Mem} {q : Int × Mem} (h : fX9_share x0 x1 x2 x3 M = some q) : Ct X mX9_share (d + 7) [XR x0, XI x1, XI x2, XI x3] M (pJ q) := by
  unfold fX9_share at h
  refine ct_go (by decide +kernel) (Nat.le_of_ble_eq_true rfl) (ls := [(0, XR x0), (1, XI x1), (2, XI x2), (3, XI x3)]) rfl ?_
  refine g_aload_n 0 dX9_share_0 rfl ?_
  refine g_iload_n 1 dX9_share_1 rfl ?_
  obtain ⟨q1, hq1, h⟩ := bnd_some h
  refine v_I (ci := 8) (as := [XI x1]) dX9_share_2 mlX9_323 mdX9_isStage mvX9_isStage rfl hx0 rfl (Nat.le_of_ble_eq_true rfl) (kX9_isStage hx0 hq1) rfl ?_
  refine g_if_eq (tgt := 26) dX9_share_5 (by decide) (fun b2 => ?_) (fun b2 => ?_)
  · replace h := ifp b2 h
    refine g_ldc2 (v := -9223372036854775808) dX9_share_26 csX9_326 (by decide +kernel) (i64l rfl) ?_
    cases h
    exact g_lreturn dX9_share_29 rfl ⟨rfl, rfl⟩
  · replace h := ifn b2 h
    refine g_pc (pc' := 8) rfl ?_
    refine g_aload_n 0 dX9_share_8 rfl ?_
    refine g_iload_n 2 dX9_share_9 rfl ?_
    obtain ⟨q3, hq3, h⟩ := bnd_some h
    refine v_I (ci := 8) (as := [XI x2]) dX9_share_10 mlX9_211 mdX9_isOne mvX9_isOne rfl hx0 rfl (Nat.le_of_ble_eq_true rfl) (kX9_isOne hx0 hq3) rfl ?_
    refine g_if_eq (tgt := 26) dX9_share_13 (by decide) (fun b4 => ?_) (fun b4 => ?_)
    · replace h := ifp b4 h
      refine g_ldc2 (v := -9223372036854775808) dX9_share_26 csX9_326 (by decide +kernel) (i64l rfl) ?_
      cases h
      exact g_lreturn dX9_share_29 rfl ⟨rfl, rfl⟩
    · replace h := ifn b4 h
      refine g_pc (pc' := 16) rfl ?_
      refine g_iload_n 3 dX9_share_16 rfl ?_
      refine g_i2l dX9_share_17 ?_
      refine g_lconst (v := 0) dX9_share_18 rfl (i64l rfl) ?_
      refine g_lconst (v := 1) dX9_share_19 rfl (i64l rfl) ?_
      obtain ⟨q5, hq5, h⟩ := bnd_some h
      refine s_I (as := [XL x3, XL 0, XL 1]) dX9_share_20 mlX9_170 mdX9_in msX9_in rfl (Nat.le_of_ble_eq_true rfl) (kX9_in  hq5) rfl ?_
      refine g_if_ne (tgt := 30) dX9_share_23 (by decide) (fun b6 => ?_) (fun b6 => ?_)
      · replace h := ifn b6 h
        refine g_aload_n 0 dX9_share_30 rfl ?_
        refine g_getR dX9_share_31 flX9_90 (by decide) rfl hx0 ?_
        refine g_iload_n 1 dX9_share_34 rfl ?_
        obtain ⟨c7, h⟩ := chk_some h
        refine g_lald dX9_share_35 (sf_8_37 hx0) c7.1 c7.2 ?_
        refine g_lconst (v := 0) dX9_share_36 rfl (i64l rfl) ?_
        refine g_lcmp_ne (tgt := 44) dX9_share_37 dX9_share_38 (by decide) (fun b8 => ?_) (fun b8 => ?_)
        · replace h := ifn b8 h
          refine g_aload_n 0 dX9_share_44 rfl ?_
          refine g_getR dX9_share_45 flX9_78 (by decide) rfl hx0 ?_
          refine g_bip dX9_share_48 rfl ?_
          refine g_iload_n 1 dX9_share_50 rfl ?_
          obtain ⟨c9, h⟩ := chk_some h
          refine g_imul dX9_share_51 rfl c9 ?_
          refine g_iload_n 2 dX9_share_52 rfl ?_
          obtain ⟨c10, h⟩ := chk_some h
          refine g_iadd dX9_share_53 rfl c10 ?_
          obtain ⟨c11, h⟩ := chk_some h
          refine g_lald dX9_share_54 (sf_8_33 hx0) c11.1 c11.2 ?_
          refine g_pc (pc' := 55) rfl ?_
          refine g_aload_n 0 dX9_share_55 rfl ?_
          refine g_getR dX9_share_56 flX9_90 (by decide) rfl hx0 ?_
          refine g_iload_n 1 dX9_share_59 rfl ?_
          obtain ⟨c12, h⟩ := chk_some h
          refine g_lald dX9_share_60 (sf_8_37 hx0) c12.1 c12.2 ?_
          refine g_iload_n 3 dX9_share_61 rfl ?_
          obtain ⟨q13, hq13, h⟩ := bnd_some h
          refine s_J (as := [XL (q5.2 (x0 + 34) (Int.toNat ((8 * x1) + x2))), XL (q5.2 (x0 + 38) (Int.toNat x1)), XI x3]) dX9_share_62 mlX9_354 mdX9_lowest msX9_lowest rfl (Nat.le_of_ble_eq_true rfl) (kX9_lowest  hq13) rfl ?_
          cases h
          exact g_lreturn dX9_share_65 rfl ⟨rfl, rfl⟩
        · replace h := ifp b8 h
          refine g_pc (pc' := 41) rfl ?_
          refine g_iload_n 3 dX9_share_41 rfl ?_
          refine g_i2l dX9_share_42 ?_
          cases h
          exact g_lreturn dX9_share_43 rfl ⟨rfl, rfl⟩
      · replace h := ifp b6 h
        refine g_pc (pc' := 26) rfl ?_
        refine g_ldc2 (v := -9223372036854775808) dX9_share_26 csX9_326 (by decide +kernel) (i64l rfl) ?_
        cases h
        exact g_lreturn dX9_share_29 rfl ⟨rfl, rfl⟩
def fX9_without (x0 : Nat) (x1 : Int) (M : Mem) : Option (Int × Mem) := Option.bind (fX9_isOne x0 x1 M) (fun q1 => (if q1.1 = 0 then some ((-1), q1.2) else if 0 ≤ x1 ∧ x1 < 8 then nm ((q1.2 (x0 + 3) (Int.toNat x1))) (fun v4 => if 0 ≤ x1 ∧ x1 < 8 then nm (wr q1.2 (x0 + 3) (Int.toNat x1) 1) (fun M6 => Option.bind (fX9_electedSet x0 M6) (fun q7 => nm (q7.1) (fun v8 => if 0 ≤ x1 ∧ x1 < 8 then if v4 = 0 ∨ v4 = 1 then nm (wr q7.2 (x0 + 3) (Int.toNat x1) v4) (fun M11 => some (v8, M11)) else none else none))) else none) else none))
set_option maxRecDepth 20000 in
theorem kX9_without {X : XC} {d : Nat} {x0 : Nat} {x1 : Int} (hx0 : Sh x0 = (18, 69)) {M : Mem} {q : Int × Mem} (h : fX9_without x0 x1 M = some q) : Ct X mX9_without (d + 7) [XR x0, XI x1] M (pI q) := by
  unfold fX9_without at h
  refine ct_go (by decide +kernel) (Nat.le_of_ble_eq_true rfl) (ls := [(0, XR x0), (1, XI x1)]) rfl ?_
  refine g_aload_n 0 dX9_without_0 rfl ?_
  refine g_iload_n 1 dX9_without_1 rfl ?_
  obtain ⟨q1, hq1, h⟩ := bnd_some h
  refine v_I (ci := 8) (as := [XI x1]) dX9_without_2 mlX9_211 mdX9_isOne mvX9_isOne rfl hx0 rfl (Nat.le_of_ble_eq_true rfl) (kX9_isOne hx0 hq1) rfl ?_
  refine g_if_ne (tgt := 10) dX9_without_5 (by decide) (fun b2 => ?_) (fun b2 => ?_)
  · replace h := ifn b2 h
    refine g_aload_n 0 dX9_without_10 rfl ?_
    refine g_getR dX9_without_11 flX9_11 (by decide) rfl hx0 ?_
    refine g_iload_n 1 dX9_without_14 rfl ?_
    obtain ⟨c3, h⟩ := chk_some h
    refine g_zald dX9_without_15 (sf_8_2 hx0) c3.1 c3.2 ?_
    refine g_nmI (fun v4 ev4 => ?_)
    replace h := nm_s ev4 h
    refine g_istore_n (ls' := [(2, XI v4), (0, XR x0), (1, XI x1)]) dX9_without_16 (by decide) rfl ?_
    refine g_aload_n 1 dX9_without_17 rfl ?_
    refine g_getR dX9_without_18 flX9_11 (by decide) rfl hx0 ?_
    refine g_iload_n 2 dX9_without_21 rfl ?_
    refine g_pc (pc' := 22) rfl ?_
    refine g_iconst (v := 1) dX9_without_22 rfl (i32l rfl) ?_
    obtain ⟨c5, h⟩ := chk_some h
    refine g_zast dX9_without_23 (sf_8_2 hx0) c5.1 c5.2 (by decide) ?_
    refine g_nmM (fun M6 eM6 => ?_)
    replace h := nm_s eM6 h
    refine g_aload_n 1 dX9_without_24 rfl ?_
    obtain ⟨q7, hq7, h⟩ := bnd_some h
    refine v_I (ci := 8) (as := []) dX9_without_25 mlX9_320 mdX9_electedSet mvX9_electedSet rfl hx0 rfl (Nat.le_of_ble_eq_true rfl) (kX9_electedSet hx0 hq7) rfl ?_
    refine g_nmI (fun v8 ev8 => ?_)
    replace h := nm_s ev8 h
    refine g_istore_n (ls' := [(3, XI v8), (2, XI v4), (0, XR x0), (1, XI x1)]) dX9_without_28 (by decide) rfl ?_
    refine g_aload_n 2 dX9_without_29 rfl ?_
    refine g_getR dX9_without_30 flX9_11 (by decide) rfl hx0 ?_
    refine g_iload_n 3 dX9_without_33 rfl ?_
    refine g_iload_n 1 dX9_without_34 rfl ?_
    refine g_pc (pc' := 35) rfl ?_
    obtain ⟨c9, h⟩ := chk_some h
    obtain ⟨c10, h⟩ := chk_some h
    refine g_zast dX9_without_35 (sf_8_2 hx0) c9.1 c9.2 c10 ?_
    refine g_nmM (fun M11 eM11 => ?_)
    replace h := nm_s eM11 h
    refine g_iload_n 0 dX9_without_36 rfl ?_
    cases h
    exact g_ireturn dX9_without_37 rfl ⟨rfl, rfl⟩
  · replace h := ifp b2 h
    refine g_pc (pc' := 8) rfl ?_
    refine g_iconst (v := -1) dX9_without_8 rfl (i32l rfl) ?_
    cases h
    exact g_ireturn dX9_without_9 rfl ⟨rfl, rfl⟩
end
