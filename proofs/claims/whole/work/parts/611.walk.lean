section
set_option maxHeartbeats 8000000 in
set_option maxRecDepth 20000 in
theorem lX8_beatsAll_l2 {X : XC} {d : Nat} {Post : Option XV → Mem → Prop} {x0 : Nat} {x1 : Int} (hx0 : Sh x0 = (17, 10)) : ∀ (n : Nat) (x2 : Int) (M : Mem) (z : (Int × Mem) ⊕ (Int × Mem)), fX8_beatsAll_l2 x0 x1 n x2 M = some z → (∀ r, z = .inl r → Post (some (XI r.1)) r.2) → Go X mX8_beatsAll (d + 3) 2 [(0, XR x0), (1, XI x1), (2, XI x2)] [] M Post := by
  intro n
  induction n with
  | zero => intro _ _ _ h; cases h
  | succ n ih =>
    intro x2 M z h K1
    unfold fX8_beatsAll_l2 at h
    refine g_iload_n 2 dX8_beatsAll_2 rfl ?_
    refine g_aload_n 0 dX8_beatsAll_3 rfl ?_
    refine g_getR dX8_beatsAll_4 flX8_14 (by decide) rfl hx0 ?_
    refine g_getI dX8_beatsAll_7 flX8_64 (by decide) rfl (sf_7_0 hx0) ?_
    refine g_icmp_ge (tgt := 69) dX8_beatsAll_10 (by decide) (fun b1 => ?_) (fun b1 => ?_)
    · replace h := ifp b1 h
      refine g_iconst (v := 1) dX8_beatsAll_69 rfl (i32l rfl) ?_
      cases h
      exact g_zreturn dX8_beatsAll_70 rfl (by decide) (K1 (1, M) rfl)
    · replace h := ifn b1 h
      refine g_pc (pc' := 13) rfl ?_
      refine g_iload_n 2 dX8_beatsAll_13 rfl ?_
      refine g_iload_n 1 dX8_beatsAll_14 rfl ?_
      obtain ⟨t5, ht5, h⟩ := bnd_some h
      have Kt5 : Go X mX8_beatsAll (d + 3) 35 [(0, XR x0), (1, XI x1), (2, XI x2)] [XI t5] M Post := by
        refine g_istore_n (ls' := [(3, XI t5), (0, XR x0), (1, XI x1), (2, XI x2)]) dX8_beatsAll_35 (by decide) rfl ?_
        refine g_iload_n 0 dX8_beatsAll_36 rfl ?_
        refine g_if_eq (tgt := 63) dX8_beatsAll_37 (by decide) (fun b9 => ?_) (fun b9 => ?_)
        · replace h := ifp b9 h
          obtain ⟨c10, h⟩ := chk_some h
          refine g_iinc (ls' := [(2, XI (x2 + 1)), (3, XI t5), (0, XR x0), (1, XI x1)]) 3 dX8_beatsAll_63 rfl rfl c10 (by decide) rfl ?_
          refine g_goto (tgt := 2) dX8_beatsAll_66 (by decide) ?_
          exact g_sub [2, 3, 0] rfl (ih _ _ _ h K1)
        · replace h := ifn b9 h
          refine g_pc (pc' := 40) rfl ?_
          refine g_aload_n 1 dX8_beatsAll_40 rfl ?_
          refine g_getR dX8_beatsAll_41 flX8_14 (by decide) rfl hx0 ?_
          refine g_iload_n 2 dX8_beatsAll_44 rfl ?_
          refine g_iload_n 3 dX8_beatsAll_45 rfl ?_
          obtain ⟨q11, hq11, h⟩ := bnd_some h
          refine v_I (ci := 1) (as := [XI x1, XI x2]) dX8_beatsAll_46 mlX8_240 mdX1_manyAhead mvX1_manyAhead rfl (sf_7_0 hx0) rfl (Nat.le_of_ble_eq_true rfl) (kX1_manyAhead (sf_7_0 hx0) hq11) rfl ?_
          refine g_aload_n 1 dX8_beatsAll_49 rfl ?_
          refine g_getR dX8_beatsAll_50 flX8_14 (by decide) rfl hx0 ?_
          refine g_iload_n 3 dX8_beatsAll_53 rfl ?_
          refine g_pc (pc' := 54) rfl ?_
          refine g_iload_n 2 dX8_beatsAll_54 rfl ?_
          obtain ⟨q12, hq12, h⟩ := bnd_some h
          refine v_I (ci := 1) (as := [XI x2, XI x1]) dX8_beatsAll_55 mlX8_240 mdX1_manyAhead mvX1_manyAhead rfl (sf_7_0 hx0) rfl (Nat.le_of_ble_eq_true rfl) (kX1_manyAhead (sf_7_0 hx0) hq12) rfl ?_
          refine g_icmp_gt (tgt := 63) dX8_beatsAll_58 (by decide) (fun b13 => ?_) (fun b13 => ?_)
          · replace h := ifp b13 h
            obtain ⟨c14, h⟩ := chk_some h
            refine g_iinc (ls' := [(2, XI (x2 + 1)), (3, XI t5), (0, XR x0), (1, XI x1)]) 3 dX8_beatsAll_63 rfl rfl c14 (by decide) rfl ?_
            refine g_goto (tgt := 2) dX8_beatsAll_66 (by decide) ?_
            exact g_sub [2, 3, 0] rfl (ih _ _ _ h K1)
          · replace h := ifn b13 h
            refine g_pc (pc' := 61) rfl ?_
            refine g_iconst (v := 0) dX8_beatsAll_61 rfl (i32l rfl) ?_
            cases h
            exact g_zreturn dX8_beatsAll_62 rfl (by decide) (K1 (0, q12.2) rfl)
      refine g_icmp_eq (tgt := 34) dX8_beatsAll_15 (by decide) (fun b6 => ?_) (fun b6 => ?_)
      · replace ht5 := ifp b6 ht5
        refine g_iconst (v := 0) dX8_beatsAll_34 rfl (i32l rfl) ?_
        cases ht5
        exact g_sub [0, 1, 2] rfl Kt5
      · replace ht5 := ifn b6 ht5
        refine g_pc (pc' := 18) rfl ?_
        refine g_aload_n 0 dX8_beatsAll_18 rfl ?_
        refine g_getR dX8_beatsAll_19 flX8_14 (by decide) rfl hx0 ?_
        refine g_getR dX8_beatsAll_22 flX8_72 (by decide) rfl (sf_7_0 hx0) ?_
        refine g_iload_n 2 dX8_beatsAll_25 rfl ?_
        obtain ⟨c7, ht5⟩ := chk_some ht5
        refine g_zald dX8_beatsAll_26 (sf_1_2 (sf_7_0 hx0)) c7.1 c7.2 ?_
        refine g_if_ne (tgt := 34) dX8_beatsAll_27 (by decide) (fun b8 => ?_) (fun b8 => ?_)
        · replace ht5 := ifn b8 ht5
          refine g_iconst (v := 0) dX8_beatsAll_34 rfl (i32l rfl) ?_
          cases ht5
          exact g_sub [0, 1, 2] rfl Kt5
        · replace ht5 := ifp b8 ht5
          refine g_pc (pc' := 30) rfl ?_
          refine g_iconst (v := 1) dX8_beatsAll_30 rfl (i32l rfl) ?_
          refine g_goto (tgt := 35) dX8_beatsAll_31 (by decide) ?_
          cases ht5
          exact g_sub [0, 1, 2] rfl Kt5
set_option maxHeartbeats 8000000 in
set_option maxRecDepth 20000 in
theorem kX8_beatsAll {X : XC} {d : Nat} {x0 : Nat} {x1 : Int} (hx0 : Sh x0 = (17, 10)) {M : Mem} {q : Int × Mem} (h : fX8_beatsAll x0 x1 M = some q) : Ct X mX8_beatsAll (d + 3) [XR x0, XI x1] M (pI q) := by
  unfold fX8_beatsAll at h
  refine ct_go (by decide +kernel) (Nat.le_of_ble_eq_true rfl) (ls := [(0, XR x0), (1, XI x1)]) rfl ?_
  refine g_iconst (v := 0) dX8_beatsAll_0 rfl (i32l rfl) ?_
  refine g_istore_n (ls' := [(2, XI 0), (0, XR x0), (1, XI x1)]) dX8_beatsAll_1 (by decide) rfl ?_
  obtain ⟨z15, hz15, rz15, h⟩ := lr_some h
  refine g_sub (ls' := [(0, XR x0), (1, XI x1), (2, XI 0)]) [1, 2, 0] rfl ?_
  refine lX8_beatsAll_l2 hx0 1000 _ _ _ hz15 (fun r e => ?_)
  have rz15 := rz15 r e
  subst rz15
  exact ⟨rfl, rfl⟩
set_option maxHeartbeats 8000000 in
set_option maxRecDepth 20000 in
theorem lX8_best_l2 {X : XC} {d : Nat} {Post : Option XV → Mem → Prop} {x0 : Nat} (hx0 : Sh x0 = (17, 10)) : ∀ (n : Nat) (x1 : Int) (M : Mem) (z : (Int × Mem) ⊕ (Int × Mem)), fX8_best_l2 x0 n x1 M = some z → (∀ r, z = .inl r → Post (some (XI r.1)) r.2) → Go X mX8_best (d + 4) 2 [(0, XR x0), (1, XI x1)] [] M Post := by
  intro n
  induction n with
  | zero => intro _ _ _ h; cases h
  | succ n ih =>
    intro x1 M z h K1
    unfold fX8_best_l2 at h
    refine g_iload_n 1 dX8_best_2 rfl ?_
    refine g_aload_n 0 dX8_best_3 rfl ?_
    refine g_getR dX8_best_4 flX8_14 (by decide) rfl hx0 ?_
    refine g_getI dX8_best_7 flX8_64 (by decide) rfl (sf_7_0 hx0) ?_
    refine g_icmp_ge (tgt := 41) dX8_best_10 (by decide) (fun b1 => ?_) (fun b1 => ?_)
    · replace h := ifp b1 h
      refine g_bip dX8_best_41 rfl ?_
      cases h
      exact g_ireturn dX8_best_43 rfl (K1 ((-5), M) rfl)
    · replace h := ifn b1 h
      refine g_pc (pc' := 13) rfl ?_
      refine g_aload_n 0 dX8_best_13 rfl ?_
      refine g_getR dX8_best_14 flX8_14 (by decide) rfl hx0 ?_
      refine g_getR dX8_best_17 flX8_72 (by decide) rfl (sf_7_0 hx0) ?_
      refine g_iload_n 1 dX8_best_20 rfl ?_
      obtain ⟨c2, h⟩ := chk_some h
      refine g_zald dX8_best_21 (sf_1_2 (sf_7_0 hx0)) c2.1 c2.2 ?_
      refine g_if_ne (tgt := 35) dX8_best_22 (by decide) (fun b3 => ?_) (fun b3 => ?_)
      · replace h := ifn b3 h
        obtain ⟨c4, h⟩ := chk_some h
        refine g_iinc (ls' := [(1, XI (x1 + 1)), (0, XR x0)]) 1 dX8_best_35 rfl rfl c4 (by decide) rfl ?_
        refine g_goto (tgt := 2) dX8_best_38 (by decide) ?_
        exact g_sub [1, 0] rfl (ih _ _ _ h K1)
      · replace h := ifp b3 h
        refine g_pc (pc' := 25) rfl ?_
        refine g_aload_n 0 dX8_best_25 rfl ?_
        refine g_iload_n 1 dX8_best_26 rfl ?_
        obtain ⟨q5, hq5, h⟩ := bnd_some h
        refine v_I (ci := 7) (as := [XI x1]) dX8_best_27 mlX8_243 mdX8_beatsAll mvX8_beatsAll rfl hx0 rfl (Nat.le_of_ble_eq_true rfl) (kX8_beatsAll hx0 hq5) rfl ?_
        refine g_if_eq (tgt := 35) dX8_best_30 (by decide) (fun b6 => ?_) (fun b6 => ?_)
        · replace h := ifp b6 h
          obtain ⟨c7, h⟩ := chk_some h
          refine g_iinc (ls' := [(1, XI (x1 + 1)), (0, XR x0)]) 1 dX8_best_35 rfl rfl c7 (by decide) rfl ?_
          refine g_goto (tgt := 2) dX8_best_38 (by decide) ?_
          exact g_sub [1, 0] rfl (ih _ _ _ h K1)
        · replace h := ifn b6 h
          refine g_pc (pc' := 33) rfl ?_
          refine g_iload_n 1 dX8_best_33 rfl ?_
          cases h
          exact g_ireturn dX8_best_34 rfl (K1 (x1, q5.2) rfl)
set_option maxHeartbeats 8000000 in
set_option maxRecDepth 20000 in
theorem kX8_best {X : XC} {d : Nat} {x0 : Nat} (hx0 : Sh x0 = (17, 10)) {M : Mem} {q : Int × Mem} (h : fX8_best x0 M = some q) : Ct X mX8_best (d + 4) [XR x0] M (pI q) := by
  unfold fX8_best at h
  refine ct_go (by decide +kernel) (Nat.le_of_ble_eq_true rfl) (ls := [(0, XR x0)]) rfl ?_
  refine g_iconst (v := 0) dX8_best_0 rfl (i32l rfl) ?_
  refine g_istore_n (ls' := [(1, XI 0), (0, XR x0)]) dX8_best_1 (by decide) rfl ?_
  obtain ⟨z8, hz8, rz8, h⟩ := lr_some h
  refine g_sub (ls' := [(0, XR x0), (1, XI 0)]) [1, 0] rfl ?_
  refine lX8_best_l2 hx0 1000 _ _ _ hz8 (fun r e => ?_)
  have rz8 := rz8 r e
  subst rz8
  exact ⟨rfl, rfl⟩
set_option maxHeartbeats 8000000 in
set_option maxRecDepth 20000 in
theorem lX8_commonDivisor_l9 {X : XC} {d : Nat} {Post : Option XV → Mem → Prop}   : ∀ (n : Nat) (x4 x6 x8 : Int) (M : Mem) (t0 : Int × Int × Int × Mem), fX8_commonDivisor_l9  n x4 x6 x8 M = some t0 → Go X mX8_commonDivisor d 45 [(4, XL t0.1)] [] t0.2.2.2 Post → Go X mX8_commonDivisor d 9 [(4, XL x4), (6, XL x6), (8, XI x8)] [] M Post := by
  intro n
  induction n with
  | zero => intro _ _ _ _ _ h; cases h
  | succ n ih =>
    intro x4 x6 x8 M t0 h K
    unfold fX8_commonDivisor_l9 at h
    refine g_iload 2 dX8_commonDivisor_9 rfl ?_
    refine g_sip dX8_commonDivisor_11 rfl ?_
    refine g_icmp_ge (tgt := 45) dX8_commonDivisor_14 (by decide) (fun b1 => ?_) (fun b1 => ?_)
    · replace h := ifp b1 h
      cases h
      exact g_sub [0] rfl K
    · replace h := ifn b1 h
      refine g_pc (pc' := 17) rfl ?_
      refine g_lload 1 dX8_commonDivisor_17 rfl ?_
      refine g_lconst (v := 0) dX8_commonDivisor_19 rfl (i64l rfl) ?_
      refine g_lcmp_le (tgt := 45) dX8_commonDivisor_20 dX8_commonDivisor_21 (by decide) (fun b2 => ?_) (fun b2 => ?_)
      · replace h := ifp b2 h
        cases h
        exact g_sub [0] rfl K
      · replace h := ifn b2 h
        refine g_pc (pc' := 24) rfl ?_
        refine g_lload 0 dX8_commonDivisor_24 rfl ?_
        refine g_lload 1 dX8_commonDivisor_26 rfl ?_
        obtain ⟨c3, h⟩ := chk_some h
        refine g_lrem dX8_commonDivisor_28 c3.1 c3.2 rfl ?_
        refine g_nmL (fun v4 ev4 => ?_)
        replace h := nm_s ev4 h
        refine g_lstore (ls' := [(9, XL v4), (4, XL x4), (6, XL x6), (8, XI x8)]) dX8_commonDivisor_29 (by decide) rfl ?_
        refine g_lload 2 dX8_commonDivisor_31 rfl ?_
        refine g_lstore (ls' := [(4, XL x6), (9, XL v4), (6, XL x6), (8, XI x8)]) dX8_commonDivisor_33 (by decide) rfl ?_
        refine g_lload 1 dX8_commonDivisor_35 rfl ?_
        refine g_lstore (ls' := [(6, XL v4), (4, XL x6), (9, XL v4), (8, XI x8)]) dX8_commonDivisor_37 (by decide) rfl ?_
        refine g_pc (pc' := 39) rfl ?_
        obtain ⟨c5, h⟩ := chk_some h
        refine g_iinc (ls' := [(8, XI (x8 + 1)), (6, XL v4), (4, XL x6), (9, XL v4)]) 3 dX8_commonDivisor_39 rfl rfl c5 (by decide) rfl ?_
        refine g_goto (tgt := 9) dX8_commonDivisor_42 (by decide) ?_
        exact g_sub [2, 1, 0] rfl (ih _ _ _ _ _ h K)
set_option maxHeartbeats 8000000 in
set_option maxRecDepth 20000 in
theorem kX8_commonDivisor {X : XC} {d : Nat} {x0 : Int} {x2 : Int}  {M : Mem} {q : Int × Mem} (h : fX8_commonDivisor x0 x2 M = some q) : Ct X mX8_commonDivisor d [XL x0, XL x2] M (pJ q) := by
  unfold fX8_commonDivisor at h
  refine ct_go (by decide +kernel) (Nat.le_of_ble_eq_true rfl) (ls := [(0, XL x0), (2, XL x2)]) rfl ?_
  refine g_lload_n 0 dX8_commonDivisor_0 rfl ?_
  refine g_lstore (ls' := [(4, XL x0), (0, XL x0), (2, XL x2)]) dX8_commonDivisor_1 (by decide) rfl ?_
  refine g_lload_n 2 dX8_commonDivisor_3 rfl ?_
  refine g_lstore (ls' := [(6, XL x2), (4, XL x0), (0, XL x0), (2, XL x2)]) dX8_commonDivisor_4 (by decide) rfl ?_
  refine g_iconst (v := 0) dX8_commonDivisor_6 rfl (i32l rfl) ?_
  refine g_istore (ls' := [(8, XI 0), (6, XL x2), (4, XL x0), (0, XL x0), (2, XL x2)]) dX8_commonDivisor_7 (by decide) rfl ?_
  obtain ⟨z6, hz6, h⟩ := bnd_some h
  refine g_sub (ls' := [(4, XL x0), (6, XL x2), (8, XI 0)]) [2, 1, 0] rfl ?_
  refine lX8_commonDivisor_l9  1000 _ _ _ _ _ hz6 ?_
  refine g_lload 0 dX8_commonDivisor_45 rfl ?_
  cases h
  exact g_lreturn dX8_commonDivisor_47 rfl ⟨rfl, rfl⟩
set_option maxHeartbeats 8000000 in
set_option maxRecDepth 20000 in
theorem kX8_share {X : XC} {d : Nat} {x0 : Nat} {x1 : Int} {x2 : Int} {x3 : Int} (hx0 : Sh x0 = (17, 10)) {M : Mem} {q : Int × Mem} (h : fX8_share x0 x1 x2 x3 M = some q) : Ct X mX8_share (d + 6) [XR x0, XI x1, XI x2, XI x3] M (pJ q) := by
  unfold fX8_share at h
  refine ct_go (by decide +kernel) (Nat.le_of_ble_eq_true rfl) (ls := [(0, XR x0), (1, XI x1), (2, XI x2), (3, XI x3)]) rfl ?_
  refine g_aload_n 0 dX8_share_0 rfl ?_
  obtain ⟨q1, hq1, h⟩ := bnd_some h
  refine v_R (ci := 7) (as := []) dX8_share_1 mlX8_143 mdX8_tallied mvX8_tallied rfl hx0 rfl (Nat.le_of_ble_eq_true rfl) (kX8_tallied hx0 hq1) rfl (fun ea2 => ?_) (fun a2 ea2 => ?_)
  · replace h := oc_n ea2 h
    refine g_iload_n 1 dX8_share_4 rfl ?_
    cases h
  · replace h := oc_s ea2 h
    obtain ⟨c3, h⟩ := chk_some h
    refine g_iload_n 1 dX8_share_4 rfl ?_
    obtain ⟨q4, hq4, h⟩ := bnd_some h
    refine v_R (ci := 3) (as := [XI x1]) dX8_share_5 mlX8_186 mdX4_stageAt mvX4_stageAt rfl c3 rfl (Nat.le_of_ble_eq_true rfl) (kX4_stageAt c3 hq4) rfl (fun ea5 => ?_) (fun a5 ea5 => ?_)
    · replace h := oc_n ea5 h
      refine g_astoreN (ls' := [(4, XN), (0, XR x0), (1, XI x1), (2, XI x2), (3, XI x3)]) dX8_share_8 (by decide) rfl ?_
      refine g_aloadN 0 dX8_share_10 rfl ?_
      refine g_ifnullN (tgt := 35) dX8_share_12 (by decide) ?_
      refine g_ldc2 (v := -9223372036854775808) dX8_share_35 csX8_199 (by decide +kernel) (i64l rfl) ?_
      cases h
      exact g_lreturn dX8_share_38 rfl ⟨rfl, rfl⟩
    · replace h := oc_s ea5 h
      obtain ⟨c6, h⟩ := chk_some h
      refine g_astore (ls' := [(4, XR a5), (0, XR x0), (1, XI x1), (2, XI x2), (3, XI x3)]) dX8_share_8 (by decide) rfl ?_
      refine g_aload 0 dX8_share_10 rfl ?_
      refine g_ifnullR dX8_share_12 ?_
      refine g_aload_n 1 dX8_share_15 rfl ?_
      refine g_getR dX8_share_16 flX8_14 (by decide) rfl hx0 ?_
      refine g_iload_n 3 dX8_share_19 rfl ?_
      obtain ⟨q7, hq7, h⟩ := bnd_some h
      refine v_I (ci := 1) (as := [XI x2]) dX8_share_20 mlX8_103 mdX1_hasCandidate mvX1_hasCandidate rfl (sf_7_0 hx0) rfl (Nat.le_of_ble_eq_true rfl) (kX1_hasCandidate (sf_7_0 hx0) hq7) rfl ?_
      refine g_if_eq (tgt := 35) dX8_share_23 (by decide) (fun b8 => ?_) (fun b8 => ?_)
      · replace h := ifp b8 h
        refine g_ldc2 (v := -9223372036854775808) dX8_share_35 csX8_199 (by decide +kernel) (i64l rfl) ?_
        cases h
        exact g_lreturn dX8_share_38 rfl ⟨rfl, rfl⟩
      · replace h := ifn b8 h
        refine g_pc (pc' := 26) rfl ?_
        refine g_iload_n 4 dX8_share_26 rfl ?_
        refine g_if_lt (tgt := 35) dX8_share_27 (by decide) (fun b9 => ?_) (fun b9 => ?_)
        · replace h := ifp b9 h
          refine g_ldc2 (v := -9223372036854775808) dX8_share_35 csX8_199 (by decide +kernel) (i64l rfl) ?_
          cases h
          exact g_lreturn dX8_share_38 rfl ⟨rfl, rfl⟩
        · replace h := ifn b9 h
          refine g_pc (pc' := 30) rfl ?_
          refine g_iload_n 4 dX8_share_30 rfl ?_
          refine g_iconst (v := 1) dX8_share_31 rfl (i32l rfl) ?_
          refine g_icmp_le (tgt := 39) dX8_share_32 (by decide) (fun b10 => ?_) (fun b10 => ?_)
          · replace h := ifp b10 h
            refine g_aload 0 dX8_share_39 rfl ?_
            refine g_getR dX8_share_41 flX8_214 (by decide) rfl c6 ?_
            refine g_iload_n 3 dX8_share_44 rfl ?_
            obtain ⟨c11, h⟩ := chk_some h
            refine g_lald dX8_share_45 (sf_2_7 c6) c11.1 c11.2 ?_
            refine g_nmL (fun v12 ev12 => ?_)
            replace h := nm_s ev12 h
            refine g_lstore (ls' := [(5, XL v12), (4, XR a5), (0, XR x0), (1, XI x1), (2, XI x2), (3, XI x3)]) dX8_share_46 (by decide) rfl ?_
            refine g_lload 0 dX8_share_48 rfl ?_
            refine g_lconst (v := 0) dX8_share_50 rfl (i64l rfl) ?_
            refine g_lcmp_ne (tgt := 58) dX8_share_51 dX8_share_52 (by decide) (fun b13 => ?_) (fun b13 => ?_)
            · replace h := ifn b13 h
              refine g_lload 0 dX8_share_58 rfl ?_
              refine g_aload 1 dX8_share_60 rfl ?_
              refine g_getJ dX8_share_62 flX8_211 (by decide) rfl c6 ?_
              obtain ⟨q14, hq14, h⟩ := bnd_some h
              refine s_J (as := [XL v12, XL (q7.2 a5 6)]) dX8_share_65 mlX8_246 mdX8_commonDivisor msX8_commonDivisor rfl (Nat.le_of_ble_eq_true rfl) (kX8_commonDivisor  hq14) rfl ?_
              refine g_nmL (fun v15 ev15 => ?_)
              replace h := nm_s ev15 h
              refine g_lstore (ls' := [(7, XL v15), (5, XL v12), (4, XR a5), (0, XR x0), (1, XI x1), (2, XI x2), (3, XI x3)]) dX8_share_68 (by decide) rfl ?_
              refine g_iload_n 6 dX8_share_70 rfl ?_
              obtain ⟨t17, ht17, h⟩ := bnd_some h
              have Kt17 : Go X mX8_share (d + 6) 84 [(7, XL v15)] [XL t17] q14.2 (pJ q) := by
                refine g_lload 0 dX8_share_84 rfl ?_
                obtain ⟨q19, hq19, h⟩ := bnd_some h
                refine s_J (as := [XL t17, XL v15]) dX8_share_86 mlX8_250 mdX8_cut msX8_cut rfl (Nat.le_of_ble_eq_true rfl) (kX8_cut  hq19) rfl ?_
                cases h
                exact g_lreturn dX8_share_89 rfl ⟨rfl, rfl⟩
              refine g_if_ne (tgt := 79) dX8_share_71 (by decide) (fun b18 => ?_) (fun b18 => ?_)
              · replace ht17 := ifn b18 ht17
                refine g_aload 2 dX8_share_79 rfl ?_
                refine g_getJ dX8_share_81 flX8_211 (by decide) rfl c6 ?_
                cases ht17
                exact g_sub [0] rfl Kt17
              · replace ht17 := ifp b18 ht17
                refine g_pc (pc' := 74) rfl ?_
                refine g_lload 1 dX8_share_74 rfl ?_
                refine g_goto (tgt := 84) dX8_share_76 (by decide) ?_
                cases ht17
                exact g_sub [0] rfl Kt17
            · replace h := ifp b13 h
              refine g_pc (pc' := 55) rfl ?_
              refine g_iload_n 5 dX8_share_55 rfl ?_
              refine g_i2l dX8_share_56 ?_
              cases h
              exact g_lreturn dX8_share_57 rfl ⟨rfl, rfl⟩
          · replace h := ifn b10 h
            refine g_pc (pc' := 35) rfl ?_
            refine g_ldc2 (v := -9223372036854775808) dX8_share_35 csX8_199 (by decide +kernel) (i64l rfl) ?_
            cases h
            exact g_lreturn dX8_share_38 rfl ⟨rfl, rfl⟩
set_option maxHeartbeats 8000000 in
set_option maxRecDepth 20000 in
theorem kX8_electedInThought {X : XC} {d : Nat} {x0 : Nat} (hx0 : Sh x0 = (17, 10)) {M : Mem} {q : Int × Mem} (h : fX8_electedInThought x0 M = some q) : Ct X mX8_electedInThought (d + 5) [XR x0] M (pI q) := by
  unfold fX8_electedInThought at h
  refine ct_go (by decide +kernel) (Nat.le_of_ble_eq_true rfl) (ls := [(0, XR x0)]) rfl ?_
  refine g_aload_n 0 dX8_electedInThought_0 rfl ?_
  refine g_getR dX8_electedInThought_1 flX8_37 (by decide) rfl hx0 ?_
  obtain ⟨q1, hq1, h⟩ := bnd_some h
  refine v_V (ci := 3) (as := []) dX8_electedInThought_4 mlX8_140 mdX4_work mvX4_work rfl (sf_7_5 hx0) rfl (Nat.le_of_ble_eq_true rfl) (kX4_work (sf_7_5 hx0) hq1) rfl ?_
  refine g_aload_n 0 dX8_electedInThought_7 rfl ?_
  refine g_getR dX8_electedInThought_8 flX8_37 (by decide) rfl hx0 ?_
  refine g_iconst (v := 2) dX8_electedInThought_11 rfl (i32l rfl) ?_
  obtain ⟨q2, hq2, h⟩ := bnd_some h
  refine v_I (ci := 3) (as := [XI 2]) dX8_electedInThought_12 mlX8_174 mdX4_whoIs mvX4_whoIs rfl (sf_7_5 hx0) rfl (Nat.le_of_ble_eq_true rfl) (kX4_whoIs (sf_7_5 hx0) hq2) rfl ?_
  cases h
  exact g_ireturn dX8_electedInThought_15 rfl ⟨rfl, rfl⟩
set_option maxHeartbeats 8000000 in
set_option maxRecDepth 20000 in
theorem kX8_without {X : XC} {d : Nat} {x0 : Nat} {x1 : Int} (hx0 : Sh x0 = (17, 10)) {M : Mem} {q : Int × Mem} (h : fX8_without x0 x1 M = some q) : Ct X mX8_without (d + 6) [XR x0, XI x1] M (pI q) := by
  unfold fX8_without at h
  refine ct_go (by decide +kernel) (Nat.le_of_ble_eq_true rfl) (ls := [(0, XR x0), (1, XI x1)]) rfl ?_
  refine g_aload_n 0 dX8_without_0 rfl ?_
  refine g_getR dX8_without_1 flX8_14 (by decide) rfl hx0 ?_
  refine g_iload_n 1 dX8_without_4 rfl ?_
  obtain ⟨q1, hq1, h⟩ := bnd_some h
  refine v_I (ci := 1) (as := [XI x1]) dX8_without_5 mlX8_103 mdX1_hasCandidate mvX1_hasCandidate rfl (sf_7_0 hx0) rfl (Nat.le_of_ble_eq_true rfl) (kX1_hasCandidate (sf_7_0 hx0) hq1) rfl ?_
  refine g_if_ne (tgt := 13) dX8_without_8 (by decide) (fun b2 => ?_) (fun b2 => ?_)
  · replace h := ifn b2 h
    refine g_aload_n 0 dX8_without_13 rfl ?_
    refine g_getR dX8_without_14 flX8_18 (by decide) rfl hx0 ?_
    refine g_aload_n 0 dX8_without_17 rfl ?_
    refine g_getR dX8_without_18 flX8_14 (by decide) rfl hx0 ?_
    obtain ⟨q3, hq3, h⟩ := bnd_some h
    refine v_V (ci := 1) (as := [XR (x0 + 10990)]) dX8_without_21 mlX8_253 mdX1_copyFrom mvX1_copyFrom rfl (sf_7_1 hx0) rfl (Nat.le_of_ble_eq_true rfl) (kX1_copyFrom (sf_7_1 hx0) (sf_7_0 hx0) hq3) rfl ?_
    refine g_aload_n 0 dX8_without_24 rfl ?_
    refine g_getR dX8_without_25 flX8_18 (by decide) rfl hx0 ?_
    refine g_getR dX8_without_28 flX8_72 (by decide) rfl (sf_7_1 hx0) ?_
    refine g_pc (pc' := 31) rfl ?_
    refine g_iload_n 1 dX8_without_31 rfl ?_
    refine g_iconst (v := 1) dX8_without_32 rfl (i32l rfl) ?_
    obtain ⟨c4, h⟩ := chk_some h
    refine g_zast dX8_without_33 (sf_1_2 (sf_7_1 hx0)) c4.1 c4.2 (by decide) ?_
    refine g_nmM (fun M5 eM5 => ?_)
    replace h := nm_s eM5 h
    refine g_aload_n 0 dX8_without_34 rfl ?_
    obtain ⟨q6, hq6, h⟩ := bnd_some h
    refine v_I (ci := 7) (as := []) dX8_without_35 mlX8_256 mdX8_electedInThought mvX8_electedInThought rfl hx0 rfl (Nat.le_of_ble_eq_true rfl) (kX8_electedInThought hx0 hq6) rfl ?_
    cases h
    exact g_ireturn dX8_without_38 rfl ⟨rfl, rfl⟩
  · replace h := ifp b2 h
    refine g_pc (pc' := 11) rfl ?_
    refine g_iconst (v := -1) dX8_without_11 rfl (i32l rfl) ?_
    cases h
    exact g_ireturn dX8_without_12 rfl ⟨rfl, rfl⟩
set_option maxHeartbeats 8000000 in
set_option maxRecDepth 20000 in
theorem kX8_raised {X : XC} {d : Nat} {x0 : Nat} {x1 : Int} {x2 : Int} (hx0 : Sh x0 = (17, 10)) {M : Mem} {q : Int × Mem} (h : fX8_raised x0 x1 x2 M = some q) : Ct X mX8_raised (d + 6) [XR x0, XI x1, XI x2] M (pI q) := by
  unfold fX8_raised at h
  refine ct_go (by decide +kernel) (Nat.le_of_ble_eq_true rfl) (ls := [(0, XR x0), (1, XI x1), (2, XI x2)]) rfl ?_
  refine g_aload_n 0 dX8_raised_0 rfl ?_
  refine g_getR dX8_raised_1 flX8_14 (by decide) rfl hx0 ?_
  refine g_iload_n 1 dX8_raised_4 rfl ?_
  obtain ⟨q1, hq1, h⟩ := bnd_some h
  refine v_I (ci := 1) (as := [XI x1]) dX8_raised_5 mlX8_99 mdX1_hasBallot mvX1_hasBallot rfl (sf_7_0 hx0) rfl (Nat.le_of_ble_eq_true rfl) (kX1_hasBallot (sf_7_0 hx0) hq1) rfl ?_
  refine g_if_eq (tgt := 22) dX8_raised_8 (by decide) (fun b2 => ?_) (fun b2 => ?_)
  · replace h := ifp b2 h
    refine g_iconst (v := -1) dX8_raised_22 rfl (i32l rfl) ?_
    cases h
    exact g_ireturn dX8_raised_23 rfl ⟨rfl, rfl⟩
  · replace h := ifn b2 h
    refine g_pc (pc' := 11) rfl ?_
    refine g_aload_n 0 dX8_raised_11 rfl ?_
    refine g_getR dX8_raised_12 flX8_14 (by decide) rfl hx0 ?_
    refine g_iload_n 2 dX8_raised_15 rfl ?_
    obtain ⟨q3, hq3, h⟩ := bnd_some h
    refine v_I (ci := 1) (as := [XI x2]) dX8_raised_16 mlX8_103 mdX1_hasCandidate mvX1_hasCandidate rfl (sf_7_0 hx0) rfl (Nat.le_of_ble_eq_true rfl) (kX1_hasCandidate (sf_7_0 hx0) hq3) rfl ?_
    refine g_if_ne (tgt := 24) dX8_raised_19 (by decide) (fun b4 => ?_) (fun b4 => ?_)
    · replace h := ifn b4 h
      refine g_aload_n 0 dX8_raised_24 rfl ?_
      refine g_getR dX8_raised_25 flX8_18 (by decide) rfl hx0 ?_
      refine g_aload_n 0 dX8_raised_28 rfl ?_
      refine g_getR dX8_raised_29 flX8_14 (by decide) rfl hx0 ?_
      obtain ⟨q5, hq5, h⟩ := bnd_some h
      refine v_V (ci := 1) (as := [XR (x0 + 10990)]) dX8_raised_32 mlX8_253 mdX1_copyFrom mvX1_copyFrom rfl (sf_7_1 hx0) rfl (Nat.le_of_ble_eq_true rfl) (kX1_copyFrom (sf_7_1 hx0) (sf_7_0 hx0) hq5) rfl ?_
      refine g_aload_n 0 dX8_raised_35 rfl ?_
      refine g_getR dX8_raised_36 flX8_18 (by decide) rfl hx0 ?_
      refine g_getR dX8_raised_39 flX8_89 (by decide) rfl (sf_7_1 hx0) ?_
      refine g_pc (pc' := 42) rfl ?_
      refine g_iload_n 1 dX8_raised_42 rfl ?_
      refine g_iload_n 2 dX8_raised_43 rfl ?_
      refine g_aload_n 0 dX8_raised_44 rfl ?_
      refine g_getR dX8_raised_45 flX8_14 (by decide) rfl hx0 ?_
      refine g_getR dX8_raised_48 flX8_89 (by decide) rfl (sf_7_0 hx0) ?_
      refine g_iload_n 1 dX8_raised_51 rfl ?_
      obtain ⟨c6, h⟩ := chk_some h
      refine g_iald dX8_raised_52 (sf_1_4 (sf_7_0 hx0)) c6.1 c6.2 ?_
      obtain ⟨q7, hq7, h⟩ := bnd_some h
      refine s_I (as := [XI x2, XI (q5.2 ((x0 + 10990) + 5) (Int.toNat x1))]) dX8_raised_53 mlX8_259 mdX2_ledBy msX2_ledBy rfl (Nat.le_of_ble_eq_true rfl) (kX2_ledBy  hq7) rfl ?_
      obtain ⟨c8, h⟩ := chk_some h
      refine g_iast dX8_raised_56 (sf_1_4 (sf_7_1 hx0)) c8.1 c8.2 ?_
      refine g_nmM (fun M9 eM9 => ?_)
      replace h := nm_s eM9 h
      refine g_pc (pc' := 57) rfl ?_
      refine g_aload_n 0 dX8_raised_57 rfl ?_
      obtain ⟨q10, hq10, h⟩ := bnd_some h
      refine v_I (ci := 7) (as := []) dX8_raised_58 mlX8_256 mdX8_electedInThought mvX8_electedInThought rfl hx0 rfl (Nat.le_of_ble_eq_true rfl) (kX8_electedInThought hx0 hq10) rfl ?_
      cases h
      exact g_ireturn dX8_raised_61 rfl ⟨rfl, rfl⟩
    · replace h := ifp b4 h
      refine g_pc (pc' := 22) rfl ?_
      refine g_iconst (v := -1) dX8_raised_22 rfl (i32l rfl) ?_
      cases h
      exact g_ireturn dX8_raised_23 rfl ⟨rfl, rfl⟩
end
