section
set_option maxHeartbeats 8000000 in
set_option maxRecDepth 20000 in
theorem lX1_manyAhead_l5 {X : XC} {d : Nat} {Post : Option XV → Mem → Prop} {x0 : Nat} {x1 : Int} {x2 : Int} (hx0 : Sh x0 = (11, 15)) : ∀ (n : Nat) (x3 x4 : Int) (M : Mem) (t0 : Int × Int × Mem), fX1_manyAhead_l5 x0 x1 x2 n x3 x4 M = some t0 → Go X mX1_manyAhead (d + 2) 55 [(3, XI t0.1)] [] t0.2.2 Post → Go X mX1_manyAhead (d + 2) 5 [(0, XR x0), (1, XI x1), (2, XI x2), (3, XI x3), (4, XI x4)] [] M Post := by
  intro n
  induction n with
  | zero => intro _ _ _ _ h; cases h
  | succ n ih =>
    intro x3 x4 M t0 h K
    unfold fX1_manyAhead_l5 at h
    refine g_iload 4 dX1_manyAhead_5 rfl ?_
    refine g_aload_n 0 dX1_manyAhead_7 rfl ?_
    refine g_getI dX1_manyAhead_8 flX1_23 (by decide) rfl hx0 ?_
    refine g_icmp_ge (tgt := 55) dX1_manyAhead_11 (by decide) (fun b1 => ?_) (fun b1 => ?_)
    · replace h := ifp b1 h
      cases h
      exact g_sub [3] rfl K
    · replace h := ifn b1 h
      refine g_pc (pc' := 14) rfl ?_
      refine g_aload_n 0 dX1_manyAhead_14 rfl ?_
      refine g_getR dX1_manyAhead_15 flX1_26 (by decide) rfl hx0 ?_
      refine g_iload 4 dX1_manyAhead_18 rfl ?_
      obtain ⟨c2, h⟩ := chk_some h
      refine g_iald dX1_manyAhead_20 (sf_1_4 hx0) c2.1 c2.2 ?_
      refine g_iload_n 1 dX1_manyAhead_21 rfl ?_
      obtain ⟨q3, hq3, h⟩ := bnd_some h
      refine s_I (as := [XI (M (x0 + 5) (Int.toNat x4)), XI x1]) dX1_manyAhead_22 mlX1_73 mdX2_placeOf msX2_placeOf rfl (Nat.le_of_ble_eq_true rfl) (kX2_placeOf  hq3) rfl ?_
      refine g_aload_n 0 dX1_manyAhead_25 rfl ?_
      refine g_getR dX1_manyAhead_26 flX1_26 (by decide) rfl hx0 ?_
      refine g_pc (pc' := 29) rfl ?_
      refine g_iload 4 dX1_manyAhead_29 rfl ?_
      obtain ⟨c4, h⟩ := chk_some h
      refine g_iald dX1_manyAhead_31 (sf_1_4 hx0) c4.1 c4.2 ?_
      refine g_iload_n 2 dX1_manyAhead_32 rfl ?_
      obtain ⟨q5, hq5, h⟩ := bnd_some h
      refine s_I (as := [XI (q3.2 (x0 + 5) (Int.toNat x4)), XI x2]) dX1_manyAhead_33 mlX1_73 mdX2_placeOf msX2_placeOf rfl (Nat.le_of_ble_eq_true rfl) (kX2_placeOf  hq5) rfl ?_
      obtain ⟨t10, ht10, h⟩ := bnd_some h
      have Kt10 : Go X mX1_manyAhead (d + 2) 49 [(0, XR x0), (1, XI x1), (2, XI x2), (3, XI t10), (4, XI x4)] [] q5.2 Post := by
        obtain ⟨c15, h⟩ := chk_some h
        refine g_iinc (ls' := [(4, XI (x4 + 1)), (0, XR x0), (1, XI x1), (2, XI x2), (3, XI t10)]) 4 dX1_manyAhead_49 rfl rfl c15 (by decide) rfl ?_
        refine g_goto (tgt := 5) dX1_manyAhead_52 (by decide) ?_
        exact g_sub [1, 2, 3, 4, 0] rfl (ih _ _ _ _ h K)
      refine g_icmp_ge (tgt := 49) dX1_manyAhead_36 (by decide) (fun b11 => ?_) (fun b11 => ?_)
      · replace ht10 := ifp b11 ht10
        cases ht10
        exact g_sub [0, 1, 2, 3, 4] rfl Kt10
      · replace ht10 := ifn b11 ht10
        refine g_pc (pc' := 39) rfl ?_
        refine g_iload_n 3 dX1_manyAhead_39 rfl ?_
        refine g_aload_n 0 dX1_manyAhead_40 rfl ?_
        refine g_getR dX1_manyAhead_41 flX1_29 (by decide) rfl hx0 ?_
        refine g_iload 4 dX1_manyAhead_44 rfl ?_
        obtain ⟨c12, ht10⟩ := chk_some ht10
        refine g_iald dX1_manyAhead_46 (sf_1_5 hx0) c12.1 c12.2 ?_
        obtain ⟨c13, ht10⟩ := chk_some ht10
        refine g_iadd dX1_manyAhead_47 rfl c13 ?_
        refine g_nmI (fun v14 ev14 => ?_)
        replace ht10 := nm_s ev14 ht10
        refine g_istore_n (ls' := [(3, XI v14), (0, XR x0), (1, XI x1), (2, XI x2), (4, XI x4)]) dX1_manyAhead_48 (by decide) rfl ?_
        cases ht10
        exact g_sub [1, 2, 3, 0, 4] rfl Kt10
set_option maxHeartbeats 8000000 in
set_option maxRecDepth 20000 in
theorem kX1_manyAhead {X : XC} {d : Nat} {x0 : Nat} {x1 : Int} {x2 : Int} (hx0 : Sh x0 = (11, 15)) {M : Mem} {q : Int × Mem} (h : fX1_manyAhead x0 x1 x2 M = some q) : Ct X mX1_manyAhead (d + 2) [XR x0, XI x1, XI x2] M (pI q) := by
  unfold fX1_manyAhead at h
  refine ct_go (by decide +kernel) (Nat.le_of_ble_eq_true rfl) (ls := [(0, XR x0), (1, XI x1), (2, XI x2)]) rfl ?_
  refine g_iconst (v := 0) dX1_manyAhead_0 rfl (i32l rfl) ?_
  refine g_istore_n (ls' := [(3, XI 0), (0, XR x0), (1, XI x1), (2, XI x2)]) dX1_manyAhead_1 (by decide) rfl ?_
  refine g_iconst (v := 0) dX1_manyAhead_2 rfl (i32l rfl) ?_
  refine g_istore (ls' := [(4, XI 0), (3, XI 0), (0, XR x0), (1, XI x1), (2, XI x2)]) dX1_manyAhead_3 (by decide) rfl ?_
  obtain ⟨z16, hz16, h⟩ := bnd_some h
  refine g_sub (ls' := [(0, XR x0), (1, XI x1), (2, XI x2), (3, XI 0), (4, XI 0)]) [2, 3, 4, 1, 0] rfl ?_
  refine lX1_manyAhead_l5 hx0 1000 _ _ _ _ hz16 ?_
  refine g_iload_n 0 dX1_manyAhead_55 rfl ?_
  cases h
  exact g_ireturn dX1_manyAhead_56 rfl ⟨rfl, rfl⟩
set_option maxHeartbeats 8000000 in
set_option maxRecDepth 20000 in
theorem lX1_isSeenSo_l2 {X : XC} {d : Nat} {Post : Option XV → Mem → Prop} {x0 : Nat} {x1 : Int} (hx0 : Sh x0 = (11, 15)) : ∀ (n : Nat) (x2 : Int) (M : Mem) (z : (Int × Mem) ⊕ (Int × Mem)), fX1_isSeenSo_l2 x0 x1 n x2 M = some z → (∀ r, z = .inl r → Post (some (XI r.1)) r.2) → Go X mX1_isSeenSo d 2 [(0, XR x0), (1, XI x1), (2, XI x2)] [] M Post := by
  intro n
  induction n with
  | zero => intro _ _ _ h; cases h
  | succ n ih =>
    intro x2 M z h K1
    unfold fX1_isSeenSo_l2 at h
    refine g_iload_n 2 dX1_isSeenSo_2 rfl ?_
    refine g_aload_n 0 dX1_isSeenSo_3 rfl ?_
    refine g_getI dX1_isSeenSo_4 flX1_41 (by decide) rfl hx0 ?_
    refine g_icmp_ge (tgt := 45) dX1_isSeenSo_7 (by decide) (fun b1 => ?_) (fun b1 => ?_)
    · replace h := ifp b1 h
      refine g_iconst (v := 1) dX1_isSeenSo_45 rfl (i32l rfl) ?_
      cases h
      exact g_zreturn dX1_isSeenSo_46 rfl (by decide) (K1 (1, M) rfl)
    · replace h := ifn b1 h
      refine g_pc (pc' := 10) rfl ?_
      refine g_iload_n 1 dX1_isSeenSo_10 rfl ?_
      refine g_aload_n 0 dX1_isSeenSo_11 rfl ?_
      refine g_getR dX1_isSeenSo_12 flX1_44 (by decide) rfl hx0 ?_
      refine g_iload_n 2 dX1_isSeenSo_15 rfl ?_
      obtain ⟨c2, h⟩ := chk_some h
      refine g_iald dX1_isSeenSo_16 (sf_1_10 hx0) c2.1 c2.2 ?_
      refine g_ishr dX1_isSeenSo_17 ?_
      refine g_iconst (v := 1) dX1_isSeenSo_18 rfl (i32l rfl) ?_
      refine g_iand dX1_isSeenSo_19 ?_
      refine g_pc (pc' := 20) rfl ?_
      obtain ⟨t4, ht4, h⟩ := bnd_some h
      have Kt4 : Go X mX1_isSeenSo d 28 [(0, XR x0), (1, XI x1), (2, XI x2)] [XI t4] M Post := by
        refine g_aload_n 0 dX1_isSeenSo_28 rfl ?_
        refine g_getR dX1_isSeenSo_29 flX1_47 (by decide) rfl hx0 ?_
        refine g_iload_n 2 dX1_isSeenSo_32 rfl ?_
        obtain ⟨c6, h⟩ := chk_some h
        refine g_zald dX1_isSeenSo_33 (sf_1_11 hx0) c6.1 c6.2 ?_
        refine g_icmp_eq (tgt := 39) dX1_isSeenSo_34 (by decide) (fun b7 => ?_) (fun b7 => ?_)
        · replace h := ifp b7 h
          obtain ⟨c8, h⟩ := chk_some h
          refine g_iinc (ls' := [(2, XI (x2 + 1)), (0, XR x0), (1, XI x1)]) 2 dX1_isSeenSo_39 rfl rfl c8 (by decide) rfl ?_
          refine g_goto (tgt := 2) dX1_isSeenSo_42 (by decide) ?_
          exact g_sub [1, 2, 0] rfl (ih _ _ _ h K1)
        · replace h := ifn b7 h
          refine g_pc (pc' := 37) rfl ?_
          refine g_iconst (v := 0) dX1_isSeenSo_37 rfl (i32l rfl) ?_
          cases h
          exact g_zreturn dX1_isSeenSo_38 rfl (by decide) (K1 (0, M) rfl)
      refine g_if_eq (tgt := 27) dX1_isSeenSo_20 (by decide) (fun b5 => ?_) (fun b5 => ?_)
      · replace ht4 := ifp b5 ht4
        refine g_iconst (v := 0) dX1_isSeenSo_27 rfl (i32l rfl) ?_
        cases ht4
        exact g_sub [0, 1, 2] rfl Kt4
      · replace ht4 := ifn b5 ht4
        refine g_pc (pc' := 23) rfl ?_
        refine g_iconst (v := 1) dX1_isSeenSo_23 rfl (i32l rfl) ?_
        refine g_goto (tgt := 28) dX1_isSeenSo_24 (by decide) ?_
        cases ht4
        exact g_sub [0, 1, 2] rfl Kt4
set_option maxHeartbeats 8000000 in
set_option maxRecDepth 20000 in
theorem kX1_isSeenSo {X : XC} {d : Nat} {x0 : Nat} {x1 : Int} (hx0 : Sh x0 = (11, 15)) {M : Mem} {q : Int × Mem} (h : fX1_isSeenSo x0 x1 M = some q) : Ct X mX1_isSeenSo d [XR x0, XI x1] M (pI q) := by
  unfold fX1_isSeenSo at h
  refine ct_go (by decide +kernel) (Nat.le_of_ble_eq_true rfl) (ls := [(0, XR x0), (1, XI x1)]) rfl ?_
  refine g_iconst (v := 0) dX1_isSeenSo_0 rfl (i32l rfl) ?_
  refine g_istore_n (ls' := [(2, XI 0), (0, XR x0), (1, XI x1)]) dX1_isSeenSo_1 (by decide) rfl ?_
  obtain ⟨z9, hz9, rz9, h⟩ := lr_some h
  refine g_sub (ls' := [(0, XR x0), (1, XI x1), (2, XI 0)]) [1, 2, 0] rfl ?_
  refine lX1_isSeenSo_l2 hx0 1000 _ _ _ hz9 (fun r e => ?_)
  have rz9 := rz9 r e
  subst rz9
  exact ⟨rfl, rfl⟩
set_option maxHeartbeats 8000000 in
set_option maxRecDepth 20000 in
theorem lX1_emptyLedBy_l2 {X : XC} {d : Nat} {Post : Option XV → Mem → Prop} {x0 : Nat} {x1 : Int} (hx0 : Sh x0 = (11, 15)) : ∀ (n : Nat) (x2 : Int) (M : Mem) (t0 : Int × Mem), fX1_emptyLedBy_l2 x0 x1 n x2 M = some t0 → Go X mX1_emptyLedBy (d + 3) 32 [] [] t0.2 Post → Go X mX1_emptyLedBy (d + 3) 2 [(0, XR x0), (1, XI x1), (2, XI x2)] [] M Post := by
  intro n
  induction n with
  | zero => intro _ _ _ h; cases h
  | succ n ih =>
    intro x2 M t0 h K
    unfold fX1_emptyLedBy_l2 at h
    refine g_iload_n 2 dX1_emptyLedBy_2 rfl ?_
    refine g_aload_n 0 dX1_emptyLedBy_3 rfl ?_
    refine g_getI dX1_emptyLedBy_4 flX1_23 (by decide) rfl hx0 ?_
    refine g_icmp_ge (tgt := 32) dX1_emptyLedBy_7 (by decide) (fun b1 => ?_) (fun b1 => ?_)
    · replace h := ifp b1 h
      cases h
      exact g_sub [] rfl K
    · replace h := ifn b1 h
      refine g_pc (pc' := 10) rfl ?_
      refine g_aload_n 0 dX1_emptyLedBy_10 rfl ?_
      refine g_iload_n 2 dX1_emptyLedBy_11 rfl ?_
      obtain ⟨q2, hq2, h⟩ := bnd_some h
      refine v_I (ci := 1) (as := [XI x2]) dX1_emptyLedBy_12 mlX1_69 mdX1_firstHere mvX1_firstHere rfl hx0 rfl (Nat.le_of_ble_eq_true rfl) (kX1_firstHere hx0 hq2) rfl ?_
      refine g_iload_n 1 dX1_emptyLedBy_15 rfl ?_
      obtain ⟨t6, ht6, h⟩ := bnd_some h
      have Kt6 : Go X mX1_emptyLedBy (d + 3) 26 [(0, XR x0), (1, XI x1), (2, XI x2)] [] t6 Post := by
        obtain ⟨c10, h⟩ := chk_some h
        refine g_iinc (ls' := [(2, XI (x2 + 1)), (0, XR x0), (1, XI x1)]) 2 dX1_emptyLedBy_26 rfl rfl c10 (by decide) rfl ?_
        refine g_goto (tgt := 2) dX1_emptyLedBy_29 (by decide) ?_
        exact g_sub [1, 2, 0] rfl (ih _ _ _ h K)
      refine g_icmp_ne (tgt := 26) dX1_emptyLedBy_16 (by decide) (fun b7 => ?_) (fun b7 => ?_)
      · replace ht6 := ifn b7 ht6
        cases ht6
        exact g_sub [0, 1, 2] rfl Kt6
      · replace ht6 := ifp b7 ht6
        refine g_pc (pc' := 19) rfl ?_
        refine g_aload_n 0 dX1_emptyLedBy_19 rfl ?_
        refine g_getR dX1_emptyLedBy_20 flX1_29 (by decide) rfl hx0 ?_
        refine g_iload_n 2 dX1_emptyLedBy_23 rfl ?_
        refine g_iconst (v := 0) dX1_emptyLedBy_24 rfl (i32l rfl) ?_
        obtain ⟨c8, ht6⟩ := chk_some ht6
        refine g_iast dX1_emptyLedBy_25 (sf_1_5 hx0) c8.1 c8.2 ?_
        refine g_nmM (fun M9 eM9 => ?_)
        replace ht6 := nm_s eM9 ht6
        cases ht6
        exact g_sub [0, 1, 2] rfl Kt6
set_option maxHeartbeats 8000000 in
set_option maxRecDepth 20000 in
theorem kX1_emptyLedBy {X : XC} {d : Nat} {x0 : Nat} {x1 : Int} (hx0 : Sh x0 = (11, 15)) {M : Mem} {q : Int × Mem} (h : fX1_emptyLedBy x0 x1 M = some q) : Ct X mX1_emptyLedBy (d + 3) [XR x0, XI x1] M (pV q) := by
  unfold fX1_emptyLedBy at h
  refine ct_go (by decide +kernel) (Nat.le_of_ble_eq_true rfl) (ls := [(0, XR x0), (1, XI x1)]) rfl ?_
  refine g_iconst (v := 0) dX1_emptyLedBy_0 rfl (i32l rfl) ?_
  refine g_istore_n (ls' := [(2, XI 0), (0, XR x0), (1, XI x1)]) dX1_emptyLedBy_1 (by decide) rfl ?_
  obtain ⟨z11, hz11, h⟩ := bnd_some h
  refine g_sub (ls' := [(0, XR x0), (1, XI x1), (2, XI 0)]) [1, 2, 0] rfl ?_
  refine lX1_emptyLedBy_l2 hx0 1000 _ _ _ hz11 ?_
  cases h
  exact g_return dX1_emptyLedBy_32 rfl ⟨rfl, rfl⟩
set_option maxHeartbeats 8000000 in
set_option maxRecDepth 20000 in
theorem kX1_suffer {X : XC} {d : Nat} {x0 : Nat} {x1 : Int} {x2 : Int} (hx0 : Sh x0 = (11, 15)) {M : Mem} {q : Int × Mem} (h : fX1_suffer x0 x1 x2 M = some q) : Ct X mX1_suffer (d + 4) [XR x0, XI x1, XI x2] M (pV q) := by
  unfold fX1_suffer at h
  refine ct_go (by decide +kernel) (Nat.le_of_ble_eq_true rfl) (ls := [(0, XR x0), (1, XI x1), (2, XI x2)]) rfl ?_
  refine g_iload_n 1 dX1_suffer_0 rfl ?_
  refine g_iconst (v := 2) dX1_suffer_1 rfl (i32l rfl) ?_
  refine g_icmp_ne (tgt := 11) dX1_suffer_2 (by decide) (fun b1 => ?_) (fun b1 => ?_)
  · replace h := ifn b1 h
    refine g_aload_n 0 dX1_suffer_11 rfl ?_
    refine g_iload_n 2 dX1_suffer_12 rfl ?_
    obtain ⟨q2, hq2, h⟩ := bnd_some h
    refine v_I (ci := 1) (as := [XI x2]) dX1_suffer_13 mlX1_76 mdX1_hasCandidate mvX1_hasCandidate rfl hx0 rfl (Nat.le_of_ble_eq_true rfl) (kX1_hasCandidate hx0 hq2) rfl ?_
    refine g_if_ne (tgt := 20) dX1_suffer_16 (by decide) (fun b3 => ?_) (fun b3 => ?_)
    · replace h := ifn b3 h
      refine g_iload_n 1 dX1_suffer_20 rfl ?_
      obtain ⟨t13, ht13, h⟩ := bnd_some h
      have Kt13 : Go X mX1_suffer (d + 4) 80 [] [] t13 (pV q) := by
        cases h
        exact g_return dX1_suffer_80 rfl ⟨rfl, rfl⟩
      by_cases b14 : x1 = 0
      · replace ht13 := ifp b14 ht13
        refine g_tswIn (off := 31) (tgt := 52) dX1_suffer_21 (by rw [b14]; decide) (by rw [b14]; decide) (by rw [b14]; rfl) (by decide) ?_
        refine g_aload_n 0 dX1_suffer_52 rfl ?_
        refine g_getR dX1_suffer_53 flX1_19 (by decide) rfl hx0 ?_
        refine g_iload_n 2 dX1_suffer_56 rfl ?_
        refine g_iconst (v := 1) dX1_suffer_57 rfl (i32l rfl) ?_
        obtain ⟨c15, ht13⟩ := chk_some ht13
        refine g_zast dX1_suffer_58 (sf_1_2 hx0) c15.1 c15.2 (by decide) ?_
        refine g_nmM (fun M16 eM16 => ?_)
        replace ht13 := nm_s eM16 ht13
        refine g_goto (tgt := 80) dX1_suffer_59 (by decide) ?_
        cases ht13
        exact g_sub [] rfl Kt13
      · replace ht13 := ifn b14 ht13
        by_cases b17 : x1 = 1
        · replace ht13 := ifp b17 ht13
          refine g_tswIn (off := 41) (tgt := 62) dX1_suffer_21 (by rw [b17]; decide) (by rw [b17]; decide) (by rw [b17]; rfl) (by decide) ?_
          refine g_aload_n 0 dX1_suffer_62 rfl ?_
          refine g_getR dX1_suffer_63 flX1_19 (by decide) rfl hx0 ?_
          refine g_iload_n 2 dX1_suffer_66 rfl ?_
          refine g_iconst (v := 0) dX1_suffer_67 rfl (i32l rfl) ?_
          obtain ⟨c18, ht13⟩ := chk_some ht13
          refine g_zast dX1_suffer_68 (sf_1_2 hx0) c18.1 c18.2 (by decide) ?_
          refine g_nmM (fun M19 eM19 => ?_)
          replace ht13 := nm_s eM19 ht13
          refine g_goto (tgt := 80) dX1_suffer_69 (by decide) ?_
          cases ht13
          exact g_sub [] rfl Kt13
        · replace ht13 := ifn b17 ht13
          by_cases b20 : x1 = 2
          · replace ht13 := ifp b20 ht13
            refine g_tswIn (off := 59) (tgt := 80) dX1_suffer_21 (by rw [b20]; decide) (by rw [b20]; decide) (by rw [b20]; rfl) (by decide) ?_
            cases ht13
            exact g_sub [] rfl Kt13
          · replace ht13 := ifn b20 ht13
            by_cases b21 : x1 = 3
            · replace ht13 := ifp b21 ht13
              refine g_tswIn (off := 51) (tgt := 72) dX1_suffer_21 (by rw [b21]; decide) (by rw [b21]; decide) (by rw [b21]; rfl) (by decide) ?_
              refine g_aload_n 0 dX1_suffer_72 rfl ?_
              refine g_iload_n 2 dX1_suffer_73 rfl ?_
              obtain ⟨q22, hq22, ht13⟩ := bnd_some ht13
              refine v_V (ci := 1) (as := [XI x2]) dX1_suffer_74 mlX1_80 mdX1_emptyLedBy mvX1_emptyLedBy rfl hx0 rfl (Nat.le_of_ble_eq_true rfl) (kX1_emptyLedBy hx0 hq22) rfl ?_
              refine g_goto (tgt := 80) dX1_suffer_77 (by decide) ?_
              cases ht13
              exact g_sub [] rfl Kt13
            · replace ht13 := ifn b21 ht13
              refine g_tswOut (tgt := 80) dX1_suffer_21 (by omega) (by decide) ?_
              cases ht13
              exact g_sub [] rfl Kt13
    · replace h := ifp b3 h
      refine g_pc (pc' := 19) rfl ?_
      cases h
      exact g_return dX1_suffer_19 rfl ⟨rfl, rfl⟩
  · replace h := ifp b1 h
    refine g_pc (pc' := 5) rfl ?_
    refine g_aload_n 0 dX1_suffer_5 rfl ?_
    refine g_iload_n 2 dX1_suffer_6 rfl ?_
    refine g_putI dX1_suffer_7 flX1_32 (by decide) rfl hx0 ?_
    refine g_nmM (fun M23 eM23 => ?_)
    replace h := nm_s eM23 h
    cases h
    exact g_return dX1_suffer_10 rfl ⟨rfl, rfl⟩
set_option maxHeartbeats 8000000 in
set_option maxRecDepth 20000 in
theorem lX2_isRow_l20 {X : XC} {d : Nat} {Post : Option XV → Mem → Prop} {x1 : Int}  : ∀ (n : Nat) (x2 x3 x4 : Int) (M : Mem) (z : (Int × Mem) ⊕ (Int × Int × Int × Mem)), fX2_isRow_l20 x1 n x2 x3 x4 M = some z → (∀ r, z = .inl r → Post (some (XI r.1)) r.2) → Go X mX2_isRow d 20 [(1, XI x1), (2, XI x2), (3, XI x3), (4, XI x4)] [] M Post := by
  intro n
  induction n with
  | zero => intro _ _ _ _ _ h; cases h
  | succ n ih =>
    intro x2 x3 x4 M z h K1
    unfold fX2_isRow_l20 at h
    refine g_iload 3 dX2_isRow_20 rfl ?_
    refine g_gets dX2_isRow_22 gsX2_8 ?_
    refine g_alenC dX2_isRow_25 ?_
    refine g_icmp_ge (tgt := 80) dX2_isRow_26 (by decide) (fun b3 => ?_) (fun b3 => ?_)
    · replace h := ifp b3 h
      refine g_iconst (v := 1) dX2_isRow_80 rfl (i32l rfl) ?_
      cases h
      exact g_zreturn dX2_isRow_81 rfl (by decide) (K1 (1, M) rfl)
    · replace h := ifn b3 h
      refine g_pc (pc' := 29) rfl ?_
      refine g_iload_n 2 dX2_isRow_29 rfl ?_
      refine g_if_le (tgt := 80) dX2_isRow_30 (by decide) (fun b4 => ?_) (fun b4 => ?_)
      · replace h := ifp b4 h
        refine g_iconst (v := 1) dX2_isRow_80 rfl (i32l rfl) ?_
        cases h
        exact g_zreturn dX2_isRow_81 rfl (by decide) (K1 (1, M) rfl)
      · replace h := ifn b4 h
        refine g_pc (pc' := 33) rfl ?_
        refine g_iload_n 2 dX2_isRow_33 rfl ?_
        refine g_bip dX2_isRow_34 rfl ?_
        obtain ⟨c5, h⟩ := chk_some h
        refine g_irem dX2_isRow_36 c5 (by decide) rfl ?_
        refine g_nmI (fun v6 ev6 => ?_)
        replace h := nm_s ev6 h
        refine g_istore (ls' := [(5, XI v6), (1, XI x1), (2, XI x2), (3, XI x3), (4, XI x4)]) dX2_isRow_37 (by decide) rfl ?_
        refine g_iload 0 dX2_isRow_39 rfl ?_
        refine g_iconst (v := 1) dX2_isRow_41 rfl (i32l rfl) ?_
        refine g_icmp_lt (tgt := 60) dX2_isRow_42 (by decide) (fun b7 => ?_) (fun b7 => ?_)
        · replace h := ifp b7 h
          refine g_iconst (v := 0) dX2_isRow_60 rfl (i32l rfl) ?_
          cases h
          exact g_zreturn dX2_isRow_61 rfl (by decide) (K1 (0, M) rfl)
        · replace h := ifn b7 h
          refine g_pc (pc' := 45) rfl ?_
          refine g_iload 0 dX2_isRow_45 rfl ?_
          refine g_iload_n 1 dX2_isRow_47 rfl ?_
          refine g_icmp_gt (tgt := 60) dX2_isRow_48 (by decide) (fun b8 => ?_) (fun b8 => ?_)
          · replace h := ifp b8 h
            refine g_iconst (v := 0) dX2_isRow_60 rfl (i32l rfl) ?_
            cases h
            exact g_zreturn dX2_isRow_61 rfl (by decide) (K1 (0, M) rfl)
          · replace h := ifn b8 h
            refine g_pc (pc' := 51) rfl ?_
            refine g_iload_n 2 dX2_isRow_51 rfl ?_
            refine g_iload 0 dX2_isRow_52 rfl ?_
            refine g_ishr dX2_isRow_54 ?_
            refine g_iconst (v := 1) dX2_isRow_55 rfl (i32l rfl) ?_
            refine g_iand dX2_isRow_56 ?_
            refine g_if_eq (tgt := 62) dX2_isRow_57 (by decide) (fun b9 => ?_) (fun b9 => ?_)
            · replace h := ifp b9 h
              refine g_iload_n 2 dX2_isRow_62 rfl ?_
              refine g_iconst (v := 1) dX2_isRow_63 rfl (i32l rfl) ?_
              refine g_iload 0 dX2_isRow_64 rfl ?_
              refine g_ishl dX2_isRow_66 ?_
              refine g_ior dX2_isRow_67 ?_
              refine g_nmI (fun v10 ev10 => ?_)
              replace h := nm_s ev10 h
              refine g_istore_n (ls' := [(2, XI v10), (5, XI v6), (1, XI x1), (3, XI x3), (4, XI x4)]) dX2_isRow_68 (by decide) rfl ?_
              refine g_iload_n 3 dX2_isRow_69 rfl ?_
              refine g_bip dX2_isRow_70 rfl ?_
              refine g_pc (pc' := 72) rfl ?_
              obtain ⟨c11, h⟩ := chk_some h
              refine g_idiv dX2_isRow_72 c11 (by decide) rfl ?_
              refine g_nmI (fun v12 ev12 => ?_)
              replace h := nm_s ev12 h
              refine g_istore_n (ls' := [(3, XI v12), (2, XI v10), (5, XI v6), (1, XI x1), (4, XI x4)]) dX2_isRow_73 (by decide) rfl ?_
              obtain ⟨c13, h⟩ := chk_some h
              refine g_iinc (ls' := [(4, XI (x4 + 1)), (3, XI v12), (2, XI v10), (5, XI v6), (1, XI x1)]) 4 dX2_isRow_74 rfl rfl c13 (by decide) rfl ?_
              refine g_goto (tgt := 20) dX2_isRow_77 (by decide) ?_
              exact g_sub [4, 2, 1, 0] rfl (ih _ _ _ _ _ h K1)
            · replace h := ifn b9 h
              refine g_pc (pc' := 60) rfl ?_
              refine g_iconst (v := 0) dX2_isRow_60 rfl (i32l rfl) ?_
              cases h
              exact g_zreturn dX2_isRow_61 rfl (by decide) (K1 (0, M) rfl)
set_option maxHeartbeats 8000000 in
set_option maxRecDepth 20000 in
theorem kX2_isRow {X : XC} {d : Nat} {x0 : Int} {x1 : Int}  {M : Mem} {q : Int × Mem} (h : fX2_isRow x0 x1 M = some q) : Ct X mX2_isRow d [XI x0, XI x1] M (pI q) := by
  unfold fX2_isRow at h
  refine ct_go (by decide +kernel) (Nat.le_of_ble_eq_true rfl) (ls := [(0, XI x0), (1, XI x1)]) rfl ?_
  refine g_iload_n 0 dX2_isRow_0 rfl ?_
  refine g_iconst (v := 1) dX2_isRow_1 rfl (i32l rfl) ?_
  refine g_icmp_lt (tgt := 11) dX2_isRow_2 (by decide) (fun b1 => ?_) (fun b1 => ?_)
  · replace h := ifp b1 h
    refine g_iconst (v := 0) dX2_isRow_11 rfl (i32l rfl) ?_
    cases h
    exact g_zreturn dX2_isRow_12 rfl (by decide) ⟨rfl, rfl⟩
  · replace h := ifn b1 h
    refine g_pc (pc' := 5) rfl ?_
    refine g_iload_n 0 dX2_isRow_5 rfl ?_
    refine g_ldc (v := 99999999) dX2_isRow_6 csX2_7 (by decide +kernel) (i32l rfl) ?_
    refine g_icmp_le (tgt := 13) dX2_isRow_8 (by decide) (fun b2 => ?_) (fun b2 => ?_)
    · replace h := ifp b2 h
      refine g_iconst (v := 0) dX2_isRow_13 rfl (i32l rfl) ?_
      refine g_istore_n (ls' := [(2, XI 0), (0, XI x0), (1, XI x1)]) dX2_isRow_14 (by decide) rfl ?_
      refine g_iload_n 1 dX2_isRow_15 rfl ?_
      refine g_istore_n (ls' := [(3, XI x0), (2, XI 0), (0, XI x0), (1, XI x1)]) dX2_isRow_16 (by decide) rfl ?_
      refine g_iconst (v := 0) dX2_isRow_17 rfl (i32l rfl) ?_
      refine g_istore (ls' := [(4, XI 0), (3, XI x0), (2, XI 0), (0, XI x0), (1, XI x1)]) dX2_isRow_18 (by decide) rfl ?_
      obtain ⟨z14, hz14, rz14, h⟩ := lr_some h
      refine g_sub (ls' := [(1, XI x1), (2, XI 0), (3, XI x0), (4, XI 0)]) [4, 2, 1, 0] rfl ?_
      refine lX2_isRow_l20  1000 _ _ _ _ _ hz14 (fun r e => ?_)
      have rz14 := rz14 r e
      subst rz14
      exact ⟨rfl, rfl⟩
    · replace h := ifn b2 h
      refine g_pc (pc' := 11) rfl ?_
      refine g_iconst (v := 0) dX2_isRow_11 rfl (i32l rfl) ?_
      cases h
      exact g_zreturn dX2_isRow_12 rfl (by decide) ⟨rfl, rfl⟩
set_option maxHeartbeats 8000000 in
set_option maxRecDepth 20000 in
theorem lX2_asTold_l4 {X : XC} {d : Nat} {Post : Option XV → Mem → Prop}   : ∀ (n : Nat) (x1 x2 : Int) (M : Mem) (t0 : Int × Int × Mem), fX2_asTold_l4  n x1 x2 M = some t0 → Go X mX2_asTold d 30 [(1, XI t0.1)] [] t0.2.2 Post → Go X mX2_asTold d 4 [(1, XI x1), (2, XI x2)] [] M Post := by
  intro n
  induction n with
  | zero => intro _ _ _ _ h; cases h
  | succ n ih =>
    intro x1 x2 M t0 h K
    unfold fX2_asTold_l4 at h
    refine g_iload_n 1 dX2_asTold_4 rfl ?_
    refine g_gets dX2_asTold_5 gsX2_8 ?_
    refine g_alenC dX2_asTold_8 ?_
    refine g_icmp_ge (tgt := 30) dX2_asTold_9 (by decide) (fun b1 => ?_) (fun b1 => ?_)
    · replace h := ifp b1 h
      cases h
      exact g_sub [0] rfl K
    · replace h := ifn b1 h
      refine g_pc (pc' := 12) rfl ?_
      refine g_iload_n 0 dX2_asTold_12 rfl ?_
      refine g_bip dX2_asTold_13 rfl ?_
      obtain ⟨c2, h⟩ := chk_some h
      refine g_irem dX2_asTold_15 c2 (by decide) rfl ?_
      obtain ⟨t6, ht6, h⟩ := bnd_some h
      have Kt6 : Go X mX2_asTold d 24 [(1, XI t6), (2, XI x2)] [] M Post := by
        obtain ⟨c10, h⟩ := chk_some h
        refine g_iinc (ls' := [(2, XI (x2 + 1)), (1, XI t6)]) 1 dX2_asTold_24 rfl rfl c10 (by decide) rfl ?_
        refine g_goto (tgt := 4) dX2_asTold_27 (by decide) ?_
        exact g_sub [1, 0] rfl (ih _ _ _ _ h K)
      refine g_if_ne (tgt := 24) dX2_asTold_16 (by decide) (fun b7 => ?_) (fun b7 => ?_)
      · replace ht6 := ifn b7 ht6
        cases ht6
        exact g_sub [0, 1] rfl Kt6
      · replace ht6 := ifp b7 ht6
        refine g_pc (pc' := 19) rfl ?_
        refine g_iload_n 0 dX2_asTold_19 rfl ?_
        refine g_bip dX2_asTold_20 rfl ?_
        obtain ⟨c8, ht6⟩ := chk_some ht6
        refine g_idiv dX2_asTold_22 c8 (by decide) rfl ?_
        refine g_nmI (fun v9 ev9 => ?_)
        replace ht6 := nm_s ev9 ht6
        refine g_istore_n (ls' := [(1, XI v9), (2, XI x2)]) dX2_asTold_23 (by decide) rfl ?_
        cases ht6
        exact g_sub [0, 1] rfl Kt6
set_option maxHeartbeats 8000000 in
set_option maxRecDepth 20000 in
theorem kX2_asTold {X : XC} {d : Nat} {x0 : Int}  {M : Mem} {q : Int × Mem} (h : fX2_asTold x0 M = some q) : Ct X mX2_asTold d [XI x0] M (pI q) := by
  unfold fX2_asTold at h
  refine ct_go (by decide +kernel) (Nat.le_of_ble_eq_true rfl) (ls := [(0, XI x0)]) rfl ?_
  refine g_iload_n 0 dX2_asTold_0 rfl ?_
  refine g_istore_n (ls' := [(1, XI x0), (0, XI x0)]) dX2_asTold_1 (by decide) rfl ?_
  refine g_iconst (v := 1) dX2_asTold_2 rfl (i32l rfl) ?_
  refine g_istore_n (ls' := [(2, XI 1), (1, XI x0), (0, XI x0)]) dX2_asTold_3 (by decide) rfl ?_
  obtain ⟨z11, hz11, h⟩ := bnd_some h
  refine g_sub (ls' := [(1, XI x0), (2, XI 1)]) [1, 0] rfl ?_
  refine lX2_asTold_l4  1000 _ _ _ _ hz11 ?_
  refine g_iload_n 0 dX2_asTold_30 rfl ?_
  cases h
  exact g_ireturn dX2_asTold_31 rfl ⟨rfl, rfl⟩
set_option maxHeartbeats 8000000 in
set_option maxRecDepth 20000 in
theorem lX2_length_l4 {X : XC} {d : Nat} {Post : Option XV → Mem → Prop} {x0 : Int}  : ∀ (n : Nat) (x1 x2 : Int) (M : Mem) (t0 : Int × Int × Mem), fX2_length_l4 x0 n x1 x2 M = some t0 → Go X mX2_length (d + 1) 29 [(1, XI t0.1)] [] t0.2.2 Post → Go X mX2_length (d + 1) 4 [(0, XI x0), (1, XI x1), (2, XI x2)] [] M Post := by
  intro n
  induction n with
  | zero => intro _ _ _ _ h; cases h
  | succ n ih =>
    intro x1 x2 M t0 h K
    unfold fX2_length_l4 at h
    refine g_iload_n 2 dX2_length_4 rfl ?_
    refine g_gets dX2_length_5 gsX2_8 ?_
    refine g_alenC dX2_length_8 ?_
    refine g_icmp_ge (tgt := 29) dX2_length_9 (by decide) (fun b1 => ?_) (fun b1 => ?_)
    · replace h := ifp b1 h
      cases h
      exact g_sub [1] rfl K
    · replace h := ifn b1 h
      refine g_pc (pc' := 12) rfl ?_
      refine g_iload_n 0 dX2_length_12 rfl ?_
      refine g_iload_n 2 dX2_length_13 rfl ?_
      obtain ⟨q2, hq2, h⟩ := bnd_some h
      refine s_I (as := [XI x0, XI x2]) dX2_length_14 mlX2_14 mdX2_at msX2_at rfl (Nat.le_of_ble_eq_true rfl) (kX2_at  hq2) rfl ?_
      obtain ⟨t5, ht5, h⟩ := bnd_some h
      have Kt5 : Go X mX2_length (d + 1) 23 [(0, XI x0), (1, XI t5), (2, XI x2)] [] q2.2 Post := by
        obtain ⟨c8, h⟩ := chk_some h
        refine g_iinc (ls' := [(2, XI (x2 + 1)), (0, XI x0), (1, XI t5)]) 2 dX2_length_23 rfl rfl c8 (by decide) rfl ?_
        refine g_goto (tgt := 4) dX2_length_26 (by decide) ?_
        exact g_sub [1, 2, 0] rfl (ih _ _ _ _ h K)
      refine g_if_lt (tgt := 23) dX2_length_17 (by decide) (fun b6 => ?_) (fun b6 => ?_)
      · replace ht5 := ifp b6 ht5
        cases ht5
        exact g_sub [0, 1, 2] rfl Kt5
      · replace ht5 := ifn b6 ht5
        refine g_pc (pc' := 20) rfl ?_
        obtain ⟨c7, ht5⟩ := chk_some ht5
        refine g_iinc (ls' := [(1, XI (x1 + 1)), (0, XI x0), (2, XI x2)]) 1 dX2_length_20 rfl rfl c7 (by decide) rfl ?_
        cases ht5
        exact g_sub [1, 0, 2] rfl Kt5
set_option maxHeartbeats 8000000 in
set_option maxRecDepth 20000 in
theorem kX2_length {X : XC} {d : Nat} {x0 : Int}  {M : Mem} {q : Int × Mem} (h : fX2_length x0 M = some q) : Ct X mX2_length (d + 1) [XI x0] M (pI q) := by
  unfold fX2_length at h
  refine ct_go (by decide +kernel) (Nat.le_of_ble_eq_true rfl) (ls := [(0, XI x0)]) rfl ?_
  refine g_iconst (v := 0) dX2_length_0 rfl (i32l rfl) ?_
  refine g_istore_n (ls' := [(1, XI 0), (0, XI x0)]) dX2_length_1 (by decide) rfl ?_
  refine g_iconst (v := 0) dX2_length_2 rfl (i32l rfl) ?_
  refine g_istore_n (ls' := [(2, XI 0), (1, XI 0), (0, XI x0)]) dX2_length_3 (by decide) rfl ?_
  obtain ⟨z9, hz9, h⟩ := bnd_some h
  refine g_sub (ls' := [(0, XI x0), (1, XI 0), (2, XI 0)]) [2, 1, 0] rfl ?_
  refine lX2_length_l4  1000 _ _ _ _ hz9 ?_
  refine g_iload_n 0 dX2_length_29 rfl ?_
  cases h
  exact g_ireturn dX2_length_30 rfl ⟨rfl, rfl⟩
set_option maxHeartbeats 8000000 in
set_option maxRecDepth 20000 in
theorem lX2_ledBy_l6 {X : XC} {d : Nat} {Post : Option XV → Mem → Prop} {x0 : Int} {x1 : Int}  : ∀ (n : Nat) (x2 x3 : Int) (M : Mem) (t0 : Int × Int × Mem), fX2_ledBy_l6 x0 x1 n x2 x3 M = some t0 → Go X mX2_ledBy (d + 1) 48 [(2, XI t0.1)] [] t0.2.2 Post → Go X mX2_ledBy (d + 1) 6 [(0, XI x0), (1, XI x1), (2, XI x2), (3, XI x3)] [] M Post := by
  intro n
  induction n with
  | zero => intro _ _ _ _ h; cases h
  | succ n ih =>
    intro x2 x3 M t0 h K
    unfold fX2_ledBy_l6 at h
    refine g_iload_n 3 dX2_ledBy_6 rfl ?_
    refine g_gets dX2_ledBy_7 gsX2_8 ?_
    refine g_alenC dX2_ledBy_10 ?_
    refine g_icmp_ge (tgt := 48) dX2_ledBy_11 (by decide) (fun b3 => ?_) (fun b3 => ?_)
    · replace h := ifp b3 h
      cases h
      exact g_sub [2] rfl K
    · replace h := ifn b3 h
      refine g_pc (pc' := 14) rfl ?_
      refine g_iload_n 1 dX2_ledBy_14 rfl ?_
      refine g_iload_n 3 dX2_ledBy_15 rfl ?_
      obtain ⟨q4, hq4, h⟩ := bnd_some h
      refine s_I (as := [XI x1, XI x3]) dX2_ledBy_16 mlX2_14 mdX2_at msX2_at rfl (Nat.le_of_ble_eq_true rfl) (kX2_at  hq4) rfl ?_
      refine g_nmI (fun v5 ev5 => ?_)
      replace h := nm_s ev5 h
      refine g_istore (ls' := [(4, XI v5), (0, XI x0), (1, XI x1), (2, XI x2), (3, XI x3)]) dX2_ledBy_19 (by decide) rfl ?_
      refine g_iload 0 dX2_ledBy_21 rfl ?_
      obtain ⟨t12, ht12, h⟩ := bnd_some h
      have Kt12 : Go X mX2_ledBy (d + 1) 42 [(0, XI x0), (1, XI x1), (2, XI t12), (3, XI x3)] [] q4.2 Post := by
        obtain ⟨c19, h⟩ := chk_some h
        refine g_iinc (ls' := [(3, XI (x3 + 1)), (0, XI x0), (1, XI x1), (2, XI t12)]) 3 dX2_ledBy_42 rfl rfl c19 (by decide) rfl ?_
        refine g_goto (tgt := 6) dX2_ledBy_45 (by decide) ?_
        exact g_sub [1, 2, 3, 0] rfl (ih _ _ _ _ h K)
      refine g_if_lt (tgt := 42) dX2_ledBy_23 (by decide) (fun b13 => ?_) (fun b13 => ?_)
      · replace ht12 := ifp b13 ht12
        cases ht12
        exact g_sub [1, 2, 3, 4] rfl Kt12
      · replace ht12 := ifn b13 ht12
        refine g_pc (pc' := 26) rfl ?_
        refine g_iload 0 dX2_ledBy_26 rfl ?_
        refine g_iload_n 1 dX2_ledBy_28 rfl ?_
        refine g_icmp_eq (tgt := 42) dX2_ledBy_29 (by decide) (fun b14 => ?_) (fun b14 => ?_)
        · replace ht12 := ifp b14 ht12
          cases ht12
          exact g_sub [1, 2, 3, 4] rfl Kt12
        · replace ht12 := ifn b14 ht12
          refine g_pc (pc' := 32) rfl ?_
          refine g_iload_n 3 dX2_ledBy_32 rfl ?_
          refine g_bip dX2_ledBy_33 rfl ?_
          obtain ⟨c15, ht12⟩ := chk_some ht12
          refine g_imul dX2_ledBy_35 rfl c15 ?_
          refine g_iload 0 dX2_ledBy_36 rfl ?_
          obtain ⟨c16, ht12⟩ := chk_some ht12
          refine g_iadd dX2_ledBy_38 rfl c16 ?_
          refine g_iconst (v := 1) dX2_ledBy_39 rfl (i32l rfl) ?_
          obtain ⟨c17, ht12⟩ := chk_some ht12
          refine g_iadd dX2_ledBy_40 rfl c17 ?_
          refine g_nmI (fun v18 ev18 => ?_)
          replace ht12 := nm_s ev18 ht12
          refine g_istore_n (ls' := [(2, XI v18), (4, XI v5), (0, XI x0), (1, XI x1), (3, XI x3)]) dX2_ledBy_41 (by decide) rfl ?_
          refine g_pc (pc' := 42) rfl ?_
          cases ht12
          exact g_sub [2, 3, 0, 4] rfl Kt12
set_option maxHeartbeats 8000000 in
set_option maxRecDepth 20000 in
theorem kX2_ledBy {X : XC} {d : Nat} {x0 : Int} {x1 : Int}  {M : Mem} {q : Int × Mem} (h : fX2_ledBy x0 x1 M = some q) : Ct X mX2_ledBy (d + 1) [XI x0, XI x1] M (pI q) := by
  unfold fX2_ledBy at h
  refine ct_go (by decide +kernel) (Nat.le_of_ble_eq_true rfl) (ls := [(0, XI x0), (1, XI x1)]) rfl ?_
  refine g_iload_n 0 dX2_ledBy_0 rfl ?_
  refine g_iconst (v := 1) dX2_ledBy_1 rfl (i32l rfl) ?_
  obtain ⟨c1, h⟩ := chk_some h
  refine g_iadd dX2_ledBy_2 rfl c1 ?_
  refine g_nmI (fun v2 ev2 => ?_)
  replace h := nm_s ev2 h
  refine g_istore_n (ls' := [(2, XI v2), (0, XI x0), (1, XI x1)]) dX2_ledBy_3 (by decide) rfl ?_
  refine g_iconst (v := 0) dX2_ledBy_4 rfl (i32l rfl) ?_
  refine g_istore_n (ls' := [(3, XI 0), (2, XI v2), (0, XI x0), (1, XI x1)]) dX2_ledBy_5 (by decide) rfl ?_
  obtain ⟨z20, hz20, h⟩ := bnd_some h
  refine g_sub (ls' := [(0, XI x0), (1, XI x1), (2, XI v2), (3, XI 0)]) [2, 3, 1, 0] rfl ?_
  refine lX2_ledBy_l6  1000 _ _ _ _ hz20 ?_
  refine g_iload_n 0 dX2_ledBy_48 rfl ?_
  obtain ⟨q21, hq21, h⟩ := bnd_some h
  refine s_I (as := [XI z20.1]) dX2_ledBy_49 mlX2_20 mdX2_filledUp msX2_filledUp rfl (Nat.le_of_ble_eq_true rfl) (kX2_filledUp  hq21) rfl ?_
  cases h
  exact g_ireturn dX2_ledBy_52 rfl ⟨rfl, rfl⟩
end
