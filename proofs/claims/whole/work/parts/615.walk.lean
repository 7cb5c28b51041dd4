section
set_option maxHeartbeats 8000000 in
set_option maxRecDepth 20000 in
theorem lX9_left_l4 {X : XC} {d : Nat} {Post : Option XV → Mem → Prop} {x0 : Nat} {x1 : Int} (hx0 : Sh x0 = (18, 69)) : ∀ (n : Nat) (x2 x3 : Int) (M : Mem) (t0 : Int × Int × Mem), fX9_left_l4 x0 x1 n x2 x3 M = some t0 → Go X mX9_left (d + 2) 45 [(2, XI t0.1)] [] t0.2.2 Post → Go X mX9_left (d + 2) 4 [(0, XR x0), (1, XI x1), (2, XI x2), (3, XI x3)] [] M Post := by
  intro n
  induction n with
  | zero => intro _ _ _ _ h; cases h
  | succ n ih =>
    intro x2 x3 M t0 h K
    unfold fX9_left_l4 at h
    refine g_iload_n 3 dX9_left_4 rfl ?_
    refine g_iload_n 1 dX9_left_5 rfl ?_
    obtain ⟨q1, hq1, h⟩ := bnd_some h
    refine s_I (as := [XI x1]) dX9_left_6 mlX9_177 mdX9_lengthOf msX9_lengthOf rfl (Nat.le_of_ble_eq_true rfl) (kX9_lengthOf  hq1) rfl ?_
    refine g_icmp_ge (tgt := 45) dX9_left_9 (by decide) (fun b2 => ?_) (fun b2 => ?_)
    · replace h := ifp b2 h
      cases h
      exact g_sub [2] rfl K
    · replace h := ifn b2 h
      refine g_pc (pc' := 12) rfl ?_
      refine g_iload_n 1 dX9_left_12 rfl ?_
      refine g_iload_n 3 dX9_left_13 rfl ?_
      obtain ⟨q3, hq3, h⟩ := bnd_some h
      refine s_I (as := [XI x1, XI x3]) dX9_left_14 mlX9_181 mdX9_digitAt msX9_digitAt rfl (Nat.le_of_ble_eq_true rfl) (kX9_digitAt  hq3) rfl ?_
      refine g_nmI (fun v4 ev4 => ?_)
      replace h := nm_s ev4 h
      refine g_istore (ls' := [(4, XI v4), (0, XR x0), (1, XI x1), (2, XI x2), (3, XI x3)]) dX9_left_17 (by decide) rfl ?_
      refine g_aload_n 1 dX9_left_19 rfl ?_
      refine g_getR dX9_left_20 flX9_11 (by decide) rfl hx0 ?_
      refine g_iload 0 dX9_left_23 rfl ?_
      refine g_iconst (v := 1) dX9_left_25 rfl (i32l rfl) ?_
      refine g_pc (pc' := 26) rfl ?_
      obtain ⟨c5, h⟩ := chk_some h
      refine g_isub dX9_left_26 rfl c5 ?_
      obtain ⟨c6, h⟩ := chk_some h
      refine g_zald dX9_left_27 (sf_8_2 hx0) c6.1 c6.2 ?_
      obtain ⟨t11, ht11, h⟩ := bnd_some h
      have Kt11 : Go X mX9_left (d + 2) 39 [(0, XR x0), (1, XI x1), (2, XI t11), (3, XI x3)] [] q3.2 Post := by
        obtain ⟨c16, h⟩ := chk_some h
        refine g_iinc (ls' := [(3, XI (x3 + 1)), (0, XR x0), (1, XI x1), (2, XI t11)]) 3 dX9_left_39 rfl rfl c16 (by decide) rfl ?_
        refine g_goto (tgt := 4) dX9_left_42 (by decide) ?_
        exact g_sub [1, 2, 3, 0] rfl (ih _ _ _ _ h K)
      refine g_if_ne (tgt := 39) dX9_left_28 (by decide) (fun b12 => ?_) (fun b12 => ?_)
      · replace ht11 := ifn b12 ht11
        cases ht11
        exact g_sub [1, 2, 3, 4] rfl Kt11
      · replace ht11 := ifp b12 ht11
        refine g_pc (pc' := 31) rfl ?_
        refine g_bip dX9_left_31 rfl ?_
        refine g_iload_n 3 dX9_left_33 rfl ?_
        obtain ⟨c13, ht11⟩ := chk_some ht11
        refine g_imul dX9_left_34 rfl c13 ?_
        refine g_iload 0 dX9_left_35 rfl ?_
        obtain ⟨c14, ht11⟩ := chk_some ht11
        refine g_iadd dX9_left_37 rfl c14 ?_
        refine g_nmI (fun v15 ev15 => ?_)
        replace ht11 := nm_s ev15 ht11
        refine g_istore_n (ls' := [(2, XI v15), (4, XI v4), (0, XR x0), (1, XI x1), (3, XI x3)]) dX9_left_38 (by decide) rfl ?_
        cases ht11
        exact g_sub [2, 3, 0, 4] rfl Kt11
set_option maxHeartbeats 8000000 in
set_option maxRecDepth 20000 in
theorem kX9_left {X : XC} {d : Nat} {x0 : Nat} {x1 : Int} (hx0 : Sh x0 = (18, 69)) {M : Mem} {q : Int × Mem} (h : fX9_left x0 x1 M = some q) : Ct X mX9_left (d + 2) [XR x0, XI x1] M (pI q) := by
  unfold fX9_left at h
  refine ct_go (by decide +kernel) (Nat.le_of_ble_eq_true rfl) (ls := [(0, XR x0), (1, XI x1)]) rfl ?_
  refine g_iconst (v := 0) dX9_left_0 rfl (i32l rfl) ?_
  refine g_istore_n (ls' := [(2, XI 0), (0, XR x0), (1, XI x1)]) dX9_left_1 (by decide) rfl ?_
  refine g_iconst (v := 0) dX9_left_2 rfl (i32l rfl) ?_
  refine g_istore_n (ls' := [(3, XI 0), (2, XI 0), (0, XR x0), (1, XI x1)]) dX9_left_3 (by decide) rfl ?_
  obtain ⟨z17, hz17, h⟩ := bnd_some h
  refine g_sub (ls' := [(0, XR x0), (1, XI x1), (2, XI 0), (3, XI 0)]) [2, 3, 1, 0] rfl ?_
  refine lX9_left_l4 hx0 1000 _ _ _ _ hz17 ?_
  refine g_iload_n 0 dX9_left_45 rfl ?_
  cases h
  exact g_ireturn dX9_left_46 rfl ⟨rfl, rfl⟩
set_option maxHeartbeats 8000000 in
set_option maxRecDepth 20000 in
theorem lX9_firstOver_l5 {X : XC} {d : Nat} {Post : Option XV → Mem → Prop} {x0 : Nat} {x1 : Int} (hx0 : Sh x0 = (18, 69)) : ∀ (n : Nat) (x2 x4 : Int) (M : Mem) (z : (Int × Mem) ⊕ (Int × Int × Mem)), fX9_firstOver_l5 x0 x1 n x2 x4 M = some z → (∀ r, z = .inl r → Post (some (XI r.1)) r.2) → Go X mX9_firstOver d 5 [(0, XR x0), (1, XI x1), (2, XL x2), (4, XI x4)] [] M Post := by
  intro n
  induction n with
  | zero => intro _ _ _ _ h; cases h
  | succ n ih =>
    intro x2 x4 M z h K1
    unfold fX9_firstOver_l5 at h
    refine g_iload 3 dX9_firstOver_5 rfl ?_
    refine g_iload_n 1 dX9_firstOver_7 rfl ?_
    refine g_icmp_ge (tgt := 39) dX9_firstOver_8 (by decide) (fun b1 => ?_) (fun b1 => ?_)
    · replace h := ifp b1 h
      refine g_iconst (v := -1) dX9_firstOver_39 rfl (i32l rfl) ?_
      cases h
      exact g_ireturn dX9_firstOver_40 rfl (K1 ((-1), M) rfl)
    · replace h := ifn b1 h
      refine g_pc (pc' := 11) rfl ?_
      refine g_lload_n 2 dX9_firstOver_11 rfl ?_
      refine g_aload_n 0 dX9_firstOver_12 rfl ?_
      refine g_getR dX9_firstOver_13 flX9_22 (by decide) rfl hx0 ?_
      refine g_iload 3 dX9_firstOver_16 rfl ?_
      obtain ⟨c2, h⟩ := chk_some h
      refine g_iald dX9_firstOver_18 (sf_8_5 hx0) c2.1 c2.2 ?_
      refine g_i2l dX9_firstOver_19 ?_
      obtain ⟨c3, h⟩ := chk_some h
      refine g_ladd dX9_firstOver_20 rfl c3 ?_
      refine g_nmL (fun v4 ev4 => ?_)
      replace h := nm_s ev4 h
      refine g_lstore_n (ls' := [(2, XL v4), (0, XR x0), (1, XI x1), (4, XI x4)]) dX9_firstOver_21 (by decide) rfl ?_
      refine g_pc (pc' := 22) rfl ?_
      refine g_lload_n 0 dX9_firstOver_22 rfl ?_
      refine g_ldc2 (v := 4611686) dX9_firstOver_23 csX9_185 (by decide +kernel) (i64l rfl) ?_
      refine g_lcmp_le (tgt := 33) dX9_firstOver_26 dX9_firstOver_27 (by decide) (fun b5 => ?_) (fun b5 => ?_)
      · replace h := ifp b5 h
        obtain ⟨c6, h⟩ := chk_some h
        refine g_iinc (ls' := [(4, XI (x4 + 1)), (2, XL v4), (0, XR x0), (1, XI x1)]) 3 dX9_firstOver_33 rfl rfl c6 (by decide) rfl ?_
        refine g_goto (tgt := 5) dX9_firstOver_36 (by decide) ?_
        exact g_sub [2, 3, 1, 0] rfl (ih _ _ _ _ h K1)
      · replace h := ifn b5 h
        refine g_pc (pc' := 30) rfl ?_
        refine g_iload 3 dX9_firstOver_30 rfl ?_
        cases h
        exact g_ireturn dX9_firstOver_32 rfl (K1 (x4, M) rfl)
set_option maxHeartbeats 8000000 in
set_option maxRecDepth 20000 in
theorem kX9_firstOver {X : XC} {d : Nat} {x0 : Nat} {x1 : Int} (hx0 : Sh x0 = (18, 69)) {M : Mem} {q : Int × Mem} (h : fX9_firstOver x0 x1 M = some q) : Ct X mX9_firstOver d [XR x0, XI x1] M (pI q) := by
  unfold fX9_firstOver at h
  refine ct_go (by decide +kernel) (Nat.le_of_ble_eq_true rfl) (ls := [(0, XR x0), (1, XI x1)]) rfl ?_
  refine g_lconst (v := 0) dX9_firstOver_0 rfl (i64l rfl) ?_
  refine g_lstore_n (ls' := [(2, XL 0), (0, XR x0), (1, XI x1)]) dX9_firstOver_1 (by decide) rfl ?_
  refine g_iconst (v := 0) dX9_firstOver_2 rfl (i32l rfl) ?_
  refine g_istore (ls' := [(4, XI 0), (2, XL 0), (0, XR x0), (1, XI x1)]) dX9_firstOver_3 (by decide) rfl ?_
  obtain ⟨z7, hz7, rz7, h⟩ := lr_some h
  refine g_sub (ls' := [(0, XR x0), (1, XI x1), (2, XL 0), (4, XI 0)]) [2, 3, 1, 0] rfl ?_
  refine lX9_firstOver_l5 hx0 1000 _ _ _ _ hz7 (fun r e => ?_)
  have rz7 := rz7 r e
  subst rz7
  exact ⟨rfl, rfl⟩
set_option maxHeartbeats 8000000 in
set_option maxRecDepth 20000 in
theorem kX9_over {X : XC} {d : Nat} {x0 : Nat} {x1 : Int} (hx0 : Sh x0 = (18, 69)) {M : Mem} {q : Int × Mem} (h : fX9_over x0 x1 M = some q) : Ct X mX9_over d [XR x0, XI x1] M (pI q) := by
  unfold fX9_over at h
  refine ct_go (by decide +kernel) (Nat.le_of_ble_eq_true rfl) (ls := [(0, XR x0), (1, XI x1)]) rfl ?_
  refine g_aload_n 0 dX9_over_0 rfl ?_
  refine g_iconst (v := 3) dX9_over_1 rfl (i32l rfl) ?_
  refine g_putI dX9_over_2 flX9_187 (by decide) rfl hx0 ?_
  refine g_nmM (fun M1 eM1 => ?_)
  replace h := nm_s eM1 h
  refine g_aload_n 0 dX9_over_5 rfl ?_
  refine g_getR dX9_over_6 flX9_47 (by decide) rfl hx0 ?_
  refine g_iconst (v := 0) dX9_over_9 rfl (i32l rfl) ?_
  refine g_iconst (v := 5) dX9_over_10 rfl (i32l rfl) ?_
  refine g_iast dX9_over_11 (sf_8_16 hx0) (by decide) (by decide) ?_
  refine g_nmM (fun M2 eM2 => ?_)
  replace h := nm_s eM2 h
  refine g_pc (pc' := 12) rfl ?_
  refine g_aload_n 0 dX9_over_12 rfl ?_
  refine g_getR dX9_over_13 flX9_50 (by decide) rfl hx0 ?_
  refine g_iconst (v := 0) dX9_over_16 rfl (i32l rfl) ?_
  refine g_aload_n 0 dX9_over_17 rfl ?_
  refine g_getI dX9_over_18 flX9_174 (by decide) rfl hx0 ?_
  refine g_iast dX9_over_21 (sf_8_17 hx0) (by decide) (by decide) ?_
  refine g_nmM (fun M3 eM3 => ?_)
  replace h := nm_s eM3 h
  refine g_aload_n 0 dX9_over_22 rfl ?_
  refine g_getR dX9_over_23 flX9_47 (by decide) rfl hx0 ?_
  refine g_iconst (v := 1) dX9_over_26 rfl (i32l rfl) ?_
  refine g_pc (pc' := 27) rfl ?_
  refine g_bip dX9_over_27 rfl ?_
  refine g_iast dX9_over_29 (sf_8_16 hx0) (by decide) (by decide) ?_
  refine g_nmM (fun M4 eM4 => ?_)
  replace h := nm_s eM4 h
  refine g_aload_n 0 dX9_over_30 rfl ?_
  refine g_getR dX9_over_31 flX9_50 (by decide) rfl hx0 ?_
  refine g_iconst (v := 1) dX9_over_34 rfl (i32l rfl) ?_
  refine g_iload_n 1 dX9_over_35 rfl ?_
  refine g_iast dX9_over_36 (sf_8_17 hx0) (by decide) (by decide) ?_
  refine g_nmM (fun M5 eM5 => ?_)
  replace h := nm_s eM5 h
  refine g_aload_n 0 dX9_over_37 rfl ?_
  refine g_getR dX9_over_38 flX9_47 (by decide) rfl hx0 ?_
  refine g_pc (pc' := 41) rfl ?_
  refine g_iconst (v := 2) dX9_over_41 rfl (i32l rfl) ?_
  refine g_bip dX9_over_42 rfl ?_
  refine g_iast dX9_over_44 (sf_8_16 hx0) (by decide) (by decide) ?_
  refine g_nmM (fun M6 eM6 => ?_)
  replace h := nm_s eM6 h
  refine g_aload_n 0 dX9_over_45 rfl ?_
  refine g_getR dX9_over_46 flX9_50 (by decide) rfl hx0 ?_
  refine g_iconst (v := 2) dX9_over_49 rfl (i32l rfl) ?_
  refine g_iconst (v := 0) dX9_over_50 rfl (i32l rfl) ?_
  refine g_iast dX9_over_51 (sf_8_17 hx0) (by decide) (by decide) ?_
  refine g_nmM (fun M7 eM7 => ?_)
  replace h := nm_s eM7 h
  refine g_bip dX9_over_52 rfl ?_
  refine g_pc (pc' := 54) rfl ?_
  cases h
  exact g_ireturn dX9_over_54 rfl ⟨rfl, rfl⟩
set_option maxHeartbeats 8000000 in
set_option maxRecDepth 20000 in
theorem kX9_candidate {X : XC} {d : Nat} {x0 : Nat} (hx0 : Sh x0 = (18, 69)) {M : Mem} {q : Int × Mem} (h : fX9_candidate x0 M = some q) : Ct X mX9_candidate d [XR x0] M (pI q) := by
  unfold fX9_candidate at h
  refine ct_go (by decide +kernel) (Nat.le_of_ble_eq_true rfl) (ls := [(0, XR x0)]) rfl ?_
  refine g_aload_n 0 dX9_candidate_0 rfl ?_
  refine g_getI dX9_candidate_1 flX9_167 (by decide) rfl hx0 ?_
  refine g_bip dX9_candidate_4 rfl ?_
  refine g_icmp_ne (tgt := 12) dX9_candidate_6 (by decide) (fun b1 => ?_) (fun b1 => ?_)
  · replace h := ifn b1 h
    refine g_aload_n 0 dX9_candidate_12 rfl ?_
    refine g_getR dX9_candidate_13 flX9_11 (by decide) rfl hx0 ?_
    refine g_aload_n 0 dX9_candidate_16 rfl ?_
    refine g_getI dX9_candidate_17 flX9_167 (by decide) rfl hx0 ?_
    refine g_iconst (v := 0) dX9_candidate_20 rfl (i32l rfl) ?_
    obtain ⟨c2, h⟩ := chk_some h
    refine g_zast dX9_candidate_21 (sf_8_2 hx0) c2.1 c2.2 (by decide) ?_
    refine g_nmM (fun M3 eM3 => ?_)
    replace h := nm_s eM3 h
    refine g_aload_n 0 dX9_candidate_22 rfl ?_
    refine g_getR dX9_candidate_23 flX9_15 (by decide) rfl hx0 ?_
    refine g_pc (pc' := 26) rfl ?_
    refine g_aload_n 0 dX9_candidate_26 rfl ?_
    refine g_getI dX9_candidate_27 flX9_167 (by decide) rfl hx0 ?_
    refine g_aload_n 0 dX9_candidate_30 rfl ?_
    refine g_getI dX9_candidate_31 flX9_167 (by decide) rfl hx0 ?_
    obtain ⟨c4, h⟩ := chk_some h
    refine g_iast dX9_candidate_34 (sf_8_3 hx0) c4.1 c4.2 ?_
    refine g_nmM (fun M5 eM5 => ?_)
    replace h := nm_s eM5 h
    refine g_aload_n 0 dX9_candidate_35 rfl ?_
    refine g_dupR dX9_candidate_36 ?_
    refine g_getI dX9_candidate_37 flX9_167 (by decide) rfl hx0 ?_
    refine g_iconst (v := 1) dX9_candidate_40 rfl (i32l rfl) ?_
    refine g_pc (pc' := 41) rfl ?_
    obtain ⟨c6, h⟩ := chk_some h
    refine g_iadd dX9_candidate_41 rfl c6 ?_
    refine g_putI dX9_candidate_42 flX9_167 (by decide) rfl hx0 ?_
    refine g_nmM (fun M7 eM7 => ?_)
    replace h := nm_s eM7 h
    refine g_aload_n 0 dX9_candidate_45 rfl ?_
    refine g_getI dX9_candidate_46 flX9_167 (by decide) rfl hx0 ?_
    refine g_iconst (v := 1) dX9_candidate_49 rfl (i32l rfl) ?_
    obtain ⟨c8, h⟩ := chk_some h
    refine g_isub dX9_candidate_50 rfl c8 ?_
    cases h
    exact g_ireturn dX9_candidate_51 rfl ⟨rfl, rfl⟩
  · replace h := ifp b1 h
    refine g_pc (pc' := 9) rfl ?_
    refine g_bip dX9_candidate_9 rfl ?_
    cases h
    exact g_ireturn dX9_candidate_11 rfl ⟨rfl, rfl⟩
set_option maxHeartbeats 8000000 in
set_option maxRecDepth 20000 in
theorem lX9_isRow_l18 {X : XC} {d : Nat} {Post : Option XV → Mem → Prop} {x0 : Nat} (hx0 : Sh x0 = (18, 69)) : ∀ (n : Nat) (x2 x3 : Int) (M : Mem) (z : (Int × Mem) ⊕ (Int × Int × Mem)), fX9_isRow_l18 x0 n x2 x3 M = some z → (∀ r, z = .inl r → Post (some (XI r.1)) r.2) → Go X mX9_isRow (d + 1) 18 [(0, XR x0), (2, XI x2), (3, XI x3)] [] M Post := by
  intro n
  induction n with
  | zero => intro _ _ _ _ h; cases h
  | succ n ih =>
    intro x2 x3 M z h K1
    unfold fX9_isRow_l18 at h
    refine g_iload_n 2 dX9_isRow_18 rfl ?_
    refine g_if_le (tgt := 69) dX9_isRow_19 (by decide) (fun b3 => ?_) (fun b3 => ?_)
    · replace h := ifp b3 h
      refine g_iconst (v := 1) dX9_isRow_69 rfl (i32l rfl) ?_
      cases h
      exact g_zreturn dX9_isRow_70 rfl (by decide) (K1 (1, M) rfl)
    · replace h := ifn b3 h
      refine g_pc (pc' := 22) rfl ?_
      refine g_iload_n 2 dX9_isRow_22 rfl ?_
      refine g_bip dX9_isRow_23 rfl ?_
      obtain ⟨c4, h⟩ := chk_some h
      refine g_irem dX9_isRow_25 c4 (by decide) rfl ?_
      refine g_nmI (fun v5 ev5 => ?_)
      replace h := nm_s ev5 h
      refine g_istore (ls' := [(4, XI v5), (0, XR x0), (2, XI x2), (3, XI x3)]) dX9_isRow_26 (by decide) rfl ?_
      refine g_iload 0 dX9_isRow_28 rfl ?_
      refine g_i2l dX9_isRow_30 ?_
      refine g_lconst (v := 1) dX9_isRow_31 rfl (i64l rfl) ?_
      refine g_aload_n 1 dX9_isRow_32 rfl ?_
      refine g_pc (pc' := 33) rfl ?_
      refine g_getI dX9_isRow_33 flX9_167 (by decide) rfl hx0 ?_
      refine g_i2l dX9_isRow_36 ?_
      obtain ⟨q6, hq6, h⟩ := bnd_some h
      refine s_I (as := [XL v5, XL 1, XL (M x0 0)]) dX9_isRow_37 mlX9_170 mdX9_in msX9_in rfl (Nat.le_of_ble_eq_true rfl) (kX9_in  hq6) rfl ?_
      refine g_if_eq (tgt := 52) dX9_isRow_40 (by decide) (fun b7 => ?_) (fun b7 => ?_)
      · replace h := ifp b7 h
        refine g_iconst (v := 0) dX9_isRow_52 rfl (i32l rfl) ?_
        cases h
        exact g_zreturn dX9_isRow_53 rfl (by decide) (K1 (0, q6.2) rfl)
      · replace h := ifn b7 h
        refine g_pc (pc' := 43) rfl ?_
        refine g_iload_n 2 dX9_isRow_43 rfl ?_
        refine g_iload 0 dX9_isRow_44 rfl ?_
        obtain ⟨q8, hq8, h⟩ := bnd_some h
        refine s_I (as := [XI x2, XI v5]) dX9_isRow_46 mlX9_192 mdX9_has msX9_has rfl (Nat.le_of_ble_eq_true rfl) (kX9_has  hq8) rfl ?_
        refine g_if_eq (tgt := 54) dX9_isRow_49 (by decide) (fun b9 => ?_) (fun b9 => ?_)
        · replace h := ifp b9 h
          refine g_iload_n 2 dX9_isRow_54 rfl ?_
          refine g_iconst (v := 1) dX9_isRow_55 rfl (i32l rfl) ?_
          refine g_iload 0 dX9_isRow_56 rfl ?_
          refine g_ishl dX9_isRow_58 ?_
          refine g_ior dX9_isRow_59 ?_
          refine g_nmI (fun v10 ev10 => ?_)
          replace h := nm_s ev10 h
          refine g_istore_n (ls' := [(2, XI v10), (4, XI v5), (0, XR x0), (3, XI x3)]) dX9_isRow_60 (by decide) rfl ?_
          refine g_iload_n 3 dX9_isRow_61 rfl ?_
          refine g_bip dX9_isRow_62 rfl ?_
          refine g_pc (pc' := 64) rfl ?_
          obtain ⟨c11, h⟩ := chk_some h
          refine g_idiv dX9_isRow_64 c11 (by decide) rfl ?_
          refine g_nmI (fun v12 ev12 => ?_)
          replace h := nm_s ev12 h
          refine g_istore_n (ls' := [(3, XI v12), (2, XI v10), (4, XI v5), (0, XR x0)]) dX9_isRow_65 (by decide) rfl ?_
          refine g_goto (tgt := 18) dX9_isRow_66 (by decide) ?_
          exact g_sub [3, 1, 0] rfl (ih _ _ _ _ h K1)
        · replace h := ifn b9 h
          refine g_pc (pc' := 52) rfl ?_
          refine g_iconst (v := 0) dX9_isRow_52 rfl (i32l rfl) ?_
          cases h
          exact g_zreturn dX9_isRow_53 rfl (by decide) (K1 (0, q8.2) rfl)
set_option maxHeartbeats 8000000 in
set_option maxRecDepth 20000 in
theorem kX9_isRow {X : XC} {d : Nat} {x0 : Nat} {x1 : Int} (hx0 : Sh x0 = (18, 69)) {M : Mem} {q : Int × Mem} (h : fX9_isRow x0 x1 M = some q) : Ct X mX9_isRow (d + 1) [XR x0, XI x1] M (pI q) := by
  unfold fX9_isRow at h
  refine ct_go (by decide +kernel) (Nat.le_of_ble_eq_true rfl) (ls := [(0, XR x0), (1, XI x1)]) rfl ?_
  refine g_iload_n 1 dX9_isRow_0 rfl ?_
  refine g_i2l dX9_isRow_1 ?_
  refine g_lconst (v := 1) dX9_isRow_2 rfl (i64l rfl) ?_
  refine g_ldc2 (v := 99999999) dX9_isRow_3 csX9_190 (by decide +kernel) (i64l rfl) ?_
  obtain ⟨q1, hq1, h⟩ := bnd_some h
  refine s_I (as := [XL x1, XL 1, XL 99999999]) dX9_isRow_6 mlX9_170 mdX9_in msX9_in rfl (Nat.le_of_ble_eq_true rfl) (kX9_in  hq1) rfl ?_
  refine g_if_ne (tgt := 14) dX9_isRow_9 (by decide) (fun b2 => ?_) (fun b2 => ?_)
  · replace h := ifn b2 h
    refine g_iconst (v := 0) dX9_isRow_14 rfl (i32l rfl) ?_
    refine g_istore_n (ls' := [(2, XI 0), (0, XR x0), (1, XI x1)]) dX9_isRow_15 (by decide) rfl ?_
    refine g_iload_n 2 dX9_isRow_16 rfl ?_
    refine g_istore_n (ls' := [(3, XI x1), (2, XI 0), (0, XR x0), (1, XI x1)]) dX9_isRow_17 (by decide) rfl ?_
    obtain ⟨z13, hz13, rz13, h⟩ := lr_some h
    refine g_sub (ls' := [(0, XR x0), (2, XI 0), (3, XI x1)]) [2, 1, 0] rfl ?_
    refine lX9_isRow_l18 hx0 1000 _ _ _ _ hz13 (fun r e => ?_)
    have rz13 := rz13 r e
    subst rz13
    exact ⟨rfl, rfl⟩
  · replace h := ifp b2 h
    refine g_pc (pc' := 12) rfl ?_
    refine g_iconst (v := 0) dX9_isRow_12 rfl (i32l rfl) ?_
    cases h
    exact g_zreturn dX9_isRow_13 rfl (by decide) ⟨rfl, rfl⟩
set_option maxHeartbeats 8000000 in
set_option maxRecDepth 20000 in
theorem kX9_ballot {X : XC} {d : Nat} {x0 : Nat} {x1 : Int} {x2 : Int} (hx0 : Sh x0 = (18, 69)) {M : Mem} {q : Int × Mem} (h : fX9_ballot x0 x1 x2 M = some q) : Ct X mX9_ballot (d + 2) [XR x0, XI x1, XI x2] M (pI q) := by
  unfold fX9_ballot at h
  refine ct_go (by decide +kernel) (Nat.le_of_ble_eq_true rfl) (ls := [(0, XR x0), (1, XI x1), (2, XI x2)]) rfl ?_
  refine g_aload_n 0 dX9_ballot_0 rfl ?_
  refine g_iload_n 1 dX9_ballot_1 rfl ?_
  obtain ⟨q1, hq1, h⟩ := bnd_some h
  refine v_I (ci := 8) (as := [XI x1]) dX9_ballot_2 mlX9_196 mdX9_isRow mvX9_isRow rfl hx0 rfl (Nat.le_of_ble_eq_true rfl) (kX9_isRow hx0 hq1) rfl ?_
  refine g_if_eq (tgt := 20) dX9_ballot_5 (by decide) (fun b2 => ?_) (fun b2 => ?_)
  · replace h := ifp b2 h
    refine g_bip dX9_ballot_20 rfl ?_
    cases h
    exact g_ireturn dX9_ballot_22 rfl ⟨rfl, rfl⟩
  · replace h := ifn b2 h
    refine g_pc (pc' := 8) rfl ?_
    refine g_iload_n 2 dX9_ballot_8 rfl ?_
    refine g_i2l dX9_ballot_9 ?_
    refine g_lconst (v := 0) dX9_ballot_10 rfl (i64l rfl) ?_
    refine g_ldc2 (v := 1000000) dX9_ballot_11 csX9_200 (by decide +kernel) (i64l rfl) ?_
    obtain ⟨q3, hq3, h⟩ := bnd_some h
    refine s_I (as := [XL x2, XL 0, XL 1000000]) dX9_ballot_14 mlX9_170 mdX9_in msX9_in rfl (Nat.le_of_ble_eq_true rfl) (kX9_in  hq3) rfl ?_
    refine g_if_ne (tgt := 23) dX9_ballot_17 (by decide) (fun b4 => ?_) (fun b4 => ?_)
    · replace h := ifn b4 h
      refine g_aload_n 0 dX9_ballot_23 rfl ?_
      refine g_getI dX9_ballot_24 flX9_174 (by decide) rfl hx0 ?_
      refine g_bip dX9_ballot_27 rfl ?_
      refine g_icmp_ne (tgt := 35) dX9_ballot_29 (by decide) (fun b5 => ?_) (fun b5 => ?_)
      · replace h := ifn b5 h
        refine g_aload_n 0 dX9_ballot_35 rfl ?_
        refine g_getR dX9_ballot_36 flX9_19 (by decide) rfl hx0 ?_
        refine g_aload_n 0 dX9_ballot_39 rfl ?_
        refine g_getI dX9_ballot_40 flX9_174 (by decide) rfl hx0 ?_
        refine g_iload_n 1 dX9_ballot_43 rfl ?_
        obtain ⟨c6, h⟩ := chk_some h
        refine g_iast dX9_ballot_44 (sf_8_4 hx0) c6.1 c6.2 ?_
        refine g_nmM (fun M7 eM7 => ?_)
        replace h := nm_s eM7 h
        refine g_aload_n 0 dX9_ballot_45 rfl ?_
        refine g_getR dX9_ballot_46 flX9_22 (by decide) rfl hx0 ?_
        refine g_pc (pc' := 49) rfl ?_
        refine g_aload_n 0 dX9_ballot_49 rfl ?_
        refine g_getI dX9_ballot_50 flX9_174 (by decide) rfl hx0 ?_
        refine g_iload_n 2 dX9_ballot_53 rfl ?_
        obtain ⟨c8, h⟩ := chk_some h
        refine g_iast dX9_ballot_54 (sf_8_5 hx0) c8.1 c8.2 ?_
        refine g_nmM (fun M9 eM9 => ?_)
        replace h := nm_s eM9 h
        refine g_aload_n 0 dX9_ballot_55 rfl ?_
        refine g_aload_n 0 dX9_ballot_56 rfl ?_
        refine g_getI dX9_ballot_57 flX9_174 (by decide) rfl hx0 ?_
        refine g_iconst (v := 1) dX9_ballot_60 rfl (i32l rfl) ?_
        obtain ⟨c10, h⟩ := chk_some h
        refine g_iadd dX9_ballot_61 rfl c10 ?_
        refine g_pc (pc' := 62) rfl ?_
        obtain ⟨q11, hq11, h⟩ := bnd_some h
        refine v_I (ci := 8) (as := [XI ((M9 x0 1) + 1)]) dX9_ballot_62 mlX9_202 mdX9_firstOver mvX9_firstOver rfl hx0 rfl (Nat.le_of_ble_eq_true rfl) (kX9_firstOver hx0 hq11) rfl ?_
        refine g_nmI (fun v12 ev12 => ?_)
        replace h := nm_s ev12 h
        refine g_istore_n (ls' := [(3, XI v12), (0, XR x0), (1, XI x1), (2, XI x2)]) dX9_ballot_65 (by decide) rfl ?_
        refine g_iload_n 0 dX9_ballot_66 rfl ?_
        refine g_iconst (v := -1) dX9_ballot_67 rfl (i32l rfl) ?_
        refine g_icmp_eq (tgt := 77) dX9_ballot_68 (by decide) (fun b13 => ?_) (fun b13 => ?_)
        · replace h := ifp b13 h
          refine g_aload_n 1 dX9_ballot_77 rfl ?_
          refine g_dupR dX9_ballot_78 ?_
          refine g_getI dX9_ballot_79 flX9_174 (by decide) rfl hx0 ?_
          refine g_iconst (v := 1) dX9_ballot_82 rfl (i32l rfl) ?_
          obtain ⟨c14, h⟩ := chk_some h
          refine g_iadd dX9_ballot_83 rfl c14 ?_
          refine g_putI dX9_ballot_84 flX9_174 (by decide) rfl hx0 ?_
          refine g_nmM (fun M15 eM15 => ?_)
          replace h := nm_s eM15 h
          refine g_aload_n 1 dX9_ballot_87 rfl ?_
          refine g_getI dX9_ballot_88 flX9_174 (by decide) rfl hx0 ?_
          refine g_pc (pc' := 91) rfl ?_
          refine g_iconst (v := 1) dX9_ballot_91 rfl (i32l rfl) ?_
          obtain ⟨c16, h⟩ := chk_some h
          refine g_isub dX9_ballot_92 rfl c16 ?_
          cases h
          exact g_ireturn dX9_ballot_93 rfl ⟨rfl, rfl⟩
        · replace h := ifn b13 h
          refine g_pc (pc' := 71) rfl ?_
          refine g_aload_n 1 dX9_ballot_71 rfl ?_
          refine g_iload_n 0 dX9_ballot_72 rfl ?_
          obtain ⟨q17, hq17, h⟩ := bnd_some h
          refine v_I (ci := 8) (as := [XI v12]) dX9_ballot_73 mlX9_205 mdX9_over mvX9_over rfl hx0 rfl (Nat.le_of_ble_eq_true rfl) (kX9_over hx0 hq17) rfl ?_
          cases h
          exact g_ireturn dX9_ballot_76 rfl ⟨rfl, rfl⟩
      · replace h := ifp b5 h
        refine g_pc (pc' := 32) rfl ?_
        refine g_bip dX9_ballot_32 rfl ?_
        cases h
        exact g_ireturn dX9_ballot_34 rfl ⟨rfl, rfl⟩
    · replace h := ifp b4 h
      refine g_pc (pc' := 20) rfl ?_
      refine g_bip dX9_ballot_20 rfl ?_
      cases h
      exact g_ireturn dX9_ballot_22 rfl ⟨rfl, rfl⟩
set_option maxHeartbeats 8000000 in
set_option maxRecDepth 20000 in
theorem kX9_many {X : XC} {d : Nat} {x0 : Nat} {x1 : Int} {x2 : Int} (hx0 : Sh x0 = (18, 69)) {M : Mem} {q : Int × Mem} (h : fX9_many x0 x1 x2 M = some q) : Ct X mX9_many (d + 2) [XR x0, XI x1, XI x2] M (pI q) := by
  unfold fX9_many at h
  refine ct_go (by decide +kernel) (Nat.le_of_ble_eq_true rfl) (ls := [(0, XR x0), (1, XI x1), (2, XI x2)]) rfl ?_
  refine g_aload_n 0 dX9_many_0 rfl ?_
  refine g_iload_n 1 dX9_many_1 rfl ?_
  obtain ⟨q1, hq1, h⟩ := bnd_some h
  refine v_I (ci := 8) (as := [XI x1]) dX9_many_2 mlX9_208 mdX9_isBallot mvX9_isBallot rfl hx0 rfl (Nat.le_of_ble_eq_true rfl) (kX9_isBallot hx0 hq1) rfl ?_
  refine g_if_ne (tgt := 10) dX9_many_5 (by decide) (fun b2 => ?_) (fun b2 => ?_)
  · replace h := ifn b2 h
    refine g_iload_n 2 dX9_many_10 rfl ?_
    refine g_i2l dX9_many_11 ?_
    refine g_lconst (v := 0) dX9_many_12 rfl (i64l rfl) ?_
    refine g_ldc2 (v := 1000000) dX9_many_13 csX9_200 (by decide +kernel) (i64l rfl) ?_
    obtain ⟨q3, hq3, h⟩ := bnd_some h
    refine s_I (as := [XL x2, XL 0, XL 1000000]) dX9_many_16 mlX9_170 mdX9_in msX9_in rfl (Nat.le_of_ble_eq_true rfl) (kX9_in  hq3) rfl ?_
    refine g_if_ne (tgt := 25) dX9_many_19 (by decide) (fun b4 => ?_) (fun b4 => ?_)
    · replace h := ifn b4 h
      refine g_aload_n 0 dX9_many_25 rfl ?_
      refine g_getR dX9_many_26 flX9_22 (by decide) rfl hx0 ?_
      refine g_iload_n 1 dX9_many_29 rfl ?_
      obtain ⟨c5, h⟩ := chk_some h
      refine g_iald dX9_many_30 (sf_8_5 hx0) c5.1 c5.2 ?_
      refine g_nmI (fun v6 ev6 => ?_)
      replace h := nm_s ev6 h
      refine g_istore_n (ls' := [(3, XI v6), (0, XR x0), (1, XI x1), (2, XI x2)]) dX9_many_31 (by decide) rfl ?_
      refine g_aload_n 1 dX9_many_32 rfl ?_
      refine g_getR dX9_many_33 flX9_22 (by decide) rfl hx0 ?_
      refine g_iload_n 2 dX9_many_36 rfl ?_
      refine g_pc (pc' := 37) rfl ?_
      refine g_iload_n 3 dX9_many_37 rfl ?_
      obtain ⟨c7, h⟩ := chk_some h
      refine g_iast dX9_many_38 (sf_8_5 hx0) c7.1 c7.2 ?_
      refine g_nmM (fun M8 eM8 => ?_)
      replace h := nm_s eM8 h
      refine g_aload_n 1 dX9_many_39 rfl ?_
      refine g_aload_n 1 dX9_many_40 rfl ?_
      refine g_getI dX9_many_41 flX9_174 (by decide) rfl hx0 ?_
      obtain ⟨q9, hq9, h⟩ := bnd_some h
      refine v_I (ci := 8) (as := [XI (M8 x0 1)]) dX9_many_44 mlX9_202 mdX9_firstOver mvX9_firstOver rfl hx0 rfl (Nat.le_of_ble_eq_true rfl) (kX9_firstOver hx0 hq9) rfl ?_
      refine g_nmI (fun v10 ev10 => ?_)
      replace h := nm_s ev10 h
      refine g_istore (ls' := [(4, XI v10), (3, XI v6), (0, XR x0), (1, XI x1), (2, XI x2)]) dX9_many_47 (by decide) rfl ?_
      refine g_iload 0 dX9_many_49 rfl ?_
      refine g_iconst (v := -1) dX9_many_51 rfl (i32l rfl) ?_
      refine g_pc (pc' := 52) rfl ?_
      refine g_icmp_ne (tgt := 57) dX9_many_52 (by decide) (fun b11 => ?_) (fun b11 => ?_)
      · replace h := ifn b11 h
        refine g_aload_n 2 dX9_many_57 rfl ?_
        refine g_getR dX9_many_58 flX9_22 (by decide) rfl hx0 ?_
        refine g_iload_n 3 dX9_many_61 rfl ?_
        refine g_iload_n 1 dX9_many_62 rfl ?_
        obtain ⟨c12, h⟩ := chk_some h
        refine g_iast dX9_many_63 (sf_8_5 hx0) c12.1 c12.2 ?_
        refine g_nmM (fun M13 eM13 => ?_)
        replace h := nm_s eM13 h
        refine g_aload_n 2 dX9_many_64 rfl ?_
        refine g_iload 0 dX9_many_65 rfl ?_
        obtain ⟨q14, hq14, h⟩ := bnd_some h
        refine v_I (ci := 8) (as := [XI v10]) dX9_many_67 mlX9_205 mdX9_over mvX9_over rfl hx0 rfl (Nat.le_of_ble_eq_true rfl) (kX9_over hx0 hq14) rfl ?_
        refine g_pc (pc' := 70) rfl ?_
        cases h
        exact g_ireturn dX9_many_70 rfl ⟨rfl, rfl⟩
      · replace h := ifp b11 h
        refine g_pc (pc' := 55) rfl ?_
        refine g_iload_n 1 dX9_many_55 rfl ?_
        cases h
        exact g_ireturn dX9_many_56 rfl ⟨rfl, rfl⟩
    · replace h := ifp b4 h
      refine g_pc (pc' := 22) rfl ?_
      refine g_bip dX9_many_22 rfl ?_
      cases h
      exact g_ireturn dX9_many_24 rfl ⟨rfl, rfl⟩
  · replace h := ifp b2 h
    refine g_pc (pc' := 8) rfl ?_
    refine g_iconst (v := -1) dX9_many_8 rfl (i32l rfl) ?_
    cases h
    exact g_ireturn dX9_many_9 rfl ⟨rfl, rfl⟩
set_option maxHeartbeats 8000000 in
set_option maxRecDepth 20000 in
theorem kX9_drop {X : XC} {d : Nat} {x0 : Nat} (hx0 : Sh x0 = (18, 69)) {M : Mem} {q : Int × Mem} (h : fX9_drop x0 M = some q) : Ct X mX9_drop d [XR x0] M (pI q) := by
  unfold fX9_drop at h
  refine ct_go (by decide +kernel) (Nat.le_of_ble_eq_true rfl) (ls := [(0, XR x0)]) rfl ?_
  refine g_aload_n 0 dX9_drop_0 rfl ?_
  refine g_getI dX9_drop_1 flX9_174 (by decide) rfl hx0 ?_
  refine g_if_ne (tgt := 10) dX9_drop_4 (by decide) (fun b1 => ?_) (fun b1 => ?_)
  · replace h := ifn b1 h
    refine g_aload_n 0 dX9_drop_10 rfl ?_
    refine g_dupR dX9_drop_11 ?_
    refine g_getI dX9_drop_12 flX9_174 (by decide) rfl hx0 ?_
    refine g_iconst (v := 1) dX9_drop_15 rfl (i32l rfl) ?_
    obtain ⟨c2, h⟩ := chk_some h
    refine g_isub dX9_drop_16 rfl c2 ?_
    refine g_putI dX9_drop_17 flX9_174 (by decide) rfl hx0 ?_
    refine g_nmM (fun M3 eM3 => ?_)
    replace h := nm_s eM3 h
    refine g_aload_n 0 dX9_drop_20 rfl ?_
    refine g_getI dX9_drop_21 flX9_174 (by decide) rfl hx0 ?_
    refine g_pc (pc' := 24) rfl ?_
    cases h
    exact g_ireturn dX9_drop_24 rfl ⟨rfl, rfl⟩
  · replace h := ifp b1 h
    refine g_pc (pc' := 7) rfl ?_
    refine g_bip dX9_drop_7 rfl ?_
    cases h
    exact g_ireturn dX9_drop_9 rfl ⟨rfl, rfl⟩
set_option maxHeartbeats 8000000 in
set_option maxRecDepth 20000 in
theorem kX9_gone {X : XC} {d : Nat} {x0 : Nat} {x1 : Int} {x2 : Int} (hx0 : Sh x0 = (18, 69)) {M : Mem} {q : Int × Mem} (h : fX9_gone x0 x1 x2 M = some q) : Ct X mX9_gone (d + 2) [XR x0, XI x1, XI x2] M (pI q) := by
  unfold fX9_gone at h
  refine ct_go (by decide +kernel) (Nat.le_of_ble_eq_true rfl) (ls := [(0, XR x0), (1, XI x1), (2, XI x2)]) rfl ?_
  refine g_aload_n 0 dX9_gone_0 rfl ?_
  refine g_iload_n 1 dX9_gone_1 rfl ?_
  obtain ⟨q1, hq1, h⟩ := bnd_some h
  refine v_I (ci := 8) (as := [XI x1]) dX9_gone_2 mlX9_211 mdX9_isOne mvX9_isOne rfl hx0 rfl (Nat.le_of_ble_eq_true rfl) (kX9_isOne hx0 hq1) rfl ?_
  refine g_if_ne (tgt := 10) dX9_gone_5 (by decide) (fun b2 => ?_) (fun b2 => ?_)
  · replace h := ifn b2 h
    refine g_aload_n 0 dX9_gone_10 rfl ?_
    refine g_getR dX9_gone_11 flX9_11 (by decide) rfl hx0 ?_
    refine g_iload_n 1 dX9_gone_14 rfl ?_
    obtain ⟨c3, h⟩ := chk_some h
    refine g_zald dX9_gone_15 (sf_8_2 hx0) c3.1 c3.2 ?_
    obtain ⟨t5, ht5, h⟩ := bnd_some h
    have Kt5 : Go X mX9_gone (d + 2) 24 [(0, XR x0), (1, XI x1), (2, XI x2)] [XI t5] q1.2 (pI q) := by
      refine g_istore_n (ls' := [(3, XI t5), (0, XR x0), (1, XI x1), (2, XI x2)]) dX9_gone_24 (by decide) rfl ?_
      refine g_aload_n 1 dX9_gone_25 rfl ?_
      refine g_getR dX9_gone_26 flX9_11 (by decide) rfl hx0 ?_
      refine g_iload_n 2 dX9_gone_29 rfl ?_
      refine g_iload_n 3 dX9_gone_30 rfl ?_
      obtain ⟨c7, h⟩ := chk_some h
      obtain ⟨c8, h⟩ := chk_some h
      refine g_zast dX9_gone_31 (sf_8_2 hx0) c7.1 c7.2 c8 ?_
      refine g_nmM (fun M9 eM9 => ?_)
      replace h := nm_s eM9 h
      refine g_iload_n 0 dX9_gone_32 rfl ?_
      cases h
      exact g_ireturn dX9_gone_33 rfl ⟨rfl, rfl⟩
    refine g_if_eq (tgt := 23) dX9_gone_16 (by decide) (fun b6 => ?_) (fun b6 => ?_)
    · replace ht5 := ifp b6 ht5
      refine g_iconst (v := 0) dX9_gone_23 rfl (i32l rfl) ?_
      cases ht5
      exact g_sub [0, 1, 2] rfl Kt5
    · replace ht5 := ifn b6 ht5
      refine g_pc (pc' := 19) rfl ?_
      refine g_iconst (v := 1) dX9_gone_19 rfl (i32l rfl) ?_
      refine g_goto (tgt := 24) dX9_gone_20 (by decide) ?_
      cases ht5
      exact g_sub [0, 1, 2] rfl Kt5
  · replace h := ifp b2 h
    refine g_pc (pc' := 8) rfl ?_
    refine g_iconst (v := -1) dX9_gone_8 rfl (i32l rfl) ?_
    cases h
    exact g_ireturn dX9_gone_9 rfl ⟨rfl, rfl⟩
end
