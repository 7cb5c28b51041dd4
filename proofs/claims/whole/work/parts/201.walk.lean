section
def fX2_length_l4 (x0 : Int) : Nat → Int → Int → Mem → Option (Int × Int × Mem)
  | 0, _, _, _ => none
  | n + 1, x1, x2, M => (if 8 ≤ x2 then some (x1, x2, M) else Option.bind (fX2_at x0 x2 M) (fun q2 => Option.bind ((if q2.1 < 0 then some (x1) else if -2147483648 ≤ (x1 + 1) ∧ (x1 + 1) ≤ 2147483647 then some ((x1 + 1)) else none) : Option (Int)) (fun t5 => if -2147483648 ≤ (x2 + 1) ∧ (x2 + 1) ≤ 2147483647 then fX2_length_l4 x0 n t5 (x2 + 1) q2.2 else none)))
def fX2_length (x0 : Int) (M : Mem) : Option (Int × Mem) := Option.bind (fX2_length_l4 x0 1000 0 0 M) (fun z9 => some (z9.1, z9.2.2))
set_option maxRecDepth 20000 in
theorem lX2_length_l4 {X : XC} {d : Nat} {Post : Option XV → Mem → Prop} {x0 : Int}  : ∀ (n : Nat) (x1 x2 : Int) (M : Mem) (t0 : Int × Int × Mem), fX2_length_l4 x0 n x1 x2 M = some t0 → Go X mX2_length (d + 1) 29 [(1, XI t0.1)] [] t0.2.2 Post → Go X mX2_length (d + 1) 4 [(0, XI x0), (1, XI x1), (2, XI x2)] [] M Post := by
  intro n
  induction n with
  | zero => intro _ _ _ _ h; cases h
  | succ n ih =>
    intro x1 x2 M t0 h K
    unfold fX2_length_l4 at h
    refine g_iload_n 2 dX2_length_4 rfl ?_
    refine g_gets dX2_length_5 gsX2_8 ?_
    refine g_alenC dX2_length_8 ?_
    refine g_icmp_ge (tgt := 29) dX2_length_9 (by decide) (fun b1 => ?_) (fun b1 => ?_)
    · replace h := ifp b1 h
      cases h
      exact g_sub [1] rfl K
    · replace h := ifn b1 h
      refine g_pc (pc' := 12) rfl ?_
      refine g_iload_n 0 dX2_length_12 rfl ?_
      refine g_iload_n 2 dX2_length_13 rfl ?_
      obtain ⟨q2, hq2, h⟩ := bnd_some h
      refine s_I (as := [XI x0, XI x2]) dX2_length_14 mlX2_14 mdX2_at msX2_at rfl (Nat.le_of_ble_eq_true rfl) (kX2_at  hq2) rfl ?_
      obtain ⟨t5, ht5, h⟩ := bnd_some h
      have Kt5 : Go X mX2_length (d + 1) 23 [(0, XI x0), (1, XI t5), (2, XI x2)] [] q2.2 Post := by
        obtain ⟨c8, h⟩ := chk_some h
        refine g_iinc (ls' := [(2, XI (x2 + 1)), (0, XI x0), (1, XI t5)]) 2 dX2_length_23 rfl rfl c8 (by decide) rfl ?_
        refine g_goto (tgt := 4) dX2_length_26 (by decide) ?_
        exact g_sub [1, 2, 0] rfl (ih _ _ _ _ h K)
      refine g_if_lt (tgt := 23) dX2_length_17 (by decide) (fun b6 => ?_) (fun b6 => ?_)
      · replace ht5 := ifp b6 ht5
        cases ht5
        exact g_sub [0, 1, 2] rfl Kt5
      · replace ht5 := ifn b6 ht5
        refine g_pc (pc' := 20) rfl ?_
        obtain ⟨c7, ht5⟩ := chk_some ht5
        refine g_iinc (ls' := [(1, XI (x1 + 1)), (0, XI x0), (2, XI x2)]) 1 dX2_length_20 rfl rfl c7 (by decide) rfl ?_
        cases ht5
        exact g_sub [1, 0, 2] rfl Kt5
set_option maxRecDepth 20000 in
theorem kX2_length {X : XC} {d : Nat} {x0 : Int}  {M : Mem} {q : Int × Mem} (h : fX2_length x0 M = some q) : Ct X mX2_length (d + 1) [XI x0] M (pI q) := by
  unfold fX2_length at h
  refine ct_go (by decide +kernel) (Nat.le_of_ble_eq_true rfl) (ls := [(0, XI x0)]) rfl ?_
  refine g_iconst (v := 0) dX2_length_0 rfl (i32l rfl) ?_
  refine g_istore_n (ls' := [(1, XI 0), (0, XI x0)]) dX2_length_1 (by decide) rfl ?_
  refine g_iconst (v := 0) dX2_length_2 rfl (i32l rfl) ?_
  refine g_istore_n (ls' := [(2, XI 0), (1, XI 0), (0, XI x0)]) dX2_length_3 (by decide) rfl ?_
  obtain ⟨z9, hz9, h⟩ := bnd_some h
  refine g_sub (ls' := [(0, XI x0), (1, XI 0), (2, XI 0)]) [2, 1, 0] rfl ?_
  refine lX2_length_l4  1000 _ _ _ _ hz9 ?_
  refine g_iload_n 0 dX2_length_29 rfl ?_
  cases h
  exact g_ireturn dX2_length_30 rfl ⟨rfl, rfl⟩
def fX2_ledBy_l6 (x0 : Int) (x1 : Int) : Nat → Int → Int → Mem → Option (Int × Int × Mem)
  | 0, _, _, _ => none
  | n + 1, x2, x3, M => (if 8 ≤ x3 then some (x2, x3, M) else Option.bind (fX2_at x1 x3 M) (fun q4 => nm (q4.1) (fun v5 => Option.bind ((if v5 < 0 then some (x2) else (if v5 = x0 then some (x2) else if -2147483648 ≤ (x2 * 10) ∧ (x2 * 10) ≤ 2147483647 then if -2147483648 ≤ ((x2 * 10) + v5) ∧ ((x2 * 10) + v5) ≤ 2147483647 then if -2147483648 ≤ (((x2 * 10) + v5) + 1) ∧ (((x2 * 10) + v5) + 1) ≤ 2147483647 then nm ((((x2 * 10) + v5) + 1)) (fun v18 => some (v18)) else none else none else none)) : Option (Int)) (fun t12 => if -2147483648 ≤ (x3 + 1) ∧ (x3 + 1) ≤ 2147483647 then fX2_ledBy_l6 x0 x1 n t12 (x3 + 1) q4.2 else none))))
def fX2_ledBy (x0 : Int) (x1 : Int) (M : Mem) : Option (Int × Mem) := if -2147483648 ≤ (x0 + 1) ∧ (x0 + 1) ≤ 2147483647 then nm ((x0 + 1)) (fun v2 => Option.bind (fX2_ledBy_l6 x0 x1 1000 v2 0 M) (fun z20 => Option.bind (fX2_filledUp z20.1 z20.2.2) (fun q21 => some (q21.1, q21.2)))) else none
set_option maxRecDepth 20000 in
theorem lX2_ledBy_l6 {X : XC} {d : Nat} {Post : Option XV → Mem → Prop} {x0 : Int} {x1 : Int}  : ∀ (n : Nat) (x2 x3 : Int) (M : Mem) (t0 : Int × Int × Mem), fX2_ledBy_l6 x0 x1 n x2 x3 M = some t0 → Go X mX2_ledBy (d + 1) 48 [(2, XI t0.1)] [] t0.2.2 Post → Go X mX2_ledBy (d + 1) 6 [(0, XI x0), (1, XI x1), (2, XI x2), (3, XI x3)] [] M Post := by
  intro n
  induction n with
  | zero => intro _ _ _ _ h; cases h
  | succ n ih =>
    intro x2 x3 M t0 h K
    unfold fX2_ledBy_l6 at h
    refine g_iload_n 3 dX2_ledBy_6 rfl ?_
    refine g_gets dX2_ledBy_7 gsX2_8 ?_
    refine g_alenC dX2_ledBy_10 ?_
    refine g_icmp_ge (tgt := 48) dX2_ledBy_11 (by decide) (fun b3 => ?_) (fun b3 => ?_)
    · replace h := ifp b3 h
      cases h
      exact g_sub [2] rfl K
    · replace h := ifn b3 h
      refine g_pc (pc' := 14) rfl ?_
      refine g_iload_n 1 dX2_ledBy_14 rfl ?_
      refine g_iload_n 3 dX2_ledBy_15 rfl ?_
      obtain ⟨q4, hq4, h⟩ := bnd_some h
      refine s_I (as := [XI x1, XI x3]) dX2_ledBy_16 mlX2_14 mdX2_at msX2_at rfl (Nat.le_of_ble_eq_true rfl) (kX2_at  hq4) rfl ?_
      refine g_nmI (fun v5 ev5 => ?_)
      replace h := nm_s ev5 h
      refine g_istore (ls' := [(4, XI v5), (0, XI x0), (1, XI x1), (2, XI x2), (3, XI x3)]) dX2_ledBy_19 (by decide) rfl ?_
      refine g_iload 0 dX2_ledBy_21 rfl ?_
      obtain ⟨t12, ht12, h⟩ := bnd_some h
      have Kt12 : Go X mX2_ledBy (d + 1) 42 [(0, XI x0), (1, XI x1), (2, XI t12), (3, XI x3)] [] q4.2 Post := by
        obtain ⟨c19, h⟩ := chk_some h
        refine g_iinc (ls' := [(3, XI (x3 + 1)), (0, XI x0), (1, XI x1), (2, XI t12)]) 3 dX2_ledBy_42 rfl rfl c19 (by decide) rfl ?_
        refine g_goto (tgt := 6) dX2_ledBy_45 (by decide) ?_
        exact g_sub [1, 2, 3, 0] rfl (ih _ _ _ _ h K)
      refine g_if_lt (tgt := 42) dX2_ledBy_23 (by decide) (fun b13 => ?_) (fun b13 => ?_)
      · replace ht12 := ifp b13 ht12
        cases ht12
        exact g_sub [1, 2, 3, 4] rfl Kt12
      · replace ht12 := ifn b13 ht12
        refine g_pc (pc' := 26) rfl ?_
        refine g_iload 0 dX2_ledBy_26 rfl ?_
        refine g_iload_n 1 dX2_ledBy_28 rfl ?_
        refine g_icmp_eq (tgt := 42) dX2_ledBy_29 (by decide) (fun b14 => ?_) (fun b14 => ?_)
        · replace ht12 := ifp b14 ht12
          cases ht12
          exact g_sub [1, 2, 3, 4] rfl Kt12
        · replace ht12 := ifn b14 ht12
          refine g_pc (pc' := 32) rfl ?_
          refine g_iload_n 3 dX2_ledBy_32 rfl ?_
          refine g_bip dX2_ledBy_33 rfl ?_
          obtain ⟨c15, ht12⟩ := chk_some ht12
          refine g_imul dX2_ledBy_35 rfl c15 ?_
          refine g_iload 0 dX2_ledBy_36 rfl ?_
          obtain ⟨c16, ht12⟩ := chk_some ht12
          refine g_iadd dX2_ledBy_38 rfl c16 ?_
          refine g_iconst (v := 1) dX2_ledBy_39 rfl (i32l rfl) ?_
          obtain ⟨c17, ht12⟩ := chk_some ht12
          refine g_iadd dX2_ledBy_40 rfl c17 ?_
          refine g_nmI (fun v18 ev18 => ?_)
          replace ht12 := nm_s ev18 ht12
          refine g_istore_n (ls' := [(2, XI v18), (4, XI v5), (0, XI x0), (1, XI x1), (3, XI x3)]) dX2_ledBy_41 (by decide) rfl ?_
          refine g_pc (pc' := 42) rfl ?_
          cases ht12
          exact g_sub [2, 3, 0, 4] rfl Kt12
set_option maxRecDepth 20000 in
theorem kX2_ledBy {X : XC} {d : Nat} {x0 : Int} {x1 : Int}  {M : Mem} {q : Int × Mem} (h : fX2_ledBy x0 x1 M = some q) : Ct X mX2_ledBy (d + 1) [XI x0, XI x1] M (pI q) := by
  unfold fX2_ledBy at h
  refine ct_go (by decide +kernel) (Nat.le_of_ble_eq_true rfl) (ls := [(0, XI x0), (1, XI x1)]) rfl ?_
  refine g_iload_n 0 dX2_ledBy_0 rfl ?_
  refine g_iconst (v := 1) dX2_ledBy_1 rfl (i32l rfl) ?_
  obtain ⟨c1, h⟩ := chk_some h
  refine g_iadd dX2_ledBy_2 rfl c1 ?_
  refine g_nmI (fun v2 ev2 => ?_)
  replace h := nm_s ev2 h
  refine g_istore_n (ls' := [(2, XI v2), (0, XI x0), (1, XI x1)]) dX2_ledBy_3 (by decide) rfl ?_
  refine g_iconst (v := 0) dX2_ledBy_4 rfl (i32l rfl) ?_
  refine g_istore_n (ls' := [(3, XI 0), (2, XI v2), (0, XI x0), (1, XI x1)]) dX2_ledBy_5 (by decide) rfl ?_
  obtain ⟨z20, hz20, h⟩ := bnd_some h
  refine g_sub (ls' := [(0, XI x0), (1, XI x1), (2, XI v2), (3, XI 0)]) [2, 3, 1, 0] rfl ?_
  refine lX2_ledBy_l6  1000 _ _ _ _ hz20 ?_
  refine g_iload_n 0 dX2_ledBy_48 rfl ?_
  obtain ⟨q21, hq21, h⟩ := bnd_some h
  refine s_I (as := [XI z20.1]) dX2_ledBy_49 mlX2_20 mdX2_filledUp msX2_filledUp rfl (Nat.le_of_ble_eq_true rfl) (kX2_filledUp  hq21) rfl ?_
  cases h
  exact g_ireturn dX2_ledBy_52 rfl ⟨rfl, rfl⟩
def fX4_stageAt (x0 : Nat) (x1 : Int) (M : Mem) : Option (Option Nat × Mem) := (if x1 < 0 then some (none, M) else (if (M x0 7) ≤ x1 then some (none, M) else (if x1 < 8 then if 0 ≤ x1 ∧ x1 < 8 then some (some ((x0 + 9) + 36 + 16 * Int.toNat x1), M) else none else some (none, M))))
set_option maxRecDepth 20000 in
theorem kX4_stageAt {X : XC} {d : Nat} {x0 : Nat} {x1 : Int} (hx0 : Sh x0 = (13, 14)) {M : Mem} {q : Option Nat × Mem} (h : fX4_stageAt x0 x1 M = some q) : Ct X mX4_stageAt d [XR x0, XI x1] M (pR q) := by
  unfold fX4_stageAt at h
  refine ct_go (by decide +kernel) (Nat.le_of_ble_eq_true rfl) (ls := [(0, XR x0), (1, XI x1)]) rfl ?_
  refine g_iload_n 1 dX4_stageAt_0 rfl ?_
  refine g_if_lt (tgt := 21) dX4_stageAt_1 (by decide) (fun b5 => ?_) (fun b5 => ?_)
  · replace h := ifp b5 h
    refine g_null dX4_stageAt_21 ?_
    refine g_goto (tgt := 31) dX4_stageAt_22 (by decide) ?_
    cases h
    exact g_areturnN dX4_stageAt_31 rfl ⟨rfl, rfl⟩
  · replace h := ifn b5 h
    refine g_pc (pc' := 4) rfl ?_
    refine g_iload_n 1 dX4_stageAt_4 rfl ?_
    refine g_aload_n 0 dX4_stageAt_5 rfl ?_
    refine g_getI dX4_stageAt_6 flX4_35 (by decide) rfl hx0 ?_
    refine g_icmp_ge (tgt := 21) dX4_stageAt_9 (by decide) (fun b9 => ?_) (fun b9 => ?_)
    · replace h := ifp b9 h
      refine g_null dX4_stageAt_21 ?_
      refine g_goto (tgt := 31) dX4_stageAt_22 (by decide) ?_
      cases h
      exact g_areturnN dX4_stageAt_31 rfl ⟨rfl, rfl⟩
    · replace h := ifn b9 h
      refine g_pc (pc' := 12) rfl ?_
      refine g_iload_n 1 dX4_stageAt_12 rfl ?_
      refine g_aload_n 0 dX4_stageAt_13 rfl ?_
      refine g_getR dX4_stageAt_14 flX4_40 (by decide) rfl hx0 ?_
      refine g_alenV 8 dX4_stageAt_17 (sf_3_8 hx0) rfl rfl rfl ?_
      refine g_icmp_lt (tgt := 25) dX4_stageAt_18 (by decide) (fun b12 => ?_) (fun b12 => ?_)
      · replace h := ifp b12 h
        refine g_aload_n 0 dX4_stageAt_25 rfl ?_
        refine g_getR dX4_stageAt_26 flX4_40 (by decide) rfl hx0 ?_
        refine g_iload_n 1 dX4_stageAt_29 rfl ?_
        obtain ⟨c13, h⟩ := chk_some h
        refine g_aald dX4_stageAt_30 (sf_3_8 hx0) (by decide) c13.1 c13.2 ?_
        cases h
        exact g_areturn dX4_stageAt_31 rfl ⟨rfl, rfl⟩
      · replace h := ifn b12 h
        refine g_pc (pc' := 21) rfl ?_
        refine g_null dX4_stageAt_21 ?_
        refine g_goto (tgt := 31) dX4_stageAt_22 (by decide) ?_
        cases h
        exact g_areturnN dX4_stageAt_31 rfl ⟨rfl, rfl⟩
def fX4_begin_l17 (x0 : Nat) : Nat → Int → Mem → Option (Int × Mem)
  | 0, _, _ => none
  | n + 1, x1, M => (if (M (x0 + 10000) 0) ≤ x1 then some (x1, M) else if 0 ≤ x1 ∧ x1 < 8 then Option.bind ((if (M ((x0 + 10000) + 3) (Int.toNat x1)) = 0 then some (1) else some (0)) : Option (Int)) (fun t7 => Option.bind ((if t7 = 0 then some (0) else some (1)) : Option (Int)) (fun t10 => if 0 ≤ x1 ∧ x1 < 8 then nm (wr M (x0 + 3) (Int.toNat x1) t10) (fun M13 => Option.bind ((if t7 = 0 then some (0) else some (1000000)) : Option (Int)) (fun t15 => if 0 ≤ x1 ∧ x1 < 8 then nm (wr M13 (x0 + 10) (Int.toNat x1) t15) (fun M18 => if 0 ≤ x1 ∧ x1 < 8 then nm (wr M18 (x0 + 4) (Int.toNat x1) (-5)) (fun M20 => Option.bind ((if t7 = 0 then some (0) else some (1)) : Option (Int)) (fun t22 => if -2147483648 ≤ ((M20 x0 6) + t22) ∧ ((M20 x0 6) + t22) ≤ 2147483647 then nm (wr M20 x0 6 ((M20 x0 6) + t22)) (fun M25 => if -2147483648 ≤ (x1 + 1) ∧ (x1 + 1) ≤ 2147483647 then fX4_begin_l17 x0 n (x1 + 1) M25 else none) else none)) else none) else none)) else none)) else none)
def fX4_begin (x0 : Nat) (M : Mem) : Option (Int × Mem) := nm (wr M x0 7 0) (fun M1 => nm (wr M1 x0 5 0) (fun M2 => nm (wr M2 x0 6 0) (fun M3 => Option.bind (fX4_begin_l17 x0 1000 0 M3) (fun z27 => some (0, z27.2)))))
set_option maxRecDepth 20000 in
theorem lX4_begin_l17 {X : XC} {d : Nat} {Post : Option XV → Mem → Prop} {x0 : Nat} (hx0 : Sh x0 = (13, 14)) : ∀ (n : Nat) (x1 : Int) (M : Mem) (t0 : Int × Mem), fX4_begin_l17 x0 n x1 M = some t0 → Go X mX4_begin d 110 [] [] t0.2 Post → Go X mX4_begin d 17 [(0, XR x0), (1, XI x1)] [] M Post := by
  intro n
  induction n with
  | zero => intro _ _ _ h; cases h
  | succ n ih =>
    intro x1 M t0 h K
    unfold fX4_begin_l17 at h
    refine g_iload_n 1 dX4_begin_17 rfl ?_
    refine g_aload_n 0 dX4_begin_18 rfl ?_
    refine g_getR dX4_begin_19 flX4_61 (by decide) rfl hx0 ?_
    refine g_getI dX4_begin_22 flX4_92 (by decide) rfl (sf_3_0 hx0) ?_
    refine g_icmp_ge (tgt := 110) dX4_begin_25 (by decide) (fun b4 => ?_) (fun b4 => ?_)
    · replace h := ifp b4 h
      cases h
      exact g_sub [] rfl K
    · replace h := ifn b4 h
      refine g_pc (pc' := 28) rfl ?_
      refine g_aload_n 0 dX4_begin_28 rfl ?_
      refine g_getR dX4_begin_29 flX4_61 (by decide) rfl hx0 ?_
      refine g_getR dX4_begin_32 flX4_95 (by decide) rfl (sf_3_0 hx0) ?_
      refine g_iload_n 1 dX4_begin_35 rfl ?_
      obtain ⟨c5, h⟩ := chk_some h
      refine g_zald dX4_begin_36 (sf_1_2 (sf_3_0 hx0)) c5.1 c5.2 ?_
      obtain ⟨t7, ht7, h⟩ := bnd_some h
      have Kt7 : Go X mX4_begin d 45 [(0, XR x0), (1, XI x1)] [XI t7] M Post := by
        refine g_istore_n (ls' := [(2, XI t7), (0, XR x0), (1, XI x1)]) dX4_begin_45 (by decide) rfl ?_
        refine g_aload_n 1 dX4_begin_46 rfl ?_
        refine g_getR dX4_begin_47 flX4_18 (by decide) rfl hx0 ?_
        refine g_iload_n 2 dX4_begin_50 rfl ?_
        refine g_iload_n 0 dX4_begin_51 rfl ?_
        obtain ⟨t10, ht10, h⟩ := bnd_some h
        have Kt10 : Go X mX4_begin d 60 [(0, XR x0), (1, XI x1), (2, XI t7)] [XI t10, XI x1, XR (x0 + 3)] M Post := by
          obtain ⟨c12, h⟩ := chk_some h
          refine g_iast dX4_begin_60 (sf_3_2 hx0) c12.1 c12.2 ?_
          refine g_nmM (fun M13 eM13 => ?_)
          replace h := nm_s eM13 h
          refine g_aload_n 0 dX4_begin_61 rfl ?_
          refine g_getR dX4_begin_62 flX4_44 (by decide) rfl hx0 ?_
          refine g_iload_n 1 dX4_begin_65 rfl ?_
          refine g_iload_n 2 dX4_begin_66 rfl ?_
          obtain ⟨t15, ht15, h⟩ := bnd_some h
          have Kt15 : Go X mX4_begin d 77 [(0, XR x0), (1, XI x1), (2, XI t7)] [XL t15, XI x1, XR (x0 + 10)] M13 Post := by
            obtain ⟨c17, h⟩ := chk_some h
            refine g_last dX4_begin_77 (sf_3_9 hx0) c17.1 c17.2 ?_
            refine g_nmM (fun M18 eM18 => ?_)
            replace h := nm_s eM18 h
            refine g_aload_n 0 dX4_begin_78 rfl ?_
            refine g_getR dX4_begin_79 flX4_22 (by decide) rfl hx0 ?_
            refine g_iload_n 1 dX4_begin_82 rfl ?_
            refine g_bip dX4_begin_83 rfl ?_
            obtain ⟨c19, h⟩ := chk_some h
            refine g_iast dX4_begin_85 (sf_3_3 hx0) c19.1 c19.2 ?_
            refine g_nmM (fun M20 eM20 => ?_)
            replace h := nm_s eM20 h
            refine g_aload_n 0 dX4_begin_86 rfl ?_
            refine g_dupR dX4_begin_87 ?_
            refine g_pc (pc' := 88) rfl ?_
            refine g_getI dX4_begin_88 flX4_32 (by decide) rfl hx0 ?_
            refine g_iload_n 2 dX4_begin_91 rfl ?_
            obtain ⟨t22, ht22, h⟩ := bnd_some h
            have Kt22 : Go X mX4_begin d 100 [(0, XR x0), (1, XI x1)] [XI t22, XI (M20 x0 6), XR x0] M20 Post := by
              obtain ⟨c24, h⟩ := chk_some h
              refine g_iadd dX4_begin_100 rfl c24 ?_
              refine g_putI dX4_begin_101 flX4_32 (by decide) rfl hx0 ?_
              refine g_nmM (fun M25 eM25 => ?_)
              replace h := nm_s eM25 h
              obtain ⟨c26, h⟩ := chk_some h
              refine g_iinc (ls' := [(1, XI (x1 + 1)), (0, XR x0)]) 1 dX4_begin_104 rfl rfl c26 (by decide) rfl ?_
              refine g_goto (tgt := 17) dX4_begin_107 (by decide) ?_
              exact g_sub [1, 0] rfl (ih _ _ _ h K)
            refine g_if_eq (tgt := 99) dX4_begin_92 (by decide) (fun b23 => ?_) (fun b23 => ?_)
            · replace ht22 := ifp b23 ht22
              refine g_iconst (v := 0) dX4_begin_99 rfl (i32l rfl) ?_
              cases ht22
              exact g_sub [0, 1] rfl Kt22
            · replace ht22 := ifn b23 ht22
              refine g_pc (pc' := 95) rfl ?_
              refine g_iconst (v := 1) dX4_begin_95 rfl (i32l rfl) ?_
              refine g_goto (tgt := 100) dX4_begin_96 (by decide) ?_
              cases ht22
              exact g_sub [0, 1] rfl Kt22
          refine g_if_eq (tgt := 76) dX4_begin_67 (by decide) (fun b16 => ?_) (fun b16 => ?_)
          · replace ht15 := ifp b16 ht15
            refine g_lconst (v := 0) dX4_begin_76 rfl (i64l rfl) ?_
            cases ht15
            exact g_sub [0, 1, 2] rfl Kt15
          · replace ht15 := ifn b16 ht15
            refine g_pc (pc' := 70) rfl ?_
            refine g_ldc2 (v := 1000000) dX4_begin_70 csX4_99 (by decide +kernel) (i64l rfl) ?_
            refine g_goto (tgt := 77) dX4_begin_73 (by decide) ?_
            cases ht15
            exact g_sub [0, 1, 2] rfl Kt15
        refine g_if_eq (tgt := 59) dX4_begin_52 (by decide) (fun b11 => ?_) (fun b11 => ?_)
        · replace ht10 := ifp b11 ht10
          refine g_iconst (v := 0) dX4_begin_59 rfl (i32l rfl) ?_
          cases ht10
          exact g_sub [1, 2, 0] rfl Kt10
        · replace ht10 := ifn b11 ht10
          refine g_pc (pc' := 55) rfl ?_
          refine g_iconst (v := 1) dX4_begin_55 rfl (i32l rfl) ?_
          refine g_goto (tgt := 60) dX4_begin_56 (by decide) ?_
          cases ht10
          exact g_sub [1, 2, 0] rfl Kt10
      refine g_if_ne (tgt := 44) dX4_begin_37 (by decide) (fun b8 => ?_) (fun b8 => ?_)
      · replace ht7 := ifn b8 ht7
        refine g_iconst (v := 0) dX4_begin_44 rfl (i32l rfl) ?_
        cases ht7
        exact g_sub [0, 1] rfl Kt7
      · replace ht7 := ifp b8 ht7
        refine g_pc (pc' := 40) rfl ?_
        refine g_iconst (v := 1) dX4_begin_40 rfl (i32l rfl) ?_
        refine g_goto (tgt := 45) dX4_begin_41 (by decide) ?_
        cases ht7
        exact g_sub [0, 1] rfl Kt7
set_option maxRecDepth 20000 in
theorem kX4_begin {X : XC} {d : Nat} {x0 : Nat} (hx0 : Sh x0 = (13, 14)) {M : Mem} {q : Int × Mem} (h : fX4_begin x0 M = some q) : Ct X mX4_begin d [XR x0] M (pV q) := by
  unfold fX4_begin at h
  refine ct_go (by decide +kernel) (Nat.le_of_ble_eq_true rfl) (ls := [(0, XR x0)]) rfl ?_
  refine g_aload_n 0 dX4_begin_0 rfl ?_
  refine g_iconst (v := 0) dX4_begin_1 rfl (i32l rfl) ?_
  refine g_putI dX4_begin_2 flX4_35 (by decide) rfl hx0 ?_
  refine g_nmM (fun M1 eM1 => ?_)
  replace h := nm_s eM1 h
  refine g_aload_n 0 dX4_begin_5 rfl ?_
  refine g_iconst (v := 0) dX4_begin_6 rfl (i32l rfl) ?_
  refine g_putI dX4_begin_7 flX4_28 (by decide) rfl hx0 ?_
  refine g_nmM (fun M2 eM2 => ?_)
  replace h := nm_s eM2 h
  refine g_aload_n 0 dX4_begin_10 rfl ?_
  refine g_iconst (v := 0) dX4_begin_11 rfl (i32l rfl) ?_
  refine g_pc (pc' := 12) rfl ?_
  refine g_putI dX4_begin_12 flX4_32 (by decide) rfl hx0 ?_
  refine g_nmM (fun M3 eM3 => ?_)
  replace h := nm_s eM3 h
  refine g_iconst (v := 0) dX4_begin_15 rfl (i32l rfl) ?_
  refine g_istore_n (ls' := [(1, XI 0), (0, XR x0)]) dX4_begin_16 (by decide) rfl ?_
  obtain ⟨z27, hz27, h⟩ := bnd_some h
  refine g_sub (ls' := [(0, XR x0), (1, XI 0)]) [1, 0] rfl ?_
  refine lX4_begin_l17 hx0 1000 _ _ _ hz27 ?_
  cases h
  exact g_return dX4_begin_110 rfl ⟨rfl, rfl⟩
def fJ7_fill_d0a16_l6 (x0 : Nat) (x1 : Int) (x4 : Int) : Nat → Int → Mem → Option (Int × Mem)
  | 0, _, _ => none
  | n + 1, x3, M => (if x4 ≤ x3 then some (x3, M) else if 0 ≤ x3 ∧ x3 < 8 then nm (wr M x0 (Int.toNat x3) x1) (fun M3 => if -2147483648 ≤ (x3 + 1) ∧ (x3 + 1) ≤ 2147483647 then fJ7_fill_d0a16_l6 x0 x1 x4 n (x3 + 1) M3 else none) else none)
def fJ7_fill_d0a16 (x0 : Nat) (x1 : Int) (M : Mem) : Option (Int × Mem) := Option.bind (fJ7_fill_d0a16_l6 x0 x1 8 1000 0 M) (fun z5 => some (0, z5.2))
set_option maxRecDepth 20000 in
theorem lJ7_fill_d0a16_l6 {X : XC} {d : Nat} {Post : Option XV → Mem → Prop} {x0 : Nat} {x1 : Int} {x4 : Int} (hx0 : Sh x0 = (2, 8)) : ∀ (n : Nat) (x3 : Int) (M : Mem) (t0 : Int × Mem), fJ7_fill_d0a16_l6 x0 x1 x4 n x3 M = some t0 → Go X mJ7_fill_d0a16 d 22 [] [] t0.2 Post → Go X mJ7_fill_d0a16 d 6 [(0, XR x0), (1, XL x1), (3, XI x3), (4, XI x4)] [] M Post := by
  intro n
  induction n with
  | zero => intro _ _ _ h; cases h
  | succ n ih =>
    intro x3 M t0 h K
    unfold fJ7_fill_d0a16_l6 at h
    refine g_iload_n 2 dJ7_fill_d0a16_6 rfl ?_
    refine g_iload 3 dJ7_fill_d0a16_7 rfl ?_
    refine g_icmp_ge (tgt := 22) dJ7_fill_d0a16_9 (by decide) (fun b1 => ?_) (fun b1 => ?_)
    · replace h := ifp b1 h
      cases h
      exact g_sub [] rfl K
    · replace h := ifn b1 h
      refine g_pc (pc' := 12) rfl ?_
      refine g_aload_n 0 dJ7_fill_d0a16_12 rfl ?_
      refine g_iload_n 2 dJ7_fill_d0a16_13 rfl ?_
      refine g_lload_n 1 dJ7_fill_d0a16_14 rfl ?_
      obtain ⟨c2, h⟩ := chk_some h
      refine g_last dJ7_fill_d0a16_15 hx0 c2.1 c2.2 ?_
      refine g_nmM (fun M3 eM3 => ?_)
      replace h := nm_s eM3 h
      obtain ⟨c4, h⟩ := chk_some h
      refine g_iinc (ls' := [(3, XI (x3 + 1)), (0, XR x0), (1, XL x1), (4, XI x4)]) 2 dJ7_fill_d0a16_16 rfl rfl c4 (by decide) rfl ?_
      refine g_goto (tgt := 6) dJ7_fill_d0a16_19 (by decide) ?_
      exact g_sub [1, 2, 0, 3] rfl (ih _ _ _ h K)
set_option maxRecDepth 20000 in
theorem kJ7_fill_d0a16 {X : XC} {d : Nat} {x0 : Nat} {x1 : Int} (hx0 : Sh x0 = (2, 8)) {M : Mem} {q : Int × Mem} (h : fJ7_fill_d0a16 x0 x1 M = some q) : Ct X mJ7_fill_d0a16 d [XR x0, XL x1] M (pV q) := by
  unfold fJ7_fill_d0a16 at h
  refine ct_go (by decide +kernel) (Nat.le_of_ble_eq_true rfl) (ls := [(0, XR x0), (1, XL x1)]) rfl ?_
  refine g_iconst (v := 0) dJ7_fill_d0a16_0 rfl (i32l rfl) ?_
  refine g_istore_n (ls' := [(3, XI 0), (0, XR x0), (1, XL x1)]) dJ7_fill_d0a16_1 (by decide) rfl ?_
  refine g_aload_n 1 dJ7_fill_d0a16_2 rfl ?_
  refine g_alenV 8 dJ7_fill_d0a16_3 hx0 rfl rfl rfl ?_
  refine g_istore (ls' := [(4, XI 8), (3, XI 0), (0, XR x0), (1, XL x1)]) dJ7_fill_d0a16_4 (by decide) rfl ?_
  obtain ⟨z5, hz5, h⟩ := bnd_some h
  refine g_sub (ls' := [(0, XR x0), (1, XL x1), (3, XI 0), (4, XI 8)]) [2, 3, 1, 0] rfl ?_
  refine lJ7_fill_d0a16_l6 hx0 1000 _ _ _ hz5 ?_
  cases h
  exact g_return dJ7_fill_d0a16_22 rfl ⟨rfl, rfl⟩
def fJ7_fill_d0a16_60_l6 (x0 : Nat) (x1 : Int) (x4 : Int) : Nat → Int → Mem → Option (Int × Mem)
  | 0, _, _ => none
  | n + 1, x3, M => (if x4 ≤ x3 then some (x3, M) else if 0 ≤ x3 ∧ x3 < 60 then nm (wr M x0 (Int.toNat x3) x1) (fun M3 => if -2147483648 ≤ (x3 + 1) ∧ (x3 + 1) ≤ 2147483647 then fJ7_fill_d0a16_60_l6 x0 x1 x4 n (x3 + 1) M3 else none) else none)
def fJ7_fill_d0a16_60 (x0 : Nat) (x1 : Int) (M : Mem) : Option (Int × Mem) := Option.bind (fJ7_fill_d0a16_60_l6 x0 x1 60 1000 0 M) (fun z5 => some (0, z5.2))
set_option maxRecDepth 20000 in
theorem lJ7_fill_d0a16_60_l6 {X : XC} {d : Nat} {Post : Option XV → Mem → Prop} {x0 : Nat} {x1 : Int} {x4 : Int} (hx0 : Sh x0 = (2, 60)) : ∀ (n : Nat) (x3 : Int) (M : Mem) (t0 : Int × Mem), fJ7_fill_d0a16_60_l6 x0 x1 x4 n x3 M = some t0 → Go X mJ7_fill_d0a16 d 22 [] [] t0.2 Post → Go X mJ7_fill_d0a16 d 6 [(0, XR x0), (1, XL x1), (3, XI x3), (4, XI x4)] [] M Post := by
  intro n
  induction n with
  | zero => intro _ _ _ h; cases h
  | succ n ih =>
    intro x3 M t0 h K
    unfold fJ7_fill_d0a16_60_l6 at h
    refine g_iload_n 2 dJ7_fill_d0a16_6 rfl ?_
    refine g_iload 3 dJ7_fill_d0a16_7 rfl ?_
    refine g_icmp_ge (tgt := 22) dJ7_fill_d0a16_9 (by decide) (fun b1 => ?_) (fun b1 => ?_)
    · replace h := ifp b1 h
      cases h
      exact g_sub [] rfl K
    · replace h := ifn b1 h
      refine g_pc (pc' := 12) rfl ?_
      refine g_aload_n 0 dJ7_fill_d0a16_12 rfl ?_
      refine g_iload_n 2 dJ7_fill_d0a16_13 rfl ?_
      refine g_lload_n 1 dJ7_fill_d0a16_14 rfl ?_
      obtain ⟨c2, h⟩ := chk_some h
      refine g_last dJ7_fill_d0a16_15 hx0 c2.1 c2.2 ?_
      refine g_nmM (fun M3 eM3 => ?_)
      replace h := nm_s eM3 h
      obtain ⟨c4, h⟩ := chk_some h
      refine g_iinc (ls' := [(3, XI (x3 + 1)), (0, XR x0), (1, XL x1), (4, XI x4)]) 2 dJ7_fill_d0a16_16 rfl rfl c4 (by decide) rfl ?_
      refine g_goto (tgt := 6) dJ7_fill_d0a16_19 (by decide) ?_
      exact g_sub [1, 2, 0, 3] rfl (ih _ _ _ h K)
set_option maxRecDepth 20000 in
theorem kJ7_fill_d0a16_60 {X : XC} {d : Nat} {x0 : Nat} {x1 : Int} (hx0 : Sh x0 = (2, 60)) {M : Mem} {q : Int × Mem} (h : fJ7_fill_d0a16_60 x0 x1 M = some q) : Ct X mJ7_fill_d0a16 d [XR x0, XL x1] M (pV q) := by
  unfold fJ7_fill_d0a16_60 at h
  refine ct_go (by decide +kernel) (Nat.le_of_ble_eq_true rfl) (ls := [(0, XR x0), (1, XL x1)]) rfl ?_
  refine g_iconst (v := 0) dJ7_fill_d0a16_0 rfl (i32l rfl) ?_
  refine g_istore_n (ls' := [(3, XI 0), (0, XR x0), (1, XL x1)]) dJ7_fill_d0a16_1 (by decide) rfl ?_
  refine g_aload_n 1 dJ7_fill_d0a16_2 rfl ?_
  refine g_alenV 60 dJ7_fill_d0a16_3 hx0 rfl rfl rfl ?_
  refine g_istore (ls' := [(4, XI 60), (3, XI 0), (0, XR x0), (1, XL x1)]) dJ7_fill_d0a16_4 (by decide) rfl ?_
  obtain ⟨z5, hz5, h⟩ := bnd_some h
  refine g_sub (ls' := [(0, XR x0), (1, XL x1), (3, XI 0), (4, XI 60)]) [2, 3, 1, 0] rfl ?_
  refine lJ7_fill_d0a16_60_l6 hx0 1000 _ _ _ hz5 ?_
  cases h
  exact g_return dJ7_fill_d0a16_22 rfl ⟨rfl, rfl⟩
def fX4_passOn_l6 (x0 : Nat) (x1 : Int) : Nat → Int → Int → Mem → Option ((Int × Mem) ⊕ (Int × Int × Mem))
  | 0, _, _, _ => none
  | n + 1, x4, x6, M => (if 8 ≤ x6 then some (.inl (x4, M)) else Option.bind (fX2_at x1 x6 M) (fun q2 => nm (q2.1) (fun v3 => (if v3 < 0 then some (.inl (x4, q2.2)) else (if v3 < 8 then if 0 ≤ v3 ∧ v3 < 8 then if -9223372036854775808 ≤ (x4 * (q2.2 (x0 + 10) (Int.toNat v3))) ∧ (x4 * (q2.2 (x0 + 10) (Int.toNat v3))) ≤ 9223372036854775807 then if 0 ≤ (x4 * (q2.2 (x0 + 10) (Int.toNat v3))) then nm (((x4 * (q2.2 (x0 + 10) (Int.toNat v3))) / 1000000)) (fun v9 => if 0 ≤ v3 ∧ v3 < 8 then if -9223372036854775808 ≤ ((q2.2 (x0 + 11) (Int.toNat v3)) + v9) ∧ ((q2.2 (x0 + 11) (Int.toNat v3)) + v9) ≤ 9223372036854775807 then if 0 ≤ v3 ∧ v3 < 8 then nm (wr q2.2 (x0 + 11) (Int.toNat v3) ((q2.2 (x0 + 11) (Int.toNat v3)) + v9)) (fun M13 => if -9223372036854775808 ≤ (x4 - v9) ∧ (x4 - v9) ≤ 9223372036854775807 then nm ((x4 - v9)) (fun v15 => if -2147483648 ≤ (x6 + 1) ∧ (x6 + 1) ≤ 2147483647 then fX4_passOn_l6 x0 x1 n v15 (x6 + 1) M13 else none) else none) else none else none else none) else none else none else none else some (.inl (x4, q2.2)))))))
def fX4_passOn (x0 : Nat) (x1 : Int) (x2 : Int) (M : Mem) : Option (Int × Mem) := lr (fX4_passOn_l6 x0 x1 1000 x2 0 M) (fun r => r) (fun _ => none)
set_option maxRecDepth 20000 in
theorem lX4_passOn_l6 {X : XC} {d : Nat} {Post : Option XV → Mem → Prop} {x0 : Nat} {x1 : Int} (hx0 : Sh x0 = (13, 14)) : ∀ (n : Nat) (x4 x6 : Int) (M : Mem) (z : (Int × Mem) ⊕ (Int × Int × Mem)), fX4_passOn_l6 x0 x1 n x4 x6 M = some z → (∀ r, z = .inl r → Post (some (XL r.1)) r.2) → Go X mX4_passOn (d + 1) 6 [(0, XR x0), (1, XI x1), (4, XL x4), (6, XI x6)] [] M Post := by
  intro n
  induction n with
  | zero => intro _ _ _ _ h; cases h
  | succ n ih =>
    intro x4 x6 M z h K1
    unfold fX4_passOn_l6 at h
    refine g_iload 3 dX4_passOn_6 rfl ?_
    refine g_bip dX4_passOn_8 rfl ?_
    refine g_icmp_ge (tgt := 77) dX4_passOn_10 (by decide) (fun b1 => ?_) (fun b1 => ?_)
    · replace h := ifp b1 h
      refine g_lload 2 dX4_passOn_77 rfl ?_
      cases h
      exact g_lreturn dX4_passOn_79 rfl (K1 (x4, M) rfl)
    · replace h := ifn b1 h
      refine g_pc (pc' := 13) rfl ?_
      refine g_iload_n 1 dX4_passOn_13 rfl ?_
      refine g_iload 3 dX4_passOn_14 rfl ?_
      obtain ⟨q2, hq2, h⟩ := bnd_some h
      refine s_I (as := [XI x1, XI x6]) dX4_passOn_16 mlX4_163 mdX2_at msX2_at rfl (Nat.le_of_ble_eq_true rfl) (kX2_at  hq2) rfl ?_
      refine g_nmI (fun v3 ev3 => ?_)
      replace h := nm_s ev3 h
      refine g_istore (ls' := [(7, XI v3), (0, XR x0), (1, XI x1), (4, XL x4), (6, XI x6)]) dX4_passOn_19 (by decide) rfl ?_
      refine g_iload 0 dX4_passOn_21 rfl ?_
      refine g_if_lt (tgt := 33) dX4_passOn_23 (by decide) (fun b4 => ?_) (fun b4 => ?_)
      · replace h := ifp b4 h
        refine g_lload 3 dX4_passOn_33 rfl ?_
        cases h
        exact g_lreturn dX4_passOn_35 rfl (K1 (x4, q2.2) rfl)
      · replace h := ifn b4 h
        refine g_pc (pc' := 26) rfl ?_
        refine g_iload 0 dX4_passOn_26 rfl ?_
        refine g_bip dX4_passOn_28 rfl ?_
        refine g_icmp_lt (tgt := 36) dX4_passOn_30 (by decide) (fun b5 => ?_) (fun b5 => ?_)
        · replace h := ifp b5 h
          refine g_lload 3 dX4_passOn_36 rfl ?_
          refine g_aload_n 1 dX4_passOn_38 rfl ?_
          refine g_getR dX4_passOn_39 flX4_44 (by decide) rfl hx0 ?_
          refine g_iload 0 dX4_passOn_42 rfl ?_
          obtain ⟨c6, h⟩ := chk_some h
          refine g_lald dX4_passOn_44 (sf_3_9 hx0) c6.1 c6.2 ?_
          obtain ⟨c7, h⟩ := chk_some h
          refine g_lmul dX4_passOn_45 rfl c7 ?_
          refine g_ldc2 (v := 1000000) dX4_passOn_46 csX4_99 (by decide +kernel) (i64l rfl) ?_
          obtain ⟨c8, h⟩ := chk_some h
          refine g_ldiv dX4_passOn_49 c8 (by decide) rfl ?_
          refine g_pc (pc' := 50) rfl ?_
          refine g_nmL (fun v9 ev9 => ?_)
          replace h := nm_s ev9 h
          refine g_lstore (ls' := [(8, XL v9), (7, XI v3), (0, XR x0), (1, XI x1), (4, XL x4), (6, XI x6)]) dX4_passOn_50 (by decide) rfl ?_
          refine g_aload_n 2 dX4_passOn_52 rfl ?_
          refine g_getR dX4_passOn_53 flX4_48 (by decide) rfl hx0 ?_
          refine g_iload 1 dX4_passOn_56 rfl ?_
          refine g_dup2RI dX4_passOn_58 ?_
          obtain ⟨c10, h⟩ := chk_some h
          refine g_lald dX4_passOn_59 (sf_3_10 hx0) c10.1 c10.2 ?_
          refine g_lload 0 dX4_passOn_60 rfl ?_
          obtain ⟨c11, h⟩ := chk_some h
          refine g_ladd dX4_passOn_62 rfl c11 ?_
          obtain ⟨c12, h⟩ := chk_some h
          refine g_last dX4_passOn_63 (sf_3_10 hx0) c12.1 c12.2 ?_
          refine g_nmM (fun M13 eM13 => ?_)
          replace h := nm_s eM13 h
          refine g_pc (pc' := 64) rfl ?_
          refine g_lload 4 dX4_passOn_64 rfl ?_
          refine g_lload 0 dX4_passOn_66 rfl ?_
          obtain ⟨c14, h⟩ := chk_some h
          refine g_lsub dX4_passOn_68 rfl c14 ?_
          refine g_nmL (fun v15 ev15 => ?_)
          replace h := nm_s ev15 h
          refine g_lstore (ls' := [(4, XL v15), (8, XL v9), (7, XI v3), (0, XR x0), (1, XI x1), (6, XI x6)]) dX4_passOn_69 (by decide) rfl ?_
          obtain ⟨c16, h⟩ := chk_some h
          refine g_iinc (ls' := [(6, XI (x6 + 1)), (4, XL v15), (8, XL v9), (7, XI v3), (0, XR x0), (1, XI x1)]) 5 dX4_passOn_71 rfl rfl c16 (by decide) rfl ?_
          refine g_goto (tgt := 6) dX4_passOn_74 (by decide) ?_
          exact g_sub [4, 5, 1, 0] rfl (ih _ _ _ _ h K1)
        · replace h := ifn b5 h
          refine g_pc (pc' := 33) rfl ?_
          refine g_lload 3 dX4_passOn_33 rfl ?_
          cases h
          exact g_lreturn dX4_passOn_35 rfl (K1 (x4, q2.2) rfl)
set_option maxRecDepth 20000 in
theorem kX4_passOn {X : XC} {d : Nat} {x0 : Nat} {x1 : Int} {x2 : Int} (hx0 : Sh x0 = (13, 14)) {M : Mem} {q : Int × Mem} (h : fX4_passOn x0 x1 x2 M = some q) : Ct X mX4_passOn (d + 1) [XR x0, XI x1, XL x2] M (pJ q) := by
  unfold fX4_passOn at h
  refine ct_go (by decide +kernel) (Nat.le_of_ble_eq_true rfl) (ls := [(0, XR x0), (1, XI x1), (2, XL x2)]) rfl ?_
  refine g_lload_n 2 dX4_passOn_0 rfl ?_
  refine g_lstore (ls' := [(4, XL x2), (0, XR x0), (1, XI x1), (2, XL x2)]) dX4_passOn_1 (by decide) rfl ?_
  refine g_iconst (v := 0) dX4_passOn_3 rfl (i32l rfl) ?_
  refine g_istore (ls' := [(6, XI 0), (4, XL x2), (0, XR x0), (1, XI x1), (2, XL x2)]) dX4_passOn_4 (by decide) rfl ?_
  obtain ⟨z17, hz17, rz17, h⟩ := lr_some h
  refine g_sub (ls' := [(0, XR x0), (1, XI x1), (4, XL x2), (6, XI 0)]) [2, 3, 1, 0] rfl ?_
  refine lX4_passOn_l6 hx0 1000 _ _ _ _ hz17 (fun r e => ?_)
  have rz17 := rz17 r e
  subst rz17
  exact ⟨rfl, rfl⟩
def fX8_cut (x0 : Int) (x2 : Int) (M : Mem) : Option (Int × Mem) := Option.bind ((if x2 ≤ 0 then some (0) else if 0 ≤ x0 ∧ 0 < x2 then some ((x0 / x2)) else none) : Option (Int)) (fun t3 => some (t3, M))
set_option maxRecDepth 20000 in
theorem kX8_cut {X : XC} {d : Nat} {x0 : Int} {x2 : Int}  {M : Mem} {q : Int × Mem} (h : fX8_cut x0 x2 M = some q) : Ct X mX8_cut d [XL x0, XL x2] M (pJ q) := by
  unfold fX8_cut at h
  refine ct_go (by decide +kernel) (Nat.le_of_ble_eq_true rfl) (ls := [(0, XL x0), (2, XL x2)]) rfl ?_
  refine g_lload_n 1 dX8_cut_0 rfl ?_
  refine g_lconst (v := 0) dX8_cut_1 rfl (i64l rfl) ?_
  obtain ⟨t3, ht3, h⟩ := bnd_some h
  have Kt3 : Go X mX8_cut d 13 [] [XL t3] M (pJ q) := by
    cases h
    exact g_lreturn dX8_cut_13 rfl ⟨rfl, rfl⟩
  refine g_lcmp_le (tgt := 12) dX8_cut_2 dX8_cut_3 (by decide) (fun b4 => ?_) (fun b4 => ?_)
  · replace ht3 := ifp b4 ht3
    refine g_lconst (v := 0) dX8_cut_12 rfl (i64l rfl) ?_
    cases ht3
    exact g_sub [] rfl Kt3
  · replace ht3 := ifn b4 ht3
    refine g_pc (pc' := 6) rfl ?_
    refine g_lload_n 0 dX8_cut_6 rfl ?_
    refine g_lload_n 1 dX8_cut_7 rfl ?_
    obtain ⟨c5, ht3⟩ := chk_some ht3
    refine g_ldiv dX8_cut_8 c5.1 c5.2 rfl ?_
    refine g_goto (tgt := 13) dX8_cut_9 (by decide) ?_
    cases ht3
    exact g_sub [] rfl Kt3
def fX4_workOut_l15 (x0 : Nat) : Nat → Int → Mem → Option (Int × Mem)
  | 0, _, _ => none
  | n + 1, x1, M => (if (M (x0 + 20) 0) ≤ x1 then some (x1, M) else if 0 ≤ x1 ∧ x1 < 25 then if 0 ≤ x1 ∧ x1 < 25 then if -9223372036854775808 ≤ ((M ((x0 + 20) + 3) (Int.toNat x1)) * 1000000) ∧ ((M ((x0 + 20) + 3) (Int.toNat x1)) * 1000000) ≤ 9223372036854775807 then Option.bind (fX4_passOn x0 (M ((x0 + 20) + 2) (Int.toNat x1)) ((M ((x0 + 20) + 3) (Int.toNat x1)) * 1000000) M) (fun q7 => if -9223372036854775808 ≤ ((M x0 12) + q7.1) ∧ ((M x0 12) + q7.1) ≤ 9223372036854775807 then nm (wr q7.2 x0 12 ((M x0 12) + q7.1)) (fun M9 => if -2147483648 ≤ (x1 + 1) ∧ (x1 + 1) ≤ 2147483647 then fX4_workOut_l15 x0 n (x1 + 1) M9 else none) else none) else none else none else none)
def fX4_workOut_l75 (x0 : Nat) : Nat → Int → Mem → Option (Int × Mem)
  | 0, _, _ => none
  | n + 1, x1, M => (if (M (x0 + 10000) 0) ≤ x1 then some (x1, M) else if 0 ≤ x1 ∧ x1 < 8 then if -9223372036854775808 ≤ ((M x0 13) + (M (x0 + 11) (Int.toNat x1))) ∧ ((M x0 13) + (M (x0 + 11) (Int.toNat x1))) ≤ 9223372036854775807 then nm (wr M x0 13 ((M x0 13) + (M (x0 + 11) (Int.toNat x1)))) (fun M16 => if -2147483648 ≤ (x1 + 1) ∧ (x1 + 1) ≤ 2147483647 then fX4_workOut_l75 x0 n (x1 + 1) M16 else none) else none else none)
def fX4_workOut (x0 : Nat) (M : Mem) : Option (Int × Mem) := Option.bind (fJ7_fill_d0a16 (x0 + 11) 0 M) (fun q1 => nm (wr q1.2 x0 12 0) (fun M2 => Option.bind (fX4_workOut_l15 x0 1000 0 M2) (fun z11 => nm (wr z11.2 x0 13 0) (fun M12 => Option.bind (fX4_workOut_l75 x0 1000 0 M12) (fun z18 => if -2147483648 ≤ ((z18.2 (x0 + 10000) 6) + 1) ∧ ((z18.2 (x0 + 10000) 6) + 1) ≤ 2147483647 then Option.bind (fX8_cut (z18.2 x0 13) ((z18.2 (x0 + 10000) 6) + 1) z18.2) (fun q20 => if -9223372036854775808 ≤ (q20.1 + 1) ∧ (q20.1 + 1) ≤ 9223372036854775807 then nm (wr q20.2 x0 11 (q20.1 + 1)) (fun M22 => some (0, M22)) else none) else none)))))
set_option maxRecDepth 20000 in
theorem lX4_workOut_l15 {X : XC} {d : Nat} {Post : Option XV → Mem → Prop} {x0 : Nat} (hx0 : Sh x0 = (13, 14)) : ∀ (n : Nat) (x1 : Int) (M : Mem) (t0 : Int × Mem), fX4_workOut_l15 x0 n x1 M = some t0 → Go X mX4_workOut (d + 2) 68 [(0, XR x0)] [] t0.2 Post → Go X mX4_workOut (d + 2) 15 [(0, XR x0), (1, XI x1)] [] M Post := by
  intro n
  induction n with
  | zero => intro _ _ _ h; cases h
  | succ n ih =>
    intro x1 M t0 h K
    unfold fX4_workOut_l15 at h
    refine g_iload_n 1 dX4_workOut_15 rfl ?_
    refine g_aload_n 0 dX4_workOut_16 rfl ?_
    refine g_getR dX4_workOut_17 flX4_12 (by decide) rfl hx0 ?_
    refine g_getI dX4_workOut_20 flX4_147 (by decide) rfl (sf_3_1 hx0) ?_
    refine g_icmp_ge (tgt := 68) dX4_workOut_23 (by decide) (fun b3 => ?_) (fun b3 => ?_)
    · replace h := ifp b3 h
      cases h
      exact g_sub [0] rfl K
    · replace h := ifn b3 h
      refine g_pc (pc' := 26) rfl ?_
      refine g_aload_n 0 dX4_workOut_26 rfl ?_
      refine g_dupR dX4_workOut_27 ?_
      refine g_getJ dX4_workOut_28 flX4_55 (by decide) rfl hx0 ?_
      refine g_aload_n 0 dX4_workOut_31 rfl ?_
      refine g_aload_n 0 dX4_workOut_32 rfl ?_
      refine g_getR dX4_workOut_33 flX4_12 (by decide) rfl hx0 ?_
      refine g_getR dX4_workOut_36 flX4_150 (by decide) rfl (sf_3_1 hx0) ?_
      refine g_iload_n 1 dX4_workOut_39 rfl ?_
      refine g_pc (pc' := 40) rfl ?_
      obtain ⟨c4, h⟩ := chk_some h
      refine g_iald dX4_workOut_40 (sf_0_1 (sf_3_1 hx0)) c4.1 c4.2 ?_
      refine g_aload_n 0 dX4_workOut_41 rfl ?_
      refine g_getR dX4_workOut_42 flX4_12 (by decide) rfl hx0 ?_
      refine g_getR dX4_workOut_45 flX4_153 (by decide) rfl (sf_3_1 hx0) ?_
      refine g_iload_n 1 dX4_workOut_48 rfl ?_
      obtain ⟨c5, h⟩ := chk_some h
      refine g_iald dX4_workOut_49 (sf_0_2 (sf_3_1 hx0)) c5.1 c5.2 ?_
      refine g_i2l dX4_workOut_50 ?_
      refine g_ldc2 (v := 1000000) dX4_workOut_51 csX4_99 (by decide +kernel) (i64l rfl) ?_
      obtain ⟨c6, h⟩ := chk_some h
      refine g_lmul dX4_workOut_54 rfl c6 ?_
      refine g_pc (pc' := 55) rfl ?_
      obtain ⟨q7, hq7, h⟩ := bnd_some h
      refine v_J (ci := 3) (as := [XI (M ((x0 + 20) + 2) (Int.toNat x1)), XL ((M ((x0 + 20) + 3) (Int.toNat x1)) * 1000000)]) dX4_workOut_55 mlX4_156 mdX4_passOn mvX4_passOn rfl hx0 rfl (Nat.le_of_ble_eq_true rfl) (kX4_passOn hx0 hq7) rfl ?_
      obtain ⟨c8, h⟩ := chk_some h
      refine g_ladd dX4_workOut_58 rfl c8 ?_
      refine g_putJ dX4_workOut_59 flX4_55 (by decide) rfl hx0 ?_
      refine g_nmM (fun M9 eM9 => ?_)
      replace h := nm_s eM9 h
      obtain ⟨c10, h⟩ := chk_some h
      refine g_iinc (ls' := [(1, XI (x1 + 1)), (0, XR x0)]) 1 dX4_workOut_62 rfl rfl c10 (by decide) rfl ?_
      refine g_goto (tgt := 15) dX4_workOut_65 (by decide) ?_
      exact g_sub [1, 0] rfl (ih _ _ _ h K)
set_option maxRecDepth 20000 in
theorem lX4_workOut_l75 {X : XC} {d : Nat} {Post : Option XV → Mem → Prop} {x0 : Nat} (hx0 : Sh x0 = (13, 14)) : ∀ (n : Nat) (x1 : Int) (M : Mem) (t0 : Int × Mem), fX4_workOut_l75 x0 n x1 M = some t0 → Go X mX4_workOut (d + 2) 107 [(0, XR x0)] [] t0.2 Post → Go X mX4_workOut (d + 2) 75 [(0, XR x0), (1, XI x1)] [] M Post := by
  intro n
  induction n with
  | zero => intro _ _ _ h; cases h
  | succ n ih =>
    intro x1 M t0 h K
    unfold fX4_workOut_l75 at h
    refine g_iload_n 1 dX4_workOut_75 rfl ?_
    refine g_aload_n 0 dX4_workOut_76 rfl ?_
    refine g_getR dX4_workOut_77 flX4_61 (by decide) rfl hx0 ?_
    refine g_getI dX4_workOut_80 flX4_92 (by decide) rfl (sf_3_0 hx0) ?_
    refine g_icmp_ge (tgt := 107) dX4_workOut_83 (by decide) (fun b13 => ?_) (fun b13 => ?_)
    · replace h := ifp b13 h
      cases h
      exact g_sub [0] rfl K
    · replace h := ifn b13 h
      refine g_pc (pc' := 86) rfl ?_
      refine g_aload_n 0 dX4_workOut_86 rfl ?_
      refine g_dupR dX4_workOut_87 ?_
      refine g_getJ dX4_workOut_88 flX4_58 (by decide) rfl hx0 ?_
      refine g_aload_n 0 dX4_workOut_91 rfl ?_
      refine g_getR dX4_workOut_92 flX4_48 (by decide) rfl hx0 ?_
      refine g_iload_n 1 dX4_workOut_95 rfl ?_
      obtain ⟨c14, h⟩ := chk_some h
      refine g_lald dX4_workOut_96 (sf_3_10 hx0) c14.1 c14.2 ?_
      obtain ⟨c15, h⟩ := chk_some h
      refine g_ladd dX4_workOut_97 rfl c15 ?_
      refine g_pc (pc' := 98) rfl ?_
      refine g_putJ dX4_workOut_98 flX4_58 (by decide) rfl hx0 ?_
      refine g_nmM (fun M16 eM16 => ?_)
      replace h := nm_s eM16 h
      obtain ⟨c17, h⟩ := chk_some h
      refine g_iinc (ls' := [(1, XI (x1 + 1)), (0, XR x0)]) 1 dX4_workOut_101 rfl rfl c17 (by decide) rfl ?_
      refine g_goto (tgt := 75) dX4_workOut_104 (by decide) ?_
      exact g_sub [1, 0] rfl (ih _ _ _ h K)
set_option maxRecDepth 20000 in
theorem kX4_workOut {X : XC} {d : Nat} {x0 : Nat} (hx0 : Sh x0 = (13, 14)) {M : Mem} {q : Int × Mem} (h : fX4_workOut x0 M = some q) : Ct X mX4_workOut (d + 2) [XR x0] M (pV q) := by
  unfold fX4_workOut at h
  refine ct_go (by decide +kernel) (Nat.le_of_ble_eq_true rfl) (ls := [(0, XR x0)]) rfl ?_
  refine g_aload_n 0 dX4_workOut_0 rfl ?_
  refine g_getR dX4_workOut_1 flX4_48 (by decide) rfl hx0 ?_
  refine g_lconst (v := 0) dX4_workOut_4 rfl (i64l rfl) ?_
  obtain ⟨q1, hq1, h⟩ := bnd_some h
  refine s_V (as := [XR (x0 + 11), XL 0]) dX4_workOut_5 mlX4_142 mdJ7_fill_d0a16 msJ7_fill_d0a16 rfl (Nat.le_of_ble_eq_true rfl) (kJ7_fill_d0a16 (sf_3_10 hx0) hq1) rfl ?_
  refine g_aload_n 0 dX4_workOut_8 rfl ?_
  refine g_lconst (v := 0) dX4_workOut_9 rfl (i64l rfl) ?_
  refine g_putJ dX4_workOut_10 flX4_55 (by decide) rfl hx0 ?_
  refine g_nmM (fun M2 eM2 => ?_)
  replace h := nm_s eM2 h
  refine g_iconst (v := 0) dX4_workOut_13 rfl (i32l rfl) ?_
  refine g_pc (pc' := 14) rfl ?_
  refine g_istore_n (ls' := [(1, XI 0), (0, XR x0)]) dX4_workOut_14 (by decide) rfl ?_
  obtain ⟨z11, hz11, h⟩ := bnd_some h
  refine g_sub (ls' := [(0, XR x0), (1, XI 0)]) [1, 0] rfl ?_
  refine lX4_workOut_l15 hx0 1000 _ _ _ hz11 ?_
  refine g_aload_n 0 dX4_workOut_68 rfl ?_
  refine g_lconst (v := 0) dX4_workOut_69 rfl (i64l rfl) ?_
  refine g_putJ dX4_workOut_70 flX4_58 (by decide) rfl hx0 ?_
  refine g_nmM (fun M12 eM12 => ?_)
  replace h := nm_s eM12 h
  refine g_iconst (v := 0) dX4_workOut_73 rfl (i32l rfl) ?_
  refine g_istore_n (ls' := [(1, XI 0), (0, XR x0)]) dX4_workOut_74 (by decide) rfl ?_
  obtain ⟨z18, hz18, h⟩ := bnd_some h
  refine g_sub (ls' := [(0, XR x0), (1, XI 0)]) [1, 0] rfl ?_
  refine lX4_workOut_l75 hx0 1000 _ _ _ hz18 ?_
  refine g_aload_n 0 dX4_workOut_107 rfl ?_
  refine g_aload_n 0 dX4_workOut_108 rfl ?_
  refine g_getJ dX4_workOut_109 flX4_58 (by decide) rfl hx0 ?_
  refine g_aload_n 0 dX4_workOut_112 rfl ?_
  refine g_getR dX4_workOut_113 flX4_61 (by decide) rfl hx0 ?_
  refine g_getI dX4_workOut_116 flX4_73 (by decide) rfl (sf_3_0 hx0) ?_
  refine g_iconst (v := 1) dX4_workOut_119 rfl (i32l rfl) ?_
  obtain ⟨c19, h⟩ := chk_some h
  refine g_iadd dX4_workOut_120 rfl c19 ?_
  refine g_pc (pc' := 121) rfl ?_
  refine g_i2l dX4_workOut_121 ?_
  obtain ⟨q20, hq20, h⟩ := bnd_some h
  refine n_J (as := [XL (z18.2 x0 13), XL ((z18.2 (x0 + 10000) 6) + 1)]) dX4_workOut_122 mlX4_160 mdX8_cut msX8_cut rfl (Nat.le_of_ble_eq_true rfl) (kX8_cut  hq20) rfl ?_
  refine g_lconst (v := 1) dX4_workOut_125 rfl (i64l rfl) ?_
  obtain ⟨c21, h⟩ := chk_some h
  refine g_ladd dX4_workOut_126 rfl c21 ?_
  refine g_putJ dX4_workOut_127 flX4_51 (by decide) rfl hx0 ?_
  refine g_nmM (fun M22 eM22 => ?_)
  replace h := nm_s eM22 h
  cases h
  exact g_return dX4_workOut_130 rfl ⟨rfl, rfl⟩
def fX4_note_l37 (x0 : Nat) (x1 : Nat) : Nat → Int → Mem → Option (Int × Mem)
  | 0, _, _ => none
  | n + 1, x5, M => (if 8 ≤ x5 then some (x5, M) else if 0 ≤ x5 ∧ x5 < 8 then if 0 ≤ x5 ∧ x5 < 8 then nm (wr M (x1 + 8) (Int.toNat x5) (M (x0 + 11) (Int.toNat x5))) (fun M9 => if 0 ≤ x5 ∧ x5 < 8 then if 0 ≤ x5 ∧ x5 < 8 then nm (wr M9 (x1 + 9) (Int.toNat x5) (M9 (x0 + 10) (Int.toNat x5))) (fun M12 => if -2147483648 ≤ (x5 + 1) ∧ (x5 + 1) ≤ 2147483647 then fX4_note_l37 x0 x1 n (x5 + 1) M12 else none) else none else none) else none else none)
def fX4_note (x0 : Nat) (x1 : Nat) (x2 : Int) (x3 : Int) (M : Mem) : Option (Int × Mem) := nm (wr M x1 0 x2) (fun M1 => nm (wr M1 x1 3 (M1 x0 11)) (fun M2 => nm (wr M2 x1 4 (M2 x0 12)) (fun M3 => nm (wr M3 x1 5 x3) (fun M4 => nm (wr M4 x1 6 (M4 x0 13)) (fun M5 => Option.bind (fX4_note_l37 x0 x1 1000 0 M5) (fun z14 => some (0, z14.2)))))))
set_option maxRecDepth 20000 in
theorem lX4_note_l37 {X : XC} {d : Nat} {Post : Option XV → Mem → Prop} {x0 : Nat} {x1 : Nat} (hx0 : Sh x0 = (13, 14)) (hx1 : Sh x1 = (12, 9)) : ∀ (n : Nat) (x5 : Int) (M : Mem) (t0 : Int × Mem), fX4_note_l37 x0 x1 n x5 M = some t0 → Go X mX4_note d 78 [] [] t0.2 Post → Go X mX4_note d 37 [(0, XR x0), (1, XR x1), (5, XI x5)] [] M Post := by
  intro n
  induction n with
  | zero => intro _ _ _ h; cases h
  | succ n ih =>
    intro x5 M t0 h K
    unfold fX4_note_l37 at h
    refine g_iload 2 dX4_note_37 rfl ?_
    refine g_bip dX4_note_39 rfl ?_
    refine g_icmp_ge (tgt := 78) dX4_note_41 (by decide) (fun b6 => ?_) (fun b6 => ?_)
    · replace h := ifp b6 h
      cases h
      exact g_sub [] rfl K
    · replace h := ifn b6 h
      refine g_pc (pc' := 44) rfl ?_
      refine g_aload_n 1 dX4_note_44 rfl ?_
      refine g_getR dX4_note_45 flX4_178 (by decide) rfl hx1 ?_
      refine g_iload 2 dX4_note_48 rfl ?_
      refine g_aload_n 0 dX4_note_50 rfl ?_
      refine g_getR dX4_note_51 flX4_48 (by decide) rfl hx0 ?_
      refine g_iload 2 dX4_note_54 rfl ?_
      obtain ⟨c7, h⟩ := chk_some h
      refine g_lald dX4_note_56 (sf_3_10 hx0) c7.1 c7.2 ?_
      obtain ⟨c8, h⟩ := chk_some h
      refine g_last dX4_note_57 (sf_2_7 hx1) c8.1 c8.2 ?_
      refine g_nmM (fun M9 eM9 => ?_)
      replace h := nm_s eM9 h
      refine g_pc (pc' := 58) rfl ?_
      refine g_aload_n 1 dX4_note_58 rfl ?_
      refine g_getR dX4_note_59 flX4_179 (by decide) rfl hx1 ?_
      refine g_iload 2 dX4_note_62 rfl ?_
      refine g_aload_n 0 dX4_note_64 rfl ?_
      refine g_getR dX4_note_65 flX4_44 (by decide) rfl hx0 ?_
      refine g_iload 2 dX4_note_68 rfl ?_
      obtain ⟨c10, h⟩ := chk_some h
      refine g_lald dX4_note_70 (sf_3_9 hx0) c10.1 c10.2 ?_
      obtain ⟨c11, h⟩ := chk_some h
      refine g_last dX4_note_71 (sf_2_8 hx1) c11.1 c11.2 ?_
      refine g_nmM (fun M12 eM12 => ?_)
      replace h := nm_s eM12 h
      obtain ⟨c13, h⟩ := chk_some h
      refine g_iinc (ls' := [(5, XI (x5 + 1)), (0, XR x0), (1, XR x1)]) 2 dX4_note_72 rfl rfl c13 (by decide) rfl ?_
      refine g_pc (pc' := 75) rfl ?_
      refine g_goto (tgt := 37) dX4_note_75 (by decide) ?_
      exact g_sub [1, 2, 0] rfl (ih _ _ _ h K)
set_option maxRecDepth 20000 in
theorem kX4_note {X : XC} {d : Nat} {x0 : Nat} {x1 : Nat} {x2 : Int} {x3 : Int} (hx0 : Sh x0 = (13, 14)) (hx1 : Sh x1 = (12, 9)) {M : Mem} {q : Int × Mem} (h : fX4_note x0 x1 x2 x3 M = some q) : Ct X mX4_note d [XR x0, XR x1, XI x2, XL x3] M (pV q) := by
  unfold fX4_note at h
  refine ct_go (by decide +kernel) (Nat.le_of_ble_eq_true rfl) (ls := [(0, XR x0), (1, XR x1), (2, XI x2), (3, XL x3)]) rfl ?_
  refine g_aload_n 1 dX4_note_0 rfl ?_
  refine g_iload_n 2 dX4_note_1 rfl ?_
  refine g_putI dX4_note_2 flX4_172 (by decide) rfl hx1 ?_
  refine g_nmM (fun M1 eM1 => ?_)
  replace h := nm_s eM1 h
  refine g_aload_n 1 dX4_note_5 rfl ?_
  refine g_aload_n 0 dX4_note_6 rfl ?_
  refine g_getJ dX4_note_7 flX4_51 (by decide) rfl hx0 ?_
  refine g_putJ dX4_note_10 flX4_173 (by decide) rfl hx1 ?_
  refine g_nmM (fun M2 eM2 => ?_)
  replace h := nm_s eM2 h
  refine g_aload_n 1 dX4_note_13 rfl ?_
  refine g_pc (pc' := 14) rfl ?_
  refine g_aload_n 0 dX4_note_14 rfl ?_
  refine g_getJ dX4_note_15 flX4_55 (by decide) rfl hx0 ?_
  refine g_putJ dX4_note_18 flX4_174 (by decide) rfl hx1 ?_
  refine g_nmM (fun M3 eM3 => ?_)
  replace h := nm_s eM3 h
  refine g_aload_n 1 dX4_note_21 rfl ?_
  refine g_lload_n 3 dX4_note_22 rfl ?_
  refine g_putJ dX4_note_23 flX4_175 (by decide) rfl hx1 ?_
  refine g_nmM (fun M4 eM4 => ?_)
  replace h := nm_s eM4 h
  refine g_aload_n 1 dX4_note_26 rfl ?_
  refine g_aload_n 0 dX4_note_27 rfl ?_
  refine g_getJ dX4_note_28 flX4_58 (by decide) rfl hx0 ?_
  refine g_pc (pc' := 31) rfl ?_
  refine g_putJ dX4_note_31 flX4_177 (by decide) rfl hx1 ?_
  refine g_nmM (fun M5 eM5 => ?_)
  replace h := nm_s eM5 h
  refine g_iconst (v := 0) dX4_note_34 rfl (i32l rfl) ?_
  refine g_istore (ls' := [(5, XI 0), (0, XR x0), (1, XR x1), (2, XI x2), (3, XL x3)]) dX4_note_35 (by decide) rfl ?_
  obtain ⟨z14, hz14, h⟩ := bnd_some h
  refine g_sub (ls' := [(0, XR x0), (1, XR x1), (5, XI 0)]) [1, 2, 0] rfl ?_
  refine lX4_note_l37 hx0 hx1 1000 _ _ _ hz14 ?_
  cases h
  exact g_return dX4_note_78 rfl ⟨rfl, rfl⟩
def fX4_whoIs_l4 (x0 : Nat) (x1 : Int) : Nat → Int → Int → Mem → Option (Int × Int × Mem)
  | 0, _, _, _ => none
  | n + 1, x2, x3, M => (if (M (x0 + 10000) 0) ≤ x3 then some (x2, x3, M) else if 0 ≤ x3 ∧ x3 < 8 then Option.bind ((if (M (x0 + 3) (Int.toNat x3)) = x1 then nm ((bOr x2 (bShl 1 x3))) (fun v7 => some (v7)) else some (x2)) : Option (Int)) (fun t5 => if -2147483648 ≤ (x3 + 1) ∧ (x3 + 1) ≤ 2147483647 then fX4_whoIs_l4 x0 x1 n t5 (x3 + 1) M else none) else none)
def fX4_whoIs (x0 : Nat) (x1 : Int) (M : Mem) : Option (Int × Mem) := Option.bind (fX4_whoIs_l4 x0 x1 1000 0 0 M) (fun z9 => some (z9.1, z9.2.2))
set_option maxRecDepth 20000 in
theorem lX4_whoIs_l4 {X : XC} {d : Nat} {Post : Option XV → Mem → Prop} {x0 : Nat} {x1 : Int} (hx0 : Sh x0 = (13, 14)) : ∀ (n : Nat) (x2 x3 : Int) (M : Mem) (t0 : Int × Int × Mem), fX4_whoIs_l4 x0 x1 n x2 x3 M = some t0 → Go X mX4_whoIs d 37 [(2, XI t0.1)] [] t0.2.2 Post → Go X mX4_whoIs d 4 [(0, XR x0), (1, XI x1), (2, XI x2), (3, XI x3)] [] M Post := by
  intro n
  induction n with
  | zero => intro _ _ _ _ h; cases h
  | succ n ih =>
    intro x2 x3 M t0 h K
    unfold fX4_whoIs_l4 at h
    refine g_iload_n 3 dX4_whoIs_4 rfl ?_
    refine g_aload_n 0 dX4_whoIs_5 rfl ?_
    refine g_getR dX4_whoIs_6 flX4_61 (by decide) rfl hx0 ?_
    refine g_getI dX4_whoIs_9 flX4_92 (by decide) rfl (sf_3_0 hx0) ?_
    refine g_icmp_ge (tgt := 37) dX4_whoIs_12 (by decide) (fun b1 => ?_) (fun b1 => ?_)
    · replace h := ifp b1 h
      cases h
      exact g_sub [2] rfl K
    · replace h := ifn b1 h
      refine g_pc (pc' := 15) rfl ?_
      refine g_aload_n 0 dX4_whoIs_15 rfl ?_
      refine g_getR dX4_whoIs_16 flX4_18 (by decide) rfl hx0 ?_
      refine g_iload_n 3 dX4_whoIs_19 rfl ?_
      obtain ⟨c2, h⟩ := chk_some h
      refine g_iald dX4_whoIs_20 (sf_3_2 hx0) c2.1 c2.2 ?_
      refine g_iload_n 1 dX4_whoIs_21 rfl ?_
      obtain ⟨t5, ht5, h⟩ := bnd_some h
      have Kt5 : Go X mX4_whoIs d 31 [(0, XR x0), (1, XI x1), (2, XI t5), (3, XI x3)] [] M Post := by
        obtain ⟨c8, h⟩ := chk_some h
        refine g_iinc (ls' := [(3, XI (x3 + 1)), (0, XR x0), (1, XI x1), (2, XI t5)]) 3 dX4_whoIs_31 rfl rfl c8 (by decide) rfl ?_
        refine g_goto (tgt := 4) dX4_whoIs_34 (by decide) ?_
        exact g_sub [1, 2, 3, 0] rfl (ih _ _ _ _ h K)
      refine g_icmp_ne (tgt := 31) dX4_whoIs_22 (by decide) (fun b6 => ?_) (fun b6 => ?_)
      · replace ht5 := ifn b6 ht5
        cases ht5
        exact g_sub [0, 1, 2, 3] rfl Kt5
      · replace ht5 := ifp b6 ht5
        refine g_pc (pc' := 25) rfl ?_
        refine g_iload_n 2 dX4_whoIs_25 rfl ?_
        refine g_iconst (v := 1) dX4_whoIs_26 rfl (i32l rfl) ?_
        refine g_iload_n 3 dX4_whoIs_27 rfl ?_
        refine g_ishl dX4_whoIs_28 ?_
        refine g_ior dX4_whoIs_29 ?_
        refine g_nmI (fun v7 ev7 => ?_)
        replace ht5 := nm_s ev7 ht5
        refine g_istore_n (ls' := [(2, XI v7), (0, XR x0), (1, XI x1), (3, XI x3)]) dX4_whoIs_30 (by decide) rfl ?_
        cases ht5
        exact g_sub [1, 2, 0, 3] rfl Kt5
set_option maxRecDepth 20000 in
theorem kX4_whoIs {X : XC} {d : Nat} {x0 : Nat} {x1 : Int} (hx0 : Sh x0 = (13, 14)) {M : Mem} {q : Int × Mem} (h : fX4_whoIs x0 x1 M = some q) : Ct X mX4_whoIs d [XR x0, XI x1] M (pI q) := by
  unfold fX4_whoIs at h
  refine ct_go (by decide +kernel) (Nat.le_of_ble_eq_true rfl) (ls := [(0, XR x0), (1, XI x1)]) rfl ?_
  refine g_iconst (v := 0) dX4_whoIs_0 rfl (i32l rfl) ?_
  refine g_istore_n (ls' := [(2, XI 0), (0, XR x0), (1, XI x1)]) dX4_whoIs_1 (by decide) rfl ?_
  refine g_iconst (v := 0) dX4_whoIs_2 rfl (i32l rfl) ?_
  refine g_istore_n (ls' := [(3, XI 0), (2, XI 0), (0, XR x0), (1, XI x1)]) dX4_whoIs_3 (by decide) rfl ?_
  obtain ⟨z9, hz9, h⟩ := bnd_some h
  refine g_sub (ls' := [(0, XR x0), (1, XI x1), (2, XI 0), (3, XI 0)]) [2, 3, 1, 0] rfl ?_
  refine lX4_whoIs_l4 hx0 1000 _ _ _ _ hz9 ?_
  refine g_iload_n 0 dX4_whoIs_37 rfl ?_
  cases h
  exact g_ireturn dX4_whoIs_38 rfl ⟨rfl, rfl⟩
def fX4_leader_l28 (x0 : Nat) (x1 : Nat) (x3 : Int) (x4 : Int) (x6 : Int) : Nat → Int → Int → Mem → Option (Int × Int × Mem)
  | 0, _, _, _ => none
  | n + 1, x5, x7, M => (if (M (x0 + 10000) 0) ≤ x7 then some (x5, x7, M) else if 0 ≤ x7 ∧ x7 < 8 then nm ((M ((x0 + 10000) + 2) (Int.toNat x7))) (fun v5 => Option.bind ((if (bAnd (bShr x4 v5) 1) = 0 then some (x5) else (if x5 < 0 then some (v5) else if 0 ≤ v5 ∧ v5 < 8 then if 0 ≤ x5 ∧ x5 < 8 then (if (M x1 (Int.toNat v5)) ≤ (M x1 (Int.toNat x5)) then some (x5) else some (v5)) else none else none)) : Option (Int)) (fun t11 => if -2147483648 ≤ (x7 + 1) ∧ (x7 + 1) ≤ 2147483647 then fX4_leader_l28 x0 x1 x3 x4 x6 n t11 (x7 + 1) M else none)) else none)
def fX4_leader_l9 (x0 : Nat) (x1 : Nat) (x3 : Int) : Nat → Int → Int → Int → Mem → Option (Int × Int × Int × Mem)
  | 0, _, _, _, _ => none
  | n + 1, x4, x5, x6, M => (if x3 < x6 then some (x4, x5, x6, M) else (if 8 ≤ x6 then some (x4, x5, x6, M) else Option.bind (fX4_leader_l28 x0 x1 x3 x4 x6 1000 (-1) 0 M) (fun z18 => Option.bind ((if z18.1 < 0 then some (x4) else nm ((bAnd x4 (bXor (bShl 1 z18.1) (-1)))) (fun v23 => some (v23))) : Option (Int)) (fun t21 => if -2147483648 ≤ (x6 + 1) ∧ (x6 + 1) ≤ 2147483647 then fX4_leader_l9 x0 x1 x3 n t21 z18.1 (x6 + 1) z18.2.2 else none))))
def fX4_leader (x0 : Nat) (x1 : Nat) (x2 : Int) (x3 : Int) (M : Mem) : Option (Int × Mem) := Option.bind (fX4_leader_l9 x0 x1 x3 1000 x2 (-1) 0 M) (fun z25 => some (z25.2.1, z25.2.2.2))
set_option maxRecDepth 20000 in
theorem lX4_leader_l28 {X : XC} {d : Nat} {Post : Option XV → Mem → Prop} {x0 : Nat} {x1 : Nat} {x3 : Int} {x4 : Int} {x6 : Int} (hx0 : Sh x0 = (13, 14)) (hx1 : Sh x1 = (2, 8)) : ∀ (n : Nat) (x5 x7 : Int) (M : Mem) (t0 : Int × Int × Mem), fX4_leader_l28 x0 x1 x3 x4 x6 n x5 x7 M = some t0 → Go X mX4_leader d 89 [(0, XR x0), (1, XR x1), (3, XI x3), (4, XI x4), (5, XI t0.1), (6, XI x6)] [] t0.2.2 Post → Go X mX4_leader d 28 [(0, XR x0), (1, XR x1), (3, XI x3), (4, XI x4), (5, XI x5), (6, XI x6), (7, XI x7)] [] M Post := by
  intro n
  induction n with
  | zero => intro _ _ _ _ h; cases h
  | succ n ih =>
    intro x5 x7 M t0 h K
    unfold fX4_leader_l28 at h
    refine g_iload 6 dX4_leader_28 rfl ?_
    refine g_aload_n 0 dX4_leader_30 rfl ?_
    refine g_getR dX4_leader_31 flX4_61 (by decide) rfl hx0 ?_
    refine g_getI dX4_leader_34 flX4_92 (by decide) rfl (sf_3_0 hx0) ?_
    refine g_icmp_ge (tgt := 89) dX4_leader_37 (by decide) (fun b3 => ?_) (fun b3 => ?_)
    · replace h := ifp b3 h
      cases h
      exact g_sub [0, 1, 2, 3, 4, 5] rfl K
    · replace h := ifn b3 h
      refine g_pc (pc' := 40) rfl ?_
      refine g_aload_n 0 dX4_leader_40 rfl ?_
      refine g_getR dX4_leader_41 flX4_61 (by decide) rfl hx0 ?_
      refine g_getR dX4_leader_44 flX4_195 (by decide) rfl (sf_3_0 hx0) ?_
      refine g_iload 6 dX4_leader_47 rfl ?_
      obtain ⟨c4, h⟩ := chk_some h
      refine g_iald dX4_leader_49 (sf_1_1 (sf_3_0 hx0)) c4.1 c4.2 ?_
      refine g_nmI (fun v5 ev5 => ?_)
      replace h := nm_s ev5 h
      refine g_istore (ls' := [(8, XI v5), (0, XR x0), (1, XR x1), (3, XI x3), (4, XI x4), (5, XI x5), (6, XI x6), (7, XI x7)]) dX4_leader_50 (by decide) rfl ?_
      refine g_iload 4 dX4_leader_52 rfl ?_
      refine g_iload 0 dX4_leader_54 rfl ?_
      refine g_pc (pc' := 56) rfl ?_
      refine g_ishr dX4_leader_56 ?_
      refine g_iconst (v := 1) dX4_leader_57 rfl (i32l rfl) ?_
      refine g_iand dX4_leader_58 ?_
      obtain ⟨t11, ht11, h⟩ := bnd_some h
      have Kt11 : Go X mX4_leader d 83 [(0, XR x0), (1, XR x1), (3, XI x3), (4, XI x4), (5, XI t11), (6, XI x6), (7, XI x7)] [] M Post := by
        obtain ⟨c17, h⟩ := chk_some h
        refine g_iinc (ls' := [(7, XI (x7 + 1)), (0, XR x0), (1, XR x1), (3, XI x3), (4, XI x4), (5, XI t11), (6, XI x6)]) 6 dX4_leader_83 rfl rfl c17 (by decide) rfl ?_
        refine g_goto (tgt := 28) dX4_leader_86 (by decide) ?_
        exact g_sub [1, 2, 3, 4, 5, 6, 0] rfl (ih _ _ _ _ h K)
      refine g_if_eq (tgt := 83) dX4_leader_59 (by decide) (fun b12 => ?_) (fun b12 => ?_)
      · replace ht11 := ifp b12 ht11
        cases ht11
        exact g_sub [1, 2, 3, 4, 5, 6, 7] rfl Kt11
      · replace ht11 := ifn b12 ht11
        refine g_pc (pc' := 62) rfl ?_
        refine g_iload 5 dX4_leader_62 rfl ?_
        refine g_if_lt (tgt := 79) dX4_leader_64 (by decide) (fun b13 => ?_) (fun b13 => ?_)
        · replace ht11 := ifp b13 ht11
          refine g_iload 0 dX4_leader_79 rfl ?_
          refine g_istore (ls' := [(5, XI v5), (8, XI v5), (0, XR x0), (1, XR x1), (3, XI x3), (4, XI x4), (6, XI x6), (7, XI x7)]) dX4_leader_81 (by decide) rfl ?_
          cases ht11
          exact g_sub [2, 3, 4, 5, 0, 6, 7] rfl Kt11
        · replace ht11 := ifn b13 ht11
          refine g_pc (pc' := 67) rfl ?_
          refine g_aload_n 2 dX4_leader_67 rfl ?_
          refine g_iload 0 dX4_leader_68 rfl ?_
          obtain ⟨c14, ht11⟩ := chk_some ht11
          refine g_lald dX4_leader_70 hx1 c14.1 c14.2 ?_
          refine g_aload_n 2 dX4_leader_71 rfl ?_
          refine g_iload 5 dX4_leader_72 rfl ?_
          obtain ⟨c15, ht11⟩ := chk_some ht11
          refine g_lald dX4_leader_74 hx1 c15.1 c15.2 ?_
          refine g_lcmp_le (tgt := 83) dX4_leader_75 dX4_leader_76 (by decide) (fun b16 => ?_) (fun b16 => ?_)
          · replace ht11 := ifp b16 ht11
            cases ht11
            exact g_sub [1, 2, 3, 4, 5, 6, 7] rfl Kt11
          · replace ht11 := ifn b16 ht11
            refine g_pc (pc' := 79) rfl ?_
            refine g_iload 0 dX4_leader_79 rfl ?_
            refine g_istore (ls' := [(5, XI v5), (8, XI v5), (0, XR x0), (1, XR x1), (3, XI x3), (4, XI x4), (6, XI x6), (7, XI x7)]) dX4_leader_81 (by decide) rfl ?_
            cases ht11
            exact g_sub [2, 3, 4, 5, 0, 6, 7] rfl Kt11
set_option maxRecDepth 20000 in
theorem lX4_leader_l9 {X : XC} {d : Nat} {Post : Option XV → Mem → Prop} {x0 : Nat} {x1 : Nat} {x3 : Int} (hx0 : Sh x0 = (13, 14)) (hx1 : Sh x1 = (2, 8)) : ∀ (n : Nat) (x4 x5 x6 : Int) (M : Mem) (t0 : Int × Int × Int × Mem), fX4_leader_l9 x0 x1 x3 n x4 x5 x6 M = some t0 → Go X mX4_leader d 111 [(5, XI t0.2.1)] [] t0.2.2.2 Post → Go X mX4_leader d 9 [(0, XR x0), (1, XR x1), (3, XI x3), (4, XI x4), (5, XI x5), (6, XI x6)] [] M Post := by
  intro n
  induction n with
  | zero => intro _ _ _ _ _ h; cases h
  | succ n ih =>
    intro x4 x5 x6 M t0 h K
    unfold fX4_leader_l9 at h
    refine g_iload 5 dX4_leader_9 rfl ?_
    refine g_iload_n 2 dX4_leader_11 rfl ?_
    refine g_icmp_gt (tgt := 111) dX4_leader_12 (by decide) (fun b1 => ?_) (fun b1 => ?_)
    · replace h := ifp b1 h
      cases h
      exact g_sub [4] rfl K
    · replace h := ifn b1 h
      refine g_pc (pc' := 15) rfl ?_
      refine g_iload 5 dX4_leader_15 rfl ?_
      refine g_bip dX4_leader_17 rfl ?_
      refine g_icmp_ge (tgt := 111) dX4_leader_19 (by decide) (fun b2 => ?_) (fun b2 => ?_)
      · replace h := ifp b2 h
        cases h
        exact g_sub [4] rfl K
      · replace h := ifn b2 h
        refine g_pc (pc' := 22) rfl ?_
        refine g_iconst (v := -1) dX4_leader_22 rfl (i32l rfl) ?_
        refine g_istore (ls' := [(5, XI (-1)), (0, XR x0), (1, XR x1), (3, XI x3), (4, XI x4), (6, XI x6)]) dX4_leader_23 (by decide) rfl ?_
        refine g_iconst (v := 0) dX4_leader_25 rfl (i32l rfl) ?_
        refine g_istore (ls' := [(7, XI 0), (5, XI (-1)), (0, XR x0), (1, XR x1), (3, XI x3), (4, XI x4), (6, XI x6)]) dX4_leader_26 (by decide) rfl ?_
        obtain ⟨z18, hz18, h⟩ := bnd_some h
        refine g_sub (ls' := [(0, XR x0), (1, XR x1), (3, XI x3), (4, XI x4), (5, XI (-1)), (6, XI x6), (7, XI 0)]) [2, 3, 4, 5, 1, 6, 0] rfl ?_
        refine lX4_leader_l28 hx0 hx1 1000 _ _ _ _ hz18 ?_
        refine g_iload 4 dX4_leader_89 rfl ?_
        obtain ⟨t21, ht21, h⟩ := bnd_some h
        have Kt21 : Go X mX4_leader d 105 [(0, XR x0), (1, XR x1), (3, XI x3), (4, XI t21), (5, XI z18.1), (6, XI x6)] [] z18.2.2 Post := by
          obtain ⟨c24, h⟩ := chk_some h
          refine g_iinc (ls' := [(6, XI (x6 + 1)), (0, XR x0), (1, XR x1), (3, XI x3), (4, XI t21), (5, XI z18.1)]) 5 dX4_leader_105 rfl rfl c24 (by decide) rfl ?_
          refine g_goto (tgt := 9) dX4_leader_108 (by decide) ?_
          exact g_sub [1, 2, 3, 4, 5, 0] rfl (ih _ _ _ _ _ h K)
        refine g_if_lt (tgt := 105) dX4_leader_91 (by decide) (fun b22 => ?_) (fun b22 => ?_)
        · replace ht21 := ifp b22 ht21
          cases ht21
          exact g_sub [0, 1, 2, 3, 4, 5] rfl Kt21
        · replace ht21 := ifn b22 ht21
          refine g_pc (pc' := 94) rfl ?_
          refine g_iload 3 dX4_leader_94 rfl ?_
          refine g_iconst (v := 1) dX4_leader_96 rfl (i32l rfl) ?_
          refine g_iload 4 dX4_leader_97 rfl ?_
          refine g_ishl dX4_leader_99 ?_
          refine g_iconst (v := -1) dX4_leader_100 rfl (i32l rfl) ?_
          refine g_ixor dX4_leader_101 ?_
          refine g_iand dX4_leader_102 ?_
          refine g_nmI (fun v23 ev23 => ?_)
          replace ht21 := nm_s ev23 ht21
          refine g_istore (ls' := [(4, XI v23), (0, XR x0), (1, XR x1), (3, XI x3), (5, XI z18.1), (6, XI x6)]) dX4_leader_103 (by decide) rfl ?_
          refine g_pc (pc' := 105) rfl ?_
          cases ht21
          exact g_sub [1, 2, 3, 0, 4, 5] rfl Kt21
set_option maxRecDepth 20000 in
theorem kX4_leader {X : XC} {d : Nat} {x0 : Nat} {x1 : Nat} {x2 : Int} {x3 : Int} (hx0 : Sh x0 = (13, 14)) (hx1 : Sh x1 = (2, 8)) {M : Mem} {q : Int × Mem} (h : fX4_leader x0 x1 x2 x3 M = some q) : Ct X mX4_leader d [XR x0, XR x1, XI x2, XI x3] M (pI q) := by
  unfold fX4_leader at h
  refine ct_go (by decide +kernel) (Nat.le_of_ble_eq_true rfl) (ls := [(0, XR x0), (1, XR x1), (2, XI x2), (3, XI x3)]) rfl ?_
  refine g_iload_n 2 dX4_leader_0 rfl ?_
  refine g_istore (ls' := [(4, XI x2), (0, XR x0), (1, XR x1), (2, XI x2), (3, XI x3)]) dX4_leader_1 (by decide) rfl ?_
  refine g_iconst (v := -1) dX4_leader_3 rfl (i32l rfl) ?_
  refine g_istore (ls' := [(5, XI (-1)), (4, XI x2), (0, XR x0), (1, XR x1), (2, XI x2), (3, XI x3)]) dX4_leader_4 (by decide) rfl ?_
  refine g_iconst (v := 0) dX4_leader_6 rfl (i32l rfl) ?_
  refine g_istore (ls' := [(6, XI 0), (5, XI (-1)), (4, XI x2), (0, XR x0), (1, XR x1), (2, XI x2), (3, XI x3)]) dX4_leader_7 (by decide) rfl ?_
  obtain ⟨z25, hz25, h⟩ := bnd_some h
  refine g_sub (ls' := [(0, XR x0), (1, XR x1), (3, XI x3), (4, XI x2), (5, XI (-1)), (6, XI 0)]) [3, 4, 6, 2, 1, 0] rfl ?_
  refine lX4_leader_l9 hx0 hx1 1000 _ _ _ _ _ hz25 ?_
  refine g_iload 0 dX4_leader_111 rfl ?_
  cases h
  exact g_ireturn dX4_leader_113 rfl ⟨rfl, rfl⟩
def fX4_elect_l13 (x0 : Nat) (x1 : Nat) (x2 : Int) : Nat → Int → Mem → Option ((Int × Mem) ⊕ (Int × Mem))
  | 0, _, _ => none
  | n + 1, x3, M => (if x3 ≤ 0 then some (.inl (0, M)) else Option.bind (fX4_leader x0 (x1 + 8) (bAnd x2 (bXor (M x1 2) (-1))) 0 M) (fun q4 => nm (q4.1) (fun v5 => (if v5 < 0 then some (.inl (0, q4.2)) else (if (q4.2 x0 5) < 8 then nm (wr q4.2 x1 2 (bOr (q4.2 x1 2) (bShl 1 v5))) (fun M8 => if 0 ≤ (M8 x0 5) ∧ (M8 x0 5) < 8 then nm (wr M8 (x0 + 5) (Int.toNat (M8 x0 5)) v5) (fun M10 => if -2147483648 ≤ ((M10 x0 5) + 1) ∧ ((M10 x0 5) + 1) ≤ 2147483647 then nm (wr M10 x0 5 ((M10 x0 5) + 1)) (fun M12 => if -2147483648 ≤ ((M12 x0 6) - 1) ∧ ((M12 x0 6) - 1) ≤ 2147483647 then nm (wr M12 x0 6 ((M12 x0 6) - 1)) (fun M14 => if 0 ≤ v5 ∧ v5 < 8 then nm (wr M14 (x0 + 3) (Int.toNat v5) 2) (fun M16 => if -2147483648 ≤ ((M16 x0 7) - 1) ∧ ((M16 x0 7) - 1) ≤ 2147483647 then if 0 ≤ v5 ∧ v5 < 8 then nm (wr M16 (x0 + 4) (Int.toNat v5) ((M16 x0 7) - 1)) (fun M19 => if -2147483648 ≤ (x3 + (-1)) ∧ (x3 + (-1)) ≤ 2147483647 then fX4_elect_l13 x0 x1 x2 n (x3 + (-1)) M19 else none) else none else none) else none) else none) else none) else none) else some (.inl (0, q4.2)))))))
def fX4_elect (x0 : Nat) (x1 : Nat) (x2 : Int) (M : Mem) : Option (Int × Mem) := if -2147483648 ≤ ((M (x0 + 10000) 6) - (M x0 5)) ∧ ((M (x0 + 10000) 6) - (M x0 5)) ≤ 2147483647 then nm (((M (x0 + 10000) 6) - (M x0 5))) (fun v2 => lr (fX4_elect_l13 x0 x1 x2 1000 v2 M) (fun r => r) (fun _ => none)) else none
set_option maxRecDepth 20000 in
theorem lX4_elect_l13 {X : XC} {d : Nat} {Post : Option XV → Mem → Prop} {x0 : Nat} {x1 : Nat} {x2 : Int} (hx0 : Sh x0 = (13, 14)) (hx1 : Sh x1 = (12, 9)) : ∀ (n : Nat) (x3 : Int) (M : Mem) (z : (Int × Mem) ⊕ (Int × Mem)), fX4_elect_l13 x0 x1 x2 n x3 M = some z → (∀ r, z = .inl r → Post none r.2) → Go X mX4_elect (d + 1) 13 [(0, XR x0), (1, XR x1), (2, XI x2), (3, XI x3)] [] M Post := by
  intro n
  induction n with
  | zero => intro _ _ _ h; cases h
  | succ n ih =>
    intro x3 M z h K1
    unfold fX4_elect_l13 at h
    refine g_iload_n 3 dX4_elect_13 rfl ?_
    refine g_if_le (tgt := 125) dX4_elect_14 (by decide) (fun b3 => ?_) (fun b3 => ?_)
    · replace h := ifp b3 h
      cases h
      exact g_return dX4_elect_125 rfl (K1 (0, M) rfl)
    · replace h := ifn b3 h
      refine g_pc (pc' := 17) rfl ?_
      refine g_aload_n 0 dX4_elect_17 rfl ?_
      refine g_aload_n 1 dX4_elect_18 rfl ?_
      refine g_getR dX4_elect_19 flX4_178 (by decide) rfl hx1 ?_
      refine g_iload_n 2 dX4_elect_22 rfl ?_
      refine g_aload_n 1 dX4_elect_23 rfl ?_
      refine g_getI dX4_elect_24 flX4_78 (by decide) rfl hx1 ?_
      refine g_iconst (v := -1) dX4_elect_27 rfl (i32l rfl) ?_
      refine g_ixor dX4_elect_28 ?_
      refine g_pc (pc' := 29) rfl ?_
      refine g_iand dX4_elect_29 ?_
      refine g_iconst (v := 0) dX4_elect_30 rfl (i32l rfl) ?_
      obtain ⟨q4, hq4, h⟩ := bnd_some h
      refine v_I (ci := 3) (as := [XR (x1 + 8), XI (bAnd x2 (bXor (M x1 2) (-1))), XI 0]) dX4_elect_31 mlX4_180 mdX4_leader mvX4_leader rfl hx0 rfl (Nat.le_of_ble_eq_true rfl) (kX4_leader hx0 (sf_2_7 hx1) hq4) rfl ?_
      refine g_nmI (fun v5 ev5 => ?_)
      replace h := nm_s ev5 h
      refine g_istore (ls' := [(4, XI v5), (0, XR x0), (1, XR x1), (2, XI x2), (3, XI x3)]) dX4_elect_34 (by decide) rfl ?_
      refine g_iload 0 dX4_elect_36 rfl ?_
      refine g_if_lt (tgt := 53) dX4_elect_38 (by decide) (fun b6 => ?_) (fun b6 => ?_)
      · replace h := ifp b6 h
        cases h
        exact g_return dX4_elect_53 rfl (K1 (0, q4.2) rfl)
      · replace h := ifn b6 h
        refine g_pc (pc' := 41) rfl ?_
        refine g_aload_n 1 dX4_elect_41 rfl ?_
        refine g_getI dX4_elect_42 flX4_28 (by decide) rfl hx0 ?_
        refine g_aload_n 1 dX4_elect_45 rfl ?_
        refine g_getR dX4_elect_46 flX4_25 (by decide) rfl hx0 ?_
        refine g_alenV 8 dX4_elect_49 (sf_3_4 hx0) rfl rfl rfl ?_
        refine g_icmp_lt (tgt := 54) dX4_elect_50 (by decide) (fun b7 => ?_) (fun b7 => ?_)
        · replace h := ifp b7 h
          refine g_aload_n 2 dX4_elect_54 rfl ?_
          refine g_dupR dX4_elect_55 ?_
          refine g_getI dX4_elect_56 flX4_78 (by decide) rfl hx1 ?_
          refine g_iconst (v := 1) dX4_elect_59 rfl (i32l rfl) ?_
          refine g_iload 0 dX4_elect_60 rfl ?_
          refine g_ishl dX4_elect_62 ?_
          refine g_ior dX4_elect_63 ?_
          refine g_putI dX4_elect_64 flX4_78 (by decide) rfl hx1 ?_
          refine g_nmM (fun M8 eM8 => ?_)
          replace h := nm_s eM8 h
          refine g_pc (pc' := 67) rfl ?_
          refine g_aload_n 1 dX4_elect_67 rfl ?_
          refine g_getR dX4_elect_68 flX4_25 (by decide) rfl hx0 ?_
          refine g_aload_n 1 dX4_elect_71 rfl ?_
          refine g_getI dX4_elect_72 flX4_28 (by decide) rfl hx0 ?_
          refine g_iload 0 dX4_elect_75 rfl ?_
          obtain ⟨c9, h⟩ := chk_some h
          refine g_iast dX4_elect_77 (sf_3_4 hx0) c9.1 c9.2 ?_
          refine g_nmM (fun M10 eM10 => ?_)
          replace h := nm_s eM10 h
          refine g_aload_n 1 dX4_elect_78 rfl ?_
          refine g_dupR dX4_elect_79 ?_
          refine g_getI dX4_elect_80 flX4_28 (by decide) rfl hx0 ?_
          refine g_pc (pc' := 83) rfl ?_
          refine g_iconst (v := 1) dX4_elect_83 rfl (i32l rfl) ?_
          obtain ⟨c11, h⟩ := chk_some h
          refine g_iadd dX4_elect_84 rfl c11 ?_
          refine g_putI dX4_elect_85 flX4_28 (by decide) rfl hx0 ?_
          refine g_nmM (fun M12 eM12 => ?_)
          replace h := nm_s eM12 h
          refine g_aload_n 1 dX4_elect_88 rfl ?_
          refine g_dupR dX4_elect_89 ?_
          refine g_getI dX4_elect_90 flX4_32 (by decide) rfl hx0 ?_
          refine g_iconst (v := 1) dX4_elect_93 rfl (i32l rfl) ?_
          obtain ⟨c13, h⟩ := chk_some h
          refine g_isub dX4_elect_94 rfl c13 ?_
          refine g_putI dX4_elect_95 flX4_32 (by decide) rfl hx0 ?_
          refine g_nmM (fun M14 eM14 => ?_)
          replace h := nm_s eM14 h
          refine g_pc (pc' := 98) rfl ?_
          refine g_aload_n 1 dX4_elect_98 rfl ?_
          refine g_getR dX4_elect_99 flX4_18 (by decide) rfl hx0 ?_
          refine g_iload 0 dX4_elect_102 rfl ?_
          refine g_iconst (v := 2) dX4_elect_104 rfl (i32l rfl) ?_
          obtain ⟨c15, h⟩ := chk_some h
          refine g_iast dX4_elect_105 (sf_3_2 hx0) c15.1 c15.2 ?_
          refine g_nmM (fun M16 eM16 => ?_)
          replace h := nm_s eM16 h
          refine g_aload_n 1 dX4_elect_106 rfl ?_
          refine g_getR dX4_elect_107 flX4_22 (by decide) rfl hx0 ?_
          refine g_iload 0 dX4_elect_110 rfl ?_
          refine g_aload_n 1 dX4_elect_112 rfl ?_
          refine g_pc (pc' := 113) rfl ?_
          refine g_getI dX4_elect_113 flX4_35 (by decide) rfl hx0 ?_
          refine g_iconst (v := 1) dX4_elect_116 rfl (i32l rfl) ?_
          obtain ⟨c17, h⟩ := chk_some h
          refine g_isub dX4_elect_117 rfl c17 ?_
          obtain ⟨c18, h⟩ := chk_some h
          refine g_iast dX4_elect_118 (sf_3_3 hx0) c18.1 c18.2 ?_
          refine g_nmM (fun M19 eM19 => ?_)
          replace h := nm_s eM19 h
          obtain ⟨c20, h⟩ := chk_some h
          refine g_iinc (ls' := [(3, XI (x3 + (-1))), (4, XI v5), (0, XR x0), (1, XR x1), (2, XI x2)]) 4 dX4_elect_119 rfl rfl c20 (by decide) rfl ?_
          refine g_goto (tgt := 13) dX4_elect_122 (by decide) ?_
          exact g_sub [2, 3, 4, 0] rfl (ih _ _ _ h K1)
        · replace h := ifn b7 h
          refine g_pc (pc' := 53) rfl ?_
          cases h
          exact g_return dX4_elect_53 rfl (K1 (0, q4.2) rfl)
set_option maxRecDepth 20000 in
theorem kX4_elect {X : XC} {d : Nat} {x0 : Nat} {x1 : Nat} {x2 : Int} (hx0 : Sh x0 = (13, 14)) (hx1 : Sh x1 = (12, 9)) {M : Mem} {q : Int × Mem} (h : fX4_elect x0 x1 x2 M = some q) : Ct X mX4_elect (d + 1) [XR x0, XR x1, XI x2] M (pV q) := by
  unfold fX4_elect at h
  refine ct_go (by decide +kernel) (Nat.le_of_ble_eq_true rfl) (ls := [(0, XR x0), (1, XR x1), (2, XI x2)]) rfl ?_
  refine g_aload_n 0 dX4_elect_0 rfl ?_
  refine g_getR dX4_elect_1 flX4_61 (by decide) rfl hx0 ?_
  refine g_getI dX4_elect_4 flX4_73 (by decide) rfl (sf_3_0 hx0) ?_
  refine g_aload_n 0 dX4_elect_7 rfl ?_
  refine g_getI dX4_elect_8 flX4_28 (by decide) rfl hx0 ?_
  obtain ⟨c1, h⟩ := chk_some h
  refine g_isub dX4_elect_11 rfl c1 ?_
  refine g_nmI (fun v2 ev2 => ?_)
  replace h := nm_s ev2 h
  refine g_istore_n (ls' := [(3, XI v2), (0, XR x0), (1, XR x1), (2, XI x2)]) dX4_elect_12 (by decide) rfl ?_
  obtain ⟨z21, hz21, rz21, h⟩ := lr_some h
  refine g_sub (ls' := [(0, XR x0), (1, XR x1), (2, XI x2), (3, XI v2)]) [1, 2, 3, 0] rfl ?_
  refine lX4_elect_l13 hx0 hx1 1000 _ _ _ hz21 (fun r e => ?_)
  have rz21 := rz21 r e
  subst rz21
  exact ⟨rfl, rfl⟩
def fX4_fill (x0 : Nat) (x1 : Nat) (M : Mem) : Option (Int × Mem) := Option.bind (fX4_workOut x0 M) (fun q1 => Option.bind (fX4_note x0 x1 0 0 q1.2) (fun q2 => Option.bind (fX4_whoIs x0 1 q2.2) (fun q3 => Option.bind (fX4_elect x0 x1 q3.1 q3.2) (fun q4 => some (0, q4.2)))))
set_option maxRecDepth 20000 in
theorem kX4_fill {X : XC} {d : Nat} {x0 : Nat} {x1 : Nat} (hx0 : Sh x0 = (13, 14)) (hx1 : Sh x1 = (12, 9)) {M : Mem} {q : Int × Mem} (h : fX4_fill x0 x1 M = some q) : Ct X mX4_fill (d + 3) [XR x0, XR x1] M (pV q) := by
  unfold fX4_fill at h
  refine ct_go (by decide +kernel) (Nat.le_of_ble_eq_true rfl) (ls := [(0, XR x0), (1, XR x1)]) rfl ?_
  refine g_aload_n 0 dX4_fill_0 rfl ?_
  obtain ⟨q1, hq1, h⟩ := bnd_some h
  refine v_V (ci := 3) (as := []) dX4_fill_1 mlX4_101 mdX4_workOut mvX4_workOut rfl hx0 rfl (Nat.le_of_ble_eq_true rfl) (kX4_workOut hx0 hq1) rfl ?_
  refine g_aload_n 0 dX4_fill_4 rfl ?_
  refine g_aload_n 1 dX4_fill_5 rfl ?_
  refine g_iconst (v := 0) dX4_fill_6 rfl (i32l rfl) ?_
  refine g_lconst (v := 0) dX4_fill_7 rfl (i64l rfl) ?_
  obtain ⟨q2, hq2, h⟩ := bnd_some h
  refine v_V (ci := 3) (as := [XR x1, XI 0, XL 0]) dX4_fill_8 mlX4_104 mdX4_note mvX4_note rfl hx0 rfl (Nat.le_of_ble_eq_true rfl) (kX4_note hx0 hx1 hq2) rfl ?_
  refine g_aload_n 0 dX4_fill_11 rfl ?_
  refine g_pc (pc' := 12) rfl ?_
  refine g_aload_n 1 dX4_fill_12 rfl ?_
  refine g_aload_n 0 dX4_fill_13 rfl ?_
  refine g_iconst (v := 1) dX4_fill_14 rfl (i32l rfl) ?_
  obtain ⟨q3, hq3, h⟩ := bnd_some h
  refine v_I (ci := 3) (as := [XI 1]) dX4_fill_15 mlX4_108 mdX4_whoIs mvX4_whoIs rfl hx0 rfl (Nat.le_of_ble_eq_true rfl) (kX4_whoIs hx0 hq3) rfl ?_
  obtain ⟨q4, hq4, h⟩ := bnd_some h
  refine v_V (ci := 3) (as := [XR x1, XI q3.1]) dX4_fill_18 mlX4_112 mdX4_elect mvX4_elect rfl hx0 rfl (Nat.le_of_ble_eq_true rfl) (kX4_elect hx0 hx1 hq4) rfl ?_
  cases h
  exact g_return dX4_fill_21 rfl ⟨rfl, rfl⟩
def fX4_turnKeeps_l2 (x0 : Nat) : Nat → Int → Mem → Option (Int × Mem)
  | 0, _, _ => none
  | n + 1, x1, M => (if (M (x0 + 10000) 0) ≤ x1 then some (x1, M) else if 0 ≤ x1 ∧ x1 < 8 then nm ((M (x0 + 11) (Int.toNat x1))) (fun v3 => if 0 ≤ x1 ∧ x1 < 8 then Option.bind ((if (M (x0 + 3) (Int.toNat x1)) = 2 then (if v3 ≤ 0 then some (M) else if 0 ≤ x1 ∧ x1 < 8 then if -9223372036854775808 ≤ ((M (x0 + 10) (Int.toNat x1)) * (M x0 11)) ∧ ((M (x0 + 10) (Int.toNat x1)) * (M x0 11)) ≤ 9223372036854775807 then if -9223372036854775808 ≤ (((M (x0 + 10) (Int.toNat x1)) * (M x0 11)) + v3) ∧ (((M (x0 + 10) (Int.toNat x1)) * (M x0 11)) + v3) ≤ 9223372036854775807 then if -9223372036854775808 ≤ ((((M (x0 + 10) (Int.toNat x1)) * (M x0 11)) + v3) - 1) ∧ ((((M (x0 + 10) (Int.toNat x1)) * (M x0 11)) + v3) - 1) ≤ 9223372036854775807 then if 0 ≤ ((((M (x0 + 10) (Int.toNat x1)) * (M x0 11)) + v3) - 1) ∧ 0 < v3 then if 0 ≤ x1 ∧ x1 < 8 then nm (wr M (x0 + 10) (Int.toNat x1) (if 1000000 < (((((M (x0 + 10) (Int.toNat x1)) * (M x0 11)) + v3) - 1) / v3) then 1000000 else (((((M (x0 + 10) (Int.toNat x1)) * (M x0 11)) + v3) - 1) / v3))) (fun M23 => some (M23)) else none else none else none else none else none else none) else some (M)) : Option (Mem)) (fun t14 => if -2147483648 ≤ (x1 + 1) ∧ (x1 + 1) ≤ 2147483647 then fX4_turnKeeps_l2 x0 n (x1 + 1) t14 else none) else none) else none)
def fX4_turnKeeps (x0 : Nat) (M : Mem) : Option (Int × Mem) := Option.bind (fX4_turnKeeps_l2 x0 1000 0 M) (fun z25 => some (0, z25.2))
set_option maxRecDepth 20000 in
theorem lX4_turnKeeps_l2 {X : XC} {d : Nat} {Post : Option XV → Mem → Prop} {x0 : Nat} (hx0 : Sh x0 = (13, 14)) : ∀ (n : Nat) (x1 : Int) (M : Mem) (t0 : Int × Mem), fX4_turnKeeps_l2 x0 n x1 M = some t0 → Go X mX4_turnKeeps (d + 1) 71 [] [] t0.2 Post → Go X mX4_turnKeeps (d + 1) 2 [(0, XR x0), (1, XI x1)] [] M Post := by
  intro n
  induction n with
  | zero => intro _ _ _ h; cases h
  | succ n ih =>
    intro x1 M t0 h K
    unfold fX4_turnKeeps_l2 at h
    refine g_iload_n 1 dX4_turnKeeps_2 rfl ?_
    refine g_aload_n 0 dX4_turnKeeps_3 rfl ?_
    refine g_getR dX4_turnKeeps_4 flX4_61 (by decide) rfl hx0 ?_
    refine g_getI dX4_turnKeeps_7 flX4_92 (by decide) rfl (sf_3_0 hx0) ?_
    refine g_icmp_ge (tgt := 71) dX4_turnKeeps_10 (by decide) (fun b1 => ?_) (fun b1 => ?_)
    · replace h := ifp b1 h
      cases h
      exact g_sub [] rfl K
    · replace h := ifn b1 h
      refine g_pc (pc' := 13) rfl ?_
      refine g_aload_n 0 dX4_turnKeeps_13 rfl ?_
      refine g_getR dX4_turnKeeps_14 flX4_48 (by decide) rfl hx0 ?_
      refine g_iload_n 1 dX4_turnKeeps_17 rfl ?_
      obtain ⟨c2, h⟩ := chk_some h
      refine g_lald dX4_turnKeeps_18 (sf_3_10 hx0) c2.1 c2.2 ?_
      refine g_nmL (fun v3 ev3 => ?_)
      replace h := nm_s ev3 h
      refine g_lstore_n (ls' := [(2, XL v3), (0, XR x0), (1, XI x1)]) dX4_turnKeeps_19 (by decide) rfl ?_
      refine g_aload_n 1 dX4_turnKeeps_20 rfl ?_
      refine g_getR dX4_turnKeeps_21 flX4_18 (by decide) rfl hx0 ?_
      refine g_iload_n 2 dX4_turnKeeps_24 rfl ?_
      refine g_pc (pc' := 25) rfl ?_
      obtain ⟨c4, h⟩ := chk_some h
      refine g_iald dX4_turnKeeps_25 (sf_3_2 hx0) c4.1 c4.2 ?_
      refine g_iconst (v := 2) dX4_turnKeeps_26 rfl (i32l rfl) ?_
      obtain ⟨t14, ht14, h⟩ := bnd_some h
      have Kt14 : Go X mX4_turnKeeps (d + 1) 65 [(0, XR x0), (1, XI x1)] [] t14 Post := by
        obtain ⟨c24, h⟩ := chk_some h
        refine g_iinc (ls' := [(1, XI (x1 + 1)), (0, XR x0)]) 1 dX4_turnKeeps_65 rfl rfl c24 (by decide) rfl ?_
        refine g_goto (tgt := 2) dX4_turnKeeps_68 (by decide) ?_
        exact g_sub [1, 0] rfl (ih _ _ _ h K)
      refine g_icmp_ne (tgt := 65) dX4_turnKeeps_27 (by decide) (fun b15 => ?_) (fun b15 => ?_)
      · replace ht14 := ifn b15 ht14
        cases ht14
        exact g_sub [1, 2] rfl Kt14
      · replace ht14 := ifp b15 ht14
        refine g_pc (pc' := 30) rfl ?_
        refine g_lload_n 0 dX4_turnKeeps_30 rfl ?_
        refine g_lconst (v := 0) dX4_turnKeeps_31 rfl (i64l rfl) ?_
        refine g_lcmp_le (tgt := 65) dX4_turnKeeps_32 dX4_turnKeeps_33 (by decide) (fun b16 => ?_) (fun b16 => ?_)
        · replace ht14 := ifp b16 ht14
          cases ht14
          exact g_sub [1, 2] rfl Kt14
        · replace ht14 := ifn b16 ht14
          refine g_pc (pc' := 36) rfl ?_
          refine g_aload_n 1 dX4_turnKeeps_36 rfl ?_
          refine g_getR dX4_turnKeeps_37 flX4_44 (by decide) rfl hx0 ?_
          refine g_iload_n 2 dX4_turnKeeps_40 rfl ?_
          refine g_ldc2 (v := 1000000) dX4_turnKeeps_41 csX4_99 (by decide +kernel) (i64l rfl) ?_
          refine g_aload_n 1 dX4_turnKeeps_44 rfl ?_
          refine g_getR dX4_turnKeeps_45 flX4_44 (by decide) rfl hx0 ?_
          refine g_iload_n 2 dX4_turnKeeps_48 rfl ?_
          obtain ⟨c17, ht14⟩ := chk_some ht14
          refine g_lald dX4_turnKeeps_49 (sf_3_9 hx0) c17.1 c17.2 ?_
          refine g_pc (pc' := 50) rfl ?_
          refine g_aload_n 1 dX4_turnKeeps_50 rfl ?_
          refine g_getJ dX4_turnKeeps_51 flX4_51 (by decide) rfl hx0 ?_
          obtain ⟨c18, ht14⟩ := chk_some ht14
          refine g_lmul dX4_turnKeeps_54 rfl c18 ?_
          refine g_lload_n 0 dX4_turnKeeps_55 rfl ?_
          obtain ⟨c19, ht14⟩ := chk_some ht14
          refine g_ladd dX4_turnKeeps_56 rfl c19 ?_
          refine g_lconst (v := 1) dX4_turnKeeps_57 rfl (i64l rfl) ?_
          obtain ⟨c20, ht14⟩ := chk_some ht14
          refine g_lsub dX4_turnKeeps_58 rfl c20 ?_
          refine g_lload_n 0 dX4_turnKeeps_59 rfl ?_
          obtain ⟨c21, ht14⟩ := chk_some ht14
          refine g_ldiv dX4_turnKeeps_60 c21.1 c21.2 rfl ?_
          refine g_pc (pc' := 61) rfl ?_
          refine g_minL dX4_turnKeeps_61 mlX4_136 (Nat.le_of_ble_eq_true rfl) ?_
          obtain ⟨c22, ht14⟩ := chk_some ht14
          refine g_last dX4_turnKeeps_64 (sf_3_9 hx0) c22.1 c22.2 ?_
          refine g_nmM (fun M23 eM23 => ?_)
          replace ht14 := nm_s eM23 ht14
          cases ht14
          exact g_sub [1, 2] rfl Kt14
set_option maxRecDepth 20000 in
theorem kX4_turnKeeps {X : XC} {d : Nat} {x0 : Nat} (hx0 : Sh x0 = (13, 14)) {M : Mem} {q : Int × Mem} (h : fX4_turnKeeps x0 M = some q) : Ct X mX4_turnKeeps (d + 1) [XR x0] M (pV q) := by
  unfold fX4_turnKeeps at h
  refine ct_go (by decide +kernel) (Nat.le_of_ble_eq_true rfl) (ls := [(0, XR x0)]) rfl ?_
  refine g_iconst (v := 0) dX4_turnKeeps_0 rfl (i32l rfl) ?_
  refine g_istore_n (ls' := [(1, XI 0), (0, XR x0)]) dX4_turnKeeps_1 (by decide) rfl ?_
  obtain ⟨z25, hz25, h⟩ := bnd_some h
  refine g_sub (ls' := [(0, XR x0), (1, XI 0)]) [1, 0] rfl ?_
  refine lX4_turnKeeps_l2 hx0 1000 _ _ _ hz25 ?_
  cases h
  exact g_return dX4_turnKeeps_71 rfl ⟨rfl, rfl⟩
def fX4_surplus_l4 (x0 : Nat) : Nat → Int → Int → Mem → Option (Int × Int × Mem)
  | 0, _, _, _ => none
  | n + 1, x1, x3, M => (if (M (x0 + 10000) 0) ≤ x3 then some (x1, x3, M) else if 0 ≤ x3 ∧ x3 < 8 then Option.bind ((if (M (x0 + 3) (Int.toNat x3)) = 2 then if 0 ≤ x3 ∧ x3 < 8 then if -9223372036854775808 ≤ ((M (x0 + 11) (Int.toNat x3)) - (M x0 11)) ∧ ((M (x0 + 11) (Int.toNat x3)) - (M x0 11)) ≤ 9223372036854775807 then if -9223372036854775808 ≤ (x1 + (if ((M (x0 + 11) (Int.toNat x3)) - (M x0 11)) < 0 then 0 else ((M (x0 + 11) (Int.toNat x3)) - (M x0 11)))) ∧ (x1 + (if ((M (x0 + 11) (Int.toNat x3)) - (M x0 11)) < 0 then 0 else ((M (x0 + 11) (Int.toNat x3)) - (M x0 11)))) ≤ 9223372036854775807 then nm ((x1 + (if ((M (x0 + 11) (Int.toNat x3)) - (M x0 11)) < 0 then 0 else ((M (x0 + 11) (Int.toNat x3)) - (M x0 11))))) (fun v13 => some (v13)) else none else none else none else some (x1)) : Option (Int)) (fun t8 => if -2147483648 ≤ (x3 + 1) ∧ (x3 + 1) ≤ 2147483647 then fX4_surplus_l4 x0 n t8 (x3 + 1) M else none) else none)
def fX4_surplus (x0 : Nat) (M : Mem) : Option (Int × Mem) := Option.bind (fX4_surplus_l4 x0 1000 0 0 M) (fun z15 => some (z15.1, z15.2.2))
set_option maxRecDepth 20000 in
theorem lX4_surplus_l4 {X : XC} {d : Nat} {Post : Option XV → Mem → Prop} {x0 : Nat} (hx0 : Sh x0 = (13, 14)) : ∀ (n : Nat) (x1 x3 : Int) (M : Mem) (t0 : Int × Int × Mem), fX4_surplus_l4 x0 n x1 x3 M = some t0 → Go X mX4_surplus (d + 1) 49 [(1, XL t0.1)] [] t0.2.2 Post → Go X mX4_surplus (d + 1) 4 [(0, XR x0), (1, XL x1), (3, XI x3)] [] M Post := by
  intro n
  induction n with
  | zero => intro _ _ _ _ h; cases h
  | succ n ih =>
    intro x1 x3 M t0 h K
    unfold fX4_surplus_l4 at h
    refine g_iload_n 2 dX4_surplus_4 rfl ?_
    refine g_aload_n 0 dX4_surplus_5 rfl ?_
    refine g_getR dX4_surplus_6 flX4_61 (by decide) rfl hx0 ?_
    refine g_getI dX4_surplus_9 flX4_92 (by decide) rfl (sf_3_0 hx0) ?_
    refine g_icmp_ge (tgt := 49) dX4_surplus_12 (by decide) (fun b1 => ?_) (fun b1 => ?_)
    · replace h := ifp b1 h
      cases h
      exact g_sub [1] rfl K
    · replace h := ifn b1 h
      refine g_pc (pc' := 15) rfl ?_
      refine g_aload_n 0 dX4_surplus_15 rfl ?_
      refine g_getR dX4_surplus_16 flX4_18 (by decide) rfl hx0 ?_
      refine g_iload_n 2 dX4_surplus_19 rfl ?_
      obtain ⟨c2, h⟩ := chk_some h
      refine g_iald dX4_surplus_20 (sf_3_2 hx0) c2.1 c2.2 ?_
      refine g_iconst (v := 2) dX4_surplus_21 rfl (i32l rfl) ?_
      obtain ⟨t8, ht8, h⟩ := bnd_some h
      have Kt8 : Go X mX4_surplus (d + 1) 43 [(0, XR x0), (1, XL t8), (3, XI x3)] [] M Post := by
        obtain ⟨c14, h⟩ := chk_some h
        refine g_iinc (ls' := [(3, XI (x3 + 1)), (0, XR x0), (1, XL t8)]) 2 dX4_surplus_43 rfl rfl c14 (by decide) rfl ?_
        refine g_goto (tgt := 4) dX4_surplus_46 (by decide) ?_
        exact g_sub [1, 2, 0] rfl (ih _ _ _ _ h K)
      refine g_icmp_ne (tgt := 43) dX4_surplus_22 (by decide) (fun b9 => ?_) (fun b9 => ?_)
      · replace ht8 := ifn b9 ht8
        cases ht8
        exact g_sub [0, 1, 2] rfl Kt8
      · replace ht8 := ifp b9 ht8
        refine g_pc (pc' := 25) rfl ?_
        refine g_lload_n 1 dX4_surplus_25 rfl ?_
        refine g_lconst (v := 0) dX4_surplus_26 rfl (i64l rfl) ?_
        refine g_aload_n 0 dX4_surplus_27 rfl ?_
        refine g_getR dX4_surplus_28 flX4_48 (by decide) rfl hx0 ?_
        refine g_iload_n 2 dX4_surplus_31 rfl ?_
        obtain ⟨c10, ht8⟩ := chk_some ht8
        refine g_lald dX4_surplus_32 (sf_3_10 hx0) c10.1 c10.2 ?_
        refine g_aload_n 0 dX4_surplus_33 rfl ?_
        refine g_getJ dX4_surplus_34 flX4_51 (by decide) rfl hx0 ?_
        refine g_pc (pc' := 37) rfl ?_
        obtain ⟨c11, ht8⟩ := chk_some ht8
        refine g_lsub dX4_surplus_37 rfl c11 ?_
        refine g_maxL dX4_surplus_38 mlX4_169 (Nat.le_of_ble_eq_true rfl) ?_
        obtain ⟨c12, ht8⟩ := chk_some ht8
        refine g_ladd dX4_surplus_41 rfl c12 ?_
        refine g_nmL (fun v13 ev13 => ?_)
        replace ht8 := nm_s ev13 ht8
        refine g_lstore_n (ls' := [(1, XL v13), (0, XR x0), (3, XI x3)]) dX4_surplus_42 (by decide) rfl ?_
        cases ht8
        exact g_sub [1, 0, 2] rfl Kt8
set_option maxRecDepth 20000 in
theorem kX4_surplus {X : XC} {d : Nat} {x0 : Nat} (hx0 : Sh x0 = (13, 14)) {M : Mem} {q : Int × Mem} (h : fX4_surplus x0 M = some q) : Ct X mX4_surplus (d + 1) [XR x0] M (pJ q) := by
  unfold fX4_surplus at h
  refine ct_go (by decide +kernel) (Nat.le_of_ble_eq_true rfl) (ls := [(0, XR x0)]) rfl ?_
  refine g_lconst (v := 0) dX4_surplus_0 rfl (i64l rfl) ?_
  refine g_lstore_n (ls' := [(1, XL 0), (0, XR x0)]) dX4_surplus_1 (by decide) rfl ?_
  refine g_iconst (v := 0) dX4_surplus_2 rfl (i32l rfl) ?_
  refine g_istore_n (ls' := [(3, XI 0), (1, XL 0), (0, XR x0)]) dX4_surplus_3 (by decide) rfl ?_
  obtain ⟨z15, hz15, h⟩ := bnd_some h
  refine g_sub (ls' := [(0, XR x0), (1, XL 0), (3, XI 0)]) [2, 1, 0] rfl ?_
  refine lX4_surplus_l4 hx0 1000 _ _ _ _ hz15 ?_
  refine g_lload_n 0 dX4_surplus_49 rfl ?_
  cases h
  exact g_lreturn dX4_surplus_50 rfl ⟨rfl, rfl⟩
def fX4_whoReachesQuota_l4 (x0 : Nat) : Nat → Int → Int → Mem → Option (Int × Int × Mem)
  | 0, _, _, _ => none
  | n + 1, x1, x2, M => (if (M (x0 + 10000) 0) ≤ x2 then some (x1, x2, M) else if 0 ≤ x2 ∧ x2 < 8 then Option.bind ((if (M (x0 + 3) (Int.toNat x2)) = 1 then if 0 ≤ x2 ∧ x2 < 8 then (if (M (x0 + 11) (Int.toNat x2)) < (M x0 11) then some (x1) else nm ((bOr x1 (bShl 1 x2))) (fun v11 => some (v11))) else none else some (x1)) : Option (Int)) (fun t7 => if -2147483648 ≤ (x2 + 1) ∧ (x2 + 1) ≤ 2147483647 then fX4_whoReachesQuota_l4 x0 n t7 (x2 + 1) M else none) else none)
def fX4_whoReachesQuota (x0 : Nat) (M : Mem) : Option (Int × Mem) := Option.bind (fX4_whoReachesQuota_l4 x0 1000 0 0 M) (fun z13 => some (z13.1, z13.2.2))
set_option maxRecDepth 20000 in
theorem lX4_whoReachesQuota_l4 {X : XC} {d : Nat} {Post : Option XV → Mem → Prop} {x0 : Nat} (hx0 : Sh x0 = (13, 14)) : ∀ (n : Nat) (x1 x2 : Int) (M : Mem) (t0 : Int × Int × Mem), fX4_whoReachesQuota_l4 x0 n x1 x2 M = some t0 → Go X mX4_whoReachesQuota d 51 [(1, XI t0.1)] [] t0.2.2 Post → Go X mX4_whoReachesQuota d 4 [(0, XR x0), (1, XI x1), (2, XI x2)] [] M Post := by
  intro n
  induction n with
  | zero => intro _ _ _ _ h; cases h
  | succ n ih =>
    intro x1 x2 M t0 h K
    unfold fX4_whoReachesQuota_l4 at h
    refine g_iload_n 2 dX4_whoReachesQuota_4 rfl ?_
    refine g_aload_n 0 dX4_whoReachesQuota_5 rfl ?_
    refine g_getR dX4_whoReachesQuota_6 flX4_61 (by decide) rfl hx0 ?_
    refine g_getI dX4_whoReachesQuota_9 flX4_92 (by decide) rfl (sf_3_0 hx0) ?_
    refine g_icmp_ge (tgt := 51) dX4_whoReachesQuota_12 (by decide) (fun b1 => ?_) (fun b1 => ?_)
    · replace h := ifp b1 h
      cases h
      exact g_sub [1] rfl K
    · replace h := ifn b1 h
      refine g_pc (pc' := 15) rfl ?_
      refine g_aload_n 0 dX4_whoReachesQuota_15 rfl ?_
      refine g_getR dX4_whoReachesQuota_16 flX4_18 (by decide) rfl hx0 ?_
      refine g_iload_n 2 dX4_whoReachesQuota_19 rfl ?_
      obtain ⟨c2, h⟩ := chk_some h
      refine g_iald dX4_whoReachesQuota_20 (sf_3_2 hx0) c2.1 c2.2 ?_
      refine g_iconst (v := 1) dX4_whoReachesQuota_21 rfl (i32l rfl) ?_
      obtain ⟨t7, ht7, h⟩ := bnd_some h
      have Kt7 : Go X mX4_whoReachesQuota d 45 [(0, XR x0), (1, XI t7), (2, XI x2)] [] M Post := by
        obtain ⟨c12, h⟩ := chk_some h
        refine g_iinc (ls' := [(2, XI (x2 + 1)), (0, XR x0), (1, XI t7)]) 2 dX4_whoReachesQuota_45 rfl rfl c12 (by decide) rfl ?_
        refine g_goto (tgt := 4) dX4_whoReachesQuota_48 (by decide) ?_
        exact g_sub [1, 2, 0] rfl (ih _ _ _ _ h K)
      refine g_icmp_ne (tgt := 45) dX4_whoReachesQuota_22 (by decide) (fun b8 => ?_) (fun b8 => ?_)
      · replace ht7 := ifn b8 ht7
        cases ht7
        exact g_sub [0, 1, 2] rfl Kt7
      · replace ht7 := ifp b8 ht7
        refine g_pc (pc' := 25) rfl ?_
        refine g_aload_n 0 dX4_whoReachesQuota_25 rfl ?_
        refine g_getR dX4_whoReachesQuota_26 flX4_48 (by decide) rfl hx0 ?_
        refine g_iload_n 2 dX4_whoReachesQuota_29 rfl ?_
        obtain ⟨c9, ht7⟩ := chk_some ht7
        refine g_lald dX4_whoReachesQuota_30 (sf_3_10 hx0) c9.1 c9.2 ?_
        refine g_aload_n 0 dX4_whoReachesQuota_31 rfl ?_
        refine g_getJ dX4_whoReachesQuota_32 flX4_51 (by decide) rfl hx0 ?_
        refine g_lcmp_lt (tgt := 45) dX4_whoReachesQuota_35 dX4_whoReachesQuota_36 (by decide) (fun b10 => ?_) (fun b10 => ?_)
        · replace ht7 := ifp b10 ht7
          cases ht7
          exact g_sub [0, 1, 2] rfl Kt7
        · replace ht7 := ifn b10 ht7
          refine g_pc (pc' := 39) rfl ?_
          refine g_iload_n 1 dX4_whoReachesQuota_39 rfl ?_
          refine g_iconst (v := 1) dX4_whoReachesQuota_40 rfl (i32l rfl) ?_
          refine g_iload_n 2 dX4_whoReachesQuota_41 rfl ?_
          refine g_ishl dX4_whoReachesQuota_42 ?_
          refine g_ior dX4_whoReachesQuota_43 ?_
          refine g_nmI (fun v11 ev11 => ?_)
          replace ht7 := nm_s ev11 ht7
          refine g_istore_n (ls' := [(1, XI v11), (0, XR x0), (2, XI x2)]) dX4_whoReachesQuota_44 (by decide) rfl ?_
          cases ht7
          exact g_sub [1, 0, 2] rfl Kt7
set_option maxRecDepth 20000 in
theorem kX4_whoReachesQuota {X : XC} {d : Nat} {x0 : Nat} (hx0 : Sh x0 = (13, 14)) {M : Mem} {q : Int × Mem} (h : fX4_whoReachesQuota x0 M = some q) : Ct X mX4_whoReachesQuota d [XR x0] M (pI q) := by
  unfold fX4_whoReachesQuota at h
  refine ct_go (by decide +kernel) (Nat.le_of_ble_eq_true rfl) (ls := [(0, XR x0)]) rfl ?_
  refine g_iconst (v := 0) dX4_whoReachesQuota_0 rfl (i32l rfl) ?_
  refine g_istore_n (ls' := [(1, XI 0), (0, XR x0)]) dX4_whoReachesQuota_1 (by decide) rfl ?_
  refine g_iconst (v := 0) dX4_whoReachesQuota_2 rfl (i32l rfl) ?_
  refine g_istore_n (ls' := [(2, XI 0), (1, XI 0), (0, XR x0)]) dX4_whoReachesQuota_3 (by decide) rfl ?_
  obtain ⟨z13, hz13, h⟩ := bnd_some h
  refine g_sub (ls' := [(0, XR x0), (1, XI 0), (2, XI 0)]) [2, 1, 0] rfl ?_
  refine lX4_whoReachesQuota_l4 hx0 1000 _ _ _ _ hz13 ?_
  refine g_iload_n 0 dX4_whoReachesQuota_51 rfl ?_
  cases h
  exact g_ireturn dX4_whoReachesQuota_52 rfl ⟨rfl, rfl⟩
def fX4_whoHasFewest_l10 (x0 : Nat) (x1 : Nat) (x2 : Int) : Nat → Int → Int → Int → Mem → Option (Int × Int × Int × Mem)
  | 0, _, _, _, _ => none
  | n + 1, x3, x4, x6, M => (if (M (x0 + 10000) 0) ≤ x6 then some (x3, x4, x6, M) else Option.bind ((if (bAnd (bShr x2 x6) 1) = 0 then some (x3, x4) else if 0 ≤ x6 ∧ x6 < 8 then Option.bind ((if x4 ≤ (M x1 (Int.toNat x6)) then some (x3, x4) else if 0 ≤ x6 ∧ x6 < 8 then nm ((M x1 (Int.toNat x6))) (fun v23 => some (0, v23)) else none) : Option (Int × Int)) (fun t20 => if 0 ≤ x6 ∧ x6 < 8 then (if (M x1 (Int.toNat x6)) = t20.2 then nm ((bOr t20.1 (bShl 1 x6))) (fun v26 => some (v26, t20.2)) else some (t20.1, t20.2)) else none) else none) : Option (Int × Int)) (fun t14 => if -2147483648 ≤ (x6 + 1) ∧ (x6 + 1) ≤ 2147483647 then fX4_whoHasFewest_l10 x0 x1 x2 n t14.1 t14.2 (x6 + 1) M else none))
def fX4_whoHasFewest (x0 : Nat) (x1 : Nat) (x2 : Int) (M : Mem) : Option (Int × Mem) := Option.bind (fX4_whoHasFewest_l10 x0 x1 x2 1000 0 9223372036854775807 0 M) (fun z28 => some (z28.1, z28.2.2.2))
set_option maxRecDepth 20000 in
theorem lX4_whoHasFewest_l10 {X : XC} {d : Nat} {Post : Option XV → Mem → Prop} {x0 : Nat} {x1 : Nat} {x2 : Int} (hx0 : Sh x0 = (13, 14)) (hx1 : Sh x1 = (2, 8)) : ∀ (n : Nat) (x3 x4 x6 : Int) (M : Mem) (t0 : Int × Int × Int × Mem), fX4_whoHasFewest_l10 x0 x1 x2 n x3 x4 x6 M = some t0 → Go X mX4_whoHasFewest d 72 [(3, XI t0.1)] [] t0.2.2.2 Post → Go X mX4_whoHasFewest d 10 [(0, XR x0), (1, XR x1), (2, XI x2), (3, XI x3), (4, XL x4), (6, XI x6)] [] M Post := by
  intro n
  induction n with
  | zero => intro _ _ _ _ _ h; cases h
  | succ n ih =>
    intro x3 x4 x6 M t0 h K
    unfold fX4_whoHasFewest_l10 at h
    refine g_iload 5 dX4_whoHasFewest_10 rfl ?_
    refine g_aload_n 0 dX4_whoHasFewest_12 rfl ?_
    refine g_getR dX4_whoHasFewest_13 flX4_61 (by decide) rfl hx0 ?_
    refine g_getI dX4_whoHasFewest_16 flX4_92 (by decide) rfl (sf_3_0 hx0) ?_
    refine g_icmp_ge (tgt := 72) dX4_whoHasFewest_19 (by decide) (fun b1 => ?_) (fun b1 => ?_)
    · replace h := ifp b1 h
      cases h
      exact g_sub [3] rfl K
    · replace h := ifn b1 h
      refine g_pc (pc' := 22) rfl ?_
      refine g_iload_n 2 dX4_whoHasFewest_22 rfl ?_
      refine g_iload 5 dX4_whoHasFewest_23 rfl ?_
      refine g_ishr dX4_whoHasFewest_25 ?_
      refine g_iconst (v := 1) dX4_whoHasFewest_26 rfl (i32l rfl) ?_
      refine g_iand dX4_whoHasFewest_27 ?_
      obtain ⟨t14, ht14, h⟩ := bnd_some h
      have Kt14 : Go X mX4_whoHasFewest d 66 [(0, XR x0), (1, XR x1), (2, XI x2), (3, XI t14.1), (4, XL t14.2), (6, XI x6)] [] M Post := by
        obtain ⟨c27, h⟩ := chk_some h
        refine g_iinc (ls' := [(6, XI (x6 + 1)), (0, XR x0), (1, XR x1), (2, XI x2), (3, XI t14.1), (4, XL t14.2)]) 5 dX4_whoHasFewest_66 rfl rfl c27 (by decide) rfl ?_
        refine g_goto (tgt := 10) dX4_whoHasFewest_69 (by decide) ?_
        exact g_sub [1, 2, 3, 4, 5, 0] rfl (ih _ _ _ _ _ h K)
      refine g_if_eq (tgt := 66) dX4_whoHasFewest_28 (by decide) (fun b15 => ?_) (fun b15 => ?_)
      · replace ht14 := ifp b15 ht14
        cases ht14
        exact g_sub [0, 1, 2, 3, 4, 5] rfl Kt14
      · replace ht14 := ifn b15 ht14
        refine g_pc (pc' := 31) rfl ?_
        refine g_aload_n 1 dX4_whoHasFewest_31 rfl ?_
        refine g_iload 5 dX4_whoHasFewest_32 rfl ?_
        obtain ⟨c16, ht14⟩ := chk_some ht14
        refine g_lald dX4_whoHasFewest_34 hx1 c16.1 c16.2 ?_
        refine g_lload 4 dX4_whoHasFewest_35 rfl ?_
        obtain ⟨t20, ht20, ht14⟩ := bnd_some ht14
        have Kt20 : Go X mX4_whoHasFewest d 49 [(0, XR x0), (1, XR x1), (2, XI x2), (3, XI t20.1), (4, XL t20.2), (6, XI x6)] [] M Post := by
          refine g_aload_n 1 dX4_whoHasFewest_49 rfl ?_
          refine g_iload 5 dX4_whoHasFewest_50 rfl ?_
          obtain ⟨c24, ht14⟩ := chk_some ht14
          refine g_lald dX4_whoHasFewest_52 hx1 c24.1 c24.2 ?_
          refine g_lload 4 dX4_whoHasFewest_53 rfl ?_
          refine g_lcmp_ne (tgt := 66) dX4_whoHasFewest_55 dX4_whoHasFewest_56 (by decide) (fun b25 => ?_) (fun b25 => ?_)
          · replace ht14 := ifn b25 ht14
            cases ht14
            exact g_sub [0, 1, 2, 3, 4, 5] rfl Kt14
          · replace ht14 := ifp b25 ht14
            refine g_pc (pc' := 59) rfl ?_
            refine g_iload_n 3 dX4_whoHasFewest_59 rfl ?_
            refine g_iconst (v := 1) dX4_whoHasFewest_60 rfl (i32l rfl) ?_
            refine g_iload 5 dX4_whoHasFewest_61 rfl ?_
            refine g_ishl dX4_whoHasFewest_63 ?_
            refine g_ior dX4_whoHasFewest_64 ?_
            refine g_nmI (fun v26 ev26 => ?_)
            replace ht14 := nm_s ev26 ht14
            refine g_istore_n (ls' := [(3, XI v26), (0, XR x0), (1, XR x1), (2, XI x2), (4, XL t20.2), (6, XI x6)]) dX4_whoHasFewest_65 (by decide) rfl ?_
            cases ht14
            exact g_sub [1, 2, 3, 0, 4, 5] rfl Kt14
        refine g_lcmp_ge (tgt := 49) dX4_whoHasFewest_37 dX4_whoHasFewest_38 (by decide) (fun b21 => ?_) (fun b21 => ?_)
        · replace ht20 := ifp b21 ht20
          cases ht20
          exact g_sub [0, 1, 2, 3, 4, 5] rfl Kt20
        · replace ht20 := ifn b21 ht20
          refine g_pc (pc' := 41) rfl ?_
          refine g_aload_n 1 dX4_whoHasFewest_41 rfl ?_
          refine g_iload 5 dX4_whoHasFewest_42 rfl ?_
          obtain ⟨c22, ht20⟩ := chk_some ht20
          refine g_lald dX4_whoHasFewest_44 hx1 c22.1 c22.2 ?_
          refine g_nmL (fun v23 ev23 => ?_)
          replace ht20 := nm_s ev23 ht20
          refine g_lstore (ls' := [(4, XL v23), (0, XR x0), (1, XR x1), (2, XI x2), (3, XI x3), (6, XI x6)]) dX4_whoHasFewest_45 (by decide) rfl ?_
          refine g_iconst (v := 0) dX4_whoHasFewest_47 rfl (i32l rfl) ?_
          refine g_istore_n (ls' := [(3, XI 0), (4, XL v23), (0, XR x0), (1, XR x1), (2, XI x2), (6, XI x6)]) dX4_whoHasFewest_48 (by decide) rfl ?_
          cases ht20
          exact g_sub [2, 3, 4, 0, 1, 5] rfl Kt20
set_option maxRecDepth 20000 in
theorem kX4_whoHasFewest {X : XC} {d : Nat} {x0 : Nat} {x1 : Nat} {x2 : Int} (hx0 : Sh x0 = (13, 14)) (hx1 : Sh x1 = (2, 8)) {M : Mem} {q : Int × Mem} (h : fX4_whoHasFewest x0 x1 x2 M = some q) : Ct X mX4_whoHasFewest d [XR x0, XR x1, XI x2] M (pI q) := by
  unfold fX4_whoHasFewest at h
  refine ct_go (by decide +kernel) (Nat.le_of_ble_eq_true rfl) (ls := [(0, XR x0), (1, XR x1), (2, XI x2)]) rfl ?_
  refine g_iconst (v := 0) dX4_whoHasFewest_0 rfl (i32l rfl) ?_
  refine g_istore_n (ls' := [(3, XI 0), (0, XR x0), (1, XR x1), (2, XI x2)]) dX4_whoHasFewest_1 (by decide) rfl ?_
  refine g_ldc2 (v := 9223372036854775807) dX4_whoHasFewest_2 csX4_193 (by decide +kernel) (i64l rfl) ?_
  refine g_lstore (ls' := [(4, XL 9223372036854775807), (3, XI 0), (0, XR x0), (1, XR x1), (2, XI x2)]) dX4_whoHasFewest_5 (by decide) rfl ?_
  refine g_iconst (v := 0) dX4_whoHasFewest_7 rfl (i32l rfl) ?_
  refine g_istore (ls' := [(6, XI 0), (4, XL 9223372036854775807), (3, XI 0), (0, XR x0), (1, XR x1), (2, XI x2)]) dX4_whoHasFewest_8 (by decide) rfl ?_
  obtain ⟨z28, hz28, h⟩ := bnd_some h
  refine g_sub (ls' := [(0, XR x0), (1, XR x1), (2, XI x2), (3, XI 0), (4, XL 9223372036854775807), (6, XI 0)]) [3, 4, 5, 2, 1, 0] rfl ?_
  refine lX4_whoHasFewest_l10 hx0 hx1 1000 _ _ _ _ _ hz28 ?_
  refine g_iload_n 0 dX4_whoHasFewest_72 rfl ?_
  cases h
  exact g_ireturn dX4_whoHasFewest_73 rfl ⟨rfl, rfl⟩
end
