section
def fX2_at (x0 : Int) (x1 : Int) (M : Mem) : Option (Int × Mem) := (if x1 < 0 then some ((-1), M) else (if 8 ≤ x1 then some ((-1), M) else if 0 ≤ x1 ∧ x1 < 8 then (if 0 < (xpl (Int.toNat x1)) then if 0 ≤ x1 ∧ x1 < 8 then if 0 ≤ x0 ∧ 0 < (xpl (Int.toNat x1)) then if 0 ≤ (x0 / (xpl (Int.toNat x1))) then if -2147483648 ≤ (((x0 / (xpl (Int.toNat x1))) % 10) - 1) ∧ (((x0 / (xpl (Int.toNat x1))) % 10) - 1) ≤ 2147483647 then some ((((x0 / (xpl (Int.toNat x1))) % 10) - 1), M) else none else none else none else none else some ((-1), M)) else none))
set_option maxRecDepth 20000 in
theorem kX2_at {X : XC} {d : Nat} {x0 : Int} {x1 : Int}  {M : Mem} {q : Int × Mem} (h : fX2_at x0 x1 M = some q) : Ct X mX2_at d [XI x0, XI x1] M (pI q) := by
  unfold fX2_at at h
  refine ct_go (by decide +kernel) (Nat.le_of_ble_eq_true rfl) (ls := [(0, XI x0), (1, XI x1)]) rfl ?_
  refine g_iload_n 1 dX2_at_0 rfl ?_
  refine g_if_lt (tgt := 20) dX2_at_1 (by decide) (fun b1 => ?_) (fun b1 => ?_)
  · replace h := ifp b1 h
    refine g_iconst (v := -1) dX2_at_20 rfl (i32l rfl) ?_
    cases h
    exact g_ireturn dX2_at_21 rfl ⟨rfl, rfl⟩
  · replace h := ifn b1 h
    refine g_pc (pc' := 4) rfl ?_
    refine g_iload_n 1 dX2_at_4 rfl ?_
    refine g_gets dX2_at_5 gsX2_8 ?_
    refine g_alenC dX2_at_8 ?_
    refine g_icmp_ge (tgt := 20) dX2_at_9 (by decide) (fun b2 => ?_) (fun b2 => ?_)
    · replace h := ifp b2 h
      refine g_iconst (v := -1) dX2_at_20 rfl (i32l rfl) ?_
      cases h
      exact g_ireturn dX2_at_21 rfl ⟨rfl, rfl⟩
    · replace h := ifn b2 h
      refine g_pc (pc' := 12) rfl ?_
      refine g_gets dX2_at_12 gsX2_8 ?_
      refine g_iload_n 1 dX2_at_15 rfl ?_
      obtain ⟨c3, h⟩ := chk_some h
      refine g_ialdC dX2_at_16 c3.1 c3.2 ?_
      refine g_if_gt (tgt := 22) dX2_at_17 (by decide) (fun b4 => ?_) (fun b4 => ?_)
      · replace h := ifp b4 h
        refine g_iload_n 0 dX2_at_22 rfl ?_
        refine g_gets dX2_at_23 gsX2_8 ?_
        refine g_iload_n 1 dX2_at_26 rfl ?_
        obtain ⟨c5, h⟩ := chk_some h
        refine g_ialdC dX2_at_27 c5.1 c5.2 ?_
        obtain ⟨c6, h⟩ := chk_some h
        refine g_idiv dX2_at_28 c6.1 c6.2 rfl ?_
        refine g_bip dX2_at_29 rfl ?_
        obtain ⟨c7, h⟩ := chk_some h
        refine g_irem dX2_at_31 c7 (by decide) rfl ?_
        refine g_iconst (v := 1) dX2_at_32 rfl (i32l rfl) ?_
        refine g_pc (pc' := 33) rfl ?_
        obtain ⟨c8, h⟩ := chk_some h
        refine g_isub dX2_at_33 rfl c8 ?_
        cases h
        exact g_ireturn dX2_at_34 rfl ⟨rfl, rfl⟩
      · replace h := ifn b4 h
        refine g_pc (pc' := 20) rfl ?_
        refine g_iconst (v := -1) dX2_at_20 rfl (i32l rfl) ?_
        cases h
        exact g_ireturn dX2_at_21 rfl ⟨rfl, rfl⟩
def fX2_filledUp_l4  : Nat → Int → Int → Mem → Option (Int × Int × Mem)
  | 0, _, _, _ => none
  | n + 1, x1, x2, M => (if 8 ≤ x2 then some (x1, x2, M) else Option.bind ((if (xpl (Int.toNat 0)) ≤ x1 then some (x1) else if -2147483648 ≤ (x1 * 10) ∧ (x1 * 10) ≤ 2147483647 then nm ((x1 * 10)) (fun v8 => some (v8)) else none) : Option (Int)) (fun t5 => if -2147483648 ≤ (x2 + 1) ∧ (x2 + 1) ≤ 2147483647 then fX2_filledUp_l4  n t5 (x2 + 1) M else none))
def fX2_filledUp (x0 : Int) (M : Mem) : Option (Int × Mem) := Option.bind (fX2_filledUp_l4  1000 x0 1 M) (fun z10 => some (z10.1, z10.2.2))
set_option maxRecDepth 20000 in
theorem lX2_filledUp_l4 {X : XC} {d : Nat} {Post : Option XV → Mem → Prop}   : ∀ (n : Nat) (x1 x2 : Int) (M : Mem) (t0 : Int × Int × Mem), fX2_filledUp_l4  n x1 x2 M = some t0 → Go X mX2_filledUp d 32 [(1, XI t0.1)] [] t0.2.2 Post → Go X mX2_filledUp d 4 [(1, XI x1), (2, XI x2)] [] M Post := by
  intro n
  induction n with
  | zero => intro _ _ _ _ h; cases h
  | succ n ih =>
    intro x1 x2 M t0 h K
    unfold fX2_filledUp_l4 at h
    refine g_iload_n 1 dX2_filledUp_4 rfl ?_
    refine g_gets dX2_filledUp_5 gsX2_8 ?_
    refine g_alenC dX2_filledUp_8 ?_
    refine g_icmp_ge (tgt := 32) dX2_filledUp_9 (by decide) (fun b1 => ?_) (fun b1 => ?_)
    · replace h := ifp b1 h
      cases h
      exact g_sub [0] rfl K
    · replace h := ifn b1 h
      refine g_pc (pc' := 12) rfl ?_
      refine g_iload_n 0 dX2_filledUp_12 rfl ?_
      refine g_gets dX2_filledUp_13 gsX2_8 ?_
      refine g_iconst (v := 0) dX2_filledUp_16 rfl (i32l rfl) ?_
      refine g_ialdC dX2_filledUp_17 (by decide) (by decide) ?_
      obtain ⟨t5, ht5, h⟩ := bnd_some h
      have Kt5 : Go X mX2_filledUp d 26 [(1, XI t5), (2, XI x2)] [] M Post := by
        obtain ⟨c9, h⟩ := chk_some h
        refine g_iinc (ls' := [(2, XI (x2 + 1)), (1, XI t5)]) 1 dX2_filledUp_26 rfl rfl c9 (by decide) rfl ?_
        refine g_goto (tgt := 4) dX2_filledUp_29 (by decide) ?_
        exact g_sub [1, 0] rfl (ih _ _ _ _ h K)
      refine g_icmp_ge (tgt := 26) dX2_filledUp_18 (by decide) (fun b6 => ?_) (fun b6 => ?_)
      · replace ht5 := ifp b6 ht5
        cases ht5
        exact g_sub [0, 1] rfl Kt5
      · replace ht5 := ifn b6 ht5
        refine g_pc (pc' := 21) rfl ?_
        refine g_iload_n 0 dX2_filledUp_21 rfl ?_
        refine g_bip dX2_filledUp_22 rfl ?_
        obtain ⟨c7, ht5⟩ := chk_some ht5
        refine g_imul dX2_filledUp_24 rfl c7 ?_
        refine g_nmI (fun v8 ev8 => ?_)
        replace ht5 := nm_s ev8 ht5
        refine g_istore_n (ls' := [(1, XI v8), (2, XI x2)]) dX2_filledUp_25 (by decide) rfl ?_
        cases ht5
        exact g_sub [0, 1] rfl Kt5
set_option maxRecDepth 20000 in
theorem kX2_filledUp {X : XC} {d : Nat} {x0 : Int}  {M : Mem} {q : Int × Mem} (h : fX2_filledUp x0 M = some q) : Ct X mX2_filledUp d [XI x0] M (pI q) := by
  unfold fX2_filledUp at h
  refine ct_go (by decide +kernel) (Nat.le_of_ble_eq_true rfl) (ls := [(0, XI x0)]) rfl ?_
  refine g_iload_n 0 dX2_filledUp_0 rfl ?_
  refine g_istore_n (ls' := [(1, XI x0), (0, XI x0)]) dX2_filledUp_1 (by decide) rfl ?_
  refine g_iconst (v := 1) dX2_filledUp_2 rfl (i32l rfl) ?_
  refine g_istore_n (ls' := [(2, XI 1), (1, XI x0), (0, XI x0)]) dX2_filledUp_3 (by decide) rfl ?_
  obtain ⟨z10, hz10, h⟩ := bnd_some h
  refine g_sub (ls' := [(1, XI x0), (2, XI 1)]) [1, 0] rfl ?_
  refine lX2_filledUp_l4  1000 _ _ _ _ hz10 ?_
  refine g_iload_n 0 dX2_filledUp_32 rfl ?_
  cases h
  exact g_ireturn dX2_filledUp_33 rfl ⟨rfl, rfl⟩
def fX2_leftOf_l4 (x0 : Int) (x1 : Nat) : Nat → Int → Int → Mem → Option (Int × Int × Mem)
  | 0, _, _, _ => none
  | n + 1, x2, x3, M => (if 8 ≤ x3 then some (x2, x3, M) else Option.bind (fX2_at x0 x3 M) (fun q2 => nm (q2.1) (fun v3 => Option.bind ((if v3 < 0 then some (x2) else (if 8 ≤ v3 then some (x2) else if 0 ≤ v3 ∧ v3 < 8 then (if (q2.2 x1 (Int.toNat v3)) = 0 then if -2147483648 ≤ (x2 * 10) ∧ (x2 * 10) ≤ 2147483647 then if -2147483648 ≤ ((x2 * 10) + v3) ∧ ((x2 * 10) + v3) ≤ 2147483647 then if -2147483648 ≤ (((x2 * 10) + v3) + 1) ∧ (((x2 * 10) + v3) + 1) ≤ 2147483647 then nm ((((x2 * 10) + v3) + 1)) (fun v20 => some (v20)) else none else none else none else some (x2)) else none)) : Option (Int)) (fun t12 => if -2147483648 ≤ (x3 + 1) ∧ (x3 + 1) ≤ 2147483647 then fX2_leftOf_l4 x0 x1 n t12 (x3 + 1) q2.2 else none))))
def fX2_leftOf (x0 : Int) (x1 : Nat) (M : Mem) : Option (Int × Mem) := Option.bind (fX2_leftOf_l4 x0 x1 1000 0 0 M) (fun z22 => Option.bind (fX2_filledUp z22.1 z22.2.2) (fun q23 => some (q23.1, q23.2)))
set_option maxRecDepth 20000 in
theorem lX2_leftOf_l4 {X : XC} {d : Nat} {Post : Option XV → Mem → Prop} {x0 : Int} {x1 : Nat} (hx1 : Sh x1 = (3, 8)) : ∀ (n : Nat) (x2 x3 : Int) (M : Mem) (t0 : Int × Int × Mem), fX2_leftOf_l4 x0 x1 n x2 x3 M = some t0 → Go X mX2_leftOf (d + 1) 54 [(2, XI t0.1)] [] t0.2.2 Post → Go X mX2_leftOf (d + 1) 4 [(0, XI x0), (1, XR x1), (2, XI x2), (3, XI x3)] [] M Post := by
  intro n
  induction n with
  | zero => intro _ _ _ _ h; cases h
  | succ n ih =>
    intro x2 x3 M t0 h K
    unfold fX2_leftOf_l4 at h
    refine g_iload_n 3 dX2_leftOf_4 rfl ?_
    refine g_gets dX2_leftOf_5 gsX2_8 ?_
    refine g_alenC dX2_leftOf_8 ?_
    refine g_icmp_ge (tgt := 54) dX2_leftOf_9 (by decide) (fun b1 => ?_) (fun b1 => ?_)
    · replace h := ifp b1 h
      cases h
      exact g_sub [2] rfl K
    · replace h := ifn b1 h
      refine g_pc (pc' := 12) rfl ?_
      refine g_iload_n 0 dX2_leftOf_12 rfl ?_
      refine g_iload_n 3 dX2_leftOf_13 rfl ?_
      obtain ⟨q2, hq2, h⟩ := bnd_some h
      refine s_I (as := [XI x0, XI x3]) dX2_leftOf_14 mlX2_14 mdX2_at msX2_at rfl (Nat.le_of_ble_eq_true rfl) (kX2_at  hq2) rfl ?_
      refine g_nmI (fun v3 ev3 => ?_)
      replace h := nm_s ev3 h
      refine g_istore (ls' := [(4, XI v3), (0, XI x0), (1, XR x1), (2, XI x2), (3, XI x3)]) dX2_leftOf_17 (by decide) rfl ?_
      refine g_iload 0 dX2_leftOf_19 rfl ?_
      obtain ⟨t12, ht12, h⟩ := bnd_some h
      have Kt12 : Go X mX2_leftOf (d + 1) 48 [(0, XI x0), (1, XR x1), (2, XI t12), (3, XI x3)] [] q2.2 Post := by
        obtain ⟨c21, h⟩ := chk_some h
        refine g_iinc (ls' := [(3, XI (x3 + 1)), (0, XI x0), (1, XR x1), (2, XI t12)]) 3 dX2_leftOf_48 rfl rfl c21 (by decide) rfl ?_
        refine g_goto (tgt := 4) dX2_leftOf_51 (by decide) ?_
        exact g_sub [1, 2, 3, 0] rfl (ih _ _ _ _ h K)
      refine g_if_lt (tgt := 48) dX2_leftOf_21 (by decide) (fun b13 => ?_) (fun b13 => ?_)
      · replace ht12 := ifp b13 ht12
        cases ht12
        exact g_sub [1, 2, 3, 4] rfl Kt12
      · replace ht12 := ifn b13 ht12
        refine g_pc (pc' := 24) rfl ?_
        refine g_iload 0 dX2_leftOf_24 rfl ?_
        refine g_aload_n 2 dX2_leftOf_26 rfl ?_
        refine g_alenV 8 dX2_leftOf_27 hx1 rfl rfl rfl ?_
        refine g_icmp_ge (tgt := 48) dX2_leftOf_28 (by decide) (fun b14 => ?_) (fun b14 => ?_)
        · replace ht12 := ifp b14 ht12
          cases ht12
          exact g_sub [1, 2, 3, 4] rfl Kt12
        · replace ht12 := ifn b14 ht12
          refine g_pc (pc' := 31) rfl ?_
          refine g_aload_n 2 dX2_leftOf_31 rfl ?_
          refine g_iload 0 dX2_leftOf_32 rfl ?_
          obtain ⟨c15, ht12⟩ := chk_some ht12
          refine g_zald dX2_leftOf_34 hx1 c15.1 c15.2 ?_
          refine g_if_ne (tgt := 48) dX2_leftOf_35 (by decide) (fun b16 => ?_) (fun b16 => ?_)
          · replace ht12 := ifn b16 ht12
            cases ht12
            exact g_sub [1, 2, 3, 4] rfl Kt12
          · replace ht12 := ifp b16 ht12
            refine g_pc (pc' := 38) rfl ?_
            refine g_iload_n 3 dX2_leftOf_38 rfl ?_
            refine g_bip dX2_leftOf_39 rfl ?_
            obtain ⟨c17, ht12⟩ := chk_some ht12
            refine g_imul dX2_leftOf_41 rfl c17 ?_
            refine g_iload 0 dX2_leftOf_42 rfl ?_
            obtain ⟨c18, ht12⟩ := chk_some ht12
            refine g_iadd dX2_leftOf_44 rfl c18 ?_
            refine g_iconst (v := 1) dX2_leftOf_45 rfl (i32l rfl) ?_
            obtain ⟨c19, ht12⟩ := chk_some ht12
            refine g_iadd dX2_leftOf_46 rfl c19 ?_
            refine g_nmI (fun v20 ev20 => ?_)
            replace ht12 := nm_s ev20 ht12
            refine g_istore_n (ls' := [(2, XI v20), (4, XI v3), (0, XI x0), (1, XR x1), (3, XI x3)]) dX2_leftOf_47 (by decide) rfl ?_
            refine g_pc (pc' := 48) rfl ?_
            cases ht12
            exact g_sub [2, 3, 0, 4] rfl Kt12
set_option maxRecDepth 20000 in
theorem kX2_leftOf {X : XC} {d : Nat} {x0 : Int} {x1 : Nat} (hx1 : Sh x1 = (3, 8)) {M : Mem} {q : Int × Mem} (h : fX2_leftOf x0 x1 M = some q) : Ct X mX2_leftOf (d + 1) [XI x0, XR x1] M (pI q) := by
  unfold fX2_leftOf at h
  refine ct_go (by decide +kernel) (Nat.le_of_ble_eq_true rfl) (ls := [(0, XI x0), (1, XR x1)]) rfl ?_
  refine g_iconst (v := 0) dX2_leftOf_0 rfl (i32l rfl) ?_
  refine g_istore_n (ls' := [(2, XI 0), (0, XI x0), (1, XR x1)]) dX2_leftOf_1 (by decide) rfl ?_
  refine g_iconst (v := 0) dX2_leftOf_2 rfl (i32l rfl) ?_
  refine g_istore_n (ls' := [(3, XI 0), (2, XI 0), (0, XI x0), (1, XR x1)]) dX2_leftOf_3 (by decide) rfl ?_
  obtain ⟨z22, hz22, h⟩ := bnd_some h
  refine g_sub (ls' := [(0, XI x0), (1, XR x1), (2, XI 0), (3, XI 0)]) [2, 3, 1, 0] rfl ?_
  refine lX2_leftOf_l4 hx1 1000 _ _ _ _ hz22 ?_
  refine g_iload_n 0 dX2_leftOf_54 rfl ?_
  obtain ⟨q23, hq23, h⟩ := bnd_some h
  refine s_I (as := [XI z22.1]) dX2_leftOf_55 mlX2_20 mdX2_filledUp msX2_filledUp rfl (Nat.le_of_ble_eq_true rfl) (kX2_filledUp  hq23) rfl ?_
  cases h
  exact g_ireturn dX2_leftOf_58 rfl ⟨rfl, rfl⟩
def fX0_put_l2 (x0 : Nat) (x1 : Int) (x2 : Int) : Nat → Int → Mem → Option (Int × Mem)
  | 0, _, _ => none
  | n + 1, x3, M => (if (M x0 0) ≤ x3 then some (x3, M) else if 0 ≤ x3 ∧ x3 < 25 then (if x1 ≤ (M (x0 + 2) (Int.toNat x3)) then some (x3, M) else if -2147483648 ≤ (x3 + 1) ∧ (x3 + 1) ≤ 2147483647 then fX0_put_l2 x0 x1 x2 n (x3 + 1) M else none) else none)
def fX0_put_l75 (x0 : Nat) (x1 : Int) (x2 : Int) (x3 : Int) : Nat → Int → Mem → Option (Int × Mem)
  | 0, _, _ => none
  | n + 1, x4, M => (if x4 ≤ x3 then some (x4, M) else if -2147483648 ≤ (x4 - 1) ∧ (x4 - 1) ≤ 2147483647 then if 0 ≤ (x4 - 1) ∧ (x4 - 1) < 25 then if 0 ≤ x4 ∧ x4 < 25 then nm (wr M (x0 + 2) (Int.toNat x4) (M (x0 + 2) (Int.toNat (x4 - 1)))) (fun M39 => if -2147483648 ≤ (x4 - 1) ∧ (x4 - 1) ≤ 2147483647 then if 0 ≤ (x4 - 1) ∧ (x4 - 1) < 25 then if 0 ≤ x4 ∧ x4 < 25 then nm (wr M39 (x0 + 3) (Int.toNat x4) (M39 (x0 + 3) (Int.toNat (x4 - 1)))) (fun M43 => if -2147483648 ≤ (x4 + (-1)) ∧ (x4 + (-1)) ≤ 2147483647 then fX0_put_l75 x0 x1 x2 x3 n (x4 + (-1)) M43 else none) else none else none else none) else none else none else none)
def fX0_put (x0 : Nat) (x1 : Int) (x2 : Int) (M : Mem) : Option (Int × Mem) := Option.bind (fX0_put_l2 x0 x1 x2 1000 0 M) (fun z5 => Option.bind ((if (z5.2 x0 0) ≤ z5.1 then (if 25 ≤ (z5.2 x0 0) then some (z5.2) else nm ((z5.2 x0 0)) (fun v34 => Option.bind (fX0_put_l75 x0 x1 x2 z5.1 1000 v34 z5.2) (fun z45 => if 0 ≤ z5.1 ∧ z5.1 < 25 then nm (wr z45.2 (x0 + 2) (Int.toNat z5.1) x1) (fun M47 => if 0 ≤ z5.1 ∧ z5.1 < 25 then nm (wr M47 (x0 + 3) (Int.toNat z5.1) x2) (fun M49 => if -2147483648 ≤ ((M49 x0 0) + 1) ∧ ((M49 x0 0) + 1) ≤ 2147483647 then nm (wr M49 x0 0 ((M49 x0 0) + 1)) (fun M51 => some (M51)) else none) else none) else none))) else if 0 ≤ z5.1 ∧ z5.1 < 25 then (if (z5.2 (x0 + 2) (Int.toNat z5.1)) = x1 then if 0 ≤ z5.1 ∧ z5.1 < 25 then if -2147483648 ≤ ((z5.2 (x0 + 3) (Int.toNat z5.1)) + x2) ∧ ((z5.2 (x0 + 3) (Int.toNat z5.1)) + x2) ≤ 2147483647 then if 0 ≤ z5.1 ∧ z5.1 < 25 then nm (wr z5.2 (x0 + 3) (Int.toNat z5.1) ((z5.2 (x0 + 3) (Int.toNat z5.1)) + x2)) (fun M66 => some (M66)) else none else none else none else (if 25 ≤ (z5.2 x0 0) then some (z5.2) else nm ((z5.2 x0 0)) (fun v55 => Option.bind (fX0_put_l75 x0 x1 x2 z5.1 1000 v55 z5.2) (fun z56 => if 0 ≤ z5.1 ∧ z5.1 < 25 then nm (wr z56.2 (x0 + 2) (Int.toNat z5.1) x1) (fun M58 => if 0 ≤ z5.1 ∧ z5.1 < 25 then nm (wr M58 (x0 + 3) (Int.toNat z5.1) x2) (fun M60 => if -2147483648 ≤ ((M60 x0 0) + 1) ∧ ((M60 x0 0) + 1) ≤ 2147483647 then nm (wr M60 x0 0 ((M60 x0 0) + 1)) (fun M62 => some (M62)) else none) else none) else none)))) else none) : Option (Mem)) (fun t31 => some (0, t31)))
set_option maxRecDepth 20000 in
theorem lX0_put_l2 {X : XC} {d : Nat} {Post : Option XV → Mem → Prop} {x0 : Nat} {x1 : Int} {x2 : Int} (hx0 : Sh x0 = (10, 3)) : ∀ (n : Nat) (x3 : Int) (M : Mem) (t0 : Int × Mem), fX0_put_l2 x0 x1 x2 n x3 M = some t0 → Go X mX0_put d 26 [(0, XR x0), (1, XI x1), (2, XI x2), (3, XI t0.1)] [] t0.2 Post → Go X mX0_put d 2 [(0, XR x0), (1, XI x1), (2, XI x2), (3, XI x3)] [] M Post := by
  intro n
  induction n with
  | zero => intro _ _ _ h; cases h
  | succ n ih =>
    intro x3 M t0 h K
    unfold fX0_put_l2 at h
    refine g_iload_n 3 dX0_put_2 rfl ?_
    refine g_aload_n 0 dX0_put_3 rfl ?_
    refine g_getI dX0_put_4 flX0_9 (by decide) rfl hx0 ?_
    refine g_icmp_ge (tgt := 26) dX0_put_7 (by decide) (fun b1 => ?_) (fun b1 => ?_)
    · replace h := ifp b1 h
      cases h
      exact g_sub [0, 1, 2, 3] rfl K
    · replace h := ifn b1 h
      refine g_pc (pc' := 10) rfl ?_
      refine g_aload_n 0 dX0_put_10 rfl ?_
      refine g_getR dX0_put_11 flX0_15 (by decide) rfl hx0 ?_
      refine g_iload_n 3 dX0_put_14 rfl ?_
      obtain ⟨c2, h⟩ := chk_some h
      refine g_iald dX0_put_15 (sf_0_1 hx0) c2.1 c2.2 ?_
      refine g_iload_n 1 dX0_put_16 rfl ?_
      refine g_icmp_ge (tgt := 26) dX0_put_17 (by decide) (fun b3 => ?_) (fun b3 => ?_)
      · replace h := ifp b3 h
        cases h
        exact g_sub [0, 1, 2, 3] rfl K
      · replace h := ifn b3 h
        refine g_pc (pc' := 20) rfl ?_
        obtain ⟨c4, h⟩ := chk_some h
        refine g_iinc (ls' := [(3, XI (x3 + 1)), (0, XR x0), (1, XI x1), (2, XI x2)]) 3 dX0_put_20 rfl rfl c4 (by decide) rfl ?_
        refine g_goto (tgt := 2) dX0_put_23 (by decide) ?_
        exact g_sub [1, 2, 3, 0] rfl (ih _ _ _ h K)
set_option maxRecDepth 20000 in
theorem lX0_put_l75 {X : XC} {d : Nat} {Post : Option XV → Mem → Prop} {x0 : Nat} {x1 : Int} {x2 : Int} {x3 : Int} (hx0 : Sh x0 = (10, 3)) : ∀ (n : Nat) (x4 : Int) (M : Mem) (t0 : Int × Mem), fX0_put_l75 x0 x1 x2 x3 n x4 M = some t0 → Go X mX0_put d 119 [(0, XR x0), (1, XI x1), (2, XI x2), (3, XI x3)] [] t0.2 Post → Go X mX0_put d 75 [(0, XR x0), (1, XI x1), (2, XI x2), (3, XI x3), (4, XI x4)] [] M Post := by
  intro n
  induction n with
  | zero => intro _ _ _ h; cases h
  | succ n ih =>
    intro x4 M t0 h K
    unfold fX0_put_l75 at h
    refine g_iload 4 dX0_put_75 rfl ?_
    refine g_iload_n 3 dX0_put_77 rfl ?_
    refine g_icmp_le (tgt := 119) dX0_put_78 (by decide) (fun b35 => ?_) (fun b35 => ?_)
    · replace h := ifp b35 h
      cases h
      exact g_sub [0, 1, 2, 3] rfl K
    · replace h := ifn b35 h
      refine g_pc (pc' := 81) rfl ?_
      refine g_aload_n 0 dX0_put_81 rfl ?_
      refine g_getR dX0_put_82 flX0_15 (by decide) rfl hx0 ?_
      refine g_iload 4 dX0_put_85 rfl ?_
      refine g_aload_n 0 dX0_put_87 rfl ?_
      refine g_getR dX0_put_88 flX0_15 (by decide) rfl hx0 ?_
      refine g_iload 4 dX0_put_91 rfl ?_
      refine g_iconst (v := 1) dX0_put_93 rfl (i32l rfl) ?_
      obtain ⟨c36, h⟩ := chk_some h
      refine g_isub dX0_put_94 rfl c36 ?_
      refine g_pc (pc' := 95) rfl ?_
      obtain ⟨c37, h⟩ := chk_some h
      refine g_iald dX0_put_95 (sf_0_1 hx0) c37.1 c37.2 ?_
      obtain ⟨c38, h⟩ := chk_some h
      refine g_iast dX0_put_96 (sf_0_1 hx0) c38.1 c38.2 ?_
      refine g_nmM (fun M39 eM39 => ?_)
      replace h := nm_s eM39 h
      refine g_aload_n 0 dX0_put_97 rfl ?_
      refine g_getR dX0_put_98 flX0_19 (by decide) rfl hx0 ?_
      refine g_iload 4 dX0_put_101 rfl ?_
      refine g_aload_n 0 dX0_put_103 rfl ?_
      refine g_getR dX0_put_104 flX0_19 (by decide) rfl hx0 ?_
      refine g_iload 4 dX0_put_107 rfl ?_
      refine g_iconst (v := 1) dX0_put_109 rfl (i32l rfl) ?_
      refine g_pc (pc' := 110) rfl ?_
      obtain ⟨c40, h⟩ := chk_some h
      refine g_isub dX0_put_110 rfl c40 ?_
      obtain ⟨c41, h⟩ := chk_some h
      refine g_iald dX0_put_111 (sf_0_2 hx0) c41.1 c41.2 ?_
      obtain ⟨c42, h⟩ := chk_some h
      refine g_iast dX0_put_112 (sf_0_2 hx0) c42.1 c42.2 ?_
      refine g_nmM (fun M43 eM43 => ?_)
      replace h := nm_s eM43 h
      obtain ⟨c44, h⟩ := chk_some h
      refine g_iinc (ls' := [(4, XI (x4 + (-1))), (0, XR x0), (1, XI x1), (2, XI x2), (3, XI x3)]) 4 dX0_put_113 rfl rfl c44 (by decide) rfl ?_
      refine g_goto (tgt := 75) dX0_put_116 (by decide) ?_
      exact g_sub [1, 2, 3, 4, 0] rfl (ih _ _ _ h K)
set_option maxRecDepth 20000 in
theorem kX0_put {X : XC} {d : Nat} {x0 : Nat} {x1 : Int} {x2 : Int} (hx0 : Sh x0 = (10, 3)) {M : Mem} {q : Int × Mem} (h : fX0_put x0 x1 x2 M = some q) : Ct X mX0_put d [XR x0, XI x1, XI x2] M (pV q) := by
  unfold fX0_put at h
  refine ct_go (by decide +kernel) (Nat.le_of_ble_eq_true rfl) (ls := [(0, XR x0), (1, XI x1), (2, XI x2)]) rfl ?_
  refine g_iconst (v := 0) dX0_put_0 rfl (i32l rfl) ?_
  refine g_istore_n (ls' := [(3, XI 0), (0, XR x0), (1, XI x1), (2, XI x2)]) dX0_put_1 (by decide) rfl ?_
  obtain ⟨z5, hz5, h⟩ := bnd_some h
  refine g_sub (ls' := [(0, XR x0), (1, XI x1), (2, XI x2), (3, XI 0)]) [1, 2, 3, 0] rfl ?_
  refine lX0_put_l2 hx0 1000 _ _ _ hz5 ?_
  refine g_iload_n 3 dX0_put_26 rfl ?_
  refine g_aload_n 0 dX0_put_27 rfl ?_
  refine g_getI dX0_put_28 flX0_9 (by decide) rfl hx0 ?_
  obtain ⟨t31, ht31, h⟩ := bnd_some h
  have Kt31 : Go X mX0_put d 143 [] [] t31 (pV q) := by
    cases h
    exact g_return dX0_put_143 rfl ⟨rfl, rfl⟩
  refine g_icmp_ge (tgt := 57) dX0_put_31 (by decide) (fun b32 => ?_) (fun b32 => ?_)
  · replace ht31 := ifp b32 ht31
    refine g_aload_n 0 dX0_put_57 rfl ?_
    refine g_getI dX0_put_58 flX0_9 (by decide) rfl hx0 ?_
    refine g_aload_n 0 dX0_put_61 rfl ?_
    refine g_getR dX0_put_62 flX0_15 (by decide) rfl hx0 ?_
    refine g_alenV 25 dX0_put_65 (sf_0_1 hx0) rfl rfl rfl ?_
    refine g_icmp_ge (tgt := 143) dX0_put_66 (by decide) (fun b33 => ?_) (fun b33 => ?_)
    · replace ht31 := ifp b33 ht31
      cases ht31
      exact g_sub [] rfl Kt31
    · replace ht31 := ifn b33 ht31
      refine g_pc (pc' := 69) rfl ?_
      refine g_aload_n 0 dX0_put_69 rfl ?_
      refine g_getI dX0_put_70 flX0_9 (by decide) rfl hx0 ?_
      refine g_nmI (fun v34 ev34 => ?_)
      replace ht31 := nm_s ev34 ht31
      refine g_istore (ls' := [(4, XI v34), (0, XR x0), (1, XI x1), (2, XI x2), (3, XI z5.1)]) dX0_put_73 (by decide) rfl ?_
      obtain ⟨z45, hz45, ht31⟩ := bnd_some ht31
      refine g_sub (ls' := [(0, XR x0), (1, XI x1), (2, XI x2), (3, XI z5.1), (4, XI v34)]) [1, 2, 3, 4, 0] rfl ?_
      refine lX0_put_l75 hx0 1000 _ _ _ hz45 ?_
      refine g_aload_n 0 dX0_put_119 rfl ?_
      refine g_getR dX0_put_120 flX0_15 (by decide) rfl hx0 ?_
      refine g_iload_n 3 dX0_put_123 rfl ?_
      refine g_iload_n 1 dX0_put_124 rfl ?_
      obtain ⟨c46, ht31⟩ := chk_some ht31
      refine g_iast dX0_put_125 (sf_0_1 hx0) c46.1 c46.2 ?_
      refine g_nmM (fun M47 eM47 => ?_)
      replace ht31 := nm_s eM47 ht31
      refine g_aload_n 0 dX0_put_126 rfl ?_
      refine g_getR dX0_put_127 flX0_19 (by decide) rfl hx0 ?_
      refine g_iload_n 3 dX0_put_130 rfl ?_
      refine g_pc (pc' := 131) rfl ?_
      refine g_iload_n 2 dX0_put_131 rfl ?_
      obtain ⟨c48, ht31⟩ := chk_some ht31
      refine g_iast dX0_put_132 (sf_0_2 hx0) c48.1 c48.2 ?_
      refine g_nmM (fun M49 eM49 => ?_)
      replace ht31 := nm_s eM49 ht31
      refine g_aload_n 0 dX0_put_133 rfl ?_
      refine g_dupR dX0_put_134 ?_
      refine g_getI dX0_put_135 flX0_9 (by decide) rfl hx0 ?_
      refine g_iconst (v := 1) dX0_put_138 rfl (i32l rfl) ?_
      obtain ⟨c50, ht31⟩ := chk_some ht31
      refine g_iadd dX0_put_139 rfl c50 ?_
      refine g_putI dX0_put_140 flX0_9 (by decide) rfl hx0 ?_
      refine g_nmM (fun M51 eM51 => ?_)
      replace ht31 := nm_s eM51 ht31
      cases ht31
      exact g_sub [] rfl Kt31
  · replace ht31 := ifn b32 ht31
    refine g_pc (pc' := 34) rfl ?_
    refine g_aload_n 0 dX0_put_34 rfl ?_
    refine g_getR dX0_put_35 flX0_15 (by decide) rfl hx0 ?_
    refine g_iload_n 3 dX0_put_38 rfl ?_
    obtain ⟨c52, ht31⟩ := chk_some ht31
    refine g_iald dX0_put_39 (sf_0_1 hx0) c52.1 c52.2 ?_
    refine g_iload_n 1 dX0_put_40 rfl ?_
    refine g_icmp_ne (tgt := 57) dX0_put_41 (by decide) (fun b53 => ?_) (fun b53 => ?_)
    · replace ht31 := ifn b53 ht31
      refine g_aload_n 0 dX0_put_57 rfl ?_
      refine g_getI dX0_put_58 flX0_9 (by decide) rfl hx0 ?_
      refine g_aload_n 0 dX0_put_61 rfl ?_
      refine g_getR dX0_put_62 flX0_15 (by decide) rfl hx0 ?_
      refine g_alenV 25 dX0_put_65 (sf_0_1 hx0) rfl rfl rfl ?_
      refine g_icmp_ge (tgt := 143) dX0_put_66 (by decide) (fun b54 => ?_) (fun b54 => ?_)
      · replace ht31 := ifp b54 ht31
        cases ht31
        exact g_sub [] rfl Kt31
      · replace ht31 := ifn b54 ht31
        refine g_pc (pc' := 69) rfl ?_
        refine g_aload_n 0 dX0_put_69 rfl ?_
        refine g_getI dX0_put_70 flX0_9 (by decide) rfl hx0 ?_
        refine g_nmI (fun v55 ev55 => ?_)
        replace ht31 := nm_s ev55 ht31
        refine g_istore (ls' := [(4, XI v55), (0, XR x0), (1, XI x1), (2, XI x2), (3, XI z5.1)]) dX0_put_73 (by decide) rfl ?_
        obtain ⟨z56, hz56, ht31⟩ := bnd_some ht31
        refine g_sub (ls' := [(0, XR x0), (1, XI x1), (2, XI x2), (3, XI z5.1), (4, XI v55)]) [1, 2, 3, 4, 0] rfl ?_
        refine lX0_put_l75 hx0 1000 _ _ _ hz56 ?_
        refine g_aload_n 0 dX0_put_119 rfl ?_
        refine g_getR dX0_put_120 flX0_15 (by decide) rfl hx0 ?_
        refine g_iload_n 3 dX0_put_123 rfl ?_
        refine g_iload_n 1 dX0_put_124 rfl ?_
        obtain ⟨c57, ht31⟩ := chk_some ht31
        refine g_iast dX0_put_125 (sf_0_1 hx0) c57.1 c57.2 ?_
        refine g_nmM (fun M58 eM58 => ?_)
        replace ht31 := nm_s eM58 ht31
        refine g_aload_n 0 dX0_put_126 rfl ?_
        refine g_getR dX0_put_127 flX0_19 (by decide) rfl hx0 ?_
        refine g_iload_n 3 dX0_put_130 rfl ?_
        refine g_pc (pc' := 131) rfl ?_
        refine g_iload_n 2 dX0_put_131 rfl ?_
        obtain ⟨c59, ht31⟩ := chk_some ht31
        refine g_iast dX0_put_132 (sf_0_2 hx0) c59.1 c59.2 ?_
        refine g_nmM (fun M60 eM60 => ?_)
        replace ht31 := nm_s eM60 ht31
        refine g_aload_n 0 dX0_put_133 rfl ?_
        refine g_dupR dX0_put_134 ?_
        refine g_getI dX0_put_135 flX0_9 (by decide) rfl hx0 ?_
        refine g_iconst (v := 1) dX0_put_138 rfl (i32l rfl) ?_
        obtain ⟨c61, ht31⟩ := chk_some ht31
        refine g_iadd dX0_put_139 rfl c61 ?_
        refine g_putI dX0_put_140 flX0_9 (by decide) rfl hx0 ?_
        refine g_nmM (fun M62 eM62 => ?_)
        replace ht31 := nm_s eM62 ht31
        cases ht31
        exact g_sub [] rfl Kt31
    · replace ht31 := ifp b53 ht31
      refine g_pc (pc' := 44) rfl ?_
      refine g_aload_n 0 dX0_put_44 rfl ?_
      refine g_getR dX0_put_45 flX0_19 (by decide) rfl hx0 ?_
      refine g_iload_n 3 dX0_put_48 rfl ?_
      refine g_dup2RI dX0_put_49 ?_
      obtain ⟨c63, ht31⟩ := chk_some ht31
      refine g_iald dX0_put_50 (sf_0_2 hx0) c63.1 c63.2 ?_
      refine g_iload_n 2 dX0_put_51 rfl ?_
      obtain ⟨c64, ht31⟩ := chk_some ht31
      refine g_iadd dX0_put_52 rfl c64 ?_
      obtain ⟨c65, ht31⟩ := chk_some ht31
      refine g_iast dX0_put_53 (sf_0_2 hx0) c65.1 c65.2 ?_
      refine g_nmM (fun M66 eM66 => ?_)
      replace ht31 := nm_s eM66 ht31
      refine g_pc (pc' := 54) rfl ?_
      refine g_goto (tgt := 143) dX0_put_54 (by decide) ?_
      cases ht31
      exact g_sub [] rfl Kt31
def fX0_gather_l7 (x0 : Nat) (x1 : Nat) : Nat → Int → Mem → Option (Int × Mem)
  | 0, _, _ => none
  | n + 1, x2, M => (if (M x1 3) ≤ x2 then some (x2, M) else if 0 ≤ x2 ∧ x2 < 25 then Option.bind (fX2_leftOf (M (x1 + 5) (Int.toNat x2)) (x1 + 3) M) (fun q4 => nm (q4.1) (fun v5 => Option.bind ((if v5 = 0 then some (q4.2) else if 0 ≤ x2 ∧ x2 < 25 then (if (q4.2 (x1 + 6) (Int.toNat x2)) = 0 then some (q4.2) else if 0 ≤ x2 ∧ x2 < 25 then Option.bind (fX0_put x0 v5 (q4.2 (x1 + 6) (Int.toNat x2)) q4.2) (fun q16 => some (q16.2)) else none) else none) : Option (Mem)) (fun t11 => if -2147483648 ≤ (x2 + 1) ∧ (x2 + 1) ≤ 2147483647 then fX0_gather_l7 x0 x1 n (x2 + 1) t11 else none))) else none)
def fX0_gather (x0 : Nat) (x1 : Nat) (M : Mem) : Option (Int × Mem) := nm (wr M x0 0 0) (fun M1 => Option.bind (fX0_gather_l7 x0 x1 1000 0 M1) (fun z18 => some (0, z18.2)))
set_option maxRecDepth 20000 in
theorem lX0_gather_l7 {X : XC} {d : Nat} {Post : Option XV → Mem → Prop} {x0 : Nat} {x1 : Nat} (hx0 : Sh x0 = (10, 3)) (hx1 : Sh x1 = (11, 15)) : ∀ (n : Nat) (x2 : Int) (M : Mem) (t0 : Int × Mem), fX0_gather_l7 x0 x1 n x2 M = some t0 → Go X mX0_gather (d + 2) 59 [] [] t0.2 Post → Go X mX0_gather (d + 2) 7 [(0, XR x0), (1, XR x1), (2, XI x2)] [] M Post := by
  intro n
  induction n with
  | zero => intro _ _ _ h; cases h
  | succ n ih =>
    intro x2 M t0 h K
    unfold fX0_gather_l7 at h
    refine g_iload_n 2 dX0_gather_7 rfl ?_
    refine g_aload_n 1 dX0_gather_8 rfl ?_
    refine g_getI dX0_gather_9 flX0_22 (by decide) rfl hx1 ?_
    refine g_icmp_ge (tgt := 59) dX0_gather_12 (by decide) (fun b2 => ?_) (fun b2 => ?_)
    · replace h := ifp b2 h
      cases h
      exact g_sub [] rfl K
    · replace h := ifn b2 h
      refine g_pc (pc' := 15) rfl ?_
      refine g_aload_n 1 dX0_gather_15 rfl ?_
      refine g_getR dX0_gather_16 flX0_27 (by decide) rfl hx1 ?_
      refine g_iload_n 2 dX0_gather_19 rfl ?_
      obtain ⟨c3, h⟩ := chk_some h
      refine g_iald dX0_gather_20 (sf_1_4 hx1) c3.1 c3.2 ?_
      refine g_aload_n 1 dX0_gather_21 rfl ?_
      refine g_getR dX0_gather_22 flX0_28 (by decide) rfl hx1 ?_
      obtain ⟨q4, hq4, h⟩ := bnd_some h
      refine s_I (as := [XI (M (x1 + 5) (Int.toNat x2)), XR (x1 + 3)]) dX0_gather_25 mlX0_32 mdX2_leftOf msX2_leftOf rfl (Nat.le_of_ble_eq_true rfl) (kX2_leftOf (sf_1_2 hx1) hq4) rfl ?_
      refine g_nmI (fun v5 ev5 => ?_)
      replace h := nm_s ev5 h
      refine g_istore_n (ls' := [(3, XI v5), (0, XR x0), (1, XR x1), (2, XI x2)]) dX0_gather_28 (by decide) rfl ?_
      refine g_pc (pc' := 29) rfl ?_
      refine g_iload_n 0 dX0_gather_29 rfl ?_
      obtain ⟨t11, ht11, h⟩ := bnd_some h
      have Kt11 : Go X mX0_gather (d + 2) 53 [(0, XR x0), (1, XR x1), (2, XI x2)] [] t11 Post := by
        obtain ⟨c17, h⟩ := chk_some h
        refine g_iinc (ls' := [(2, XI (x2 + 1)), (0, XR x0), (1, XR x1)]) 2 dX0_gather_53 rfl rfl c17 (by decide) rfl ?_
        refine g_goto (tgt := 7) dX0_gather_56 (by decide) ?_
        exact g_sub [1, 2, 0] rfl (ih _ _ _ h K)
      refine g_if_eq (tgt := 53) dX0_gather_30 (by decide) (fun b12 => ?_) (fun b12 => ?_)
      · replace ht11 := ifp b12 ht11
        cases ht11
        exact g_sub [1, 2, 3] rfl Kt11
      · replace ht11 := ifn b12 ht11
        refine g_pc (pc' := 33) rfl ?_
        refine g_aload_n 2 dX0_gather_33 rfl ?_
        refine g_getR dX0_gather_34 flX0_38 (by decide) rfl hx1 ?_
        refine g_iload_n 3 dX0_gather_37 rfl ?_
        obtain ⟨c13, ht11⟩ := chk_some ht11
        refine g_iald dX0_gather_38 (sf_1_5 hx1) c13.1 c13.2 ?_
        refine g_if_eq (tgt := 53) dX0_gather_39 (by decide) (fun b14 => ?_) (fun b14 => ?_)
        · replace ht11 := ifp b14 ht11
          cases ht11
          exact g_sub [1, 2, 3] rfl Kt11
        · replace ht11 := ifn b14 ht11
          refine g_pc (pc' := 42) rfl ?_
          refine g_aload_n 1 dX0_gather_42 rfl ?_
          refine g_iload_n 0 dX0_gather_43 rfl ?_
          refine g_aload_n 2 dX0_gather_44 rfl ?_
          refine g_getR dX0_gather_45 flX0_38 (by decide) rfl hx1 ?_
          refine g_iload_n 3 dX0_gather_48 rfl ?_
          obtain ⟨c15, ht11⟩ := chk_some ht11
          refine g_iald dX0_gather_49 (sf_1_5 hx1) c15.1 c15.2 ?_
          obtain ⟨q16, hq16, ht11⟩ := bnd_some ht11
          refine v_V (ci := 0) (as := [XI v5, XI (q4.2 (x1 + 6) (Int.toNat x2))]) dX0_gather_50 mlX0_39 mdX0_put mvX0_put rfl hx0 rfl (Nat.le_of_ble_eq_true rfl) (kX0_put hx0 hq16) rfl ?_
          cases ht11
          exact g_sub [1, 2, 3] rfl Kt11
set_option maxRecDepth 20000 in
theorem kX0_gather {X : XC} {d : Nat} {x0 : Nat} {x1 : Nat} (hx0 : Sh x0 = (10, 3)) (hx1 : Sh x1 = (11, 15)) {M : Mem} {q : Int × Mem} (h : fX0_gather x0 x1 M = some q) : Ct X mX0_gather (d + 2) [XR x0, XR x1] M (pV q) := by
  unfold fX0_gather at h
  refine ct_go (by decide +kernel) (Nat.le_of_ble_eq_true rfl) (ls := [(0, XR x0), (1, XR x1)]) rfl ?_
  refine g_aload_n 0 dX0_gather_0 rfl ?_
  refine g_iconst (v := 0) dX0_gather_1 rfl (i32l rfl) ?_
  refine g_putI dX0_gather_2 flX0_9 (by decide) rfl hx0 ?_
  refine g_nmM (fun M1 eM1 => ?_)
  replace h := nm_s eM1 h
  refine g_iconst (v := 0) dX0_gather_5 rfl (i32l rfl) ?_
  refine g_istore_n (ls' := [(2, XI 0), (0, XR x0), (1, XR x1)]) dX0_gather_6 (by decide) rfl ?_
  obtain ⟨z18, hz18, h⟩ := bnd_some h
  refine g_sub (ls' := [(0, XR x0), (1, XR x1), (2, XI 0)]) [1, 2, 0] rfl ?_
  refine lX0_gather_l7 hx0 hx1 1000 _ _ _ hz18 ?_
  cases h
  exact g_return dX0_gather_59 rfl ⟨rfl, rfl⟩
def fX1_copyFrom_l58 (x0 : Nat) (x1 : Nat) : Nat → Int → Mem → Option (Int × Mem)
  | 0, _, _ => none
  | n + 1, x2, M => (if 8 ≤ x2 then some (x2, M) else if 0 ≤ x2 ∧ x2 < 8 then if 0 ≤ x2 ∧ x2 < 8 then nm (wr M (x0 + 2) (Int.toNat x2) (M (x1 + 2) (Int.toNat x2))) (fun M11 => if 0 ≤ x2 ∧ x2 < 8 then if 0 ≤ x2 ∧ x2 < 8 then if (M11 (x1 + 3) (Int.toNat x2)) = 0 ∨ (M11 (x1 + 3) (Int.toNat x2)) = 1 then nm (wr M11 (x0 + 3) (Int.toNat x2) (M11 (x1 + 3) (Int.toNat x2))) (fun M15 => if -2147483648 ≤ (x2 + 1) ∧ (x2 + 1) ≤ 2147483647 then fX1_copyFrom_l58 x0 x1 n (x2 + 1) M15 else none) else none else none else none) else none else none)
def fX1_copyFrom_l96 (x0 : Nat) (x1 : Nat) : Nat → Int → Mem → Option (Int × Mem)
  | 0, _, _ => none
  | n + 1, x2, M => (if 24 ≤ x2 then some (x2, M) else if 0 ≤ x2 ∧ x2 < 25 then if 0 ≤ x2 ∧ x2 < 25 then nm (wr M (x0 + 5) (Int.toNat x2) (M (x1 + 5) (Int.toNat x2))) (fun M21 => if 0 ≤ x2 ∧ x2 < 25 then if 0 ≤ x2 ∧ x2 < 25 then nm (wr M21 (x0 + 6) (Int.toNat x2) (M21 (x1 + 6) (Int.toNat x2))) (fun M24 => if -2147483648 ≤ (x2 + 1) ∧ (x2 + 1) ≤ 2147483647 then fX1_copyFrom_l96 x0 x1 n (x2 + 1) M24 else none) else none else none) else none else none)
def fX1_copyFrom_l134 (x0 : Nat) (x1 : Nat) : Nat → Int → Mem → Option (Int × Mem)
  | 0, _, _ => none
  | n + 1, x2, M => (if 5 ≤ x2 then some (x2, M) else if 0 ≤ x2 ∧ x2 < 5 then if 0 ≤ x2 ∧ x2 < 5 then nm (wr M (x0 + 11) (Int.toNat x2) (M (x1 + 11) (Int.toNat x2))) (fun M30 => if 0 ≤ x2 ∧ x2 < 5 then if 0 ≤ x2 ∧ x2 < 5 then if (M30 (x1 + 12) (Int.toNat x2)) = 0 ∨ (M30 (x1 + 12) (Int.toNat x2)) = 1 then nm (wr M30 (x0 + 12) (Int.toNat x2) (M30 (x1 + 12) (Int.toNat x2))) (fun M34 => if -2147483648 ≤ (x2 + 1) ∧ (x2 + 1) ≤ 2147483647 then fX1_copyFrom_l134 x0 x1 n (x2 + 1) M34 else none) else none else none else none) else none else none)
def fX1_copyFrom_l171 (x0 : Nat) (x1 : Nat) : Nat → Int → Mem → Option (Int × Mem)
  | 0, _, _ => none
  | n + 1, x2, M => (if 8 ≤ x2 then some (x2, M) else if 0 ≤ x2 ∧ x2 < 8 then if 0 ≤ x2 ∧ x2 < 8 then nm (wr M (x0 + 14) (Int.toNat x2) (M (x1 + 14) (Int.toNat x2))) (fun M40 => if 0 ≤ x2 ∧ x2 < 8 then if 0 ≤ x2 ∧ x2 < 8 then nm (wr M40 (x0 + 15) (Int.toNat x2) (M40 (x1 + 15) (Int.toNat x2))) (fun M43 => if -2147483648 ≤ (x2 + 1) ∧ (x2 + 1) ≤ 2147483647 then fX1_copyFrom_l171 x0 x1 n (x2 + 1) M43 else none) else none else none) else none else none)
def fX1_copyFrom (x0 : Nat) (x1 : Nat) (M : Mem) : Option (Int × Mem) := nm (wr M x0 0 (M x1 0)) (fun M1 => nm (wr M1 x0 3 (M1 x1 3)) (fun M2 => nm (wr M2 x0 6 (M2 x1 6)) (fun M3 => nm (wr M3 x0 7 (M3 x1 7)) (fun M4 => nm (wr M4 x0 8 (M4 x1 8)) (fun M5 => nm (wr M5 x0 9 (M5 x1 9)) (fun M6 => nm (wr M6 x0 12 (M6 x1 12)) (fun M7 => Option.bind (fX1_copyFrom_l58 x0 x1 1000 0 M7) (fun z17 => Option.bind (fX1_copyFrom_l96 x0 x1 1000 0 z17.2) (fun z26 => Option.bind (fX1_copyFrom_l134 x0 x1 1000 0 z26.2) (fun z36 => Option.bind (fX1_copyFrom_l171 x0 x1 1000 0 z36.2) (fun z45 => some (0, z45.2))))))))))))
set_option maxRecDepth 20000 in
theorem lX1_copyFrom_l58 {X : XC} {d : Nat} {Post : Option XV → Mem → Prop} {x0 : Nat} {x1 : Nat} (hx0 : Sh x0 = (11, 15)) (hx1 : Sh x1 = (11, 15)) : ∀ (n : Nat) (x2 : Int) (M : Mem) (t0 : Int × Mem), fX1_copyFrom_l58 x0 x1 n x2 M = some t0 → Go X mX1_copyFrom d 94 [(0, XR x0), (1, XR x1)] [] t0.2 Post → Go X mX1_copyFrom d 58 [(0, XR x0), (1, XR x1), (2, XI x2)] [] M Post := by
  intro n
  induction n with
  | zero => intro _ _ _ h; cases h
  | succ n ih =>
    intro x2 M t0 h K
    unfold fX1_copyFrom_l58 at h
    refine g_iload_n 2 dX1_copyFrom_58 rfl ?_
    refine g_bip dX1_copyFrom_59 rfl ?_
    refine g_icmp_ge (tgt := 94) dX1_copyFrom_61 (by decide) (fun b8 => ?_) (fun b8 => ?_)
    · replace h := ifp b8 h
      cases h
      exact g_sub [0, 1] rfl K
    · replace h := ifn b8 h
      refine g_pc (pc' := 64) rfl ?_
      refine g_aload_n 0 dX1_copyFrom_64 rfl ?_
      refine g_getR dX1_copyFrom_65 flX1_15 (by decide) rfl hx0 ?_
      refine g_iload_n 2 dX1_copyFrom_68 rfl ?_
      refine g_aload_n 1 dX1_copyFrom_69 rfl ?_
      refine g_getR dX1_copyFrom_70 flX1_15 (by decide) rfl hx1 ?_
      refine g_iload_n 2 dX1_copyFrom_73 rfl ?_
      obtain ⟨c9, h⟩ := chk_some h
      refine g_iald dX1_copyFrom_74 (sf_1_1 hx1) c9.1 c9.2 ?_
      obtain ⟨c10, h⟩ := chk_some h
      refine g_iast dX1_copyFrom_75 (sf_1_1 hx0) c10.1 c10.2 ?_
      refine g_nmM (fun M11 eM11 => ?_)
      replace h := nm_s eM11 h
      refine g_pc (pc' := 76) rfl ?_
      refine g_aload_n 0 dX1_copyFrom_76 rfl ?_
      refine g_getR dX1_copyFrom_77 flX1_19 (by decide) rfl hx0 ?_
      refine g_iload_n 2 dX1_copyFrom_80 rfl ?_
      refine g_aload_n 1 dX1_copyFrom_81 rfl ?_
      refine g_getR dX1_copyFrom_82 flX1_19 (by decide) rfl hx1 ?_
      refine g_iload_n 2 dX1_copyFrom_85 rfl ?_
      obtain ⟨c12, h⟩ := chk_some h
      refine g_zald dX1_copyFrom_86 (sf_1_2 hx1) c12.1 c12.2 ?_
      obtain ⟨c13, h⟩ := chk_some h
      obtain ⟨c14, h⟩ := chk_some h
      refine g_zast dX1_copyFrom_87 (sf_1_2 hx0) c13.1 c13.2 c14 ?_
      refine g_nmM (fun M15 eM15 => ?_)
      replace h := nm_s eM15 h
      obtain ⟨c16, h⟩ := chk_some h
      refine g_iinc (ls' := [(2, XI (x2 + 1)), (0, XR x0), (1, XR x1)]) 2 dX1_copyFrom_88 rfl rfl c16 (by decide) rfl ?_
      refine g_pc (pc' := 91) rfl ?_
      refine g_goto (tgt := 58) dX1_copyFrom_91 (by decide) ?_
      exact g_sub [1, 2, 0] rfl (ih _ _ _ h K)
set_option maxRecDepth 20000 in
theorem lX1_copyFrom_l96 {X : XC} {d : Nat} {Post : Option XV → Mem → Prop} {x0 : Nat} {x1 : Nat} (hx0 : Sh x0 = (11, 15)) (hx1 : Sh x1 = (11, 15)) : ∀ (n : Nat) (x2 : Int) (M : Mem) (t0 : Int × Mem), fX1_copyFrom_l96 x0 x1 n x2 M = some t0 → Go X mX1_copyFrom d 132 [(0, XR x0), (1, XR x1)] [] t0.2 Post → Go X mX1_copyFrom d 96 [(0, XR x0), (1, XR x1), (2, XI x2)] [] M Post := by
  intro n
  induction n with
  | zero => intro _ _ _ h; cases h
  | succ n ih =>
    intro x2 M t0 h K
    unfold fX1_copyFrom_l96 at h
    refine g_iload_n 2 dX1_copyFrom_96 rfl ?_
    refine g_bip dX1_copyFrom_97 rfl ?_
    refine g_icmp_ge (tgt := 132) dX1_copyFrom_99 (by decide) (fun b18 => ?_) (fun b18 => ?_)
    · replace h := ifp b18 h
      cases h
      exact g_sub [0, 1] rfl K
    · replace h := ifn b18 h
      refine g_pc (pc' := 102) rfl ?_
      refine g_aload_n 0 dX1_copyFrom_102 rfl ?_
      refine g_getR dX1_copyFrom_103 flX1_26 (by decide) rfl hx0 ?_
      refine g_iload_n 2 dX1_copyFrom_106 rfl ?_
      refine g_aload_n 1 dX1_copyFrom_107 rfl ?_
      refine g_getR dX1_copyFrom_108 flX1_26 (by decide) rfl hx1 ?_
      refine g_iload_n 2 dX1_copyFrom_111 rfl ?_
      obtain ⟨c19, h⟩ := chk_some h
      refine g_iald dX1_copyFrom_112 (sf_1_4 hx1) c19.1 c19.2 ?_
      obtain ⟨c20, h⟩ := chk_some h
      refine g_iast dX1_copyFrom_113 (sf_1_4 hx0) c20.1 c20.2 ?_
      refine g_nmM (fun M21 eM21 => ?_)
      replace h := nm_s eM21 h
      refine g_pc (pc' := 114) rfl ?_
      refine g_aload_n 0 dX1_copyFrom_114 rfl ?_
      refine g_getR dX1_copyFrom_115 flX1_29 (by decide) rfl hx0 ?_
      refine g_iload_n 2 dX1_copyFrom_118 rfl ?_
      refine g_aload_n 1 dX1_copyFrom_119 rfl ?_
      refine g_getR dX1_copyFrom_120 flX1_29 (by decide) rfl hx1 ?_
      refine g_iload_n 2 dX1_copyFrom_123 rfl ?_
      obtain ⟨c22, h⟩ := chk_some h
      refine g_iald dX1_copyFrom_124 (sf_1_5 hx1) c22.1 c22.2 ?_
      obtain ⟨c23, h⟩ := chk_some h
      refine g_iast dX1_copyFrom_125 (sf_1_5 hx0) c23.1 c23.2 ?_
      refine g_nmM (fun M24 eM24 => ?_)
      replace h := nm_s eM24 h
      obtain ⟨c25, h⟩ := chk_some h
      refine g_iinc (ls' := [(2, XI (x2 + 1)), (0, XR x0), (1, XR x1)]) 2 dX1_copyFrom_126 rfl rfl c25 (by decide) rfl ?_
      refine g_pc (pc' := 129) rfl ?_
      refine g_goto (tgt := 96) dX1_copyFrom_129 (by decide) ?_
      exact g_sub [1, 2, 0] rfl (ih _ _ _ h K)
set_option maxRecDepth 20000 in
theorem lX1_copyFrom_l134 {X : XC} {d : Nat} {Post : Option XV → Mem → Prop} {x0 : Nat} {x1 : Nat} (hx0 : Sh x0 = (11, 15)) (hx1 : Sh x1 = (11, 15)) : ∀ (n : Nat) (x2 : Int) (M : Mem) (t0 : Int × Mem), fX1_copyFrom_l134 x0 x1 n x2 M = some t0 → Go X mX1_copyFrom d 169 [(0, XR x0), (1, XR x1)] [] t0.2 Post → Go X mX1_copyFrom d 134 [(0, XR x0), (1, XR x1), (2, XI x2)] [] M Post := by
  intro n
  induction n with
  | zero => intro _ _ _ h; cases h
  | succ n ih =>
    intro x2 M t0 h K
    unfold fX1_copyFrom_l134 at h
    refine g_iload_n 2 dX1_copyFrom_134 rfl ?_
    refine g_iconst (v := 5) dX1_copyFrom_135 rfl (i32l rfl) ?_
    refine g_icmp_ge (tgt := 169) dX1_copyFrom_136 (by decide) (fun b27 => ?_) (fun b27 => ?_)
    · replace h := ifp b27 h
      cases h
      exact g_sub [0, 1] rfl K
    · replace h := ifn b27 h
      refine g_pc (pc' := 139) rfl ?_
      refine g_aload_n 0 dX1_copyFrom_139 rfl ?_
      refine g_getR dX1_copyFrom_140 flX1_44 (by decide) rfl hx0 ?_
      refine g_iload_n 2 dX1_copyFrom_143 rfl ?_
      refine g_aload_n 1 dX1_copyFrom_144 rfl ?_
      refine g_getR dX1_copyFrom_145 flX1_44 (by decide) rfl hx1 ?_
      refine g_iload_n 2 dX1_copyFrom_148 rfl ?_
      obtain ⟨c28, h⟩ := chk_some h
      refine g_iald dX1_copyFrom_149 (sf_1_10 hx1) c28.1 c28.2 ?_
      obtain ⟨c29, h⟩ := chk_some h
      refine g_iast dX1_copyFrom_150 (sf_1_10 hx0) c29.1 c29.2 ?_
      refine g_nmM (fun M30 eM30 => ?_)
      replace h := nm_s eM30 h
      refine g_pc (pc' := 151) rfl ?_
      refine g_aload_n 0 dX1_copyFrom_151 rfl ?_
      refine g_getR dX1_copyFrom_152 flX1_47 (by decide) rfl hx0 ?_
      refine g_iload_n 2 dX1_copyFrom_155 rfl ?_
      refine g_aload_n 1 dX1_copyFrom_156 rfl ?_
      refine g_getR dX1_copyFrom_157 flX1_47 (by decide) rfl hx1 ?_
      refine g_iload_n 2 dX1_copyFrom_160 rfl ?_
      obtain ⟨c31, h⟩ := chk_some h
      refine g_zald dX1_copyFrom_161 (sf_1_11 hx1) c31.1 c31.2 ?_
      obtain ⟨c32, h⟩ := chk_some h
      obtain ⟨c33, h⟩ := chk_some h
      refine g_zast dX1_copyFrom_162 (sf_1_11 hx0) c32.1 c32.2 c33 ?_
      refine g_nmM (fun M34 eM34 => ?_)
      replace h := nm_s eM34 h
      obtain ⟨c35, h⟩ := chk_some h
      refine g_iinc (ls' := [(2, XI (x2 + 1)), (0, XR x0), (1, XR x1)]) 2 dX1_copyFrom_163 rfl rfl c35 (by decide) rfl ?_
      refine g_pc (pc' := 166) rfl ?_
      refine g_goto (tgt := 134) dX1_copyFrom_166 (by decide) ?_
      exact g_sub [1, 2, 0] rfl (ih _ _ _ h K)
set_option maxRecDepth 20000 in
theorem lX1_copyFrom_l171 {X : XC} {d : Nat} {Post : Option XV → Mem → Prop} {x0 : Nat} {x1 : Nat} (hx0 : Sh x0 = (11, 15)) (hx1 : Sh x1 = (11, 15)) : ∀ (n : Nat) (x2 : Int) (M : Mem) (t0 : Int × Mem), fX1_copyFrom_l171 x0 x1 n x2 M = some t0 → Go X mX1_copyFrom d 207 [] [] t0.2 Post → Go X mX1_copyFrom d 171 [(0, XR x0), (1, XR x1), (2, XI x2)] [] M Post := by
  intro n
  induction n with
  | zero => intro _ _ _ h; cases h
  | succ n ih =>
    intro x2 M t0 h K
    unfold fX1_copyFrom_l171 at h
    refine g_iload_n 2 dX1_copyFrom_171 rfl ?_
    refine g_bip dX1_copyFrom_172 rfl ?_
    refine g_icmp_ge (tgt := 207) dX1_copyFrom_174 (by decide) (fun b37 => ?_) (fun b37 => ?_)
    · replace h := ifp b37 h
      cases h
      exact g_sub [] rfl K
    · replace h := ifn b37 h
      refine g_pc (pc' := 177) rfl ?_
      refine g_aload_n 0 dX1_copyFrom_177 rfl ?_
      refine g_getR dX1_copyFrom_178 flX1_53 (by decide) rfl hx0 ?_
      refine g_iload_n 2 dX1_copyFrom_181 rfl ?_
      refine g_aload_n 1 dX1_copyFrom_182 rfl ?_
      refine g_getR dX1_copyFrom_183 flX1_53 (by decide) rfl hx1 ?_
      refine g_iload_n 2 dX1_copyFrom_186 rfl ?_
      obtain ⟨c38, h⟩ := chk_some h
      refine g_iald dX1_copyFrom_187 (sf_1_13 hx1) c38.1 c38.2 ?_
      obtain ⟨c39, h⟩ := chk_some h
      refine g_iast dX1_copyFrom_188 (sf_1_13 hx0) c39.1 c39.2 ?_
      refine g_nmM (fun M40 eM40 => ?_)
      replace h := nm_s eM40 h
      refine g_pc (pc' := 189) rfl ?_
      refine g_aload_n 0 dX1_copyFrom_189 rfl ?_
      refine g_getR dX1_copyFrom_190 flX1_56 (by decide) rfl hx0 ?_
      refine g_iload_n 2 dX1_copyFrom_193 rfl ?_
      refine g_aload_n 1 dX1_copyFrom_194 rfl ?_
      refine g_getR dX1_copyFrom_195 flX1_56 (by decide) rfl hx1 ?_
      refine g_iload_n 2 dX1_copyFrom_198 rfl ?_
      obtain ⟨c41, h⟩ := chk_some h
      refine g_iald dX1_copyFrom_199 (sf_1_14 hx1) c41.1 c41.2 ?_
      obtain ⟨c42, h⟩ := chk_some h
      refine g_iast dX1_copyFrom_200 (sf_1_14 hx0) c42.1 c42.2 ?_
      refine g_nmM (fun M43 eM43 => ?_)
      replace h := nm_s eM43 h
      obtain ⟨c44, h⟩ := chk_some h
      refine g_iinc (ls' := [(2, XI (x2 + 1)), (0, XR x0), (1, XR x1)]) 2 dX1_copyFrom_201 rfl rfl c44 (by decide) rfl ?_
      refine g_pc (pc' := 204) rfl ?_
      refine g_goto (tgt := 171) dX1_copyFrom_204 (by decide) ?_
      exact g_sub [1, 2, 0] rfl (ih _ _ _ h K)
set_option maxRecDepth 20000 in
theorem kX1_copyFrom {X : XC} {d : Nat} {x0 : Nat} {x1 : Nat} (hx0 : Sh x0 = (11, 15)) (hx1 : Sh x1 = (11, 15)) {M : Mem} {q : Int × Mem} (h : fX1_copyFrom x0 x1 M = some q) : Ct X mX1_copyFrom d [XR x0, XR x1] M (pV q) := by
  unfold fX1_copyFrom at h
  refine ct_go (by decide +kernel) (Nat.le_of_ble_eq_true rfl) (ls := [(0, XR x0), (1, XR x1)]) rfl ?_
  refine g_aload_n 0 dX1_copyFrom_0 rfl ?_
  refine g_aload_n 1 dX1_copyFrom_1 rfl ?_
  refine g_getI dX1_copyFrom_2 flX1_9 (by decide) rfl hx1 ?_
  refine g_putI dX1_copyFrom_5 flX1_9 (by decide) rfl hx0 ?_
  refine g_nmM (fun M1 eM1 => ?_)
  replace h := nm_s eM1 h
  refine g_aload_n 0 dX1_copyFrom_8 rfl ?_
  refine g_aload_n 1 dX1_copyFrom_9 rfl ?_
  refine g_getI dX1_copyFrom_10 flX1_23 (by decide) rfl hx1 ?_
  refine g_putI dX1_copyFrom_13 flX1_23 (by decide) rfl hx0 ?_
  refine g_nmM (fun M2 eM2 => ?_)
  replace h := nm_s eM2 h
  refine g_pc (pc' := 16) rfl ?_
  refine g_aload_n 0 dX1_copyFrom_16 rfl ?_
  refine g_aload_n 1 dX1_copyFrom_17 rfl ?_
  refine g_getI dX1_copyFrom_18 flX1_32 (by decide) rfl hx1 ?_
  refine g_putI dX1_copyFrom_21 flX1_32 (by decide) rfl hx0 ?_
  refine g_nmM (fun M3 eM3 => ?_)
  replace h := nm_s eM3 h
  refine g_aload_n 0 dX1_copyFrom_24 rfl ?_
  refine g_aload_n 1 dX1_copyFrom_25 rfl ?_
  refine g_getI dX1_copyFrom_26 flX1_35 (by decide) rfl hx1 ?_
  refine g_putI dX1_copyFrom_29 flX1_35 (by decide) rfl hx0 ?_
  refine g_nmM (fun M4 eM4 => ?_)
  replace h := nm_s eM4 h
  refine g_aload_n 0 dX1_copyFrom_32 rfl ?_
  refine g_pc (pc' := 33) rfl ?_
  refine g_aload_n 1 dX1_copyFrom_33 rfl ?_
  refine g_getI dX1_copyFrom_34 flX1_38 (by decide) rfl hx1 ?_
  refine g_putI dX1_copyFrom_37 flX1_38 (by decide) rfl hx0 ?_
  refine g_nmM (fun M5 eM5 => ?_)
  replace h := nm_s eM5 h
  refine g_aload_n 0 dX1_copyFrom_40 rfl ?_
  refine g_aload_n 1 dX1_copyFrom_41 rfl ?_
  refine g_getI dX1_copyFrom_42 flX1_41 (by decide) rfl hx1 ?_
  refine g_putI dX1_copyFrom_45 flX1_41 (by decide) rfl hx0 ?_
  refine g_nmM (fun M6 eM6 => ?_)
  replace h := nm_s eM6 h
  refine g_aload_n 0 dX1_copyFrom_48 rfl ?_
  refine g_aload_n 1 dX1_copyFrom_49 rfl ?_
  refine g_pc (pc' := 50) rfl ?_
  refine g_getI dX1_copyFrom_50 flX1_50 (by decide) rfl hx1 ?_
  refine g_putI dX1_copyFrom_53 flX1_50 (by decide) rfl hx0 ?_
  refine g_nmM (fun M7 eM7 => ?_)
  replace h := nm_s eM7 h
  refine g_iconst (v := 0) dX1_copyFrom_56 rfl (i32l rfl) ?_
  refine g_istore_n (ls' := [(2, XI 0), (0, XR x0), (1, XR x1)]) dX1_copyFrom_57 (by decide) rfl ?_
  obtain ⟨z17, hz17, h⟩ := bnd_some h
  refine g_sub (ls' := [(0, XR x0), (1, XR x1), (2, XI 0)]) [1, 2, 0] rfl ?_
  refine lX1_copyFrom_l58 hx0 hx1 1000 _ _ _ hz17 ?_
  refine g_iconst (v := 0) dX1_copyFrom_94 rfl (i32l rfl) ?_
  refine g_istore_n (ls' := [(2, XI 0), (0, XR x0), (1, XR x1)]) dX1_copyFrom_95 (by decide) rfl ?_
  obtain ⟨z26, hz26, h⟩ := bnd_some h
  refine g_sub (ls' := [(0, XR x0), (1, XR x1), (2, XI 0)]) [1, 2, 0] rfl ?_
  refine lX1_copyFrom_l96 hx0 hx1 1000 _ _ _ hz26 ?_
  refine g_iconst (v := 0) dX1_copyFrom_132 rfl (i32l rfl) ?_
  refine g_istore_n (ls' := [(2, XI 0), (0, XR x0), (1, XR x1)]) dX1_copyFrom_133 (by decide) rfl ?_
  obtain ⟨z36, hz36, h⟩ := bnd_some h
  refine g_sub (ls' := [(0, XR x0), (1, XR x1), (2, XI 0)]) [1, 2, 0] rfl ?_
  refine lX1_copyFrom_l134 hx0 hx1 1000 _ _ _ hz36 ?_
  refine g_iconst (v := 0) dX1_copyFrom_169 rfl (i32l rfl) ?_
  refine g_istore_n (ls' := [(2, XI 0), (0, XR x0), (1, XR x1)]) dX1_copyFrom_170 (by decide) rfl ?_
  obtain ⟨z45, hz45, h⟩ := bnd_some h
  refine g_sub (ls' := [(0, XR x0), (1, XR x1), (2, XI 0)]) [1, 2, 0] rfl ?_
  refine lX1_copyFrom_l171 hx0 hx1 1000 _ _ _ hz45 ?_
  cases h
  exact g_return dX1_copyFrom_207 rfl ⟨rfl, rfl⟩
def fX1_hasCandidate (x0 : Nat) (x1 : Int) (M : Mem) : Option (Int × Mem) := Option.bind ((if x1 < 0 then some (0) else (if (M x0 0) ≤ x1 then some (0) else some (1))) : Option (Int)) (fun t3 => if t3 = 0 ∨ t3 = 1 then some (t3, M) else none)
set_option maxRecDepth 20000 in
theorem kX1_hasCandidate {X : XC} {d : Nat} {x0 : Nat} {x1 : Int} (hx0 : Sh x0 = (11, 15)) {M : Mem} {q : Int × Mem} (h : fX1_hasCandidate x0 x1 M = some q) : Ct X mX1_hasCandidate d [XR x0, XI x1] M (pI q) := by
  unfold fX1_hasCandidate at h
  refine ct_go (by decide +kernel) (Nat.le_of_ble_eq_true rfl) (ls := [(0, XR x0), (1, XI x1)]) rfl ?_
  refine g_iload_n 1 dX1_hasCandidate_0 rfl ?_
  obtain ⟨t3, ht3, h⟩ := bnd_some h
  have Kt3 : Go X mX1_hasCandidate d 17 [] [XI t3] M (pI q) := by
    obtain ⟨cz, h⟩ := chk_some h
    cases h
    exact g_zreturn dX1_hasCandidate_17 rfl cz ⟨rfl, rfl⟩
  refine g_if_lt (tgt := 16) dX1_hasCandidate_1 (by decide) (fun b4 => ?_) (fun b4 => ?_)
  · replace ht3 := ifp b4 ht3
    refine g_iconst (v := 0) dX1_hasCandidate_16 rfl (i32l rfl) ?_
    cases ht3
    exact g_sub [] rfl Kt3
  · replace ht3 := ifn b4 ht3
    refine g_pc (pc' := 4) rfl ?_
    refine g_iload_n 1 dX1_hasCandidate_4 rfl ?_
    refine g_aload_n 0 dX1_hasCandidate_5 rfl ?_
    refine g_getI dX1_hasCandidate_6 flX1_9 (by decide) rfl hx0 ?_
    refine g_icmp_ge (tgt := 16) dX1_hasCandidate_9 (by decide) (fun b5 => ?_) (fun b5 => ?_)
    · replace ht3 := ifp b5 ht3
      refine g_iconst (v := 0) dX1_hasCandidate_16 rfl (i32l rfl) ?_
      cases ht3
      exact g_sub [] rfl Kt3
    · replace ht3 := ifn b5 ht3
      refine g_pc (pc' := 12) rfl ?_
      refine g_iconst (v := 1) dX1_hasCandidate_12 rfl (i32l rfl) ?_
      refine g_goto (tgt := 17) dX1_hasCandidate_13 (by decide) ?_
      cases ht3
      exact g_sub [] rfl Kt3
def fX1_hasBallot (x0 : Nat) (x1 : Int) (M : Mem) : Option (Int × Mem) := Option.bind ((if x1 < 0 then some (0) else (if (M x0 3) ≤ x1 then some (0) else some (1))) : Option (Int)) (fun t3 => if t3 = 0 ∨ t3 = 1 then some (t3, M) else none)
set_option maxRecDepth 20000 in
theorem kX1_hasBallot {X : XC} {d : Nat} {x0 : Nat} {x1 : Int} (hx0 : Sh x0 = (11, 15)) {M : Mem} {q : Int × Mem} (h : fX1_hasBallot x0 x1 M = some q) : Ct X mX1_hasBallot d [XR x0, XI x1] M (pI q) := by
  unfold fX1_hasBallot at h
  refine ct_go (by decide +kernel) (Nat.le_of_ble_eq_true rfl) (ls := [(0, XR x0), (1, XI x1)]) rfl ?_
  refine g_iload_n 1 dX1_hasBallot_0 rfl ?_
  obtain ⟨t3, ht3, h⟩ := bnd_some h
  have Kt3 : Go X mX1_hasBallot d 17 [] [XI t3] M (pI q) := by
    obtain ⟨cz, h⟩ := chk_some h
    cases h
    exact g_zreturn dX1_hasBallot_17 rfl cz ⟨rfl, rfl⟩
  refine g_if_lt (tgt := 16) dX1_hasBallot_1 (by decide) (fun b4 => ?_) (fun b4 => ?_)
  · replace ht3 := ifp b4 ht3
    refine g_iconst (v := 0) dX1_hasBallot_16 rfl (i32l rfl) ?_
    cases ht3
    exact g_sub [] rfl Kt3
  · replace ht3 := ifn b4 ht3
    refine g_pc (pc' := 4) rfl ?_
    refine g_iload_n 1 dX1_hasBallot_4 rfl ?_
    refine g_aload_n 0 dX1_hasBallot_5 rfl ?_
    refine g_getI dX1_hasBallot_6 flX1_23 (by decide) rfl hx0 ?_
    refine g_icmp_ge (tgt := 16) dX1_hasBallot_9 (by decide) (fun b5 => ?_) (fun b5 => ?_)
    · replace ht3 := ifp b5 ht3
      refine g_iconst (v := 0) dX1_hasBallot_16 rfl (i32l rfl) ?_
      cases ht3
      exact g_sub [] rfl Kt3
    · replace ht3 := ifn b5 ht3
      refine g_pc (pc' := 12) rfl ?_
      refine g_iconst (v := 1) dX1_hasBallot_12 rfl (i32l rfl) ?_
      refine g_goto (tgt := 17) dX1_hasBallot_13 (by decide) ?_
      cases ht3
      exact g_sub [] rfl Kt3
def fX1_together_l4 (x0 : Nat) : Nat → Int → Int → Mem → Option (Int × Int × Mem)
  | 0, _, _, _ => none
  | n + 1, x1, x3, M => (if (M x0 3) ≤ x3 then some (x1, x3, M) else if 0 ≤ x3 ∧ x3 < 25 then if -9223372036854775808 ≤ (x1 + (M (x0 + 6) (Int.toNat x3))) ∧ (x1 + (M (x0 + 6) (Int.toNat x3))) ≤ 9223372036854775807 then nm ((x1 + (M (x0 + 6) (Int.toNat x3)))) (fun v4 => if -2147483648 ≤ (x3 + 1) ∧ (x3 + 1) ≤ 2147483647 then fX1_together_l4 x0 n v4 (x3 + 1) M else none) else none else none)
def fX1_together (x0 : Nat) (M : Mem) : Option (Int × Mem) := Option.bind (fX1_together_l4 x0 1000 0 0 M) (fun z6 => some (z6.1, z6.2.2))
set_option maxRecDepth 20000 in
theorem lX1_together_l4 {X : XC} {d : Nat} {Post : Option XV → Mem → Prop} {x0 : Nat} (hx0 : Sh x0 = (11, 15)) : ∀ (n : Nat) (x1 x3 : Int) (M : Mem) (t0 : Int × Int × Mem), fX1_together_l4 x0 n x1 x3 M = some t0 → Go X mX1_together d 28 [(1, XL t0.1)] [] t0.2.2 Post → Go X mX1_together d 4 [(0, XR x0), (1, XL x1), (3, XI x3)] [] M Post := by
  intro n
  induction n with
  | zero => intro _ _ _ _ h; cases h
  | succ n ih =>
    intro x1 x3 M t0 h K
    unfold fX1_together_l4 at h
    refine g_iload_n 2 dX1_together_4 rfl ?_
    refine g_aload_n 0 dX1_together_5 rfl ?_
    refine g_getI dX1_together_6 flX1_23 (by decide) rfl hx0 ?_
    refine g_icmp_ge (tgt := 28) dX1_together_9 (by decide) (fun b1 => ?_) (fun b1 => ?_)
    · replace h := ifp b1 h
      cases h
      exact g_sub [1] rfl K
    · replace h := ifn b1 h
      refine g_pc (pc' := 12) rfl ?_
      refine g_lload_n 1 dX1_together_12 rfl ?_
      refine g_aload_n 0 dX1_together_13 rfl ?_
      refine g_getR dX1_together_14 flX1_29 (by decide) rfl hx0 ?_
      refine g_iload_n 2 dX1_together_17 rfl ?_
      obtain ⟨c2, h⟩ := chk_some h
      refine g_iald dX1_together_18 (sf_1_5 hx0) c2.1 c2.2 ?_
      refine g_i2l dX1_together_19 ?_
      obtain ⟨c3, h⟩ := chk_some h
      refine g_ladd dX1_together_20 rfl c3 ?_
      refine g_nmL (fun v4 ev4 => ?_)
      replace h := nm_s ev4 h
      refine g_lstore_n (ls' := [(1, XL v4), (0, XR x0), (3, XI x3)]) dX1_together_21 (by decide) rfl ?_
      refine g_pc (pc' := 22) rfl ?_
      obtain ⟨c5, h⟩ := chk_some h
      refine g_iinc (ls' := [(3, XI (x3 + 1)), (1, XL v4), (0, XR x0)]) 2 dX1_together_22 rfl rfl c5 (by decide) rfl ?_
      refine g_goto (tgt := 4) dX1_together_25 (by decide) ?_
      exact g_sub [2, 1, 0] rfl (ih _ _ _ _ h K)
set_option maxRecDepth 20000 in
theorem kX1_together {X : XC} {d : Nat} {x0 : Nat} (hx0 : Sh x0 = (11, 15)) {M : Mem} {q : Int × Mem} (h : fX1_together x0 M = some q) : Ct X mX1_together d [XR x0] M (pJ q) := by
  unfold fX1_together at h
  refine ct_go (by decide +kernel) (Nat.le_of_ble_eq_true rfl) (ls := [(0, XR x0)]) rfl ?_
  refine g_lconst (v := 0) dX1_together_0 rfl (i64l rfl) ?_
  refine g_lstore_n (ls' := [(1, XL 0), (0, XR x0)]) dX1_together_1 (by decide) rfl ?_
  refine g_iconst (v := 0) dX1_together_2 rfl (i32l rfl) ?_
  refine g_istore_n (ls' := [(3, XI 0), (1, XL 0), (0, XR x0)]) dX1_together_3 (by decide) rfl ?_
  obtain ⟨z6, hz6, h⟩ := bnd_some h
  refine g_sub (ls' := [(0, XR x0), (1, XL 0), (3, XI 0)]) [2, 1, 0] rfl ?_
  refine lX1_together_l4 hx0 1000 _ _ _ _ hz6 ?_
  refine g_lload_n 0 dX1_together_28 rfl ?_
  cases h
  exact g_lreturn dX1_together_29 rfl ⟨rfl, rfl⟩
def fX1_placeInLot_l2 (x0 : Nat) (x1 : Int) : Nat → Int → Mem → Option ((Int × Mem) ⊕ (Int × Mem))
  | 0, _, _ => none
  | n + 1, x2, M => (if (M x0 0) ≤ x2 then some (.inl ((-1), M)) else if 0 ≤ x2 ∧ x2 < 8 then (if (M (x0 + 2) (Int.toNat x2)) = x1 then some (.inl (x2, M)) else if -2147483648 ≤ (x2 + 1) ∧ (x2 + 1) ≤ 2147483647 then fX1_placeInLot_l2 x0 x1 n (x2 + 1) M else none) else none)
def fX1_placeInLot (x0 : Nat) (x1 : Int) (M : Mem) : Option (Int × Mem) := lr (fX1_placeInLot_l2 x0 x1 1000 0 M) (fun r => r) (fun _ => none)
set_option maxRecDepth 20000 in
theorem lX1_placeInLot_l2 {X : XC} {d : Nat} {Post : Option XV → Mem → Prop} {x0 : Nat} {x1 : Int} (hx0 : Sh x0 = (11, 15)) : ∀ (n : Nat) (x2 : Int) (M : Mem) (z : (Int × Mem) ⊕ (Int × Mem)), fX1_placeInLot_l2 x0 x1 n x2 M = some z → (∀ r, z = .inl r → Post (some (XI r.1)) r.2) → Go X mX1_placeInLot d 2 [(0, XR x0), (1, XI x1), (2, XI x2)] [] M Post := by
  intro n
  induction n with
  | zero => intro _ _ _ h; cases h
  | succ n ih =>
    intro x2 M z h K1
    unfold fX1_placeInLot_l2 at h
    refine g_iload_n 2 dX1_placeInLot_2 rfl ?_
    refine g_aload_n 0 dX1_placeInLot_3 rfl ?_
    refine g_getI dX1_placeInLot_4 flX1_9 (by decide) rfl hx0 ?_
    refine g_icmp_ge (tgt := 28) dX1_placeInLot_7 (by decide) (fun b1 => ?_) (fun b1 => ?_)
    · replace h := ifp b1 h
      refine g_iconst (v := -1) dX1_placeInLot_28 rfl (i32l rfl) ?_
      cases h
      exact g_ireturn dX1_placeInLot_29 rfl (K1 ((-1), M) rfl)
    · replace h := ifn b1 h
      refine g_pc (pc' := 10) rfl ?_
      refine g_aload_n 0 dX1_placeInLot_10 rfl ?_
      refine g_getR dX1_placeInLot_11 flX1_15 (by decide) rfl hx0 ?_
      refine g_iload_n 2 dX1_placeInLot_14 rfl ?_
      obtain ⟨c2, h⟩ := chk_some h
      refine g_iald dX1_placeInLot_15 (sf_1_1 hx0) c2.1 c2.2 ?_
      refine g_iload_n 1 dX1_placeInLot_16 rfl ?_
      refine g_icmp_ne (tgt := 22) dX1_placeInLot_17 (by decide) (fun b3 => ?_) (fun b3 => ?_)
      · replace h := ifn b3 h
        obtain ⟨c4, h⟩ := chk_some h
        refine g_iinc (ls' := [(2, XI (x2 + 1)), (0, XR x0), (1, XI x1)]) 2 dX1_placeInLot_22 rfl rfl c4 (by decide) rfl ?_
        refine g_goto (tgt := 2) dX1_placeInLot_25 (by decide) ?_
        exact g_sub [1, 2, 0] rfl (ih _ _ _ h K1)
      · replace h := ifp b3 h
        refine g_pc (pc' := 20) rfl ?_
        refine g_iload_n 2 dX1_placeInLot_20 rfl ?_
        cases h
        exact g_ireturn dX1_placeInLot_21 rfl (K1 (x2, M) rfl)
set_option maxRecDepth 20000 in
theorem kX1_placeInLot {X : XC} {d : Nat} {x0 : Nat} {x1 : Int} (hx0 : Sh x0 = (11, 15)) {M : Mem} {q : Int × Mem} (h : fX1_placeInLot x0 x1 M = some q) : Ct X mX1_placeInLot d [XR x0, XI x1] M (pI q) := by
  unfold fX1_placeInLot at h
  refine ct_go (by decide +kernel) (Nat.le_of_ble_eq_true rfl) (ls := [(0, XR x0), (1, XI x1)]) rfl ?_
  refine g_iconst (v := 0) dX1_placeInLot_0 rfl (i32l rfl) ?_
  refine g_istore_n (ls' := [(2, XI 0), (0, XR x0), (1, XI x1)]) dX1_placeInLot_1 (by decide) rfl ?_
  obtain ⟨z5, hz5, rz5, h⟩ := lr_some h
  refine g_sub (ls' := [(0, XR x0), (1, XI x1), (2, XI 0)]) [1, 2, 0] rfl ?_
  refine lX1_placeInLot_l2 hx0 1000 _ _ _ hz5 (fun r e => ?_)
  have rz5 := rz5 r e
  subst rz5
  exact ⟨rfl, rfl⟩
def fX1_firstHere (x0 : Nat) (x1 : Int) (M : Mem) : Option (Int × Mem) := if 0 ≤ x1 ∧ x1 < 25 then Option.bind (fX2_leftOf (M (x0 + 5) (Int.toNat x1)) (x0 + 3) M) (fun q2 => Option.bind (fX2_at q2.1 0 q2.2) (fun q3 => nm (q3.1) (fun v4 => Option.bind ((if 0 ≤ v4 then some (v4) else some ((-5))) : Option (Int)) (fun t6 => some (t6, q3.2))))) else none
set_option maxRecDepth 20000 in
theorem kX1_firstHere {X : XC} {d : Nat} {x0 : Nat} {x1 : Int} (hx0 : Sh x0 = (11, 15)) {M : Mem} {q : Int × Mem} (h : fX1_firstHere x0 x1 M = some q) : Ct X mX1_firstHere (d + 2) [XR x0, XI x1] M (pI q) := by
  unfold fX1_firstHere at h
  refine ct_go (by decide +kernel) (Nat.le_of_ble_eq_true rfl) (ls := [(0, XR x0), (1, XI x1)]) rfl ?_
  refine g_aload_n 0 dX1_firstHere_0 rfl ?_
  refine g_getR dX1_firstHere_1 flX1_26 (by decide) rfl hx0 ?_
  refine g_iload_n 1 dX1_firstHere_4 rfl ?_
  obtain ⟨c1, h⟩ := chk_some h
  refine g_iald dX1_firstHere_5 (sf_1_4 hx0) c1.1 c1.2 ?_
  refine g_aload_n 0 dX1_firstHere_6 rfl ?_
  refine g_getR dX1_firstHere_7 flX1_19 (by decide) rfl hx0 ?_
  obtain ⟨q2, hq2, h⟩ := bnd_some h
  refine s_I (as := [XI (M (x0 + 5) (Int.toNat x1)), XR (x0 + 3)]) dX1_firstHere_10 mlX1_59 mdX2_leftOf msX2_leftOf rfl (Nat.le_of_ble_eq_true rfl) (kX2_leftOf (sf_1_2 hx0) hq2) rfl ?_
  refine g_iconst (v := 0) dX1_firstHere_13 rfl (i32l rfl) ?_
  refine g_pc (pc' := 14) rfl ?_
  obtain ⟨q3, hq3, h⟩ := bnd_some h
  refine s_I (as := [XI q2.1, XI 0]) dX1_firstHere_14 mlX1_65 mdX2_at msX2_at rfl (Nat.le_of_ble_eq_true rfl) (kX2_at  hq3) rfl ?_
  refine g_nmI (fun v4 ev4 => ?_)
  replace h := nm_s ev4 h
  refine g_istore_n (ls' := [(2, XI v4), (0, XR x0), (1, XI x1)]) dX1_firstHere_17 (by decide) rfl ?_
  refine g_iload_n 0 dX1_firstHere_18 rfl ?_
  obtain ⟨t6, ht6, h⟩ := bnd_some h
  have Kt6 : Go X mX1_firstHere (d + 2) 28 [] [XI t6] q3.2 (pI q) := by
    cases h
    exact g_ireturn dX1_firstHere_28 rfl ⟨rfl, rfl⟩
  refine g_if_ge (tgt := 27) dX1_firstHere_19 (by decide) (fun b7 => ?_) (fun b7 => ?_)
  · replace ht6 := ifp b7 ht6
    refine g_iload_n 0 dX1_firstHere_27 rfl ?_
    cases ht6
    exact g_sub [] rfl Kt6
  · replace ht6 := ifn b7 ht6
    refine g_pc (pc' := 22) rfl ?_
    refine g_bip dX1_firstHere_22 rfl ?_
    refine g_goto (tgt := 28) dX1_firstHere_24 (by decide) ?_
    cases ht6
    exact g_sub [] rfl Kt6
def fX1_manyFirst_l4 (x0 : Nat) (x1 : Int) : Nat → Int → Int → Mem → Option (Int × Int × Mem)
  | 0, _, _, _ => none
  | n + 1, x2, x3, M => (if (M x0 3) ≤ x3 then some (x2, x3, M) else Option.bind (fX1_firstHere x0 x3 M) (fun q2 => Option.bind ((if q2.1 = x1 then if 0 ≤ x3 ∧ x3 < 25 then if -2147483648 ≤ (x2 + (q2.2 (x0 + 6) (Int.toNat x3))) ∧ (x2 + (q2.2 (x0 + 6) (Int.toNat x3))) ≤ 2147483647 then nm ((x2 + (q2.2 (x0 + 6) (Int.toNat x3)))) (fun v11 => some (v11)) else none else none else some (x2)) : Option (Int)) (fun t7 => if -2147483648 ≤ (x3 + 1) ∧ (x3 + 1) ≤ 2147483647 then fX1_manyFirst_l4 x0 x1 n t7 (x3 + 1) q2.2 else none)))
def fX1_manyFirst (x0 : Nat) (x1 : Int) (M : Mem) : Option (Int × Mem) := Option.bind (fX1_manyFirst_l4 x0 x1 1000 0 0 M) (fun z13 => some (z13.1, z13.2.2))
set_option maxRecDepth 20000 in
theorem lX1_manyFirst_l4 {X : XC} {d : Nat} {Post : Option XV → Mem → Prop} {x0 : Nat} {x1 : Int} (hx0 : Sh x0 = (11, 15)) : ∀ (n : Nat) (x2 x3 : Int) (M : Mem) (t0 : Int × Int × Mem), fX1_manyFirst_l4 x0 x1 n x2 x3 M = some t0 → Go X mX1_manyFirst (d + 3) 36 [(2, XI t0.1)] [] t0.2.2 Post → Go X mX1_manyFirst (d + 3) 4 [(0, XR x0), (1, XI x1), (2, XI x2), (3, XI x3)] [] M Post := by
  intro n
  induction n with
  | zero => intro _ _ _ _ h; cases h
  | succ n ih =>
    intro x2 x3 M t0 h K
    unfold fX1_manyFirst_l4 at h
    refine g_iload_n 3 dX1_manyFirst_4 rfl ?_
    refine g_aload_n 0 dX1_manyFirst_5 rfl ?_
    refine g_getI dX1_manyFirst_6 flX1_23 (by decide) rfl hx0 ?_
    refine g_icmp_ge (tgt := 36) dX1_manyFirst_9 (by decide) (fun b1 => ?_) (fun b1 => ?_)
    · replace h := ifp b1 h
      cases h
      exact g_sub [2] rfl K
    · replace h := ifn b1 h
      refine g_pc (pc' := 12) rfl ?_
      refine g_aload_n 0 dX1_manyFirst_12 rfl ?_
      refine g_iload_n 3 dX1_manyFirst_13 rfl ?_
      obtain ⟨q2, hq2, h⟩ := bnd_some h
      refine v_I (ci := 1) (as := [XI x3]) dX1_manyFirst_14 mlX1_69 mdX1_firstHere mvX1_firstHere rfl hx0 rfl (Nat.le_of_ble_eq_true rfl) (kX1_firstHere hx0 hq2) rfl ?_
      refine g_iload_n 1 dX1_manyFirst_17 rfl ?_
      obtain ⟨t7, ht7, h⟩ := bnd_some h
      have Kt7 : Go X mX1_manyFirst (d + 3) 30 [(0, XR x0), (1, XI x1), (2, XI t7), (3, XI x3)] [] q2.2 Post := by
        obtain ⟨c12, h⟩ := chk_some h
        refine g_iinc (ls' := [(3, XI (x3 + 1)), (0, XR x0), (1, XI x1), (2, XI t7)]) 3 dX1_manyFirst_30 rfl rfl c12 (by decide) rfl ?_
        refine g_goto (tgt := 4) dX1_manyFirst_33 (by decide) ?_
        exact g_sub [1, 2, 3, 0] rfl (ih _ _ _ _ h K)
      refine g_icmp_ne (tgt := 30) dX1_manyFirst_18 (by decide) (fun b8 => ?_) (fun b8 => ?_)
      · replace ht7 := ifn b8 ht7
        cases ht7
        exact g_sub [0, 1, 2, 3] rfl Kt7
      · replace ht7 := ifp b8 ht7
        refine g_pc (pc' := 21) rfl ?_
        refine g_iload_n 2 dX1_manyFirst_21 rfl ?_
        refine g_aload_n 0 dX1_manyFirst_22 rfl ?_
        refine g_getR dX1_manyFirst_23 flX1_29 (by decide) rfl hx0 ?_
        refine g_iload_n 3 dX1_manyFirst_26 rfl ?_
        obtain ⟨c9, ht7⟩ := chk_some ht7
        refine g_iald dX1_manyFirst_27 (sf_1_5 hx0) c9.1 c9.2 ?_
        obtain ⟨c10, ht7⟩ := chk_some ht7
        refine g_iadd dX1_manyFirst_28 rfl c10 ?_
        refine g_nmI (fun v11 ev11 => ?_)
        replace ht7 := nm_s ev11 ht7
        refine g_istore_n (ls' := [(2, XI v11), (0, XR x0), (1, XI x1), (3, XI x3)]) dX1_manyFirst_29 (by decide) rfl ?_
        cases ht7
        exact g_sub [1, 2, 0, 3] rfl Kt7
set_option maxRecDepth 20000 in
theorem kX1_manyFirst {X : XC} {d : Nat} {x0 : Nat} {x1 : Int} (hx0 : Sh x0 = (11, 15)) {M : Mem} {q : Int × Mem} (h : fX1_manyFirst x0 x1 M = some q) : Ct X mX1_manyFirst (d + 3) [XR x0, XI x1] M (pI q) := by
  unfold fX1_manyFirst at h
  refine ct_go (by decide +kernel) (Nat.le_of_ble_eq_true rfl) (ls := [(0, XR x0), (1, XI x1)]) rfl ?_
  refine g_iconst (v := 0) dX1_manyFirst_0 rfl (i32l rfl) ?_
  refine g_istore_n (ls' := [(2, XI 0), (0, XR x0), (1, XI x1)]) dX1_manyFirst_1 (by decide) rfl ?_
  refine g_iconst (v := 0) dX1_manyFirst_2 rfl (i32l rfl) ?_
  refine g_istore_n (ls' := [(3, XI 0), (2, XI 0), (0, XR x0), (1, XI x1)]) dX1_manyFirst_3 (by decide) rfl ?_
  obtain ⟨z13, hz13, h⟩ := bnd_some h
  refine g_sub (ls' := [(0, XR x0), (1, XI x1), (2, XI 0), (3, XI 0)]) [2, 3, 1, 0] rfl ?_
  refine lX1_manyFirst_l4 hx0 1000 _ _ _ _ hz13 ?_
  refine g_iload_n 0 dX1_manyFirst_36 rfl ?_
  cases h
  exact g_ireturn dX1_manyFirst_37 rfl ⟨rfl, rfl⟩
def fX2_placeOf_l2 (x0 : Int) (x1 : Int) : Nat → Int → Mem → Option ((Int × Mem) ⊕ (Int × Mem))
  | 0, _, _ => none
  | n + 1, x2, M => (if 8 ≤ x2 then some (.inl (8, M)) else Option.bind (fX2_at x0 x2 M) (fun q2 => (if q2.1 = x1 then some (.inl (x2, q2.2)) else if -2147483648 ≤ (x2 + 1) ∧ (x2 + 1) ≤ 2147483647 then fX2_placeOf_l2 x0 x1 n (x2 + 1) q2.2 else none)))
def fX2_placeOf (x0 : Int) (x1 : Int) (M : Mem) : Option (Int × Mem) := lr (fX2_placeOf_l2 x0 x1 1000 0 M) (fun r => r) (fun _ => none)
set_option maxRecDepth 20000 in
theorem lX2_placeOf_l2 {X : XC} {d : Nat} {Post : Option XV → Mem → Prop} {x0 : Int} {x1 : Int}  : ∀ (n : Nat) (x2 : Int) (M : Mem) (z : (Int × Mem) ⊕ (Int × Mem)), fX2_placeOf_l2 x0 x1 n x2 M = some z → (∀ r, z = .inl r → Post (some (XI r.1)) r.2) → Go X mX2_placeOf (d + 1) 2 [(0, XI x0), (1, XI x1), (2, XI x2)] [] M Post := by
  intro n
  induction n with
  | zero => intro _ _ _ h; cases h
  | succ n ih =>
    intro x2 M z h K1
    unfold fX2_placeOf_l2 at h
    refine g_iload_n 2 dX2_placeOf_2 rfl ?_
    refine g_gets dX2_placeOf_3 gsX2_8 ?_
    refine g_alenC dX2_placeOf_6 ?_
    refine g_icmp_ge (tgt := 27) dX2_placeOf_7 (by decide) (fun b1 => ?_) (fun b1 => ?_)
    · replace h := ifp b1 h
      refine g_gets dX2_placeOf_27 gsX2_8 ?_
      refine g_alenC dX2_placeOf_30 ?_
      cases h
      exact g_ireturn dX2_placeOf_31 rfl (K1 (8, M) rfl)
    · replace h := ifn b1 h
      refine g_pc (pc' := 10) rfl ?_
      refine g_iload_n 0 dX2_placeOf_10 rfl ?_
      refine g_iload_n 2 dX2_placeOf_11 rfl ?_
      obtain ⟨q2, hq2, h⟩ := bnd_some h
      refine s_I (as := [XI x0, XI x2]) dX2_placeOf_12 mlX2_14 mdX2_at msX2_at rfl (Nat.le_of_ble_eq_true rfl) (kX2_at  hq2) rfl ?_
      refine g_iload_n 1 dX2_placeOf_15 rfl ?_
      refine g_icmp_ne (tgt := 21) dX2_placeOf_16 (by decide) (fun b3 => ?_) (fun b3 => ?_)
      · replace h := ifn b3 h
        obtain ⟨c4, h⟩ := chk_some h
        refine g_iinc (ls' := [(2, XI (x2 + 1)), (0, XI x0), (1, XI x1)]) 2 dX2_placeOf_21 rfl rfl c4 (by decide) rfl ?_
        refine g_goto (tgt := 2) dX2_placeOf_24 (by decide) ?_
        exact g_sub [1, 2, 0] rfl (ih _ _ _ h K1)
      · replace h := ifp b3 h
        refine g_pc (pc' := 19) rfl ?_
        refine g_iload_n 2 dX2_placeOf_19 rfl ?_
        cases h
        exact g_ireturn dX2_placeOf_20 rfl (K1 (x2, q2.2) rfl)
set_option maxRecDepth 20000 in
theorem kX2_placeOf {X : XC} {d : Nat} {x0 : Int} {x1 : Int}  {M : Mem} {q : Int × Mem} (h : fX2_placeOf x0 x1 M = some q) : Ct X mX2_placeOf (d + 1) [XI x0, XI x1] M (pI q) := by
  unfold fX2_placeOf at h
  refine ct_go (by decide +kernel) (Nat.le_of_ble_eq_true rfl) (ls := [(0, XI x0), (1, XI x1)]) rfl ?_
  refine g_iconst (v := 0) dX2_placeOf_0 rfl (i32l rfl) ?_
  refine g_istore_n (ls' := [(2, XI 0), (0, XI x0), (1, XI x1)]) dX2_placeOf_1 (by decide) rfl ?_
  obtain ⟨z5, hz5, rz5, h⟩ := lr_some h
  refine g_sub (ls' := [(0, XI x0), (1, XI x1), (2, XI 0)]) [1, 2, 0] rfl ?_
  refine lX2_placeOf_l2  1000 _ _ _ hz5 (fun r e => ?_)
  have rz5 := rz5 r e
  subst rz5
  exact ⟨rfl, rfl⟩
def fX1_manyAhead_l5 (x0 : Nat) (x1 : Int) (x2 : Int) : Nat → Int → Int → Mem → Option (Int × Int × Mem)
  | 0, _, _, _ => none
  | n + 1, x3, x4, M => (if (M x0 3) ≤ x4 then some (x3, x4, M) else if 0 ≤ x4 ∧ x4 < 25 then Option.bind (fX2_placeOf (M (x0 + 5) (Int.toNat x4)) x1 M) (fun q3 => if 0 ≤ x4 ∧ x4 < 25 then Option.bind (fX2_placeOf (q3.2 (x0 + 5) (Int.toNat x4)) x2 q3.2) (fun q5 => Option.bind ((if q5.1 ≤ q3.1 then some (x3) else if 0 ≤ x4 ∧ x4 < 25 then if -2147483648 ≤ (x3 + (q5.2 (x0 + 6) (Int.toNat x4))) ∧ (x3 + (q5.2 (x0 + 6) (Int.toNat x4))) ≤ 2147483647 then nm ((x3 + (q5.2 (x0 + 6) (Int.toNat x4)))) (fun v14 => some (v14)) else none else none) : Option (Int)) (fun t10 => if -2147483648 ≤ (x4 + 1) ∧ (x4 + 1) ≤ 2147483647 then fX1_manyAhead_l5 x0 x1 x2 n t10 (x4 + 1) q5.2 else none)) else none) else none)
def fX1_manyAhead (x0 : Nat) (x1 : Int) (x2 : Int) (M : Mem) : Option (Int × Mem) := Option.bind (fX1_manyAhead_l5 x0 x1 x2 1000 0 0 M) (fun z16 => some (z16.1, z16.2.2))
set_option maxRecDepth 20000 in
theorem lX1_manyAhead_l5 {X : XC} {d : Nat} {Post : Option XV → Mem → Prop} {x0 : Nat} {x1 : Int} {x2 : Int} (hx0 : Sh x0 = (11, 15)) : ∀ (n : Nat) (x3 x4 : Int) (M : Mem) (t0 : Int × Int × Mem), fX1_manyAhead_l5 x0 x1 x2 n x3 x4 M = some t0 → Go X mX1_manyAhead (d + 2) 55 [(3, XI t0.1)] [] t0.2.2 Post → Go X mX1_manyAhead (d + 2) 5 [(0, XR x0), (1, XI x1), (2, XI x2), (3, XI x3), (4, XI x4)] [] M Post := by
  intro n
  induction n with
  | zero => intro _ _ _ _ h; cases h
  | succ n ih =>
    intro x3 x4 M t0 h K
    unfold fX1_manyAhead_l5 at h
    refine g_iload 4 dX1_manyAhead_5 rfl ?_
    refine g_aload_n 0 dX1_manyAhead_7 rfl ?_
    refine g_getI dX1_manyAhead_8 flX1_23 (by decide) rfl hx0 ?_
    refine g_icmp_ge (tgt := 55) dX1_manyAhead_11 (by decide) (fun b1 => ?_) (fun b1 => ?_)
    · replace h := ifp b1 h
      cases h
      exact g_sub [3] rfl K
    · replace h := ifn b1 h
      refine g_pc (pc' := 14) rfl ?_
      refine g_aload_n 0 dX1_manyAhead_14 rfl ?_
      refine g_getR dX1_manyAhead_15 flX1_26 (by decide) rfl hx0 ?_
      refine g_iload 4 dX1_manyAhead_18 rfl ?_
      obtain ⟨c2, h⟩ := chk_some h
      refine g_iald dX1_manyAhead_20 (sf_1_4 hx0) c2.1 c2.2 ?_
      refine g_iload_n 1 dX1_manyAhead_21 rfl ?_
      obtain ⟨q3, hq3, h⟩ := bnd_some h
      refine s_I (as := [XI (M (x0 + 5) (Int.toNat x4)), XI x1]) dX1_manyAhead_22 mlX1_73 mdX2_placeOf msX2_placeOf rfl (Nat.le_of_ble_eq_true rfl) (kX2_placeOf  hq3) rfl ?_
      refine g_aload_n 0 dX1_manyAhead_25 rfl ?_
      refine g_getR dX1_manyAhead_26 flX1_26 (by decide) rfl hx0 ?_
      refine g_pc (pc' := 29) rfl ?_
      refine g_iload 4 dX1_manyAhead_29 rfl ?_
      obtain ⟨c4, h⟩ := chk_some h
      refine g_iald dX1_manyAhead_31 (sf_1_4 hx0) c4.1 c4.2 ?_
      refine g_iload_n 2 dX1_manyAhead_32 rfl ?_
      obtain ⟨q5, hq5, h⟩ := bnd_some h
      refine s_I (as := [XI (q3.2 (x0 + 5) (Int.toNat x4)), XI x2]) dX1_manyAhead_33 mlX1_73 mdX2_placeOf msX2_placeOf rfl (Nat.le_of_ble_eq_true rfl) (kX2_placeOf  hq5) rfl ?_
      obtain ⟨t10, ht10, h⟩ := bnd_some h
      have Kt10 : Go X mX1_manyAhead (d + 2) 49 [(0, XR x0), (1, XI x1), (2, XI x2), (3, XI t10), (4, XI x4)] [] q5.2 Post := by
        obtain ⟨c15, h⟩ := chk_some h
        refine g_iinc (ls' := [(4, XI (x4 + 1)), (0, XR x0), (1, XI x1), (2, XI x2), (3, XI t10)]) 4 dX1_manyAhead_49 rfl rfl c15 (by decide) rfl ?_
        refine g_goto (tgt := 5) dX1_manyAhead_52 (by decide) ?_
        exact g_sub [1, 2, 3, 4, 0] rfl (ih _ _ _ _ h K)
      refine g_icmp_ge (tgt := 49) dX1_manyAhead_36 (by decide) (fun b11 => ?_) (fun b11 => ?_)
      · replace ht10 := ifp b11 ht10
        cases ht10
        exact g_sub [0, 1, 2, 3, 4] rfl Kt10
      · replace ht10 := ifn b11 ht10
        refine g_pc (pc' := 39) rfl ?_
        refine g_iload_n 3 dX1_manyAhead_39 rfl ?_
        refine g_aload_n 0 dX1_manyAhead_40 rfl ?_
        refine g_getR dX1_manyAhead_41 flX1_29 (by decide) rfl hx0 ?_
        refine g_iload 4 dX1_manyAhead_44 rfl ?_
        obtain ⟨c12, ht10⟩ := chk_some ht10
        refine g_iald dX1_manyAhead_46 (sf_1_5 hx0) c12.1 c12.2 ?_
        obtain ⟨c13, ht10⟩ := chk_some ht10
        refine g_iadd dX1_manyAhead_47 rfl c13 ?_
        refine g_nmI (fun v14 ev14 => ?_)
        replace ht10 := nm_s ev14 ht10
        refine g_istore_n (ls' := [(3, XI v14), (0, XR x0), (1, XI x1), (2, XI x2), (4, XI x4)]) dX1_manyAhead_48 (by decide) rfl ?_
        cases ht10
        exact g_sub [1, 2, 3, 0, 4] rfl Kt10
set_option maxRecDepth 20000 in
theorem kX1_manyAhead {X : XC} {d : Nat} {x0 : Nat} {x1 : Int} {x2 : Int} (hx0 : Sh x0 = (11, 15)) {M : Mem} {q : Int × Mem} (h : fX1_manyAhead x0 x1 x2 M = some q) : Ct X mX1_manyAhead (d + 2) [XR x0, XI x1, XI x2] M (pI q) := by
  unfold fX1_manyAhead at h
  refine ct_go (by decide +kernel) (Nat.le_of_ble_eq_true rfl) (ls := [(0, XR x0), (1, XI x1), (2, XI x2)]) rfl ?_
  refine g_iconst (v := 0) dX1_manyAhead_0 rfl (i32l rfl) ?_
  refine g_istore_n (ls' := [(3, XI 0), (0, XR x0), (1, XI x1), (2, XI x2)]) dX1_manyAhead_1 (by decide) rfl ?_
  refine g_iconst (v := 0) dX1_manyAhead_2 rfl (i32l rfl) ?_
  refine g_istore (ls' := [(4, XI 0), (3, XI 0), (0, XR x0), (1, XI x1), (2, XI x2)]) dX1_manyAhead_3 (by decide) rfl ?_
  obtain ⟨z16, hz16, h⟩ := bnd_some h
  refine g_sub (ls' := [(0, XR x0), (1, XI x1), (2, XI x2), (3, XI 0), (4, XI 0)]) [2, 3, 4, 1, 0] rfl ?_
  refine lX1_manyAhead_l5 hx0 1000 _ _ _ _ hz16 ?_
  refine g_iload_n 0 dX1_manyAhead_55 rfl ?_
  cases h
  exact g_ireturn dX1_manyAhead_56 rfl ⟨rfl, rfl⟩
def fX1_isSeenSo_l2 (x0 : Nat) (x1 : Int) : Nat → Int → Mem → Option ((Int × Mem) ⊕ (Int × Mem))
  | 0, _, _ => none
  | n + 1, x2, M => (if (M x0 9) ≤ x2 then some (.inl (1, M)) else if 0 ≤ x2 ∧ x2 < 5 then Option.bind ((if (bAnd (bShr x1 (M (x0 + 11) (Int.toNat x2))) 1) = 0 then some (0) else some (1)) : Option (Int)) (fun t4 => if 0 ≤ x2 ∧ x2 < 5 then (if t4 = (M (x0 + 12) (Int.toNat x2)) then if -2147483648 ≤ (x2 + 1) ∧ (x2 + 1) ≤ 2147483647 then fX1_isSeenSo_l2 x0 x1 n (x2 + 1) M else none else some (.inl (0, M))) else none) else none)
def fX1_isSeenSo (x0 : Nat) (x1 : Int) (M : Mem) : Option (Int × Mem) := lr (fX1_isSeenSo_l2 x0 x1 1000 0 M) (fun r => r) (fun _ => none)
set_option maxRecDepth 20000 in
theorem lX1_isSeenSo_l2 {X : XC} {d : Nat} {Post : Option XV → Mem → Prop} {x0 : Nat} {x1 : Int} (hx0 : Sh x0 = (11, 15)) : ∀ (n : Nat) (x2 : Int) (M : Mem) (z : (Int × Mem) ⊕ (Int × Mem)), fX1_isSeenSo_l2 x0 x1 n x2 M = some z → (∀ r, z = .inl r → Post (some (XI r.1)) r.2) → Go X mX1_isSeenSo d 2 [(0, XR x0), (1, XI x1), (2, XI x2)] [] M Post := by
  intro n
  induction n with
  | zero => intro _ _ _ h; cases h
  | succ n ih =>
    intro x2 M z h K1
    unfold fX1_isSeenSo_l2 at h
    refine g_iload_n 2 dX1_isSeenSo_2 rfl ?_
    refine g_aload_n 0 dX1_isSeenSo_3 rfl ?_
    refine g_getI dX1_isSeenSo_4 flX1_41 (by decide) rfl hx0 ?_
    refine g_icmp_ge (tgt := 45) dX1_isSeenSo_7 (by decide) (fun b1 => ?_) (fun b1 => ?_)
    · replace h := ifp b1 h
      refine g_iconst (v := 1) dX1_isSeenSo_45 rfl (i32l rfl) ?_
      cases h
      exact g_zreturn dX1_isSeenSo_46 rfl (by decide) (K1 (1, M) rfl)
    · replace h := ifn b1 h
      refine g_pc (pc' := 10) rfl ?_
      refine g_iload_n 1 dX1_isSeenSo_10 rfl ?_
      refine g_aload_n 0 dX1_isSeenSo_11 rfl ?_
      refine g_getR dX1_isSeenSo_12 flX1_44 (by decide) rfl hx0 ?_
      refine g_iload_n 2 dX1_isSeenSo_15 rfl ?_
      obtain ⟨c2, h⟩ := chk_some h
      refine g_iald dX1_isSeenSo_16 (sf_1_10 hx0) c2.1 c2.2 ?_
      refine g_ishr dX1_isSeenSo_17 ?_
      refine g_iconst (v := 1) dX1_isSeenSo_18 rfl (i32l rfl) ?_
      refine g_iand dX1_isSeenSo_19 ?_
      refine g_pc (pc' := 20) rfl ?_
      obtain ⟨t4, ht4, h⟩ := bnd_some h
      have Kt4 : Go X mX1_isSeenSo d 28 [(0, XR x0), (1, XI x1), (2, XI x2)] [XI t4] M Post := by
        refine g_aload_n 0 dX1_isSeenSo_28 rfl ?_
        refine g_getR dX1_isSeenSo_29 flX1_47 (by decide) rfl hx0 ?_
        refine g_iload_n 2 dX1_isSeenSo_32 rfl ?_
        obtain ⟨c6, h⟩ := chk_some h
        refine g_zald dX1_isSeenSo_33 (sf_1_11 hx0) c6.1 c6.2 ?_
        refine g_icmp_eq (tgt := 39) dX1_isSeenSo_34 (by decide) (fun b7 => ?_) (fun b7 => ?_)
        · replace h := ifp b7 h
          obtain ⟨c8, h⟩ := chk_some h
          refine g_iinc (ls' := [(2, XI (x2 + 1)), (0, XR x0), (1, XI x1)]) 2 dX1_isSeenSo_39 rfl rfl c8 (by decide) rfl ?_
          refine g_goto (tgt := 2) dX1_isSeenSo_42 (by decide) ?_
          exact g_sub [1, 2, 0] rfl (ih _ _ _ h K1)
        · replace h := ifn b7 h
          refine g_pc (pc' := 37) rfl ?_
          refine g_iconst (v := 0) dX1_isSeenSo_37 rfl (i32l rfl) ?_
          cases h
          exact g_zreturn dX1_isSeenSo_38 rfl (by decide) (K1 (0, M) rfl)
      refine g_if_eq (tgt := 27) dX1_isSeenSo_20 (by decide) (fun b5 => ?_) (fun b5 => ?_)
      · replace ht4 := ifp b5 ht4
        refine g_iconst (v := 0) dX1_isSeenSo_27 rfl (i32l rfl) ?_
        cases ht4
        exact g_sub [0, 1, 2] rfl Kt4
      · replace ht4 := ifn b5 ht4
        refine g_pc (pc' := 23) rfl ?_
        refine g_iconst (v := 1) dX1_isSeenSo_23 rfl (i32l rfl) ?_
        refine g_goto (tgt := 28) dX1_isSeenSo_24 (by decide) ?_
        cases ht4
        exact g_sub [0, 1, 2] rfl Kt4
set_option maxRecDepth 20000 in
theorem kX1_isSeenSo {X : XC} {d : Nat} {x0 : Nat} {x1 : Int} (hx0 : Sh x0 = (11, 15)) {M : Mem} {q : Int × Mem} (h : fX1_isSeenSo x0 x1 M = some q) : Ct X mX1_isSeenSo d [XR x0, XI x1] M (pI q) := by
  unfold fX1_isSeenSo at h
  refine ct_go (by decide +kernel) (Nat.le_of_ble_eq_true rfl) (ls := [(0, XR x0), (1, XI x1)]) rfl ?_
  refine g_iconst (v := 0) dX1_isSeenSo_0 rfl (i32l rfl) ?_
  refine g_istore_n (ls' := [(2, XI 0), (0, XR x0), (1, XI x1)]) dX1_isSeenSo_1 (by decide) rfl ?_
  obtain ⟨z9, hz9, rz9, h⟩ := lr_some h
  refine g_sub (ls' := [(0, XR x0), (1, XI x1), (2, XI 0)]) [1, 2, 0] rfl ?_
  refine lX1_isSeenSo_l2 hx0 1000 _ _ _ hz9 (fun r e => ?_)
  have rz9 := rz9 r e
  subst rz9
  exact ⟨rfl, rfl⟩
def fX1_emptyLedBy_l2 (x0 : Nat) (x1 : Int) : Nat → Int → Mem → Option (Int × Mem)
  | 0, _, _ => none
  | n + 1, x2, M => (if (M x0 3) ≤ x2 then some (x2, M) else Option.bind (fX1_firstHere x0 x2 M) (fun q2 => Option.bind ((if q2.1 = x1 then if 0 ≤ x2 ∧ x2 < 25 then nm (wr q2.2 (x0 + 6) (Int.toNat x2) 0) (fun M9 => some (M9)) else none else some (q2.2)) : Option (Mem)) (fun t6 => if -2147483648 ≤ (x2 + 1) ∧ (x2 + 1) ≤ 2147483647 then fX1_emptyLedBy_l2 x0 x1 n (x2 + 1) t6 else none)))
def fX1_emptyLedBy (x0 : Nat) (x1 : Int) (M : Mem) : Option (Int × Mem) := Option.bind (fX1_emptyLedBy_l2 x0 x1 1000 0 M) (fun z11 => some (0, z11.2))
set_option maxRecDepth 20000 in
theorem lX1_emptyLedBy_l2 {X : XC} {d : Nat} {Post : Option XV → Mem → Prop} {x0 : Nat} {x1 : Int} (hx0 : Sh x0 = (11, 15)) : ∀ (n : Nat) (x2 : Int) (M : Mem) (t0 : Int × Mem), fX1_emptyLedBy_l2 x0 x1 n x2 M = some t0 → Go X mX1_emptyLedBy (d + 3) 32 [] [] t0.2 Post → Go X mX1_emptyLedBy (d + 3) 2 [(0, XR x0), (1, XI x1), (2, XI x2)] [] M Post := by
  intro n
  induction n with
  | zero => intro _ _ _ h; cases h
  | succ n ih =>
    intro x2 M t0 h K
    unfold fX1_emptyLedBy_l2 at h
    refine g_iload_n 2 dX1_emptyLedBy_2 rfl ?_
    refine g_aload_n 0 dX1_emptyLedBy_3 rfl ?_
    refine g_getI dX1_emptyLedBy_4 flX1_23 (by decide) rfl hx0 ?_
    refine g_icmp_ge (tgt := 32) dX1_emptyLedBy_7 (by decide) (fun b1 => ?_) (fun b1 => ?_)
    · replace h := ifp b1 h
      cases h
      exact g_sub [] rfl K
    · replace h := ifn b1 h
      refine g_pc (pc' := 10) rfl ?_
      refine g_aload_n 0 dX1_emptyLedBy_10 rfl ?_
      refine g_iload_n 2 dX1_emptyLedBy_11 rfl ?_
      obtain ⟨q2, hq2, h⟩ := bnd_some h
      refine v_I (ci := 1) (as := [XI x2]) dX1_emptyLedBy_12 mlX1_69 mdX1_firstHere mvX1_firstHere rfl hx0 rfl (Nat.le_of_ble_eq_true rfl) (kX1_firstHere hx0 hq2) rfl ?_
      refine g_iload_n 1 dX1_emptyLedBy_15 rfl ?_
      obtain ⟨t6, ht6, h⟩ := bnd_some h
      have Kt6 : Go X mX1_emptyLedBy (d + 3) 26 [(0, XR x0), (1, XI x1), (2, XI x2)] [] t6 Post := by
        obtain ⟨c10, h⟩ := chk_some h
        refine g_iinc (ls' := [(2, XI (x2 + 1)), (0, XR x0), (1, XI x1)]) 2 dX1_emptyLedBy_26 rfl rfl c10 (by decide) rfl ?_
        refine g_goto (tgt := 2) dX1_emptyLedBy_29 (by decide) ?_
        exact g_sub [1, 2, 0] rfl (ih _ _ _ h K)
      refine g_icmp_ne (tgt := 26) dX1_emptyLedBy_16 (by decide) (fun b7 => ?_) (fun b7 => ?_)
      · replace ht6 := ifn b7 ht6
        cases ht6
        exact g_sub [0, 1, 2] rfl Kt6
      · replace ht6 := ifp b7 ht6
        refine g_pc (pc' := 19) rfl ?_
        refine g_aload_n 0 dX1_emptyLedBy_19 rfl ?_
        refine g_getR dX1_emptyLedBy_20 flX1_29 (by decide) rfl hx0 ?_
        refine g_iload_n 2 dX1_emptyLedBy_23 rfl ?_
        refine g_iconst (v := 0) dX1_emptyLedBy_24 rfl (i32l rfl) ?_
        obtain ⟨c8, ht6⟩ := chk_some ht6
        refine g_iast dX1_emptyLedBy_25 (sf_1_5 hx0) c8.1 c8.2 ?_
        refine g_nmM (fun M9 eM9 => ?_)
        replace ht6 := nm_s eM9 ht6
        cases ht6
        exact g_sub [0, 1, 2] rfl Kt6
set_option maxRecDepth 20000 in
theorem kX1_emptyLedBy {X : XC} {d : Nat} {x0 : Nat} {x1 : Int} (hx0 : Sh x0 = (11, 15)) {M : Mem} {q : Int × Mem} (h : fX1_emptyLedBy x0 x1 M = some q) : Ct X mX1_emptyLedBy (d + 3) [XR x0, XI x1] M (pV q) := by
  unfold fX1_emptyLedBy at h
  refine ct_go (by decide +kernel) (Nat.le_of_ble_eq_true rfl) (ls := [(0, XR x0), (1, XI x1)]) rfl ?_
  refine g_iconst (v := 0) dX1_emptyLedBy_0 rfl (i32l rfl) ?_
  refine g_istore_n (ls' := [(2, XI 0), (0, XR x0), (1, XI x1)]) dX1_emptyLedBy_1 (by decide) rfl ?_
  obtain ⟨z11, hz11, h⟩ := bnd_some h
  refine g_sub (ls' := [(0, XR x0), (1, XI x1), (2, XI 0)]) [1, 2, 0] rfl ?_
  refine lX1_emptyLedBy_l2 hx0 1000 _ _ _ hz11 ?_
  cases h
  exact g_return dX1_emptyLedBy_32 rfl ⟨rfl, rfl⟩
def fX1_suffer (x0 : Nat) (x1 : Int) (x2 : Int) (M : Mem) : Option (Int × Mem) := (if x1 = 2 then nm (wr M x0 6 x2) (fun M23 => some (0, M23)) else Option.bind (fX1_hasCandidate x0 x2 M) (fun q2 => (if q2.1 = 0 then some (0, q2.2) else Option.bind ((if x1 = 0 then if 0 ≤ x2 ∧ x2 < 8 then nm (wr q2.2 (x0 + 3) (Int.toNat x2) 1) (fun M16 => some (M16)) else none else if x1 = 1 then if 0 ≤ x2 ∧ x2 < 8 then nm (wr q2.2 (x0 + 3) (Int.toNat x2) 0) (fun M19 => some (M19)) else none else if x1 = 2 then some (q2.2) else if x1 = 3 then Option.bind (fX1_emptyLedBy x0 x2 q2.2) (fun q22 => some (q22.2)) else some (q2.2)) : Option (Mem)) (fun t13 => some (0, t13)))))
set_option maxRecDepth 20000 in
theorem kX1_suffer {X : XC} {d : Nat} {x0 : Nat} {x1 : Int} {x2 : Int} (hx0 : Sh x0 = (11, 15)) {M : Mem} {q : Int × Mem} (h : fX1_suffer x0 x1 x2 M = some q) : Ct X mX1_suffer (d + 4) [XR x0, XI x1, XI x2] M (pV q) := by
  unfold fX1_suffer at h
  refine ct_go (by decide +kernel) (Nat.le_of_ble_eq_true rfl) (ls := [(0, XR x0), (1, XI x1), (2, XI x2)]) rfl ?_
  refine g_iload_n 1 dX1_suffer_0 rfl ?_
  refine g_iconst (v := 2) dX1_suffer_1 rfl (i32l rfl) ?_
  refine g_icmp_ne (tgt := 11) dX1_suffer_2 (by decide) (fun b1 => ?_) (fun b1 => ?_)
  · replace h := ifn b1 h
    refine g_aload_n 0 dX1_suffer_11 rfl ?_
    refine g_iload_n 2 dX1_suffer_12 rfl ?_
    obtain ⟨q2, hq2, h⟩ := bnd_some h
    refine v_I (ci := 1) (as := [XI x2]) dX1_suffer_13 mlX1_76 mdX1_hasCandidate mvX1_hasCandidate rfl hx0 rfl (Nat.le_of_ble_eq_true rfl) (kX1_hasCandidate hx0 hq2) rfl ?_
    refine g_if_ne (tgt := 20) dX1_suffer_16 (by decide) (fun b3 => ?_) (fun b3 => ?_)
    · replace h := ifn b3 h
      refine g_iload_n 1 dX1_suffer_20 rfl ?_
      obtain ⟨t13, ht13, h⟩ := bnd_some h
      have Kt13 : Go X mX1_suffer (d + 4) 80 [] [] t13 (pV q) := by
        cases h
        exact g_return dX1_suffer_80 rfl ⟨rfl, rfl⟩
      by_cases b14 : x1 = 0
      · replace ht13 := ifp b14 ht13
        refine g_tswIn (off := 31) (tgt := 52) dX1_suffer_21 (by rw [b14]; decide) (by rw [b14]; decide) (by rw [b14]; rfl) (by decide) ?_
        refine g_aload_n 0 dX1_suffer_52 rfl ?_
        refine g_getR dX1_suffer_53 flX1_19 (by decide) rfl hx0 ?_
        refine g_iload_n 2 dX1_suffer_56 rfl ?_
        refine g_iconst (v := 1) dX1_suffer_57 rfl (i32l rfl) ?_
        obtain ⟨c15, ht13⟩ := chk_some ht13
        refine g_zast dX1_suffer_58 (sf_1_2 hx0) c15.1 c15.2 (by decide) ?_
        refine g_nmM (fun M16 eM16 => ?_)
        replace ht13 := nm_s eM16 ht13
        refine g_goto (tgt := 80) dX1_suffer_59 (by decide) ?_
        cases ht13
        exact g_sub [] rfl Kt13
      · replace ht13 := ifn b14 ht13
        by_cases b17 : x1 = 1
        · replace ht13 := ifp b17 ht13
          refine g_tswIn (off := 41) (tgt := 62) dX1_suffer_21 (by rw [b17]; decide) (by rw [b17]; decide) (by rw [b17]; rfl) (by decide) ?_
          refine g_aload_n 0 dX1_suffer_62 rfl ?_
          refine g_getR dX1_suffer_63 flX1_19 (by decide) rfl hx0 ?_
          refine g_iload_n 2 dX1_suffer_66 rfl ?_
          refine g_iconst (v := 0) dX1_suffer_67 rfl (i32l rfl) ?_
          obtain ⟨c18, ht13⟩ := chk_some ht13
          refine g_zast dX1_suffer_68 (sf_1_2 hx0) c18.1 c18.2 (by decide) ?_
          refine g_nmM (fun M19 eM19 => ?_)
          replace ht13 := nm_s eM19 ht13
          refine g_goto (tgt := 80) dX1_suffer_69 (by decide) ?_
          cases ht13
          exact g_sub [] rfl Kt13
        · replace ht13 := ifn b17 ht13
          by_cases b20 : x1 = 2
          · replace ht13 := ifp b20 ht13
            refine g_tswIn (off := 59) (tgt := 80) dX1_suffer_21 (by rw [b20]; decide) (by rw [b20]; decide) (by rw [b20]; rfl) (by decide) ?_
            cases ht13
            exact g_sub [] rfl Kt13
          · replace ht13 := ifn b20 ht13
            by_cases b21 : x1 = 3
            · replace ht13 := ifp b21 ht13
              refine g_tswIn (off := 51) (tgt := 72) dX1_suffer_21 (by rw [b21]; decide) (by rw [b21]; decide) (by rw [b21]; rfl) (by decide) ?_
              refine g_aload_n 0 dX1_suffer_72 rfl ?_
              refine g_iload_n 2 dX1_suffer_73 rfl ?_
              obtain ⟨q22, hq22, ht13⟩ := bnd_some ht13
              refine v_V (ci := 1) (as := [XI x2]) dX1_suffer_74 mlX1_80 mdX1_emptyLedBy mvX1_emptyLedBy rfl hx0 rfl (Nat.le_of_ble_eq_true rfl) (kX1_emptyLedBy hx0 hq22) rfl ?_
              refine g_goto (tgt := 80) dX1_suffer_77 (by decide) ?_
              cases ht13
              exact g_sub [] rfl Kt13
            · replace ht13 := ifn b21 ht13
              refine g_tswOut (tgt := 80) dX1_suffer_21 (by omega) (by decide) ?_
              cases ht13
              exact g_sub [] rfl Kt13
    · replace h := ifp b3 h
      refine g_pc (pc' := 19) rfl ?_
      cases h
      exact g_return dX1_suffer_19 rfl ⟨rfl, rfl⟩
  · replace h := ifp b1 h
    refine g_pc (pc' := 5) rfl ?_
    refine g_aload_n 0 dX1_suffer_5 rfl ?_
    refine g_iload_n 2 dX1_suffer_6 rfl ?_
    refine g_putI dX1_suffer_7 flX1_32 (by decide) rfl hx0 ?_
    refine g_nmM (fun M23 eM23 => ?_)
    replace h := nm_s eM23 h
    cases h
    exact g_return dX1_suffer_10 rfl ⟨rfl, rfl⟩
def fX2_isRow_l20 (x1 : Int) : Nat → Int → Int → Int → Mem → Option ((Int × Mem) ⊕ (Int × Int × Int × Mem))
  | 0, _, _, _, _ => none
  | n + 1, x2, x3, x4, M => (if 8 ≤ x4 then some (.inl (1, M)) else (if x3 ≤ 0 then some (.inl (1, M)) else if 0 ≤ x3 then nm ((x3 % 10)) (fun v6 => (if v6 < 1 then some (.inl (0, M)) else (if x1 < v6 then some (.inl (0, M)) else (if (bAnd (bShr x2 v6) 1) = 0 then nm ((bOr x2 (bShl 1 v6))) (fun v10 => if 0 ≤ x3 then nm ((x3 / 10)) (fun v12 => if -2147483648 ≤ (x4 + 1) ∧ (x4 + 1) ≤ 2147483647 then fX2_isRow_l20 x1 n v10 v12 (x4 + 1) M else none) else none) else some (.inl (0, M)))))) else none))
def fX2_isRow (x0 : Int) (x1 : Int) (M : Mem) : Option (Int × Mem) := (if x0 < 1 then some (0, M) else (if x0 ≤ 99999999 then lr (fX2_isRow_l20 x1 1000 0 x0 0 M) (fun r => r) (fun _ => none) else some (0, M)))
set_option maxRecDepth 20000 in
theorem lX2_isRow_l20 {X : XC} {d : Nat} {Post : Option XV → Mem → Prop} {x1 : Int}  : ∀ (n : Nat) (x2 x3 x4 : Int) (M : Mem) (z : (Int × Mem) ⊕ (Int × Int × Int × Mem)), fX2_isRow_l20 x1 n x2 x3 x4 M = some z → (∀ r, z = .inl r → Post (some (XI r.1)) r.2) → Go X mX2_isRow d 20 [(1, XI x1), (2, XI x2), (3, XI x3), (4, XI x4)] [] M Post := by
  intro n
  induction n with
  | zero => intro _ _ _ _ _ h; cases h
  | succ n ih =>
    intro x2 x3 x4 M z h K1
    unfold fX2_isRow_l20 at h
    refine g_iload 3 dX2_isRow_20 rfl ?_
    refine g_gets dX2_isRow_22 gsX2_8 ?_
    refine g_alenC dX2_isRow_25 ?_
    refine g_icmp_ge (tgt := 80) dX2_isRow_26 (by decide) (fun b3 => ?_) (fun b3 => ?_)
    · replace h := ifp b3 h
      refine g_iconst (v := 1) dX2_isRow_80 rfl (i32l rfl) ?_
      cases h
      exact g_zreturn dX2_isRow_81 rfl (by decide) (K1 (1, M) rfl)
    · replace h := ifn b3 h
      refine g_pc (pc' := 29) rfl ?_
      refine g_iload_n 2 dX2_isRow_29 rfl ?_
      refine g_if_le (tgt := 80) dX2_isRow_30 (by decide) (fun b4 => ?_) (fun b4 => ?_)
      · replace h := ifp b4 h
        refine g_iconst (v := 1) dX2_isRow_80 rfl (i32l rfl) ?_
        cases h
        exact g_zreturn dX2_isRow_81 rfl (by decide) (K1 (1, M) rfl)
      · replace h := ifn b4 h
        refine g_pc (pc' := 33) rfl ?_
        refine g_iload_n 2 dX2_isRow_33 rfl ?_
        refine g_bip dX2_isRow_34 rfl ?_
        obtain ⟨c5, h⟩ := chk_some h
        refine g_irem dX2_isRow_36 c5 (by decide) rfl ?_
        refine g_nmI (fun v6 ev6 => ?_)
        replace h := nm_s ev6 h
        refine g_istore (ls' := [(5, XI v6), (1, XI x1), (2, XI x2), (3, XI x3), (4, XI x4)]) dX2_isRow_37 (by decide) rfl ?_
        refine g_iload 0 dX2_isRow_39 rfl ?_
        refine g_iconst (v := 1) dX2_isRow_41 rfl (i32l rfl) ?_
        refine g_icmp_lt (tgt := 60) dX2_isRow_42 (by decide) (fun b7 => ?_) (fun b7 => ?_)
        · replace h := ifp b7 h
          refine g_iconst (v := 0) dX2_isRow_60 rfl (i32l rfl) ?_
          cases h
          exact g_zreturn dX2_isRow_61 rfl (by decide) (K1 (0, M) rfl)
        · replace h := ifn b7 h
          refine g_pc (pc' := 45) rfl ?_
          refine g_iload 0 dX2_isRow_45 rfl ?_
          refine g_iload_n 1 dX2_isRow_47 rfl ?_
          refine g_icmp_gt (tgt := 60) dX2_isRow_48 (by decide) (fun b8 => ?_) (fun b8 => ?_)
          · replace h := ifp b8 h
            refine g_iconst (v := 0) dX2_isRow_60 rfl (i32l rfl) ?_
            cases h
            exact g_zreturn dX2_isRow_61 rfl (by decide) (K1 (0, M) rfl)
          · replace h := ifn b8 h
            refine g_pc (pc' := 51) rfl ?_
            refine g_iload_n 2 dX2_isRow_51 rfl ?_
            refine g_iload 0 dX2_isRow_52 rfl ?_
            refine g_ishr dX2_isRow_54 ?_
            refine g_iconst (v := 1) dX2_isRow_55 rfl (i32l rfl) ?_
            refine g_iand dX2_isRow_56 ?_
            refine g_if_eq (tgt := 62) dX2_isRow_57 (by decide) (fun b9 => ?_) (fun b9 => ?_)
            · replace h := ifp b9 h
              refine g_iload_n 2 dX2_isRow_62 rfl ?_
              refine g_iconst (v := 1) dX2_isRow_63 rfl (i32l rfl) ?_
              refine g_iload 0 dX2_isRow_64 rfl ?_
              refine g_ishl dX2_isRow_66 ?_
              refine g_ior dX2_isRow_67 ?_
              refine g_nmI (fun v10 ev10 => ?_)
              replace h := nm_s ev10 h
              refine g_istore_n (ls' := [(2, XI v10), (5, XI v6), (1, XI x1), (3, XI x3), (4, XI x4)]) dX2_isRow_68 (by decide) rfl ?_
              refine g_iload_n 3 dX2_isRow_69 rfl ?_
              refine g_bip dX2_isRow_70 rfl ?_
              refine g_pc (pc' := 72) rfl ?_
              obtain ⟨c11, h⟩ := chk_some h
              refine g_idiv dX2_isRow_72 c11 (by decide) rfl ?_
              refine g_nmI (fun v12 ev12 => ?_)
              replace h := nm_s ev12 h
              refine g_istore_n (ls' := [(3, XI v12), (2, XI v10), (5, XI v6), (1, XI x1), (4, XI x4)]) dX2_isRow_73 (by decide) rfl ?_
              obtain ⟨c13, h⟩ := chk_some h
              refine g_iinc (ls' := [(4, XI (x4 + 1)), (3, XI v12), (2, XI v10), (5, XI v6), (1, XI x1)]) 4 dX2_isRow_74 rfl rfl c13 (by decide) rfl ?_
              refine g_goto (tgt := 20) dX2_isRow_77 (by decide) ?_
              exact g_sub [4, 2, 1, 0] rfl (ih _ _ _ _ _ h K1)
            · replace h := ifn b9 h
              refine g_pc (pc' := 60) rfl ?_
              refine g_iconst (v := 0) dX2_isRow_60 rfl (i32l rfl) ?_
              cases h
              exact g_zreturn dX2_isRow_61 rfl (by decide) (K1 (0, M) rfl)
set_option maxRecDepth 20000 in
theorem kX2_isRow {X : XC} {d : Nat} {x0 : Int} {x1 : Int}  {M : Mem} {q : Int × Mem} (h : fX2_isRow x0 x1 M = some q) : Ct X mX2_isRow d [XI x0, XI x1] M (pI q) := by
  unfold fX2_isRow at h
  refine ct_go (by decide +kernel) (Nat.le_of_ble_eq_true rfl) (ls := [(0, XI x0), (1, XI x1)]) rfl ?_
  refine g_iload_n 0 dX2_isRow_0 rfl ?_
  refine g_iconst (v := 1) dX2_isRow_1 rfl (i32l rfl) ?_
  refine g_icmp_lt (tgt := 11) dX2_isRow_2 (by decide) (fun b1 => ?_) (fun b1 => ?_)
  · replace h := ifp b1 h
    refine g_iconst (v := 0) dX2_isRow_11 rfl (i32l rfl) ?_
    cases h
    exact g_zreturn dX2_isRow_12 rfl (by decide) ⟨rfl, rfl⟩
  · replace h := ifn b1 h
    refine g_pc (pc' := 5) rfl ?_
    refine g_iload_n 0 dX2_isRow_5 rfl ?_
    refine g_ldc (v := 99999999) dX2_isRow_6 csX2_7 (by decide +kernel) (i32l rfl) ?_
    refine g_icmp_le (tgt := 13) dX2_isRow_8 (by decide) (fun b2 => ?_) (fun b2 => ?_)
    · replace h := ifp b2 h
      refine g_iconst (v := 0) dX2_isRow_13 rfl (i32l rfl) ?_
      refine g_istore_n (ls' := [(2, XI 0), (0, XI x0), (1, XI x1)]) dX2_isRow_14 (by decide) rfl ?_
      refine g_iload_n 1 dX2_isRow_15 rfl ?_
      refine g_istore_n (ls' := [(3, XI x0), (2, XI 0), (0, XI x0), (1, XI x1)]) dX2_isRow_16 (by decide) rfl ?_
      refine g_iconst (v := 0) dX2_isRow_17 rfl (i32l rfl) ?_
      refine g_istore (ls' := [(4, XI 0), (3, XI x0), (2, XI 0), (0, XI x0), (1, XI x1)]) dX2_isRow_18 (by decide) rfl ?_
      obtain ⟨z14, hz14, rz14, h⟩ := lr_some h
      refine g_sub (ls' := [(1, XI x1), (2, XI 0), (3, XI x0), (4, XI 0)]) [4, 2, 1, 0] rfl ?_
      refine lX2_isRow_l20  1000 _ _ _ _ _ hz14 (fun r e => ?_)
      have rz14 := rz14 r e
      subst rz14
      exact ⟨rfl, rfl⟩
    · replace h := ifn b2 h
      refine g_pc (pc' := 11) rfl ?_
      refine g_iconst (v := 0) dX2_isRow_11 rfl (i32l rfl) ?_
      cases h
      exact g_zreturn dX2_isRow_12 rfl (by decide) ⟨rfl, rfl⟩
def fX2_asTold_l4  : Nat → Int → Int → Mem → Option (Int × Int × Mem)
  | 0, _, _, _ => none
  | n + 1, x1, x2, M => (if 8 ≤ x2 then some (x1, x2, M) else if 0 ≤ x1 then Option.bind ((if (x1 % 10) = 0 then if 0 ≤ x1 then nm ((x1 / 10)) (fun v9 => some (v9)) else none else some (x1)) : Option (Int)) (fun t6 => if -2147483648 ≤ (x2 + 1) ∧ (x2 + 1) ≤ 2147483647 then fX2_asTold_l4  n t6 (x2 + 1) M else none) else none)
def fX2_asTold (x0 : Int) (M : Mem) : Option (Int × Mem) := Option.bind (fX2_asTold_l4  1000 x0 1 M) (fun z11 => some (z11.1, z11.2.2))
set_option maxRecDepth 20000 in
theorem lX2_asTold_l4 {X : XC} {d : Nat} {Post : Option XV → Mem → Prop}   : ∀ (n : Nat) (x1 x2 : Int) (M : Mem) (t0 : Int × Int × Mem), fX2_asTold_l4  n x1 x2 M = some t0 → Go X mX2_asTold d 30 [(1, XI t0.1)] [] t0.2.2 Post → Go X mX2_asTold d 4 [(1, XI x1), (2, XI x2)] [] M Post := by
  intro n
  induction n with
  | zero => intro _ _ _ _ h; cases h
  | succ n ih =>
    intro x1 x2 M t0 h K
    unfold fX2_asTold_l4 at h
    refine g_iload_n 1 dX2_asTold_4 rfl ?_
    refine g_gets dX2_asTold_5 gsX2_8 ?_
    refine g_alenC dX2_asTold_8 ?_
    refine g_icmp_ge (tgt := 30) dX2_asTold_9 (by decide) (fun b1 => ?_) (fun b1 => ?_)
    · replace h := ifp b1 h
      cases h
      exact g_sub [0] rfl K
    · replace h := ifn b1 h
      refine g_pc (pc' := 12) rfl ?_
      refine g_iload_n 0 dX2_asTold_12 rfl ?_
      refine g_bip dX2_asTold_13 rfl ?_
      obtain ⟨c2, h⟩ := chk_some h
      refine g_irem dX2_asTold_15 c2 (by decide) rfl ?_
      obtain ⟨t6, ht6, h⟩ := bnd_some h
      have Kt6 : Go X mX2_asTold d 24 [(1, XI t6), (2, XI x2)] [] M Post := by
        obtain ⟨c10, h⟩ := chk_some h
        refine g_iinc (ls' := [(2, XI (x2 + 1)), (1, XI t6)]) 1 dX2_asTold_24 rfl rfl c10 (by decide) rfl ?_
        refine g_goto (tgt := 4) dX2_asTold_27 (by decide) ?_
        exact g_sub [1, 0] rfl (ih _ _ _ _ h K)
      refine g_if_ne (tgt := 24) dX2_asTold_16 (by decide) (fun b7 => ?_) (fun b7 => ?_)
      · replace ht6 := ifn b7 ht6
        cases ht6
        exact g_sub [0, 1] rfl Kt6
      · replace ht6 := ifp b7 ht6
        refine g_pc (pc' := 19) rfl ?_
        refine g_iload_n 0 dX2_asTold_19 rfl ?_
        refine g_bip dX2_asTold_20 rfl ?_
        obtain ⟨c8, ht6⟩ := chk_some ht6
        refine g_idiv dX2_asTold_22 c8 (by decide) rfl ?_
        refine g_nmI (fun v9 ev9 => ?_)
        replace ht6 := nm_s ev9 ht6
        refine g_istore_n (ls' := [(1, XI v9), (2, XI x2)]) dX2_asTold_23 (by decide) rfl ?_
        cases ht6
        exact g_sub [0, 1] rfl Kt6
set_option maxRecDepth 20000 in
theorem kX2_asTold {X : XC} {d : Nat} {x0 : Int}  {M : Mem} {q : Int × Mem} (h : fX2_asTold x0 M = some q) : Ct X mX2_asTold d [XI x0] M (pI q) := by
  unfold fX2_asTold at h
  refine ct_go (by decide +kernel) (Nat.le_of_ble_eq_true rfl) (ls := [(0, XI x0)]) rfl ?_
  refine g_iload_n 0 dX2_asTold_0 rfl ?_
  refine g_istore_n (ls' := [(1, XI x0), (0, XI x0)]) dX2_asTold_1 (by decide) rfl ?_
  refine g_iconst (v := 1) dX2_asTold_2 rfl (i32l rfl) ?_
  refine g_istore_n (ls' := [(2, XI 1), (1, XI x0), (0, XI x0)]) dX2_asTold_3 (by decide) rfl ?_
  obtain ⟨z11, hz11, h⟩ := bnd_some h
  refine g_sub (ls' := [(1, XI x0), (2, XI 1)]) [1, 0] rfl ?_
  refine lX2_asTold_l4  1000 _ _ _ _ hz11 ?_
  refine g_iload_n 0 dX2_asTold_30 rfl ?_
  cases h
  exact g_ireturn dX2_asTold_31 rfl ⟨rfl, rfl⟩
end
