section
def fX8_read_l35 (x0 : Nat) : Nat → Int → Int → Mem → Option (Int × Int × Mem)
  | 0, _, _, _ => none
  | n + 1, x2, x3, M => (if (M (x0 + 200) 2) ≤ x3 then some (x2, x3, M) else if 0 ≤ x3 ∧ x3 < 12 then if 0 ≤ x3 ∧ x3 < 12 then if 0 ≤ x3 ∧ x3 < 12 then Option.bind (fX8_isDone x0 (M ((x0 + 200) + 4) (Int.toNat x3)) (M ((x0 + 200) + 5) (Int.toNat x3)) (M ((x0 + 200) + 6) (Int.toNat x3)) M) (fun q9 => Option.bind ((if q9.1 = 0 then some (x2) else if -2147483648 ≤ (x2 + 1) ∧ (x2 + 1) ≤ 2147483647 then some ((x2 + 1)) else none) : Option (Int)) (fun t12 => if -2147483648 ≤ (x3 + 1) ∧ (x3 + 1) ≤ 2147483647 then fX8_read_l35 x0 n t12 (x3 + 1) q9.2 else none)) else none else none else none)
def fX8_read (x0 : Nat) (M : Mem) : Option (Int × Mem) := Option.bind (fX6_faultToldTo (x0 + 200) (x0 + 300) M) (fun q1 => nm (q1.1) (fun v2 => nm (wr q1.2 (x0 + 200) 0 0) (fun M3 => (if v2 = (-5) then Option.bind (fX8_read_l35 x0 1000 0 0 M3) (fun z16 => some (z16.1, z16.2.2)) else if -2147483648 ≤ ((-10) - v2) ∧ ((-10) - v2) ≤ 2147483647 then some (((-10) - v2), M3) else none))))
set_option maxRecDepth 20000 in
theorem lX8_read_l35 {X : XC} {d : Nat} {Post : Option XV → Mem → Prop} {x0 : Nat} (hx0 : Sh x0 = (17, 10)) : ∀ (n : Nat) (x2 x3 : Int) (M : Mem) (t0 : Int × Int × Mem), fX8_read_l35 x0 n x2 x3 M = some t0 → Go X mX8_read (d + 5) 89 [(2, XI t0.1)] [] t0.2.2 Post → Go X mX8_read (d + 5) 35 [(0, XR x0), (2, XI x2), (3, XI x3)] [] M Post := by
  intro n
  induction n with
  | zero => intro _ _ _ _ h; cases h
  | succ n ih =>
    intro x2 x3 M t0 h K
    unfold fX8_read_l35 at h
    refine g_iload_n 2 dX8_read_35 rfl ?_
    refine g_aload_n 0 dX8_read_36 rfl ?_
    refine g_getR dX8_read_37 flX8_46 (by decide) rfl hx0 ?_
    refine g_getI dX8_read_40 flX8_298 (by decide) rfl (sf_7_7 hx0) ?_
    refine g_icmp_ge (tgt := 89) dX8_read_43 (by decide) (fun b5 => ?_) (fun b5 => ?_)
    · replace h := ifp b5 h
      cases h
      exact g_sub [1] rfl K
    · replace h := ifn b5 h
      refine g_pc (pc' := 46) rfl ?_
      refine g_aload_n 0 dX8_read_46 rfl ?_
      refine g_aload_n 0 dX8_read_47 rfl ?_
      refine g_getR dX8_read_48 flX8_46 (by decide) rfl hx0 ?_
      refine g_getR dX8_read_51 flX8_301 (by decide) rfl (sf_7_7 hx0) ?_
      refine g_iload_n 2 dX8_read_54 rfl ?_
      obtain ⟨c6, h⟩ := chk_some h
      refine g_iald dX8_read_55 (sf_5_3 (sf_7_7 hx0)) c6.1 c6.2 ?_
      refine g_aload_n 0 dX8_read_56 rfl ?_
      refine g_getR dX8_read_57 flX8_46 (by decide) rfl hx0 ?_
      refine g_pc (pc' := 60) rfl ?_
      refine g_getR dX8_read_60 flX8_304 (by decide) rfl (sf_7_7 hx0) ?_
      refine g_iload_n 2 dX8_read_63 rfl ?_
      obtain ⟨c7, h⟩ := chk_some h
      refine g_iald dX8_read_64 (sf_5_4 (sf_7_7 hx0)) c7.1 c7.2 ?_
      refine g_aload_n 0 dX8_read_65 rfl ?_
      refine g_getR dX8_read_66 flX8_46 (by decide) rfl hx0 ?_
      refine g_getR dX8_read_69 flX8_307 (by decide) rfl (sf_7_7 hx0) ?_
      refine g_iload_n 2 dX8_read_72 rfl ?_
      obtain ⟨c8, h⟩ := chk_some h
      refine g_iald dX8_read_73 (sf_5_5 (sf_7_7 hx0)) c8.1 c8.2 ?_
      obtain ⟨q9, hq9, h⟩ := bnd_some h
      refine v_I (ci := 7) (as := [XI (M ((x0 + 200) + 4) (Int.toNat x3)), XI (M ((x0 + 200) + 5) (Int.toNat x3)), XI (M ((x0 + 200) + 6) (Int.toNat x3))]) dX8_read_74 mlX8_310 mdX8_isDone mvX8_isDone rfl hx0 rfl (Nat.le_of_ble_eq_true rfl) (kX8_isDone hx0 hq9) rfl ?_
      refine g_pc (pc' := 77) rfl ?_
      obtain ⟨t12, ht12, h⟩ := bnd_some h
      have Kt12 : Go X mX8_read (d + 5) 83 [(0, XR x0), (2, XI t12), (3, XI x3)] [] q9.2 Post := by
        obtain ⟨c15, h⟩ := chk_some h
        refine g_iinc (ls' := [(3, XI (x3 + 1)), (0, XR x0), (2, XI t12)]) 2 dX8_read_83 rfl rfl c15 (by decide) rfl ?_
        refine g_goto (tgt := 35) dX8_read_86 (by decide) ?_
        exact g_sub [1, 2, 0] rfl (ih _ _ _ _ h K)
      refine g_if_eq (tgt := 83) dX8_read_77 (by decide) (fun b13 => ?_) (fun b13 => ?_)
      · replace ht12 := ifp b13 ht12
        cases ht12
        exact g_sub [0, 1, 2] rfl Kt12
      · replace ht12 := ifn b13 ht12
        refine g_pc (pc' := 80) rfl ?_
        obtain ⟨c14, ht12⟩ := chk_some ht12
        refine g_iinc (ls' := [(2, XI (x2 + 1)), (0, XR x0), (3, XI x3)]) 1 dX8_read_80 rfl rfl c14 (by decide) rfl ?_
        cases ht12
        exact g_sub [1, 0, 2] rfl Kt12
set_option maxRecDepth 20000 in
theorem kX8_read {X : XC} {d : Nat} {x0 : Nat} (hx0 : Sh x0 = (17, 10)) {M : Mem} {q : Int × Mem} (h : fX8_read x0 M = some q) : Ct X mX8_read (d + 5) [XR x0] M (pI q) := by
  unfold fX8_read at h
  refine ct_go (by decide +kernel) (Nat.le_of_ble_eq_true rfl) (ls := [(0, XR x0)]) rfl ?_
  refine g_aload_n 0 dX8_read_0 rfl ?_
  refine g_getR dX8_read_1 flX8_46 (by decide) rfl hx0 ?_
  refine g_aload_n 0 dX8_read_4 rfl ?_
  refine g_getR dX8_read_5 flX8_53 (by decide) rfl hx0 ?_
  obtain ⟨q1, hq1, h⟩ := bnd_some h
  refine v_I (ci := 5) (as := [XR (x0 + 300)]) dX8_read_8 mlX8_294 mdX6_faultToldTo mvX6_faultToldTo rfl (sf_7_7 hx0) rfl (Nat.le_of_ble_eq_true rfl) (kX6_faultToldTo (sf_7_7 hx0) (sf_7_8 hx0) hq1) rfl ?_
  refine g_nmI (fun v2 ev2 => ?_)
  replace h := nm_s ev2 h
  refine g_istore_n (ls' := [(1, XI v2), (0, XR x0)]) dX8_read_11 (by decide) rfl ?_
  refine g_aload_n 1 dX8_read_12 rfl ?_
  refine g_getR dX8_read_13 flX8_46 (by decide) rfl hx0 ?_
  refine g_pc (pc' := 16) rfl ?_
  refine g_iconst (v := 0) dX8_read_16 rfl (i32l rfl) ?_
  refine g_putI dX8_read_17 flX8_290 (by decide) rfl (sf_7_7 hx0) ?_
  refine g_nmM (fun M3 eM3 => ?_)
  replace h := nm_s eM3 h
  refine g_iload_n 0 dX8_read_20 rfl ?_
  refine g_bip dX8_read_21 rfl ?_
  refine g_icmp_eq (tgt := 31) dX8_read_23 (by decide) (fun b4 => ?_) (fun b4 => ?_)
  · replace h := ifp b4 h
    refine g_iconst (v := 0) dX8_read_31 rfl (i32l rfl) ?_
    refine g_istore_n (ls' := [(2, XI 0), (1, XI v2), (0, XR x0)]) dX8_read_32 (by decide) rfl ?_
    refine g_iconst (v := 0) dX8_read_33 rfl (i32l rfl) ?_
    refine g_istore_n (ls' := [(3, XI 0), (2, XI 0), (1, XI v2), (0, XR x0)]) dX8_read_34 (by decide) rfl ?_
    obtain ⟨z16, hz16, h⟩ := bnd_some h
    refine g_sub (ls' := [(0, XR x0), (2, XI 0), (3, XI 0)]) [3, 1, 0] rfl ?_
    refine lX8_read_l35 hx0 1000 _ _ _ _ hz16 ?_
    refine g_iload_n 0 dX8_read_89 rfl ?_
    cases h
    exact g_ireturn dX8_read_90 rfl ⟨rfl, rfl⟩
  · replace h := ifn b4 h
    refine g_pc (pc' := 26) rfl ?_
    refine g_bip dX8_read_26 rfl ?_
    refine g_iload_n 0 dX8_read_28 rfl ?_
    obtain ⟨c17, h⟩ := chk_some h
    refine g_isub dX8_read_29 rfl c17 ?_
    cases h
    exact g_ireturn dX8_read_30 rfl ⟨rfl, rfl⟩
def fX8_cause (x0 : Nat) (x1 : Int) (x2 : Int) (M : Mem) : Option (Int × Mem) := (if x1 < 0 then some ((-1), M) else (if x2 < 0 then some ((-1), M) else (if x2 ≤ 1 then (if x1 < (M (x0 + 300) 0) then Option.bind ((if x2 = 0 then if 0 ≤ x1 ∧ x1 < 3 then some ((M ((x0 + 300) + 2) (Int.toNat x1))) else none else if 0 ≤ x1 ∧ x1 < 3 then some ((M ((x0 + 300) + 3) (Int.toNat x1))) else none) : Option (Int)) (fun t8 => some (t8, M)) else some ((-5), M)) else some ((-1), M))))
set_option maxRecDepth 20000 in
theorem kX8_cause {X : XC} {d : Nat} {x0 : Nat} {x1 : Int} {x2 : Int} (hx0 : Sh x0 = (17, 10)) {M : Mem} {q : Int × Mem} (h : fX8_cause x0 x1 x2 M = some q) : Ct X mX8_cause d [XR x0, XI x1, XI x2] M (pI q) := by
  unfold fX8_cause at h
  refine ct_go (by decide +kernel) (Nat.le_of_ble_eq_true rfl) (ls := [(0, XR x0), (1, XI x1), (2, XI x2)]) rfl ?_
  refine g_iload_n 1 dX8_cause_0 rfl ?_
  refine g_if_lt (tgt := 13) dX8_cause_1 (by decide) (fun b1 => ?_) (fun b1 => ?_)
  · replace h := ifp b1 h
    refine g_iconst (v := -1) dX8_cause_13 rfl (i32l rfl) ?_
    cases h
    exact g_ireturn dX8_cause_14 rfl ⟨rfl, rfl⟩
  · replace h := ifn b1 h
    refine g_pc (pc' := 4) rfl ?_
    refine g_iload_n 2 dX8_cause_4 rfl ?_
    refine g_if_lt (tgt := 13) dX8_cause_5 (by decide) (fun b2 => ?_) (fun b2 => ?_)
    · replace h := ifp b2 h
      refine g_iconst (v := -1) dX8_cause_13 rfl (i32l rfl) ?_
      cases h
      exact g_ireturn dX8_cause_14 rfl ⟨rfl, rfl⟩
    · replace h := ifn b2 h
      refine g_pc (pc' := 8) rfl ?_
      refine g_iload_n 2 dX8_cause_8 rfl ?_
      refine g_iconst (v := 1) dX8_cause_9 rfl (i32l rfl) ?_
      refine g_icmp_le (tgt := 15) dX8_cause_10 (by decide) (fun b3 => ?_) (fun b3 => ?_)
      · replace h := ifp b3 h
        refine g_iload_n 1 dX8_cause_15 rfl ?_
        refine g_aload_n 0 dX8_cause_16 rfl ?_
        refine g_getR dX8_cause_17 flX8_53 (by decide) rfl hx0 ?_
        refine g_getI dX8_cause_20 flX8_327 (by decide) rfl (sf_7_8 hx0) ?_
        refine g_icmp_lt (tgt := 29) dX8_cause_23 (by decide) (fun b4 => ?_) (fun b4 => ?_)
        · replace h := ifp b4 h
          refine g_iload_n 2 dX8_cause_29 rfl ?_
          obtain ⟨t8, ht8, h⟩ := bnd_some h
          have Kt8 : Go X mX8_cause d 54 [] [XI t8] M (pI q) := by
            cases h
            exact g_ireturn dX8_cause_54 rfl ⟨rfl, rfl⟩
          refine g_if_ne (tgt := 45) dX8_cause_30 (by decide) (fun b9 => ?_) (fun b9 => ?_)
          · replace ht8 := ifn b9 ht8
            refine g_aload_n 0 dX8_cause_45 rfl ?_
            refine g_getR dX8_cause_46 flX8_53 (by decide) rfl hx0 ?_
            refine g_getR dX8_cause_49 flX8_331 (by decide) rfl (sf_7_8 hx0) ?_
            refine g_iload_n 1 dX8_cause_52 rfl ?_
            obtain ⟨c10, ht8⟩ := chk_some ht8
            refine g_iald dX8_cause_53 (sf_6_2 (sf_7_8 hx0)) c10.1 c10.2 ?_
            cases ht8
            exact g_sub [] rfl Kt8
          · replace ht8 := ifp b9 ht8
            refine g_pc (pc' := 33) rfl ?_
            refine g_aload_n 0 dX8_cause_33 rfl ?_
            refine g_getR dX8_cause_34 flX8_53 (by decide) rfl hx0 ?_
            refine g_getR dX8_cause_37 flX8_328 (by decide) rfl (sf_7_8 hx0) ?_
            refine g_iload_n 1 dX8_cause_40 rfl ?_
            obtain ⟨c11, ht8⟩ := chk_some ht8
            refine g_iald dX8_cause_41 (sf_6_1 (sf_7_8 hx0)) c11.1 c11.2 ?_
            refine g_goto (tgt := 54) dX8_cause_42 (by decide) ?_
            cases ht8
            exact g_sub [] rfl Kt8
        · replace h := ifn b4 h
          refine g_pc (pc' := 26) rfl ?_
          refine g_bip dX8_cause_26 rfl ?_
          cases h
          exact g_ireturn dX8_cause_28 rfl ⟨rfl, rfl⟩
      · replace h := ifn b3 h
        refine g_pc (pc' := 13) rfl ?_
        refine g_iconst (v := -1) dX8_cause_13 rfl (i32l rfl) ?_
        cases h
        exact g_ireturn dX8_cause_14 rfl ⟨rfl, rfl⟩
def fX8_tapeAt (x0 : Nat) (x1 : Int) (M : Mem) : Option (Option Nat × Mem) := (if x1 < 0 then some (none, M) else (if x1 < 6 then if 0 ≤ x1 ∧ x1 < 6 then some (some ((x0 + 10) + 36 + 16 * Int.toNat x1), M) else none else some (none, M)))
set_option maxRecDepth 20000 in
theorem kX8_tapeAt {X : XC} {d : Nat} {x0 : Nat} {x1 : Int} (hx0 : Sh x0 = (17, 10)) {M : Mem} {q : Option Nat × Mem} (h : fX8_tapeAt x0 x1 M = some q) : Ct X mX8_tapeAt d [XR x0, XI x1] M (pR q) := by
  unfold fX8_tapeAt at h
  refine ct_go (by decide +kernel) (Nat.le_of_ble_eq_true rfl) (ls := [(0, XR x0), (1, XI x1)]) rfl ?_
  refine g_iload_n 1 dX8_tapeAt_0 rfl ?_
  refine g_if_lt (tgt := 13) dX8_tapeAt_1 (by decide) (fun b4 => ?_) (fun b4 => ?_)
  · replace h := ifp b4 h
    refine g_null dX8_tapeAt_13 ?_
    refine g_goto (tgt := 23) dX8_tapeAt_14 (by decide) ?_
    cases h
    exact g_areturnN dX8_tapeAt_23 rfl ⟨rfl, rfl⟩
  · replace h := ifn b4 h
    refine g_pc (pc' := 4) rfl ?_
    refine g_iload_n 1 dX8_tapeAt_4 rfl ?_
    refine g_aload_n 0 dX8_tapeAt_5 rfl ?_
    refine g_getR dX8_tapeAt_6 flX8_59 (by decide) rfl hx0 ?_
    refine g_alenV 6 dX8_tapeAt_9 (sf_7_9 hx0) rfl rfl rfl ?_
    refine g_icmp_lt (tgt := 17) dX8_tapeAt_10 (by decide) (fun b7 => ?_) (fun b7 => ?_)
    · replace h := ifp b7 h
      refine g_aload_n 0 dX8_tapeAt_17 rfl ?_
      refine g_getR dX8_tapeAt_18 flX8_59 (by decide) rfl hx0 ?_
      refine g_iload_n 1 dX8_tapeAt_21 rfl ?_
      obtain ⟨c8, h⟩ := chk_some h
      refine g_aald dX8_tapeAt_22 (sf_7_9 hx0) (by decide) c8.1 c8.2 ?_
      cases h
      exact g_areturn dX8_tapeAt_23 rfl ⟨rfl, rfl⟩
    · replace h := ifn b7 h
      refine g_pc (pc' := 13) rfl ?_
      refine g_null dX8_tapeAt_13 ?_
      refine g_goto (tgt := 23) dX8_tapeAt_14 (by decide) ?_
      cases h
      exact g_areturnN dX8_tapeAt_23 rfl ⟨rfl, rfl⟩
def fX8_judge_l60 (x0 : Nat) (x3 : Int) (x4 : Nat) (x5 : Nat) : Nat → Int → Mem → Option ((Int × Mem) ⊕ (Int × Mem))
  | 0, _, _ => none
  | n + 1, x6, M => (if (M (x0 + 10990) 0) ≤ x6 then some (.inl ((-5), M)) else if -2147483648 ≤ ((M x5 1) - x6) ∧ ((M x5 1) - x6) ≤ 2147483647 then (if x3 < ((M x5 1) - x6) then if -2147483648 ≤ (x3 + x6) ∧ (x3 + x6) ≤ 2147483647 then if 0 ≤ (x3 + x6) ∧ (x3 + x6) < 60 then if 0 ≤ x6 ∧ x6 < 8 then (if (M (x5 + 3) (Int.toNat (x3 + x6))) = (M (x4 + 8) (Int.toNat x6)) then if -2147483648 ≤ (x6 + 1) ∧ (x6 + 1) ≤ 2147483647 then fX8_judge_l60 x0 x3 x4 x5 n (x6 + 1) M else none else some (.inl (x6, M))) else none else none else none else if -2147483648 ≤ (100 + x6) ∧ (100 + x6) ≤ 2147483647 then some (.inl ((100 + x6), M)) else none) else none)
def fX8_judge (x0 : Nat) (x1 : Int) (x2 : Int) (x3 : Int) (M : Mem) : Option (Int × Mem) := Option.bind (fX8_tallied x0 M) (fun q1 => oc q1.1 (none) (fun a2 => if Sh a2 = (13, 14) then Option.bind (fX4_stageAt a2 x1 q1.2) (fun q4 => oc q4.1 (Option.bind (fX8_tapeAt x0 x2 q4.2) (fun q7 => oc q7.1 (some ((-1), q7.2)) (fun a8 => if Sh a8 = (14, 3) then some ((-1), q7.2) else none))) (fun a5 => if Sh a5 = (12, 9) then Option.bind (fX8_tapeAt x0 x2 q4.2) (fun q10 => oc q10.1 (some ((-1), q10.2)) (fun a11 => if Sh a11 = (14, 3) then (if (q10.2 a11 0) = 3 then (if 0 ≤ x3 then lr (fX8_judge_l60 x0 x3 a5 a11 1000 0 q10.2) (fun r => r) (fun _ => none) else some (100, q10.2)) else (if (q10.2 a11 0) = (-1) then (if 0 ≤ x3 then lr (fX8_judge_l60 x0 x3 a5 a11 1000 0 q10.2) (fun r => r) (fun _ => none) else some (100, q10.2)) else some ((-12), q10.2))) else none)) else none)) else none))
set_option maxRecDepth 20000 in
theorem lX8_judge_l60 {X : XC} {d : Nat} {Post : Option XV → Mem → Prop} {x0 : Nat} {x3 : Int} {x4 : Nat} {x5 : Nat} (hx0 : Sh x0 = (17, 10)) (hx4 : Sh x4 = (12, 9)) (hx5 : Sh x5 = (14, 3)) : ∀ (n : Nat) (x6 : Int) (M : Mem) (z : (Int × Mem) ⊕ (Int × Mem)), fX8_judge_l60 x0 x3 x4 x5 n x6 M = some z → (∀ r, z = .inl r → Post (some (XI r.1)) r.2) → Go X mX8_judge (d + 6) 60 [(0, XR x0), (3, XI x3), (4, XR x4), (5, XR x5), (6, XI x6)] [] M Post := by
  intro n
  induction n with
  | zero => intro _ _ _ h; cases h
  | succ n ih =>
    intro x6 M z h K1
    unfold fX8_judge_l60 at h
    refine g_iload 4 dX8_judge_60 rfl ?_
    refine g_aload_n 0 dX8_judge_62 rfl ?_
    refine g_getR dX8_judge_63 flX8_14 (by decide) rfl hx0 ?_
    refine g_getI dX8_judge_66 flX8_64 (by decide) rfl (sf_7_0 hx0) ?_
    refine g_icmp_ge (tgt := 121) dX8_judge_69 (by decide) (fun b15 => ?_) (fun b15 => ?_)
    · replace h := ifp b15 h
      refine g_bip dX8_judge_121 rfl ?_
      cases h
      exact g_ireturn dX8_judge_123 rfl (K1 ((-5), M) rfl)
    · replace h := ifn b15 h
      refine g_pc (pc' := 72) rfl ?_
      refine g_iload_n 1 dX8_judge_72 rfl ?_
      refine g_aload 3 dX8_judge_73 rfl ?_
      refine g_getI dX8_judge_75 flX8_340 (by decide) rfl hx5 ?_
      refine g_iload 4 dX8_judge_78 rfl ?_
      obtain ⟨c16, h⟩ := chk_some h
      refine g_isub dX8_judge_80 rfl c16 ?_
      refine g_icmp_lt (tgt := 90) dX8_judge_81 (by decide) (fun b17 => ?_) (fun b17 => ?_)
      · replace h := ifp b17 h
        refine g_aload 3 dX8_judge_90 rfl ?_
        refine g_getR dX8_judge_92 flX8_341 (by decide) rfl hx5 ?_
        refine g_iload_n 1 dX8_judge_95 rfl ?_
        refine g_iload 4 dX8_judge_96 rfl ?_
        obtain ⟨c18, h⟩ := chk_some h
        refine g_iadd dX8_judge_98 rfl c18 ?_
        obtain ⟨c19, h⟩ := chk_some h
        refine g_lald dX8_judge_99 (sf_4_2 hx5) c19.1 c19.2 ?_
        refine g_aload 2 dX8_judge_100 rfl ?_
        refine g_getR dX8_judge_102 flX8_214 (by decide) rfl hx4 ?_
        refine g_pc (pc' := 105) rfl ?_
        refine g_iload 4 dX8_judge_105 rfl ?_
        obtain ⟨c20, h⟩ := chk_some h
        refine g_lald dX8_judge_107 (sf_2_7 hx4) c20.1 c20.2 ?_
        refine g_lcmp_eq (tgt := 115) dX8_judge_108 dX8_judge_109 (by decide) (fun b21 => ?_) (fun b21 => ?_)
        · replace h := ifp b21 h
          obtain ⟨c22, h⟩ := chk_some h
          refine g_iinc (ls' := [(6, XI (x6 + 1)), (0, XR x0), (3, XI x3), (4, XR x4), (5, XR x5)]) 4 dX8_judge_115 rfl rfl c22 (by decide) rfl ?_
          refine g_goto (tgt := 60) dX8_judge_118 (by decide) ?_
          exact g_sub [1, 2, 3, 4, 0] rfl (ih _ _ _ h K1)
        · replace h := ifn b21 h
          refine g_pc (pc' := 112) rfl ?_
          refine g_iload 4 dX8_judge_112 rfl ?_
          cases h
          exact g_ireturn dX8_judge_114 rfl (K1 (x6, M) rfl)
      · replace h := ifn b17 h
        refine g_pc (pc' := 84) rfl ?_
        refine g_bip dX8_judge_84 rfl ?_
        refine g_iload 4 dX8_judge_86 rfl ?_
        obtain ⟨c23, h⟩ := chk_some h
        refine g_iadd dX8_judge_88 rfl c23 ?_
        cases h
        exact g_ireturn dX8_judge_89 rfl (K1 ((100 + x6), M) rfl)
set_option maxRecDepth 20000 in
theorem kX8_judge {X : XC} {d : Nat} {x0 : Nat} {x1 : Int} {x2 : Int} {x3 : Int} (hx0 : Sh x0 = (17, 10)) {M : Mem} {q : Int × Mem} (h : fX8_judge x0 x1 x2 x3 M = some q) : Ct X mX8_judge (d + 6) [XR x0, XI x1, XI x2, XI x3] M (pI q) := by
  unfold fX8_judge at h
  refine ct_go (by decide +kernel) (Nat.le_of_ble_eq_true rfl) (ls := [(0, XR x0), (1, XI x1), (2, XI x2), (3, XI x3)]) rfl ?_
  refine g_aload_n 0 dX8_judge_0 rfl ?_
  obtain ⟨q1, hq1, h⟩ := bnd_some h
  refine v_R (ci := 7) (as := []) dX8_judge_1 mlX8_143 mdX8_tallied mvX8_tallied rfl hx0 rfl (Nat.le_of_ble_eq_true rfl) (kX8_tallied hx0 hq1) rfl (fun ea2 => ?_) (fun a2 ea2 => ?_)
  · replace h := oc_n ea2 h
    refine g_iload_n 1 dX8_judge_4 rfl ?_
    cases h
  · replace h := oc_s ea2 h
    obtain ⟨c3, h⟩ := chk_some h
    refine g_iload_n 1 dX8_judge_4 rfl ?_
    obtain ⟨q4, hq4, h⟩ := bnd_some h
    refine v_R (ci := 3) (as := [XI x1]) dX8_judge_5 mlX8_186 mdX4_stageAt mvX4_stageAt rfl c3 rfl (Nat.le_of_ble_eq_true rfl) (kX4_stageAt c3 hq4) rfl (fun ea5 => ?_) (fun a5 ea5 => ?_)
    · replace h := oc_n ea5 h
      refine g_astoreN (ls' := [(4, XN), (0, XR x0), (1, XI x1), (2, XI x2), (3, XI x3)]) dX8_judge_8 (by decide) rfl ?_
      refine g_aload_n 1 dX8_judge_10 rfl ?_
      refine g_iload_n 3 dX8_judge_11 rfl ?_
      obtain ⟨q7, hq7, h⟩ := bnd_some h
      refine v_R (ci := 7) (as := [XI x2]) dX8_judge_12 mlX8_334 mdX8_tapeAt mvX8_tapeAt rfl hx0 rfl (Nat.le_of_ble_eq_true rfl) (kX8_tapeAt hx0 hq7) rfl (fun ea8 => ?_) (fun a8 ea8 => ?_)
      · replace h := oc_n ea8 h
        refine g_astoreN (ls' := [(5, XN), (4, XN), (0, XR x0), (1, XI x1), (2, XI x2), (3, XI x3)]) dX8_judge_15 (by decide) rfl ?_
        refine g_aloadN 1 dX8_judge_17 rfl ?_
        refine g_ifnullN (tgt := 27) dX8_judge_19 (by decide) ?_
        refine g_iconst (v := -1) dX8_judge_27 rfl (i32l rfl) ?_
        cases h
        exact g_ireturn dX8_judge_28 rfl ⟨rfl, rfl⟩
      · replace h := oc_s ea8 h
        obtain ⟨c9, h⟩ := chk_some h
        refine g_astore (ls' := [(5, XR a8), (4, XN), (0, XR x0), (1, XI x1), (2, XI x2), (3, XI x3)]) dX8_judge_15 (by decide) rfl ?_
        refine g_aloadN 1 dX8_judge_17 rfl ?_
        refine g_ifnullN (tgt := 27) dX8_judge_19 (by decide) ?_
        refine g_iconst (v := -1) dX8_judge_27 rfl (i32l rfl) ?_
        cases h
        exact g_ireturn dX8_judge_28 rfl ⟨rfl, rfl⟩
    · replace h := oc_s ea5 h
      obtain ⟨c6, h⟩ := chk_some h
      refine g_astore (ls' := [(4, XR a5), (0, XR x0), (1, XI x1), (2, XI x2), (3, XI x3)]) dX8_judge_8 (by decide) rfl ?_
      refine g_aload_n 1 dX8_judge_10 rfl ?_
      refine g_iload_n 3 dX8_judge_11 rfl ?_
      obtain ⟨q10, hq10, h⟩ := bnd_some h
      refine v_R (ci := 7) (as := [XI x2]) dX8_judge_12 mlX8_334 mdX8_tapeAt mvX8_tapeAt rfl hx0 rfl (Nat.le_of_ble_eq_true rfl) (kX8_tapeAt hx0 hq10) rfl (fun ea11 => ?_) (fun a11 ea11 => ?_)
      · replace h := oc_n ea11 h
        refine g_astoreN (ls' := [(5, XN), (4, XR a5), (0, XR x0), (1, XI x1), (2, XI x2), (3, XI x3)]) dX8_judge_15 (by decide) rfl ?_
        refine g_aload 1 dX8_judge_17 rfl ?_
        refine g_ifnullR dX8_judge_19 ?_
        refine g_aloadN 0 dX8_judge_22 rfl ?_
        refine g_ifnonnullN dX8_judge_24 ?_
        refine g_iconst (v := -1) dX8_judge_27 rfl (i32l rfl) ?_
        cases h
        exact g_ireturn dX8_judge_28 rfl ⟨rfl, rfl⟩
      · replace h := oc_s ea11 h
        obtain ⟨c12, h⟩ := chk_some h
        refine g_astore (ls' := [(5, XR a11), (4, XR a5), (0, XR x0), (1, XI x1), (2, XI x2), (3, XI x3)]) dX8_judge_15 (by decide) rfl ?_
        refine g_aload 1 dX8_judge_17 rfl ?_
        refine g_ifnullR dX8_judge_19 ?_
        refine g_aload 0 dX8_judge_22 rfl ?_
        refine g_ifnonnullR (tgt := 29) dX8_judge_24 (by decide) ?_
        refine g_aload 0 dX8_judge_29 rfl ?_
        refine g_getI dX8_judge_31 flX8_338 (by decide) rfl c12 ?_
        refine g_iconst (v := 3) dX8_judge_34 rfl (i32l rfl) ?_
        refine g_icmp_eq (tgt := 50) dX8_judge_35 (by decide) (fun b13 => ?_) (fun b13 => ?_)
        · replace h := ifp b13 h
          refine g_iload_n 5 dX8_judge_50 rfl ?_
          refine g_if_ge (tgt := 57) dX8_judge_51 (by decide) (fun b14 => ?_) (fun b14 => ?_)
          · replace h := ifp b14 h
            refine g_iconst (v := 0) dX8_judge_57 rfl (i32l rfl) ?_
            refine g_istore (ls' := [(6, XI 0), (5, XR a11), (4, XR a5), (0, XR x0), (1, XI x1), (2, XI x2), (3, XI x3)]) dX8_judge_58 (by decide) rfl ?_
            obtain ⟨z24, hz24, rz24, h⟩ := lr_some h
            refine g_sub (ls' := [(0, XR x0), (3, XI x3), (4, XR a5), (5, XR a11), (6, XI 0)]) [3, 6, 2, 1, 0] rfl ?_
            refine lX8_judge_l60 hx0 c6 c12 1000 _ _ _ hz24 (fun r e => ?_)
            have rz24 := rz24 r e
            subst rz24
            exact ⟨rfl, rfl⟩
          · replace h := ifn b14 h
            refine g_pc (pc' := 54) rfl ?_
            refine g_bip dX8_judge_54 rfl ?_
            cases h
            exact g_ireturn dX8_judge_56 rfl ⟨rfl, rfl⟩
        · replace h := ifn b13 h
          refine g_pc (pc' := 38) rfl ?_
          refine g_aload 0 dX8_judge_38 rfl ?_
          refine g_getI dX8_judge_40 flX8_338 (by decide) rfl c12 ?_
          refine g_iconst (v := -1) dX8_judge_43 rfl (i32l rfl) ?_
          refine g_icmp_eq (tgt := 50) dX8_judge_44 (by decide) (fun b25 => ?_) (fun b25 => ?_)
          · replace h := ifp b25 h
            refine g_iload_n 5 dX8_judge_50 rfl ?_
            refine g_if_ge (tgt := 57) dX8_judge_51 (by decide) (fun b26 => ?_) (fun b26 => ?_)
            · replace h := ifp b26 h
              refine g_iconst (v := 0) dX8_judge_57 rfl (i32l rfl) ?_
              refine g_istore (ls' := [(6, XI 0), (5, XR a11), (4, XR a5), (0, XR x0), (1, XI x1), (2, XI x2), (3, XI x3)]) dX8_judge_58 (by decide) rfl ?_
              obtain ⟨z27, hz27, rz27, h⟩ := lr_some h
              refine g_sub (ls' := [(0, XR x0), (3, XI x3), (4, XR a5), (5, XR a11), (6, XI 0)]) [3, 6, 2, 1, 0] rfl ?_
              refine lX8_judge_l60 hx0 c6 c12 1000 _ _ _ hz27 (fun r e => ?_)
              have rz27 := rz27 r e
              subst rz27
              exact ⟨rfl, rfl⟩
            · replace h := ifn b26 h
              refine g_pc (pc' := 54) rfl ?_
              refine g_bip dX8_judge_54 rfl ?_
              cases h
              exact g_ireturn dX8_judge_56 rfl ⟨rfl, rfl⟩
          · replace h := ifn b25 h
            refine g_pc (pc' := 47) rfl ?_
            refine g_bip dX8_judge_47 rfl ?_
            cases h
            exact g_ireturn dX8_judge_49 rfl ⟨rfl, rfl⟩
def fX8_image (x0 : Nat) (M : Mem) : Option (Int × Mem) := Option.bind (fX1_copyFrom (x0 + 12990) (x0 + 10990) M) (fun q1 => nm (wr q1.2 x0 3 1) (fun M2 => some ((M2 (x0 + 10990) 3), M2)))
set_option maxRecDepth 20000 in
theorem kX8_image {X : XC} {d : Nat} {x0 : Nat} (hx0 : Sh x0 = (17, 10)) {M : Mem} {q : Int × Mem} (h : fX8_image x0 M = some q) : Ct X mX8_image (d + 1) [XR x0] M (pI q) := by
  unfold fX8_image at h
  refine ct_go (by decide +kernel) (Nat.le_of_ble_eq_true rfl) (ls := [(0, XR x0)]) rfl ?_
  refine g_aload_n 0 dX8_image_0 rfl ?_
  refine g_getR dX8_image_1 flX8_21 (by decide) rfl hx0 ?_
  refine g_aload_n 0 dX8_image_4 rfl ?_
  refine g_getR dX8_image_5 flX8_14 (by decide) rfl hx0 ?_
  obtain ⟨q1, hq1, h⟩ := bnd_some h
  refine v_V (ci := 1) (as := [XR (x0 + 10990)]) dX8_image_8 mlX8_253 mdX1_copyFrom mvX1_copyFrom rfl (sf_7_2 hx0) rfl (Nat.le_of_ble_eq_true rfl) (kX1_copyFrom (sf_7_2 hx0) (sf_7_0 hx0) hq1) rfl ?_
  refine g_aload_n 0 dX8_image_11 rfl ?_
  refine g_iconst (v := 1) dX8_image_12 rfl (i32l rfl) ?_
  refine g_putZ dX8_image_13 flX8_24 (by decide) rfl hx0 (by decide) ?_
  refine g_nmM (fun M2 eM2 => ?_)
  replace h := nm_s eM2 h
  refine g_pc (pc' := 16) rfl ?_
  refine g_aload_n 0 dX8_image_16 rfl ?_
  refine g_getR dX8_image_17 flX8_14 (by decide) rfl hx0 ?_
  refine g_getI dX8_image_20 flX8_83 (by decide) rfl (sf_7_0 hx0) ?_
  cases h
  exact g_ireturn dX8_image_23 rfl ⟨rfl, rfl⟩
def fX8_undo (x0 : Nat) (M : Mem) : Option (Int × Mem) := (if (M x0 3) = 0 then some ((-3), M) else Option.bind (fX1_copyFrom (x0 + 10990) (x0 + 12990) M) (fun q2 => nm (wr q2.2 x0 6 0) (fun M3 => some ((M3 (x0 + 10990) 3), M3))))
set_option maxRecDepth 20000 in
theorem kX8_undo {X : XC} {d : Nat} {x0 : Nat} (hx0 : Sh x0 = (17, 10)) {M : Mem} {q : Int × Mem} (h : fX8_undo x0 M = some q) : Ct X mX8_undo (d + 1) [XR x0] M (pI q) := by
  unfold fX8_undo at h
  refine ct_go (by decide +kernel) (Nat.le_of_ble_eq_true rfl) (ls := [(0, XR x0)]) rfl ?_
  refine g_aload_n 0 dX8_undo_0 rfl ?_
  refine g_getZ dX8_undo_1 flX8_24 (by decide) rfl hx0 ?_
  refine g_if_ne (tgt := 10) dX8_undo_4 (by decide) (fun b1 => ?_) (fun b1 => ?_)
  · replace h := ifn b1 h
    refine g_aload_n 0 dX8_undo_10 rfl ?_
    refine g_getR dX8_undo_11 flX8_14 (by decide) rfl hx0 ?_
    refine g_aload_n 0 dX8_undo_14 rfl ?_
    refine g_getR dX8_undo_15 flX8_21 (by decide) rfl hx0 ?_
    obtain ⟨q2, hq2, h⟩ := bnd_some h
    refine v_V (ci := 1) (as := [XR (x0 + 12990)]) dX8_undo_18 mlX8_253 mdX1_copyFrom mvX1_copyFrom rfl (sf_7_0 hx0) rfl (Nat.le_of_ble_eq_true rfl) (kX1_copyFrom (sf_7_0 hx0) (sf_7_2 hx0) hq2) rfl ?_
    refine g_aload_n 0 dX8_undo_21 rfl ?_
    refine g_iconst (v := 0) dX8_undo_22 rfl (i32l rfl) ?_
    refine g_putZ dX8_undo_23 flX8_40 (by decide) rfl hx0 (by decide) ?_
    refine g_nmM (fun M3 eM3 => ?_)
    replace h := nm_s eM3 h
    refine g_pc (pc' := 26) rfl ?_
    refine g_aload_n 0 dX8_undo_26 rfl ?_
    refine g_getR dX8_undo_27 flX8_14 (by decide) rfl hx0 ?_
    refine g_getI dX8_undo_30 flX8_83 (by decide) rfl (sf_7_0 hx0) ?_
    cases h
    exact g_ireturn dX8_undo_33 rfl ⟨rfl, rfl⟩
  · replace h := ifp b1 h
    refine g_pc (pc' := 7) rfl ?_
    refine g_bip dX8_undo_7 rfl ?_
    cases h
    exact g_ireturn dX8_undo_9 rfl ⟨rfl, rfl⟩
def fX8_count (x0 : Nat) (x1 : Int) (M : Mem) : Option (Int × Mem) := (if x1 = 0 then some ((M (x0 + 10990) 9), M) else if x1 = 1 then some ((M (x0 + 10990) 12), M) else if x1 = 2 then some ((M (x0 + 200) 0), M) else some ((-2), M))
set_option maxRecDepth 20000 in
theorem kX8_count {X : XC} {d : Nat} {x0 : Nat} {x1 : Int} (hx0 : Sh x0 = (17, 10)) {M : Mem} {q : Int × Mem} (h : fX8_count x0 x1 M = some q) : Ct X mX8_count d [XR x0, XI x1] M (pI q) := by
  unfold fX8_count at h
  refine ct_go (by decide +kernel) (Nat.le_of_ble_eq_true rfl) (ls := [(0, XR x0), (1, XI x1)]) rfl ?_
  refine g_iload_n 1 dX8_count_0 rfl ?_
  by_cases b1 : x1 = 0
  · replace h := ifp b1 h
    refine g_tswIn (off := 27) (tgt := 28) dX8_count_1 (by rw [b1]; decide) (by rw [b1]; decide) (by rw [b1]; rfl) (by decide) ?_
    refine g_aload_n 0 dX8_count_28 rfl ?_
    refine g_getR dX8_count_29 flX8_14 (by decide) rfl hx0 ?_
    refine g_getI dX8_count_32 flX8_266 (by decide) rfl (sf_7_0 hx0) ?_
    cases h
    exact g_ireturn dX8_count_35 rfl ⟨rfl, rfl⟩
  · replace h := ifn b1 h
    by_cases b2 : x1 = 1
    · replace h := ifp b2 h
      refine g_tswIn (off := 35) (tgt := 36) dX8_count_1 (by rw [b2]; decide) (by rw [b2]; decide) (by rw [b2]; rfl) (by decide) ?_
      refine g_aload_n 0 dX8_count_36 rfl ?_
      refine g_getR dX8_count_37 flX8_14 (by decide) rfl hx0 ?_
      refine g_getI dX8_count_40 flX8_278 (by decide) rfl (sf_7_0 hx0) ?_
      cases h
      exact g_ireturn dX8_count_43 rfl ⟨rfl, rfl⟩
    · replace h := ifn b2 h
      by_cases b3 : x1 = 2
      · replace h := ifp b3 h
        refine g_tswIn (off := 43) (tgt := 44) dX8_count_1 (by rw [b3]; decide) (by rw [b3]; decide) (by rw [b3]; rfl) (by decide) ?_
        refine g_aload_n 0 dX8_count_44 rfl ?_
        refine g_getR dX8_count_45 flX8_46 (by decide) rfl hx0 ?_
        refine g_getI dX8_count_48 flX8_290 (by decide) rfl (sf_7_7 hx0) ?_
        cases h
        exact g_ireturn dX8_count_51 rfl ⟨rfl, rfl⟩
      · replace h := ifn b3 h
        refine g_tswOut (tgt := 52) dX8_count_1 (by omega) (by decide) ?_
        refine g_bip dX8_count_52 rfl ?_
        cases h
        exact g_ireturn dX8_count_54 rfl ⟨rfl, rfl⟩
def fX8_tape (x0 : Nat) (x1 : Int) (x2 : Int) (x3 : Int) (M : Mem) : Option (Int × Mem) := Option.bind (fX8_tapeAt x0 x1 M) (fun q1 => oc q1.1 (some ((-1), q1.2)) (fun a2 => if Sh a2 = (14, 3) then (if x2 = (-1) then Option.bind (fX5_become a2 (-1) 0 q1.2) (fun q10 => some (1, q10.2)) else (if x2 < 0 then some ((-2), q1.2) else (if 4 < x2 then some ((-2), q1.2) else (if x3 ≤ 60 then (if 0 ≤ x3 then Option.bind (fX5_become a2 x2 x3 q1.2) (fun q9 => some (1, q9.2)) else some ((-14), q1.2)) else some ((-2), q1.2))))) else none))
set_option maxRecDepth 20000 in
theorem kX8_tape {X : XC} {d : Nat} {x0 : Nat} {x1 : Int} {x2 : Int} {x3 : Int} (hx0 : Sh x0 = (17, 10)) {M : Mem} {q : Int × Mem} (h : fX8_tape x0 x1 x2 x3 M = some q) : Ct X mX8_tape (d + 2) [XR x0, XI x1, XI x2, XI x3] M (pI q) := by
  unfold fX8_tape at h
  refine ct_go (by decide +kernel) (Nat.le_of_ble_eq_true rfl) (ls := [(0, XR x0), (1, XI x1), (2, XI x2), (3, XI x3)]) rfl ?_
  refine g_aload_n 0 dX8_tape_0 rfl ?_
  refine g_iload_n 1 dX8_tape_1 rfl ?_
  obtain ⟨q1, hq1, h⟩ := bnd_some h
  refine v_R (ci := 7) (as := [XI x1]) dX8_tape_2 mlX8_334 mdX8_tapeAt mvX8_tapeAt rfl hx0 rfl (Nat.le_of_ble_eq_true rfl) (kX8_tapeAt hx0 hq1) rfl (fun ea2 => ?_) (fun a2 ea2 => ?_)
  · replace h := oc_n ea2 h
    refine g_astoreN (ls' := [(4, XN), (0, XR x0), (1, XI x1), (2, XI x2), (3, XI x3)]) dX8_tape_5 (by decide) rfl ?_
    refine g_aloadN 0 dX8_tape_7 rfl ?_
    refine g_ifnonnullN dX8_tape_9 ?_
    refine g_iconst (v := -1) dX8_tape_12 rfl (i32l rfl) ?_
    cases h
    exact g_ireturn dX8_tape_13 rfl ⟨rfl, rfl⟩
  · replace h := oc_s ea2 h
    obtain ⟨c3, h⟩ := chk_some h
    refine g_astore (ls' := [(4, XR a2), (0, XR x0), (1, XI x1), (2, XI x2), (3, XI x3)]) dX8_tape_5 (by decide) rfl ?_
    refine g_aload 0 dX8_tape_7 rfl ?_
    refine g_ifnonnullR (tgt := 14) dX8_tape_9 (by decide) ?_
    refine g_iload_n 3 dX8_tape_14 rfl ?_
    refine g_iconst (v := -1) dX8_tape_15 rfl (i32l rfl) ?_
    refine g_icmp_ne (tgt := 28) dX8_tape_16 (by decide) (fun b4 => ?_) (fun b4 => ?_)
    · replace h := ifn b4 h
      refine g_iload_n 3 dX8_tape_28 rfl ?_
      refine g_if_lt (tgt := 43) dX8_tape_29 (by decide) (fun b5 => ?_) (fun b5 => ?_)
      · replace h := ifp b5 h
        refine g_bip dX8_tape_43 rfl ?_
        cases h
        exact g_ireturn dX8_tape_45 rfl ⟨rfl, rfl⟩
      · replace h := ifn b5 h
        refine g_pc (pc' := 32) rfl ?_
        refine g_iload_n 3 dX8_tape_32 rfl ?_
        refine g_iconst (v := 4) dX8_tape_33 rfl (i32l rfl) ?_
        refine g_icmp_gt (tgt := 43) dX8_tape_34 (by decide) (fun b6 => ?_) (fun b6 => ?_)
        · replace h := ifp b6 h
          refine g_bip dX8_tape_43 rfl ?_
          cases h
          exact g_ireturn dX8_tape_45 rfl ⟨rfl, rfl⟩
        · replace h := ifn b6 h
          refine g_pc (pc' := 37) rfl ?_
          refine g_iload_n 4 dX8_tape_37 rfl ?_
          refine g_bip dX8_tape_38 rfl ?_
          refine g_icmp_le (tgt := 46) dX8_tape_40 (by decide) (fun b7 => ?_) (fun b7 => ?_)
          · replace h := ifp b7 h
            refine g_iload_n 4 dX8_tape_46 rfl ?_
            refine g_if_ge (tgt := 53) dX8_tape_47 (by decide) (fun b8 => ?_) (fun b8 => ?_)
            · replace h := ifp b8 h
              refine g_aload 0 dX8_tape_53 rfl ?_
              refine g_iload_n 3 dX8_tape_55 rfl ?_
              refine g_iload_n 4 dX8_tape_56 rfl ?_
              obtain ⟨q9, hq9, h⟩ := bnd_some h
              refine v_V (ci := 4) (as := [XI x2, XI x3]) dX8_tape_57 mlX8_344 mdX5_become mvX5_become rfl c3 rfl (Nat.le_of_ble_eq_true rfl) (kX5_become c3 hq9) rfl ?_
              refine g_iconst (v := 1) dX8_tape_60 rfl (i32l rfl) ?_
              cases h
              exact g_ireturn dX8_tape_61 rfl ⟨rfl, rfl⟩
            · replace h := ifn b8 h
              refine g_pc (pc' := 50) rfl ?_
              refine g_bip dX8_tape_50 rfl ?_
              cases h
              exact g_ireturn dX8_tape_52 rfl ⟨rfl, rfl⟩
          · replace h := ifn b7 h
            refine g_pc (pc' := 43) rfl ?_
            refine g_bip dX8_tape_43 rfl ?_
            cases h
            exact g_ireturn dX8_tape_45 rfl ⟨rfl, rfl⟩
    · replace h := ifp b4 h
      refine g_pc (pc' := 19) rfl ?_
      refine g_aload 0 dX8_tape_19 rfl ?_
      refine g_iconst (v := -1) dX8_tape_21 rfl (i32l rfl) ?_
      refine g_iconst (v := 0) dX8_tape_22 rfl (i32l rfl) ?_
      obtain ⟨q10, hq10, h⟩ := bnd_some h
      refine v_V (ci := 4) (as := [XI (-1), XI 0]) dX8_tape_23 mlX8_344 mdX5_become mvX5_become rfl c3 rfl (Nat.le_of_ble_eq_true rfl) (kX5_become c3 hq10) rfl ?_
      refine g_iconst (v := 1) dX8_tape_26 rfl (i32l rfl) ?_
      cases h
      exact g_ireturn dX8_tape_27 rfl ⟨rfl, rfl⟩
def fX8_item (x0 : Nat) (x1 : Int) (x2 : Int) (x3 : Int) (M : Mem) : Option (Int × Mem) := Option.bind (fX8_tapeAt x0 x1 M) (fun q1 => oc q1.1 (some ((-1), q1.2)) (fun a2 => if Sh a2 = (14, 3) then (if (q1.2 a2 0) = (-1) then some ((-11), q1.2) else (if x2 < 0 then some ((-13), q1.2) else (if x2 < (q1.2 a2 1) then Option.bind (fX5_fitted a2 x3 q1.2) (fun q7 => if 0 ≤ x2 ∧ x2 < 60 then nm (wr q7.2 (a2 + 3) (Int.toNat x2) q7.1) (fun M9 => some (1, M9)) else none) else some ((-13), q1.2)))) else none))
set_option maxRecDepth 20000 in
theorem kX8_item {X : XC} {d : Nat} {x0 : Nat} {x1 : Int} {x2 : Int} {x3 : Int} (hx0 : Sh x0 = (17, 10)) {M : Mem} {q : Int × Mem} (h : fX8_item x0 x1 x2 x3 M = some q) : Ct X mX8_item (d + 1) [XR x0, XI x1, XI x2, XL x3] M (pI q) := by
  unfold fX8_item at h
  refine ct_go (by decide +kernel) (Nat.le_of_ble_eq_true rfl) (ls := [(0, XR x0), (1, XI x1), (2, XI x2), (3, XL x3)]) rfl ?_
  refine g_aload_n 0 dX8_item_0 rfl ?_
  refine g_iload_n 1 dX8_item_1 rfl ?_
  obtain ⟨q1, hq1, h⟩ := bnd_some h
  refine v_R (ci := 7) (as := [XI x1]) dX8_item_2 mlX8_334 mdX8_tapeAt mvX8_tapeAt rfl hx0 rfl (Nat.le_of_ble_eq_true rfl) (kX8_tapeAt hx0 hq1) rfl (fun ea2 => ?_) (fun a2 ea2 => ?_)
  · replace h := oc_n ea2 h
    refine g_astoreN (ls' := [(5, XN), (0, XR x0), (1, XI x1), (2, XI x2), (3, XL x3)]) dX8_item_5 (by decide) rfl ?_
    refine g_aloadN 0 dX8_item_7 rfl ?_
    refine g_ifnonnullN dX8_item_9 ?_
    refine g_iconst (v := -1) dX8_item_12 rfl (i32l rfl) ?_
    cases h
    exact g_ireturn dX8_item_13 rfl ⟨rfl, rfl⟩
  · replace h := oc_s ea2 h
    obtain ⟨c3, h⟩ := chk_some h
    refine g_astore (ls' := [(5, XR a2), (0, XR x0), (1, XI x1), (2, XI x2), (3, XL x3)]) dX8_item_5 (by decide) rfl ?_
    refine g_aload 0 dX8_item_7 rfl ?_
    refine g_ifnonnullR (tgt := 14) dX8_item_9 (by decide) ?_
    refine g_aload 0 dX8_item_14 rfl ?_
    refine g_getI dX8_item_16 flX8_338 (by decide) rfl c3 ?_
    refine g_iconst (v := -1) dX8_item_19 rfl (i32l rfl) ?_
    refine g_icmp_ne (tgt := 26) dX8_item_20 (by decide) (fun b4 => ?_) (fun b4 => ?_)
    · replace h := ifn b4 h
      refine g_iload_n 3 dX8_item_26 rfl ?_
      refine g_if_lt (tgt := 39) dX8_item_27 (by decide) (fun b5 => ?_) (fun b5 => ?_)
      · replace h := ifp b5 h
        refine g_bip dX8_item_39 rfl ?_
        cases h
        exact g_ireturn dX8_item_41 rfl ⟨rfl, rfl⟩
      · replace h := ifn b5 h
        refine g_pc (pc' := 30) rfl ?_
        refine g_iload_n 3 dX8_item_30 rfl ?_
        refine g_aload 0 dX8_item_31 rfl ?_
        refine g_getI dX8_item_33 flX8_340 (by decide) rfl c3 ?_
        refine g_icmp_lt (tgt := 42) dX8_item_36 (by decide) (fun b6 => ?_) (fun b6 => ?_)
        · replace h := ifp b6 h
          refine g_aload 0 dX8_item_42 rfl ?_
          refine g_getR dX8_item_44 flX8_341 (by decide) rfl c3 ?_
          refine g_iload_n 3 dX8_item_47 rfl ?_
          refine g_aload 0 dX8_item_48 rfl ?_
          refine g_lload_n 4 dX8_item_50 rfl ?_
          obtain ⟨q7, hq7, h⟩ := bnd_some h
          refine v_J (ci := 4) (as := [XL x3]) dX8_item_51 mlX8_347 mdX5_fitted mvX5_fitted rfl c3 rfl (Nat.le_of_ble_eq_true rfl) (kX5_fitted c3 hq7) rfl ?_
          obtain ⟨c8, h⟩ := chk_some h
          refine g_last dX8_item_54 (sf_4_2 c3) c8.1 c8.2 ?_
          refine g_nmM (fun M9 eM9 => ?_)
          replace h := nm_s eM9 h
          refine g_iconst (v := 1) dX8_item_55 rfl (i32l rfl) ?_
          refine g_pc (pc' := 56) rfl ?_
          cases h
          exact g_ireturn dX8_item_56 rfl ⟨rfl, rfl⟩
        · replace h := ifn b6 h
          refine g_pc (pc' := 39) rfl ?_
          refine g_bip dX8_item_39 rfl ?_
          cases h
          exact g_ireturn dX8_item_41 rfl ⟨rfl, rfl⟩
    · replace h := ifp b4 h
      refine g_pc (pc' := 23) rfl ?_
      refine g_bip dX8_item_23 rfl ?_
      cases h
      exact g_ireturn dX8_item_25 rfl ⟨rfl, rfl⟩
def fX8_peek (x0 : Nat) (x1 : Int) (x2 : Int) (M : Mem) : Option (Int × Mem) := Option.bind (fX8_tapeAt x0 x1 M) (fun q1 => oc q1.1 (some ((-9223372036854775808), q1.2)) (fun a2 => if Sh a2 = (14, 3) then (if x2 < 0 then some ((-9223372036854775808), q1.2) else (if x2 < (q1.2 a2 1) then if 0 ≤ x2 ∧ x2 < 60 then some ((q1.2 (a2 + 3) (Int.toNat x2)), q1.2) else none else some ((-9223372036854775808), q1.2))) else none))
set_option maxRecDepth 20000 in
theorem kX8_peek {X : XC} {d : Nat} {x0 : Nat} {x1 : Int} {x2 : Int} (hx0 : Sh x0 = (17, 10)) {M : Mem} {q : Int × Mem} (h : fX8_peek x0 x1 x2 M = some q) : Ct X mX8_peek (d + 1) [XR x0, XI x1, XI x2] M (pJ q) := by
  unfold fX8_peek at h
  refine ct_go (by decide +kernel) (Nat.le_of_ble_eq_true rfl) (ls := [(0, XR x0), (1, XI x1), (2, XI x2)]) rfl ?_
  refine g_aload_n 0 dX8_peek_0 rfl ?_
  refine g_iload_n 1 dX8_peek_1 rfl ?_
  obtain ⟨q1, hq1, h⟩ := bnd_some h
  refine v_R (ci := 7) (as := [XI x1]) dX8_peek_2 mlX8_334 mdX8_tapeAt mvX8_tapeAt rfl hx0 rfl (Nat.le_of_ble_eq_true rfl) (kX8_tapeAt hx0 hq1) rfl (fun ea2 => ?_) (fun a2 ea2 => ?_)
  · replace h := oc_n ea2 h
    refine g_astore_nN (ls' := [(3, XN), (0, XR x0), (1, XI x1), (2, XI x2)]) dX8_peek_5 (by decide) rfl ?_
    refine g_aload_nN 0 dX8_peek_6 rfl ?_
    refine g_ifnullN (tgt := 22) dX8_peek_7 (by decide) ?_
    refine g_ldc2 (v := -9223372036854775808) dX8_peek_22 csX8_199 (by decide +kernel) (i64l rfl) ?_
    cases h
    exact g_lreturn dX8_peek_25 rfl ⟨rfl, rfl⟩
  · replace h := oc_s ea2 h
    obtain ⟨c3, h⟩ := chk_some h
    refine g_astore_n (ls' := [(3, XR a2), (0, XR x0), (1, XI x1), (2, XI x2)]) dX8_peek_5 (by decide) rfl ?_
    refine g_aload_n 0 dX8_peek_6 rfl ?_
    refine g_ifnullR dX8_peek_7 ?_
    refine g_iload_n 3 dX8_peek_10 rfl ?_
    refine g_if_lt (tgt := 22) dX8_peek_11 (by decide) (fun b4 => ?_) (fun b4 => ?_)
    · replace h := ifp b4 h
      refine g_ldc2 (v := -9223372036854775808) dX8_peek_22 csX8_199 (by decide +kernel) (i64l rfl) ?_
      cases h
      exact g_lreturn dX8_peek_25 rfl ⟨rfl, rfl⟩
    · replace h := ifn b4 h
      refine g_pc (pc' := 14) rfl ?_
      refine g_iload_n 3 dX8_peek_14 rfl ?_
      refine g_aload_n 0 dX8_peek_15 rfl ?_
      refine g_getI dX8_peek_16 flX8_340 (by decide) rfl c3 ?_
      refine g_icmp_lt (tgt := 26) dX8_peek_19 (by decide) (fun b5 => ?_) (fun b5 => ?_)
      · replace h := ifp b5 h
        refine g_aload_n 0 dX8_peek_26 rfl ?_
        refine g_getR dX8_peek_27 flX8_341 (by decide) rfl c3 ?_
        refine g_iload_n 3 dX8_peek_30 rfl ?_
        obtain ⟨c6, h⟩ := chk_some h
        refine g_lald dX8_peek_31 (sf_4_2 c3) c6.1 c6.2 ?_
        cases h
        exact g_lreturn dX8_peek_32 rfl ⟨rfl, rfl⟩
      · replace h := ifn b5 h
        refine g_pc (pc' := 22) rfl ?_
        refine g_ldc2 (v := -9223372036854775808) dX8_peek_22 csX8_199 (by decide +kernel) (i64l rfl) ?_
        cases h
        exact g_lreturn dX8_peek_25 rfl ⟨rfl, rfl⟩
def fX8_shift (x0 : Nat) (x1 : Int) (x2 : Int) (x3 : Int) (x4 : Int) (x5 : Int) (M : Mem) : Option (Int × Mem) := Option.bind (fX8_tapeAt x0 x1 M) (fun q1 => oc q1.1 (Option.bind (fX8_tapeAt x0 x3 q1.2) (fun q4 => oc q4.1 (some ((-1), q4.2)) (fun a5 => if Sh a5 = (14, 3) then some ((-1), q4.2) else none))) (fun a2 => if Sh a2 = (14, 3) then Option.bind (fX8_tapeAt x0 x3 q1.2) (fun q7 => oc q7.1 (some ((-1), q7.2)) (fun a8 => if Sh a8 = (14, 3) then (if (q7.2 a2 0) = (-1) then some ((-11), q7.2) else (if (q7.2 a8 0) = (-1) then some ((-11), q7.2) else (if (q7.2 a2 0) = (q7.2 a8 0) then (if x5 < 0 then some ((-13), q7.2) else Option.bind (fX5_hasRoom a2 x2 x5 q7.2) (fun q14 => (if q14.1 = 0 then some ((-13), q14.2) else Option.bind (fX5_hasRoom a8 x4 x5 q14.2) (fun q16 => (if q16.1 = 0 then some ((-13), q16.2) else if 0 ≤ x2 ∧ 0 ≤ x4 ∧ 0 ≤ x5 ∧ x2 + x5 ≤ 60 ∧ x4 + x5 ≤ 60 then nm (cpM q16.2 (a2 + 3) (Int.toNat x2) (a8 + 3) (Int.toNat x4) (Int.toNat x5)) (fun M19 => some (x5, M19)) else none))))) else some ((-12), q7.2)))) else none)) else none))
set_option maxRecDepth 20000 in
theorem kX8_shift {X : XC} {d : Nat} {x0 : Nat} {x1 : Int} {x2 : Int} {x3 : Int} {x4 : Int} {x5 : Int} (hx0 : Sh x0 = (17, 10)) {M : Mem} {q : Int × Mem} (h : fX8_shift x0 x1 x2 x3 x4 x5 M = some q) : Ct X mX8_shift (d + 1) [XR x0, XI x1, XI x2, XI x3, XI x4, XI x5] M (pI q) := by
  unfold fX8_shift at h
  refine ct_go (by decide +kernel) (Nat.le_of_ble_eq_true rfl) (ls := [(0, XR x0), (1, XI x1), (2, XI x2), (3, XI x3), (4, XI x4), (5, XI x5)]) rfl ?_
  refine g_aload_n 0 dX8_shift_0 rfl ?_
  refine g_iload_n 1 dX8_shift_1 rfl ?_
  obtain ⟨q1, hq1, h⟩ := bnd_some h
  refine v_R (ci := 7) (as := [XI x1]) dX8_shift_2 mlX8_334 mdX8_tapeAt mvX8_tapeAt rfl hx0 rfl (Nat.le_of_ble_eq_true rfl) (kX8_tapeAt hx0 hq1) rfl (fun ea2 => ?_) (fun a2 ea2 => ?_)
  · replace h := oc_n ea2 h
    refine g_astoreN (ls' := [(6, XN), (0, XR x0), (1, XI x1), (2, XI x2), (3, XI x3), (4, XI x4), (5, XI x5)]) dX8_shift_5 (by decide) rfl ?_
    refine g_aload_n 1 dX8_shift_7 rfl ?_
    refine g_iload_n 4 dX8_shift_8 rfl ?_
    obtain ⟨q4, hq4, h⟩ := bnd_some h
    refine v_R (ci := 7) (as := [XI x3]) dX8_shift_9 mlX8_334 mdX8_tapeAt mvX8_tapeAt rfl hx0 rfl (Nat.le_of_ble_eq_true rfl) (kX8_tapeAt hx0 hq4) rfl (fun ea5 => ?_) (fun a5 ea5 => ?_)
    · replace h := oc_n ea5 h
      refine g_astoreN (ls' := [(7, XN), (6, XN), (0, XR x0), (1, XI x1), (2, XI x2), (3, XI x3), (4, XI x4), (5, XI x5)]) dX8_shift_12 (by decide) rfl ?_
      refine g_aloadN 1 dX8_shift_14 rfl ?_
      refine g_ifnullN (tgt := 24) dX8_shift_16 (by decide) ?_
      refine g_iconst (v := -1) dX8_shift_24 rfl (i32l rfl) ?_
      cases h
      exact g_ireturn dX8_shift_25 rfl ⟨rfl, rfl⟩
    · replace h := oc_s ea5 h
      obtain ⟨c6, h⟩ := chk_some h
      refine g_astore (ls' := [(7, XR a5), (6, XN), (0, XR x0), (1, XI x1), (2, XI x2), (3, XI x3), (4, XI x4), (5, XI x5)]) dX8_shift_12 (by decide) rfl ?_
      refine g_aloadN 1 dX8_shift_14 rfl ?_
      refine g_ifnullN (tgt := 24) dX8_shift_16 (by decide) ?_
      refine g_iconst (v := -1) dX8_shift_24 rfl (i32l rfl) ?_
      cases h
      exact g_ireturn dX8_shift_25 rfl ⟨rfl, rfl⟩
  · replace h := oc_s ea2 h
    obtain ⟨c3, h⟩ := chk_some h
    refine g_astore (ls' := [(6, XR a2), (0, XR x0), (1, XI x1), (2, XI x2), (3, XI x3), (4, XI x4), (5, XI x5)]) dX8_shift_5 (by decide) rfl ?_
    refine g_aload_n 1 dX8_shift_7 rfl ?_
    refine g_iload_n 4 dX8_shift_8 rfl ?_
    obtain ⟨q7, hq7, h⟩ := bnd_some h
    refine v_R (ci := 7) (as := [XI x3]) dX8_shift_9 mlX8_334 mdX8_tapeAt mvX8_tapeAt rfl hx0 rfl (Nat.le_of_ble_eq_true rfl) (kX8_tapeAt hx0 hq7) rfl (fun ea8 => ?_) (fun a8 ea8 => ?_)
    · replace h := oc_n ea8 h
      refine g_astoreN (ls' := [(7, XN), (6, XR a2), (0, XR x0), (1, XI x1), (2, XI x2), (3, XI x3), (4, XI x4), (5, XI x5)]) dX8_shift_12 (by decide) rfl ?_
      refine g_aload 1 dX8_shift_14 rfl ?_
      refine g_ifnullR dX8_shift_16 ?_
      refine g_aloadN 0 dX8_shift_19 rfl ?_
      refine g_ifnonnullN dX8_shift_21 ?_
      refine g_iconst (v := -1) dX8_shift_24 rfl (i32l rfl) ?_
      cases h
      exact g_ireturn dX8_shift_25 rfl ⟨rfl, rfl⟩
    · replace h := oc_s ea8 h
      obtain ⟨c9, h⟩ := chk_some h
      refine g_astore (ls' := [(7, XR a8), (6, XR a2), (0, XR x0), (1, XI x1), (2, XI x2), (3, XI x3), (4, XI x4), (5, XI x5)]) dX8_shift_12 (by decide) rfl ?_
      refine g_aload 1 dX8_shift_14 rfl ?_
      refine g_ifnullR dX8_shift_16 ?_
      refine g_aload 0 dX8_shift_19 rfl ?_
      refine g_ifnonnullR (tgt := 26) dX8_shift_21 (by decide) ?_
      refine g_aload 1 dX8_shift_26 rfl ?_
      refine g_getI dX8_shift_28 flX8_338 (by decide) rfl c3 ?_
      refine g_iconst (v := -1) dX8_shift_31 rfl (i32l rfl) ?_
      refine g_icmp_eq (tgt := 44) dX8_shift_32 (by decide) (fun b10 => ?_) (fun b10 => ?_)
      · replace h := ifp b10 h
        refine g_bip dX8_shift_44 rfl ?_
        cases h
        exact g_ireturn dX8_shift_46 rfl ⟨rfl, rfl⟩
      · replace h := ifn b10 h
        refine g_pc (pc' := 35) rfl ?_
        refine g_aload 0 dX8_shift_35 rfl ?_
        refine g_getI dX8_shift_37 flX8_338 (by decide) rfl c9 ?_
        refine g_iconst (v := -1) dX8_shift_40 rfl (i32l rfl) ?_
        refine g_icmp_ne (tgt := 47) dX8_shift_41 (by decide) (fun b11 => ?_) (fun b11 => ?_)
        · replace h := ifn b11 h
          refine g_aload 1 dX8_shift_47 rfl ?_
          refine g_getI dX8_shift_49 flX8_338 (by decide) rfl c3 ?_
          refine g_aload 0 dX8_shift_52 rfl ?_
          refine g_getI dX8_shift_54 flX8_338 (by decide) rfl c9 ?_
          refine g_icmp_eq (tgt := 63) dX8_shift_57 (by decide) (fun b12 => ?_) (fun b12 => ?_)
          · replace h := ifp b12 h
            refine g_iload 7 dX8_shift_63 rfl ?_
            refine g_if_lt (tgt := 91) dX8_shift_65 (by decide) (fun b13 => ?_) (fun b13 => ?_)
            · replace h := ifp b13 h
              refine g_bip dX8_shift_91 rfl ?_
              cases h
              exact g_ireturn dX8_shift_93 rfl ⟨rfl, rfl⟩
            · replace h := ifn b13 h
              refine g_pc (pc' := 68) rfl ?_
              refine g_aload 1 dX8_shift_68 rfl ?_
              refine g_iload_n 4 dX8_shift_70 rfl ?_
              refine g_iload 7 dX8_shift_71 rfl ?_
              obtain ⟨q14, hq14, h⟩ := bnd_some h
              refine v_I (ci := 4) (as := [XI x2, XI x5]) dX8_shift_73 mlX8_351 mdX5_hasRoom mvX5_hasRoom rfl c3 rfl (Nat.le_of_ble_eq_true rfl) (kX5_hasRoom c3 hq14) rfl ?_
              refine g_if_eq (tgt := 91) dX8_shift_76 (by decide) (fun b15 => ?_) (fun b15 => ?_)
              · replace h := ifp b15 h
                refine g_bip dX8_shift_91 rfl ?_
                cases h
                exact g_ireturn dX8_shift_93 rfl ⟨rfl, rfl⟩
              · replace h := ifn b15 h
                refine g_pc (pc' := 79) rfl ?_
                refine g_aload 0 dX8_shift_79 rfl ?_
                refine g_iload 6 dX8_shift_81 rfl ?_
                refine g_iload 7 dX8_shift_83 rfl ?_
                obtain ⟨q16, hq16, h⟩ := bnd_some h
                refine v_I (ci := 4) (as := [XI x4, XI x5]) dX8_shift_85 mlX8_351 mdX5_hasRoom mvX5_hasRoom rfl c9 rfl (Nat.le_of_ble_eq_true rfl) (kX5_hasRoom c9 hq16) rfl ?_
                refine g_if_ne (tgt := 94) dX8_shift_88 (by decide) (fun b17 => ?_) (fun b17 => ?_)
                · replace h := ifn b17 h
                  refine g_aload 1 dX8_shift_94 rfl ?_
                  refine g_getR dX8_shift_96 flX8_341 (by decide) rfl c3 ?_
                  refine g_iload_n 4 dX8_shift_99 rfl ?_
                  refine g_aload 0 dX8_shift_100 rfl ?_
                  refine g_getR dX8_shift_102 flX8_341 (by decide) rfl c9 ?_
                  refine g_iload 6 dX8_shift_105 rfl ?_
                  refine g_iload 7 dX8_shift_107 rfl ?_
                  obtain ⟨c18, h⟩ := chk_some h
                  refine g_copy dX8_shift_109 mlX8_354 (sf_4_2 c3) (sf_4_2 c9) (by decide) c18.1 c18.2.1 c18.2.2.1 c18.2.2.2.1 c18.2.2.2.2 (Nat.le_of_ble_eq_true rfl) ?_
                  refine g_nmM (fun M19 eM19 => ?_)
                  replace h := nm_s eM19 h
                  refine g_pc (pc' := 112) rfl ?_
                  refine g_iload 7 dX8_shift_112 rfl ?_
                  cases h
                  exact g_ireturn dX8_shift_114 rfl ⟨rfl, rfl⟩
                · replace h := ifp b17 h
                  refine g_pc (pc' := 91) rfl ?_
                  refine g_bip dX8_shift_91 rfl ?_
                  cases h
                  exact g_ireturn dX8_shift_93 rfl ⟨rfl, rfl⟩
          · replace h := ifn b12 h
            refine g_pc (pc' := 60) rfl ?_
            refine g_bip dX8_shift_60 rfl ?_
            cases h
            exact g_ireturn dX8_shift_62 rfl ⟨rfl, rfl⟩
        · replace h := ifp b11 h
          refine g_pc (pc' := 44) rfl ?_
          refine g_bip dX8_shift_44 rfl ?_
          cases h
          exact g_ireturn dX8_shift_46 rfl ⟨rfl, rfl⟩
def fX9_in (x0 : Int) (x2 : Int) (x4 : Int) (M : Mem) : Option (Int × Mem) := Option.bind ((if x0 < x2 then some (0) else (if x4 < x0 then some (0) else some (1))) : Option (Int)) (fun t3 => if t3 = 0 ∨ t3 = 1 then some (t3, M) else none)
set_option maxRecDepth 20000 in
theorem kX9_in {X : XC} {d : Nat} {x0 : Int} {x2 : Int} {x4 : Int}  {M : Mem} {q : Int × Mem} (h : fX9_in x0 x2 x4 M = some q) : Ct X mX9_in d [XL x0, XL x2, XL x4] M (pI q) := by
  unfold fX9_in at h
  refine ct_go (by decide +kernel) (Nat.le_of_ble_eq_true rfl) (ls := [(0, XL x0), (2, XL x2), (4, XL x4)]) rfl ?_
  refine g_lload_n 0 dX9_in_0 rfl ?_
  refine g_lload_n 1 dX9_in_1 rfl ?_
  obtain ⟨t3, ht3, h⟩ := bnd_some h
  have Kt3 : Go X mX9_in d 18 [] [XI t3] M (pI q) := by
    obtain ⟨cz, h⟩ := chk_some h
    cases h
    exact g_zreturn dX9_in_18 rfl cz ⟨rfl, rfl⟩
  refine g_lcmp_lt (tgt := 17) dX9_in_2 dX9_in_3 (by decide) (fun b4 => ?_) (fun b4 => ?_)
  · replace ht3 := ifp b4 ht3
    refine g_iconst (v := 0) dX9_in_17 rfl (i32l rfl) ?_
    cases ht3
    exact g_sub [] rfl Kt3
  · replace ht3 := ifn b4 ht3
    refine g_pc (pc' := 6) rfl ?_
    refine g_lload_n 0 dX9_in_6 rfl ?_
    refine g_lload 2 dX9_in_7 rfl ?_
    refine g_lcmp_gt (tgt := 17) dX9_in_9 dX9_in_10 (by decide) (fun b5 => ?_) (fun b5 => ?_)
    · replace ht3 := ifp b5 ht3
      refine g_iconst (v := 0) dX9_in_17 rfl (i32l rfl) ?_
      cases ht3
      exact g_sub [] rfl Kt3
    · replace ht3 := ifn b5 ht3
      refine g_pc (pc' := 13) rfl ?_
      refine g_iconst (v := 1) dX9_in_13 rfl (i32l rfl) ?_
      refine g_goto (tgt := 18) dX9_in_14 (by decide) ?_
      cases ht3
      exact g_sub [] rfl Kt3
def fX9_isOne (x0 : Nat) (x1 : Int) (M : Mem) : Option (Int × Mem) := if -2147483648 ≤ ((M x0 0) - 1) ∧ ((M x0 0) - 1) ≤ 2147483647 then Option.bind (fX9_in x1 0 ((M x0 0) - 1) M) (fun q2 => if q2.1 = 0 ∨ q2.1 = 1 then some (q2.1, q2.2) else none) else none
set_option maxRecDepth 20000 in
theorem kX9_isOne {X : XC} {d : Nat} {x0 : Nat} {x1 : Int} (hx0 : Sh x0 = (18, 69)) {M : Mem} {q : Int × Mem} (h : fX9_isOne x0 x1 M = some q) : Ct X mX9_isOne (d + 1) [XR x0, XI x1] M (pI q) := by
  unfold fX9_isOne at h
  refine ct_go (by decide +kernel) (Nat.le_of_ble_eq_true rfl) (ls := [(0, XR x0), (1, XI x1)]) rfl ?_
  refine g_iload_n 1 dX9_isOne_0 rfl ?_
  refine g_i2l dX9_isOne_1 ?_
  refine g_lconst (v := 0) dX9_isOne_2 rfl (i64l rfl) ?_
  refine g_aload_n 0 dX9_isOne_3 rfl ?_
  refine g_getI dX9_isOne_4 flX9_167 (by decide) rfl hx0 ?_
  refine g_iconst (v := 1) dX9_isOne_7 rfl (i32l rfl) ?_
  obtain ⟨c1, h⟩ := chk_some h
  refine g_isub dX9_isOne_8 rfl c1 ?_
  refine g_i2l dX9_isOne_9 ?_
  refine g_pc (pc' := 10) rfl ?_
  obtain ⟨q2, hq2, h⟩ := bnd_some h
  refine s_I (as := [XL x1, XL 0, XL ((M x0 0) - 1)]) dX9_isOne_10 mlX9_170 mdX9_in msX9_in rfl (Nat.le_of_ble_eq_true rfl) (kX9_in  hq2) rfl ?_
  obtain ⟨cz, h⟩ := chk_some h
  cases h
  exact g_zreturn dX9_isOne_13 rfl cz ⟨rfl, rfl⟩
def fX9_isBallot (x0 : Nat) (x1 : Int) (M : Mem) : Option (Int × Mem) := if -2147483648 ≤ ((M x0 1) - 1) ∧ ((M x0 1) - 1) ≤ 2147483647 then Option.bind (fX9_in x1 0 ((M x0 1) - 1) M) (fun q2 => if q2.1 = 0 ∨ q2.1 = 1 then some (q2.1, q2.2) else none) else none
set_option maxRecDepth 20000 in
theorem kX9_isBallot {X : XC} {d : Nat} {x0 : Nat} {x1 : Int} (hx0 : Sh x0 = (18, 69)) {M : Mem} {q : Int × Mem} (h : fX9_isBallot x0 x1 M = some q) : Ct X mX9_isBallot (d + 1) [XR x0, XI x1] M (pI q) := by
  unfold fX9_isBallot at h
  refine ct_go (by decide +kernel) (Nat.le_of_ble_eq_true rfl) (ls := [(0, XR x0), (1, XI x1)]) rfl ?_
  refine g_iload_n 1 dX9_isBallot_0 rfl ?_
  refine g_i2l dX9_isBallot_1 ?_
  refine g_lconst (v := 0) dX9_isBallot_2 rfl (i64l rfl) ?_
  refine g_aload_n 0 dX9_isBallot_3 rfl ?_
  refine g_getI dX9_isBallot_4 flX9_174 (by decide) rfl hx0 ?_
  refine g_iconst (v := 1) dX9_isBallot_7 rfl (i32l rfl) ?_
  obtain ⟨c1, h⟩ := chk_some h
  refine g_isub dX9_isBallot_8 rfl c1 ?_
  refine g_i2l dX9_isBallot_9 ?_
  refine g_pc (pc' := 10) rfl ?_
  obtain ⟨q2, hq2, h⟩ := bnd_some h
  refine s_I (as := [XL x1, XL 0, XL ((M x0 1) - 1)]) dX9_isBallot_10 mlX9_170 mdX9_in msX9_in rfl (Nat.le_of_ble_eq_true rfl) (kX9_in  hq2) rfl ?_
  obtain ⟨cz, h⟩ := chk_some h
  cases h
  exact g_zreturn dX9_isBallot_13 rfl cz ⟨rfl, rfl⟩
def fX9_has (x0 : Int) (x1 : Int) (M : Mem) : Option (Int × Mem) := Option.bind ((if (bAnd (bShr x0 x1) 1) = 1 then some (1) else some (0)) : Option (Int)) (fun t2 => if t2 = 0 ∨ t2 = 1 then some (t2, M) else none)
set_option maxRecDepth 20000 in
theorem kX9_has {X : XC} {d : Nat} {x0 : Int} {x1 : Int}  {M : Mem} {q : Int × Mem} (h : fX9_has x0 x1 M = some q) : Ct X mX9_has d [XI x0, XI x1] M (pI q) := by
  unfold fX9_has at h
  refine ct_go (by decide +kernel) (Nat.le_of_ble_eq_true rfl) (ls := [(0, XI x0), (1, XI x1)]) rfl ?_
  refine g_iload_n 0 dX9_has_0 rfl ?_
  refine g_iload_n 1 dX9_has_1 rfl ?_
  refine g_ishr dX9_has_2 ?_
  refine g_iconst (v := 1) dX9_has_3 rfl (i32l rfl) ?_
  refine g_iand dX9_has_4 ?_
  refine g_iconst (v := 1) dX9_has_5 rfl (i32l rfl) ?_
  obtain ⟨t2, ht2, h⟩ := bnd_some h
  have Kt2 : Go X mX9_has d 14 [] [XI t2] M (pI q) := by
    obtain ⟨cz, h⟩ := chk_some h
    cases h
    exact g_zreturn dX9_has_14 rfl cz ⟨rfl, rfl⟩
  refine g_icmp_ne (tgt := 13) dX9_has_6 (by decide) (fun b3 => ?_) (fun b3 => ?_)
  · replace ht2 := ifn b3 ht2
    refine g_iconst (v := 0) dX9_has_13 rfl (i32l rfl) ?_
    cases ht2
    exact g_sub [] rfl Kt2
  · replace ht2 := ifp b3 ht2
    refine g_pc (pc' := 9) rfl ?_
    refine g_iconst (v := 1) dX9_has_9 rfl (i32l rfl) ?_
    refine g_goto (tgt := 14) dX9_has_10 (by decide) ?_
    cases ht2
    exact g_sub [] rfl Kt2
def fX9_lengthOf_l4  : Nat → Int → Int → Mem → Option (Int × Int × Mem)
  | 0, _, _, _ => none
  | n + 1, x1, x2, M => (if x2 ≤ 0 then some (x1, x2, M) else if -2147483648 ≤ (x1 + 1) ∧ (x1 + 1) ≤ 2147483647 then if 0 ≤ x2 then nm ((x2 / 10)) (fun v4 => fX9_lengthOf_l4  n (x1 + 1) v4 M) else none else none)
def fX9_lengthOf (x0 : Int) (M : Mem) : Option (Int × Mem) := Option.bind (fX9_lengthOf_l4  1000 0 x0 M) (fun z5 => some (z5.1, z5.2.2))
set_option maxRecDepth 20000 in
theorem lX9_lengthOf_l4 {X : XC} {d : Nat} {Post : Option XV → Mem → Prop}   : ∀ (n : Nat) (x1 x2 : Int) (M : Mem) (t0 : Int × Int × Mem), fX9_lengthOf_l4  n x1 x2 M = some t0 → Go X mX9_lengthOf d 19 [(1, XI t0.1)] [] t0.2.2 Post → Go X mX9_lengthOf d 4 [(1, XI x1), (2, XI x2)] [] M Post := by
  intro n
  induction n with
  | zero => intro _ _ _ _ h; cases h
  | succ n ih =>
    intro x1 x2 M t0 h K
    unfold fX9_lengthOf_l4 at h
    refine g_iload_n 1 dX9_lengthOf_4 rfl ?_
    refine g_if_le (tgt := 19) dX9_lengthOf_5 (by decide) (fun b1 => ?_) (fun b1 => ?_)
    · replace h := ifp b1 h
      cases h
      exact g_sub [0] rfl K
    · replace h := ifn b1 h
      refine g_pc (pc' := 8) rfl ?_
      obtain ⟨c2, h⟩ := chk_some h
      refine g_iinc (ls' := [(1, XI (x1 + 1)), (2, XI x2)]) 0 dX9_lengthOf_8 rfl rfl c2 (by decide) rfl ?_
      refine g_iload_n 1 dX9_lengthOf_11 rfl ?_
      refine g_bip dX9_lengthOf_12 rfl ?_
      obtain ⟨c3, h⟩ := chk_some h
      refine g_idiv dX9_lengthOf_14 c3 (by decide) rfl ?_
      refine g_nmI (fun v4 ev4 => ?_)
      replace h := nm_s ev4 h
      refine g_istore_n (ls' := [(2, XI v4), (1, XI (x1 + 1))]) dX9_lengthOf_15 (by decide) rfl ?_
      refine g_goto (tgt := 4) dX9_lengthOf_16 (by decide) ?_
      exact g_sub [1, 0] rfl (ih _ _ _ _ h K)
set_option maxRecDepth 20000 in
theorem kX9_lengthOf {X : XC} {d : Nat} {x0 : Int}  {M : Mem} {q : Int × Mem} (h : fX9_lengthOf x0 M = some q) : Ct X mX9_lengthOf d [XI x0] M (pI q) := by
  unfold fX9_lengthOf at h
  refine ct_go (by decide +kernel) (Nat.le_of_ble_eq_true rfl) (ls := [(0, XI x0)]) rfl ?_
  refine g_iconst (v := 0) dX9_lengthOf_0 rfl (i32l rfl) ?_
  refine g_istore_n (ls' := [(1, XI 0), (0, XI x0)]) dX9_lengthOf_1 (by decide) rfl ?_
  refine g_iload_n 1 dX9_lengthOf_2 rfl ?_
  refine g_istore_n (ls' := [(2, XI x0), (1, XI 0), (0, XI x0)]) dX9_lengthOf_3 (by decide) rfl ?_
  obtain ⟨z5, hz5, h⟩ := bnd_some h
  refine g_sub (ls' := [(1, XI 0), (2, XI x0)]) [1, 0] rfl ?_
  refine lX9_lengthOf_l4  1000 _ _ _ _ hz5 ?_
  refine g_iload_n 0 dX9_lengthOf_19 rfl ?_
  cases h
  exact g_ireturn dX9_lengthOf_20 rfl ⟨rfl, rfl⟩
def fX9_digitAt_l9 (x1 : Int) : Nat → Int → Int → Mem → Option (Int × Int × Mem)
  | 0, _, _, _ => none
  | n + 1, x2, x3, M => (if x3 ≤ x1 then some (x2, x3, M) else if 0 ≤ x2 then nm ((x2 / 10)) (fun v6 => if -2147483648 ≤ (x3 + (-1)) ∧ (x3 + (-1)) ≤ 2147483647 then fX9_digitAt_l9 x1 n v6 (x3 + (-1)) M else none) else none)
def fX9_digitAt (x0 : Int) (x1 : Int) (M : Mem) : Option (Int × Mem) := Option.bind (fX9_lengthOf x0 M) (fun q1 => if -2147483648 ≤ (q1.1 - 1) ∧ (q1.1 - 1) ≤ 2147483647 then nm ((q1.1 - 1)) (fun v3 => Option.bind (fX9_digitAt_l9 x1 1000 x0 v3 q1.2) (fun z8 => if 0 ≤ z8.1 then some ((z8.1 % 10), z8.2.2) else none)) else none)
set_option maxRecDepth 20000 in
theorem lX9_digitAt_l9 {X : XC} {d : Nat} {Post : Option XV → Mem → Prop} {x1 : Int}  : ∀ (n : Nat) (x2 x3 : Int) (M : Mem) (t0 : Int × Int × Mem), fX9_digitAt_l9 x1 n x2 x3 M = some t0 → Go X mX9_digitAt (d + 1) 25 [(2, XI t0.1)] [] t0.2.2 Post → Go X mX9_digitAt (d + 1) 9 [(1, XI x1), (2, XI x2), (3, XI x3)] [] M Post := by
  intro n
  induction n with
  | zero => intro _ _ _ _ h; cases h
  | succ n ih =>
    intro x2 x3 M t0 h K
    unfold fX9_digitAt_l9 at h
    refine g_iload_n 2 dX9_digitAt_9 rfl ?_
    refine g_iload_n 0 dX9_digitAt_10 rfl ?_
    refine g_icmp_le (tgt := 25) dX9_digitAt_11 (by decide) (fun b4 => ?_) (fun b4 => ?_)
    · replace h := ifp b4 h
      cases h
      exact g_sub [1] rfl K
    · replace h := ifn b4 h
      refine g_pc (pc' := 14) rfl ?_
      refine g_iload_n 1 dX9_digitAt_14 rfl ?_
      refine g_bip dX9_digitAt_15 rfl ?_
      obtain ⟨c5, h⟩ := chk_some h
      refine g_idiv dX9_digitAt_17 c5 (by decide) rfl ?_
      refine g_nmI (fun v6 ev6 => ?_)
      replace h := nm_s ev6 h
      refine g_istore_n (ls' := [(2, XI v6), (1, XI x1), (3, XI x3)]) dX9_digitAt_18 (by decide) rfl ?_
      obtain ⟨c7, h⟩ := chk_some h
      refine g_iinc (ls' := [(3, XI (x3 + (-1))), (2, XI v6), (1, XI x1)]) 2 dX9_digitAt_19 rfl rfl c7 (by decide) rfl ?_
      refine g_goto (tgt := 9) dX9_digitAt_22 (by decide) ?_
      exact g_sub [2, 1, 0] rfl (ih _ _ _ _ h K)
set_option maxRecDepth 20000 in
theorem kX9_digitAt {X : XC} {d : Nat} {x0 : Int} {x1 : Int}  {M : Mem} {q : Int × Mem} (h : fX9_digitAt x0 x1 M = some q) : Ct X mX9_digitAt (d + 1) [XI x0, XI x1] M (pI q) := by
  unfold fX9_digitAt at h
  refine ct_go (by decide +kernel) (Nat.le_of_ble_eq_true rfl) (ls := [(0, XI x0), (1, XI x1)]) rfl ?_
  refine g_iload_n 0 dX9_digitAt_0 rfl ?_
  refine g_istore_n (ls' := [(2, XI x0), (0, XI x0), (1, XI x1)]) dX9_digitAt_1 (by decide) rfl ?_
  refine g_iload_n 1 dX9_digitAt_2 rfl ?_
  obtain ⟨q1, hq1, h⟩ := bnd_some h
  refine s_I (as := [XI x0]) dX9_digitAt_3 mlX9_177 mdX9_lengthOf msX9_lengthOf rfl (Nat.le_of_ble_eq_true rfl) (kX9_lengthOf  hq1) rfl ?_
  refine g_iconst (v := 1) dX9_digitAt_6 rfl (i32l rfl) ?_
  obtain ⟨c2, h⟩ := chk_some h
  refine g_isub dX9_digitAt_7 rfl c2 ?_
  refine g_nmI (fun v3 ev3 => ?_)
  replace h := nm_s ev3 h
  refine g_istore_n (ls' := [(3, XI v3), (2, XI x0), (0, XI x0), (1, XI x1)]) dX9_digitAt_8 (by decide) rfl ?_
  obtain ⟨z8, hz8, h⟩ := bnd_some h
  refine g_sub (ls' := [(1, XI x1), (2, XI x0), (3, XI v3)]) [3, 1, 0] rfl ?_
  refine lX9_digitAt_l9  1000 _ _ _ _ hz8 ?_
  refine g_iload_n 0 dX9_digitAt_25 rfl ?_
  refine g_bip dX9_digitAt_26 rfl ?_
  obtain ⟨c9, h⟩ := chk_some h
  refine g_irem dX9_digitAt_28 c9 (by decide) rfl ?_
  cases h
  exact g_ireturn dX9_digitAt_29 rfl ⟨rfl, rfl⟩
def fX9_left_l4 (x0 : Nat) (x1 : Int) : Nat → Int → Int → Mem → Option (Int × Int × Mem)
  | 0, _, _, _ => none
  | n + 1, x2, x3, M => Option.bind (fX9_lengthOf x1 M) (fun q1 => (if q1.1 ≤ x3 then some (x2, x3, q1.2) else Option.bind (fX9_digitAt x1 x3 q1.2) (fun q3 => nm (q3.1) (fun v4 => if -2147483648 ≤ (v4 - 1) ∧ (v4 - 1) ≤ 2147483647 then if 0 ≤ (v4 - 1) ∧ (v4 - 1) < 8 then Option.bind ((if (q3.2 (x0 + 3) (Int.toNat (v4 - 1))) = 0 then if -2147483648 ≤ (10 * x2) ∧ (10 * x2) ≤ 2147483647 then if -2147483648 ≤ ((10 * x2) + v4) ∧ ((10 * x2) + v4) ≤ 2147483647 then nm (((10 * x2) + v4)) (fun v15 => some (v15)) else none else none else some (x2)) : Option (Int)) (fun t11 => if -2147483648 ≤ (x3 + 1) ∧ (x3 + 1) ≤ 2147483647 then fX9_left_l4 x0 x1 n t11 (x3 + 1) q3.2 else none) else none else none))))
def fX9_left (x0 : Nat) (x1 : Int) (M : Mem) : Option (Int × Mem) := Option.bind (fX9_left_l4 x0 x1 1000 0 0 M) (fun z17 => some (z17.1, z17.2.2))
set_option maxRecDepth 20000 in
theorem lX9_left_l4 {X : XC} {d : Nat} {Post : Option XV → Mem → Prop} {x0 : Nat} {x1 : Int} (hx0 : Sh x0 = (18, 69)) : ∀ (n : Nat) (x2 x3 : Int) (M : Mem) (t0 : Int × Int × Mem), fX9_left_l4 x0 x1 n x2 x3 M = some t0 → Go X mX9_left (d + 2) 45 [(2, XI t0.1)] [] t0.2.2 Post → Go X mX9_left (d + 2) 4 [(0, XR x0), (1, XI x1), (2, XI x2), (3, XI x3)] [] M Post := by
  intro n
  induction n with
  | zero => intro _ _ _ _ h; cases h
  | succ n ih =>
    intro x2 x3 M t0 h K
    unfold fX9_left_l4 at h
    refine g_iload_n 3 dX9_left_4 rfl ?_
    refine g_iload_n 1 dX9_left_5 rfl ?_
    obtain ⟨q1, hq1, h⟩ := bnd_some h
    refine s_I (as := [XI x1]) dX9_left_6 mlX9_177 mdX9_lengthOf msX9_lengthOf rfl (Nat.le_of_ble_eq_true rfl) (kX9_lengthOf  hq1) rfl ?_
    refine g_icmp_ge (tgt := 45) dX9_left_9 (by decide) (fun b2 => ?_) (fun b2 => ?_)
    · replace h := ifp b2 h
      cases h
      exact g_sub [2] rfl K
    · replace h := ifn b2 h
      refine g_pc (pc' := 12) rfl ?_
      refine g_iload_n 1 dX9_left_12 rfl ?_
      refine g_iload_n 3 dX9_left_13 rfl ?_
      obtain ⟨q3, hq3, h⟩ := bnd_some h
      refine s_I (as := [XI x1, XI x3]) dX9_left_14 mlX9_181 mdX9_digitAt msX9_digitAt rfl (Nat.le_of_ble_eq_true rfl) (kX9_digitAt  hq3) rfl ?_
      refine g_nmI (fun v4 ev4 => ?_)
      replace h := nm_s ev4 h
      refine g_istore (ls' := [(4, XI v4), (0, XR x0), (1, XI x1), (2, XI x2), (3, XI x3)]) dX9_left_17 (by decide) rfl ?_
      refine g_aload_n 1 dX9_left_19 rfl ?_
      refine g_getR dX9_left_20 flX9_11 (by decide) rfl hx0 ?_
      refine g_iload 0 dX9_left_23 rfl ?_
      refine g_iconst (v := 1) dX9_left_25 rfl (i32l rfl) ?_
      refine g_pc (pc' := 26) rfl ?_
      obtain ⟨c5, h⟩ := chk_some h
      refine g_isub dX9_left_26 rfl c5 ?_
      obtain ⟨c6, h⟩ := chk_some h
      refine g_zald dX9_left_27 (sf_8_2 hx0) c6.1 c6.2 ?_
      obtain ⟨t11, ht11, h⟩ := bnd_some h
      have Kt11 : Go X mX9_left (d + 2) 39 [(0, XR x0), (1, XI x1), (2, XI t11), (3, XI x3)] [] q3.2 Post := by
        obtain ⟨c16, h⟩ := chk_some h
        refine g_iinc (ls' := [(3, XI (x3 + 1)), (0, XR x0), (1, XI x1), (2, XI t11)]) 3 dX9_left_39 rfl rfl c16 (by decide) rfl ?_
        refine g_goto (tgt := 4) dX9_left_42 (by decide) ?_
        exact g_sub [1, 2, 3, 0] rfl (ih _ _ _ _ h K)
      refine g_if_ne (tgt := 39) dX9_left_28 (by decide) (fun b12 => ?_) (fun b12 => ?_)
      · replace ht11 := ifn b12 ht11
        cases ht11
        exact g_sub [1, 2, 3, 4] rfl Kt11
      · replace ht11 := ifp b12 ht11
        refine g_pc (pc' := 31) rfl ?_
        refine g_bip dX9_left_31 rfl ?_
        refine g_iload_n 3 dX9_left_33 rfl ?_
        obtain ⟨c13, ht11⟩ := chk_some ht11
        refine g_imul dX9_left_34 rfl c13 ?_
        refine g_iload 0 dX9_left_35 rfl ?_
        obtain ⟨c14, ht11⟩ := chk_some ht11
        refine g_iadd dX9_left_37 rfl c14 ?_
        refine g_nmI (fun v15 ev15 => ?_)
        replace ht11 := nm_s ev15 ht11
        refine g_istore_n (ls' := [(2, XI v15), (4, XI v4), (0, XR x0), (1, XI x1), (3, XI x3)]) dX9_left_38 (by decide) rfl ?_
        cases ht11
        exact g_sub [2, 3, 0, 4] rfl Kt11
set_option maxRecDepth 20000 in
theorem kX9_left {X : XC} {d : Nat} {x0 : Nat} {x1 : Int} (hx0 : Sh x0 = (18, 69)) {M : Mem} {q : Int × Mem} (h : fX9_left x0 x1 M = some q) : Ct X mX9_left (d + 2) [XR x0, XI x1] M (pI q) := by
  unfold fX9_left at h
  refine ct_go (by decide +kernel) (Nat.le_of_ble_eq_true rfl) (ls := [(0, XR x0), (1, XI x1)]) rfl ?_
  refine g_iconst (v := 0) dX9_left_0 rfl (i32l rfl) ?_
  refine g_istore_n (ls' := [(2, XI 0), (0, XR x0), (1, XI x1)]) dX9_left_1 (by decide) rfl ?_
  refine g_iconst (v := 0) dX9_left_2 rfl (i32l rfl) ?_
  refine g_istore_n (ls' := [(3, XI 0), (2, XI 0), (0, XR x0), (1, XI x1)]) dX9_left_3 (by decide) rfl ?_
  obtain ⟨z17, hz17, h⟩ := bnd_some h
  refine g_sub (ls' := [(0, XR x0), (1, XI x1), (2, XI 0), (3, XI 0)]) [2, 3, 1, 0] rfl ?_
  refine lX9_left_l4 hx0 1000 _ _ _ _ hz17 ?_
  refine g_iload_n 0 dX9_left_45 rfl ?_
  cases h
  exact g_ireturn dX9_left_46 rfl ⟨rfl, rfl⟩
def fX9_firstOver_l5 (x0 : Nat) (x1 : Int) : Nat → Int → Int → Mem → Option ((Int × Mem) ⊕ (Int × Int × Mem))
  | 0, _, _, _ => none
  | n + 1, x2, x4, M => (if x1 ≤ x4 then some (.inl ((-1), M)) else if 0 ≤ x4 ∧ x4 < 25 then if -9223372036854775808 ≤ (x2 + (M (x0 + 6) (Int.toNat x4))) ∧ (x2 + (M (x0 + 6) (Int.toNat x4))) ≤ 9223372036854775807 then nm ((x2 + (M (x0 + 6) (Int.toNat x4)))) (fun v4 => (if v4 ≤ 4611686 then if -2147483648 ≤ (x4 + 1) ∧ (x4 + 1) ≤ 2147483647 then fX9_firstOver_l5 x0 x1 n v4 (x4 + 1) M else none else some (.inl (x4, M)))) else none else none)
def fX9_firstOver (x0 : Nat) (x1 : Int) (M : Mem) : Option (Int × Mem) := lr (fX9_firstOver_l5 x0 x1 1000 0 0 M) (fun r => r) (fun _ => none)
set_option maxRecDepth 20000 in
theorem lX9_firstOver_l5 {X : XC} {d : Nat} {Post : Option XV → Mem → Prop} {x0 : Nat} {x1 : Int} (hx0 : Sh x0 = (18, 69)) : ∀ (n : Nat) (x2 x4 : Int) (M : Mem) (z : (Int × Mem) ⊕ (Int × Int × Mem)), fX9_firstOver_l5 x0 x1 n x2 x4 M = some z → (∀ r, z = .inl r → Post (some (XI r.1)) r.2) → Go X mX9_firstOver d 5 [(0, XR x0), (1, XI x1), (2, XL x2), (4, XI x4)] [] M Post := by
  intro n
  induction n with
  | zero => intro _ _ _ _ h; cases h
  | succ n ih =>
    intro x2 x4 M z h K1
    unfold fX9_firstOver_l5 at h
    refine g_iload 3 dX9_firstOver_5 rfl ?_
    refine g_iload_n 1 dX9_firstOver_7 rfl ?_
    refine g_icmp_ge (tgt := 39) dX9_firstOver_8 (by decide) (fun b1 => ?_) (fun b1 => ?_)
    · replace h := ifp b1 h
      refine g_iconst (v := -1) dX9_firstOver_39 rfl (i32l rfl) ?_
      cases h
      exact g_ireturn dX9_firstOver_40 rfl (K1 ((-1), M) rfl)
    · replace h := ifn b1 h
      refine g_pc (pc' := 11) rfl ?_
      refine g_lload_n 2 dX9_firstOver_11 rfl ?_
      refine g_aload_n 0 dX9_firstOver_12 rfl ?_
      refine g_getR dX9_firstOver_13 flX9_22 (by decide) rfl hx0 ?_
      refine g_iload 3 dX9_firstOver_16 rfl ?_
      obtain ⟨c2, h⟩ := chk_some h
      refine g_iald dX9_firstOver_18 (sf_8_5 hx0) c2.1 c2.2 ?_
      refine g_i2l dX9_firstOver_19 ?_
      obtain ⟨c3, h⟩ := chk_some h
      refine g_ladd dX9_firstOver_20 rfl c3 ?_
      refine g_nmL (fun v4 ev4 => ?_)
      replace h := nm_s ev4 h
      refine g_lstore_n (ls' := [(2, XL v4), (0, XR x0), (1, XI x1), (4, XI x4)]) dX9_firstOver_21 (by decide) rfl ?_
      refine g_pc (pc' := 22) rfl ?_
      refine g_lload_n 0 dX9_firstOver_22 rfl ?_
      refine g_ldc2 (v := 4611686) dX9_firstOver_23 csX9_185 (by decide +kernel) (i64l rfl) ?_
      refine g_lcmp_le (tgt := 33) dX9_firstOver_26 dX9_firstOver_27 (by decide) (fun b5 => ?_) (fun b5 => ?_)
      · replace h := ifp b5 h
        obtain ⟨c6, h⟩ := chk_some h
        refine g_iinc (ls' := [(4, XI (x4 + 1)), (2, XL v4), (0, XR x0), (1, XI x1)]) 3 dX9_firstOver_33 rfl rfl c6 (by decide) rfl ?_
        refine g_goto (tgt := 5) dX9_firstOver_36 (by decide) ?_
        exact g_sub [2, 3, 1, 0] rfl (ih _ _ _ _ h K1)
      · replace h := ifn b5 h
        refine g_pc (pc' := 30) rfl ?_
        refine g_iload 3 dX9_firstOver_30 rfl ?_
        cases h
        exact g_ireturn dX9_firstOver_32 rfl (K1 (x4, M) rfl)
set_option maxRecDepth 20000 in
theorem kX9_firstOver {X : XC} {d : Nat} {x0 : Nat} {x1 : Int} (hx0 : Sh x0 = (18, 69)) {M : Mem} {q : Int × Mem} (h : fX9_firstOver x0 x1 M = some q) : Ct X mX9_firstOver d [XR x0, XI x1] M (pI q) := by
  unfold fX9_firstOver at h
  refine ct_go (by decide +kernel) (Nat.le_of_ble_eq_true rfl) (ls := [(0, XR x0), (1, XI x1)]) rfl ?_
  refine g_lconst (v := 0) dX9_firstOver_0 rfl (i64l rfl) ?_
  refine g_lstore_n (ls' := [(2, XL 0), (0, XR x0), (1, XI x1)]) dX9_firstOver_1 (by decide) rfl ?_
  refine g_iconst (v := 0) dX9_firstOver_2 rfl (i32l rfl) ?_
  refine g_istore (ls' := [(4, XI 0), (2, XL 0), (0, XR x0), (1, XI x1)]) dX9_firstOver_3 (by decide) rfl ?_
  obtain ⟨z7, hz7, rz7, h⟩ := lr_some h
  refine g_sub (ls' := [(0, XR x0), (1, XI x1), (2, XL 0), (4, XI 0)]) [2, 3, 1, 0] rfl ?_
  refine lX9_firstOver_l5 hx0 1000 _ _ _ _ hz7 (fun r e => ?_)
  have rz7 := rz7 r e
  subst rz7
  exact ⟨rfl, rfl⟩
def fX9_over (x0 : Nat) (x1 : Int) (M : Mem) : Option (Int × Mem) := nm (wr M x0 15 3) (fun M1 => nm (wr M1 (x0 + 17) (Int.toNat 0) 5) (fun M2 => nm (wr M2 (x0 + 18) (Int.toNat 0) (M2 x0 1)) (fun M3 => nm (wr M3 (x0 + 17) (Int.toNat 1) 6) (fun M4 => nm (wr M4 (x0 + 18) (Int.toNat 1) x1) (fun M5 => nm (wr M5 (x0 + 17) (Int.toNat 2) 7) (fun M6 => nm (wr M6 (x0 + 18) (Int.toNat 2) 0) (fun M7 => some ((-15), M7))))))))
set_option maxRecDepth 20000 in
theorem kX9_over {X : XC} {d : Nat} {x0 : Nat} {x1 : Int} (hx0 : Sh x0 = (18, 69)) {M : Mem} {q : Int × Mem} (h : fX9_over x0 x1 M = some q) : Ct X mX9_over d [XR x0, XI x1] M (pI q) := by
  unfold fX9_over at h
  refine ct_go (by decide +kernel) (Nat.le_of_ble_eq_true rfl) (ls := [(0, XR x0), (1, XI x1)]) rfl ?_
  refine g_aload_n 0 dX9_over_0 rfl ?_
  refine g_iconst (v := 3) dX9_over_1 rfl (i32l rfl) ?_
  refine g_putI dX9_over_2 flX9_187 (by decide) rfl hx0 ?_
  refine g_nmM (fun M1 eM1 => ?_)
  replace h := nm_s eM1 h
  refine g_aload_n 0 dX9_over_5 rfl ?_
  refine g_getR dX9_over_6 flX9_47 (by decide) rfl hx0 ?_
  refine g_iconst (v := 0) dX9_over_9 rfl (i32l rfl) ?_
  refine g_iconst (v := 5) dX9_over_10 rfl (i32l rfl) ?_
  refine g_iast dX9_over_11 (sf_8_16 hx0) (by decide) (by decide) ?_
  refine g_nmM (fun M2 eM2 => ?_)
  replace h := nm_s eM2 h
  refine g_pc (pc' := 12) rfl ?_
  refine g_aload_n 0 dX9_over_12 rfl ?_
  refine g_getR dX9_over_13 flX9_50 (by decide) rfl hx0 ?_
  refine g_iconst (v := 0) dX9_over_16 rfl (i32l rfl) ?_
  refine g_aload_n 0 dX9_over_17 rfl ?_
  refine g_getI dX9_over_18 flX9_174 (by decide) rfl hx0 ?_
  refine g_iast dX9_over_21 (sf_8_17 hx0) (by decide) (by decide) ?_
  refine g_nmM (fun M3 eM3 => ?_)
  replace h := nm_s eM3 h
  refine g_aload_n 0 dX9_over_22 rfl ?_
  refine g_getR dX9_over_23 flX9_47 (by decide) rfl hx0 ?_
  refine g_iconst (v := 1) dX9_over_26 rfl (i32l rfl) ?_
  refine g_pc (pc' := 27) rfl ?_
  refine g_bip dX9_over_27 rfl ?_
  refine g_iast dX9_over_29 (sf_8_16 hx0) (by decide) (by decide) ?_
  refine g_nmM (fun M4 eM4 => ?_)
  replace h := nm_s eM4 h
  refine g_aload_n 0 dX9_over_30 rfl ?_
  refine g_getR dX9_over_31 flX9_50 (by decide) rfl hx0 ?_
  refine g_iconst (v := 1) dX9_over_34 rfl (i32l rfl) ?_
  refine g_iload_n 1 dX9_over_35 rfl ?_
  refine g_iast dX9_over_36 (sf_8_17 hx0) (by decide) (by decide) ?_
  refine g_nmM (fun M5 eM5 => ?_)
  replace h := nm_s eM5 h
  refine g_aload_n 0 dX9_over_37 rfl ?_
  refine g_getR dX9_over_38 flX9_47 (by decide) rfl hx0 ?_
  refine g_pc (pc' := 41) rfl ?_
  refine g_iconst (v := 2) dX9_over_41 rfl (i32l rfl) ?_
  refine g_bip dX9_over_42 rfl ?_
  refine g_iast dX9_over_44 (sf_8_16 hx0) (by decide) (by decide) ?_
  refine g_nmM (fun M6 eM6 => ?_)
  replace h := nm_s eM6 h
  refine g_aload_n 0 dX9_over_45 rfl ?_
  refine g_getR dX9_over_46 flX9_50 (by decide) rfl hx0 ?_
  refine g_iconst (v := 2) dX9_over_49 rfl (i32l rfl) ?_
  refine g_iconst (v := 0) dX9_over_50 rfl (i32l rfl) ?_
  refine g_iast dX9_over_51 (sf_8_17 hx0) (by decide) (by decide) ?_
  refine g_nmM (fun M7 eM7 => ?_)
  replace h := nm_s eM7 h
  refine g_bip dX9_over_52 rfl ?_
  refine g_pc (pc' := 54) rfl ?_
  cases h
  exact g_ireturn dX9_over_54 rfl ⟨rfl, rfl⟩
def fX9_candidate (x0 : Nat) (M : Mem) : Option (Int × Mem) := (if (M x0 0) = 8 then some ((-4), M) else if 0 ≤ (M x0 0) ∧ (M x0 0) < 8 then nm (wr M (x0 + 3) (Int.toNat (M x0 0)) 0) (fun M3 => if 0 ≤ (M3 x0 0) ∧ (M3 x0 0) < 8 then nm (wr M3 (x0 + 4) (Int.toNat (M3 x0 0)) (M3 x0 0)) (fun M5 => if -2147483648 ≤ ((M5 x0 0) + 1) ∧ ((M5 x0 0) + 1) ≤ 2147483647 then nm (wr M5 x0 0 ((M5 x0 0) + 1)) (fun M7 => if -2147483648 ≤ ((M7 x0 0) - 1) ∧ ((M7 x0 0) - 1) ≤ 2147483647 then some (((M7 x0 0) - 1), M7) else none) else none) else none) else none)
set_option maxRecDepth 20000 in
theorem kX9_candidate {X : XC} {d : Nat} {x0 : Nat} (hx0 : Sh x0 = (18, 69)) {M : Mem} {q : Int × Mem} (h : fX9_candidate x0 M = some q) : Ct X mX9_candidate d [XR x0] M (pI q) := by
  unfold fX9_candidate at h
  refine ct_go (by decide +kernel) (Nat.le_of_ble_eq_true rfl) (ls := [(0, XR x0)]) rfl ?_
  refine g_aload_n 0 dX9_candidate_0 rfl ?_
  refine g_getI dX9_candidate_1 flX9_167 (by decide) rfl hx0 ?_
  refine g_bip dX9_candidate_4 rfl ?_
  refine g_icmp_ne (tgt := 12) dX9_candidate_6 (by decide) (fun b1 => ?_) (fun b1 => ?_)
  · replace h := ifn b1 h
    refine g_aload_n 0 dX9_candidate_12 rfl ?_
    refine g_getR dX9_candidate_13 flX9_11 (by decide) rfl hx0 ?_
    refine g_aload_n 0 dX9_candidate_16 rfl ?_
    refine g_getI dX9_candidate_17 flX9_167 (by decide) rfl hx0 ?_
    refine g_iconst (v := 0) dX9_candidate_20 rfl (i32l rfl) ?_
    obtain ⟨c2, h⟩ := chk_some h
    refine g_zast dX9_candidate_21 (sf_8_2 hx0) c2.1 c2.2 (by decide) ?_
    refine g_nmM (fun M3 eM3 => ?_)
    replace h := nm_s eM3 h
    refine g_aload_n 0 dX9_candidate_22 rfl ?_
    refine g_getR dX9_candidate_23 flX9_15 (by decide) rfl hx0 ?_
    refine g_pc (pc' := 26) rfl ?_
    refine g_aload_n 0 dX9_candidate_26 rfl ?_
    refine g_getI dX9_candidate_27 flX9_167 (by decide) rfl hx0 ?_
    refine g_aload_n 0 dX9_candidate_30 rfl ?_
    refine g_getI dX9_candidate_31 flX9_167 (by decide) rfl hx0 ?_
    obtain ⟨c4, h⟩ := chk_some h
    refine g_iast dX9_candidate_34 (sf_8_3 hx0) c4.1 c4.2 ?_
    refine g_nmM (fun M5 eM5 => ?_)
    replace h := nm_s eM5 h
    refine g_aload_n 0 dX9_candidate_35 rfl ?_
    refine g_dupR dX9_candidate_36 ?_
    refine g_getI dX9_candidate_37 flX9_167 (by decide) rfl hx0 ?_
    refine g_iconst (v := 1) dX9_candidate_40 rfl (i32l rfl) ?_
    refine g_pc (pc' := 41) rfl ?_
    obtain ⟨c6, h⟩ := chk_some h
    refine g_iadd dX9_candidate_41 rfl c6 ?_
    refine g_putI dX9_candidate_42 flX9_167 (by decide) rfl hx0 ?_
    refine g_nmM (fun M7 eM7 => ?_)
    replace h := nm_s eM7 h
    refine g_aload_n 0 dX9_candidate_45 rfl ?_
    refine g_getI dX9_candidate_46 flX9_167 (by decide) rfl hx0 ?_
    refine g_iconst (v := 1) dX9_candidate_49 rfl (i32l rfl) ?_
    obtain ⟨c8, h⟩ := chk_some h
    refine g_isub dX9_candidate_50 rfl c8 ?_
    cases h
    exact g_ireturn dX9_candidate_51 rfl ⟨rfl, rfl⟩
  · replace h := ifp b1 h
    refine g_pc (pc' := 9) rfl ?_
    refine g_bip dX9_candidate_9 rfl ?_
    cases h
    exact g_ireturn dX9_candidate_11 rfl ⟨rfl, rfl⟩
def fX9_isRow_l18 (x0 : Nat) : Nat → Int → Int → Mem → Option ((Int × Mem) ⊕ (Int × Int × Mem))
  | 0, _, _, _ => none
  | n + 1, x2, x3, M => (if x3 ≤ 0 then some (.inl (1, M)) else if 0 ≤ x3 then nm ((x3 % 10)) (fun v5 => Option.bind (fX9_in v5 1 (M x0 0) M) (fun q6 => (if q6.1 = 0 then some (.inl (0, q6.2)) else Option.bind (fX9_has x2 v5 q6.2) (fun q8 => (if q8.1 = 0 then nm ((bOr x2 (bShl 1 v5))) (fun v10 => if 0 ≤ x3 then nm ((x3 / 10)) (fun v12 => fX9_isRow_l18 x0 n v10 v12 q8.2) else none) else some (.inl (0, q8.2))))))) else none)
def fX9_isRow (x0 : Nat) (x1 : Int) (M : Mem) : Option (Int × Mem) := Option.bind (fX9_in x1 1 99999999 M) (fun q1 => (if q1.1 = 0 then some (0, q1.2) else lr (fX9_isRow_l18 x0 1000 0 x1 q1.2) (fun r => r) (fun _ => none)))
set_option maxRecDepth 20000 in
theorem lX9_isRow_l18 {X : XC} {d : Nat} {Post : Option XV → Mem → Prop} {x0 : Nat} (hx0 : Sh x0 = (18, 69)) : ∀ (n : Nat) (x2 x3 : Int) (M : Mem) (z : (Int × Mem) ⊕ (Int × Int × Mem)), fX9_isRow_l18 x0 n x2 x3 M = some z → (∀ r, z = .inl r → Post (some (XI r.1)) r.2) → Go X mX9_isRow (d + 1) 18 [(0, XR x0), (2, XI x2), (3, XI x3)] [] M Post := by
  intro n
  induction n with
  | zero => intro _ _ _ _ h; cases h
  | succ n ih =>
    intro x2 x3 M z h K1
    unfold fX9_isRow_l18 at h
    refine g_iload_n 2 dX9_isRow_18 rfl ?_
    refine g_if_le (tgt := 69) dX9_isRow_19 (by decide) (fun b3 => ?_) (fun b3 => ?_)
    · replace h := ifp b3 h
      refine g_iconst (v := 1) dX9_isRow_69 rfl (i32l rfl) ?_
      cases h
      exact g_zreturn dX9_isRow_70 rfl (by decide) (K1 (1, M) rfl)
    · replace h := ifn b3 h
      refine g_pc (pc' := 22) rfl ?_
      refine g_iload_n 2 dX9_isRow_22 rfl ?_
      refine g_bip dX9_isRow_23 rfl ?_
      obtain ⟨c4, h⟩ := chk_some h
      refine g_irem dX9_isRow_25 c4 (by decide) rfl ?_
      refine g_nmI (fun v5 ev5 => ?_)
      replace h := nm_s ev5 h
      refine g_istore (ls' := [(4, XI v5), (0, XR x0), (2, XI x2), (3, XI x3)]) dX9_isRow_26 (by decide) rfl ?_
      refine g_iload 0 dX9_isRow_28 rfl ?_
      refine g_i2l dX9_isRow_30 ?_
      refine g_lconst (v := 1) dX9_isRow_31 rfl (i64l rfl) ?_
      refine g_aload_n 1 dX9_isRow_32 rfl ?_
      refine g_pc (pc' := 33) rfl ?_
      refine g_getI dX9_isRow_33 flX9_167 (by decide) rfl hx0 ?_
      refine g_i2l dX9_isRow_36 ?_
      obtain ⟨q6, hq6, h⟩ := bnd_some h
      refine s_I (as := [XL v5, XL 1, XL (M x0 0)]) dX9_isRow_37 mlX9_170 mdX9_in msX9_in rfl (Nat.le_of_ble_eq_true rfl) (kX9_in  hq6) rfl ?_
      refine g_if_eq (tgt := 52) dX9_isRow_40 (by decide) (fun b7 => ?_) (fun b7 => ?_)
      · replace h := ifp b7 h
        refine g_iconst (v := 0) dX9_isRow_52 rfl (i32l rfl) ?_
        cases h
        exact g_zreturn dX9_isRow_53 rfl (by decide) (K1 (0, q6.2) rfl)
      · replace h := ifn b7 h
        refine g_pc (pc' := 43) rfl ?_
        refine g_iload_n 2 dX9_isRow_43 rfl ?_
        refine g_iload 0 dX9_isRow_44 rfl ?_
        obtain ⟨q8, hq8, h⟩ := bnd_some h
        refine s_I (as := [XI x2, XI v5]) dX9_isRow_46 mlX9_192 mdX9_has msX9_has rfl (Nat.le_of_ble_eq_true rfl) (kX9_has  hq8) rfl ?_
        refine g_if_eq (tgt := 54) dX9_isRow_49 (by decide) (fun b9 => ?_) (fun b9 => ?_)
        · replace h := ifp b9 h
          refine g_iload_n 2 dX9_isRow_54 rfl ?_
          refine g_iconst (v := 1) dX9_isRow_55 rfl (i32l rfl) ?_
          refine g_iload 0 dX9_isRow_56 rfl ?_
          refine g_ishl dX9_isRow_58 ?_
          refine g_ior dX9_isRow_59 ?_
          refine g_nmI (fun v10 ev10 => ?_)
          replace h := nm_s ev10 h
          refine g_istore_n (ls' := [(2, XI v10), (4, XI v5), (0, XR x0), (3, XI x3)]) dX9_isRow_60 (by decide) rfl ?_
          refine g_iload_n 3 dX9_isRow_61 rfl ?_
          refine g_bip dX9_isRow_62 rfl ?_
          refine g_pc (pc' := 64) rfl ?_
          obtain ⟨c11, h⟩ := chk_some h
          refine g_idiv dX9_isRow_64 c11 (by decide) rfl ?_
          refine g_nmI (fun v12 ev12 => ?_)
          replace h := nm_s ev12 h
          refine g_istore_n (ls' := [(3, XI v12), (2, XI v10), (4, XI v5), (0, XR x0)]) dX9_isRow_65 (by decide) rfl ?_
          refine g_goto (tgt := 18) dX9_isRow_66 (by decide) ?_
          exact g_sub [3, 1, 0] rfl (ih _ _ _ _ h K1)
        · replace h := ifn b9 h
          refine g_pc (pc' := 52) rfl ?_
          refine g_iconst (v := 0) dX9_isRow_52 rfl (i32l rfl) ?_
          cases h
          exact g_zreturn dX9_isRow_53 rfl (by decide) (K1 (0, q8.2) rfl)
set_option maxRecDepth 20000 in
theorem kX9_isRow {X : XC} {d : Nat} {x0 : Nat} {x1 : Int} (hx0 : Sh x0 = (18, 69)) {M : Mem} {q : Int × Mem} (h : fX9_isRow x0 x1 M = some q) : Ct X mX9_isRow (d + 1) [XR x0, XI x1] M (pI q) := by
  unfold fX9_isRow at h
  refine ct_go (by decide +kernel) (Nat.le_of_ble_eq_true rfl) (ls := [(0, XR x0), (1, XI x1)]) rfl ?_
  refine g_iload_n 1 dX9_isRow_0 rfl ?_
  refine g_i2l dX9_isRow_1 ?_
  refine g_lconst (v := 1) dX9_isRow_2 rfl (i64l rfl) ?_
  refine g_ldc2 (v := 99999999) dX9_isRow_3 csX9_190 (by decide +kernel) (i64l rfl) ?_
  obtain ⟨q1, hq1, h⟩ := bnd_some h
  refine s_I (as := [XL x1, XL 1, XL 99999999]) dX9_isRow_6 mlX9_170 mdX9_in msX9_in rfl (Nat.le_of_ble_eq_true rfl) (kX9_in  hq1) rfl ?_
  refine g_if_ne (tgt := 14) dX9_isRow_9 (by decide) (fun b2 => ?_) (fun b2 => ?_)
  · replace h := ifn b2 h
    refine g_iconst (v := 0) dX9_isRow_14 rfl (i32l rfl) ?_
    refine g_istore_n (ls' := [(2, XI 0), (0, XR x0), (1, XI x1)]) dX9_isRow_15 (by decide) rfl ?_
    refine g_iload_n 2 dX9_isRow_16 rfl ?_
    refine g_istore_n (ls' := [(3, XI x1), (2, XI 0), (0, XR x0), (1, XI x1)]) dX9_isRow_17 (by decide) rfl ?_
    obtain ⟨z13, hz13, rz13, h⟩ := lr_some h
    refine g_sub (ls' := [(0, XR x0), (2, XI 0), (3, XI x1)]) [2, 1, 0] rfl ?_
    refine lX9_isRow_l18 hx0 1000 _ _ _ _ hz13 (fun r e => ?_)
    have rz13 := rz13 r e
    subst rz13
    exact ⟨rfl, rfl⟩
  · replace h := ifp b2 h
    refine g_pc (pc' := 12) rfl ?_
    refine g_iconst (v := 0) dX9_isRow_12 rfl (i32l rfl) ?_
    cases h
    exact g_zreturn dX9_isRow_13 rfl (by decide) ⟨rfl, rfl⟩
def fX9_ballot (x0 : Nat) (x1 : Int) (x2 : Int) (M : Mem) : Option (Int × Mem) := Option.bind (fX9_isRow x0 x1 M) (fun q1 => (if q1.1 = 0 then some ((-2), q1.2) else Option.bind (fX9_in x2 0 1000000 q1.2) (fun q3 => (if q3.1 = 0 then some ((-2), q3.2) else (if (q3.2 x0 1) = 24 then some ((-4), q3.2) else if 0 ≤ (q3.2 x0 1) ∧ (q3.2 x0 1) < 25 then nm (wr q3.2 (x0 + 5) (Int.toNat (q3.2 x0 1)) x1) (fun M7 => if 0 ≤ (M7 x0 1) ∧ (M7 x0 1) < 25 then nm (wr M7 (x0 + 6) (Int.toNat (M7 x0 1)) x2) (fun M9 => if -2147483648 ≤ ((M9 x0 1) + 1) ∧ ((M9 x0 1) + 1) ≤ 2147483647 then Option.bind (fX9_firstOver x0 ((M9 x0 1) + 1) M9) (fun q11 => nm (q11.1) (fun v12 => (if v12 = (-1) then if -2147483648 ≤ ((q11.2 x0 1) + 1) ∧ ((q11.2 x0 1) + 1) ≤ 2147483647 then nm (wr q11.2 x0 1 ((q11.2 x0 1) + 1)) (fun M15 => if -2147483648 ≤ ((M15 x0 1) - 1) ∧ ((M15 x0 1) - 1) ≤ 2147483647 then some (((M15 x0 1) - 1), M15) else none) else none else Option.bind (fX9_over x0 v12 q11.2) (fun q17 => some (q17.1, q17.2))))) else none) else none) else none)))))
set_option maxRecDepth 20000 in
theorem kX9_ballot {X : XC} {d : Nat} {x0 : Nat} {x1 : Int} {x2 : Int} (hx0 : Sh x0 = (18, 69)) {M : Mem} {q : Int × Mem} (h : fX9_ballot x0 x1 x2 M = some q) : Ct X mX9_ballot (d + 2) [XR x0, XI x1, XI x2] M (pI q) := by
  unfold fX9_ballot at h
  refine ct_go (by decide +kernel) (Nat.le_of_ble_eq_true rfl) (ls := [(0, XR x0), (1, XI x1), (2, XI x2)]) rfl ?_
  refine g_aload_n 0 dX9_ballot_0 rfl ?_
  refine g_iload_n 1 dX9_ballot_1 rfl ?_
  obtain ⟨q1, hq1, h⟩ := bnd_some h
  refine v_I (ci := 8) (as := [XI x1]) dX9_ballot_2 mlX9_196 mdX9_isRow mvX9_isRow rfl hx0 rfl (Nat.le_of_ble_eq_true rfl) (kX9_isRow hx0 hq1) rfl ?_
  refine g_if_eq (tgt := 20) dX9_ballot_5 (by decide) (fun b2 => ?_) (fun b2 => ?_)
  · replace h := ifp b2 h
    refine g_bip dX9_ballot_20 rfl ?_
    cases h
    exact g_ireturn dX9_ballot_22 rfl ⟨rfl, rfl⟩
  · replace h := ifn b2 h
    refine g_pc (pc' := 8) rfl ?_
    refine g_iload_n 2 dX9_ballot_8 rfl ?_
    refine g_i2l dX9_ballot_9 ?_
    refine g_lconst (v := 0) dX9_ballot_10 rfl (i64l rfl) ?_
    refine g_ldc2 (v := 1000000) dX9_ballot_11 csX9_200 (by decide +kernel) (i64l rfl) ?_
    obtain ⟨q3, hq3, h⟩ := bnd_some h
    refine s_I (as := [XL x2, XL 0, XL 1000000]) dX9_ballot_14 mlX9_170 mdX9_in msX9_in rfl (Nat.le_of_ble_eq_true rfl) (kX9_in  hq3) rfl ?_
    refine g_if_ne (tgt := 23) dX9_ballot_17 (by decide) (fun b4 => ?_) (fun b4 => ?_)
    · replace h := ifn b4 h
      refine g_aload_n 0 dX9_ballot_23 rfl ?_
      refine g_getI dX9_ballot_24 flX9_174 (by decide) rfl hx0 ?_
      refine g_bip dX9_ballot_27 rfl ?_
      refine g_icmp_ne (tgt := 35) dX9_ballot_29 (by decide) (fun b5 => ?_) (fun b5 => ?_)
      · replace h := ifn b5 h
        refine g_aload_n 0 dX9_ballot_35 rfl ?_
        refine g_getR dX9_ballot_36 flX9_19 (by decide) rfl hx0 ?_
        refine g_aload_n 0 dX9_ballot_39 rfl ?_
        refine g_getI dX9_ballot_40 flX9_174 (by decide) rfl hx0 ?_
        refine g_iload_n 1 dX9_ballot_43 rfl ?_
        obtain ⟨c6, h⟩ := chk_some h
        refine g_iast dX9_ballot_44 (sf_8_4 hx0) c6.1 c6.2 ?_
        refine g_nmM (fun M7 eM7 => ?_)
        replace h := nm_s eM7 h
        refine g_aload_n 0 dX9_ballot_45 rfl ?_
        refine g_getR dX9_ballot_46 flX9_22 (by decide) rfl hx0 ?_
        refine g_pc (pc' := 49) rfl ?_
        refine g_aload_n 0 dX9_ballot_49 rfl ?_
        refine g_getI dX9_ballot_50 flX9_174 (by decide) rfl hx0 ?_
        refine g_iload_n 2 dX9_ballot_53 rfl ?_
        obtain ⟨c8, h⟩ := chk_some h
        refine g_iast dX9_ballot_54 (sf_8_5 hx0) c8.1 c8.2 ?_
        refine g_nmM (fun M9 eM9 => ?_)
        replace h := nm_s eM9 h
        refine g_aload_n 0 dX9_ballot_55 rfl ?_
        refine g_aload_n 0 dX9_ballot_56 rfl ?_
        refine g_getI dX9_ballot_57 flX9_174 (by decide) rfl hx0 ?_
        refine g_iconst (v := 1) dX9_ballot_60 rfl (i32l rfl) ?_
        obtain ⟨c10, h⟩ := chk_some h
        refine g_iadd dX9_ballot_61 rfl c10 ?_
        refine g_pc (pc' := 62) rfl ?_
        obtain ⟨q11, hq11, h⟩ := bnd_some h
        refine v_I (ci := 8) (as := [XI ((M9 x0 1) + 1)]) dX9_ballot_62 mlX9_202 mdX9_firstOver mvX9_firstOver rfl hx0 rfl (Nat.le_of_ble_eq_true rfl) (kX9_firstOver hx0 hq11) rfl ?_
        refine g_nmI (fun v12 ev12 => ?_)
        replace h := nm_s ev12 h
        refine g_istore_n (ls' := [(3, XI v12), (0, XR x0), (1, XI x1), (2, XI x2)]) dX9_ballot_65 (by decide) rfl ?_
        refine g_iload_n 0 dX9_ballot_66 rfl ?_
        refine g_iconst (v := -1) dX9_ballot_67 rfl (i32l rfl) ?_
        refine g_icmp_eq (tgt := 77) dX9_ballot_68 (by decide) (fun b13 => ?_) (fun b13 => ?_)
        · replace h := ifp b13 h
          refine g_aload_n 1 dX9_ballot_77 rfl ?_
          refine g_dupR dX9_ballot_78 ?_
          refine g_getI dX9_ballot_79 flX9_174 (by decide) rfl hx0 ?_
          refine g_iconst (v := 1) dX9_ballot_82 rfl (i32l rfl) ?_
          obtain ⟨c14, h⟩ := chk_some h
          refine g_iadd dX9_ballot_83 rfl c14 ?_
          refine g_putI dX9_ballot_84 flX9_174 (by decide) rfl hx0 ?_
          refine g_nmM (fun M15 eM15 => ?_)
          replace h := nm_s eM15 h
          refine g_aload_n 1 dX9_ballot_87 rfl ?_
          refine g_getI dX9_ballot_88 flX9_174 (by decide) rfl hx0 ?_
          refine g_pc (pc' := 91) rfl ?_
          refine g_iconst (v := 1) dX9_ballot_91 rfl (i32l rfl) ?_
          obtain ⟨c16, h⟩ := chk_some h
          refine g_isub dX9_ballot_92 rfl c16 ?_
          cases h
          exact g_ireturn dX9_ballot_93 rfl ⟨rfl, rfl⟩
        · replace h := ifn b13 h
          refine g_pc (pc' := 71) rfl ?_
          refine g_aload_n 1 dX9_ballot_71 rfl ?_
          refine g_iload_n 0 dX9_ballot_72 rfl ?_
          obtain ⟨q17, hq17, h⟩ := bnd_some h
          refine v_I (ci := 8) (as := [XI v12]) dX9_ballot_73 mlX9_205 mdX9_over mvX9_over rfl hx0 rfl (Nat.le_of_ble_eq_true rfl) (kX9_over hx0 hq17) rfl ?_
          cases h
          exact g_ireturn dX9_ballot_76 rfl ⟨rfl, rfl⟩
      · replace h := ifp b5 h
        refine g_pc (pc' := 32) rfl ?_
        refine g_bip dX9_ballot_32 rfl ?_
        cases h
        exact g_ireturn dX9_ballot_34 rfl ⟨rfl, rfl⟩
    · replace h := ifp b4 h
      refine g_pc (pc' := 20) rfl ?_
      refine g_bip dX9_ballot_20 rfl ?_
      cases h
      exact g_ireturn dX9_ballot_22 rfl ⟨rfl, rfl⟩
def fX9_many (x0 : Nat) (x1 : Int) (x2 : Int) (M : Mem) : Option (Int × Mem) := Option.bind (fX9_isBallot x0 x1 M) (fun q1 => (if q1.1 = 0 then some ((-1), q1.2) else Option.bind (fX9_in x2 0 1000000 q1.2) (fun q3 => (if q3.1 = 0 then some ((-2), q3.2) else if 0 ≤ x1 ∧ x1 < 25 then nm ((q3.2 (x0 + 6) (Int.toNat x1))) (fun v6 => if 0 ≤ x1 ∧ x1 < 25 then nm (wr q3.2 (x0 + 6) (Int.toNat x1) x2) (fun M8 => Option.bind (fX9_firstOver x0 (M8 x0 1) M8) (fun q9 => nm (q9.1) (fun v10 => (if v10 = (-1) then some (v6, q9.2) else if 0 ≤ x1 ∧ x1 < 25 then nm (wr q9.2 (x0 + 6) (Int.toNat x1) v6) (fun M13 => Option.bind (fX9_over x0 v10 M13) (fun q14 => some (q14.1, q14.2))) else none)))) else none) else none))))
set_option maxRecDepth 20000 in
theorem kX9_many {X : XC} {d : Nat} {x0 : Nat} {x1 : Int} {x2 : Int} (hx0 : Sh x0 = (18, 69)) {M : Mem} {q : Int × Mem} (h : fX9_many x0 x1 x2 M = some q) : Ct X mX9_many (d + 2) [XR x0, XI x1, XI x2] M (pI q) := by
  unfold fX9_many at h
  refine ct_go (by decide +kernel) (Nat.le_of_ble_eq_true rfl) (ls := [(0, XR x0), (1, XI x1), (2, XI x2)]) rfl ?_
  refine g_aload_n 0 dX9_many_0 rfl ?_
  refine g_iload_n 1 dX9_many_1 rfl ?_
  obtain ⟨q1, hq1, h⟩ := bnd_some h
  refine v_I (ci := 8) (as := [XI x1]) dX9_many_2 mlX9_208 mdX9_isBallot mvX9_isBallot rfl hx0 rfl (Nat.le_of_ble_eq_true rfl) (kX9_isBallot hx0 hq1) rfl ?_
  refine g_if_ne (tgt := 10) dX9_many_5 (by decide) (fun b2 => ?_) (fun b2 => ?_)
  · replace h := ifn b2 h
    refine g_iload_n 2 dX9_many_10 rfl ?_
    refine g_i2l dX9_many_11 ?_
    refine g_lconst (v := 0) dX9_many_12 rfl (i64l rfl) ?_
    refine g_ldc2 (v := 1000000) dX9_many_13 csX9_200 (by decide +kernel) (i64l rfl) ?_
    obtain ⟨q3, hq3, h⟩ := bnd_some h
    refine s_I (as := [XL x2, XL 0, XL 1000000]) dX9_many_16 mlX9_170 mdX9_in msX9_in rfl (Nat.le_of_ble_eq_true rfl) (kX9_in  hq3) rfl ?_
    refine g_if_ne (tgt := 25) dX9_many_19 (by decide) (fun b4 => ?_) (fun b4 => ?_)
    · replace h := ifn b4 h
      refine g_aload_n 0 dX9_many_25 rfl ?_
      refine g_getR dX9_many_26 flX9_22 (by decide) rfl hx0 ?_
      refine g_iload_n 1 dX9_many_29 rfl ?_
      obtain ⟨c5, h⟩ := chk_some h
      refine g_iald dX9_many_30 (sf_8_5 hx0) c5.1 c5.2 ?_
      refine g_nmI (fun v6 ev6 => ?_)
      replace h := nm_s ev6 h
      refine g_istore_n (ls' := [(3, XI v6), (0, XR x0), (1, XI x1), (2, XI x2)]) dX9_many_31 (by decide) rfl ?_
      refine g_aload_n 1 dX9_many_32 rfl ?_
      refine g_getR dX9_many_33 flX9_22 (by decide) rfl hx0 ?_
      refine g_iload_n 2 dX9_many_36 rfl ?_
      refine g_pc (pc' := 37) rfl ?_
      refine g_iload_n 3 dX9_many_37 rfl ?_
      obtain ⟨c7, h⟩ := chk_some h
      refine g_iast dX9_many_38 (sf_8_5 hx0) c7.1 c7.2 ?_
      refine g_nmM (fun M8 eM8 => ?_)
      replace h := nm_s eM8 h
      refine g_aload_n 1 dX9_many_39 rfl ?_
      refine g_aload_n 1 dX9_many_40 rfl ?_
      refine g_getI dX9_many_41 flX9_174 (by decide) rfl hx0 ?_
      obtain ⟨q9, hq9, h⟩ := bnd_some h
      refine v_I (ci := 8) (as := [XI (M8 x0 1)]) dX9_many_44 mlX9_202 mdX9_firstOver mvX9_firstOver rfl hx0 rfl (Nat.le_of_ble_eq_true rfl) (kX9_firstOver hx0 hq9) rfl ?_
      refine g_nmI (fun v10 ev10 => ?_)
      replace h := nm_s ev10 h
      refine g_istore (ls' := [(4, XI v10), (3, XI v6), (0, XR x0), (1, XI x1), (2, XI x2)]) dX9_many_47 (by decide) rfl ?_
      refine g_iload 0 dX9_many_49 rfl ?_
      refine g_iconst (v := -1) dX9_many_51 rfl (i32l rfl) ?_
      refine g_pc (pc' := 52) rfl ?_
      refine g_icmp_ne (tgt := 57) dX9_many_52 (by decide) (fun b11 => ?_) (fun b11 => ?_)
      · replace h := ifn b11 h
        refine g_aload_n 2 dX9_many_57 rfl ?_
        refine g_getR dX9_many_58 flX9_22 (by decide) rfl hx0 ?_
        refine g_iload_n 3 dX9_many_61 rfl ?_
        refine g_iload_n 1 dX9_many_62 rfl ?_
        obtain ⟨c12, h⟩ := chk_some h
        refine g_iast dX9_many_63 (sf_8_5 hx0) c12.1 c12.2 ?_
        refine g_nmM (fun M13 eM13 => ?_)
        replace h := nm_s eM13 h
        refine g_aload_n 2 dX9_many_64 rfl ?_
        refine g_iload 0 dX9_many_65 rfl ?_
        obtain ⟨q14, hq14, h⟩ := bnd_some h
        refine v_I (ci := 8) (as := [XI v10]) dX9_many_67 mlX9_205 mdX9_over mvX9_over rfl hx0 rfl (Nat.le_of_ble_eq_true rfl) (kX9_over hx0 hq14) rfl ?_
        refine g_pc (pc' := 70) rfl ?_
        cases h
        exact g_ireturn dX9_many_70 rfl ⟨rfl, rfl⟩
      · replace h := ifp b11 h
        refine g_pc (pc' := 55) rfl ?_
        refine g_iload_n 1 dX9_many_55 rfl ?_
        cases h
        exact g_ireturn dX9_many_56 rfl ⟨rfl, rfl⟩
    · replace h := ifp b4 h
      refine g_pc (pc' := 22) rfl ?_
      refine g_bip dX9_many_22 rfl ?_
      cases h
      exact g_ireturn dX9_many_24 rfl ⟨rfl, rfl⟩
  · replace h := ifp b2 h
    refine g_pc (pc' := 8) rfl ?_
    refine g_iconst (v := -1) dX9_many_8 rfl (i32l rfl) ?_
    cases h
    exact g_ireturn dX9_many_9 rfl ⟨rfl, rfl⟩
def fX9_drop (x0 : Nat) (M : Mem) : Option (Int × Mem) := (if (M x0 1) = 0 then some ((-3), M) else if -2147483648 ≤ ((M x0 1) - 1) ∧ ((M x0 1) - 1) ≤ 2147483647 then nm (wr M x0 1 ((M x0 1) - 1)) (fun M3 => some ((M3 x0 1), M3)) else none)
set_option maxRecDepth 20000 in
theorem kX9_drop {X : XC} {d : Nat} {x0 : Nat} (hx0 : Sh x0 = (18, 69)) {M : Mem} {q : Int × Mem} (h : fX9_drop x0 M = some q) : Ct X mX9_drop d [XR x0] M (pI q) := by
  unfold fX9_drop at h
  refine ct_go (by decide +kernel) (Nat.le_of_ble_eq_true rfl) (ls := [(0, XR x0)]) rfl ?_
  refine g_aload_n 0 dX9_drop_0 rfl ?_
  refine g_getI dX9_drop_1 flX9_174 (by decide) rfl hx0 ?_
  refine g_if_ne (tgt := 10) dX9_drop_4 (by decide) (fun b1 => ?_) (fun b1 => ?_)
  · replace h := ifn b1 h
    refine g_aload_n 0 dX9_drop_10 rfl ?_
    refine g_dupR dX9_drop_11 ?_
    refine g_getI dX9_drop_12 flX9_174 (by decide) rfl hx0 ?_
    refine g_iconst (v := 1) dX9_drop_15 rfl (i32l rfl) ?_
    obtain ⟨c2, h⟩ := chk_some h
    refine g_isub dX9_drop_16 rfl c2 ?_
    refine g_putI dX9_drop_17 flX9_174 (by decide) rfl hx0 ?_
    refine g_nmM (fun M3 eM3 => ?_)
    replace h := nm_s eM3 h
    refine g_aload_n 0 dX9_drop_20 rfl ?_
    refine g_getI dX9_drop_21 flX9_174 (by decide) rfl hx0 ?_
    refine g_pc (pc' := 24) rfl ?_
    cases h
    exact g_ireturn dX9_drop_24 rfl ⟨rfl, rfl⟩
  · replace h := ifp b1 h
    refine g_pc (pc' := 7) rfl ?_
    refine g_bip dX9_drop_7 rfl ?_
    cases h
    exact g_ireturn dX9_drop_9 rfl ⟨rfl, rfl⟩
def fX9_gone (x0 : Nat) (x1 : Int) (x2 : Int) (M : Mem) : Option (Int × Mem) := Option.bind (fX9_isOne x0 x1 M) (fun q1 => (if q1.1 = 0 then some ((-1), q1.2) else if 0 ≤ x1 ∧ x1 < 8 then Option.bind ((if (q1.2 (x0 + 3) (Int.toNat x1)) = 0 then some (0) else some (1)) : Option (Int)) (fun t5 => if 0 ≤ x1 ∧ x1 < 8 then if x2 = 0 ∨ x2 = 1 then nm (wr q1.2 (x0 + 3) (Int.toNat x1) x2) (fun M9 => some (t5, M9)) else none else none) else none))
set_option maxRecDepth 20000 in
theorem kX9_gone {X : XC} {d : Nat} {x0 : Nat} {x1 : Int} {x2 : Int} (hx0 : Sh x0 = (18, 69)) {M : Mem} {q : Int × Mem} (h : fX9_gone x0 x1 x2 M = some q) : Ct X mX9_gone (d + 2) [XR x0, XI x1, XI x2] M (pI q) := by
  unfold fX9_gone at h
  refine ct_go (by decide +kernel) (Nat.le_of_ble_eq_true rfl) (ls := [(0, XR x0), (1, XI x1), (2, XI x2)]) rfl ?_
  refine g_aload_n 0 dX9_gone_0 rfl ?_
  refine g_iload_n 1 dX9_gone_1 rfl ?_
  obtain ⟨q1, hq1, h⟩ := bnd_some h
  refine v_I (ci := 8) (as := [XI x1]) dX9_gone_2 mlX9_211 mdX9_isOne mvX9_isOne rfl hx0 rfl (Nat.le_of_ble_eq_true rfl) (kX9_isOne hx0 hq1) rfl ?_
  refine g_if_ne (tgt := 10) dX9_gone_5 (by decide) (fun b2 => ?_) (fun b2 => ?_)
  · replace h := ifn b2 h
    refine g_aload_n 0 dX9_gone_10 rfl ?_
    refine g_getR dX9_gone_11 flX9_11 (by decide) rfl hx0 ?_
    refine g_iload_n 1 dX9_gone_14 rfl ?_
    obtain ⟨c3, h⟩ := chk_some h
    refine g_zald dX9_gone_15 (sf_8_2 hx0) c3.1 c3.2 ?_
    obtain ⟨t5, ht5, h⟩ := bnd_some h
    have Kt5 : Go X mX9_gone (d + 2) 24 [(0, XR x0), (1, XI x1), (2, XI x2)] [XI t5] q1.2 (pI q) := by
      refine g_istore_n (ls' := [(3, XI t5), (0, XR x0), (1, XI x1), (2, XI x2)]) dX9_gone_24 (by decide) rfl ?_
      refine g_aload_n 1 dX9_gone_25 rfl ?_
      refine g_getR dX9_gone_26 flX9_11 (by decide) rfl hx0 ?_
      refine g_iload_n 2 dX9_gone_29 rfl ?_
      refine g_iload_n 3 dX9_gone_30 rfl ?_
      obtain ⟨c7, h⟩ := chk_some h
      obtain ⟨c8, h⟩ := chk_some h
      refine g_zast dX9_gone_31 (sf_8_2 hx0) c7.1 c7.2 c8 ?_
      refine g_nmM (fun M9 eM9 => ?_)
      replace h := nm_s eM9 h
      refine g_iload_n 0 dX9_gone_32 rfl ?_
      cases h
      exact g_ireturn dX9_gone_33 rfl ⟨rfl, rfl⟩
    refine g_if_eq (tgt := 23) dX9_gone_16 (by decide) (fun b6 => ?_) (fun b6 => ?_)
    · replace ht5 := ifp b6 ht5
      refine g_iconst (v := 0) dX9_gone_23 rfl (i32l rfl) ?_
      cases ht5
      exact g_sub [0, 1, 2] rfl Kt5
    · replace ht5 := ifn b6 ht5
      refine g_pc (pc' := 19) rfl ?_
      refine g_iconst (v := 1) dX9_gone_19 rfl (i32l rfl) ?_
      refine g_goto (tgt := 24) dX9_gone_20 (by decide) ?_
      cases ht5
      exact g_sub [0, 1, 2] rfl Kt5
  · replace h := ifp b2 h
    refine g_pc (pc' := 8) rfl ?_
    refine g_iconst (v := -1) dX9_gone_8 rfl (i32l rfl) ?_
    cases h
    exact g_ireturn dX9_gone_9 rfl ⟨rfl, rfl⟩
end
