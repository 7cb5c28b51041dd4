section
def fX4_lastInLot_l10 (x0 : Nat) (x1 : Int) : Nat → Int → Mem → Option ((Int × Mem) ⊕ (Int × Mem))
  | 0, _, _ => none
  | n + 1, x2, M => (if x2 < 0 then some (.inl ((-1), M)) else if 0 ≤ x2 ∧ x2 < 8 then (if (bAnd (bShr x1 (M ((x0 + 10000) + 2) (Int.toNat x2))) 1) = 0 then if -2147483648 ≤ (x2 + (-1)) ∧ (x2 + (-1)) ≤ 2147483647 then fX4_lastInLot_l10 x0 x1 n (x2 + (-1)) M else none else if 0 ≤ x2 ∧ x2 < 8 then some (.inl ((M ((x0 + 10000) + 2) (Int.toNat x2)), M)) else none) else none)
def fX4_lastInLot (x0 : Nat) (x1 : Int) (M : Mem) : Option (Int × Mem) := if -2147483648 ≤ ((M (x0 + 10000) 0) - 1) ∧ ((M (x0 + 10000) 0) - 1) ≤ 2147483647 then nm (((M (x0 + 10000) 0) - 1)) (fun v2 => lr (fX4_lastInLot_l10 x0 x1 1000 v2 M) (fun r => r) (fun _ => none)) else none
set_option maxRecDepth 20000 in
theorem lX4_lastInLot_l10 {X : XC} {d : Nat} {Post : Option XV → Mem → Prop} {x0 : Nat} {x1 : Int} (hx0 : Sh x0 = (13, 14)) : ∀ (n : Nat) (x2 : Int) (M : Mem) (z : (Int × Mem) ⊕ (Int × Mem)), fX4_lastInLot_l10 x0 x1 n x2 M = some z → (∀ r, z = .inl r → Post (some (XI r.1)) r.2) → Go X mX4_lastInLot d 10 [(0, XR x0), (1, XI x1), (2, XI x2)] [] M Post := by
  intro n
  induction n with
  | zero => intro _ _ _ h; cases h
  | succ n ih =>
    intro x2 M z h K1
    unfold fX4_lastInLot_l10 at h
    refine g_iload_n 2 dX4_lastInLot_10 rfl ?_
    refine g_if_lt (tgt := 46) dX4_lastInLot_11 (by decide) (fun b3 => ?_) (fun b3 => ?_)
    · replace h := ifp b3 h
      refine g_iconst (v := -1) dX4_lastInLot_46 rfl (i32l rfl) ?_
      cases h
      exact g_ireturn dX4_lastInLot_47 rfl (K1 ((-1), M) rfl)
    · replace h := ifn b3 h
      refine g_pc (pc' := 14) rfl ?_
      refine g_iload_n 1 dX4_lastInLot_14 rfl ?_
      refine g_aload_n 0 dX4_lastInLot_15 rfl ?_
      refine g_getR dX4_lastInLot_16 flX4_61 (by decide) rfl hx0 ?_
      refine g_getR dX4_lastInLot_19 flX4_195 (by decide) rfl (sf_3_0 hx0) ?_
      refine g_iload_n 2 dX4_lastInLot_22 rfl ?_
      obtain ⟨c4, h⟩ := chk_some h
      refine g_iald dX4_lastInLot_23 (sf_1_1 (sf_3_0 hx0)) c4.1 c4.2 ?_
      refine g_ishr dX4_lastInLot_24 ?_
      refine g_iconst (v := 1) dX4_lastInLot_25 rfl (i32l rfl) ?_
      refine g_pc (pc' := 26) rfl ?_
      refine g_iand dX4_lastInLot_26 ?_
      refine g_if_eq (tgt := 40) dX4_lastInLot_27 (by decide) (fun b5 => ?_) (fun b5 => ?_)
      · replace h := ifp b5 h
        obtain ⟨c6, h⟩ := chk_some h
        refine g_iinc (ls' := [(2, XI (x2 + (-1))), (0, XR x0), (1, XI x1)]) 2 dX4_lastInLot_40 rfl rfl c6 (by decide) rfl ?_
        refine g_goto (tgt := 10) dX4_lastInLot_43 (by decide) ?_
        exact g_sub [1, 2, 0] rfl (ih _ _ _ h K1)
      · replace h := ifn b5 h
        refine g_pc (pc' := 30) rfl ?_
        refine g_aload_n 0 dX4_lastInLot_30 rfl ?_
        refine g_getR dX4_lastInLot_31 flX4_61 (by decide) rfl hx0 ?_
        refine g_getR dX4_lastInLot_34 flX4_195 (by decide) rfl (sf_3_0 hx0) ?_
        refine g_iload_n 2 dX4_lastInLot_37 rfl ?_
        obtain ⟨c7, h⟩ := chk_some h
        refine g_iald dX4_lastInLot_38 (sf_1_1 (sf_3_0 hx0)) c7.1 c7.2 ?_
        cases h
        exact g_ireturn dX4_lastInLot_39 rfl (K1 ((M ((x0 + 10000) + 2) (Int.toNat x2)), M) rfl)
set_option maxRecDepth 20000 in
theorem kX4_lastInLot {X : XC} {d : Nat} {x0 : Nat} {x1 : Int} (hx0 : Sh x0 = (13, 14)) {M : Mem} {q : Int × Mem} (h : fX4_lastInLot x0 x1 M = some q) : Ct X mX4_lastInLot d [XR x0, XI x1] M (pI q) := by
  unfold fX4_lastInLot at h
  refine ct_go (by decide +kernel) (Nat.le_of_ble_eq_true rfl) (ls := [(0, XR x0), (1, XI x1)]) rfl ?_
  refine g_aload_n 0 dX4_lastInLot_0 rfl ?_
  refine g_getR dX4_lastInLot_1 flX4_61 (by decide) rfl hx0 ?_
  refine g_getI dX4_lastInLot_4 flX4_92 (by decide) rfl (sf_3_0 hx0) ?_
  refine g_iconst (v := 1) dX4_lastInLot_7 rfl (i32l rfl) ?_
  obtain ⟨c1, h⟩ := chk_some h
  refine g_isub dX4_lastInLot_8 rfl c1 ?_
  refine g_nmI (fun v2 ev2 => ?_)
  replace h := nm_s ev2 h
  refine g_istore_n (ls' := [(2, XI v2), (0, XR x0), (1, XI x1)]) dX4_lastInLot_9 (by decide) rfl ?_
  obtain ⟨z8, hz8, rz8, h⟩ := lr_some h
  refine g_sub (ls' := [(0, XR x0), (1, XI x1), (2, XI v2)]) [1, 2, 0] rfl ?_
  refine lX4_lastInLot_l10 hx0 1000 _ _ _ hz8 (fun r e => ?_)
  have rz8 := rz8 r e
  subst rz8
  exact ⟨rfl, rfl⟩
def fX4_exclude_l13 (x0 : Nat) (x1 : Nat) : Nat → Int → Int → Mem → Option (Int × Int × Mem)
  | 0, _, _, _ => none
  | n + 1, x2, x3, M => (if x3 < 0 then some (x2, x3, M) else if 0 ≤ x3 ∧ x3 < 8 then Option.bind (fX4_whoHasFewest x0 (((x0 + 9) + 36 + 16 * Int.toNat x3) + 8) x2 M) (fun q7 => nm (q7.1) (fun v8 => if -2147483648 ≤ (x3 + (-1)) ∧ (x3 + (-1)) ≤ 2147483647 then fX4_exclude_l13 x0 x1 n v8 (x3 + (-1)) q7.2 else none)) else none)
def fX4_exclude (x0 : Nat) (x1 : Nat) (M : Mem) : Option (Int × Mem) := Option.bind (fX4_whoIs x0 1 M) (fun q1 => nm (q1.1) (fun v2 => if -2147483648 ≤ ((q1.2 x0 7) - 1) ∧ ((q1.2 x0 7) - 1) ≤ 2147483647 then nm (((q1.2 x0 7) - 1)) (fun v4 => Option.bind (fX4_exclude_l13 x0 x1 1000 v2 v4 q1.2) (fun z10 => Option.bind (fX4_lastInLot x0 z10.1 z10.2.2) (fun q11 => nm (q11.1) (fun v12 => Option.bind ((if v12 < 0 then some (q11.2) else nm (wr q11.2 x1 1 v12) (fun M26 => if -2147483648 ≤ ((M26 x0 6) - 1) ∧ ((M26 x0 6) - 1) ≤ 2147483647 then nm (wr M26 x0 6 ((M26 x0 6) - 1)) (fun M28 => if 0 ≤ v12 ∧ v12 < 8 then nm (wr M28 (x0 + 3) (Int.toNat v12) 3) (fun M30 => if -2147483648 ≤ ((M30 x0 7) - 1) ∧ ((M30 x0 7) - 1) ≤ 2147483647 then if 0 ≤ v12 ∧ v12 < 8 then nm (wr M30 (x0 + 4) (Int.toNat v12) ((M30 x0 7) - 1)) (fun M33 => if 0 ≤ v12 ∧ v12 < 8 then nm (wr M33 (x0 + 10) (Int.toNat v12) 0) (fun M35 => some (M35)) else none) else none else none) else none) else none)) : Option (Mem)) (fun t24 => some (0, t24)))))) else none))
set_option maxRecDepth 20000 in
theorem lX4_exclude_l13 {X : XC} {d : Nat} {Post : Option XV → Mem → Prop} {x0 : Nat} {x1 : Nat} (hx0 : Sh x0 = (13, 14)) (hx1 : Sh x1 = (12, 9)) : ∀ (n : Nat) (x2 x3 : Int) (M : Mem) (t0 : Int × Int × Mem), fX4_exclude_l13 x0 x1 n x2 x3 M = some t0 → Go X mX4_exclude (d + 1) 38 [(0, XR x0), (1, XR x1), (2, XI t0.1)] [] t0.2.2 Post → Go X mX4_exclude (d + 1) 13 [(0, XR x0), (1, XR x1), (2, XI x2), (3, XI x3)] [] M Post := by
  intro n
  induction n with
  | zero => intro _ _ _ _ h; cases h
  | succ n ih =>
    intro x2 x3 M t0 h K
    unfold fX4_exclude_l13 at h
    refine g_iload_n 3 dX4_exclude_13 rfl ?_
    refine g_if_lt (tgt := 38) dX4_exclude_14 (by decide) (fun b5 => ?_) (fun b5 => ?_)
    · replace h := ifp b5 h
      cases h
      exact g_sub [0, 1, 2] rfl K
    · replace h := ifn b5 h
      refine g_pc (pc' := 17) rfl ?_
      refine g_aload_n 0 dX4_exclude_17 rfl ?_
      refine g_aload_n 0 dX4_exclude_18 rfl ?_
      refine g_getR dX4_exclude_19 flX4_40 (by decide) rfl hx0 ?_
      refine g_iload_n 3 dX4_exclude_22 rfl ?_
      obtain ⟨c6, h⟩ := chk_some h
      refine g_aald dX4_exclude_23 (sf_3_8 hx0) (by decide) c6.1 c6.2 ?_
      refine g_getR dX4_exclude_24 flX4_178 (by decide) rfl (sr_4 (sf_3_8 hx0) (tn_lt c6.1 c6.2)) ?_
      refine g_iload_n 2 dX4_exclude_27 rfl ?_
      obtain ⟨q7, hq7, h⟩ := bnd_some h
      refine v_I (ci := 3) (as := [XR (((x0 + 9) + 36 + 16 * Int.toNat x3) + 8), XI x2]) dX4_exclude_28 mlX4_184 mdX4_whoHasFewest mvX4_whoHasFewest rfl hx0 rfl (Nat.le_of_ble_eq_true rfl) (kX4_whoHasFewest hx0 (sf_2_7 (sr_4 (sf_3_8 hx0) (tn_lt c6.1 c6.2))) hq7) rfl ?_
      refine g_pc (pc' := 31) rfl ?_
      refine g_nmI (fun v8 ev8 => ?_)
      replace h := nm_s ev8 h
      refine g_istore_n (ls' := [(2, XI v8), (0, XR x0), (1, XR x1), (3, XI x3)]) dX4_exclude_31 (by decide) rfl ?_
      obtain ⟨c9, h⟩ := chk_some h
      refine g_iinc (ls' := [(3, XI (x3 + (-1))), (2, XI v8), (0, XR x0), (1, XR x1)]) 3 dX4_exclude_32 rfl rfl c9 (by decide) rfl ?_
      refine g_goto (tgt := 13) dX4_exclude_35 (by decide) ?_
      exact g_sub [2, 3, 1, 0] rfl (ih _ _ _ _ h K)
set_option maxRecDepth 20000 in
theorem kX4_exclude {X : XC} {d : Nat} {x0 : Nat} {x1 : Nat} (hx0 : Sh x0 = (13, 14)) (hx1 : Sh x1 = (12, 9)) {M : Mem} {q : Int × Mem} (h : fX4_exclude x0 x1 M = some q) : Ct X mX4_exclude (d + 1) [XR x0, XR x1] M (pV q) := by
  unfold fX4_exclude at h
  refine ct_go (by decide +kernel) (Nat.le_of_ble_eq_true rfl) (ls := [(0, XR x0), (1, XR x1)]) rfl ?_
  refine g_aload_n 0 dX4_exclude_0 rfl ?_
  refine g_iconst (v := 1) dX4_exclude_1 rfl (i32l rfl) ?_
  obtain ⟨q1, hq1, h⟩ := bnd_some h
  refine v_I (ci := 3) (as := [XI 1]) dX4_exclude_2 mlX4_108 mdX4_whoIs mvX4_whoIs rfl hx0 rfl (Nat.le_of_ble_eq_true rfl) (kX4_whoIs hx0 hq1) rfl ?_
  refine g_nmI (fun v2 ev2 => ?_)
  replace h := nm_s ev2 h
  refine g_istore_n (ls' := [(2, XI v2), (0, XR x0), (1, XR x1)]) dX4_exclude_5 (by decide) rfl ?_
  refine g_aload_n 1 dX4_exclude_6 rfl ?_
  refine g_getI dX4_exclude_7 flX4_35 (by decide) rfl hx0 ?_
  refine g_iconst (v := 1) dX4_exclude_10 rfl (i32l rfl) ?_
  obtain ⟨c3, h⟩ := chk_some h
  refine g_isub dX4_exclude_11 rfl c3 ?_
  refine g_pc (pc' := 12) rfl ?_
  refine g_nmI (fun v4 ev4 => ?_)
  replace h := nm_s ev4 h
  refine g_istore_n (ls' := [(3, XI v4), (2, XI v2), (0, XR x0), (1, XR x1)]) dX4_exclude_12 (by decide) rfl ?_
  obtain ⟨z10, hz10, h⟩ := bnd_some h
  refine g_sub (ls' := [(0, XR x0), (1, XR x1), (2, XI v2), (3, XI v4)]) [2, 3, 1, 0] rfl ?_
  refine lX4_exclude_l13 hx0 hx1 1000 _ _ _ _ hz10 ?_
  refine g_aload_n 0 dX4_exclude_38 rfl ?_
  refine g_iload_n 2 dX4_exclude_39 rfl ?_
  obtain ⟨q11, hq11, h⟩ := bnd_some h
  refine v_I (ci := 3) (as := [XI z10.1]) dX4_exclude_40 mlX4_188 mdX4_lastInLot mvX4_lastInLot rfl hx0 rfl (Nat.le_of_ble_eq_true rfl) (kX4_lastInLot hx0 hq11) rfl ?_
  refine g_nmI (fun v12 ev12 => ?_)
  replace h := nm_s ev12 h
  refine g_istore_n (ls' := [(3, XI v12), (0, XR x0), (1, XR x1), (2, XI z10.1)]) dX4_exclude_43 (by decide) rfl ?_
  refine g_iload_n 0 dX4_exclude_44 rfl ?_
  obtain ⟨t24, ht24, h⟩ := bnd_some h
  have Kt24 : Go X mX4_exclude (d + 1) 89 [] [] t24 (pV q) := by
    cases h
    exact g_return dX4_exclude_89 rfl ⟨rfl, rfl⟩
  refine g_if_lt (tgt := 89) dX4_exclude_45 (by decide) (fun b25 => ?_) (fun b25 => ?_)
  · replace ht24 := ifp b25 ht24
    cases ht24
    exact g_sub [] rfl Kt24
  · replace ht24 := ifn b25 ht24
    refine g_pc (pc' := 48) rfl ?_
    refine g_aload_n 2 dX4_exclude_48 rfl ?_
    refine g_iload_n 0 dX4_exclude_49 rfl ?_
    refine g_putI dX4_exclude_50 flX4_81 (by decide) rfl hx1 ?_
    refine g_nmM (fun M26 eM26 => ?_)
    replace ht24 := nm_s eM26 ht24
    refine g_aload_n 1 dX4_exclude_53 rfl ?_
    refine g_dupR dX4_exclude_54 ?_
    refine g_getI dX4_exclude_55 flX4_32 (by decide) rfl hx0 ?_
    refine g_iconst (v := 1) dX4_exclude_58 rfl (i32l rfl) ?_
    obtain ⟨c27, ht24⟩ := chk_some ht24
    refine g_isub dX4_exclude_59 rfl c27 ?_
    refine g_pc (pc' := 60) rfl ?_
    refine g_putI dX4_exclude_60 flX4_32 (by decide) rfl hx0 ?_
    refine g_nmM (fun M28 eM28 => ?_)
    replace ht24 := nm_s eM28 ht24
    refine g_aload_n 1 dX4_exclude_63 rfl ?_
    refine g_getR dX4_exclude_64 flX4_18 (by decide) rfl hx0 ?_
    refine g_iload_n 0 dX4_exclude_67 rfl ?_
    refine g_iconst (v := 3) dX4_exclude_68 rfl (i32l rfl) ?_
    obtain ⟨c29, ht24⟩ := chk_some ht24
    refine g_iast dX4_exclude_69 (sf_3_2 hx0) c29.1 c29.2 ?_
    refine g_nmM (fun M30 eM30 => ?_)
    replace ht24 := nm_s eM30 ht24
    refine g_aload_n 1 dX4_exclude_70 rfl ?_
    refine g_getR dX4_exclude_71 flX4_22 (by decide) rfl hx0 ?_
    refine g_iload_n 0 dX4_exclude_74 rfl ?_
    refine g_pc (pc' := 75) rfl ?_
    refine g_aload_n 1 dX4_exclude_75 rfl ?_
    refine g_getI dX4_exclude_76 flX4_35 (by decide) rfl hx0 ?_
    refine g_iconst (v := 1) dX4_exclude_79 rfl (i32l rfl) ?_
    obtain ⟨c31, ht24⟩ := chk_some ht24
    refine g_isub dX4_exclude_80 rfl c31 ?_
    obtain ⟨c32, ht24⟩ := chk_some ht24
    refine g_iast dX4_exclude_81 (sf_3_3 hx0) c32.1 c32.2 ?_
    refine g_nmM (fun M33 eM33 => ?_)
    replace ht24 := nm_s eM33 ht24
    refine g_aload_n 1 dX4_exclude_82 rfl ?_
    refine g_getR dX4_exclude_83 flX4_44 (by decide) rfl hx0 ?_
    refine g_iload_n 0 dX4_exclude_86 rfl ?_
    refine g_lconst (v := 0) dX4_exclude_87 rfl (i64l rfl) ?_
    refine g_pc (pc' := 88) rfl ?_
    obtain ⟨c34, ht24⟩ := chk_some ht24
    refine g_last dX4_exclude_88 (sf_3_9 hx0) c34.1 c34.2 ?_
    refine g_nmM (fun M35 eM35 => ?_)
    replace ht24 := nm_s eM35 ht24
    cases ht24
    exact g_sub [] rfl Kt24
def fX4_goByRounds_l2 (x0 : Nat) (x1 : Nat) (x2 : Int) : Nat → Int → Mem → Option ((Int × Mem) ⊕ (Int × Mem))
  | 0, _, _ => none
  | n + 1, x3, M => (if (M (x0 + 10000) 8) < x3 then some (.inl (0, M)) else Option.bind ((if 1 < x3 then Option.bind (fX4_turnKeeps x0 M) (fun q8 => some (q8.2)) else (if x2 = 0 then Option.bind (fX4_turnKeeps x0 M) (fun q10 => some (q10.2)) else some (M))) : Option (Mem)) (fun t6 => Option.bind (fX4_workOut x0 t6) (fun q11 => Option.bind (fX4_surplus x0 q11.2) (fun q12 => nm (q12.1) (fun v13 => Option.bind (fX4_note x0 x1 x3 v13 q12.2) (fun q14 => Option.bind (fX4_whoReachesQuota x0 q14.2) (fun q15 => Option.bind (fX4_elect x0 x1 q15.1 q15.2) (fun q16 => (if (q16.2 x1 2) = 0 then (if v13 ≤ (q16.2 (x0 + 10000) 7) then Option.bind (fX4_exclude x0 x1 q16.2) (fun q19 => some (.inl (0, q19.2))) else (if x3 = (q16.2 (x0 + 10000) 8) then Option.bind (fX4_exclude x0 x1 q16.2) (fun q22 => some (.inl (0, q22.2))) else if -2147483648 ≤ (x3 + 1) ∧ (x3 + 1) ≤ 2147483647 then fX4_goByRounds_l2 x0 x1 x2 n (x3 + 1) q16.2 else none)) else some (.inl (0, q16.2)))))))))))
def fX4_goByRounds (x0 : Nat) (x1 : Nat) (x2 : Int) (M : Mem) : Option (Int × Mem) := lr (fX4_goByRounds_l2 x0 x1 x2 1000 1 M) (fun r => r) (fun _ => none)
set_option maxRecDepth 20000 in
theorem lX4_goByRounds_l2 {X : XC} {d : Nat} {Post : Option XV → Mem → Prop} {x0 : Nat} {x1 : Nat} {x2 : Int} (hx0 : Sh x0 = (13, 14)) (hx1 : Sh x1 = (12, 9)) : ∀ (n : Nat) (x3 : Int) (M : Mem) (z : (Int × Mem) ⊕ (Int × Mem)), fX4_goByRounds_l2 x0 x1 x2 n x3 M = some z → (∀ r, z = .inl r → Post none r.2) → Go X mX4_goByRounds (d + 3) 2 [(0, XR x0), (1, XR x1), (2, XI x2), (3, XI x3)] [] M Post := by
  intro n
  induction n with
  | zero => intro _ _ _ h; cases h
  | succ n ih =>
    intro x3 M z h K1
    unfold fX4_goByRounds_l2 at h
    refine g_iload_n 3 dX4_goByRounds_2 rfl ?_
    refine g_aload_n 0 dX4_goByRounds_3 rfl ?_
    refine g_getR dX4_goByRounds_4 flX4_61 (by decide) rfl hx0 ?_
    refine g_getI dX4_goByRounds_7 flX4_116 (by decide) rfl (sf_3_0 hx0) ?_
    refine g_icmp_gt (tgt := 98) dX4_goByRounds_10 (by decide) (fun b1 => ?_) (fun b1 => ?_)
    · replace h := ifp b1 h
      cases h
      exact g_return dX4_goByRounds_98 rfl (K1 (0, M) rfl)
    · replace h := ifn b1 h
      refine g_pc (pc' := 13) rfl ?_
      refine g_iload_n 3 dX4_goByRounds_13 rfl ?_
      refine g_iconst (v := 1) dX4_goByRounds_14 rfl (i32l rfl) ?_
      obtain ⟨t6, ht6, h⟩ := bnd_some h
      have Kt6 : Go X mX4_goByRounds (d + 3) 26 [(0, XR x0), (1, XR x1), (2, XI x2), (3, XI x3)] [] t6 Post := by
        refine g_aload_n 0 dX4_goByRounds_26 rfl ?_
        obtain ⟨q11, hq11, h⟩ := bnd_some h
        refine v_V (ci := 3) (as := []) dX4_goByRounds_27 mlX4_101 mdX4_workOut mvX4_workOut rfl hx0 rfl (Nat.le_of_ble_eq_true rfl) (kX4_workOut hx0 hq11) rfl ?_
        refine g_aload_n 0 dX4_goByRounds_30 rfl ?_
        obtain ⟨q12, hq12, h⟩ := bnd_some h
        refine v_J (ci := 3) (as := []) dX4_goByRounds_31 mlX4_122 mdX4_surplus mvX4_surplus rfl hx0 rfl (Nat.le_of_ble_eq_true rfl) (kX4_surplus hx0 hq12) rfl ?_
        refine g_nmL (fun v13 ev13 => ?_)
        replace h := nm_s ev13 h
        refine g_lstore (ls' := [(4, XL v13), (0, XR x0), (1, XR x1), (2, XI x2), (3, XI x3)]) dX4_goByRounds_34 (by decide) rfl ?_
        refine g_aload_n 1 dX4_goByRounds_36 rfl ?_
        refine g_aload_n 2 dX4_goByRounds_37 rfl ?_
        refine g_iload_n 4 dX4_goByRounds_38 rfl ?_
        refine g_pc (pc' := 39) rfl ?_
        refine g_lload 0 dX4_goByRounds_39 rfl ?_
        obtain ⟨q14, hq14, h⟩ := bnd_some h
        refine v_V (ci := 3) (as := [XR x1, XI x3, XL v13]) dX4_goByRounds_41 mlX4_104 mdX4_note mvX4_note rfl hx0 rfl (Nat.le_of_ble_eq_true rfl) (kX4_note hx0 hx1 hq14) rfl ?_
        refine g_aload_n 1 dX4_goByRounds_44 rfl ?_
        refine g_aload_n 2 dX4_goByRounds_45 rfl ?_
        refine g_aload_n 1 dX4_goByRounds_46 rfl ?_
        obtain ⟨q15, hq15, h⟩ := bnd_some h
        refine v_I (ci := 3) (as := []) dX4_goByRounds_47 mlX4_126 mdX4_whoReachesQuota mvX4_whoReachesQuota rfl hx0 rfl (Nat.le_of_ble_eq_true rfl) (kX4_whoReachesQuota hx0 hq15) rfl ?_
        obtain ⟨q16, hq16, h⟩ := bnd_some h
        refine v_V (ci := 3) (as := [XR x1, XI q15.1]) dX4_goByRounds_50 mlX4_112 mdX4_elect mvX4_elect rfl hx0 rfl (Nat.le_of_ble_eq_true rfl) (kX4_elect hx0 hx1 hq16) rfl ?_
        refine g_aload_n 2 dX4_goByRounds_53 rfl ?_
        refine g_getI dX4_goByRounds_54 flX4_78 (by decide) rfl hx1 ?_
        refine g_pc (pc' := 57) rfl ?_
        refine g_if_eq (tgt := 61) dX4_goByRounds_57 (by decide) (fun b17 => ?_) (fun b17 => ?_)
        · replace h := ifp b17 h
          refine g_lload 0 dX4_goByRounds_61 rfl ?_
          refine g_aload_n 1 dX4_goByRounds_63 rfl ?_
          refine g_getR dX4_goByRounds_64 flX4_61 (by decide) rfl hx0 ?_
          refine g_getI dX4_goByRounds_67 flX4_130 (by decide) rfl (sf_3_0 hx0) ?_
          refine g_i2l dX4_goByRounds_70 ?_
          refine g_lcmp_le (tgt := 86) dX4_goByRounds_71 dX4_goByRounds_72 (by decide) (fun b18 => ?_) (fun b18 => ?_)
          · replace h := ifp b18 h
            refine g_aload_n 1 dX4_goByRounds_86 rfl ?_
            refine g_aload_n 2 dX4_goByRounds_87 rfl ?_
            obtain ⟨q19, hq19, h⟩ := bnd_some h
            refine v_V (ci := 3) (as := [XR x1]) dX4_goByRounds_88 mlX4_133 mdX4_exclude mvX4_exclude rfl hx0 rfl (Nat.le_of_ble_eq_true rfl) (kX4_exclude hx0 hx1 hq19) rfl ?_
            cases h
            exact g_return dX4_goByRounds_91 rfl (K1 (0, q19.2) rfl)
          · replace h := ifn b18 h
            refine g_pc (pc' := 75) rfl ?_
            refine g_iload_n 4 dX4_goByRounds_75 rfl ?_
            refine g_aload_n 1 dX4_goByRounds_76 rfl ?_
            refine g_getR dX4_goByRounds_77 flX4_61 (by decide) rfl hx0 ?_
            refine g_getI dX4_goByRounds_80 flX4_116 (by decide) rfl (sf_3_0 hx0) ?_
            refine g_icmp_ne (tgt := 92) dX4_goByRounds_83 (by decide) (fun b20 => ?_) (fun b20 => ?_)
            · replace h := ifn b20 h
              obtain ⟨c21, h⟩ := chk_some h
              refine g_iinc (ls' := [(3, XI (x3 + 1)), (4, XL v13), (0, XR x0), (1, XR x1), (2, XI x2)]) 4 dX4_goByRounds_92 rfl rfl c21 (by decide) rfl ?_
              refine g_goto (tgt := 2) dX4_goByRounds_95 (by decide) ?_
              exact g_sub [2, 3, 4, 0] rfl (ih _ _ _ h K1)
            · replace h := ifp b20 h
              refine g_pc (pc' := 86) rfl ?_
              refine g_aload_n 1 dX4_goByRounds_86 rfl ?_
              refine g_aload_n 2 dX4_goByRounds_87 rfl ?_
              obtain ⟨q22, hq22, h⟩ := bnd_some h
              refine v_V (ci := 3) (as := [XR x1]) dX4_goByRounds_88 mlX4_133 mdX4_exclude mvX4_exclude rfl hx0 rfl (Nat.le_of_ble_eq_true rfl) (kX4_exclude hx0 hx1 hq22) rfl ?_
              cases h
              exact g_return dX4_goByRounds_91 rfl (K1 (0, q22.2) rfl)
        · replace h := ifn b17 h
          refine g_pc (pc' := 60) rfl ?_
          cases h
          exact g_return dX4_goByRounds_60 rfl (K1 (0, q16.2) rfl)
      refine g_icmp_gt (tgt := 22) dX4_goByRounds_15 (by decide) (fun b7 => ?_) (fun b7 => ?_)
      · replace ht6 := ifp b7 ht6
        refine g_aload_n 0 dX4_goByRounds_22 rfl ?_
        obtain ⟨q8, hq8, ht6⟩ := bnd_some ht6
        refine v_V (ci := 3) (as := []) dX4_goByRounds_23 mlX4_119 mdX4_turnKeeps mvX4_turnKeeps rfl hx0 rfl (Nat.le_of_ble_eq_true rfl) (kX4_turnKeeps hx0 hq8) rfl ?_
        cases ht6
        exact g_sub [0, 1, 2, 3] rfl Kt6
      · replace ht6 := ifn b7 ht6
        refine g_pc (pc' := 18) rfl ?_
        refine g_iload_n 2 dX4_goByRounds_18 rfl ?_
        refine g_if_ne (tgt := 26) dX4_goByRounds_19 (by decide) (fun b9 => ?_) (fun b9 => ?_)
        · replace ht6 := ifn b9 ht6
          cases ht6
          exact g_sub [0, 1, 2, 3] rfl Kt6
        · replace ht6 := ifp b9 ht6
          refine g_pc (pc' := 22) rfl ?_
          refine g_aload_n 0 dX4_goByRounds_22 rfl ?_
          obtain ⟨q10, hq10, ht6⟩ := bnd_some ht6
          refine v_V (ci := 3) (as := []) dX4_goByRounds_23 mlX4_119 mdX4_turnKeeps mvX4_turnKeeps rfl hx0 rfl (Nat.le_of_ble_eq_true rfl) (kX4_turnKeeps hx0 hq10) rfl ?_
          cases ht6
          exact g_sub [0, 1, 2, 3] rfl Kt6
set_option maxRecDepth 20000 in
theorem kX4_goByRounds {X : XC} {d : Nat} {x0 : Nat} {x1 : Nat} {x2 : Int} (hx0 : Sh x0 = (13, 14)) (hx1 : Sh x1 = (12, 9)) {M : Mem} {q : Int × Mem} (h : fX4_goByRounds x0 x1 x2 M = some q) : Ct X mX4_goByRounds (d + 3) [XR x0, XR x1, XI x2] M (pV q) := by
  unfold fX4_goByRounds at h
  refine ct_go (by decide +kernel) (Nat.le_of_ble_eq_true rfl) (ls := [(0, XR x0), (1, XR x1), (2, XI x2)]) rfl ?_
  refine g_iconst (v := 1) dX4_goByRounds_0 rfl (i32l rfl) ?_
  refine g_istore_n (ls' := [(3, XI 1), (0, XR x0), (1, XR x1), (2, XI x2)]) dX4_goByRounds_1 (by decide) rfl ?_
  obtain ⟨z23, hz23, rz23, h⟩ := lr_some h
  refine g_sub (ls' := [(0, XR x0), (1, XR x1), (2, XI x2), (3, XI 1)]) [1, 2, 3, 0] rfl ?_
  refine lX4_goByRounds_l2 hx0 hx1 1000 _ _ _ hz23 (fun r e => ?_)
  have rz23 := rz23 r e
  subst rz23
  exact ⟨rfl, rfl⟩
def fX4_work_l19 (x0 : Nat) : Nat → Int → Int → Mem → Option (Int × Int × Mem)
  | 0, _, _, _ => none
  | n + 1, x1, x2, M => (if 8 ≤ x2 then some (x1, x2, M) else (if (M x0 6) ≤ 0 then some (x1, x2, M) else (if (M (x0 + 10000) 6) ≤ (M x0 5) then some (x1, x2, M) else if -2147483648 ≤ (x2 + 1) ∧ (x2 + 1) ≤ 2147483647 then nm (wr M x0 7 (x2 + 1)) (fun M7 => if 0 ≤ x2 ∧ x2 < 8 then nm (wr M7 ((x0 + 9) + 36 + 16 * Int.toNat x2) 2 0) (fun M9 => nm (wr M9 ((x0 + 9) + 36 + 16 * Int.toNat x2) 1 (-5)) (fun M10 => if -2147483648 ≤ ((M10 x0 6) + (M10 x0 5)) ∧ ((M10 x0 6) + (M10 x0 5)) ≤ 2147483647 then Option.bind ((if (M10 (x0 + 10000) 6) < ((M10 x0 6) + (M10 x0 5)) then Option.bind (fX4_goByRounds x0 ((x0 + 9) + 36 + 16 * Int.toNat x2) x1 M10) (fun q17 => some (q17.2)) else Option.bind (fX4_fill x0 ((x0 + 9) + 36 + 16 * Int.toNat x2) M10) (fun q18 => some (q18.2))) : Option (Mem)) (fun t15 => Option.bind ((if (t15 ((x0 + 9) + 36 + 16 * Int.toNat x2) 1) = (-5) then some (0) else some (1)) : Option (Int)) (fun t20 => if -2147483648 ≤ (x2 + 1) ∧ (x2 + 1) ≤ 2147483647 then fX4_work_l19 x0 n t20 (x2 + 1) t15 else none)) else none)) else none) else none)))
def fX4_work (x0 : Nat) (M : Mem) : Option (Int × Mem) := Option.bind (fX0_gather (x0 + 20) (x0 + 10000) M) (fun q1 => Option.bind (fX4_begin x0 q1.2) (fun q2 => Option.bind (fX4_work_l19 x0 1000 0 0 q2.2) (fun z23 => some (0, z23.2.2))))
set_option maxRecDepth 20000 in
theorem lX4_work_l19 {X : XC} {d : Nat} {Post : Option XV → Mem → Prop} {x0 : Nat} (hx0 : Sh x0 = (13, 14)) : ∀ (n : Nat) (x1 x2 : Int) (M : Mem) (t0 : Int × Int × Mem), fX4_work_l19 x0 n x1 x2 M = some t0 → Go X mX4_work (d + 4) 125 [] [] t0.2.2 Post → Go X mX4_work (d + 4) 19 [(0, XR x0), (1, XI x1), (2, XI x2)] [] M Post := by
  intro n
  induction n with
  | zero => intro _ _ _ _ h; cases h
  | succ n ih =>
    intro x1 x2 M t0 h K
    unfold fX4_work_l19 at h
    refine g_iload_n 2 dX4_work_19 rfl ?_
    refine g_bip dX4_work_20 rfl ?_
    refine g_icmp_ge (tgt := 125) dX4_work_22 (by decide) (fun b3 => ?_) (fun b3 => ?_)
    · replace h := ifp b3 h
      cases h
      exact g_sub [] rfl K
    · replace h := ifn b3 h
      refine g_pc (pc' := 25) rfl ?_
      refine g_aload_n 0 dX4_work_25 rfl ?_
      refine g_getI dX4_work_26 flX4_32 (by decide) rfl hx0 ?_
      refine g_if_le (tgt := 125) dX4_work_29 (by decide) (fun b4 => ?_) (fun b4 => ?_)
      · replace h := ifp b4 h
        cases h
        exact g_sub [] rfl K
      · replace h := ifn b4 h
        refine g_pc (pc' := 32) rfl ?_
        refine g_aload_n 0 dX4_work_32 rfl ?_
        refine g_getI dX4_work_33 flX4_28 (by decide) rfl hx0 ?_
        refine g_aload_n 0 dX4_work_36 rfl ?_
        refine g_getR dX4_work_37 flX4_61 (by decide) rfl hx0 ?_
        refine g_getI dX4_work_40 flX4_73 (by decide) rfl (sf_3_0 hx0) ?_
        refine g_icmp_ge (tgt := 125) dX4_work_43 (by decide) (fun b5 => ?_) (fun b5 => ?_)
        · replace h := ifp b5 h
          cases h
          exact g_sub [] rfl K
        · replace h := ifn b5 h
          refine g_pc (pc' := 46) rfl ?_
          refine g_aload_n 0 dX4_work_46 rfl ?_
          refine g_iload_n 2 dX4_work_47 rfl ?_
          refine g_iconst (v := 1) dX4_work_48 rfl (i32l rfl) ?_
          obtain ⟨c6, h⟩ := chk_some h
          refine g_iadd dX4_work_49 rfl c6 ?_
          refine g_putI dX4_work_50 flX4_35 (by decide) rfl hx0 ?_
          refine g_nmM (fun M7 eM7 => ?_)
          replace h := nm_s eM7 h
          refine g_aload_n 0 dX4_work_53 rfl ?_
          refine g_getR dX4_work_54 flX4_40 (by decide) rfl hx0 ?_
          refine g_iload_n 2 dX4_work_57 rfl ?_
          refine g_pc (pc' := 58) rfl ?_
          obtain ⟨c8, h⟩ := chk_some h
          refine g_aald dX4_work_58 (sf_3_8 hx0) (by decide) c8.1 c8.2 ?_
          refine g_astore_n (ls' := [(3, XR ((x0 + 9) + 36 + 16 * Int.toNat x2)), (0, XR x0), (1, XI x1), (2, XI x2)]) dX4_work_59 (by decide) rfl ?_
          refine g_aload_n 0 dX4_work_60 rfl ?_
          refine g_iconst (v := 0) dX4_work_61 rfl (i32l rfl) ?_
          refine g_putI dX4_work_62 flX4_78 (by decide) rfl (sr_4 (sf_3_8 hx0) (tn_lt c8.1 c8.2)) ?_
          refine g_nmM (fun M9 eM9 => ?_)
          replace h := nm_s eM9 h
          refine g_aload_n 0 dX4_work_65 rfl ?_
          refine g_bip dX4_work_66 rfl ?_
          refine g_putI dX4_work_68 flX4_81 (by decide) rfl (sr_4 (sf_3_8 hx0) (tn_lt c8.1 c8.2)) ?_
          refine g_nmM (fun M10 eM10 => ?_)
          replace h := nm_s eM10 h
          refine g_aload_n 1 dX4_work_71 rfl ?_
          refine g_pc (pc' := 72) rfl ?_
          refine g_getI dX4_work_72 flX4_32 (by decide) rfl hx0 ?_
          refine g_aload_n 1 dX4_work_75 rfl ?_
          refine g_getI dX4_work_76 flX4_28 (by decide) rfl hx0 ?_
          obtain ⟨c11, h⟩ := chk_some h
          refine g_iadd dX4_work_79 rfl c11 ?_
          refine g_aload_n 1 dX4_work_80 rfl ?_
          refine g_getR dX4_work_81 flX4_61 (by decide) rfl hx0 ?_
          refine g_getI dX4_work_84 flX4_73 (by decide) rfl (sf_3_0 hx0) ?_
          obtain ⟨t15, ht15, h⟩ := bnd_some h
          have Kt15 : Go X mX4_work (d + 4) 104 [(0, XR x0), (2, XI x2), (3, XR ((x0 + 9) + 36 + 16 * Int.toNat x2))] [] t15 Post := by
            refine g_aload_n 2 dX4_work_104 rfl ?_
            refine g_getI dX4_work_105 flX4_81 (by decide) rfl (sr_4 (sf_3_8 hx0) (tn_lt c8.1 c8.2)) ?_
            refine g_bip dX4_work_108 rfl ?_
            obtain ⟨t20, ht20, h⟩ := bnd_some h
            have Kt20 : Go X mX4_work (d + 4) 118 [(0, XR x0), (2, XI x2)] [XI t20] t15 Post := by
              refine g_istore_n (ls' := [(1, XI t20), (0, XR x0), (2, XI x2)]) dX4_work_118 (by decide) rfl ?_
              obtain ⟨c22, h⟩ := chk_some h
              refine g_iinc (ls' := [(2, XI (x2 + 1)), (1, XI t20), (0, XR x0)]) 2 dX4_work_119 rfl rfl c22 (by decide) rfl ?_
              refine g_goto (tgt := 19) dX4_work_122 (by decide) ?_
              exact g_sub [2, 1, 0] rfl (ih _ _ _ _ h K)
            refine g_icmp_eq (tgt := 117) dX4_work_110 (by decide) (fun b21 => ?_) (fun b21 => ?_)
            · replace ht20 := ifp b21 ht20
              refine g_iconst (v := 0) dX4_work_117 rfl (i32l rfl) ?_
              cases ht20
              exact g_sub [0, 1] rfl Kt20
            · replace ht20 := ifn b21 ht20
              refine g_pc (pc' := 113) rfl ?_
              refine g_iconst (v := 1) dX4_work_113 rfl (i32l rfl) ?_
              refine g_goto (tgt := 118) dX4_work_114 (by decide) ?_
              cases ht20
              exact g_sub [0, 1] rfl Kt20
          refine g_icmp_gt (tgt := 98) dX4_work_87 (by decide) (fun b16 => ?_) (fun b16 => ?_)
          · replace ht15 := ifp b16 ht15
            refine g_aload_n 1 dX4_work_98 rfl ?_
            refine g_aload_n 0 dX4_work_99 rfl ?_
            refine g_iload_n 2 dX4_work_100 rfl ?_
            obtain ⟨q17, hq17, ht15⟩ := bnd_some ht15
            refine v_V (ci := 3) (as := [XR ((x0 + 9) + 36 + 16 * Int.toNat x2), XI x1]) dX4_work_101 mlX4_88 mdX4_goByRounds mvX4_goByRounds rfl hx0 rfl (Nat.le_of_ble_eq_true rfl) (kX4_goByRounds hx0 (sr_4 (sf_3_8 hx0) (tn_lt c8.1 c8.2)) hq17) rfl ?_
            cases ht15
            exact g_sub [1, 3, 0] rfl Kt15
          · replace ht15 := ifn b16 ht15
            refine g_pc (pc' := 90) rfl ?_
            refine g_aload_n 1 dX4_work_90 rfl ?_
            refine g_aload_n 0 dX4_work_91 rfl ?_
            obtain ⟨q18, hq18, ht15⟩ := bnd_some ht15
            refine v_V (ci := 3) (as := [XR ((x0 + 9) + 36 + 16 * Int.toNat x2)]) dX4_work_92 mlX4_84 mdX4_fill mvX4_fill rfl hx0 rfl (Nat.le_of_ble_eq_true rfl) (kX4_fill hx0 (sr_4 (sf_3_8 hx0) (tn_lt c8.1 c8.2)) hq18) rfl ?_
            refine g_goto (tgt := 104) dX4_work_95 (by decide) ?_
            cases ht15
            exact g_sub [1, 3, 0] rfl Kt15
set_option maxRecDepth 20000 in
theorem kX4_work {X : XC} {d : Nat} {x0 : Nat} (hx0 : Sh x0 = (13, 14)) {M : Mem} {q : Int × Mem} (h : fX4_work x0 M = some q) : Ct X mX4_work (d + 4) [XR x0] M (pV q) := by
  unfold fX4_work at h
  refine ct_go (by decide +kernel) (Nat.le_of_ble_eq_true rfl) (ls := [(0, XR x0)]) rfl ?_
  refine g_aload_n 0 dX4_work_0 rfl ?_
  refine g_getR dX4_work_1 flX4_12 (by decide) rfl hx0 ?_
  refine g_aload_n 0 dX4_work_4 rfl ?_
  refine g_getR dX4_work_5 flX4_61 (by decide) rfl hx0 ?_
  obtain ⟨q1, hq1, h⟩ := bnd_some h
  refine v_V (ci := 0) (as := [XR (x0 + 10000)]) dX4_work_8 mlX4_66 mdX0_gather mvX0_gather rfl (sf_3_1 hx0) rfl (Nat.le_of_ble_eq_true rfl) (kX0_gather (sf_3_1 hx0) (sf_3_0 hx0) hq1) rfl ?_
  refine g_aload_n 0 dX4_work_11 rfl ?_
  obtain ⟨q2, hq2, h⟩ := bnd_some h
  refine v_V (ci := 3) (as := []) dX4_work_12 mlX4_70 mdX4_begin mvX4_begin rfl hx0 rfl (Nat.le_of_ble_eq_true rfl) (kX4_begin hx0 hq2) rfl ?_
  refine g_iconst (v := 0) dX4_work_15 rfl (i32l rfl) ?_
  refine g_pc (pc' := 16) rfl ?_
  refine g_istore_n (ls' := [(1, XI 0), (0, XR x0)]) dX4_work_16 (by decide) rfl ?_
  refine g_iconst (v := 0) dX4_work_17 rfl (i32l rfl) ?_
  refine g_istore_n (ls' := [(2, XI 0), (1, XI 0), (0, XR x0)]) dX4_work_18 (by decide) rfl ?_
  obtain ⟨z23, hz23, h⟩ := bnd_some h
  refine g_sub (ls' := [(0, XR x0), (1, XI 0), (2, XI 0)]) [2, 1, 0] rfl ?_
  refine lX4_work_l19 hx0 1000 _ _ _ _ hz23 ?_
  cases h
  exact g_return dX4_work_125 rfl ⟨rfl, rfl⟩
def fX4_whoIsHere (x0 : Nat) (M : Mem) : Option (Int × Mem) := Option.bind (fX4_whoIs x0 1 M) (fun q1 => Option.bind (fX4_whoIs x0 2 q1.2) (fun q2 => Option.bind (fX4_whoIs x0 3 q2.2) (fun q3 => some ((bOr (bOr q1.1 q2.1) q3.1), q3.2))))
set_option maxRecDepth 20000 in
theorem kX4_whoIsHere {X : XC} {d : Nat} {x0 : Nat} (hx0 : Sh x0 = (13, 14)) {M : Mem} {q : Int × Mem} (h : fX4_whoIsHere x0 M = some q) : Ct X mX4_whoIsHere (d + 1) [XR x0] M (pI q) := by
  unfold fX4_whoIsHere at h
  refine ct_go (by decide +kernel) (Nat.le_of_ble_eq_true rfl) (ls := [(0, XR x0)]) rfl ?_
  refine g_aload_n 0 dX4_whoIsHere_0 rfl ?_
  refine g_iconst (v := 1) dX4_whoIsHere_1 rfl (i32l rfl) ?_
  obtain ⟨q1, hq1, h⟩ := bnd_some h
  refine v_I (ci := 3) (as := [XI 1]) dX4_whoIsHere_2 mlX4_108 mdX4_whoIs mvX4_whoIs rfl hx0 rfl (Nat.le_of_ble_eq_true rfl) (kX4_whoIs hx0 hq1) rfl ?_
  refine g_aload_n 0 dX4_whoIsHere_5 rfl ?_
  refine g_iconst (v := 2) dX4_whoIsHere_6 rfl (i32l rfl) ?_
  obtain ⟨q2, hq2, h⟩ := bnd_some h
  refine v_I (ci := 3) (as := [XI 2]) dX4_whoIsHere_7 mlX4_108 mdX4_whoIs mvX4_whoIs rfl hx0 rfl (Nat.le_of_ble_eq_true rfl) (kX4_whoIs hx0 hq2) rfl ?_
  refine g_ior dX4_whoIsHere_10 ?_
  refine g_aload_n 0 dX4_whoIsHere_11 rfl ?_
  refine g_pc (pc' := 12) rfl ?_
  refine g_iconst (v := 3) dX4_whoIsHere_12 rfl (i32l rfl) ?_
  obtain ⟨q3, hq3, h⟩ := bnd_some h
  refine v_I (ci := 3) (as := [XI 3]) dX4_whoIsHere_13 mlX4_108 mdX4_whoIs mvX4_whoIs rfl hx0 rfl (Nat.le_of_ble_eq_true rfl) (kX4_whoIs hx0 hq3) rfl ?_
  refine g_ior dX4_whoIsHere_16 ?_
  cases h
  exact g_ireturn dX4_whoIsHere_17 rfl ⟨rfl, rfl⟩
def fX4_rankAt_l79 (x0 : Nat) : Nat → Int → Int → Mem → Option ((Int × Mem) ⊕ (Int × Int × Mem))
  | 0, _, _, _ => none
  | n + 1, x2, x4, M => (if x4 < 0 then some (.inr (x2, x4, M)) else if 0 ≤ x4 ∧ x4 < 8 then (if (M ((x0 + 9) + 36 + 16 * Int.toNat x4) 1) = (-5) then if -2147483648 ≤ (x4 + (-1)) ∧ (x4 + (-1)) ≤ 2147483647 then fX4_rankAt_l79 x0 n x2 (x4 + (-1)) M else none else (if x2 = 0 then if 0 ≤ x4 ∧ x4 < 8 then some (.inl ((M ((x0 + 9) + 36 + 16 * Int.toNat x4) 1), M)) else none else if -2147483648 ≤ (x2 + (-1)) ∧ (x2 + (-1)) ≤ 2147483647 then if -2147483648 ≤ (x4 + (-1)) ∧ (x4 + (-1)) ≤ 2147483647 then fX4_rankAt_l79 x0 n (x2 + (-1)) (x4 + (-1)) M else none else none)) else none)
def fX4_rankAt_l126 (x0 : Nat) : Nat → Int → Int → Mem → Option ((Int × Mem) ⊕ (Int × Int × Mem))
  | 0, _, _, _ => none
  | n + 1, x2, x4, M => (if (M (x0 + 10000) 0) ≤ x4 then some (.inl ((-1), M)) else if 0 ≤ x4 ∧ x4 < 8 then (if (M (x0 + 3) (Int.toNat x4)) = 0 then (if x2 = 0 then some (.inl (x4, M)) else if -2147483648 ≤ (x2 + (-1)) ∧ (x2 + (-1)) ≤ 2147483647 then if -2147483648 ≤ (x4 + 1) ∧ (x4 + 1) ≤ 2147483647 then fX4_rankAt_l126 x0 n (x2 + (-1)) (x4 + 1) M else none else none) else if -2147483648 ≤ (x4 + 1) ∧ (x4 + 1) ≤ 2147483647 then fX4_rankAt_l126 x0 n x2 (x4 + 1) M else none) else none)
def fX4_rankAt (x0 : Nat) (x1 : Int) (M : Mem) : Option (Int × Mem) := (if x1 < 0 then if -2147483648 ≤ (x1 - (M x0 5)) ∧ (x1 - (M x0 5)) ≤ 2147483647 then nm ((x1 - (M x0 5))) (fun v3 => if -2147483648 ≤ ((M x0 7) - 1) ∧ ((M x0 7) - 1) ≤ 2147483647 then Option.bind (fX4_stageAt x0 ((M x0 7) - 1) M) (fun q5 => oc q5.1 (if -2147483648 ≤ (v3 - (q5.2 x0 6)) ∧ (v3 - (q5.2 x0 6)) ≤ 2147483647 then nm ((v3 - (q5.2 x0 6))) (fun v9 => if -2147483648 ≤ ((q5.2 x0 7) - 1) ∧ ((q5.2 x0 7) - 1) ≤ 2147483647 then nm (((q5.2 x0 7) - 1)) (fun v11 => lr (fX4_rankAt_l79 x0 1000 v9 v11 q5.2) (fun r => r) (fun t21 => lr (fX4_rankAt_l126 x0 1000 t21.1 0 t21.2.2) (fun r => r) (fun _ => none))) else none) else none) (fun a6 => if Sh a6 = (12, 9) then (if (q5.2 x0 6) ≤ v3 then if -2147483648 ≤ (v3 - (q5.2 x0 6)) ∧ (v3 - (q5.2 x0 6)) ≤ 2147483647 then nm ((v3 - (q5.2 x0 6))) (fun v32 => if -2147483648 ≤ ((q5.2 x0 7) - 1) ∧ ((q5.2 x0 7) - 1) ≤ 2147483647 then nm (((q5.2 x0 7) - 1)) (fun v34 => lr (fX4_rankAt_l79 x0 1000 v32 v34 q5.2) (fun r => r) (fun t36 => lr (fX4_rankAt_l126 x0 1000 t36.1 0 t36.2.2) (fun r => r) (fun _ => none))) else none) else none else Option.bind (fX4_whoIs x0 1 q5.2) (fun q38 => Option.bind (fX4_leader x0 (a6 + 8) q38.1 v3 q38.2) (fun q39 => some (q39.1, q39.2)))) else none)) else none) else none else (if (M x0 5) ≤ x1 then if -2147483648 ≤ (x1 - (M x0 5)) ∧ (x1 - (M x0 5)) ≤ 2147483647 then nm ((x1 - (M x0 5))) (fun v42 => if -2147483648 ≤ ((M x0 7) - 1) ∧ ((M x0 7) - 1) ≤ 2147483647 then Option.bind (fX4_stageAt x0 ((M x0 7) - 1) M) (fun q44 => oc q44.1 (if -2147483648 ≤ (v42 - (q44.2 x0 6)) ∧ (v42 - (q44.2 x0 6)) ≤ 2147483647 then nm ((v42 - (q44.2 x0 6))) (fun v48 => if -2147483648 ≤ ((q44.2 x0 7) - 1) ∧ ((q44.2 x0 7) - 1) ≤ 2147483647 then nm (((q44.2 x0 7) - 1)) (fun v50 => lr (fX4_rankAt_l79 x0 1000 v48 v50 q44.2) (fun r => r) (fun t52 => lr (fX4_rankAt_l126 x0 1000 t52.1 0 t52.2.2) (fun r => r) (fun _ => none))) else none) else none) (fun a45 => if Sh a45 = (12, 9) then (if (q44.2 x0 6) ≤ v42 then if -2147483648 ≤ (v42 - (q44.2 x0 6)) ∧ (v42 - (q44.2 x0 6)) ≤ 2147483647 then nm ((v42 - (q44.2 x0 6))) (fun v56 => if -2147483648 ≤ ((q44.2 x0 7) - 1) ∧ ((q44.2 x0 7) - 1) ≤ 2147483647 then nm (((q44.2 x0 7) - 1)) (fun v58 => lr (fX4_rankAt_l79 x0 1000 v56 v58 q44.2) (fun r => r) (fun t60 => lr (fX4_rankAt_l126 x0 1000 t60.1 0 t60.2.2) (fun r => r) (fun _ => none))) else none) else none else Option.bind (fX4_whoIs x0 1 q44.2) (fun q62 => Option.bind (fX4_leader x0 (a45 + 8) q62.1 v42 q62.2) (fun q63 => some (q63.1, q63.2)))) else none)) else none) else none else if 0 ≤ x1 ∧ x1 < 8 then some ((M (x0 + 5) (Int.toNat x1)), M) else none))
set_option maxRecDepth 20000 in
theorem lX4_rankAt_l79 {X : XC} {d : Nat} {Post : Option XV → Mem → Prop} {x0 : Nat} (hx0 : Sh x0 = (13, 14)) : ∀ (n : Nat) (x2 x4 : Int) (M : Mem) (z : (Int × Mem) ⊕ (Int × Int × Mem)), fX4_rankAt_l79 x0 n x2 x4 M = some z → (∀ r, z = .inl r → Post (some (XI r.1)) r.2) → (∀ t0, z = .inr t0 → Go X mX4_rankAt (d + 1) 123 [(0, XR x0), (2, XI t0.1)] [] t0.2.2 Post) → Go X mX4_rankAt (d + 1) 79 [(0, XR x0), (2, XI x2), (4, XI x4)] [] M Post := by
  intro n
  induction n with
  | zero => intro _ _ _ _ h; cases h
  | succ n ih =>
    intro x2 x4 M z h K1 K2
    unfold fX4_rankAt_l79 at h
    refine g_iload 2 dX4_rankAt_79 rfl ?_
    refine g_if_lt (tgt := 123) dX4_rankAt_81 (by decide) (fun b12 => ?_) (fun b12 => ?_)
    · replace h := ifp b12 h
      cases h
      exact g_sub [0, 1] rfl (K2 _ rfl)
    · replace h := ifn b12 h
      refine g_pc (pc' := 84) rfl ?_
      refine g_aload_n 0 dX4_rankAt_84 rfl ?_
      refine g_getR dX4_rankAt_85 flX4_40 (by decide) rfl hx0 ?_
      refine g_iload 2 dX4_rankAt_88 rfl ?_
      obtain ⟨c13, h⟩ := chk_some h
      refine g_aald dX4_rankAt_90 (sf_3_8 hx0) (by decide) c13.1 c13.2 ?_
      refine g_getI dX4_rankAt_91 flX4_81 (by decide) rfl (sr_4 (sf_3_8 hx0) (tn_lt c13.1 c13.2)) ?_
      refine g_bip dX4_rankAt_94 rfl ?_
      refine g_icmp_eq (tgt := 117) dX4_rankAt_96 (by decide) (fun b14 => ?_) (fun b14 => ?_)
      · replace h := ifp b14 h
        obtain ⟨c15, h⟩ := chk_some h
        refine g_iinc (ls' := [(4, XI (x4 + (-1))), (0, XR x0), (2, XI x2)]) 2 dX4_rankAt_117 rfl rfl c15 (by decide) rfl ?_
        refine g_goto (tgt := 79) dX4_rankAt_120 (by decide) ?_
        exact g_sub [1, 2, 0] rfl (ih _ _ _ _ h K1 K2)
      · replace h := ifn b14 h
        refine g_pc (pc' := 99) rfl ?_
        refine g_iload_n 1 dX4_rankAt_99 rfl ?_
        refine g_if_ne (tgt := 114) dX4_rankAt_100 (by decide) (fun b16 => ?_) (fun b16 => ?_)
        · replace h := ifn b16 h
          obtain ⟨c17, h⟩ := chk_some h
          refine g_iinc (ls' := [(2, XI (x2 + (-1))), (0, XR x0), (4, XI x4)]) 1 dX4_rankAt_114 rfl rfl c17 (by decide) rfl ?_
          obtain ⟨c18, h⟩ := chk_some h
          refine g_iinc (ls' := [(4, XI (x4 + (-1))), (2, XI (x2 + (-1))), (0, XR x0)]) 2 dX4_rankAt_117 rfl rfl c18 (by decide) rfl ?_
          refine g_goto (tgt := 79) dX4_rankAt_120 (by decide) ?_
          exact g_sub [2, 1, 0] rfl (ih _ _ _ _ h K1 K2)
        · replace h := ifp b16 h
          refine g_pc (pc' := 103) rfl ?_
          refine g_aload_n 0 dX4_rankAt_103 rfl ?_
          refine g_getR dX4_rankAt_104 flX4_40 (by decide) rfl hx0 ?_
          refine g_iload 2 dX4_rankAt_107 rfl ?_
          obtain ⟨c19, h⟩ := chk_some h
          refine g_aald dX4_rankAt_109 (sf_3_8 hx0) (by decide) c19.1 c19.2 ?_
          refine g_getI dX4_rankAt_110 flX4_81 (by decide) rfl (sr_4 (sf_3_8 hx0) (tn_lt c19.1 c19.2)) ?_
          cases h
          exact g_ireturn dX4_rankAt_113 rfl (K1 ((M ((x0 + 9) + 36 + 16 * Int.toNat x4) 1), M) rfl)
set_option maxRecDepth 20000 in
theorem lX4_rankAt_l126 {X : XC} {d : Nat} {Post : Option XV → Mem → Prop} {x0 : Nat} (hx0 : Sh x0 = (13, 14)) : ∀ (n : Nat) (x2 x4 : Int) (M : Mem) (z : (Int × Mem) ⊕ (Int × Int × Mem)), fX4_rankAt_l126 x0 n x2 x4 M = some z → (∀ r, z = .inl r → Post (some (XI r.1)) r.2) → Go X mX4_rankAt (d + 1) 126 [(0, XR x0), (2, XI x2), (4, XI x4)] [] M Post := by
  intro n
  induction n with
  | zero => intro _ _ _ _ h; cases h
  | succ n ih =>
    intro x2 x4 M z h K1
    unfold fX4_rankAt_l126 at h
    refine g_iload 2 dX4_rankAt_126 rfl ?_
    refine g_aload_n 0 dX4_rankAt_128 rfl ?_
    refine g_getR dX4_rankAt_129 flX4_61 (by decide) rfl hx0 ?_
    refine g_getI dX4_rankAt_132 flX4_92 (by decide) rfl (sf_3_0 hx0) ?_
    refine g_icmp_ge (tgt := 164) dX4_rankAt_135 (by decide) (fun b22 => ?_) (fun b22 => ?_)
    · replace h := ifp b22 h
      refine g_iconst (v := -1) dX4_rankAt_164 rfl (i32l rfl) ?_
      cases h
      exact g_ireturn dX4_rankAt_165 rfl (K1 ((-1), M) rfl)
    · replace h := ifn b22 h
      refine g_pc (pc' := 138) rfl ?_
      refine g_aload_n 0 dX4_rankAt_138 rfl ?_
      refine g_getR dX4_rankAt_139 flX4_18 (by decide) rfl hx0 ?_
      refine g_iload 2 dX4_rankAt_142 rfl ?_
      obtain ⟨c23, h⟩ := chk_some h
      refine g_iald dX4_rankAt_144 (sf_3_2 hx0) c23.1 c23.2 ?_
      refine g_if_ne (tgt := 158) dX4_rankAt_145 (by decide) (fun b24 => ?_) (fun b24 => ?_)
      · replace h := ifn b24 h
        obtain ⟨c25, h⟩ := chk_some h
        refine g_iinc (ls' := [(4, XI (x4 + 1)), (0, XR x0), (2, XI x2)]) 2 dX4_rankAt_158 rfl rfl c25 (by decide) rfl ?_
        refine g_goto (tgt := 126) dX4_rankAt_161 (by decide) ?_
        exact g_sub [1, 2, 0] rfl (ih _ _ _ _ h K1)
      · replace h := ifp b24 h
        refine g_pc (pc' := 148) rfl ?_
        refine g_iload_n 1 dX4_rankAt_148 rfl ?_
        refine g_if_ne (tgt := 155) dX4_rankAt_149 (by decide) (fun b26 => ?_) (fun b26 => ?_)
        · replace h := ifn b26 h
          obtain ⟨c27, h⟩ := chk_some h
          refine g_iinc (ls' := [(2, XI (x2 + (-1))), (0, XR x0), (4, XI x4)]) 1 dX4_rankAt_155 rfl rfl c27 (by decide) rfl ?_
          obtain ⟨c28, h⟩ := chk_some h
          refine g_iinc (ls' := [(4, XI (x4 + 1)), (2, XI (x2 + (-1))), (0, XR x0)]) 2 dX4_rankAt_158 rfl rfl c28 (by decide) rfl ?_
          refine g_goto (tgt := 126) dX4_rankAt_161 (by decide) ?_
          exact g_sub [2, 1, 0] rfl (ih _ _ _ _ h K1)
        · replace h := ifp b26 h
          refine g_pc (pc' := 152) rfl ?_
          refine g_iload 2 dX4_rankAt_152 rfl ?_
          cases h
          exact g_ireturn dX4_rankAt_154 rfl (K1 (x4, M) rfl)
set_option maxRecDepth 20000 in
theorem kX4_rankAt {X : XC} {d : Nat} {x0 : Nat} {x1 : Int} (hx0 : Sh x0 = (13, 14)) {M : Mem} {q : Int × Mem} (h : fX4_rankAt x0 x1 M = some q) : Ct X mX4_rankAt (d + 1) [XR x0, XI x1] M (pI q) := by
  unfold fX4_rankAt at h
  refine ct_go (by decide +kernel) (Nat.le_of_ble_eq_true rfl) (ls := [(0, XR x0), (1, XI x1)]) rfl ?_
  refine g_iload_n 1 dX4_rankAt_0 rfl ?_
  refine g_if_lt (tgt := 19) dX4_rankAt_1 (by decide) (fun b1 => ?_) (fun b1 => ?_)
  · replace h := ifp b1 h
    refine g_iload_n 1 dX4_rankAt_19 rfl ?_
    refine g_aload_n 0 dX4_rankAt_20 rfl ?_
    refine g_getI dX4_rankAt_21 flX4_28 (by decide) rfl hx0 ?_
    obtain ⟨c2, h⟩ := chk_some h
    refine g_isub dX4_rankAt_24 rfl c2 ?_
    refine g_nmI (fun v3 ev3 => ?_)
    replace h := nm_s ev3 h
    refine g_istore_n (ls' := [(2, XI v3), (0, XR x0), (1, XI x1)]) dX4_rankAt_25 (by decide) rfl ?_
    refine g_aload_n 1 dX4_rankAt_26 rfl ?_
    refine g_aload_n 1 dX4_rankAt_27 rfl ?_
    refine g_getI dX4_rankAt_28 flX4_35 (by decide) rfl hx0 ?_
    refine g_pc (pc' := 31) rfl ?_
    refine g_iconst (v := 1) dX4_rankAt_31 rfl (i32l rfl) ?_
    obtain ⟨c4, h⟩ := chk_some h
    refine g_isub dX4_rankAt_32 rfl c4 ?_
    obtain ⟨q5, hq5, h⟩ := bnd_some h
    refine v_R (ci := 3) (as := [XI ((M x0 7) - 1)]) dX4_rankAt_33 mlX4_198 mdX4_stageAt mvX4_stageAt rfl hx0 rfl (Nat.le_of_ble_eq_true rfl) (kX4_stageAt hx0 hq5) rfl (fun ea6 => ?_) (fun a6 ea6 => ?_)
    · replace h := oc_n ea6 h
      refine g_astore_nN (ls' := [(3, XN), (2, XI v3), (0, XR x0), (1, XI x1)]) dX4_rankAt_36 (by decide) rfl ?_
      refine g_aload_nN 0 dX4_rankAt_37 rfl ?_
      refine g_ifnullN (tgt := 64) dX4_rankAt_38 (by decide) ?_
      refine g_iload_n 1 dX4_rankAt_64 rfl ?_
      refine g_aload_n 2 dX4_rankAt_65 rfl ?_
      refine g_getI dX4_rankAt_66 flX4_32 (by decide) rfl hx0 ?_
      obtain ⟨c8, h⟩ := chk_some h
      refine g_isub dX4_rankAt_69 rfl c8 ?_
      refine g_nmI (fun v9 ev9 => ?_)
      replace h := nm_s ev9 h
      refine g_istore_n (ls' := [(2, XI v9), (3, XN), (0, XR x0), (1, XI x1)]) dX4_rankAt_70 (by decide) rfl ?_
      refine g_aload_n 2 dX4_rankAt_71 rfl ?_
      refine g_getI dX4_rankAt_72 flX4_35 (by decide) rfl hx0 ?_
      refine g_iconst (v := 1) dX4_rankAt_75 rfl (i32l rfl) ?_
      refine g_pc (pc' := 76) rfl ?_
      obtain ⟨c10, h⟩ := chk_some h
      refine g_isub dX4_rankAt_76 rfl c10 ?_
      refine g_nmI (fun v11 ev11 => ?_)
      replace h := nm_s ev11 h
      refine g_istore (ls' := [(4, XI v11), (2, XI v9), (3, XN), (0, XR x0), (1, XI x1)]) dX4_rankAt_77 (by decide) rfl ?_
      obtain ⟨z20, hz20, rz20, h⟩ := lr_some h
      refine g_sub (ls' := [(0, XR x0), (2, XI v9), (4, XI v11)]) [3, 1, 0] rfl ?_
      refine lX4_rankAt_l79 hx0 1000 _ _ _ _ hz20 (fun r e => ?_) (fun t21 et21 => ?_)
      · have rz20 := rz20 r e
        subst rz20
        exact ⟨rfl, rfl⟩
      · replace h := h t21 et21
        refine g_iconst (v := 0) dX4_rankAt_123 rfl (i32l rfl) ?_
        refine g_istore (ls' := [(4, XI 0), (0, XR x0), (2, XI t21.1)]) dX4_rankAt_124 (by decide) rfl ?_
        obtain ⟨z29, hz29, rz29, h⟩ := lr_some h
        refine g_sub (ls' := [(0, XR x0), (2, XI t21.1), (4, XI 0)]) [1, 2, 0] rfl ?_
        refine lX4_rankAt_l126 hx0 1000 _ _ _ _ hz29 (fun r e => ?_)
        have rz29 := rz29 r e
        subst rz29
        exact ⟨rfl, rfl⟩
    · replace h := oc_s ea6 h
      obtain ⟨c7, h⟩ := chk_some h
      refine g_astore_n (ls' := [(3, XR a6), (2, XI v3), (0, XR x0), (1, XI x1)]) dX4_rankAt_36 (by decide) rfl ?_
      refine g_aload_n 0 dX4_rankAt_37 rfl ?_
      refine g_ifnullR dX4_rankAt_38 ?_
      refine g_iload_n 1 dX4_rankAt_41 rfl ?_
      refine g_aload_n 2 dX4_rankAt_42 rfl ?_
      refine g_getI dX4_rankAt_43 flX4_32 (by decide) rfl hx0 ?_
      refine g_icmp_ge (tgt := 64) dX4_rankAt_46 (by decide) (fun b30 => ?_) (fun b30 => ?_)
      · replace h := ifp b30 h
        refine g_iload_n 1 dX4_rankAt_64 rfl ?_
        refine g_aload_n 2 dX4_rankAt_65 rfl ?_
        refine g_getI dX4_rankAt_66 flX4_32 (by decide) rfl hx0 ?_
        obtain ⟨c31, h⟩ := chk_some h
        refine g_isub dX4_rankAt_69 rfl c31 ?_
        refine g_nmI (fun v32 ev32 => ?_)
        replace h := nm_s ev32 h
        refine g_istore_n (ls' := [(2, XI v32), (3, XR a6), (0, XR x0), (1, XI x1)]) dX4_rankAt_70 (by decide) rfl ?_
        refine g_aload_n 2 dX4_rankAt_71 rfl ?_
        refine g_getI dX4_rankAt_72 flX4_35 (by decide) rfl hx0 ?_
        refine g_iconst (v := 1) dX4_rankAt_75 rfl (i32l rfl) ?_
        refine g_pc (pc' := 76) rfl ?_
        obtain ⟨c33, h⟩ := chk_some h
        refine g_isub dX4_rankAt_76 rfl c33 ?_
        refine g_nmI (fun v34 ev34 => ?_)
        replace h := nm_s ev34 h
        refine g_istore (ls' := [(4, XI v34), (2, XI v32), (3, XR a6), (0, XR x0), (1, XI x1)]) dX4_rankAt_77 (by decide) rfl ?_
        obtain ⟨z35, hz35, rz35, h⟩ := lr_some h
        refine g_sub (ls' := [(0, XR x0), (2, XI v32), (4, XI v34)]) [3, 1, 0] rfl ?_
        refine lX4_rankAt_l79 hx0 1000 _ _ _ _ hz35 (fun r e => ?_) (fun t36 et36 => ?_)
        · have rz35 := rz35 r e
          subst rz35
          exact ⟨rfl, rfl⟩
        · replace h := h t36 et36
          refine g_iconst (v := 0) dX4_rankAt_123 rfl (i32l rfl) ?_
          refine g_istore (ls' := [(4, XI 0), (0, XR x0), (2, XI t36.1)]) dX4_rankAt_124 (by decide) rfl ?_
          obtain ⟨z37, hz37, rz37, h⟩ := lr_some h
          refine g_sub (ls' := [(0, XR x0), (2, XI t36.1), (4, XI 0)]) [1, 2, 0] rfl ?_
          refine lX4_rankAt_l126 hx0 1000 _ _ _ _ hz37 (fun r e => ?_)
          have rz37 := rz37 r e
          subst rz37
          exact ⟨rfl, rfl⟩
      · replace h := ifn b30 h
        refine g_pc (pc' := 49) rfl ?_
        refine g_aload_n 2 dX4_rankAt_49 rfl ?_
        refine g_aload_n 0 dX4_rankAt_50 rfl ?_
        refine g_getR dX4_rankAt_51 flX4_178 (by decide) rfl c7 ?_
        refine g_aload_n 2 dX4_rankAt_54 rfl ?_
        refine g_iconst (v := 1) dX4_rankAt_55 rfl (i32l rfl) ?_
        obtain ⟨q38, hq38, h⟩ := bnd_some h
        refine v_I (ci := 3) (as := [XI 1]) dX4_rankAt_56 mlX4_108 mdX4_whoIs mvX4_whoIs rfl hx0 rfl (Nat.le_of_ble_eq_true rfl) (kX4_whoIs hx0 hq38) rfl ?_
        refine g_iload_n 1 dX4_rankAt_59 rfl ?_
        obtain ⟨q39, hq39, h⟩ := bnd_some h
        refine v_I (ci := 3) (as := [XR (a6 + 8), XI q38.1, XI v3]) dX4_rankAt_60 mlX4_180 mdX4_leader mvX4_leader rfl hx0 rfl (Nat.le_of_ble_eq_true rfl) (kX4_leader hx0 (sf_2_7 c7) hq39) rfl ?_
        refine g_pc (pc' := 63) rfl ?_
        cases h
        exact g_ireturn dX4_rankAt_63 rfl ⟨rfl, rfl⟩
  · replace h := ifn b1 h
    refine g_pc (pc' := 4) rfl ?_
    refine g_iload_n 1 dX4_rankAt_4 rfl ?_
    refine g_aload_n 0 dX4_rankAt_5 rfl ?_
    refine g_getI dX4_rankAt_6 flX4_28 (by decide) rfl hx0 ?_
    refine g_icmp_ge (tgt := 19) dX4_rankAt_9 (by decide) (fun b40 => ?_) (fun b40 => ?_)
    · replace h := ifp b40 h
      refine g_iload_n 1 dX4_rankAt_19 rfl ?_
      refine g_aload_n 0 dX4_rankAt_20 rfl ?_
      refine g_getI dX4_rankAt_21 flX4_28 (by decide) rfl hx0 ?_
      obtain ⟨c41, h⟩ := chk_some h
      refine g_isub dX4_rankAt_24 rfl c41 ?_
      refine g_nmI (fun v42 ev42 => ?_)
      replace h := nm_s ev42 h
      refine g_istore_n (ls' := [(2, XI v42), (0, XR x0), (1, XI x1)]) dX4_rankAt_25 (by decide) rfl ?_
      refine g_aload_n 1 dX4_rankAt_26 rfl ?_
      refine g_aload_n 1 dX4_rankAt_27 rfl ?_
      refine g_getI dX4_rankAt_28 flX4_35 (by decide) rfl hx0 ?_
      refine g_pc (pc' := 31) rfl ?_
      refine g_iconst (v := 1) dX4_rankAt_31 rfl (i32l rfl) ?_
      obtain ⟨c43, h⟩ := chk_some h
      refine g_isub dX4_rankAt_32 rfl c43 ?_
      obtain ⟨q44, hq44, h⟩ := bnd_some h
      refine v_R (ci := 3) (as := [XI ((M x0 7) - 1)]) dX4_rankAt_33 mlX4_198 mdX4_stageAt mvX4_stageAt rfl hx0 rfl (Nat.le_of_ble_eq_true rfl) (kX4_stageAt hx0 hq44) rfl (fun ea45 => ?_) (fun a45 ea45 => ?_)
      · replace h := oc_n ea45 h
        refine g_astore_nN (ls' := [(3, XN), (2, XI v42), (0, XR x0), (1, XI x1)]) dX4_rankAt_36 (by decide) rfl ?_
        refine g_aload_nN 0 dX4_rankAt_37 rfl ?_
        refine g_ifnullN (tgt := 64) dX4_rankAt_38 (by decide) ?_
        refine g_iload_n 1 dX4_rankAt_64 rfl ?_
        refine g_aload_n 2 dX4_rankAt_65 rfl ?_
        refine g_getI dX4_rankAt_66 flX4_32 (by decide) rfl hx0 ?_
        obtain ⟨c47, h⟩ := chk_some h
        refine g_isub dX4_rankAt_69 rfl c47 ?_
        refine g_nmI (fun v48 ev48 => ?_)
        replace h := nm_s ev48 h
        refine g_istore_n (ls' := [(2, XI v48), (3, XN), (0, XR x0), (1, XI x1)]) dX4_rankAt_70 (by decide) rfl ?_
        refine g_aload_n 2 dX4_rankAt_71 rfl ?_
        refine g_getI dX4_rankAt_72 flX4_35 (by decide) rfl hx0 ?_
        refine g_iconst (v := 1) dX4_rankAt_75 rfl (i32l rfl) ?_
        refine g_pc (pc' := 76) rfl ?_
        obtain ⟨c49, h⟩ := chk_some h
        refine g_isub dX4_rankAt_76 rfl c49 ?_
        refine g_nmI (fun v50 ev50 => ?_)
        replace h := nm_s ev50 h
        refine g_istore (ls' := [(4, XI v50), (2, XI v48), (3, XN), (0, XR x0), (1, XI x1)]) dX4_rankAt_77 (by decide) rfl ?_
        obtain ⟨z51, hz51, rz51, h⟩ := lr_some h
        refine g_sub (ls' := [(0, XR x0), (2, XI v48), (4, XI v50)]) [3, 1, 0] rfl ?_
        refine lX4_rankAt_l79 hx0 1000 _ _ _ _ hz51 (fun r e => ?_) (fun t52 et52 => ?_)
        · have rz51 := rz51 r e
          subst rz51
          exact ⟨rfl, rfl⟩
        · replace h := h t52 et52
          refine g_iconst (v := 0) dX4_rankAt_123 rfl (i32l rfl) ?_
          refine g_istore (ls' := [(4, XI 0), (0, XR x0), (2, XI t52.1)]) dX4_rankAt_124 (by decide) rfl ?_
          obtain ⟨z53, hz53, rz53, h⟩ := lr_some h
          refine g_sub (ls' := [(0, XR x0), (2, XI t52.1), (4, XI 0)]) [1, 2, 0] rfl ?_
          refine lX4_rankAt_l126 hx0 1000 _ _ _ _ hz53 (fun r e => ?_)
          have rz53 := rz53 r e
          subst rz53
          exact ⟨rfl, rfl⟩
      · replace h := oc_s ea45 h
        obtain ⟨c46, h⟩ := chk_some h
        refine g_astore_n (ls' := [(3, XR a45), (2, XI v42), (0, XR x0), (1, XI x1)]) dX4_rankAt_36 (by decide) rfl ?_
        refine g_aload_n 0 dX4_rankAt_37 rfl ?_
        refine g_ifnullR dX4_rankAt_38 ?_
        refine g_iload_n 1 dX4_rankAt_41 rfl ?_
        refine g_aload_n 2 dX4_rankAt_42 rfl ?_
        refine g_getI dX4_rankAt_43 flX4_32 (by decide) rfl hx0 ?_
        refine g_icmp_ge (tgt := 64) dX4_rankAt_46 (by decide) (fun b54 => ?_) (fun b54 => ?_)
        · replace h := ifp b54 h
          refine g_iload_n 1 dX4_rankAt_64 rfl ?_
          refine g_aload_n 2 dX4_rankAt_65 rfl ?_
          refine g_getI dX4_rankAt_66 flX4_32 (by decide) rfl hx0 ?_
          obtain ⟨c55, h⟩ := chk_some h
          refine g_isub dX4_rankAt_69 rfl c55 ?_
          refine g_nmI (fun v56 ev56 => ?_)
          replace h := nm_s ev56 h
          refine g_istore_n (ls' := [(2, XI v56), (3, XR a45), (0, XR x0), (1, XI x1)]) dX4_rankAt_70 (by decide) rfl ?_
          refine g_aload_n 2 dX4_rankAt_71 rfl ?_
          refine g_getI dX4_rankAt_72 flX4_35 (by decide) rfl hx0 ?_
          refine g_iconst (v := 1) dX4_rankAt_75 rfl (i32l rfl) ?_
          refine g_pc (pc' := 76) rfl ?_
          obtain ⟨c57, h⟩ := chk_some h
          refine g_isub dX4_rankAt_76 rfl c57 ?_
          refine g_nmI (fun v58 ev58 => ?_)
          replace h := nm_s ev58 h
          refine g_istore (ls' := [(4, XI v58), (2, XI v56), (3, XR a45), (0, XR x0), (1, XI x1)]) dX4_rankAt_77 (by decide) rfl ?_
          obtain ⟨z59, hz59, rz59, h⟩ := lr_some h
          refine g_sub (ls' := [(0, XR x0), (2, XI v56), (4, XI v58)]) [3, 1, 0] rfl ?_
          refine lX4_rankAt_l79 hx0 1000 _ _ _ _ hz59 (fun r e => ?_) (fun t60 et60 => ?_)
          · have rz59 := rz59 r e
            subst rz59
            exact ⟨rfl, rfl⟩
          · replace h := h t60 et60
            refine g_iconst (v := 0) dX4_rankAt_123 rfl (i32l rfl) ?_
            refine g_istore (ls' := [(4, XI 0), (0, XR x0), (2, XI t60.1)]) dX4_rankAt_124 (by decide) rfl ?_
            obtain ⟨z61, hz61, rz61, h⟩ := lr_some h
            refine g_sub (ls' := [(0, XR x0), (2, XI t60.1), (4, XI 0)]) [1, 2, 0] rfl ?_
            refine lX4_rankAt_l126 hx0 1000 _ _ _ _ hz61 (fun r e => ?_)
            have rz61 := rz61 r e
            subst rz61
            exact ⟨rfl, rfl⟩
        · replace h := ifn b54 h
          refine g_pc (pc' := 49) rfl ?_
          refine g_aload_n 2 dX4_rankAt_49 rfl ?_
          refine g_aload_n 0 dX4_rankAt_50 rfl ?_
          refine g_getR dX4_rankAt_51 flX4_178 (by decide) rfl c46 ?_
          refine g_aload_n 2 dX4_rankAt_54 rfl ?_
          refine g_iconst (v := 1) dX4_rankAt_55 rfl (i32l rfl) ?_
          obtain ⟨q62, hq62, h⟩ := bnd_some h
          refine v_I (ci := 3) (as := [XI 1]) dX4_rankAt_56 mlX4_108 mdX4_whoIs mvX4_whoIs rfl hx0 rfl (Nat.le_of_ble_eq_true rfl) (kX4_whoIs hx0 hq62) rfl ?_
          refine g_iload_n 1 dX4_rankAt_59 rfl ?_
          obtain ⟨q63, hq63, h⟩ := bnd_some h
          refine v_I (ci := 3) (as := [XR (a45 + 8), XI q62.1, XI v42]) dX4_rankAt_60 mlX4_180 mdX4_leader mvX4_leader rfl hx0 rfl (Nat.le_of_ble_eq_true rfl) (kX4_leader hx0 (sf_2_7 c46) hq63) rfl ?_
          refine g_pc (pc' := 63) rfl ?_
          cases h
          exact g_ireturn dX4_rankAt_63 rfl ⟨rfl, rfl⟩
    · replace h := ifn b40 h
      refine g_pc (pc' := 12) rfl ?_
      refine g_aload_n 0 dX4_rankAt_12 rfl ?_
      refine g_getR dX4_rankAt_13 flX4_25 (by decide) rfl hx0 ?_
      refine g_iload_n 1 dX4_rankAt_16 rfl ?_
      obtain ⟨c64, h⟩ := chk_some h
      refine g_iald dX4_rankAt_17 (sf_3_4 hx0) c64.1 c64.2 ?_
      cases h
      exact g_ireturn dX4_rankAt_18 rfl ⟨rfl, rfl⟩
def fX5_become (x0 : Nat) (x1 : Int) (x2 : Int) (M : Mem) : Option (Int × Mem) := nm (wr M x0 0 x1) (fun M1 => nm (wr M1 x0 1 x2) (fun M2 => Option.bind (fJ7_fill_d0a16_60 (x0 + 3) 0 M2) (fun q3 => some (0, q3.2))))
set_option maxRecDepth 20000 in
theorem kX5_become {X : XC} {d : Nat} {x0 : Nat} {x1 : Int} {x2 : Int} (hx0 : Sh x0 = (14, 3)) {M : Mem} {q : Int × Mem} (h : fX5_become x0 x1 x2 M = some q) : Ct X mX5_become (d + 1) [XR x0, XI x1, XI x2] M (pV q) := by
  unfold fX5_become at h
  refine ct_go (by decide +kernel) (Nat.le_of_ble_eq_true rfl) (ls := [(0, XR x0), (1, XI x1), (2, XI x2)]) rfl ?_
  refine g_aload_n 0 dX5_become_0 rfl ?_
  refine g_iload_n 1 dX5_become_1 rfl ?_
  refine g_putI dX5_become_2 flX5_9 (by decide) rfl hx0 ?_
  refine g_nmM (fun M1 eM1 => ?_)
  replace h := nm_s eM1 h
  refine g_aload_n 0 dX5_become_5 rfl ?_
  refine g_iload_n 2 dX5_become_6 rfl ?_
  refine g_putI dX5_become_7 flX5_15 (by decide) rfl hx0 ?_
  refine g_nmM (fun M2 eM2 => ?_)
  replace h := nm_s eM2 h
  refine g_aload_n 0 dX5_become_10 rfl ?_
  refine g_getR dX5_become_11 flX5_18 (by decide) rfl hx0 ?_
  refine g_pc (pc' := 14) rfl ?_
  refine g_lconst (v := 0) dX5_become_14 rfl (i64l rfl) ?_
  obtain ⟨q3, hq3, h⟩ := bnd_some h
  refine s_V (as := [XR (x0 + 3), XL 0]) dX5_become_15 mlX5_22 mdJ7_fill_d0a16 msJ7_fill_d0a16 rfl (Nat.le_of_ble_eq_true rfl) (kJ7_fill_d0a16_60 (sf_4_2 hx0) hq3) rfl ?_
  cases h
  exact g_return dX5_become_18 rfl ⟨rfl, rfl⟩
def fX5_fitted (x0 : Nat) (x1 : Int) (M : Mem) : Option (Int × Mem) := (if (M x0 0) = 0 then some ((w8 (w32 x1)), M) else if (M x0 0) = 1 then some ((w16 (w32 x1)), M) else if (M x0 0) = 2 then some ((w32 x1), M) else if (M x0 0) = 3 then some (x1, M) else if (M x0 0) = 4 then Option.bind ((if x1 = 0 then some (0) else some (1)) : Option (Int)) (fun t7 => some (t7, M)) else some (x1, M))
set_option maxRecDepth 20000 in
theorem kX5_fitted {X : XC} {d : Nat} {x0 : Nat} {x1 : Int} (hx0 : Sh x0 = (14, 3)) {M : Mem} {q : Int × Mem} (h : fX5_fitted x0 x1 M = some q) : Ct X mX5_fitted d [XR x0, XL x1] M (pJ q) := by
  unfold fX5_fitted at h
  refine ct_go (by decide +kernel) (Nat.le_of_ble_eq_true rfl) (ls := [(0, XR x0), (1, XL x1)]) rfl ?_
  refine g_aload_n 0 dX5_fitted_0 rfl ?_
  refine g_getI dX5_fitted_1 flX5_9 (by decide) rfl hx0 ?_
  by_cases b1 : (M x0 0) = 0
  · replace h := ifp b1 h
    refine g_tswIn (off := 36) (tgt := 40) dX5_fitted_4 (by rw [b1]; decide) (by rw [b1]; decide) (by rw [b1]; rfl) (by decide) ?_
    refine g_lload_n 1 dX5_fitted_40 rfl ?_
    refine g_l2i dX5_fitted_41 ?_
    refine g_i2b dX5_fitted_42 ?_
    refine g_i2l dX5_fitted_43 ?_
    cases h
    exact g_lreturn dX5_fitted_44 rfl ⟨rfl, rfl⟩
  · replace h := ifn b1 h
    by_cases b2 : (M x0 0) = 1
    · replace h := ifp b2 h
      refine g_tswIn (off := 41) (tgt := 45) dX5_fitted_4 (by rw [b2]; decide) (by rw [b2]; decide) (by rw [b2]; rfl) (by decide) ?_
      refine g_lload_n 1 dX5_fitted_45 rfl ?_
      refine g_l2i dX5_fitted_46 ?_
      refine g_i2s dX5_fitted_47 ?_
      refine g_i2l dX5_fitted_48 ?_
      cases h
      exact g_lreturn dX5_fitted_49 rfl ⟨rfl, rfl⟩
    · replace h := ifn b2 h
      by_cases b3 : (M x0 0) = 2
      · replace h := ifp b3 h
        refine g_tswIn (off := 46) (tgt := 50) dX5_fitted_4 (by rw [b3]; decide) (by rw [b3]; decide) (by rw [b3]; rfl) (by decide) ?_
        refine g_lload_n 1 dX5_fitted_50 rfl ?_
        refine g_l2i dX5_fitted_51 ?_
        refine g_i2l dX5_fitted_52 ?_
        cases h
        exact g_lreturn dX5_fitted_53 rfl ⟨rfl, rfl⟩
      · replace h := ifn b3 h
        by_cases b4 : (M x0 0) = 3
        · replace h := ifp b4 h
          refine g_tswIn (off := 62) (tgt := 66) dX5_fitted_4 (by rw [b4]; decide) (by rw [b4]; decide) (by rw [b4]; rfl) (by decide) ?_
          refine g_lload_n 1 dX5_fitted_66 rfl ?_
          cases h
          exact g_lreturn dX5_fitted_67 rfl ⟨rfl, rfl⟩
        · replace h := ifn b4 h
          by_cases b5 : (M x0 0) = 4
          · replace h := ifp b5 h
            refine g_tswIn (off := 50) (tgt := 54) dX5_fitted_4 (by rw [b5]; decide) (by rw [b5]; decide) (by rw [b5]; rfl) (by decide) ?_
            refine g_lload_n 1 dX5_fitted_54 rfl ?_
            refine g_lconst (v := 0) dX5_fitted_55 rfl (i64l rfl) ?_
            obtain ⟨t7, ht7, h⟩ := bnd_some h
            have Kt7 : Go X mX5_fitted d 65 [] [XL t7] M (pJ q) := by
              cases h
              exact g_lreturn dX5_fitted_65 rfl ⟨rfl, rfl⟩
            refine g_lcmp_eq (tgt := 64) dX5_fitted_56 dX5_fitted_57 (by decide) (fun b8 => ?_) (fun b8 => ?_)
            · replace ht7 := ifp b8 ht7
              refine g_lconst (v := 0) dX5_fitted_64 rfl (i64l rfl) ?_
              cases ht7
              exact g_sub [] rfl Kt7
            · replace ht7 := ifn b8 ht7
              refine g_pc (pc' := 60) rfl ?_
              refine g_lconst (v := 1) dX5_fitted_60 rfl (i64l rfl) ?_
              refine g_goto (tgt := 65) dX5_fitted_61 (by decide) ?_
              cases ht7
              exact g_sub [] rfl Kt7
          · replace h := ifn b5 h
            refine g_tswOut (tgt := 66) dX5_fitted_4 (by omega) (by decide) ?_
            refine g_lload_n 1 dX5_fitted_66 rfl ?_
            cases h
            exact g_lreturn dX5_fitted_67 rfl ⟨rfl, rfl⟩
def fX5_hasRoom (x0 : Nat) (x1 : Int) (x2 : Int) (M : Mem) : Option (Int × Mem) := Option.bind ((if x1 < 0 then some (0) else (if (M x0 1) < x1 then some (0) else if -2147483648 ≤ ((M x0 1) - x1) ∧ ((M x0 1) - x1) ≤ 2147483647 then (if ((M x0 1) - x1) < x2 then some (0) else some (1)) else none)) : Option (Int)) (fun t5 => if t5 = 0 ∨ t5 = 1 then some (t5, M) else none)
set_option maxRecDepth 20000 in
theorem kX5_hasRoom {X : XC} {d : Nat} {x0 : Nat} {x1 : Int} {x2 : Int} (hx0 : Sh x0 = (14, 3)) {M : Mem} {q : Int × Mem} (h : fX5_hasRoom x0 x1 x2 M = some q) : Ct X mX5_hasRoom d [XR x0, XI x1, XI x2] M (pI q) := by
  unfold fX5_hasRoom at h
  refine ct_go (by decide +kernel) (Nat.le_of_ble_eq_true rfl) (ls := [(0, XR x0), (1, XI x1), (2, XI x2)]) rfl ?_
  refine g_iload_n 1 dX5_hasRoom_0 rfl ?_
  obtain ⟨t5, ht5, h⟩ := bnd_some h
  have Kt5 : Go X mX5_hasRoom d 27 [] [XI t5] M (pI q) := by
    obtain ⟨cz, h⟩ := chk_some h
    cases h
    exact g_zreturn dX5_hasRoom_27 rfl cz ⟨rfl, rfl⟩
  refine g_if_lt (tgt := 26) dX5_hasRoom_1 (by decide) (fun b6 => ?_) (fun b6 => ?_)
  · replace ht5 := ifp b6 ht5
    refine g_iconst (v := 0) dX5_hasRoom_26 rfl (i32l rfl) ?_
    cases ht5
    exact g_sub [] rfl Kt5
  · replace ht5 := ifn b6 ht5
    refine g_pc (pc' := 4) rfl ?_
    refine g_iload_n 1 dX5_hasRoom_4 rfl ?_
    refine g_aload_n 0 dX5_hasRoom_5 rfl ?_
    refine g_getI dX5_hasRoom_6 flX5_15 (by decide) rfl hx0 ?_
    refine g_icmp_gt (tgt := 26) dX5_hasRoom_9 (by decide) (fun b7 => ?_) (fun b7 => ?_)
    · replace ht5 := ifp b7 ht5
      refine g_iconst (v := 0) dX5_hasRoom_26 rfl (i32l rfl) ?_
      cases ht5
      exact g_sub [] rfl Kt5
    · replace ht5 := ifn b7 ht5
      refine g_pc (pc' := 12) rfl ?_
      refine g_iload_n 2 dX5_hasRoom_12 rfl ?_
      refine g_aload_n 0 dX5_hasRoom_13 rfl ?_
      refine g_getI dX5_hasRoom_14 flX5_15 (by decide) rfl hx0 ?_
      refine g_iload_n 1 dX5_hasRoom_17 rfl ?_
      obtain ⟨c8, ht5⟩ := chk_some ht5
      refine g_isub dX5_hasRoom_18 rfl c8 ?_
      refine g_icmp_gt (tgt := 26) dX5_hasRoom_19 (by decide) (fun b9 => ?_) (fun b9 => ?_)
      · replace ht5 := ifp b9 ht5
        refine g_iconst (v := 0) dX5_hasRoom_26 rfl (i32l rfl) ?_
        cases ht5
        exact g_sub [] rfl Kt5
      · replace ht5 := ifn b9 ht5
        refine g_pc (pc' := 22) rfl ?_
        refine g_iconst (v := 1) dX5_hasRoom_22 rfl (i32l rfl) ?_
        refine g_goto (tgt := 27) dX5_hasRoom_23 (by decide) ?_
        cases ht5
        exact g_sub [] rfl Kt5
def fX6_sign (x0 : Nat) (M : Mem) : Option (Int × Mem) := Option.bind ((if (M x0 6) < 0 then some ((-1)) else (if (M x0 0) ≤ (M x0 6) then some ((-1)) else if 0 ≤ (M x0 6) ∧ (M x0 6) < 100 then some ((M (x0 + 2) (Int.toNat (M x0 6)))) else none)) : Option (Int)) (fun t4 => some (t4, M))
set_option maxRecDepth 20000 in
theorem kX6_sign {X : XC} {d : Nat} {x0 : Nat} (hx0 : Sh x0 = (15, 8)) {M : Mem} {q : Int × Mem} (h : fX6_sign x0 M = some q) : Ct X mX6_sign d [XR x0] M (pI q) := by
  unfold fX6_sign at h
  refine ct_go (by decide +kernel) (Nat.le_of_ble_eq_true rfl) (ls := [(0, XR x0)]) rfl ?_
  refine g_aload_n 0 dX6_sign_0 rfl ?_
  refine g_getI dX6_sign_1 flX6_31 (by decide) rfl hx0 ?_
  obtain ⟨t4, ht4, h⟩ := bnd_some h
  have Kt4 : Go X mX6_sign d 31 [] [XI t4] M (pI q) := by
    cases h
    exact g_ireturn dX6_sign_31 rfl ⟨rfl, rfl⟩
  refine g_if_lt (tgt := 30) dX6_sign_4 (by decide) (fun b5 => ?_) (fun b5 => ?_)
  · replace ht4 := ifp b5 ht4
    refine g_iconst (v := -1) dX6_sign_30 rfl (i32l rfl) ?_
    cases ht4
    exact g_sub [] rfl Kt4
  · replace ht4 := ifn b5 ht4
    refine g_pc (pc' := 7) rfl ?_
    refine g_aload_n 0 dX6_sign_7 rfl ?_
    refine g_getI dX6_sign_8 flX6_31 (by decide) rfl hx0 ?_
    refine g_aload_n 0 dX6_sign_11 rfl ?_
    refine g_getI dX6_sign_12 flX6_9 (by decide) rfl hx0 ?_
    refine g_icmp_ge (tgt := 30) dX6_sign_15 (by decide) (fun b6 => ?_) (fun b6 => ?_)
    · replace ht4 := ifp b6 ht4
      refine g_iconst (v := -1) dX6_sign_30 rfl (i32l rfl) ?_
      cases ht4
      exact g_sub [] rfl Kt4
    · replace ht4 := ifn b6 ht4
      refine g_pc (pc' := 18) rfl ?_
      refine g_aload_n 0 dX6_sign_18 rfl ?_
      refine g_getR dX6_sign_19 flX6_15 (by decide) rfl hx0 ?_
      refine g_aload_n 0 dX6_sign_22 rfl ?_
      refine g_getI dX6_sign_23 flX6_31 (by decide) rfl hx0 ?_
      obtain ⟨c7, ht4⟩ := chk_some ht4
      refine g_iald dX6_sign_26 (sf_5_1 hx0) c7.1 c7.2 ?_
      refine g_goto (tgt := 31) dX6_sign_27 (by decide) ?_
      cases ht4
      exact g_sub [] rfl Kt4
def fX6_number_l4 (x0 : Nat) (x1 : Int) : Nat → Int → Int → Mem → Option (Int × Int × Mem)
  | 0, _, _, _ => none
  | n + 1, x2, x3, M => (if x1 ≤ x3 then some (x2, x3, M) else Option.bind (fX6_sign x0 M) (fun q2 => (if q2.1 < 48 then some (x2, x3, q2.2) else Option.bind (fX6_sign x0 q2.2) (fun q4 => (if 57 < q4.1 then some (x2, x3, q4.2) else if -2147483648 ≤ (x2 * 10) ∧ (x2 * 10) ≤ 2147483647 then Option.bind (fX6_sign x0 q4.2) (fun q7 => if -2147483648 ≤ ((x2 * 10) + q7.1) ∧ ((x2 * 10) + q7.1) ≤ 2147483647 then if -2147483648 ≤ (((x2 * 10) + q7.1) - 48) ∧ (((x2 * 10) + q7.1) - 48) ≤ 2147483647 then nm ((((x2 * 10) + q7.1) - 48)) (fun v10 => if -2147483648 ≤ ((q7.2 x0 6) + 1) ∧ ((q7.2 x0 6) + 1) ≤ 2147483647 then nm (wr q7.2 x0 6 ((q7.2 x0 6) + 1)) (fun M12 => if -2147483648 ≤ (x3 + 1) ∧ (x3 + 1) ≤ 2147483647 then fX6_number_l4 x0 x1 n v10 (x3 + 1) M12 else none) else none) else none else none) else none)))))
def fX6_number (x0 : Nat) (x1 : Int) (M : Mem) : Option (Int × Mem) := Option.bind (fX6_number_l4 x0 x1 1000 0 0 M) (fun z14 => Option.bind ((if z14.2.1 = 0 then some (1) else some (0)) : Option (Int)) (fun t16 => if t16 = 0 ∨ t16 = 1 then nm (wr z14.2.2 x0 7 t16) (fun M19 => some (z14.1, M19)) else none))
set_option maxRecDepth 20000 in
theorem lX6_number_l4 {X : XC} {d : Nat} {Post : Option XV → Mem → Prop} {x0 : Nat} {x1 : Int} (hx0 : Sh x0 = (15, 8)) : ∀ (n : Nat) (x2 x3 : Int) (M : Mem) (t0 : Int × Int × Mem), fX6_number_l4 x0 x1 n x2 x3 M = some t0 → Go X mX6_number (d + 1) 56 [(0, XR x0), (2, XI t0.1), (3, XI t0.2.1)] [] t0.2.2 Post → Go X mX6_number (d + 1) 4 [(0, XR x0), (1, XI x1), (2, XI x2), (3, XI x3)] [] M Post := by
  intro n
  induction n with
  | zero => intro _ _ _ _ h; cases h
  | succ n ih =>
    intro x2 x3 M t0 h K
    unfold fX6_number_l4 at h
    refine g_iload_n 3 dX6_number_4 rfl ?_
    refine g_iload_n 1 dX6_number_5 rfl ?_
    refine g_icmp_ge (tgt := 56) dX6_number_6 (by decide) (fun b1 => ?_) (fun b1 => ?_)
    · replace h := ifp b1 h
      cases h
      exact g_sub [0, 2, 3] rfl K
    · replace h := ifn b1 h
      refine g_pc (pc' := 9) rfl ?_
      refine g_aload_n 0 dX6_number_9 rfl ?_
      obtain ⟨q2, hq2, h⟩ := bnd_some h
      refine v_I (ci := 5) (as := []) dX6_number_10 mlX6_51 mdX6_sign mvX6_sign rfl hx0 rfl (Nat.le_of_ble_eq_true rfl) (kX6_sign hx0 hq2) rfl ?_
      refine g_bip dX6_number_13 rfl ?_
      refine g_icmp_lt (tgt := 56) dX6_number_15 (by decide) (fun b3 => ?_) (fun b3 => ?_)
      · replace h := ifp b3 h
        cases h
        exact g_sub [0, 2, 3] rfl K
      · replace h := ifn b3 h
        refine g_pc (pc' := 18) rfl ?_
        refine g_aload_n 0 dX6_number_18 rfl ?_
        obtain ⟨q4, hq4, h⟩ := bnd_some h
        refine v_I (ci := 5) (as := []) dX6_number_19 mlX6_51 mdX6_sign mvX6_sign rfl hx0 rfl (Nat.le_of_ble_eq_true rfl) (kX6_sign hx0 hq4) rfl ?_
        refine g_bip dX6_number_22 rfl ?_
        refine g_icmp_gt (tgt := 56) dX6_number_24 (by decide) (fun b5 => ?_) (fun b5 => ?_)
        · replace h := ifp b5 h
          cases h
          exact g_sub [0, 2, 3] rfl K
        · replace h := ifn b5 h
          refine g_pc (pc' := 27) rfl ?_
          refine g_iload_n 2 dX6_number_27 rfl ?_
          refine g_bip dX6_number_28 rfl ?_
          obtain ⟨c6, h⟩ := chk_some h
          refine g_imul dX6_number_30 rfl c6 ?_
          refine g_aload_n 0 dX6_number_31 rfl ?_
          obtain ⟨q7, hq7, h⟩ := bnd_some h
          refine v_I (ci := 5) (as := []) dX6_number_32 mlX6_51 mdX6_sign mvX6_sign rfl hx0 rfl (Nat.le_of_ble_eq_true rfl) (kX6_sign hx0 hq7) rfl ?_
          obtain ⟨c8, h⟩ := chk_some h
          refine g_iadd dX6_number_35 rfl c8 ?_
          refine g_bip dX6_number_36 rfl ?_
          obtain ⟨c9, h⟩ := chk_some h
          refine g_isub dX6_number_38 rfl c9 ?_
          refine g_pc (pc' := 39) rfl ?_
          refine g_nmI (fun v10 ev10 => ?_)
          replace h := nm_s ev10 h
          refine g_istore_n (ls' := [(2, XI v10), (0, XR x0), (1, XI x1), (3, XI x3)]) dX6_number_39 (by decide) rfl ?_
          refine g_aload_n 1 dX6_number_40 rfl ?_
          refine g_dupR dX6_number_41 ?_
          refine g_getI dX6_number_42 flX6_31 (by decide) rfl hx0 ?_
          refine g_iconst (v := 1) dX6_number_45 rfl (i32l rfl) ?_
          obtain ⟨c11, h⟩ := chk_some h
          refine g_iadd dX6_number_46 rfl c11 ?_
          refine g_putI dX6_number_47 flX6_31 (by decide) rfl hx0 ?_
          refine g_nmM (fun M12 eM12 => ?_)
          replace h := nm_s eM12 h
          obtain ⟨c13, h⟩ := chk_some h
          refine g_iinc (ls' := [(3, XI (x3 + 1)), (2, XI v10), (0, XR x0), (1, XI x1)]) 3 dX6_number_50 rfl rfl c13 (by decide) rfl ?_
          refine g_goto (tgt := 4) dX6_number_53 (by decide) ?_
          exact g_sub [2, 3, 1, 0] rfl (ih _ _ _ _ h K)
set_option maxRecDepth 20000 in
theorem kX6_number {X : XC} {d : Nat} {x0 : Nat} {x1 : Int} (hx0 : Sh x0 = (15, 8)) {M : Mem} {q : Int × Mem} (h : fX6_number x0 x1 M = some q) : Ct X mX6_number (d + 1) [XR x0, XI x1] M (pI q) := by
  unfold fX6_number at h
  refine ct_go (by decide +kernel) (Nat.le_of_ble_eq_true rfl) (ls := [(0, XR x0), (1, XI x1)]) rfl ?_
  refine g_iconst (v := 0) dX6_number_0 rfl (i32l rfl) ?_
  refine g_istore_n (ls' := [(2, XI 0), (0, XR x0), (1, XI x1)]) dX6_number_1 (by decide) rfl ?_
  refine g_iconst (v := 0) dX6_number_2 rfl (i32l rfl) ?_
  refine g_istore_n (ls' := [(3, XI 0), (2, XI 0), (0, XR x0), (1, XI x1)]) dX6_number_3 (by decide) rfl ?_
  obtain ⟨z14, hz14, h⟩ := bnd_some h
  refine g_sub (ls' := [(0, XR x0), (1, XI x1), (2, XI 0), (3, XI 0)]) [2, 3, 1, 0] rfl ?_
  refine lX6_number_l4 hx0 1000 _ _ _ _ hz14 ?_
  refine g_aload_n 0 dX6_number_56 rfl ?_
  refine g_iload_n 2 dX6_number_57 rfl ?_
  obtain ⟨t16, ht16, h⟩ := bnd_some h
  have Kt16 : Go X mX6_number (d + 1) 66 [(2, XI z14.1)] [XI t16, XR x0] z14.2.2 (pI q) := by
    obtain ⟨c18, h⟩ := chk_some h
    refine g_putZ dX6_number_66 flX6_34 (by decide) rfl hx0 c18 ?_
    refine g_nmM (fun M19 eM19 => ?_)
    replace h := nm_s eM19 h
    refine g_iload_n 0 dX6_number_69 rfl ?_
    cases h
    exact g_ireturn dX6_number_70 rfl ⟨rfl, rfl⟩
  refine g_if_ne (tgt := 65) dX6_number_58 (by decide) (fun b17 => ?_) (fun b17 => ?_)
  · replace ht16 := ifn b17 ht16
    refine g_iconst (v := 0) dX6_number_65 rfl (i32l rfl) ?_
    cases ht16
    exact g_sub [1] rfl Kt16
  · replace ht16 := ifp b17 ht16
    refine g_pc (pc' := 61) rfl ?_
    refine g_iconst (v := 1) dX6_number_61 rfl (i32l rfl) ?_
    refine g_goto (tgt := 66) dX6_number_62 (by decide) ?_
    cases ht16
    exact g_sub [1] rfl Kt16
def fX6_readsBallot (x0 : Nat) (x1 : Int) (M : Mem) : Option (Int × Mem) := Option.bind (fX6_number x0 8 M) (fun q1 => if 0 ≤ x1 ∧ x1 < 12 then nm (wr q1.2 (x0 + 5) (Int.toNat x1) q1.1) (fun M3 => (if (M3 x0 7) = 0 then Option.bind (fX6_sign x0 M3) (fun q5 => (if q5.1 = 42 then if -2147483648 ≤ ((q5.2 x0 6) + 1) ∧ ((q5.2 x0 6) + 1) ≤ 2147483647 then nm (wr q5.2 x0 6 ((q5.2 x0 6) + 1)) (fun M8 => Option.bind (fX6_number x0 7 M8) (fun q9 => if 0 ≤ x1 ∧ x1 < 12 then nm (wr q9.2 (x0 + 6) (Int.toNat x1) q9.1) (fun M11 => Option.bind ((if (M11 x0 7) = 0 then some (1) else some (0)) : Option (Int)) (fun t13 => if t13 = 0 ∨ t13 = 1 then some (t13, M11) else none)) else none)) else none else some (0, q5.2))) else some (0, M3))) else none)
set_option maxRecDepth 20000 in
theorem kX6_readsBallot {X : XC} {d : Nat} {x0 : Nat} {x1 : Int} (hx0 : Sh x0 = (15, 8)) {M : Mem} {q : Int × Mem} (h : fX6_readsBallot x0 x1 M = some q) : Ct X mX6_readsBallot (d + 2) [XR x0, XI x1] M (pI q) := by
  unfold fX6_readsBallot at h
  refine ct_go (by decide +kernel) (Nat.le_of_ble_eq_true rfl) (ls := [(0, XR x0), (1, XI x1)]) rfl ?_
  refine g_aload_n 0 dX6_readsBallot_0 rfl ?_
  refine g_getR dX6_readsBallot_1 flX6_25 (by decide) rfl hx0 ?_
  refine g_iload_n 1 dX6_readsBallot_4 rfl ?_
  refine g_aload_n 0 dX6_readsBallot_5 rfl ?_
  refine g_bip dX6_readsBallot_6 rfl ?_
  obtain ⟨q1, hq1, h⟩ := bnd_some h
  refine v_I (ci := 5) (as := [XI 8]) dX6_readsBallot_8 mlX6_58 mdX6_number mvX6_number rfl hx0 rfl (Nat.le_of_ble_eq_true rfl) (kX6_number hx0 hq1) rfl ?_
  obtain ⟨c2, h⟩ := chk_some h
  refine g_iast dX6_readsBallot_11 (sf_5_4 hx0) c2.1 c2.2 ?_
  refine g_nmM (fun M3 eM3 => ?_)
  replace h := nm_s eM3 h
  refine g_aload_n 0 dX6_readsBallot_12 rfl ?_
  refine g_pc (pc' := 13) rfl ?_
  refine g_getZ dX6_readsBallot_13 flX6_34 (by decide) rfl hx0 ?_
  refine g_if_ne (tgt := 28) dX6_readsBallot_16 (by decide) (fun b4 => ?_) (fun b4 => ?_)
  · replace h := ifn b4 h
    refine g_iconst (v := 0) dX6_readsBallot_28 rfl (i32l rfl) ?_
    cases h
    exact g_zreturn dX6_readsBallot_29 rfl (by decide) ⟨rfl, rfl⟩
  · replace h := ifp b4 h
    refine g_pc (pc' := 19) rfl ?_
    refine g_aload_n 0 dX6_readsBallot_19 rfl ?_
    obtain ⟨q5, hq5, h⟩ := bnd_some h
    refine v_I (ci := 5) (as := []) dX6_readsBallot_20 mlX6_51 mdX6_sign mvX6_sign rfl hx0 rfl (Nat.le_of_ble_eq_true rfl) (kX6_sign hx0 hq5) rfl ?_
    refine g_bip dX6_readsBallot_23 rfl ?_
    refine g_icmp_eq (tgt := 30) dX6_readsBallot_25 (by decide) (fun b6 => ?_) (fun b6 => ?_)
    · replace h := ifp b6 h
      refine g_aload_n 0 dX6_readsBallot_30 rfl ?_
      refine g_dupR dX6_readsBallot_31 ?_
      refine g_getI dX6_readsBallot_32 flX6_31 (by decide) rfl hx0 ?_
      refine g_iconst (v := 1) dX6_readsBallot_35 rfl (i32l rfl) ?_
      obtain ⟨c7, h⟩ := chk_some h
      refine g_iadd dX6_readsBallot_36 rfl c7 ?_
      refine g_putI dX6_readsBallot_37 flX6_31 (by decide) rfl hx0 ?_
      refine g_nmM (fun M8 eM8 => ?_)
      replace h := nm_s eM8 h
      refine g_aload_n 0 dX6_readsBallot_40 rfl ?_
      refine g_getR dX6_readsBallot_41 flX6_28 (by decide) rfl hx0 ?_
      refine g_pc (pc' := 44) rfl ?_
      refine g_iload_n 1 dX6_readsBallot_44 rfl ?_
      refine g_aload_n 0 dX6_readsBallot_45 rfl ?_
      refine g_bip dX6_readsBallot_46 rfl ?_
      obtain ⟨q9, hq9, h⟩ := bnd_some h
      refine v_I (ci := 5) (as := [XI 7]) dX6_readsBallot_48 mlX6_58 mdX6_number mvX6_number rfl hx0 rfl (Nat.le_of_ble_eq_true rfl) (kX6_number hx0 hq9) rfl ?_
      obtain ⟨c10, h⟩ := chk_some h
      refine g_iast dX6_readsBallot_51 (sf_5_5 hx0) c10.1 c10.2 ?_
      refine g_nmM (fun M11 eM11 => ?_)
      replace h := nm_s eM11 h
      refine g_aload_n 0 dX6_readsBallot_52 rfl ?_
      refine g_getZ dX6_readsBallot_53 flX6_34 (by decide) rfl hx0 ?_
      obtain ⟨t13, ht13, h⟩ := bnd_some h
      have Kt13 : Go X mX6_readsBallot (d + 2) 64 [] [XI t13] M11 (pI q) := by
        obtain ⟨cz, h⟩ := chk_some h
        cases h
        exact g_zreturn dX6_readsBallot_64 rfl cz ⟨rfl, rfl⟩
      refine g_if_ne (tgt := 63) dX6_readsBallot_56 (by decide) (fun b14 => ?_) (fun b14 => ?_)
      · replace ht13 := ifn b14 ht13
        refine g_iconst (v := 0) dX6_readsBallot_63 rfl (i32l rfl) ?_
        cases ht13
        exact g_sub [] rfl Kt13
      · replace ht13 := ifp b14 ht13
        refine g_pc (pc' := 59) rfl ?_
        refine g_iconst (v := 1) dX6_readsBallot_59 rfl (i32l rfl) ?_
        refine g_goto (tgt := 64) dX6_readsBallot_60 (by decide) ?_
        cases ht13
        exact g_sub [] rfl Kt13
    · replace h := ifn b6 h
      refine g_pc (pc' := 28) rfl ?_
      refine g_iconst (v := 0) dX6_readsBallot_28 rfl (i32l rfl) ?_
      cases h
      exact g_zreturn dX6_readsBallot_29 rfl (by decide) ⟨rfl, rfl⟩
def fX6_readsClause (x0 : Nat) (x1 : Int) (M : Mem) : Option (Int × Mem) := nm (wr M x0 7 0) (fun M1 => Option.bind (fX6_sign x0 M1) (fun q2 => if 0 ≤ x1 ∧ x1 < 12 then nm (wr q2.2 (x0 + 4) (Int.toNat x1) q2.1) (fun M4 => Option.bind (fX6_sign x0 M4) (fun q5 => (if q5.1 = 98 then if -2147483648 ≤ ((q5.2 x0 6) + 1) ∧ ((q5.2 x0 6) + 1) ≤ 2147483647 then nm (wr q5.2 x0 6 ((q5.2 x0 6) + 1)) (fun M8 => Option.bind (fX6_readsBallot x0 x1 M8) (fun q9 => if q9.1 = 0 ∨ q9.1 = 1 then some (q9.1, q9.2) else none)) else none else if q5.1 = 99 then if -2147483648 ≤ ((q5.2 x0 6) + 1) ∧ ((q5.2 x0 6) + 1) ≤ 2147483647 then nm (wr q5.2 x0 6 ((q5.2 x0 6) + 1)) (fun M12 => some (1, M12)) else none else if q5.1 = 103 then if -2147483648 ≤ ((q5.2 x0 6) + 1) ∧ ((q5.2 x0 6) + 1) ≤ 2147483647 then nm (wr q5.2 x0 6 ((q5.2 x0 6) + 1)) (fun M15 => Option.bind (fX6_number x0 1 M15) (fun q16 => if 0 ≤ x1 ∧ x1 < 12 then nm (wr q16.2 (x0 + 5) (Int.toNat x1) q16.1) (fun M18 => Option.bind ((if (M18 x0 7) = 0 then some (1) else some (0)) : Option (Int)) (fun t20 => if t20 = 0 ∨ t20 = 1 then some (t20, M18) else none)) else none)) else none else if q5.1 = 108 then if -2147483648 ≤ ((q5.2 x0 6) + 1) ∧ ((q5.2 x0 6) + 1) ≤ 2147483647 then nm (wr q5.2 x0 6 ((q5.2 x0 6) + 1)) (fun M24 => Option.bind (fX6_number x0 9 M24) (fun q25 => if 0 ≤ x1 ∧ x1 < 12 then nm (wr q25.2 (x0 + 5) (Int.toNat x1) q25.1) (fun M27 => Option.bind ((if (M27 x0 7) = 0 then some (1) else some (0)) : Option (Int)) (fun t29 => if t29 = 0 ∨ t29 = 1 then some (t29, M27) else none)) else none)) else none else if q5.1 = 115 then if -2147483648 ≤ ((q5.2 x0 6) + 1) ∧ ((q5.2 x0 6) + 1) ≤ 2147483647 then nm (wr q5.2 x0 6 ((q5.2 x0 6) + 1)) (fun M33 => Option.bind (fX6_number x0 1 M33) (fun q34 => if 0 ≤ x1 ∧ x1 < 12 then nm (wr q34.2 (x0 + 5) (Int.toNat x1) q34.1) (fun M36 => Option.bind ((if (M36 x0 7) = 0 then some (1) else some (0)) : Option (Int)) (fun t38 => if t38 = 0 ∨ t38 = 1 then some (t38, M36) else none)) else none)) else none else some (0, q5.2)))) else none))
set_option maxRecDepth 20000 in
theorem kX6_readsClause {X : XC} {d : Nat} {x0 : Nat} {x1 : Int} (hx0 : Sh x0 = (15, 8)) {M : Mem} {q : Int × Mem} (h : fX6_readsClause x0 x1 M = some q) : Ct X mX6_readsClause (d + 3) [XR x0, XI x1] M (pI q) := by
  unfold fX6_readsClause at h
  refine ct_go (by decide +kernel) (Nat.le_of_ble_eq_true rfl) (ls := [(0, XR x0), (1, XI x1)]) rfl ?_
  refine g_aload_n 0 dX6_readsClause_0 rfl ?_
  refine g_iconst (v := 0) dX6_readsClause_1 rfl (i32l rfl) ?_
  refine g_putZ dX6_readsClause_2 flX6_34 (by decide) rfl hx0 (by decide) ?_
  refine g_nmM (fun M1 eM1 => ?_)
  replace h := nm_s eM1 h
  refine g_aload_n 0 dX6_readsClause_5 rfl ?_
  refine g_getR dX6_readsClause_6 flX6_22 (by decide) rfl hx0 ?_
  refine g_iload_n 1 dX6_readsClause_9 rfl ?_
  refine g_aload_n 0 dX6_readsClause_10 rfl ?_
  obtain ⟨q2, hq2, h⟩ := bnd_some h
  refine v_I (ci := 5) (as := []) dX6_readsClause_11 mlX6_51 mdX6_sign mvX6_sign rfl hx0 rfl (Nat.le_of_ble_eq_true rfl) (kX6_sign hx0 hq2) rfl ?_
  refine g_pc (pc' := 14) rfl ?_
  obtain ⟨c3, h⟩ := chk_some h
  refine g_iast dX6_readsClause_14 (sf_5_3 hx0) c3.1 c3.2 ?_
  refine g_nmM (fun M4 eM4 => ?_)
  replace h := nm_s eM4 h
  refine g_aload_n 0 dX6_readsClause_15 rfl ?_
  obtain ⟨q5, hq5, h⟩ := bnd_some h
  refine v_I (ci := 5) (as := []) dX6_readsClause_16 mlX6_51 mdX6_sign mvX6_sign rfl hx0 rfl (Nat.le_of_ble_eq_true rfl) (kX6_sign hx0 hq5) rfl ?_
  by_cases b6 : q5.1 = 98
  · replace h := ifp b6 h
    refine g_lsw (off := 61) (tgt := 80) dX6_readsClause_19 (by decide) (by rw [b6]; rfl) (by decide) ?_
    refine g_aload_n 0 dX6_readsClause_80 rfl ?_
    refine g_dupR dX6_readsClause_81 ?_
    refine g_getI dX6_readsClause_82 flX6_31 (by decide) rfl hx0 ?_
    refine g_iconst (v := 1) dX6_readsClause_85 rfl (i32l rfl) ?_
    obtain ⟨c7, h⟩ := chk_some h
    refine g_iadd dX6_readsClause_86 rfl c7 ?_
    refine g_putI dX6_readsClause_87 flX6_31 (by decide) rfl hx0 ?_
    refine g_nmM (fun M8 eM8 => ?_)
    replace h := nm_s eM8 h
    refine g_aload_n 0 dX6_readsClause_90 rfl ?_
    refine g_iload_n 1 dX6_readsClause_91 rfl ?_
    refine g_pc (pc' := 92) rfl ?_
    obtain ⟨q9, hq9, h⟩ := bnd_some h
    refine v_I (ci := 5) (as := [XI x1]) dX6_readsClause_92 mlX6_55 mdX6_readsBallot mvX6_readsBallot rfl hx0 rfl (Nat.le_of_ble_eq_true rfl) (kX6_readsBallot hx0 hq9) rfl ?_
    obtain ⟨cz, h⟩ := chk_some h
    cases h
    exact g_zreturn dX6_readsClause_95 rfl cz ⟨rfl, rfl⟩
  · replace h := ifn b6 h
    by_cases b10 : q5.1 = 99
    · replace h := ifp b10 h
      refine g_lsw (off := 49) (tgt := 68) dX6_readsClause_19 (by decide) (by rw [b10]; rfl) (by decide) ?_
      refine g_aload_n 0 dX6_readsClause_68 rfl ?_
      refine g_dupR dX6_readsClause_69 ?_
      refine g_getI dX6_readsClause_70 flX6_31 (by decide) rfl hx0 ?_
      refine g_iconst (v := 1) dX6_readsClause_73 rfl (i32l rfl) ?_
      obtain ⟨c11, h⟩ := chk_some h
      refine g_iadd dX6_readsClause_74 rfl c11 ?_
      refine g_putI dX6_readsClause_75 flX6_31 (by decide) rfl hx0 ?_
      refine g_nmM (fun M12 eM12 => ?_)
      replace h := nm_s eM12 h
      refine g_iconst (v := 1) dX6_readsClause_78 rfl (i32l rfl) ?_
      cases h
      exact g_zreturn dX6_readsClause_79 rfl (by decide) ⟨rfl, rfl⟩
    · replace h := ifn b10 h
      by_cases b13 : q5.1 = 103
      · replace h := ifp b13 h
        refine g_lsw (off := 77) (tgt := 96) dX6_readsClause_19 (by decide) (by rw [b13]; rfl) (by decide) ?_
        refine g_aload_n 0 dX6_readsClause_96 rfl ?_
        refine g_dupR dX6_readsClause_97 ?_
        refine g_getI dX6_readsClause_98 flX6_31 (by decide) rfl hx0 ?_
        refine g_iconst (v := 1) dX6_readsClause_101 rfl (i32l rfl) ?_
        obtain ⟨c14, h⟩ := chk_some h
        refine g_iadd dX6_readsClause_102 rfl c14 ?_
        refine g_putI dX6_readsClause_103 flX6_31 (by decide) rfl hx0 ?_
        refine g_nmM (fun M15 eM15 => ?_)
        replace h := nm_s eM15 h
        refine g_aload_n 0 dX6_readsClause_106 rfl ?_
        refine g_getR dX6_readsClause_107 flX6_25 (by decide) rfl hx0 ?_
        refine g_pc (pc' := 110) rfl ?_
        refine g_iload_n 1 dX6_readsClause_110 rfl ?_
        refine g_aload_n 0 dX6_readsClause_111 rfl ?_
        refine g_iconst (v := 1) dX6_readsClause_112 rfl (i32l rfl) ?_
        obtain ⟨q16, hq16, h⟩ := bnd_some h
        refine v_I (ci := 5) (as := [XI 1]) dX6_readsClause_113 mlX6_58 mdX6_number mvX6_number rfl hx0 rfl (Nat.le_of_ble_eq_true rfl) (kX6_number hx0 hq16) rfl ?_
        obtain ⟨c17, h⟩ := chk_some h
        refine g_iast dX6_readsClause_116 (sf_5_4 hx0) c17.1 c17.2 ?_
        refine g_nmM (fun M18 eM18 => ?_)
        replace h := nm_s eM18 h
        refine g_aload_n 0 dX6_readsClause_117 rfl ?_
        refine g_getZ dX6_readsClause_118 flX6_34 (by decide) rfl hx0 ?_
        obtain ⟨t20, ht20, h⟩ := bnd_some h
        have Kt20 : Go X mX6_readsClause (d + 3) 129 [] [XI t20] M18 (pI q) := by
          obtain ⟨cz, h⟩ := chk_some h
          cases h
          exact g_zreturn dX6_readsClause_129 rfl cz ⟨rfl, rfl⟩
        refine g_if_ne (tgt := 128) dX6_readsClause_121 (by decide) (fun b21 => ?_) (fun b21 => ?_)
        · replace ht20 := ifn b21 ht20
          refine g_iconst (v := 0) dX6_readsClause_128 rfl (i32l rfl) ?_
          cases ht20
          exact g_sub [] rfl Kt20
        · replace ht20 := ifp b21 ht20
          refine g_pc (pc' := 124) rfl ?_
          refine g_iconst (v := 1) dX6_readsClause_124 rfl (i32l rfl) ?_
          refine g_goto (tgt := 129) dX6_readsClause_125 (by decide) ?_
          cases ht20
          exact g_sub [] rfl Kt20
      · replace h := ifn b13 h
        by_cases b22 : q5.1 = 108
        · replace h := ifp b22 h
          refine g_lsw (off := 111) (tgt := 130) dX6_readsClause_19 (by decide) (by rw [b22]; rfl) (by decide) ?_
          refine g_aload_n 0 dX6_readsClause_130 rfl ?_
          refine g_dupR dX6_readsClause_131 ?_
          refine g_getI dX6_readsClause_132 flX6_31 (by decide) rfl hx0 ?_
          refine g_iconst (v := 1) dX6_readsClause_135 rfl (i32l rfl) ?_
          obtain ⟨c23, h⟩ := chk_some h
          refine g_iadd dX6_readsClause_136 rfl c23 ?_
          refine g_putI dX6_readsClause_137 flX6_31 (by decide) rfl hx0 ?_
          refine g_nmM (fun M24 eM24 => ?_)
          replace h := nm_s eM24 h
          refine g_aload_n 0 dX6_readsClause_140 rfl ?_
          refine g_getR dX6_readsClause_141 flX6_25 (by decide) rfl hx0 ?_
          refine g_pc (pc' := 144) rfl ?_
          refine g_iload_n 1 dX6_readsClause_144 rfl ?_
          refine g_aload_n 0 dX6_readsClause_145 rfl ?_
          refine g_bip dX6_readsClause_146 rfl ?_
          obtain ⟨q25, hq25, h⟩ := bnd_some h
          refine v_I (ci := 5) (as := [XI 9]) dX6_readsClause_148 mlX6_58 mdX6_number mvX6_number rfl hx0 rfl (Nat.le_of_ble_eq_true rfl) (kX6_number hx0 hq25) rfl ?_
          obtain ⟨c26, h⟩ := chk_some h
          refine g_iast dX6_readsClause_151 (sf_5_4 hx0) c26.1 c26.2 ?_
          refine g_nmM (fun M27 eM27 => ?_)
          replace h := nm_s eM27 h
          refine g_aload_n 0 dX6_readsClause_152 rfl ?_
          refine g_getZ dX6_readsClause_153 flX6_34 (by decide) rfl hx0 ?_
          obtain ⟨t29, ht29, h⟩ := bnd_some h
          have Kt29 : Go X mX6_readsClause (d + 3) 164 [] [XI t29] M27 (pI q) := by
            obtain ⟨cz, h⟩ := chk_some h
            cases h
            exact g_zreturn dX6_readsClause_164 rfl cz ⟨rfl, rfl⟩
          refine g_if_ne (tgt := 163) dX6_readsClause_156 (by decide) (fun b30 => ?_) (fun b30 => ?_)
          · replace ht29 := ifn b30 ht29
            refine g_iconst (v := 0) dX6_readsClause_163 rfl (i32l rfl) ?_
            cases ht29
            exact g_sub [] rfl Kt29
          · replace ht29 := ifp b30 ht29
            refine g_pc (pc' := 159) rfl ?_
            refine g_iconst (v := 1) dX6_readsClause_159 rfl (i32l rfl) ?_
            refine g_goto (tgt := 164) dX6_readsClause_160 (by decide) ?_
            cases ht29
            exact g_sub [] rfl Kt29
        · replace h := ifn b22 h
          by_cases b31 : q5.1 = 115
          · replace h := ifp b31 h
            refine g_lsw (off := 77) (tgt := 96) dX6_readsClause_19 (by decide) (by rw [b31]; rfl) (by decide) ?_
            refine g_aload_n 0 dX6_readsClause_96 rfl ?_
            refine g_dupR dX6_readsClause_97 ?_
            refine g_getI dX6_readsClause_98 flX6_31 (by decide) rfl hx0 ?_
            refine g_iconst (v := 1) dX6_readsClause_101 rfl (i32l rfl) ?_
            obtain ⟨c32, h⟩ := chk_some h
            refine g_iadd dX6_readsClause_102 rfl c32 ?_
            refine g_putI dX6_readsClause_103 flX6_31 (by decide) rfl hx0 ?_
            refine g_nmM (fun M33 eM33 => ?_)
            replace h := nm_s eM33 h
            refine g_aload_n 0 dX6_readsClause_106 rfl ?_
            refine g_getR dX6_readsClause_107 flX6_25 (by decide) rfl hx0 ?_
            refine g_pc (pc' := 110) rfl ?_
            refine g_iload_n 1 dX6_readsClause_110 rfl ?_
            refine g_aload_n 0 dX6_readsClause_111 rfl ?_
            refine g_iconst (v := 1) dX6_readsClause_112 rfl (i32l rfl) ?_
            obtain ⟨q34, hq34, h⟩ := bnd_some h
            refine v_I (ci := 5) (as := [XI 1]) dX6_readsClause_113 mlX6_58 mdX6_number mvX6_number rfl hx0 rfl (Nat.le_of_ble_eq_true rfl) (kX6_number hx0 hq34) rfl ?_
            obtain ⟨c35, h⟩ := chk_some h
            refine g_iast dX6_readsClause_116 (sf_5_4 hx0) c35.1 c35.2 ?_
            refine g_nmM (fun M36 eM36 => ?_)
            replace h := nm_s eM36 h
            refine g_aload_n 0 dX6_readsClause_117 rfl ?_
            refine g_getZ dX6_readsClause_118 flX6_34 (by decide) rfl hx0 ?_
            obtain ⟨t38, ht38, h⟩ := bnd_some h
            have Kt38 : Go X mX6_readsClause (d + 3) 129 [] [XI t38] M36 (pI q) := by
              obtain ⟨cz, h⟩ := chk_some h
              cases h
              exact g_zreturn dX6_readsClause_129 rfl cz ⟨rfl, rfl⟩
            refine g_if_ne (tgt := 128) dX6_readsClause_121 (by decide) (fun b39 => ?_) (fun b39 => ?_)
            · replace ht38 := ifn b39 ht38
              refine g_iconst (v := 0) dX6_readsClause_128 rfl (i32l rfl) ?_
              cases ht38
              exact g_sub [] rfl Kt38
            · replace ht38 := ifp b39 ht38
              refine g_pc (pc' := 124) rfl ?_
              refine g_iconst (v := 1) dX6_readsClause_124 rfl (i32l rfl) ?_
              refine g_goto (tgt := 129) dX6_readsClause_125 (by decide) ?_
              cases ht38
              exact g_sub [] rfl Kt38
          · replace h := ifn b31 h
            refine g_lsw (off := 146) (tgt := 165) dX6_readsClause_19 (by decide) (by simp [Op.lookupswitch.offset, Ne.symm b6, b6, Ne.symm b10, b10, Ne.symm b13, b13, Ne.symm b22, b22, Ne.symm b31, b31]) (by decide) ?_
            refine g_iconst (v := 0) dX6_readsClause_165 rfl (i32l rfl) ?_
            cases h
            exact g_zreturn dX6_readsClause_166 rfl (by decide) ⟨rfl, rfl⟩
def fX7_addCause (x0 : Nat) (x1 : Int) (x2 : Int) (M : Mem) : Option (Int × Mem) := Option.bind ((if 3 ≤ (M x0 0) then some (M) else if 0 ≤ (M x0 0) ∧ (M x0 0) < 3 then nm (wr M (x0 + 2) (Int.toNat (M x0 0)) x1) (fun M11 => if 0 ≤ (M11 x0 0) ∧ (M11 x0 0) < 3 then nm (wr M11 (x0 + 3) (Int.toNat (M11 x0 0)) x2) (fun M13 => if -2147483648 ≤ ((M13 x0 0) + 1) ∧ ((M13 x0 0) + 1) ≤ 2147483647 then nm (wr M13 x0 0 ((M13 x0 0) + 1)) (fun M15 => some (M15)) else none) else none) else none) : Option (Mem)) (fun t8 => some (0, t8))
set_option maxRecDepth 20000 in
theorem kX7_addCause {X : XC} {d : Nat} {x0 : Nat} {x1 : Int} {x2 : Int} (hx0 : Sh x0 = (16, 3)) {M : Mem} {q : Int × Mem} (h : fX7_addCause x0 x1 x2 M = some q) : Ct X mX7_addCause d [XR x0, XI x1, XI x2] M (pV q) := by
  unfold fX7_addCause at h
  refine ct_go (by decide +kernel) (Nat.le_of_ble_eq_true rfl) (ls := [(0, XR x0), (1, XI x1), (2, XI x2)]) rfl ?_
  refine g_aload_n 0 dX7_addCause_0 rfl ?_
  refine g_getI dX7_addCause_1 flX7_7 (by decide) rfl hx0 ?_
  refine g_aload_n 0 dX7_addCause_4 rfl ?_
  refine g_getR dX7_addCause_5 flX7_13 (by decide) rfl hx0 ?_
  refine g_alenV 3 dX7_addCause_8 (sf_6_1 hx0) rfl rfl rfl ?_
  obtain ⟨t8, ht8, h⟩ := bnd_some h
  have Kt8 : Go X mX7_addCause d 42 [] [] t8 (pV q) := by
    cases h
    exact g_return dX7_addCause_42 rfl ⟨rfl, rfl⟩
  refine g_icmp_ge (tgt := 42) dX7_addCause_9 (by decide) (fun b9 => ?_) (fun b9 => ?_)
  · replace ht8 := ifp b9 ht8
    cases ht8
    exact g_sub [] rfl Kt8
  · replace ht8 := ifn b9 ht8
    refine g_pc (pc' := 12) rfl ?_
    refine g_aload_n 0 dX7_addCause_12 rfl ?_
    refine g_getR dX7_addCause_13 flX7_13 (by decide) rfl hx0 ?_
    refine g_aload_n 0 dX7_addCause_16 rfl ?_
    refine g_getI dX7_addCause_17 flX7_7 (by decide) rfl hx0 ?_
    refine g_iload_n 1 dX7_addCause_20 rfl ?_
    obtain ⟨c10, ht8⟩ := chk_some ht8
    refine g_iast dX7_addCause_21 (sf_6_1 hx0) c10.1 c10.2 ?_
    refine g_nmM (fun M11 eM11 => ?_)
    replace ht8 := nm_s eM11 ht8
    refine g_aload_n 0 dX7_addCause_22 rfl ?_
    refine g_getR dX7_addCause_23 flX7_17 (by decide) rfl hx0 ?_
    refine g_pc (pc' := 26) rfl ?_
    refine g_aload_n 0 dX7_addCause_26 rfl ?_
    refine g_getI dX7_addCause_27 flX7_7 (by decide) rfl hx0 ?_
    refine g_iload_n 2 dX7_addCause_30 rfl ?_
    obtain ⟨c12, ht8⟩ := chk_some ht8
    refine g_iast dX7_addCause_31 (sf_6_2 hx0) c12.1 c12.2 ?_
    refine g_nmM (fun M13 eM13 => ?_)
    replace ht8 := nm_s eM13 ht8
    refine g_aload_n 0 dX7_addCause_32 rfl ?_
    refine g_dupR dX7_addCause_33 ?_
    refine g_getI dX7_addCause_34 flX7_7 (by decide) rfl hx0 ?_
    refine g_iconst (v := 1) dX7_addCause_37 rfl (i32l rfl) ?_
    obtain ⟨c14, ht8⟩ := chk_some ht8
    refine g_iadd dX7_addCause_38 rfl c14 ?_
    refine g_pc (pc' := 39) rfl ?_
    refine g_putI dX7_addCause_39 flX7_7 (by decide) rfl hx0 ?_
    refine g_nmM (fun M15 eM15 => ?_)
    replace ht8 := nm_s eM15 ht8
    cases ht8
    exact g_sub [] rfl Kt8
def fX7_begin (x0 : Nat) (x1 : Int) (x2 : Int) (M : Mem) : Option (Int × Mem) := nm (wr M x0 0 0) (fun M1 => Option.bind (fX7_addCause x0 x1 x2 M1) (fun q2 => some (0, q2.2)))
set_option maxRecDepth 20000 in
theorem kX7_begin {X : XC} {d : Nat} {x0 : Nat} {x1 : Int} {x2 : Int} (hx0 : Sh x0 = (16, 3)) {M : Mem} {q : Int × Mem} (h : fX7_begin x0 x1 x2 M = some q) : Ct X mX7_begin (d + 1) [XR x0, XI x1, XI x2] M (pV q) := by
  unfold fX7_begin at h
  refine ct_go (by decide +kernel) (Nat.le_of_ble_eq_true rfl) (ls := [(0, XR x0), (1, XI x1), (2, XI x2)]) rfl ?_
  refine g_aload_n 0 dX7_begin_0 rfl ?_
  refine g_iconst (v := 0) dX7_begin_1 rfl (i32l rfl) ?_
  refine g_putI dX7_begin_2 flX7_7 (by decide) rfl hx0 ?_
  refine g_nmM (fun M1 eM1 => ?_)
  replace h := nm_s eM1 h
  refine g_aload_n 0 dX7_begin_5 rfl ?_
  refine g_iload_n 1 dX7_begin_6 rfl ?_
  refine g_iload_n 2 dX7_begin_7 rfl ?_
  obtain ⟨q2, hq2, h⟩ := bnd_some h
  refine v_V (ci := 6) (as := [XI x1, XI x2]) dX7_begin_8 mlX7_20 mdX7_addCause mvX7_addCause rfl hx0 rfl (Nat.le_of_ble_eq_true rfl) (kX7_addCause hx0 hq2) rfl ?_
  cases h
  exact g_return dX7_begin_11 rfl ⟨rfl, rfl⟩
end
