section
def fX9_raised_l33 (x0 : Nat) (x1 : Int) (x2 : Int) (x3 : Int) : Nat → Int → Int → Mem → Option (Int × Int × Mem)
  | 0, _, _, _ => none
  | n + 1, x4, x5, M => Option.bind (fX9_lengthOf x3 M) (fun q9 => (if q9.1 ≤ x5 then some (x4, x5, q9.2) else Option.bind (fX9_digitAt x3 x5 q9.2) (fun q11 => if -2147483648 ≤ (x2 + 1) ∧ (x2 + 1) ≤ 2147483647 then Option.bind ((if q11.1 = (x2 + 1) then some (x4, q11.2) else if -2147483648 ≤ (10 * x4) ∧ (10 * x4) ≤ 2147483647 then Option.bind (fX9_digitAt x3 x5 q11.2) (fun q21 => if -2147483648 ≤ ((10 * x4) + q21.1) ∧ ((10 * x4) + q21.1) ≤ 2147483647 then nm (((10 * x4) + q21.1)) (fun v23 => some (v23, q21.2)) else none) else none) : Option (Int × Mem)) (fun t18 => if -2147483648 ≤ (x5 + 1) ∧ (x5 + 1) ≤ 2147483647 then fX9_raised_l33 x0 x1 x2 x3 n t18.1 (x5 + 1) t18.2 else none) else none)))
def fX9_raised (x0 : Nat) (x1 : Int) (x2 : Int) (M : Mem) : Option (Int × Mem) := Option.bind (fX9_isBallot x0 x1 M) (fun q1 => (if q1.1 = 0 then some ((-1), q1.2) else Option.bind (fX9_isOne x0 x2 q1.2) (fun q3 => (if q3.1 = 0 then some ((-1), q3.2) else if 0 ≤ x1 ∧ x1 < 25 then nm ((q3.2 (x0 + 5) (Int.toNat x1))) (fun v6 => if -2147483648 ≤ (x2 + 1) ∧ (x2 + 1) ≤ 2147483647 then nm ((x2 + 1)) (fun v8 => Option.bind (fX9_raised_l33 x0 x1 x2 v6 1000 v8 0 q3.2) (fun z25 => if 0 ≤ x1 ∧ x1 < 25 then nm (wr z25.2.2 (x0 + 5) (Int.toNat x1) z25.1) (fun M27 => Option.bind (fX9_electedSet x0 M27) (fun q28 => nm (q28.1) (fun v29 => if 0 ≤ x1 ∧ x1 < 25 then nm (wr q28.2 (x0 + 5) (Int.toNat x1) v6) (fun M31 => some (v29, M31)) else none))) else none)) else none) else none))))
set_option maxRecDepth 20000 in
theorem lX9_raised_l33 {X : XC} {d : Nat} {Post : Option XV → Mem → Prop} {x0 : Nat} {x1 : Int} {x2 : Int} {x3 : Int} (hx0 : Sh x0 = (18, 69)) : ∀ (n : Nat) (x4 x5 : Int) (M : Mem) (t0 : Int × Int × Mem), fX9_raised_l33 x0 x1 x2 x3 n x4 x5 M = some t0 → Go X mX9_raised (d + 7) 74 [(0, XR x0), (1, XI x1), (3, XI x3), (4, XI t0.1)] [] t0.2.2 Post → Go X mX9_raised (d + 7) 33 [(0, XR x0), (1, XI x1), (2, XI x2), (3, XI x3), (4, XI x4), (5, XI x5)] [] M Post := by
  intro n
  induction n with
  | zero => intro _ _ _ _ h; cases h
  | succ n ih =>
    intro x4 x5 M t0 h K
    unfold fX9_raised_l33 at h
    refine g_iload 5 dX9_raised_33 rfl ?_
    refine g_iload_n 3 dX9_raised_35 rfl ?_
    obtain ⟨q9, hq9, h⟩ := bnd_some h
    refine s_I (as := [XI x3]) dX9_raised_36 mlX9_177 mdX9_lengthOf msX9_lengthOf rfl (Nat.le_of_ble_eq_true rfl) (kX9_lengthOf  hq9) rfl ?_
    refine g_icmp_ge (tgt := 74) dX9_raised_39 (by decide) (fun b10 => ?_) (fun b10 => ?_)
    · replace h := ifp b10 h
      cases h
      exact g_sub [0, 1, 3, 4] rfl K
    · replace h := ifn b10 h
      refine g_pc (pc' := 42) rfl ?_
      refine g_iload_n 3 dX9_raised_42 rfl ?_
      refine g_iload 5 dX9_raised_43 rfl ?_
      obtain ⟨q11, hq11, h⟩ := bnd_some h
      refine s_I (as := [XI x3, XI x5]) dX9_raised_45 mlX9_181 mdX9_digitAt msX9_digitAt rfl (Nat.le_of_ble_eq_true rfl) (kX9_digitAt  hq11) rfl ?_
      refine g_iload_n 2 dX9_raised_48 rfl ?_
      refine g_iconst (v := 1) dX9_raised_49 rfl (i32l rfl) ?_
      obtain ⟨c12, h⟩ := chk_some h
      refine g_iadd dX9_raised_50 rfl c12 ?_
      obtain ⟨t18, ht18, h⟩ := bnd_some h
      have Kt18 : Go X mX9_raised (d + 7) 68 [(0, XR x0), (1, XI x1), (2, XI x2), (3, XI x3), (4, XI t18.1), (5, XI x5)] [] t18.2 Post := by
        obtain ⟨c24, h⟩ := chk_some h
        refine g_iinc (ls' := [(5, XI (x5 + 1)), (0, XR x0), (1, XI x1), (2, XI x2), (3, XI x3), (4, XI t18.1)]) 5 dX9_raised_68 rfl rfl c24 (by decide) rfl ?_
        refine g_goto (tgt := 33) dX9_raised_71 (by decide) ?_
        exact g_sub [1, 2, 3, 4, 5, 0] rfl (ih _ _ _ _ h K)
      refine g_icmp_eq (tgt := 68) dX9_raised_51 (by decide) (fun b19 => ?_) (fun b19 => ?_)
      · replace ht18 := ifp b19 ht18
        cases ht18
        exact g_sub [0, 1, 2, 3, 4, 5] rfl Kt18
      · replace ht18 := ifn b19 ht18
        refine g_pc (pc' := 54) rfl ?_
        refine g_bip dX9_raised_54 rfl ?_
        refine g_iload 4 dX9_raised_56 rfl ?_
        obtain ⟨c20, ht18⟩ := chk_some ht18
        refine g_imul dX9_raised_58 rfl c20 ?_
        refine g_iload_n 3 dX9_raised_59 rfl ?_
        refine g_iload 5 dX9_raised_60 rfl ?_
        obtain ⟨q21, hq21, ht18⟩ := bnd_some ht18
        refine s_I (as := [XI x3, XI x5]) dX9_raised_62 mlX9_181 mdX9_digitAt msX9_digitAt rfl (Nat.le_of_ble_eq_true rfl) (kX9_digitAt  hq21) rfl ?_
        obtain ⟨c22, ht18⟩ := chk_some ht18
        refine g_iadd dX9_raised_65 rfl c22 ?_
        refine g_nmI (fun v23 ev23 => ?_)
        replace ht18 := nm_s ev23 ht18
        refine g_istore (ls' := [(4, XI v23), (0, XR x0), (1, XI x1), (2, XI x2), (3, XI x3), (5, XI x5)]) dX9_raised_66 (by decide) rfl ?_
        refine g_pc (pc' := 68) rfl ?_
        cases ht18
        exact g_sub [1, 2, 3, 4, 0, 5] rfl Kt18
set_option maxRecDepth 20000 in
theorem kX9_raised {X : XC} {d : Nat} {x0 : Nat} {x1 : Int} {x2 : Int} (hx0 : Sh x0 = (18, 69)) {M : Mem} {q : Int × Mem} (h : fX9_raised x0 x1 x2 M = some q) : Ct X mX9_raised (d + 7) [XR x0, XI x1, XI x2] M (pI q) := by
  unfold fX9_raised at h
  refine ct_go (by decide +kernel) (Nat.le_of_ble_eq_true rfl) (ls := [(0, XR x0), (1, XI x1), (2, XI x2)]) rfl ?_
  refine g_aload_n 0 dX9_raised_0 rfl ?_
  refine g_iload_n 1 dX9_raised_1 rfl ?_
  obtain ⟨q1, hq1, h⟩ := bnd_some h
  refine v_I (ci := 8) (as := [XI x1]) dX9_raised_2 mlX9_208 mdX9_isBallot mvX9_isBallot rfl hx0 rfl (Nat.le_of_ble_eq_true rfl) (kX9_isBallot hx0 hq1) rfl ?_
  refine g_if_eq (tgt := 16) dX9_raised_5 (by decide) (fun b2 => ?_) (fun b2 => ?_)
  · replace h := ifp b2 h
    refine g_iconst (v := -1) dX9_raised_16 rfl (i32l rfl) ?_
    cases h
    exact g_ireturn dX9_raised_17 rfl ⟨rfl, rfl⟩
  · replace h := ifn b2 h
    refine g_pc (pc' := 8) rfl ?_
    refine g_aload_n 0 dX9_raised_8 rfl ?_
    refine g_iload_n 2 dX9_raised_9 rfl ?_
    obtain ⟨q3, hq3, h⟩ := bnd_some h
    refine v_I (ci := 8) (as := [XI x2]) dX9_raised_10 mlX9_211 mdX9_isOne mvX9_isOne rfl hx0 rfl (Nat.le_of_ble_eq_true rfl) (kX9_isOne hx0 hq3) rfl ?_
    refine g_if_ne (tgt := 18) dX9_raised_13 (by decide) (fun b4 => ?_) (fun b4 => ?_)
    · replace h := ifn b4 h
      refine g_aload_n 0 dX9_raised_18 rfl ?_
      refine g_getR dX9_raised_19 flX9_19 (by decide) rfl hx0 ?_
      refine g_iload_n 1 dX9_raised_22 rfl ?_
      obtain ⟨c5, h⟩ := chk_some h
      refine g_iald dX9_raised_23 (sf_8_4 hx0) c5.1 c5.2 ?_
      refine g_nmI (fun v6 ev6 => ?_)
      replace h := nm_s ev6 h
      refine g_istore_n (ls' := [(3, XI v6), (0, XR x0), (1, XI x1), (2, XI x2)]) dX9_raised_24 (by decide) rfl ?_
      refine g_iload_n 3 dX9_raised_25 rfl ?_
      refine g_iconst (v := 1) dX9_raised_26 rfl (i32l rfl) ?_
      obtain ⟨c7, h⟩ := chk_some h
      refine g_iadd dX9_raised_27 rfl c7 ?_
      refine g_pc (pc' := 28) rfl ?_
      refine g_nmI (fun v8 ev8 => ?_)
      replace h := nm_s ev8 h
      refine g_istore (ls' := [(4, XI v8), (3, XI v6), (0, XR x0), (1, XI x1), (2, XI x2)]) dX9_raised_28 (by decide) rfl ?_
      refine g_iconst (v := 0) dX9_raised_30 rfl (i32l rfl) ?_
      refine g_istore (ls' := [(5, XI 0), (4, XI v8), (3, XI v6), (0, XR x0), (1, XI x1), (2, XI x2)]) dX9_raised_31 (by decide) rfl ?_
      obtain ⟨z25, hz25, h⟩ := bnd_some h
      refine g_sub (ls' := [(0, XR x0), (1, XI x1), (2, XI x2), (3, XI v6), (4, XI v8), (5, XI 0)]) [3, 4, 5, 2, 1, 0] rfl ?_
      refine lX9_raised_l33 hx0 1000 _ _ _ _ hz25 ?_
      refine g_aload_n 0 dX9_raised_74 rfl ?_
      refine g_getR dX9_raised_75 flX9_19 (by decide) rfl hx0 ?_
      refine g_iload_n 1 dX9_raised_78 rfl ?_
      refine g_iload 3 dX9_raised_79 rfl ?_
      obtain ⟨c26, h⟩ := chk_some h
      refine g_iast dX9_raised_81 (sf_8_4 hx0) c26.1 c26.2 ?_
      refine g_nmM (fun M27 eM27 => ?_)
      replace h := nm_s eM27 h
      refine g_aload_n 0 dX9_raised_82 rfl ?_
      obtain ⟨q28, hq28, h⟩ := bnd_some h
      refine v_I (ci := 8) (as := []) dX9_raised_83 mlX9_320 mdX9_electedSet mvX9_electedSet rfl hx0 rfl (Nat.le_of_ble_eq_true rfl) (kX9_electedSet hx0 hq28) rfl ?_
      refine g_nmI (fun v29 ev29 => ?_)
      replace h := nm_s ev29 h
      refine g_istore (ls' := [(5, XI v29), (0, XR x0), (1, XI x1), (3, XI v6), (4, XI z25.1)]) dX9_raised_86 (by decide) rfl ?_
      refine g_pc (pc' := 88) rfl ?_
      refine g_aload_n 1 dX9_raised_88 rfl ?_
      refine g_getR dX9_raised_89 flX9_19 (by decide) rfl hx0 ?_
      refine g_iload_n 2 dX9_raised_92 rfl ?_
      refine g_iload_n 3 dX9_raised_93 rfl ?_
      obtain ⟨c30, h⟩ := chk_some h
      refine g_iast dX9_raised_94 (sf_8_4 hx0) c30.1 c30.2 ?_
      refine g_nmM (fun M31 eM31 => ?_)
      replace h := nm_s eM31 h
      refine g_iload 0 dX9_raised_95 rfl ?_
      cases h
      exact g_ireturn dX9_raised_97 rfl ⟨rfl, rfl⟩
    · replace h := ifp b4 h
      refine g_pc (pc' := 16) rfl ?_
      refine g_iconst (v := -1) dX9_raised_16 rfl (i32l rfl) ?_
      cases h
      exact g_ireturn dX9_raised_17 rfl ⟨rfl, rfl⟩
def fX9_needs_l55 (x0 : Nat) (x1 : Int) (x2 : Int) : Nat → Int → Int → Mem → Option ((Int × Mem) ⊕ (Int × Int × Mem))
  | 0, _, _, _ => none
  | n + 1, x3, x4, M => (if 30 < x4 then some (.inl (x3, M)) else (if x3 = (-5) then if -2147483648 ≤ (x4 * x2) ∧ (x4 * x2) ≤ 2147483647 then if 0 ≤ (M x0 1) ∧ (M x0 1) < 25 then nm (wr M (x0 + 6) (Int.toNat (M x0 1)) (x4 * x2)) (fun M14 => if -2147483648 ≤ ((M14 x0 1) + 1) ∧ ((M14 x0 1) + 1) ≤ 2147483647 then Option.bind (fX9_firstOver x0 ((M14 x0 1) + 1) M14) (fun q16 => (if q16.1 = (-1) then if -2147483648 ≤ ((q16.2 x0 1) + 1) ∧ ((q16.2 x0 1) + 1) ≤ 2147483647 then nm (wr q16.2 x0 1 ((q16.2 x0 1) + 1)) (fun M19 => Option.bind (fX9_electedSet x0 M19) (fun q20 => Option.bind (fX9_has q20.1 x1 q20.2) (fun q21 => Option.bind ((if q21.1 = 0 then some (x3) else some (x4)) : Option (Int)) (fun t23 => if -2147483648 ≤ ((q21.2 x0 1) - 1) ∧ ((q21.2 x0 1) - 1) ≤ 2147483647 then nm (wr q21.2 x0 1 ((q21.2 x0 1) - 1)) (fun M26 => if -2147483648 ≤ (x4 + 1) ∧ (x4 + 1) ≤ 2147483647 then fX9_needs_l55 x0 x1 x2 n t23 (x4 + 1) M26 else none) else none)))) else none else some (.inl ((-5), q16.2)))) else none) else none else none else some (.inl (x3, M))))
def fX9_needs (x0 : Nat) (x1 : Int) (x2 : Int) (M : Mem) : Option (Int × Mem) := Option.bind (fX9_isOne x0 x1 M) (fun q1 => (if q1.1 = 0 then some ((-1), q1.2) else Option.bind (fX9_in x2 1 10000 q1.2) (fun q3 => (if q3.1 = 0 then some ((-2), q3.2) else if 0 ≤ x1 ∧ x1 < 8 then (if (q3.2 (x0 + 3) (Int.toNat x1)) = 0 then if -2147483648 ≤ (x1 + 1) ∧ (x1 + 1) ≤ 2147483647 then if 0 ≤ (q3.2 x0 1) ∧ (q3.2 x0 1) < 25 then nm (wr q3.2 (x0 + 5) (Int.toNat (q3.2 x0 1)) (x1 + 1)) (fun M9 => lr (fX9_needs_l55 x0 x1 x2 1000 (-5) 0 M9) (fun r => r) (fun _ => none)) else none else none else some ((-5), q3.2)) else none))))
set_option maxRecDepth 20000 in
theorem lX9_needs_l55 {X : XC} {d : Nat} {Post : Option XV → Mem → Prop} {x0 : Nat} {x1 : Int} {x2 : Int} (hx0 : Sh x0 = (18, 69)) : ∀ (n : Nat) (x3 x4 : Int) (M : Mem) (z : (Int × Mem) ⊕ (Int × Int × Mem)), fX9_needs_l55 x0 x1 x2 n x3 x4 M = some z → (∀ r, z = .inl r → Post (some (XI r.1)) r.2) → Go X mX9_needs (d + 7) 55 [(0, XR x0), (1, XI x1), (2, XI x2), (3, XI x3), (4, XI x4)] [] M Post := by
  intro n
  induction n with
  | zero => intro _ _ _ _ h; cases h
  | succ n ih =>
    intro x3 x4 M z h K1
    unfold fX9_needs_l55 at h
    refine g_iload 4 dX9_needs_55 rfl ?_
    refine g_bip dX9_needs_57 rfl ?_
    refine g_icmp_gt (tgt := 138) dX9_needs_59 (by decide) (fun b10 => ?_) (fun b10 => ?_)
    · replace h := ifp b10 h
      refine g_iload_n 3 dX9_needs_138 rfl ?_
      cases h
      exact g_ireturn dX9_needs_139 rfl (K1 (x3, M) rfl)
    · replace h := ifn b10 h
      refine g_pc (pc' := 62) rfl ?_
      refine g_iload_n 3 dX9_needs_62 rfl ?_
      refine g_bip dX9_needs_63 rfl ?_
      refine g_icmp_ne (tgt := 138) dX9_needs_65 (by decide) (fun b11 => ?_) (fun b11 => ?_)
      · replace h := ifn b11 h
        refine g_iload_n 3 dX9_needs_138 rfl ?_
        cases h
        exact g_ireturn dX9_needs_139 rfl (K1 (x3, M) rfl)
      · replace h := ifp b11 h
        refine g_pc (pc' := 68) rfl ?_
        refine g_aload_n 0 dX9_needs_68 rfl ?_
        refine g_getR dX9_needs_69 flX9_22 (by decide) rfl hx0 ?_
        refine g_aload_n 0 dX9_needs_72 rfl ?_
        refine g_getI dX9_needs_73 flX9_174 (by decide) rfl hx0 ?_
        refine g_iload 4 dX9_needs_76 rfl ?_
        refine g_iload_n 2 dX9_needs_78 rfl ?_
        obtain ⟨c12, h⟩ := chk_some h
        refine g_imul dX9_needs_79 rfl c12 ?_
        obtain ⟨c13, h⟩ := chk_some h
        refine g_iast dX9_needs_80 (sf_8_5 hx0) c13.1 c13.2 ?_
        refine g_nmM (fun M14 eM14 => ?_)
        replace h := nm_s eM14 h
        refine g_pc (pc' := 81) rfl ?_
        refine g_aload_n 0 dX9_needs_81 rfl ?_
        refine g_aload_n 0 dX9_needs_82 rfl ?_
        refine g_getI dX9_needs_83 flX9_174 (by decide) rfl hx0 ?_
        refine g_iconst (v := 1) dX9_needs_86 rfl (i32l rfl) ?_
        obtain ⟨c15, h⟩ := chk_some h
        refine g_iadd dX9_needs_87 rfl c15 ?_
        obtain ⟨q16, hq16, h⟩ := bnd_some h
        refine v_I (ci := 8) (as := [XI ((M14 x0 1) + 1)]) dX9_needs_88 mlX9_202 mdX9_firstOver mvX9_firstOver rfl hx0 rfl (Nat.le_of_ble_eq_true rfl) (kX9_firstOver hx0 hq16) rfl ?_
        refine g_iconst (v := -1) dX9_needs_91 rfl (i32l rfl) ?_
        refine g_icmp_eq (tgt := 98) dX9_needs_92 (by decide) (fun b17 => ?_) (fun b17 => ?_)
        · replace h := ifp b17 h
          refine g_aload_n 0 dX9_needs_98 rfl ?_
          refine g_dupR dX9_needs_99 ?_
          refine g_getI dX9_needs_100 flX9_174 (by decide) rfl hx0 ?_
          refine g_iconst (v := 1) dX9_needs_103 rfl (i32l rfl) ?_
          obtain ⟨c18, h⟩ := chk_some h
          refine g_iadd dX9_needs_104 rfl c18 ?_
          refine g_putI dX9_needs_105 flX9_174 (by decide) rfl hx0 ?_
          refine g_nmM (fun M19 eM19 => ?_)
          replace h := nm_s eM19 h
          refine g_aload_n 0 dX9_needs_108 rfl ?_
          obtain ⟨q20, hq20, h⟩ := bnd_some h
          refine v_I (ci := 8) (as := []) dX9_needs_109 mlX9_320 mdX9_electedSet mvX9_electedSet rfl hx0 rfl (Nat.le_of_ble_eq_true rfl) (kX9_electedSet hx0 hq20) rfl ?_
          refine g_pc (pc' := 112) rfl ?_
          refine g_iload_n 1 dX9_needs_112 rfl ?_
          obtain ⟨q21, hq21, h⟩ := bnd_some h
          refine s_I (as := [XI q20.1, XI x1]) dX9_needs_113 mlX9_192 mdX9_has msX9_has rfl (Nat.le_of_ble_eq_true rfl) (kX9_has  hq21) rfl ?_
          obtain ⟨t23, ht23, h⟩ := bnd_some h
          have Kt23 : Go X mX9_needs (d + 7) 122 [(0, XR x0), (1, XI x1), (2, XI x2), (3, XI t23), (4, XI x4)] [] q21.2 Post := by
            refine g_aload_n 0 dX9_needs_122 rfl ?_
            refine g_dupR dX9_needs_123 ?_
            refine g_getI dX9_needs_124 flX9_174 (by decide) rfl hx0 ?_
            refine g_iconst (v := 1) dX9_needs_127 rfl (i32l rfl) ?_
            obtain ⟨c25, h⟩ := chk_some h
            refine g_isub dX9_needs_128 rfl c25 ?_
            refine g_putI dX9_needs_129 flX9_174 (by decide) rfl hx0 ?_
            refine g_nmM (fun M26 eM26 => ?_)
            replace h := nm_s eM26 h
            obtain ⟨c27, h⟩ := chk_some h
            refine g_iinc (ls' := [(4, XI (x4 + 1)), (0, XR x0), (1, XI x1), (2, XI x2), (3, XI t23)]) 4 dX9_needs_132 rfl rfl c27 (by decide) rfl ?_
            refine g_goto (tgt := 55) dX9_needs_135 (by decide) ?_
            exact g_sub [1, 2, 3, 4, 0] rfl (ih _ _ _ _ h K1)
          refine g_if_eq (tgt := 122) dX9_needs_116 (by decide) (fun b24 => ?_) (fun b24 => ?_)
          · replace ht23 := ifp b24 ht23
            cases ht23
            exact g_sub [0, 1, 2, 3, 4] rfl Kt23
          · replace ht23 := ifn b24 ht23
            refine g_pc (pc' := 119) rfl ?_
            refine g_iload 4 dX9_needs_119 rfl ?_
            refine g_istore_n (ls' := [(3, XI x4), (0, XR x0), (1, XI x1), (2, XI x2), (4, XI x4)]) dX9_needs_121 (by decide) rfl ?_
            cases ht23
            exact g_sub [1, 2, 3, 0, 4] rfl Kt23
        · replace h := ifn b17 h
          refine g_pc (pc' := 95) rfl ?_
          refine g_bip dX9_needs_95 rfl ?_
          cases h
          exact g_ireturn dX9_needs_97 rfl (K1 ((-5), q16.2) rfl)
set_option maxRecDepth 20000 in
theorem kX9_needs {X : XC} {d : Nat} {x0 : Nat} {x1 : Int} {x2 : Int} (hx0 : Sh x0 = (18, 69)) {M : Mem} {q : Int × Mem} (h : fX9_needs x0 x1 x2 M = some q) : Ct X mX9_needs (d + 7) [XR x0, XI x1, XI x2] M (pI q) := by
  unfold fX9_needs at h
  refine ct_go (by decide +kernel) (Nat.le_of_ble_eq_true rfl) (ls := [(0, XR x0), (1, XI x1), (2, XI x2)]) rfl ?_
  refine g_aload_n 0 dX9_needs_0 rfl ?_
  refine g_iload_n 1 dX9_needs_1 rfl ?_
  obtain ⟨q1, hq1, h⟩ := bnd_some h
  refine v_I (ci := 8) (as := [XI x1]) dX9_needs_2 mlX9_211 mdX9_isOne mvX9_isOne rfl hx0 rfl (Nat.le_of_ble_eq_true rfl) (kX9_isOne hx0 hq1) rfl ?_
  refine g_if_ne (tgt := 10) dX9_needs_5 (by decide) (fun b2 => ?_) (fun b2 => ?_)
  · replace h := ifn b2 h
    refine g_iload_n 2 dX9_needs_10 rfl ?_
    refine g_i2l dX9_needs_11 ?_
    refine g_lconst (v := 1) dX9_needs_12 rfl (i64l rfl) ?_
    refine g_ldc2 (v := 10000) dX9_needs_13 csX9_358 (by decide +kernel) (i64l rfl) ?_
    obtain ⟨q3, hq3, h⟩ := bnd_some h
    refine s_I (as := [XL x2, XL 1, XL 10000]) dX9_needs_16 mlX9_170 mdX9_in msX9_in rfl (Nat.le_of_ble_eq_true rfl) (kX9_in  hq3) rfl ?_
    refine g_if_ne (tgt := 25) dX9_needs_19 (by decide) (fun b4 => ?_) (fun b4 => ?_)
    · replace h := ifn b4 h
      refine g_aload_n 0 dX9_needs_25 rfl ?_
      refine g_getR dX9_needs_26 flX9_11 (by decide) rfl hx0 ?_
      refine g_iload_n 1 dX9_needs_29 rfl ?_
      obtain ⟨c5, h⟩ := chk_some h
      refine g_zald dX9_needs_30 (sf_8_2 hx0) c5.1 c5.2 ?_
      refine g_if_eq (tgt := 37) dX9_needs_31 (by decide) (fun b6 => ?_) (fun b6 => ?_)
      · replace h := ifp b6 h
        refine g_aload_n 0 dX9_needs_37 rfl ?_
        refine g_getR dX9_needs_38 flX9_19 (by decide) rfl hx0 ?_
        refine g_aload_n 0 dX9_needs_41 rfl ?_
        refine g_getI dX9_needs_42 flX9_174 (by decide) rfl hx0 ?_
        refine g_iload_n 1 dX9_needs_45 rfl ?_
        refine g_iconst (v := 1) dX9_needs_46 rfl (i32l rfl) ?_
        obtain ⟨c7, h⟩ := chk_some h
        refine g_iadd dX9_needs_47 rfl c7 ?_
        obtain ⟨c8, h⟩ := chk_some h
        refine g_iast dX9_needs_48 (sf_8_4 hx0) c8.1 c8.2 ?_
        refine g_nmM (fun M9 eM9 => ?_)
        replace h := nm_s eM9 h
        refine g_pc (pc' := 49) rfl ?_
        refine g_bip dX9_needs_49 rfl ?_
        refine g_istore_n (ls' := [(3, XI (-5)), (0, XR x0), (1, XI x1), (2, XI x2)]) dX9_needs_51 (by decide) rfl ?_
        refine g_iconst (v := 0) dX9_needs_52 rfl (i32l rfl) ?_
        refine g_istore (ls' := [(4, XI 0), (3, XI (-5)), (0, XR x0), (1, XI x1), (2, XI x2)]) dX9_needs_53 (by decide) rfl ?_
        obtain ⟨z28, hz28, rz28, h⟩ := lr_some h
        refine g_sub (ls' := [(0, XR x0), (1, XI x1), (2, XI x2), (3, XI (-5)), (4, XI 0)]) [2, 3, 4, 1, 0] rfl ?_
        refine lX9_needs_l55 hx0 1000 _ _ _ _ hz28 (fun r e => ?_)
        have rz28 := rz28 r e
        subst rz28
        exact ⟨rfl, rfl⟩
      · replace h := ifn b6 h
        refine g_pc (pc' := 34) rfl ?_
        refine g_bip dX9_needs_34 rfl ?_
        cases h
        exact g_ireturn dX9_needs_36 rfl ⟨rfl, rfl⟩
    · replace h := ifp b4 h
      refine g_pc (pc' := 22) rfl ?_
      refine g_bip dX9_needs_22 rfl ?_
      cases h
      exact g_ireturn dX9_needs_24 rfl ⟨rfl, rfl⟩
  · replace h := ifp b2 h
    refine g_pc (pc' := 8) rfl ?_
    refine g_iconst (v := -1) dX9_needs_8 rfl (i32l rfl) ?_
    cases h
    exact g_ireturn dX9_needs_9 rfl ⟨rfl, rfl⟩
def fX9_see (x0 : Nat) (x1 : Int) (x2 : Int) (M : Mem) : Option (Int × Mem) := (if x1 = (-1) then nm (wr M x0 9 0) (fun M12 => some (0, M12)) else Option.bind (fX9_isOne x0 x1 M) (fun q2 => (if q2.1 = 0 then some ((-1), q2.2) else (if (q2.2 x0 9) = 5 then some ((-4), q2.2) else if 0 ≤ (q2.2 x0 9) ∧ (q2.2 x0 9) < 5 then nm (wr q2.2 (x0 + 12) (Int.toNat (q2.2 x0 9)) x1) (fun M6 => if 0 ≤ (M6 x0 9) ∧ (M6 x0 9) < 5 then if x2 = 0 ∨ x2 = 1 then nm (wr M6 (x0 + 15) (Int.toNat (M6 x0 9)) x2) (fun M9 => if -2147483648 ≤ ((M9 x0 9) + 1) ∧ ((M9 x0 9) + 1) ≤ 2147483647 then nm (wr M9 x0 9 ((M9 x0 9) + 1)) (fun M11 => some ((M11 x0 9), M11)) else none) else none else none) else none))))
set_option maxRecDepth 20000 in
theorem kX9_see {X : XC} {d : Nat} {x0 : Nat} {x1 : Int} {x2 : Int} (hx0 : Sh x0 = (18, 69)) {M : Mem} {q : Int × Mem} (h : fX9_see x0 x1 x2 M = some q) : Ct X mX9_see (d + 2) [XR x0, XI x1, XI x2] M (pI q) := by
  unfold fX9_see at h
  refine ct_go (by decide +kernel) (Nat.le_of_ble_eq_true rfl) (ls := [(0, XR x0), (1, XI x1), (2, XI x2)]) rfl ?_
  refine g_iload_n 1 dX9_see_0 rfl ?_
  refine g_iconst (v := -1) dX9_see_1 rfl (i32l rfl) ?_
  refine g_icmp_ne (tgt := 12) dX9_see_2 (by decide) (fun b1 => ?_) (fun b1 => ?_)
  · replace h := ifn b1 h
    refine g_aload_n 0 dX9_see_12 rfl ?_
    refine g_iload_n 1 dX9_see_13 rfl ?_
    obtain ⟨q2, hq2, h⟩ := bnd_some h
    refine v_I (ci := 8) (as := [XI x1]) dX9_see_14 mlX9_211 mdX9_isOne mvX9_isOne rfl hx0 rfl (Nat.le_of_ble_eq_true rfl) (kX9_isOne hx0 hq2) rfl ?_
    refine g_if_ne (tgt := 22) dX9_see_17 (by decide) (fun b3 => ?_) (fun b3 => ?_)
    · replace h := ifn b3 h
      refine g_aload_n 0 dX9_see_22 rfl ?_
      refine g_getI dX9_see_23 flX9_360 (by decide) rfl hx0 ?_
      refine g_iconst (v := 5) dX9_see_26 rfl (i32l rfl) ?_
      refine g_icmp_ne (tgt := 33) dX9_see_27 (by decide) (fun b4 => ?_) (fun b4 => ?_)
      · replace h := ifn b4 h
        refine g_aload_n 0 dX9_see_33 rfl ?_
        refine g_getR dX9_see_34 flX9_35 (by decide) rfl hx0 ?_
        refine g_aload_n 0 dX9_see_37 rfl ?_
        refine g_getI dX9_see_38 flX9_360 (by decide) rfl hx0 ?_
        refine g_iload_n 1 dX9_see_41 rfl ?_
        obtain ⟨c5, h⟩ := chk_some h
        refine g_iast dX9_see_42 (sf_8_11 hx0) c5.1 c5.2 ?_
        refine g_nmM (fun M6 eM6 => ?_)
        replace h := nm_s eM6 h
        refine g_aload_n 0 dX9_see_43 rfl ?_
        refine g_getR dX9_see_44 flX9_44 (by decide) rfl hx0 ?_
        refine g_pc (pc' := 47) rfl ?_
        refine g_aload_n 0 dX9_see_47 rfl ?_
        refine g_getI dX9_see_48 flX9_360 (by decide) rfl hx0 ?_
        refine g_iload_n 2 dX9_see_51 rfl ?_
        obtain ⟨c7, h⟩ := chk_some h
        obtain ⟨c8, h⟩ := chk_some h
        refine g_zast dX9_see_52 (sf_8_14 hx0) c7.1 c7.2 c8 ?_
        refine g_nmM (fun M9 eM9 => ?_)
        replace h := nm_s eM9 h
        refine g_aload_n 0 dX9_see_53 rfl ?_
        refine g_dupR dX9_see_54 ?_
        refine g_getI dX9_see_55 flX9_360 (by decide) rfl hx0 ?_
        refine g_iconst (v := 1) dX9_see_58 rfl (i32l rfl) ?_
        obtain ⟨c10, h⟩ := chk_some h
        refine g_iadd dX9_see_59 rfl c10 ?_
        refine g_pc (pc' := 60) rfl ?_
        refine g_putI dX9_see_60 flX9_360 (by decide) rfl hx0 ?_
        refine g_nmM (fun M11 eM11 => ?_)
        replace h := nm_s eM11 h
        refine g_aload_n 0 dX9_see_63 rfl ?_
        refine g_getI dX9_see_64 flX9_360 (by decide) rfl hx0 ?_
        cases h
        exact g_ireturn dX9_see_67 rfl ⟨rfl, rfl⟩
      · replace h := ifp b4 h
        refine g_pc (pc' := 30) rfl ?_
        refine g_bip dX9_see_30 rfl ?_
        cases h
        exact g_ireturn dX9_see_32 rfl ⟨rfl, rfl⟩
    · replace h := ifp b3 h
      refine g_pc (pc' := 20) rfl ?_
      refine g_iconst (v := -1) dX9_see_20 rfl (i32l rfl) ?_
      cases h
      exact g_ireturn dX9_see_21 rfl ⟨rfl, rfl⟩
  · replace h := ifp b1 h
    refine g_pc (pc' := 5) rfl ?_
    refine g_aload_n 0 dX9_see_5 rfl ?_
    refine g_iconst (v := 0) dX9_see_6 rfl (i32l rfl) ?_
    refine g_putI dX9_see_7 flX9_360 (by decide) rfl hx0 ?_
    refine g_nmM (fun M12 eM12 => ?_)
    replace h := nm_s eM12 h
    refine g_iconst (v := 0) dX9_see_10 rfl (i32l rfl) ?_
    cases h
    exact g_ireturn dX9_see_11 rfl ⟨rfl, rfl⟩
def fX9_isAsSeen_l7 (x0 : Nat) (x1 : Int) : Nat → Int → Mem → Option ((Int × Mem) ⊕ (Int × Mem))
  | 0, _, _ => none
  | n + 1, x2, M => (if (M x0 9) ≤ x2 then some (.inl (1, M)) else if 0 ≤ x2 ∧ x2 < 5 then Option.bind (fX9_has x1 (M (x0 + 12) (Int.toNat x2)) M) (fun q5 => if 0 ≤ x2 ∧ x2 < 5 then (if q5.1 = (q5.2 (x0 + 15) (Int.toNat x2)) then if -2147483648 ≤ (x2 + 1) ∧ (x2 + 1) ≤ 2147483647 then fX9_isAsSeen_l7 x0 x1 n (x2 + 1) q5.2 else none else some (.inl (0, q5.2))) else none) else none)
def fX9_isAsSeen (x0 : Nat) (M : Mem) : Option (Int × Mem) := Option.bind (fX9_electedSet x0 M) (fun q1 => nm (q1.1) (fun v2 => lr (fX9_isAsSeen_l7 x0 v2 1000 0 q1.2) (fun r => r) (fun _ => none)))
set_option maxRecDepth 20000 in
theorem lX9_isAsSeen_l7 {X : XC} {d : Nat} {Post : Option XV → Mem → Prop} {x0 : Nat} {x1 : Int} (hx0 : Sh x0 = (18, 69)) : ∀ (n : Nat) (x2 : Int) (M : Mem) (z : (Int × Mem) ⊕ (Int × Mem)), fX9_isAsSeen_l7 x0 x1 n x2 M = some z → (∀ r, z = .inl r → Post (some (XI r.1)) r.2) → Go X mX9_isAsSeen (d + 7) 7 [(0, XR x0), (1, XI x1), (2, XI x2)] [] M Post := by
  intro n
  induction n with
  | zero => intro _ _ _ h; cases h
  | succ n ih =>
    intro x2 M z h K1
    unfold fX9_isAsSeen_l7 at h
    refine g_iload_n 2 dX9_isAsSeen_7 rfl ?_
    refine g_aload_n 0 dX9_isAsSeen_8 rfl ?_
    refine g_getI dX9_isAsSeen_9 flX9_360 (by decide) rfl hx0 ?_
    refine g_icmp_ge (tgt := 42) dX9_isAsSeen_12 (by decide) (fun b3 => ?_) (fun b3 => ?_)
    · replace h := ifp b3 h
      refine g_iconst (v := 1) dX9_isAsSeen_42 rfl (i32l rfl) ?_
      cases h
      exact g_zreturn dX9_isAsSeen_43 rfl (by decide) (K1 (1, M) rfl)
    · replace h := ifn b3 h
      refine g_pc (pc' := 15) rfl ?_
      refine g_iload_n 1 dX9_isAsSeen_15 rfl ?_
      refine g_aload_n 0 dX9_isAsSeen_16 rfl ?_
      refine g_getR dX9_isAsSeen_17 flX9_35 (by decide) rfl hx0 ?_
      refine g_iload_n 2 dX9_isAsSeen_20 rfl ?_
      obtain ⟨c4, h⟩ := chk_some h
      refine g_iald dX9_isAsSeen_21 (sf_8_11 hx0) c4.1 c4.2 ?_
      obtain ⟨q5, hq5, h⟩ := bnd_some h
      refine s_I (as := [XI x1, XI (M (x0 + 12) (Int.toNat x2))]) dX9_isAsSeen_22 mlX9_192 mdX9_has msX9_has rfl (Nat.le_of_ble_eq_true rfl) (kX9_has  hq5) rfl ?_
      refine g_aload_n 0 dX9_isAsSeen_25 rfl ?_
      refine g_getR dX9_isAsSeen_26 flX9_44 (by decide) rfl hx0 ?_
      refine g_pc (pc' := 29) rfl ?_
      refine g_iload_n 2 dX9_isAsSeen_29 rfl ?_
      obtain ⟨c6, h⟩ := chk_some h
      refine g_zald dX9_isAsSeen_30 (sf_8_14 hx0) c6.1 c6.2 ?_
      refine g_icmp_eq (tgt := 36) dX9_isAsSeen_31 (by decide) (fun b7 => ?_) (fun b7 => ?_)
      · replace h := ifp b7 h
        obtain ⟨c8, h⟩ := chk_some h
        refine g_iinc (ls' := [(2, XI (x2 + 1)), (0, XR x0), (1, XI x1)]) 2 dX9_isAsSeen_36 rfl rfl c8 (by decide) rfl ?_
        refine g_goto (tgt := 7) dX9_isAsSeen_39 (by decide) ?_
        exact g_sub [1, 2, 0] rfl (ih _ _ _ h K1)
      · replace h := ifn b7 h
        refine g_pc (pc' := 34) rfl ?_
        refine g_iconst (v := 0) dX9_isAsSeen_34 rfl (i32l rfl) ?_
        cases h
        exact g_zreturn dX9_isAsSeen_35 rfl (by decide) (K1 (0, q5.2) rfl)
set_option maxRecDepth 20000 in
theorem kX9_isAsSeen {X : XC} {d : Nat} {x0 : Nat} (hx0 : Sh x0 = (18, 69)) {M : Mem} {q : Int × Mem} (h : fX9_isAsSeen x0 M = some q) : Ct X mX9_isAsSeen (d + 7) [XR x0] M (pI q) := by
  unfold fX9_isAsSeen at h
  refine ct_go (by decide +kernel) (Nat.le_of_ble_eq_true rfl) (ls := [(0, XR x0)]) rfl ?_
  refine g_aload_n 0 dX9_isAsSeen_0 rfl ?_
  obtain ⟨q1, hq1, h⟩ := bnd_some h
  refine v_I (ci := 8) (as := []) dX9_isAsSeen_1 mlX9_320 mdX9_electedSet mvX9_electedSet rfl hx0 rfl (Nat.le_of_ble_eq_true rfl) (kX9_electedSet hx0 hq1) rfl ?_
  refine g_nmI (fun v2 ev2 => ?_)
  replace h := nm_s ev2 h
  refine g_istore_n (ls' := [(1, XI v2), (0, XR x0)]) dX9_isAsSeen_4 (by decide) rfl ?_
  refine g_iconst (v := 0) dX9_isAsSeen_5 rfl (i32l rfl) ?_
  refine g_istore_n (ls' := [(2, XI 0), (1, XI v2), (0, XR x0)]) dX9_isAsSeen_6 (by decide) rfl ?_
  obtain ⟨z9, hz9, rz9, h⟩ := lr_some h
  refine g_sub (ls' := [(0, XR x0), (1, XI v2), (2, XI 0)]) [2, 1, 0] rfl ?_
  refine lX9_isAsSeen_l7 hx0 1000 _ _ _ hz9 (fun r e => ?_)
  have rz9 := rz9 r e
  subst rz9
  exact ⟨rfl, rfl⟩
def fX9_fits_l27 (x0 : Nat) (x1 : Int) (x2 : Int) : Nat → Int → Int → Int → Mem → Option (Int × Int × Int × Mem)
  | 0, _, _, _, _ => none
  | n + 1, x3, x4, x5, M => (if x5 < 1 then some (x3, x4, x5, M) else nm (wr M x0 6 x5) (fun M5 => Option.bind (fX9_isAsSeen x0 M5) (fun q6 => Option.bind ((if q6.1 = 0 then some (x3, x4) else if -2147483648 ≤ (x3 + 1) ∧ (x3 + 1) ≤ 2147483647 then some ((x3 + 1), x5) else none) : Option (Int × Int)) (fun t9 => if -2147483648 ≤ (x5 + (-1)) ∧ (x5 + (-1)) ≤ 2147483647 then fX9_fits_l27 x0 x1 x2 n t9.1 t9.2 (x5 + (-1)) q6.2 else none))))
def fX9_fits (x0 : Nat) (x1 : Int) (M : Mem) : Option (Int × Mem) := Option.bind (fX9_in x1 0 1 M) (fun q1 => (if q1.1 = 0 then some ((-1), q1.2) else nm ((q1.2 x0 6)) (fun v3 => Option.bind (fX9_fits_l27 x0 x1 v3 1000 0 (-5) 7 q1.2) (fun z13 => nm (wr z13.2.2.2 x0 6 v3) (fun M14 => Option.bind ((if x1 = 0 then some (z13.1) else some (z13.2.1)) : Option (Int)) (fun t16 => some (t16, M14)))))))
set_option maxRecDepth 20000 in
theorem lX9_fits_l27 {X : XC} {d : Nat} {Post : Option XV → Mem → Prop} {x0 : Nat} {x1 : Int} {x2 : Int} (hx0 : Sh x0 = (18, 69)) : ∀ (n : Nat) (x3 x4 x5 : Int) (M : Mem) (t0 : Int × Int × Int × Mem), fX9_fits_l27 x0 x1 x2 n x3 x4 x5 M = some t0 → Go X mX9_fits (d + 8) 62 [(0, XR x0), (1, XI x1), (2, XI x2), (3, XI t0.1), (4, XI t0.2.1)] [] t0.2.2.2 Post → Go X mX9_fits (d + 8) 27 [(0, XR x0), (1, XI x1), (2, XI x2), (3, XI x3), (4, XI x4), (5, XI x5)] [] M Post := by
  intro n
  induction n with
  | zero => intro _ _ _ _ _ h; cases h
  | succ n ih =>
    intro x3 x4 x5 M t0 h K
    unfold fX9_fits_l27 at h
    refine g_iload 5 dX9_fits_27 rfl ?_
    refine g_iconst (v := 1) dX9_fits_29 rfl (i32l rfl) ?_
    refine g_icmp_lt (tgt := 62) dX9_fits_30 (by decide) (fun b4 => ?_) (fun b4 => ?_)
    · replace h := ifp b4 h
      cases h
      exact g_sub [0, 1, 2, 3, 4] rfl K
    · replace h := ifn b4 h
      refine g_pc (pc' := 33) rfl ?_
      refine g_aload_n 0 dX9_fits_33 rfl ?_
      refine g_iload 5 dX9_fits_34 rfl ?_
      refine g_putI dX9_fits_36 flX9_25 (by decide) rfl hx0 ?_
      refine g_nmM (fun M5 eM5 => ?_)
      replace h := nm_s eM5 h
      refine g_aload_n 0 dX9_fits_39 rfl ?_
      obtain ⟨q6, hq6, h⟩ := bnd_some h
      refine v_I (ci := 8) (as := []) dX9_fits_40 mlX9_363 mdX9_isAsSeen mvX9_isAsSeen rfl hx0 rfl (Nat.le_of_ble_eq_true rfl) (kX9_isAsSeen hx0 hq6) rfl ?_
      obtain ⟨t9, ht9, h⟩ := bnd_some h
      have Kt9 : Go X mX9_fits (d + 8) 56 [(0, XR x0), (1, XI x1), (2, XI x2), (3, XI t9.1), (4, XI t9.2), (5, XI x5)] [] q6.2 Post := by
        obtain ⟨c12, h⟩ := chk_some h
        refine g_iinc (ls' := [(5, XI (x5 + (-1))), (0, XR x0), (1, XI x1), (2, XI x2), (3, XI t9.1), (4, XI t9.2)]) 5 dX9_fits_56 rfl rfl c12 (by decide) rfl ?_
        refine g_goto (tgt := 27) dX9_fits_59 (by decide) ?_
        exact g_sub [1, 2, 3, 4, 5, 0] rfl (ih _ _ _ _ _ h K)
      refine g_if_ne (tgt := 49) dX9_fits_43 (by decide) (fun b10 => ?_) (fun b10 => ?_)
      · replace ht9 := ifn b10 ht9
        obtain ⟨c11, ht9⟩ := chk_some ht9
        refine g_iinc (ls' := [(3, XI (x3 + 1)), (0, XR x0), (1, XI x1), (2, XI x2), (4, XI x4), (5, XI x5)]) 3 dX9_fits_49 rfl rfl c11 (by decide) rfl ?_
        refine g_iload 5 dX9_fits_52 rfl ?_
        refine g_istore (ls' := [(4, XI x5), (3, XI (x3 + 1)), (0, XR x0), (1, XI x1), (2, XI x2), (5, XI x5)]) dX9_fits_54 (by decide) rfl ?_
        cases ht9
        exact g_sub [2, 3, 4, 1, 0, 5] rfl Kt9
      · replace ht9 := ifp b10 ht9
        refine g_pc (pc' := 46) rfl ?_
        refine g_goto (tgt := 56) dX9_fits_46 (by decide) ?_
        cases ht9
        exact g_sub [0, 1, 2, 3, 4, 5] rfl Kt9
set_option maxRecDepth 20000 in
theorem kX9_fits {X : XC} {d : Nat} {x0 : Nat} {x1 : Int} (hx0 : Sh x0 = (18, 69)) {M : Mem} {q : Int × Mem} (h : fX9_fits x0 x1 M = some q) : Ct X mX9_fits (d + 8) [XR x0, XI x1] M (pI q) := by
  unfold fX9_fits at h
  refine ct_go (by decide +kernel) (Nat.le_of_ble_eq_true rfl) (ls := [(0, XR x0), (1, XI x1)]) rfl ?_
  refine g_iload_n 1 dX9_fits_0 rfl ?_
  refine g_i2l dX9_fits_1 ?_
  refine g_lconst (v := 0) dX9_fits_2 rfl (i64l rfl) ?_
  refine g_lconst (v := 1) dX9_fits_3 rfl (i64l rfl) ?_
  obtain ⟨q1, hq1, h⟩ := bnd_some h
  refine s_I (as := [XL x1, XL 0, XL 1]) dX9_fits_4 mlX9_170 mdX9_in msX9_in rfl (Nat.le_of_ble_eq_true rfl) (kX9_in  hq1) rfl ?_
  refine g_if_ne (tgt := 12) dX9_fits_7 (by decide) (fun b2 => ?_) (fun b2 => ?_)
  · replace h := ifn b2 h
    refine g_aload_n 0 dX9_fits_12 rfl ?_
    refine g_getI dX9_fits_13 flX9_25 (by decide) rfl hx0 ?_
    refine g_nmI (fun v3 ev3 => ?_)
    replace h := nm_s ev3 h
    refine g_istore_n (ls' := [(2, XI v3), (0, XR x0), (1, XI x1)]) dX9_fits_16 (by decide) rfl ?_
    refine g_iconst (v := 0) dX9_fits_17 rfl (i32l rfl) ?_
    refine g_istore_n (ls' := [(3, XI 0), (2, XI v3), (0, XR x0), (1, XI x1)]) dX9_fits_18 (by decide) rfl ?_
    refine g_bip dX9_fits_19 rfl ?_
    refine g_istore (ls' := [(4, XI (-5)), (3, XI 0), (2, XI v3), (0, XR x0), (1, XI x1)]) dX9_fits_21 (by decide) rfl ?_
    refine g_bip dX9_fits_23 rfl ?_
    refine g_pc (pc' := 25) rfl ?_
    refine g_istore (ls' := [(5, XI 7), (4, XI (-5)), (3, XI 0), (2, XI v3), (0, XR x0), (1, XI x1)]) dX9_fits_25 (by decide) rfl ?_
    obtain ⟨z13, hz13, h⟩ := bnd_some h
    refine g_sub (ls' := [(0, XR x0), (1, XI x1), (2, XI v3), (3, XI 0), (4, XI (-5)), (5, XI 7)]) [4, 5, 3, 2, 1, 0] rfl ?_
    refine lX9_fits_l27 hx0 1000 _ _ _ _ _ hz13 ?_
    refine g_aload_n 0 dX9_fits_62 rfl ?_
    refine g_iload_n 2 dX9_fits_63 rfl ?_
    refine g_putI dX9_fits_64 flX9_25 (by decide) rfl hx0 ?_
    refine g_nmM (fun M14 eM14 => ?_)
    replace h := nm_s eM14 h
    refine g_iload_n 1 dX9_fits_67 rfl ?_
    obtain ⟨t16, ht16, h⟩ := bnd_some h
    have Kt16 : Go X mX9_fits (d + 8) 77 [] [XI t16] M14 (pI q) := by
      cases h
      exact g_ireturn dX9_fits_77 rfl ⟨rfl, rfl⟩
    refine g_if_ne (tgt := 75) dX9_fits_68 (by decide) (fun b17 => ?_) (fun b17 => ?_)
    · replace ht16 := ifn b17 ht16
      refine g_iload 4 dX9_fits_75 rfl ?_
      cases ht16
      exact g_sub [] rfl Kt16
    · replace ht16 := ifp b17 ht16
      refine g_pc (pc' := 71) rfl ?_
      refine g_iload_n 3 dX9_fits_71 rfl ?_
      refine g_goto (tgt := 77) dX9_fits_72 (by decide) ?_
      cases ht16
      exact g_sub [] rfl Kt16
  · replace h := ifp b2 h
    refine g_pc (pc' := 10) rfl ?_
    refine g_iconst (v := -1) dX9_fits_10 rfl (i32l rfl) ?_
    cases h
    exact g_ireturn dX9_fits_11 rfl ⟨rfl, rfl⟩
def fX9_event (x0 : Nat) (x1 : Int) (x2 : Int) (M : Mem) : Option (Int × Mem) := (if x1 = (-1) then nm (wr M x0 10 0) (fun M41 => some (0, M41)) else Option.bind (fX9_in x1 0 3 M) (fun q2 => (if q2.1 = 0 then some ((-1), q2.2) else (if x1 = 2 then (if x1 = 2 then Option.bind (fX9_in x2 1 7 q2.2) (fun q13 => (if q13.1 = 0 then some ((-2), q13.2) else (if (q13.2 x0 10) = 8 then some ((-4), q13.2) else if 0 ≤ (q13.2 x0 10) ∧ (q13.2 x0 10) < 8 then nm (wr q13.2 (x0 + 13) (Int.toNat (q13.2 x0 10)) x1) (fun M17 => if 0 ≤ (M17 x0 10) ∧ (M17 x0 10) < 8 then nm (wr M17 (x0 + 14) (Int.toNat (M17 x0 10)) x2) (fun M19 => if -2147483648 ≤ ((M19 x0 10) + 1) ∧ ((M19 x0 10) + 1) ≤ 2147483647 then nm (wr M19 x0 10 ((M19 x0 10) + 1)) (fun M21 => some ((M21 x0 10), M21)) else none) else none) else none))) else (if (q2.2 x0 10) = 8 then some ((-4), q2.2) else if 0 ≤ (q2.2 x0 10) ∧ (q2.2 x0 10) < 8 then nm (wr q2.2 (x0 + 13) (Int.toNat (q2.2 x0 10)) x1) (fun M8 => if 0 ≤ (M8 x0 10) ∧ (M8 x0 10) < 8 then nm (wr M8 (x0 + 14) (Int.toNat (M8 x0 10)) x2) (fun M10 => if -2147483648 ≤ ((M10 x0 10) + 1) ∧ ((M10 x0 10) + 1) ≤ 2147483647 then nm (wr M10 x0 10 ((M10 x0 10) + 1)) (fun M12 => some ((M12 x0 10), M12)) else none) else none) else none)) else Option.bind (fX9_isOne x0 x2 q2.2) (fun q22 => (if q22.1 = 0 then some ((-1), q22.2) else (if x1 = 2 then Option.bind (fX9_in x2 1 7 q22.2) (fun q32 => (if q32.1 = 0 then some ((-2), q32.2) else (if (q32.2 x0 10) = 8 then some ((-4), q32.2) else if 0 ≤ (q32.2 x0 10) ∧ (q32.2 x0 10) < 8 then nm (wr q32.2 (x0 + 13) (Int.toNat (q32.2 x0 10)) x1) (fun M36 => if 0 ≤ (M36 x0 10) ∧ (M36 x0 10) < 8 then nm (wr M36 (x0 + 14) (Int.toNat (M36 x0 10)) x2) (fun M38 => if -2147483648 ≤ ((M38 x0 10) + 1) ∧ ((M38 x0 10) + 1) ≤ 2147483647 then nm (wr M38 x0 10 ((M38 x0 10) + 1)) (fun M40 => some ((M40 x0 10), M40)) else none) else none) else none))) else (if (q22.2 x0 10) = 8 then some ((-4), q22.2) else if 0 ≤ (q22.2 x0 10) ∧ (q22.2 x0 10) < 8 then nm (wr q22.2 (x0 + 13) (Int.toNat (q22.2 x0 10)) x1) (fun M27 => if 0 ≤ (M27 x0 10) ∧ (M27 x0 10) < 8 then nm (wr M27 (x0 + 14) (Int.toNat (M27 x0 10)) x2) (fun M29 => if -2147483648 ≤ ((M29 x0 10) + 1) ∧ ((M29 x0 10) + 1) ≤ 2147483647 then nm (wr M29 x0 10 ((M29 x0 10) + 1)) (fun M31 => some ((M31 x0 10), M31)) else none) else none) else none))))))))
set_option maxRecDepth 20000 in
theorem kX9_event {X : XC} {d : Nat} {x0 : Nat} {x1 : Int} {x2 : Int} (hx0 : Sh x0 = (18, 69)) {M : Mem} {q : Int × Mem} (h : fX9_event x0 x1 x2 M = some q) : Ct X mX9_event (d + 2) [XR x0, XI x1, XI x2] M (pI q) := by
  unfold fX9_event at h
  refine ct_go (by decide +kernel) (Nat.le_of_ble_eq_true rfl) (ls := [(0, XR x0), (1, XI x1), (2, XI x2)]) rfl ?_
  refine g_iload_n 1 dX9_event_0 rfl ?_
  refine g_iconst (v := -1) dX9_event_1 rfl (i32l rfl) ?_
  refine g_icmp_ne (tgt := 12) dX9_event_2 (by decide) (fun b1 => ?_) (fun b1 => ?_)
  · replace h := ifn b1 h
    refine g_iload_n 1 dX9_event_12 rfl ?_
    refine g_i2l dX9_event_13 ?_
    refine g_lconst (v := 0) dX9_event_14 rfl (i64l rfl) ?_
    refine g_ldc2 (v := 3) dX9_event_15 csX9_313 (by decide +kernel) (i64l rfl) ?_
    obtain ⟨q2, hq2, h⟩ := bnd_some h
    refine s_I (as := [XL x1, XL 0, XL 3]) dX9_event_18 mlX9_170 mdX9_in msX9_in rfl (Nat.le_of_ble_eq_true rfl) (kX9_in  hq2) rfl ?_
    refine g_if_eq (tgt := 37) dX9_event_21 (by decide) (fun b3 => ?_) (fun b3 => ?_)
    · replace h := ifp b3 h
      refine g_iconst (v := -1) dX9_event_37 rfl (i32l rfl) ?_
      cases h
      exact g_ireturn dX9_event_38 rfl ⟨rfl, rfl⟩
    · replace h := ifn b3 h
      refine g_pc (pc' := 24) rfl ?_
      refine g_iload_n 1 dX9_event_24 rfl ?_
      refine g_iconst (v := 2) dX9_event_25 rfl (i32l rfl) ?_
      refine g_icmp_eq (tgt := 39) dX9_event_26 (by decide) (fun b4 => ?_) (fun b4 => ?_)
      · replace h := ifp b4 h
        refine g_iload_n 1 dX9_event_39 rfl ?_
        refine g_iconst (v := 2) dX9_event_40 rfl (i32l rfl) ?_
        refine g_icmp_ne (tgt := 59) dX9_event_41 (by decide) (fun b5 => ?_) (fun b5 => ?_)
        · replace h := ifn b5 h
          refine g_aload_n 0 dX9_event_59 rfl ?_
          refine g_getI dX9_event_60 flX9_366 (by decide) rfl hx0 ?_
          refine g_bip dX9_event_63 rfl ?_
          refine g_icmp_ne (tgt := 71) dX9_event_65 (by decide) (fun b6 => ?_) (fun b6 => ?_)
          · replace h := ifn b6 h
            refine g_aload_n 0 dX9_event_71 rfl ?_
            refine g_getR dX9_event_72 flX9_38 (by decide) rfl hx0 ?_
            refine g_aload_n 0 dX9_event_75 rfl ?_
            refine g_getI dX9_event_76 flX9_366 (by decide) rfl hx0 ?_
            refine g_iload_n 1 dX9_event_79 rfl ?_
            obtain ⟨c7, h⟩ := chk_some h
            refine g_iast dX9_event_80 (sf_8_12 hx0) c7.1 c7.2 ?_
            refine g_nmM (fun M8 eM8 => ?_)
            replace h := nm_s eM8 h
            refine g_aload_n 0 dX9_event_81 rfl ?_
            refine g_getR dX9_event_82 flX9_41 (by decide) rfl hx0 ?_
            refine g_pc (pc' := 85) rfl ?_
            refine g_aload_n 0 dX9_event_85 rfl ?_
            refine g_getI dX9_event_86 flX9_366 (by decide) rfl hx0 ?_
            refine g_iload_n 2 dX9_event_89 rfl ?_
            obtain ⟨c9, h⟩ := chk_some h
            refine g_iast dX9_event_90 (sf_8_13 hx0) c9.1 c9.2 ?_
            refine g_nmM (fun M10 eM10 => ?_)
            replace h := nm_s eM10 h
            refine g_aload_n 0 dX9_event_91 rfl ?_
            refine g_dupR dX9_event_92 ?_
            refine g_getI dX9_event_93 flX9_366 (by decide) rfl hx0 ?_
            refine g_iconst (v := 1) dX9_event_96 rfl (i32l rfl) ?_
            obtain ⟨c11, h⟩ := chk_some h
            refine g_iadd dX9_event_97 rfl c11 ?_
            refine g_pc (pc' := 98) rfl ?_
            refine g_putI dX9_event_98 flX9_366 (by decide) rfl hx0 ?_
            refine g_nmM (fun M12 eM12 => ?_)
            replace h := nm_s eM12 h
            refine g_aload_n 0 dX9_event_101 rfl ?_
            refine g_getI dX9_event_102 flX9_366 (by decide) rfl hx0 ?_
            cases h
            exact g_ireturn dX9_event_105 rfl ⟨rfl, rfl⟩
          · replace h := ifp b6 h
            refine g_pc (pc' := 68) rfl ?_
            refine g_bip dX9_event_68 rfl ?_
            cases h
            exact g_ireturn dX9_event_70 rfl ⟨rfl, rfl⟩
        · replace h := ifp b5 h
          refine g_pc (pc' := 44) rfl ?_
          refine g_iload_n 2 dX9_event_44 rfl ?_
          refine g_i2l dX9_event_45 ?_
          refine g_lconst (v := 1) dX9_event_46 rfl (i64l rfl) ?_
          refine g_ldc2 (v := 7) dX9_event_47 csX9_216 (by decide +kernel) (i64l rfl) ?_
          obtain ⟨q13, hq13, h⟩ := bnd_some h
          refine s_I (as := [XL x2, XL 1, XL 7]) dX9_event_50 mlX9_170 mdX9_in msX9_in rfl (Nat.le_of_ble_eq_true rfl) (kX9_in  hq13) rfl ?_
          refine g_if_ne (tgt := 59) dX9_event_53 (by decide) (fun b14 => ?_) (fun b14 => ?_)
          · replace h := ifn b14 h
            refine g_aload_n 0 dX9_event_59 rfl ?_
            refine g_getI dX9_event_60 flX9_366 (by decide) rfl hx0 ?_
            refine g_bip dX9_event_63 rfl ?_
            refine g_icmp_ne (tgt := 71) dX9_event_65 (by decide) (fun b15 => ?_) (fun b15 => ?_)
            · replace h := ifn b15 h
              refine g_aload_n 0 dX9_event_71 rfl ?_
              refine g_getR dX9_event_72 flX9_38 (by decide) rfl hx0 ?_
              refine g_aload_n 0 dX9_event_75 rfl ?_
              refine g_getI dX9_event_76 flX9_366 (by decide) rfl hx0 ?_
              refine g_iload_n 1 dX9_event_79 rfl ?_
              obtain ⟨c16, h⟩ := chk_some h
              refine g_iast dX9_event_80 (sf_8_12 hx0) c16.1 c16.2 ?_
              refine g_nmM (fun M17 eM17 => ?_)
              replace h := nm_s eM17 h
              refine g_aload_n 0 dX9_event_81 rfl ?_
              refine g_getR dX9_event_82 flX9_41 (by decide) rfl hx0 ?_
              refine g_pc (pc' := 85) rfl ?_
              refine g_aload_n 0 dX9_event_85 rfl ?_
              refine g_getI dX9_event_86 flX9_366 (by decide) rfl hx0 ?_
              refine g_iload_n 2 dX9_event_89 rfl ?_
              obtain ⟨c18, h⟩ := chk_some h
              refine g_iast dX9_event_90 (sf_8_13 hx0) c18.1 c18.2 ?_
              refine g_nmM (fun M19 eM19 => ?_)
              replace h := nm_s eM19 h
              refine g_aload_n 0 dX9_event_91 rfl ?_
              refine g_dupR dX9_event_92 ?_
              refine g_getI dX9_event_93 flX9_366 (by decide) rfl hx0 ?_
              refine g_iconst (v := 1) dX9_event_96 rfl (i32l rfl) ?_
              obtain ⟨c20, h⟩ := chk_some h
              refine g_iadd dX9_event_97 rfl c20 ?_
              refine g_pc (pc' := 98) rfl ?_
              refine g_putI dX9_event_98 flX9_366 (by decide) rfl hx0 ?_
              refine g_nmM (fun M21 eM21 => ?_)
              replace h := nm_s eM21 h
              refine g_aload_n 0 dX9_event_101 rfl ?_
              refine g_getI dX9_event_102 flX9_366 (by decide) rfl hx0 ?_
              cases h
              exact g_ireturn dX9_event_105 rfl ⟨rfl, rfl⟩
            · replace h := ifp b15 h
              refine g_pc (pc' := 68) rfl ?_
              refine g_bip dX9_event_68 rfl ?_
              cases h
              exact g_ireturn dX9_event_70 rfl ⟨rfl, rfl⟩
          · replace h := ifp b14 h
            refine g_pc (pc' := 56) rfl ?_
            refine g_bip dX9_event_56 rfl ?_
            cases h
            exact g_ireturn dX9_event_58 rfl ⟨rfl, rfl⟩
      · replace h := ifn b4 h
        refine g_pc (pc' := 29) rfl ?_
        refine g_aload_n 0 dX9_event_29 rfl ?_
        refine g_iload_n 2 dX9_event_30 rfl ?_
        obtain ⟨q22, hq22, h⟩ := bnd_some h
        refine v_I (ci := 8) (as := [XI x2]) dX9_event_31 mlX9_211 mdX9_isOne mvX9_isOne rfl hx0 rfl (Nat.le_of_ble_eq_true rfl) (kX9_isOne hx0 hq22) rfl ?_
        refine g_if_ne (tgt := 39) dX9_event_34 (by decide) (fun b23 => ?_) (fun b23 => ?_)
        · replace h := ifn b23 h
          refine g_iload_n 1 dX9_event_39 rfl ?_
          refine g_iconst (v := 2) dX9_event_40 rfl (i32l rfl) ?_
          refine g_icmp_ne (tgt := 59) dX9_event_41 (by decide) (fun b24 => ?_) (fun b24 => ?_)
          · replace h := ifn b24 h
            refine g_aload_n 0 dX9_event_59 rfl ?_
            refine g_getI dX9_event_60 flX9_366 (by decide) rfl hx0 ?_
            refine g_bip dX9_event_63 rfl ?_
            refine g_icmp_ne (tgt := 71) dX9_event_65 (by decide) (fun b25 => ?_) (fun b25 => ?_)
            · replace h := ifn b25 h
              refine g_aload_n 0 dX9_event_71 rfl ?_
              refine g_getR dX9_event_72 flX9_38 (by decide) rfl hx0 ?_
              refine g_aload_n 0 dX9_event_75 rfl ?_
              refine g_getI dX9_event_76 flX9_366 (by decide) rfl hx0 ?_
              refine g_iload_n 1 dX9_event_79 rfl ?_
              obtain ⟨c26, h⟩ := chk_some h
              refine g_iast dX9_event_80 (sf_8_12 hx0) c26.1 c26.2 ?_
              refine g_nmM (fun M27 eM27 => ?_)
              replace h := nm_s eM27 h
              refine g_aload_n 0 dX9_event_81 rfl ?_
              refine g_getR dX9_event_82 flX9_41 (by decide) rfl hx0 ?_
              refine g_pc (pc' := 85) rfl ?_
              refine g_aload_n 0 dX9_event_85 rfl ?_
              refine g_getI dX9_event_86 flX9_366 (by decide) rfl hx0 ?_
              refine g_iload_n 2 dX9_event_89 rfl ?_
              obtain ⟨c28, h⟩ := chk_some h
              refine g_iast dX9_event_90 (sf_8_13 hx0) c28.1 c28.2 ?_
              refine g_nmM (fun M29 eM29 => ?_)
              replace h := nm_s eM29 h
              refine g_aload_n 0 dX9_event_91 rfl ?_
              refine g_dupR dX9_event_92 ?_
              refine g_getI dX9_event_93 flX9_366 (by decide) rfl hx0 ?_
              refine g_iconst (v := 1) dX9_event_96 rfl (i32l rfl) ?_
              obtain ⟨c30, h⟩ := chk_some h
              refine g_iadd dX9_event_97 rfl c30 ?_
              refine g_pc (pc' := 98) rfl ?_
              refine g_putI dX9_event_98 flX9_366 (by decide) rfl hx0 ?_
              refine g_nmM (fun M31 eM31 => ?_)
              replace h := nm_s eM31 h
              refine g_aload_n 0 dX9_event_101 rfl ?_
              refine g_getI dX9_event_102 flX9_366 (by decide) rfl hx0 ?_
              cases h
              exact g_ireturn dX9_event_105 rfl ⟨rfl, rfl⟩
            · replace h := ifp b25 h
              refine g_pc (pc' := 68) rfl ?_
              refine g_bip dX9_event_68 rfl ?_
              cases h
              exact g_ireturn dX9_event_70 rfl ⟨rfl, rfl⟩
          · replace h := ifp b24 h
            refine g_pc (pc' := 44) rfl ?_
            refine g_iload_n 2 dX9_event_44 rfl ?_
            refine g_i2l dX9_event_45 ?_
            refine g_lconst (v := 1) dX9_event_46 rfl (i64l rfl) ?_
            refine g_ldc2 (v := 7) dX9_event_47 csX9_216 (by decide +kernel) (i64l rfl) ?_
            obtain ⟨q32, hq32, h⟩ := bnd_some h
            refine s_I (as := [XL x2, XL 1, XL 7]) dX9_event_50 mlX9_170 mdX9_in msX9_in rfl (Nat.le_of_ble_eq_true rfl) (kX9_in  hq32) rfl ?_
            refine g_if_ne (tgt := 59) dX9_event_53 (by decide) (fun b33 => ?_) (fun b33 => ?_)
            · replace h := ifn b33 h
              refine g_aload_n 0 dX9_event_59 rfl ?_
              refine g_getI dX9_event_60 flX9_366 (by decide) rfl hx0 ?_
              refine g_bip dX9_event_63 rfl ?_
              refine g_icmp_ne (tgt := 71) dX9_event_65 (by decide) (fun b34 => ?_) (fun b34 => ?_)
              · replace h := ifn b34 h
                refine g_aload_n 0 dX9_event_71 rfl ?_
                refine g_getR dX9_event_72 flX9_38 (by decide) rfl hx0 ?_
                refine g_aload_n 0 dX9_event_75 rfl ?_
                refine g_getI dX9_event_76 flX9_366 (by decide) rfl hx0 ?_
                refine g_iload_n 1 dX9_event_79 rfl ?_
                obtain ⟨c35, h⟩ := chk_some h
                refine g_iast dX9_event_80 (sf_8_12 hx0) c35.1 c35.2 ?_
                refine g_nmM (fun M36 eM36 => ?_)
                replace h := nm_s eM36 h
                refine g_aload_n 0 dX9_event_81 rfl ?_
                refine g_getR dX9_event_82 flX9_41 (by decide) rfl hx0 ?_
                refine g_pc (pc' := 85) rfl ?_
                refine g_aload_n 0 dX9_event_85 rfl ?_
                refine g_getI dX9_event_86 flX9_366 (by decide) rfl hx0 ?_
                refine g_iload_n 2 dX9_event_89 rfl ?_
                obtain ⟨c37, h⟩ := chk_some h
                refine g_iast dX9_event_90 (sf_8_13 hx0) c37.1 c37.2 ?_
                refine g_nmM (fun M38 eM38 => ?_)
                replace h := nm_s eM38 h
                refine g_aload_n 0 dX9_event_91 rfl ?_
                refine g_dupR dX9_event_92 ?_
                refine g_getI dX9_event_93 flX9_366 (by decide) rfl hx0 ?_
                refine g_iconst (v := 1) dX9_event_96 rfl (i32l rfl) ?_
                obtain ⟨c39, h⟩ := chk_some h
                refine g_iadd dX9_event_97 rfl c39 ?_
                refine g_pc (pc' := 98) rfl ?_
                refine g_putI dX9_event_98 flX9_366 (by decide) rfl hx0 ?_
                refine g_nmM (fun M40 eM40 => ?_)
                replace h := nm_s eM40 h
                refine g_aload_n 0 dX9_event_101 rfl ?_
                refine g_getI dX9_event_102 flX9_366 (by decide) rfl hx0 ?_
                cases h
                exact g_ireturn dX9_event_105 rfl ⟨rfl, rfl⟩
              · replace h := ifp b34 h
                refine g_pc (pc' := 68) rfl ?_
                refine g_bip dX9_event_68 rfl ?_
                cases h
                exact g_ireturn dX9_event_70 rfl ⟨rfl, rfl⟩
            · replace h := ifp b33 h
              refine g_pc (pc' := 56) rfl ?_
              refine g_bip dX9_event_56 rfl ?_
              cases h
              exact g_ireturn dX9_event_58 rfl ⟨rfl, rfl⟩
        · replace h := ifp b23 h
          refine g_pc (pc' := 37) rfl ?_
          refine g_iconst (v := -1) dX9_event_37 rfl (i32l rfl) ?_
          cases h
          exact g_ireturn dX9_event_38 rfl ⟨rfl, rfl⟩
  · replace h := ifp b1 h
    refine g_pc (pc' := 5) rfl ?_
    refine g_aload_n 0 dX9_event_5 rfl ?_
    refine g_iconst (v := 0) dX9_event_6 rfl (i32l rfl) ?_
    refine g_putI dX9_event_7 flX9_366 (by decide) rfl hx0 ?_
    refine g_nmM (fun M41 eM41 => ?_)
    replace h := nm_s eM41 h
    refine g_iconst (v := 0) dX9_event_10 rfl (i32l rfl) ?_
    cases h
    exact g_ireturn dX9_event_11 rfl ⟨rfl, rfl⟩
def fX9_happens_l32 (x0 : Nat) (x1 : Int) (x2 : Int) : Nat → Int → Mem → Option (Int × Mem)
  | 0, _, _ => none
  | n + 1, x3, M => (if x1 = 3 then (if (M x0 1) ≤ x3 then some (x3, M) else if 0 ≤ x3 ∧ x3 < 25 then Option.bind (fX9_left x0 (M (x0 + 5) (Int.toNat x3)) M) (fun q24 => nm (q24.1) (fun v25 => Option.bind ((if v25 ≤ 0 then some (q24.2) else Option.bind (fX9_digitAt v25 0 q24.2) (fun q34 => if -2147483648 ≤ (x2 + 1) ∧ (x2 + 1) ≤ 2147483647 then (if q34.1 = (x2 + 1) then if 0 ≤ x3 ∧ x3 < 25 then nm (wr q34.2 (x0 + 6) (Int.toNat x3) 0) (fun M38 => some (M38)) else none else some (q34.2)) else none)) : Option (Mem)) (fun t32 => if -2147483648 ≤ (x3 + 1) ∧ (x3 + 1) ≤ 2147483647 then fX9_happens_l32 x0 x1 x2 n (x3 + 1) t32 else none))) else none) else some (x3, M))
def fX9_happens (x0 : Nat) (x1 : Int) (x2 : Int) (M : Mem) : Option (Int × Mem) := Option.bind ((if 2 ≤ x1 then some (M) else Option.bind ((if x1 = 0 then some (1) else some (0)) : Option (Int)) (fun t11 => if 0 ≤ x2 ∧ x2 < 8 then if t11 = 0 ∨ t11 = 1 then nm (wr M (x0 + 3) (Int.toNat x2) t11) (fun M15 => some (M15)) else none else none)) : Option (Mem)) (fun t8 => Option.bind ((if x1 = 2 then nm (wr t8 x0 6 x2) (fun M20 => some (M20)) else some (t8)) : Option (Mem)) (fun t18 => Option.bind (fX9_happens_l32 x0 x1 x2 1000 0 t18) (fun z40 => some (0, z40.2))))
set_option maxRecDepth 20000 in
theorem lX9_happens_l32 {X : XC} {d : Nat} {Post : Option XV → Mem → Prop} {x0 : Nat} {x1 : Int} {x2 : Int} (hx0 : Sh x0 = (18, 69)) : ∀ (n : Nat) (x3 : Int) (M : Mem) (t0 : Int × Mem), fX9_happens_l32 x0 x1 x2 n x3 M = some t0 → Go X mX9_happens (d + 3) 87 [] [] t0.2 Post → Go X mX9_happens (d + 3) 32 [(0, XR x0), (1, XI x1), (2, XI x2), (3, XI x3)] [] M Post := by
  intro n
  induction n with
  | zero => intro _ _ _ h; cases h
  | succ n ih =>
    intro x3 M t0 h K
    unfold fX9_happens_l32 at h
    refine g_iload_n 1 dX9_happens_32 rfl ?_
    refine g_iconst (v := 3) dX9_happens_33 rfl (i32l rfl) ?_
    refine g_icmp_ne (tgt := 87) dX9_happens_34 (by decide) (fun b21 => ?_) (fun b21 => ?_)
    · replace h := ifn b21 h
      cases h
      exact g_sub [] rfl K
    · replace h := ifp b21 h
      refine g_pc (pc' := 37) rfl ?_
      refine g_iload_n 3 dX9_happens_37 rfl ?_
      refine g_aload_n 0 dX9_happens_38 rfl ?_
      refine g_getI dX9_happens_39 flX9_174 (by decide) rfl hx0 ?_
      refine g_icmp_ge (tgt := 87) dX9_happens_42 (by decide) (fun b22 => ?_) (fun b22 => ?_)
      · replace h := ifp b22 h
        cases h
        exact g_sub [] rfl K
      · replace h := ifn b22 h
        refine g_pc (pc' := 45) rfl ?_
        refine g_aload_n 0 dX9_happens_45 rfl ?_
        refine g_aload_n 0 dX9_happens_46 rfl ?_
        refine g_getR dX9_happens_47 flX9_19 (by decide) rfl hx0 ?_
        refine g_iload_n 3 dX9_happens_50 rfl ?_
        obtain ⟨c23, h⟩ := chk_some h
        refine g_iald dX9_happens_51 (sf_8_4 hx0) c23.1 c23.2 ?_
        obtain ⟨q24, hq24, h⟩ := bnd_some h
        refine v_I (ci := 8) (as := [XI (M (x0 + 5) (Int.toNat x3))]) dX9_happens_52 mlX9_228 mdX9_left mvX9_left rfl hx0 rfl (Nat.le_of_ble_eq_true rfl) (kX9_left hx0 hq24) rfl ?_
        refine g_nmI (fun v25 ev25 => ?_)
        replace h := nm_s ev25 h
        refine g_istore (ls' := [(4, XI v25), (0, XR x0), (1, XI x1), (2, XI x2), (3, XI x3)]) dX9_happens_55 (by decide) rfl ?_
        refine g_iload 0 dX9_happens_57 rfl ?_
        refine g_pc (pc' := 59) rfl ?_
        obtain ⟨t32, ht32, h⟩ := bnd_some h
        have Kt32 : Go X mX9_happens (d + 3) 81 [(0, XR x0), (1, XI x1), (2, XI x2), (3, XI x3)] [] t32 Post := by
          obtain ⟨c39, h⟩ := chk_some h
          refine g_iinc (ls' := [(3, XI (x3 + 1)), (0, XR x0), (1, XI x1), (2, XI x2)]) 3 dX9_happens_81 rfl rfl c39 (by decide) rfl ?_
          refine g_goto (tgt := 32) dX9_happens_84 (by decide) ?_
          exact g_sub [1, 2, 3, 0] rfl (ih _ _ _ h K)
        refine g_if_le (tgt := 81) dX9_happens_59 (by decide) (fun b33 => ?_) (fun b33 => ?_)
        · replace ht32 := ifp b33 ht32
          cases ht32
          exact g_sub [1, 2, 3, 4] rfl Kt32
        · replace ht32 := ifn b33 ht32
          refine g_pc (pc' := 62) rfl ?_
          refine g_iload 0 dX9_happens_62 rfl ?_
          refine g_iconst (v := 0) dX9_happens_64 rfl (i32l rfl) ?_
          obtain ⟨q34, hq34, ht32⟩ := bnd_some ht32
          refine s_I (as := [XI v25, XI 0]) dX9_happens_65 mlX9_181 mdX9_digitAt msX9_digitAt rfl (Nat.le_of_ble_eq_true rfl) (kX9_digitAt  hq34) rfl ?_
          refine g_iload_n 3 dX9_happens_68 rfl ?_
          refine g_iconst (v := 1) dX9_happens_69 rfl (i32l rfl) ?_
          obtain ⟨c35, ht32⟩ := chk_some ht32
          refine g_iadd dX9_happens_70 rfl c35 ?_
          refine g_icmp_ne (tgt := 81) dX9_happens_71 (by decide) (fun b36 => ?_) (fun b36 => ?_)
          · replace ht32 := ifn b36 ht32
            cases ht32
            exact g_sub [1, 2, 3, 4] rfl Kt32
          · replace ht32 := ifp b36 ht32
            refine g_pc (pc' := 74) rfl ?_
            refine g_aload_n 1 dX9_happens_74 rfl ?_
            refine g_getR dX9_happens_75 flX9_22 (by decide) rfl hx0 ?_
            refine g_iload_n 4 dX9_happens_78 rfl ?_
            refine g_iconst (v := 0) dX9_happens_79 rfl (i32l rfl) ?_
            obtain ⟨c37, ht32⟩ := chk_some ht32
            refine g_iast dX9_happens_80 (sf_8_5 hx0) c37.1 c37.2 ?_
            refine g_nmM (fun M38 eM38 => ?_)
            replace ht32 := nm_s eM38 ht32
            cases ht32
            exact g_sub [1, 2, 3, 4] rfl Kt32
set_option maxRecDepth 20000 in
theorem kX9_happens {X : XC} {d : Nat} {x0 : Nat} {x1 : Int} {x2 : Int} (hx0 : Sh x0 = (18, 69)) {M : Mem} {q : Int × Mem} (h : fX9_happens x0 x1 x2 M = some q) : Ct X mX9_happens (d + 3) [XR x0, XI x1, XI x2] M (pV q) := by
  unfold fX9_happens at h
  refine ct_go (by decide +kernel) (Nat.le_of_ble_eq_true rfl) (ls := [(0, XR x0), (1, XI x1), (2, XI x2)]) rfl ?_
  refine g_iload_n 1 dX9_happens_0 rfl ?_
  refine g_iconst (v := 2) dX9_happens_1 rfl (i32l rfl) ?_
  obtain ⟨t8, ht8, h⟩ := bnd_some h
  have Kt8 : Go X mX9_happens (d + 3) 20 [(0, XR x0), (1, XI x1), (2, XI x2)] [] t8 (pV q) := by
    refine g_iload_n 1 dX9_happens_20 rfl ?_
    refine g_iconst (v := 2) dX9_happens_21 rfl (i32l rfl) ?_
    obtain ⟨t18, ht18, h⟩ := bnd_some h
    have Kt18 : Go X mX9_happens (d + 3) 30 [(0, XR x0), (1, XI x1), (2, XI x2)] [] t18 (pV q) := by
      refine g_iconst (v := 0) dX9_happens_30 rfl (i32l rfl) ?_
      refine g_istore_n (ls' := [(3, XI 0), (0, XR x0), (1, XI x1), (2, XI x2)]) dX9_happens_31 (by decide) rfl ?_
      obtain ⟨z40, hz40, h⟩ := bnd_some h
      refine g_sub (ls' := [(0, XR x0), (1, XI x1), (2, XI x2), (3, XI 0)]) [1, 2, 3, 0] rfl ?_
      refine lX9_happens_l32 hx0 1000 _ _ _ hz40 ?_
      cases h
      exact g_return dX9_happens_87 rfl ⟨rfl, rfl⟩
    refine g_icmp_ne (tgt := 30) dX9_happens_22 (by decide) (fun b19 => ?_) (fun b19 => ?_)
    · replace ht18 := ifn b19 ht18
      cases ht18
      exact g_sub [0, 1, 2] rfl Kt18
    · replace ht18 := ifp b19 ht18
      refine g_pc (pc' := 25) rfl ?_
      refine g_aload_n 0 dX9_happens_25 rfl ?_
      refine g_iload_n 2 dX9_happens_26 rfl ?_
      refine g_putI dX9_happens_27 flX9_25 (by decide) rfl hx0 ?_
      refine g_nmM (fun M20 eM20 => ?_)
      replace ht18 := nm_s eM20 ht18
      cases ht18
      exact g_sub [0, 1, 2] rfl Kt18
  refine g_icmp_ge (tgt := 20) dX9_happens_2 (by decide) (fun b9 => ?_) (fun b9 => ?_)
  · replace ht8 := ifp b9 ht8
    cases ht8
    exact g_sub [0, 1, 2] rfl Kt8
  · replace ht8 := ifn b9 ht8
    refine g_pc (pc' := 5) rfl ?_
    refine g_aload_n 0 dX9_happens_5 rfl ?_
    refine g_getR dX9_happens_6 flX9_11 (by decide) rfl hx0 ?_
    refine g_iload_n 2 dX9_happens_9 rfl ?_
    refine g_iload_n 1 dX9_happens_10 rfl ?_
    obtain ⟨t11, ht11, ht8⟩ := bnd_some ht8
    have Kt11 : Go X mX9_happens (d + 3) 19 [(0, XR x0), (1, XI x1), (2, XI x2)] [XI t11, XI x2, XR (x0 + 3)] M (pV q) := by
      obtain ⟨c13, ht8⟩ := chk_some ht8
      obtain ⟨c14, ht8⟩ := chk_some ht8
      refine g_zast dX9_happens_19 (sf_8_2 hx0) c13.1 c13.2 c14 ?_
      refine g_nmM (fun M15 eM15 => ?_)
      replace ht8 := nm_s eM15 ht8
      cases ht8
      exact g_sub [0, 1, 2] rfl Kt8
    refine g_if_ne (tgt := 18) dX9_happens_11 (by decide) (fun b12 => ?_) (fun b12 => ?_)
    · replace ht11 := ifn b12 ht11
      refine g_iconst (v := 0) dX9_happens_18 rfl (i32l rfl) ?_
      cases ht11
      exact g_sub [0, 1, 2] rfl Kt11
    · replace ht11 := ifp b12 ht11
      refine g_pc (pc' := 14) rfl ?_
      refine g_iconst (v := 1) dX9_happens_14 rfl (i32l rfl) ?_
      refine g_goto (tgt := 19) dX9_happens_15 (by decide) ?_
      cases ht11
      exact g_sub [0, 1, 2] rfl Kt11
def fX9_after_l37 (x0 : Nat) (x1 : Int) : Nat → Int → Mem → Option (Int × Mem)
  | 0, _, _ => none
  | n + 1, x2, M => (if (M x0 10) ≤ x2 then some (x2, M) else if 0 ≤ x2 ∧ x2 < 8 then if 0 ≤ x2 ∧ x2 < 8 then Option.bind (fX9_happens x0 (M (x0 + 13) (Int.toNat x2)) (M (x0 + 14) (Int.toNat x2)) M) (fun q9 => if -2147483648 ≤ (x2 + 1) ∧ (x2 + 1) ≤ 2147483647 then fX9_after_l37 x0 x1 n (x2 + 1) q9.2 else none) else none else none)
def fX9_after (x0 : Nat) (M : Mem) : Option (Int × Mem) := nm ((M x0 6)) (fun v1 => if 0 ≤ 0 ∧ 0 ≤ 0 ∧ 0 ≤ 8 ∧ 0 + 8 ≤ 8 ∧ 0 + 8 ≤ 8 then nm (cpM M (x0 + 3) (Int.toNat 0) (x0 + 44) (Int.toNat 0) (Int.toNat 8)) (fun M3 => if 0 ≤ 0 ∧ 0 ≤ 0 ∧ 0 ≤ 25 ∧ 0 + 25 ≤ 25 ∧ 0 + 25 ≤ 25 then nm (cpM M3 (x0 + 6) (Int.toNat 0) (x0 + 45) (Int.toNat 0) (Int.toNat 25)) (fun M5 => Option.bind (fX9_after_l37 x0 v1 1000 0 M5) (fun z11 => Option.bind (fX9_electedSet x0 z11.2) (fun q12 => nm (q12.1) (fun v13 => nm (wr q12.2 x0 6 v1) (fun M14 => if 0 ≤ 0 ∧ 0 ≤ 0 ∧ 0 ≤ 8 ∧ 0 + 8 ≤ 8 ∧ 0 + 8 ≤ 8 then nm (cpM M14 (x0 + 44) (Int.toNat 0) (x0 + 3) (Int.toNat 0) (Int.toNat 8)) (fun M16 => if 0 ≤ 0 ∧ 0 ≤ 0 ∧ 0 ≤ 25 ∧ 0 + 25 ≤ 25 ∧ 0 + 25 ≤ 25 then nm (cpM M16 (x0 + 45) (Int.toNat 0) (x0 + 6) (Int.toNat 0) (Int.toNat 25)) (fun M18 => some (v13, M18)) else none) else none))))) else none) else none)
set_option maxRecDepth 20000 in
theorem lX9_after_l37 {X : XC} {d : Nat} {Post : Option XV → Mem → Prop} {x0 : Nat} {x1 : Int} (hx0 : Sh x0 = (18, 69)) : ∀ (n : Nat) (x2 : Int) (M : Mem) (t0 : Int × Mem), fX9_after_l37 x0 x1 n x2 M = some t0 → Go X mX9_after (d + 7) 67 [(0, XR x0), (1, XI x1)] [] t0.2 Post → Go X mX9_after (d + 7) 37 [(0, XR x0), (1, XI x1), (2, XI x2)] [] M Post := by
  intro n
  induction n with
  | zero => intro _ _ _ h; cases h
  | succ n ih =>
    intro x2 M t0 h K
    unfold fX9_after_l37 at h
    refine g_iload_n 2 dX9_after_37 rfl ?_
    refine g_aload_n 0 dX9_after_38 rfl ?_
    refine g_getI dX9_after_39 flX9_366 (by decide) rfl hx0 ?_
    refine g_icmp_ge (tgt := 67) dX9_after_42 (by decide) (fun b6 => ?_) (fun b6 => ?_)
    · replace h := ifp b6 h
      cases h
      exact g_sub [0, 1] rfl K
    · replace h := ifn b6 h
      refine g_pc (pc' := 45) rfl ?_
      refine g_aload_n 0 dX9_after_45 rfl ?_
      refine g_aload_n 0 dX9_after_46 rfl ?_
      refine g_getR dX9_after_47 flX9_38 (by decide) rfl hx0 ?_
      refine g_iload_n 2 dX9_after_50 rfl ?_
      obtain ⟨c7, h⟩ := chk_some h
      refine g_iald dX9_after_51 (sf_8_12 hx0) c7.1 c7.2 ?_
      refine g_aload_n 0 dX9_after_52 rfl ?_
      refine g_getR dX9_after_53 flX9_41 (by decide) rfl hx0 ?_
      refine g_iload_n 2 dX9_after_56 rfl ?_
      refine g_pc (pc' := 57) rfl ?_
      obtain ⟨c8, h⟩ := chk_some h
      refine g_iald dX9_after_57 (sf_8_13 hx0) c8.1 c8.2 ?_
      obtain ⟨q9, hq9, h⟩ := bnd_some h
      refine v_V (ci := 8) (as := [XI (M (x0 + 13) (Int.toNat x2)), XI (M (x0 + 14) (Int.toNat x2))]) dX9_after_58 mlX9_369 mdX9_happens mvX9_happens rfl hx0 rfl (Nat.le_of_ble_eq_true rfl) (kX9_happens hx0 hq9) rfl ?_
      obtain ⟨c10, h⟩ := chk_some h
      refine g_iinc (ls' := [(2, XI (x2 + 1)), (0, XR x0), (1, XI x1)]) 2 dX9_after_61 rfl rfl c10 (by decide) rfl ?_
      refine g_goto (tgt := 37) dX9_after_64 (by decide) ?_
      exact g_sub [1, 2, 0] rfl (ih _ _ _ h K)
set_option maxRecDepth 20000 in
theorem kX9_after {X : XC} {d : Nat} {x0 : Nat} (hx0 : Sh x0 = (18, 69)) {M : Mem} {q : Int × Mem} (h : fX9_after x0 M = some q) : Ct X mX9_after (d + 7) [XR x0] M (pI q) := by
  unfold fX9_after at h
  refine ct_go (by decide +kernel) (Nat.le_of_ble_eq_true rfl) (ls := [(0, XR x0)]) rfl ?_
  refine g_aload_n 0 dX9_after_0 rfl ?_
  refine g_getI dX9_after_1 flX9_25 (by decide) rfl hx0 ?_
  refine g_nmI (fun v1 ev1 => ?_)
  replace h := nm_s ev1 h
  refine g_istore_n (ls' := [(1, XI v1), (0, XR x0)]) dX9_after_4 (by decide) rfl ?_
  refine g_aload_n 1 dX9_after_5 rfl ?_
  refine g_getR dX9_after_6 flX9_11 (by decide) rfl hx0 ?_
  refine g_iconst (v := 0) dX9_after_9 rfl (i32l rfl) ?_
  refine g_aload_n 1 dX9_after_10 rfl ?_
  refine g_getR dX9_after_11 flX9_108 (by decide) rfl hx0 ?_
  refine g_pc (pc' := 14) rfl ?_
  refine g_iconst (v := 0) dX9_after_14 rfl (i32l rfl) ?_
  refine g_bip dX9_after_15 rfl ?_
  obtain ⟨c2, h⟩ := chk_some h
  refine g_copy dX9_after_17 mlX9_332 (sf_8_2 hx0) (sf_8_43 hx0) (by decide) c2.1 c2.2.1 c2.2.2.1 c2.2.2.2.1 c2.2.2.2.2 (Nat.le_of_ble_eq_true rfl) ?_
  refine g_nmM (fun M3 eM3 => ?_)
  replace h := nm_s eM3 h
  refine g_aload_n 1 dX9_after_20 rfl ?_
  refine g_getR dX9_after_21 flX9_22 (by decide) rfl hx0 ?_
  refine g_iconst (v := 0) dX9_after_24 rfl (i32l rfl) ?_
  refine g_aload_n 1 dX9_after_25 rfl ?_
  refine g_getR dX9_after_26 flX9_111 (by decide) rfl hx0 ?_
  refine g_iconst (v := 0) dX9_after_29 rfl (i32l rfl) ?_
  refine g_pc (pc' := 30) rfl ?_
  refine g_bip dX9_after_30 rfl ?_
  obtain ⟨c4, h⟩ := chk_some h
  refine g_copy dX9_after_32 mlX9_332 (sf_8_5 hx0) (sf_8_44 hx0) (by decide) c4.1 c4.2.1 c4.2.2.1 c4.2.2.2.1 c4.2.2.2.2 (Nat.le_of_ble_eq_true rfl) ?_
  refine g_nmM (fun M5 eM5 => ?_)
  replace h := nm_s eM5 h
  refine g_iconst (v := 0) dX9_after_35 rfl (i32l rfl) ?_
  refine g_istore_n (ls' := [(2, XI 0), (1, XI v1), (0, XR x0)]) dX9_after_36 (by decide) rfl ?_
  obtain ⟨z11, hz11, h⟩ := bnd_some h
  refine g_sub (ls' := [(0, XR x0), (1, XI v1), (2, XI 0)]) [2, 1, 0] rfl ?_
  refine lX9_after_l37 hx0 1000 _ _ _ hz11 ?_
  refine g_aload_n 0 dX9_after_67 rfl ?_
  obtain ⟨q12, hq12, h⟩ := bnd_some h
  refine v_I (ci := 8) (as := []) dX9_after_68 mlX9_320 mdX9_electedSet mvX9_electedSet rfl hx0 rfl (Nat.le_of_ble_eq_true rfl) (kX9_electedSet hx0 hq12) rfl ?_
  refine g_nmI (fun v13 ev13 => ?_)
  replace h := nm_s ev13 h
  refine g_istore_n (ls' := [(2, XI v13), (0, XR x0), (1, XI v1)]) dX9_after_71 (by decide) rfl ?_
  refine g_aload_n 1 dX9_after_72 rfl ?_
  refine g_iload_n 2 dX9_after_73 rfl ?_
  refine g_putI dX9_after_74 flX9_25 (by decide) rfl hx0 ?_
  refine g_nmM (fun M14 eM14 => ?_)
  replace h := nm_s eM14 h
  refine g_aload_n 1 dX9_after_77 rfl ?_
  refine g_getR dX9_after_78 flX9_108 (by decide) rfl hx0 ?_
  refine g_pc (pc' := 81) rfl ?_
  refine g_iconst (v := 0) dX9_after_81 rfl (i32l rfl) ?_
  refine g_aload_n 1 dX9_after_82 rfl ?_
  refine g_getR dX9_after_83 flX9_11 (by decide) rfl hx0 ?_
  refine g_iconst (v := 0) dX9_after_86 rfl (i32l rfl) ?_
  refine g_bip dX9_after_87 rfl ?_
  obtain ⟨c15, h⟩ := chk_some h
  refine g_copy dX9_after_89 mlX9_332 (sf_8_43 hx0) (sf_8_2 hx0) (by decide) c15.1 c15.2.1 c15.2.2.1 c15.2.2.2.1 c15.2.2.2.2 (Nat.le_of_ble_eq_true rfl) ?_
  refine g_nmM (fun M16 eM16 => ?_)
  replace h := nm_s eM16 h
  refine g_aload_n 1 dX9_after_92 rfl ?_
  refine g_getR dX9_after_93 flX9_111 (by decide) rfl hx0 ?_
  refine g_iconst (v := 0) dX9_after_96 rfl (i32l rfl) ?_
  refine g_pc (pc' := 97) rfl ?_
  refine g_aload_n 1 dX9_after_97 rfl ?_
  refine g_getR dX9_after_98 flX9_22 (by decide) rfl hx0 ?_
  refine g_iconst (v := 0) dX9_after_101 rfl (i32l rfl) ?_
  refine g_bip dX9_after_102 rfl ?_
  obtain ⟨c17, h⟩ := chk_some h
  refine g_copy dX9_after_104 mlX9_332 (sf_8_44 hx0) (sf_8_5 hx0) (by decide) c17.1 c17.2.1 c17.2.2.1 c17.2.2.2.1 c17.2.2.2.2 (Nat.le_of_ble_eq_true rfl) ?_
  refine g_nmM (fun M18 eM18 => ?_)
  replace h := nm_s eM18 h
  refine g_iload_n 0 dX9_after_107 rfl ?_
  cases h
  exact g_ireturn dX9_after_108 rfl ⟨rfl, rfl⟩
def fX9_feed (x0 : Nat) (x1 : Int) (M : Mem) : Option (Int × Mem) := Option.bind (fX9_in x1 0 127 M) (fun q1 => (if q1.1 = 0 then some ((-2), q1.2) else (if (q1.2 x0 46) = 100 then some ((-4), q1.2) else if 0 ≤ (q1.2 x0 46) ∧ (q1.2 x0 46) < 100 then nm (wr q1.2 (x0 + 46) (Int.toNat (q1.2 x0 46)) x1) (fun M5 => if -2147483648 ≤ ((M5 x0 46) + 1) ∧ ((M5 x0 46) + 1) ≤ 2147483647 then nm (wr M5 x0 46 ((M5 x0 46) + 1)) (fun M7 => some ((M7 x0 46), M7)) else none) else none)))
set_option maxRecDepth 20000 in
theorem kX9_feed {X : XC} {d : Nat} {x0 : Nat} {x1 : Int} (hx0 : Sh x0 = (18, 69)) {M : Mem} {q : Int × Mem} (h : fX9_feed x0 x1 M = some q) : Ct X mX9_feed (d + 1) [XR x0, XI x1] M (pI q) := by
  unfold fX9_feed at h
  refine ct_go (by decide +kernel) (Nat.le_of_ble_eq_true rfl) (ls := [(0, XR x0), (1, XI x1)]) rfl ?_
  refine g_iload_n 1 dX9_feed_0 rfl ?_
  refine g_i2l dX9_feed_1 ?_
  refine g_lconst (v := 0) dX9_feed_2 rfl (i64l rfl) ?_
  refine g_ldc2 (v := 127) dX9_feed_3 csX9_372 (by decide +kernel) (i64l rfl) ?_
  obtain ⟨q1, hq1, h⟩ := bnd_some h
  refine s_I (as := [XL x1, XL 0, XL 127]) dX9_feed_6 mlX9_170 mdX9_in msX9_in rfl (Nat.le_of_ble_eq_true rfl) (kX9_in  hq1) rfl ?_
  refine g_if_ne (tgt := 15) dX9_feed_9 (by decide) (fun b2 => ?_) (fun b2 => ?_)
  · replace h := ifn b2 h
    refine g_aload_n 0 dX9_feed_15 rfl ?_
    refine g_getI dX9_feed_16 flX9_374 (by decide) rfl hx0 ?_
    refine g_bip dX9_feed_19 rfl ?_
    refine g_icmp_ne (tgt := 27) dX9_feed_21 (by decide) (fun b3 => ?_) (fun b3 => ?_)
    · replace h := ifn b3 h
      refine g_aload_n 0 dX9_feed_27 rfl ?_
      refine g_getR dX9_feed_28 flX9_114 (by decide) rfl hx0 ?_
      refine g_aload_n 0 dX9_feed_31 rfl ?_
      refine g_getI dX9_feed_32 flX9_374 (by decide) rfl hx0 ?_
      refine g_iload_n 1 dX9_feed_35 rfl ?_
      obtain ⟨c4, h⟩ := chk_some h
      refine g_iast dX9_feed_36 (sf_8_45 hx0) c4.1 c4.2 ?_
      refine g_nmM (fun M5 eM5 => ?_)
      replace h := nm_s eM5 h
      refine g_aload_n 0 dX9_feed_37 rfl ?_
      refine g_dupR dX9_feed_38 ?_
      refine g_pc (pc' := 39) rfl ?_
      refine g_getI dX9_feed_39 flX9_374 (by decide) rfl hx0 ?_
      refine g_iconst (v := 1) dX9_feed_42 rfl (i32l rfl) ?_
      obtain ⟨c6, h⟩ := chk_some h
      refine g_iadd dX9_feed_43 rfl c6 ?_
      refine g_putI dX9_feed_44 flX9_374 (by decide) rfl hx0 ?_
      refine g_nmM (fun M7 eM7 => ?_)
      replace h := nm_s eM7 h
      refine g_aload_n 0 dX9_feed_47 rfl ?_
      refine g_getI dX9_feed_48 flX9_374 (by decide) rfl hx0 ?_
      cases h
      exact g_ireturn dX9_feed_51 rfl ⟨rfl, rfl⟩
    · replace h := ifp b3 h
      refine g_pc (pc' := 24) rfl ?_
      refine g_bip dX9_feed_24 rfl ?_
      cases h
      exact g_ireturn dX9_feed_26 rfl ⟨rfl, rfl⟩
  · replace h := ifp b2 h
    refine g_pc (pc' := 12) rfl ?_
    refine g_bip dX9_feed_12 rfl ?_
    cases h
    exact g_ireturn dX9_feed_14 rfl ⟨rfl, rfl⟩
def fX9_signAt (x0 : Nat) (x1 : Int) (M : Mem) : Option (Int × Mem) := Option.bind ((if (M x0 46) ≤ x1 then some ((-1)) else if 0 ≤ x1 ∧ x1 < 100 then some ((M (x0 + 46) (Int.toNat x1))) else none) : Option (Int)) (fun t3 => some (t3, M))
set_option maxRecDepth 20000 in
theorem kX9_signAt {X : XC} {d : Nat} {x0 : Nat} {x1 : Int} (hx0 : Sh x0 = (18, 69)) {M : Mem} {q : Int × Mem} (h : fX9_signAt x0 x1 M = some q) : Ct X mX9_signAt d [XR x0, XI x1] M (pI q) := by
  unfold fX9_signAt at h
  refine ct_go (by decide +kernel) (Nat.le_of_ble_eq_true rfl) (ls := [(0, XR x0), (1, XI x1)]) rfl ?_
  refine g_iload_n 1 dX9_signAt_0 rfl ?_
  refine g_aload_n 0 dX9_signAt_1 rfl ?_
  refine g_getI dX9_signAt_2 flX9_374 (by decide) rfl hx0 ?_
  obtain ⟨t3, ht3, h⟩ := bnd_some h
  have Kt3 : Go X mX9_signAt d 18 [] [XI t3] M (pI q) := by
    cases h
    exact g_ireturn dX9_signAt_18 rfl ⟨rfl, rfl⟩
  refine g_icmp_ge (tgt := 17) dX9_signAt_5 (by decide) (fun b4 => ?_) (fun b4 => ?_)
  · replace ht3 := ifp b4 ht3
    refine g_iconst (v := -1) dX9_signAt_17 rfl (i32l rfl) ?_
    cases ht3
    exact g_sub [] rfl Kt3
  · replace ht3 := ifn b4 ht3
    refine g_pc (pc' := 8) rfl ?_
    refine g_aload_n 0 dX9_signAt_8 rfl ?_
    refine g_getR dX9_signAt_9 flX9_114 (by decide) rfl hx0 ?_
    refine g_iload_n 1 dX9_signAt_12 rfl ?_
    obtain ⟨c5, ht3⟩ := chk_some ht3
    refine g_iald dX9_signAt_13 (sf_8_45 hx0) c5.1 c5.2 ?_
    refine g_goto (tgt := 18) dX9_signAt_14 (by decide) ?_
    cases ht3
    exact g_sub [] rfl Kt3
def fX9_fails (x0 : Nat) (x1 : Int) (M : Mem) : Option (Int × Mem) := (if (M x0 48) < 0 then nm (wr M x0 48 (M x0 47)) (fun M2 => if x1 = 0 ∨ x1 = 1 then nm (wr M2 x0 51 x1) (fun M4 => some (0, M4)) else none) else some (0, M))
set_option maxRecDepth 20000 in
theorem kX9_fails {X : XC} {d : Nat} {x0 : Nat} {x1 : Int} (hx0 : Sh x0 = (18, 69)) {M : Mem} {q : Int × Mem} (h : fX9_fails x0 x1 M = some q) : Ct X mX9_fails d [XR x0, XI x1] M (pV q) := by
  unfold fX9_fails at h
  refine ct_go (by decide +kernel) (Nat.le_of_ble_eq_true rfl) (ls := [(0, XR x0), (1, XI x1)]) rfl ?_
  refine g_aload_n 0 dX9_fails_0 rfl ?_
  refine g_getI dX9_fails_1 flX9_377 (by decide) rfl hx0 ?_
  refine g_if_lt (tgt := 8) dX9_fails_4 (by decide) (fun b1 => ?_) (fun b1 => ?_)
  · replace h := ifp b1 h
    refine g_aload_n 0 dX9_fails_8 rfl ?_
    refine g_aload_n 0 dX9_fails_9 rfl ?_
    refine g_getI dX9_fails_10 flX9_380 (by decide) rfl hx0 ?_
    refine g_putI dX9_fails_13 flX9_377 (by decide) rfl hx0 ?_
    refine g_nmM (fun M2 eM2 => ?_)
    replace h := nm_s eM2 h
    refine g_aload_n 0 dX9_fails_16 rfl ?_
    refine g_iload_n 1 dX9_fails_17 rfl ?_
    obtain ⟨c3, h⟩ := chk_some h
    refine g_putZ dX9_fails_18 flX9_383 (by decide) rfl hx0 c3 ?_
    refine g_nmM (fun M4 eM4 => ?_)
    replace h := nm_s eM4 h
    cases h
    exact g_return dX9_fails_21 rfl ⟨rfl, rfl⟩
  · replace h := ifn b1 h
    refine g_pc (pc' := 7) rfl ?_
    cases h
    exact g_return dX9_fails_7 rfl ⟨rfl, rfl⟩
def fX9_numberRead_l4 (x0 : Nat) (x1 : Int) : Nat → Int → Int → Mem → Option (Int × Int × Mem)
  | 0, _, _, _ => none
  | n + 1, x2, x3, M => (if 0 ≤ (M x0 48) then some (x2, x3, M) else (if x1 ≤ x2 then some (x2, x3, M) else Option.bind (fX9_signAt x0 (M x0 47) M) (fun q3 => Option.bind (fX9_in q3.1 48 57 q3.2) (fun q4 => (if q4.1 = 0 then some (x2, x3, q4.2) else if -2147483648 ≤ (10 * x3) ∧ (10 * x3) ≤ 2147483647 then if 0 ≤ (q4.2 x0 47) ∧ (q4.2 x0 47) < 100 then if -2147483648 ≤ ((10 * x3) + (q4.2 (x0 + 46) (Int.toNat (q4.2 x0 47)))) ∧ ((10 * x3) + (q4.2 (x0 + 46) (Int.toNat (q4.2 x0 47)))) ≤ 2147483647 then if -2147483648 ≤ (((10 * x3) + (q4.2 (x0 + 46) (Int.toNat (q4.2 x0 47)))) - 48) ∧ (((10 * x3) + (q4.2 (x0 + 46) (Int.toNat (q4.2 x0 47)))) - 48) ≤ 2147483647 then nm ((((10 * x3) + (q4.2 (x0 + 46) (Int.toNat (q4.2 x0 47)))) - 48)) (fun v10 => if -2147483648 ≤ (x2 + 1) ∧ (x2 + 1) ≤ 2147483647 then if -2147483648 ≤ ((q4.2 x0 47) + 1) ∧ ((q4.2 x0 47) + 1) ≤ 2147483647 then nm (wr q4.2 x0 47 ((q4.2 x0 47) + 1)) (fun M13 => fX9_numberRead_l4 x0 x1 n (x2 + 1) v10 M13) else none else none) else none else none else none else none)))))
def fX9_numberRead (x0 : Nat) (x1 : Int) (M : Mem) : Option (Int × Mem) := Option.bind (fX9_numberRead_l4 x0 x1 1000 0 0 M) (fun z14 => Option.bind ((if z14.1 = 0 then Option.bind (fX9_fails x0 1 z14.2.2) (fun q19 => some (q19.2)) else some (z14.2.2)) : Option (Mem)) (fun t17 => some (z14.2.1, t17)))
set_option maxRecDepth 20000 in
theorem lX9_numberRead_l4 {X : XC} {d : Nat} {Post : Option XV → Mem → Prop} {x0 : Nat} {x1 : Int} (hx0 : Sh x0 = (18, 69)) : ∀ (n : Nat) (x2 x3 : Int) (M : Mem) (t0 : Int × Int × Mem), fX9_numberRead_l4 x0 x1 n x2 x3 M = some t0 → Go X mX9_numberRead (d + 1) 71 [(0, XR x0), (2, XI t0.1), (3, XI t0.2.1)] [] t0.2.2 Post → Go X mX9_numberRead (d + 1) 4 [(0, XR x0), (1, XI x1), (2, XI x2), (3, XI x3)] [] M Post := by
  intro n
  induction n with
  | zero => intro _ _ _ _ h; cases h
  | succ n ih =>
    intro x2 x3 M t0 h K
    unfold fX9_numberRead_l4 at h
    refine g_aload_n 0 dX9_numberRead_4 rfl ?_
    refine g_getI dX9_numberRead_5 flX9_377 (by decide) rfl hx0 ?_
    refine g_if_ge (tgt := 71) dX9_numberRead_8 (by decide) (fun b1 => ?_) (fun b1 => ?_)
    · replace h := ifp b1 h
      cases h
      exact g_sub [0, 2, 3] rfl K
    · replace h := ifn b1 h
      refine g_pc (pc' := 11) rfl ?_
      refine g_iload_n 2 dX9_numberRead_11 rfl ?_
      refine g_iload_n 1 dX9_numberRead_12 rfl ?_
      refine g_icmp_ge (tgt := 71) dX9_numberRead_13 (by decide) (fun b2 => ?_) (fun b2 => ?_)
      · replace h := ifp b2 h
        cases h
        exact g_sub [0, 2, 3] rfl K
      · replace h := ifn b2 h
        refine g_pc (pc' := 16) rfl ?_
        refine g_aload_n 0 dX9_numberRead_16 rfl ?_
        refine g_aload_n 0 dX9_numberRead_17 rfl ?_
        refine g_getI dX9_numberRead_18 flX9_380 (by decide) rfl hx0 ?_
        obtain ⟨q3, hq3, h⟩ := bnd_some h
        refine v_I (ci := 8) (as := [XI (M x0 47)]) dX9_numberRead_21 mlX9_387 mdX9_signAt mvX9_signAt rfl hx0 rfl (Nat.le_of_ble_eq_true rfl) (kX9_signAt hx0 hq3) rfl ?_
        refine g_i2l dX9_numberRead_24 ?_
        refine g_ldc2 (v := 48) dX9_numberRead_25 csX9_390 (by decide +kernel) (i64l rfl) ?_
        refine g_ldc2 (v := 57) dX9_numberRead_28 csX9_392 (by decide +kernel) (i64l rfl) ?_
        obtain ⟨q4, hq4, h⟩ := bnd_some h
        refine s_I (as := [XL q3.1, XL 48, XL 57]) dX9_numberRead_31 mlX9_170 mdX9_in msX9_in rfl (Nat.le_of_ble_eq_true rfl) (kX9_in  hq4) rfl ?_
        refine g_pc (pc' := 34) rfl ?_
        refine g_if_eq (tgt := 71) dX9_numberRead_34 (by decide) (fun b5 => ?_) (fun b5 => ?_)
        · replace h := ifp b5 h
          cases h
          exact g_sub [0, 2, 3] rfl K
        · replace h := ifn b5 h
          refine g_pc (pc' := 37) rfl ?_
          refine g_bip dX9_numberRead_37 rfl ?_
          refine g_iload_n 3 dX9_numberRead_39 rfl ?_
          obtain ⟨c6, h⟩ := chk_some h
          refine g_imul dX9_numberRead_40 rfl c6 ?_
          refine g_aload_n 0 dX9_numberRead_41 rfl ?_
          refine g_getR dX9_numberRead_42 flX9_114 (by decide) rfl hx0 ?_
          refine g_aload_n 0 dX9_numberRead_45 rfl ?_
          refine g_getI dX9_numberRead_46 flX9_380 (by decide) rfl hx0 ?_
          obtain ⟨c7, h⟩ := chk_some h
          refine g_iald dX9_numberRead_49 (sf_8_45 hx0) c7.1 c7.2 ?_
          refine g_pc (pc' := 50) rfl ?_
          obtain ⟨c8, h⟩ := chk_some h
          refine g_iadd dX9_numberRead_50 rfl c8 ?_
          refine g_bip dX9_numberRead_51 rfl ?_
          obtain ⟨c9, h⟩ := chk_some h
          refine g_isub dX9_numberRead_53 rfl c9 ?_
          refine g_nmI (fun v10 ev10 => ?_)
          replace h := nm_s ev10 h
          refine g_istore_n (ls' := [(3, XI v10), (0, XR x0), (1, XI x1), (2, XI x2)]) dX9_numberRead_54 (by decide) rfl ?_
          obtain ⟨c11, h⟩ := chk_some h
          refine g_iinc (ls' := [(2, XI (x2 + 1)), (3, XI v10), (0, XR x0), (1, XI x1)]) 3 dX9_numberRead_55 rfl rfl c11 (by decide) rfl ?_
          refine g_aload_n 2 dX9_numberRead_58 rfl ?_
          refine g_dupR dX9_numberRead_59 ?_
          refine g_getI dX9_numberRead_60 flX9_380 (by decide) rfl hx0 ?_
          refine g_iconst (v := 1) dX9_numberRead_63 rfl (i32l rfl) ?_
          refine g_pc (pc' := 64) rfl ?_
          obtain ⟨c12, h⟩ := chk_some h
          refine g_iadd dX9_numberRead_64 rfl c12 ?_
          refine g_putI dX9_numberRead_65 flX9_380 (by decide) rfl hx0 ?_
          refine g_nmM (fun M13 eM13 => ?_)
          replace h := nm_s eM13 h
          refine g_goto (tgt := 4) dX9_numberRead_68 (by decide) ?_
          exact g_sub [2, 3, 0, 1] rfl (ih _ _ _ _ h K)
set_option maxRecDepth 20000 in
theorem kX9_numberRead {X : XC} {d : Nat} {x0 : Nat} {x1 : Int} (hx0 : Sh x0 = (18, 69)) {M : Mem} {q : Int × Mem} (h : fX9_numberRead x0 x1 M = some q) : Ct X mX9_numberRead (d + 1) [XR x0, XI x1] M (pI q) := by
  unfold fX9_numberRead at h
  refine ct_go (by decide +kernel) (Nat.le_of_ble_eq_true rfl) (ls := [(0, XR x0), (1, XI x1)]) rfl ?_
  refine g_iconst (v := 0) dX9_numberRead_0 rfl (i32l rfl) ?_
  refine g_istore_n (ls' := [(2, XI 0), (0, XR x0), (1, XI x1)]) dX9_numberRead_1 (by decide) rfl ?_
  refine g_iconst (v := 0) dX9_numberRead_2 rfl (i32l rfl) ?_
  refine g_istore_n (ls' := [(3, XI 0), (2, XI 0), (0, XR x0), (1, XI x1)]) dX9_numberRead_3 (by decide) rfl ?_
  obtain ⟨z14, hz14, h⟩ := bnd_some h
  refine g_sub (ls' := [(0, XR x0), (1, XI x1), (2, XI 0), (3, XI 0)]) [2, 3, 1, 0] rfl ?_
  refine lX9_numberRead_l4 hx0 1000 _ _ _ _ hz14 ?_
  refine g_iload_n 1 dX9_numberRead_71 rfl ?_
  obtain ⟨t17, ht17, h⟩ := bnd_some h
  have Kt17 : Go X mX9_numberRead (d + 1) 80 [(3, XI z14.2.1)] [] t17 (pI q) := by
    refine g_iload_n 0 dX9_numberRead_80 rfl ?_
    cases h
    exact g_ireturn dX9_numberRead_81 rfl ⟨rfl, rfl⟩
  refine g_if_ne (tgt := 80) dX9_numberRead_72 (by decide) (fun b18 => ?_) (fun b18 => ?_)
  · replace ht17 := ifn b18 ht17
    cases ht17
    exact g_sub [2] rfl Kt17
  · replace ht17 := ifp b18 ht17
    refine g_pc (pc' := 75) rfl ?_
    refine g_aload_n 0 dX9_numberRead_75 rfl ?_
    refine g_iconst (v := 1) dX9_numberRead_76 rfl (i32l rfl) ?_
    obtain ⟨q19, hq19, ht17⟩ := bnd_some ht17
    refine v_V (ci := 8) (as := [XI 1]) dX9_numberRead_77 mlX9_394 mdX9_fails mvX9_fails rfl hx0 rfl (Nat.le_of_ble_eq_true rfl) (kX9_fails hx0 hq19) rfl ?_
    cases ht17
    exact g_sub [2] rfl Kt17
end
