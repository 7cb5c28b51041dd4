section
def fX9_fills_l11 (x0 : Nat) : Nat → Int → Mem → Option (Int × Mem)
  | 0, _, _ => none
  | n + 1, x1, M => (if (M x0 0) ≤ x1 then some (x1, M) else if 0 ≤ x1 ∧ x1 < 8 then Option.bind ((if (M (x0 + 25) (Int.toNat x1)) = 1 then Option.bind (fX9_becomesElected x0 x1 M) (fun q9 => some (q9.2)) else some (M)) : Option (Mem)) (fun t7 => if -2147483648 ≤ (x1 + 1) ∧ (x1 + 1) ≤ 2147483647 then fX9_fills_l11 x0 n (x1 + 1) t7 else none) else none)
def fX9_fills (x0 : Nat) (M : Mem) : Option (Int × Mem) := Option.bind (fX9_tellVotes x0 M) (fun q1 => nm (wr q1.2 x0 31 0) (fun M2 => Option.bind (fX9_fills_l11 x0 1000 0 M2) (fun z11 => Option.bind (fX9_endsStage x0 0 z11.2) (fun q12 => some (0, q12.2)))))
set_option maxRecDepth 20000 in
theorem lX9_fills_l11 {X : XC} {d : Nat} {Post : Option XV → Mem → Prop} {x0 : Nat} (hx0 : Sh x0 = (18, 69)) : ∀ (n : Nat) (x1 : Int) (M : Mem) (t0 : Int × Mem), fX9_fills_l11 x0 n x1 M = some t0 → Go X mX9_fills (d + 4) 40 [(0, XR x0)] [] t0.2 Post → Go X mX9_fills (d + 4) 11 [(0, XR x0), (1, XI x1)] [] M Post := by
  intro n
  induction n with
  | zero => intro _ _ _ h; cases h
  | succ n ih =>
    intro x1 M t0 h K
    unfold fX9_fills_l11 at h
    refine g_iload_n 1 dX9_fills_11 rfl ?_
    refine g_aload_n 0 dX9_fills_12 rfl ?_
    refine g_getI dX9_fills_13 flX9_167 (by decide) rfl hx0 ?_
    refine g_icmp_ge (tgt := 40) dX9_fills_16 (by decide) (fun b3 => ?_) (fun b3 => ?_)
    · replace h := ifp b3 h
      cases h
      exact g_sub [0] rfl K
    · replace h := ifn b3 h
      refine g_pc (pc' := 19) rfl ?_
      refine g_aload_n 0 dX9_fills_19 rfl ?_
      refine g_getR dX9_fills_20 flX9_62 (by decide) rfl hx0 ?_
      refine g_iload_n 1 dX9_fills_23 rfl ?_
      obtain ⟨c4, h⟩ := chk_some h
      refine g_iald dX9_fills_24 (sf_8_24 hx0) c4.1 c4.2 ?_
      refine g_iconst (v := 1) dX9_fills_25 rfl (i32l rfl) ?_
      obtain ⟨t7, ht7, h⟩ := bnd_some h
      have Kt7 : Go X mX9_fills (d + 4) 34 [(0, XR x0), (1, XI x1)] [] t7 Post := by
        obtain ⟨c10, h⟩ := chk_some h
        refine g_iinc (ls' := [(1, XI (x1 + 1)), (0, XR x0)]) 1 dX9_fills_34 rfl rfl c10 (by decide) rfl ?_
        refine g_goto (tgt := 11) dX9_fills_37 (by decide) ?_
        exact g_sub [1, 0] rfl (ih _ _ _ h K)
      refine g_icmp_ne (tgt := 34) dX9_fills_26 (by decide) (fun b8 => ?_) (fun b8 => ?_)
      · replace ht7 := ifn b8 ht7
        cases ht7
        exact g_sub [0, 1] rfl Kt7
      · replace ht7 := ifp b8 ht7
        refine g_pc (pc' := 29) rfl ?_
        refine g_aload_n 0 dX9_fills_29 rfl ?_
        refine g_iload_n 1 dX9_fills_30 rfl ?_
        obtain ⟨q9, hq9, ht7⟩ := bnd_some ht7
        refine v_V (ci := 8) (as := [XI x1]) dX9_fills_31 mlX9_263 mdX9_becomesElected mvX9_becomesElected rfl hx0 rfl (Nat.le_of_ble_eq_true rfl) (kX9_becomesElected hx0 hq9) rfl ?_
        cases ht7
        exact g_sub [0, 1] rfl Kt7
set_option maxRecDepth 20000 in
theorem kX9_fills {X : XC} {d : Nat} {x0 : Nat} (hx0 : Sh x0 = (18, 69)) {M : Mem} {q : Int × Mem} (h : fX9_fills x0 M = some q) : Ct X mX9_fills (d + 4) [XR x0] M (pV q) := by
  unfold fX9_fills at h
  refine ct_go (by decide +kernel) (Nat.le_of_ble_eq_true rfl) (ls := [(0, XR x0)]) rfl ?_
  refine g_aload_n 0 dX9_fills_0 rfl ?_
  obtain ⟨q1, hq1, h⟩ := bnd_some h
  refine v_V (ci := 8) (as := []) dX9_fills_1 mlX9_257 mdX9_tellVotes mvX9_tellVotes rfl hx0 rfl (Nat.le_of_ble_eq_true rfl) (kX9_tellVotes hx0 hq1) rfl ?_
  refine g_aload_n 0 dX9_fills_4 rfl ?_
  refine g_lconst (v := 0) dX9_fills_5 rfl (i64l rfl) ?_
  refine g_putJ dX9_fills_6 flX9_260 (by decide) rfl hx0 ?_
  refine g_nmM (fun M2 eM2 => ?_)
  replace h := nm_s eM2 h
  refine g_iconst (v := 0) dX9_fills_9 rfl (i32l rfl) ?_
  refine g_istore_n (ls' := [(1, XI 0), (0, XR x0)]) dX9_fills_10 (by decide) rfl ?_
  obtain ⟨z11, hz11, h⟩ := bnd_some h
  refine g_sub (ls' := [(0, XR x0), (1, XI 0)]) [1, 0] rfl ?_
  refine lX9_fills_l11 hx0 1000 _ _ _ hz11 ?_
  refine g_aload_n 0 dX9_fills_40 rfl ?_
  refine g_iconst (v := 0) dX9_fills_41 rfl (i32l rfl) ?_
  obtain ⟨q12, hq12, h⟩ := bnd_some h
  refine v_V (ci := 8) (as := [XI 0]) dX9_fills_42 mlX9_267 mdX9_endsStage mvX9_endsStage rfl hx0 rfl (Nat.le_of_ble_eq_true rfl) (kX9_endsStage hx0 hq12) rfl ?_
  cases h
  exact g_return dX9_fills_45 rfl ⟨rfl, rfl⟩
def fX9_keepsAnew_l2 (x0 : Nat) : Nat → Int → Mem → Option (Int × Mem)
  | 0, _, _ => none
  | n + 1, x1, M => (if (M x0 0) ≤ x1 then some (x1, M) else if 0 ≤ x1 ∧ x1 < 8 then Option.bind ((if (M (x0 + 25) (Int.toNat x1)) = 2 then if 0 ≤ x1 ∧ x1 < 8 then (if (M (x0 + 29) (Int.toNat x1)) = 0 then some (M) else if 0 ≤ x1 ∧ x1 < 8 then if -9223372036854775808 ≤ ((M (x0 + 26) (Int.toNat x1)) * (M x0 29)) ∧ ((M (x0 + 26) (Int.toNat x1)) * (M x0 29)) ≤ 9223372036854775807 then if 0 ≤ x1 ∧ x1 < 8 then if -9223372036854775808 ≤ (((M (x0 + 26) (Int.toNat x1)) * (M x0 29)) + (M (x0 + 29) (Int.toNat x1))) ∧ (((M (x0 + 26) (Int.toNat x1)) * (M x0 29)) + (M (x0 + 29) (Int.toNat x1))) ≤ 9223372036854775807 then if -9223372036854775808 ≤ ((((M (x0 + 26) (Int.toNat x1)) * (M x0 29)) + (M (x0 + 29) (Int.toNat x1))) - 1) ∧ ((((M (x0 + 26) (Int.toNat x1)) * (M x0 29)) + (M (x0 + 29) (Int.toNat x1))) - 1) ≤ 9223372036854775807 then if 0 ≤ x1 ∧ x1 < 8 then if 0 ≤ ((((M (x0 + 26) (Int.toNat x1)) * (M x0 29)) + (M (x0 + 29) (Int.toNat x1))) - 1) ∧ 0 < (M (x0 + 29) (Int.toNat x1)) then nm ((((((M (x0 + 26) (Int.toNat x1)) * (M x0 29)) + (M (x0 + 29) (Int.toNat x1))) - 1) / (M (x0 + 29) (Int.toNat x1)))) (fun v27 => if 0 ≤ x1 ∧ x1 < 8 then nm (wr M (x0 + 26) (Int.toNat x1) (w32 (if 1000000 < v27 then 1000000 else v27))) (fun M29 => some (M29)) else none) else none else none else none else none else none else none else none) else none else some (M)) : Option (Mem)) (fun t16 => if -2147483648 ≤ (x1 + 1) ∧ (x1 + 1) ≤ 2147483647 then fX9_keepsAnew_l2 x0 n (x1 + 1) t16 else none) else none)
def fX9_keepsAnew (x0 : Nat) (M : Mem) : Option (Int × Mem) := Option.bind (fX9_keepsAnew_l2 x0 1000 0 M) (fun z31 => some (0, z31.2))
set_option maxRecDepth 20000 in
theorem lX9_keepsAnew_l2 {X : XC} {d : Nat} {Post : Option XV → Mem → Prop} {x0 : Nat} (hx0 : Sh x0 = (18, 69)) : ∀ (n : Nat) (x1 : Int) (M : Mem) (t0 : Int × Mem), fX9_keepsAnew_l2 x0 n x1 M = some t0 → Go X mX9_keepsAnew (d + 1) 83 [] [] t0.2 Post → Go X mX9_keepsAnew (d + 1) 2 [(0, XR x0), (1, XI x1)] [] M Post := by
  intro n
  induction n with
  | zero => intro _ _ _ h; cases h
  | succ n ih =>
    intro x1 M t0 h K
    unfold fX9_keepsAnew_l2 at h
    refine g_iload_n 1 dX9_keepsAnew_2 rfl ?_
    refine g_aload_n 0 dX9_keepsAnew_3 rfl ?_
    refine g_getI dX9_keepsAnew_4 flX9_167 (by decide) rfl hx0 ?_
    refine g_icmp_ge (tgt := 83) dX9_keepsAnew_7 (by decide) (fun b1 => ?_) (fun b1 => ?_)
    · replace h := ifp b1 h
      cases h
      exact g_sub [] rfl K
    · replace h := ifn b1 h
      refine g_pc (pc' := 10) rfl ?_
      refine g_aload_n 0 dX9_keepsAnew_10 rfl ?_
      refine g_getR dX9_keepsAnew_11 flX9_62 (by decide) rfl hx0 ?_
      refine g_iload_n 1 dX9_keepsAnew_14 rfl ?_
      obtain ⟨c2, h⟩ := chk_some h
      refine g_iald dX9_keepsAnew_15 (sf_8_24 hx0) c2.1 c2.2 ?_
      refine g_iconst (v := 2) dX9_keepsAnew_16 rfl (i32l rfl) ?_
      obtain ⟨t16, ht16, h⟩ := bnd_some h
      have Kt16 : Go X mX9_keepsAnew (d + 1) 77 [(0, XR x0), (1, XI x1)] [] t16 Post := by
        obtain ⟨c30, h⟩ := chk_some h
        refine g_iinc (ls' := [(1, XI (x1 + 1)), (0, XR x0)]) 1 dX9_keepsAnew_77 rfl rfl c30 (by decide) rfl ?_
        refine g_goto (tgt := 2) dX9_keepsAnew_80 (by decide) ?_
        exact g_sub [1, 0] rfl (ih _ _ _ h K)
      refine g_icmp_ne (tgt := 77) dX9_keepsAnew_17 (by decide) (fun b17 => ?_) (fun b17 => ?_)
      · replace ht16 := ifn b17 ht16
        cases ht16
        exact g_sub [0, 1] rfl Kt16
      · replace ht16 := ifp b17 ht16
        refine g_pc (pc' := 20) rfl ?_
        refine g_aload_n 0 dX9_keepsAnew_20 rfl ?_
        refine g_getR dX9_keepsAnew_21 flX9_74 (by decide) rfl hx0 ?_
        refine g_iload_n 1 dX9_keepsAnew_24 rfl ?_
        obtain ⟨c18, ht16⟩ := chk_some ht16
        refine g_lald dX9_keepsAnew_25 (sf_8_28 hx0) c18.1 c18.2 ?_
        refine g_lconst (v := 0) dX9_keepsAnew_26 rfl (i64l rfl) ?_
        refine g_lcmp_ne (tgt := 34) dX9_keepsAnew_27 dX9_keepsAnew_28 (by decide) (fun b19 => ?_) (fun b19 => ?_)
        · replace ht16 := ifn b19 ht16
          refine g_aload_n 0 dX9_keepsAnew_34 rfl ?_
          refine g_getR dX9_keepsAnew_35 flX9_65 (by decide) rfl hx0 ?_
          refine g_iload_n 1 dX9_keepsAnew_38 rfl ?_
          obtain ⟨c20, ht16⟩ := chk_some ht16
          refine g_iald dX9_keepsAnew_39 (sf_8_25 hx0) c20.1 c20.2 ?_
          refine g_i2l dX9_keepsAnew_40 ?_
          refine g_aload_n 0 dX9_keepsAnew_41 rfl ?_
          refine g_getJ dX9_keepsAnew_42 flX9_242 (by decide) rfl hx0 ?_
          obtain ⟨c21, ht16⟩ := chk_some ht16
          refine g_lmul dX9_keepsAnew_45 rfl c21 ?_
          refine g_pc (pc' := 46) rfl ?_
          refine g_aload_n 0 dX9_keepsAnew_46 rfl ?_
          refine g_getR dX9_keepsAnew_47 flX9_74 (by decide) rfl hx0 ?_
          refine g_iload_n 1 dX9_keepsAnew_50 rfl ?_
          obtain ⟨c22, ht16⟩ := chk_some ht16
          refine g_lald dX9_keepsAnew_51 (sf_8_28 hx0) c22.1 c22.2 ?_
          obtain ⟨c23, ht16⟩ := chk_some ht16
          refine g_ladd dX9_keepsAnew_52 rfl c23 ?_
          refine g_lconst (v := 1) dX9_keepsAnew_53 rfl (i64l rfl) ?_
          obtain ⟨c24, ht16⟩ := chk_some ht16
          refine g_lsub dX9_keepsAnew_54 rfl c24 ?_
          refine g_aload_n 0 dX9_keepsAnew_55 rfl ?_
          refine g_getR dX9_keepsAnew_56 flX9_74 (by decide) rfl hx0 ?_
          refine g_pc (pc' := 59) rfl ?_
          refine g_iload_n 1 dX9_keepsAnew_59 rfl ?_
          obtain ⟨c25, ht16⟩ := chk_some ht16
          refine g_lald dX9_keepsAnew_60 (sf_8_28 hx0) c25.1 c25.2 ?_
          obtain ⟨c26, ht16⟩ := chk_some ht16
          refine g_ldiv dX9_keepsAnew_61 c26.1 c26.2 rfl ?_
          refine g_nmL (fun v27 ev27 => ?_)
          replace ht16 := nm_s ev27 ht16
          refine g_lstore_n (ls' := [(2, XL v27), (0, XR x0), (1, XI x1)]) dX9_keepsAnew_62 (by decide) rfl ?_
          refine g_aload_n 1 dX9_keepsAnew_63 rfl ?_
          refine g_getR dX9_keepsAnew_64 flX9_65 (by decide) rfl hx0 ?_
          refine g_iload_n 2 dX9_keepsAnew_67 rfl ?_
          refine g_ldc2 (v := 1000000) dX9_keepsAnew_68 csX9_200 (by decide +kernel) (i64l rfl) ?_
          refine g_lload_n 0 dX9_keepsAnew_71 rfl ?_
          refine g_pc (pc' := 72) rfl ?_
          refine g_minL dX9_keepsAnew_72 mlX9_270 (Nat.le_of_ble_eq_true rfl) ?_
          refine g_l2i dX9_keepsAnew_75 ?_
          obtain ⟨c28, ht16⟩ := chk_some ht16
          refine g_iast dX9_keepsAnew_76 (sf_8_25 hx0) c28.1 c28.2 ?_
          refine g_nmM (fun M29 eM29 => ?_)
          replace ht16 := nm_s eM29 ht16
          cases ht16
          exact g_sub [1, 2] rfl Kt16
        · replace ht16 := ifp b19 ht16
          refine g_pc (pc' := 31) rfl ?_
          refine g_goto (tgt := 77) dX9_keepsAnew_31 (by decide) ?_
          cases ht16
          exact g_sub [0, 1] rfl Kt16
set_option maxRecDepth 20000 in
theorem kX9_keepsAnew {X : XC} {d : Nat} {x0 : Nat} (hx0 : Sh x0 = (18, 69)) {M : Mem} {q : Int × Mem} (h : fX9_keepsAnew x0 M = some q) : Ct X mX9_keepsAnew (d + 1) [XR x0] M (pV q) := by
  unfold fX9_keepsAnew at h
  refine ct_go (by decide +kernel) (Nat.le_of_ble_eq_true rfl) (ls := [(0, XR x0)]) rfl ?_
  refine g_iconst (v := 0) dX9_keepsAnew_0 rfl (i32l rfl) ?_
  refine g_istore_n (ls' := [(1, XI 0), (0, XR x0)]) dX9_keepsAnew_1 (by decide) rfl ?_
  obtain ⟨z31, hz31, h⟩ := bnd_some h
  refine g_sub (ls' := [(0, XR x0), (1, XI 0)]) [1, 0] rfl ?_
  refine lX9_keepsAnew_l2 hx0 1000 _ _ _ hz31 ?_
  cases h
  exact g_return dX9_keepsAnew_83 rfl ⟨rfl, rfl⟩
def fX9_elects_l18 (x0 : Nat) (x1 : Int) : Nat → Int → Int → Mem → Option (Int × Int × Mem)
  | 0, _, _, _ => none
  | n + 1, x2, x3, M => (if (M x0 0) ≤ x3 then some (x2, x3, M) else if 0 ≤ x3 ∧ x3 < 8 then Option.bind ((if (M (x0 + 25) (Int.toNat x3)) = 1 then if 0 ≤ x3 ∧ x3 < 8 then (if (M (x0 + 29) (Int.toNat x3)) < (M x0 29) then some (x2, M) else (if x2 = (-1) then some (x3, M) else Option.bind (fX9_isAhead x0 x3 x2 M) (fun q16 => (if q16.1 = 0 then some (x2, q16.2) else some (x3, q16.2))))) else none else some (x2, M)) : Option (Int × Mem)) (fun t11 => if -2147483648 ≤ (x3 + 1) ∧ (x3 + 1) ≤ 2147483647 then fX9_elects_l18 x0 x1 n t11.1 (x3 + 1) t11.2 else none) else none)
def fX9_elects_l2 (x0 : Nat) : Nat → Int → Mem → Option ((Int × Mem) ⊕ (Int × Mem))
  | 0, _, _ => none
  | n + 1, x1, M => Option.bind (fX9_many_ x0 2 M) (fun q1 => (if (q1.2 x0 6) ≤ q1.1 then if x1 = 0 ∨ x1 = 1 then some (.inl (x1, q1.2)) else none else Option.bind (fX9_elects_l18 x0 x1 1000 (-1) 0 q1.2) (fun z19 => (if z19.1 = (-1) then if x1 = 0 ∨ x1 = 1 then some (.inl (x1, z19.2.2)) else none else Option.bind (fX9_becomesElected x0 z19.1 z19.2.2) (fun q21 => fX9_elects_l2 x0 n 1 q21.2)))))
def fX9_elects (x0 : Nat) (M : Mem) : Option (Int × Mem) := lr (fX9_elects_l2 x0 1000 0 M) (fun r => r) (fun _ => none)
set_option maxRecDepth 20000 in
theorem lX9_elects_l18 {X : XC} {d : Nat} {Post : Option XV → Mem → Prop} {x0 : Nat} {x1 : Int} (hx0 : Sh x0 = (18, 69)) : ∀ (n : Nat) (x2 x3 : Int) (M : Mem) (t0 : Int × Int × Mem), fX9_elects_l18 x0 x1 n x2 x3 M = some t0 → Go X mX9_elects (d + 2) 72 [(0, XR x0), (1, XI x1), (2, XI t0.1)] [] t0.2.2 Post → Go X mX9_elects (d + 2) 18 [(0, XR x0), (1, XI x1), (2, XI x2), (3, XI x3)] [] M Post := by
  intro n
  induction n with
  | zero => intro _ _ _ _ h; cases h
  | succ n ih =>
    intro x2 x3 M t0 h K
    unfold fX9_elects_l18 at h
    refine g_iload_n 3 dX9_elects_18 rfl ?_
    refine g_aload_n 0 dX9_elects_19 rfl ?_
    refine g_getI dX9_elects_20 flX9_167 (by decide) rfl hx0 ?_
    refine g_icmp_ge (tgt := 72) dX9_elects_23 (by decide) (fun b3 => ?_) (fun b3 => ?_)
    · replace h := ifp b3 h
      cases h
      exact g_sub [0, 1, 2] rfl K
    · replace h := ifn b3 h
      refine g_pc (pc' := 26) rfl ?_
      refine g_aload_n 0 dX9_elects_26 rfl ?_
      refine g_getR dX9_elects_27 flX9_62 (by decide) rfl hx0 ?_
      refine g_iload_n 3 dX9_elects_30 rfl ?_
      obtain ⟨c4, h⟩ := chk_some h
      refine g_iald dX9_elects_31 (sf_8_24 hx0) c4.1 c4.2 ?_
      refine g_iconst (v := 1) dX9_elects_32 rfl (i32l rfl) ?_
      obtain ⟨t11, ht11, h⟩ := bnd_some h
      have Kt11 : Go X mX9_elects (d + 2) 66 [(0, XR x0), (1, XI x1), (2, XI t11.1), (3, XI x3)] [] t11.2 Post := by
        obtain ⟨c18, h⟩ := chk_some h
        refine g_iinc (ls' := [(3, XI (x3 + 1)), (0, XR x0), (1, XI x1), (2, XI t11.1)]) 3 dX9_elects_66 rfl rfl c18 (by decide) rfl ?_
        refine g_goto (tgt := 18) dX9_elects_69 (by decide) ?_
        exact g_sub [1, 2, 3, 0] rfl (ih _ _ _ _ h K)
      refine g_icmp_ne (tgt := 66) dX9_elects_33 (by decide) (fun b12 => ?_) (fun b12 => ?_)
      · replace ht11 := ifn b12 ht11
        cases ht11
        exact g_sub [0, 1, 2, 3] rfl Kt11
      · replace ht11 := ifp b12 ht11
        refine g_pc (pc' := 36) rfl ?_
        refine g_aload_n 0 dX9_elects_36 rfl ?_
        refine g_getR dX9_elects_37 flX9_74 (by decide) rfl hx0 ?_
        refine g_iload_n 3 dX9_elects_40 rfl ?_
        obtain ⟨c13, ht11⟩ := chk_some ht11
        refine g_lald dX9_elects_41 (sf_8_28 hx0) c13.1 c13.2 ?_
        refine g_aload_n 0 dX9_elects_42 rfl ?_
        refine g_getJ dX9_elects_43 flX9_242 (by decide) rfl hx0 ?_
        refine g_lcmp_lt (tgt := 66) dX9_elects_46 dX9_elects_47 (by decide) (fun b14 => ?_) (fun b14 => ?_)
        · replace ht11 := ifp b14 ht11
          cases ht11
          exact g_sub [0, 1, 2, 3] rfl Kt11
        · replace ht11 := ifn b14 ht11
          refine g_pc (pc' := 50) rfl ?_
          refine g_iload_n 2 dX9_elects_50 rfl ?_
          refine g_iconst (v := -1) dX9_elects_51 rfl (i32l rfl) ?_
          refine g_icmp_eq (tgt := 64) dX9_elects_52 (by decide) (fun b15 => ?_) (fun b15 => ?_)
          · replace ht11 := ifp b15 ht11
            refine g_iload_n 3 dX9_elects_64 rfl ?_
            refine g_istore_n (ls' := [(2, XI x3), (0, XR x0), (1, XI x1), (3, XI x3)]) dX9_elects_65 (by decide) rfl ?_
            cases ht11
            exact g_sub [1, 2, 0, 3] rfl Kt11
          · replace ht11 := ifn b15 ht11
            refine g_pc (pc' := 55) rfl ?_
            refine g_aload_n 0 dX9_elects_55 rfl ?_
            refine g_iload_n 3 dX9_elects_56 rfl ?_
            refine g_iload_n 2 dX9_elects_57 rfl ?_
            obtain ⟨q16, hq16, ht11⟩ := bnd_some ht11
            refine v_I (ci := 8) (as := [XI x3, XI x2]) dX9_elects_58 mlX9_254 mdX9_isAhead mvX9_isAhead rfl hx0 rfl (Nat.le_of_ble_eq_true rfl) (kX9_isAhead hx0 hq16) rfl ?_
            refine g_if_eq (tgt := 66) dX9_elects_61 (by decide) (fun b17 => ?_) (fun b17 => ?_)
            · replace ht11 := ifp b17 ht11
              cases ht11
              exact g_sub [0, 1, 2, 3] rfl Kt11
            · replace ht11 := ifn b17 ht11
              refine g_pc (pc' := 64) rfl ?_
              refine g_iload_n 3 dX9_elects_64 rfl ?_
              refine g_istore_n (ls' := [(2, XI x3), (0, XR x0), (1, XI x1), (3, XI x3)]) dX9_elects_65 (by decide) rfl ?_
              cases ht11
              exact g_sub [1, 2, 0, 3] rfl Kt11
set_option maxRecDepth 20000 in
theorem lX9_elects_l2 {X : XC} {d : Nat} {Post : Option XV → Mem → Prop} {x0 : Nat} (hx0 : Sh x0 = (18, 69)) : ∀ (n : Nat) (x1 : Int) (M : Mem) (z : (Int × Mem) ⊕ (Int × Mem)), fX9_elects_l2 x0 n x1 M = some z → (∀ r, z = .inl r → Post (some (XI r.1)) r.2) → Go X mX9_elects (d + 2) 2 [(0, XR x0), (1, XI x1)] [] M Post := by
  intro n
  induction n with
  | zero => intro _ _ _ h; cases h
  | succ n ih =>
    intro x1 M z h K1
    unfold fX9_elects_l2 at h
    refine g_aload_n 0 dX9_elects_2 rfl ?_
    refine g_iconst (v := 2) dX9_elects_3 rfl (i32l rfl) ?_
    obtain ⟨q1, hq1, h⟩ := bnd_some h
    refine v_I (ci := 8) (as := [XI 2]) dX9_elects_4 mlX9_276 mdX9_many_ mvX9_many_ rfl hx0 rfl (Nat.le_of_ble_eq_true rfl) (kX9_many_ hx0 hq1) rfl ?_
    refine g_aload_n 0 dX9_elects_7 rfl ?_
    refine g_getI dX9_elects_8 flX9_25 (by decide) rfl hx0 ?_
    refine g_icmp_ge (tgt := 89) dX9_elects_11 (by decide) (fun b2 => ?_) (fun b2 => ?_)
    · replace h := ifp b2 h
      refine g_iload_n 1 dX9_elects_89 rfl ?_
      obtain ⟨cz, h⟩ := chk_some h
      cases h
      exact g_zreturn dX9_elects_90 rfl cz (K1 (x1, q1.2) rfl)
    · replace h := ifn b2 h
      refine g_pc (pc' := 14) rfl ?_
      refine g_iconst (v := -1) dX9_elects_14 rfl (i32l rfl) ?_
      refine g_istore_n (ls' := [(2, XI (-1)), (0, XR x0), (1, XI x1)]) dX9_elects_15 (by decide) rfl ?_
      refine g_iconst (v := 0) dX9_elects_16 rfl (i32l rfl) ?_
      refine g_istore_n (ls' := [(3, XI 0), (2, XI (-1)), (0, XR x0), (1, XI x1)]) dX9_elects_17 (by decide) rfl ?_
      obtain ⟨z19, hz19, h⟩ := bnd_some h
      refine g_sub (ls' := [(0, XR x0), (1, XI x1), (2, XI (-1)), (3, XI 0)]) [2, 3, 1, 0] rfl ?_
      refine lX9_elects_l18 hx0 1000 _ _ _ _ hz19 ?_
      refine g_iload_n 2 dX9_elects_72 rfl ?_
      refine g_iconst (v := -1) dX9_elects_73 rfl (i32l rfl) ?_
      refine g_icmp_ne (tgt := 79) dX9_elects_74 (by decide) (fun b20 => ?_) (fun b20 => ?_)
      · replace h := ifn b20 h
        refine g_aload_n 0 dX9_elects_79 rfl ?_
        refine g_iload_n 2 dX9_elects_80 rfl ?_
        obtain ⟨q21, hq21, h⟩ := bnd_some h
        refine v_V (ci := 8) (as := [XI z19.1]) dX9_elects_81 mlX9_263 mdX9_becomesElected mvX9_becomesElected rfl hx0 rfl (Nat.le_of_ble_eq_true rfl) (kX9_becomesElected hx0 hq21) rfl ?_
        refine g_iconst (v := 1) dX9_elects_84 rfl (i32l rfl) ?_
        refine g_istore_n (ls' := [(1, XI 1), (0, XR x0), (2, XI z19.1)]) dX9_elects_85 (by decide) rfl ?_
        refine g_goto (tgt := 2) dX9_elects_86 (by decide) ?_
        exact g_sub [1, 0] rfl (ih _ _ _ h K1)
      · replace h := ifp b20 h
        refine g_pc (pc' := 77) rfl ?_
        refine g_iload_n 1 dX9_elects_77 rfl ?_
        obtain ⟨cz, h⟩ := chk_some h
        cases h
        exact g_zreturn dX9_elects_78 rfl cz (K1 (x1, z19.2.2) rfl)
set_option maxRecDepth 20000 in
theorem kX9_elects {X : XC} {d : Nat} {x0 : Nat} (hx0 : Sh x0 = (18, 69)) {M : Mem} {q : Int × Mem} (h : fX9_elects x0 M = some q) : Ct X mX9_elects (d + 2) [XR x0] M (pI q) := by
  unfold fX9_elects at h
  refine ct_go (by decide +kernel) (Nat.le_of_ble_eq_true rfl) (ls := [(0, XR x0)]) rfl ?_
  refine g_iconst (v := 0) dX9_elects_0 rfl (i32l rfl) ?_
  refine g_istore_n (ls' := [(1, XI 0), (0, XR x0)]) dX9_elects_1 (by decide) rfl ?_
  obtain ⟨z22, hz22, rz22, h⟩ := lr_some h
  refine g_sub (ls' := [(0, XR x0), (1, XI 0)]) [1, 0] rfl ?_
  refine lX9_elects_l2 hx0 1000 _ _ _ hz22 (fun r e => ?_)
  have rz22 := rz22 r e
  subst rz22
  exact ⟨rfl, rfl⟩
def fX9_tellSurplus_l7 (x0 : Nat) : Nat → Int → Mem → Option (Int × Mem)
  | 0, _, _ => none
  | n + 1, x1, M => (if (M x0 0) ≤ x1 then some (x1, M) else if 0 ≤ x1 ∧ x1 < 8 then Option.bind ((if (M (x0 + 25) (Int.toNat x1)) = 2 then if 0 ≤ x1 ∧ x1 < 8 then (if (M (x0 + 29) (Int.toNat x1)) ≤ (M x0 29) then some (M) else if 0 ≤ x1 ∧ x1 < 8 then if -9223372036854775808 ≤ ((M (x0 + 29) (Int.toNat x1)) - (M x0 29)) ∧ ((M (x0 + 29) (Int.toNat x1)) - (M x0 29)) ≤ 9223372036854775807 then if -9223372036854775808 ≤ ((M x0 31) + ((M (x0 + 29) (Int.toNat x1)) - (M x0 29))) ∧ ((M x0 31) + ((M (x0 + 29) (Int.toNat x1)) - (M x0 29))) ≤ 9223372036854775807 then nm (wr M x0 31 ((M x0 31) + ((M (x0 + 29) (Int.toNat x1)) - (M x0 29)))) (fun M18 => some (M18)) else none else none else none) else none else some (M)) : Option (Mem)) (fun t11 => if -2147483648 ≤ (x1 + 1) ∧ (x1 + 1) ≤ 2147483647 then fX9_tellSurplus_l7 x0 n (x1 + 1) t11 else none) else none)
def fX9_tellSurplus (x0 : Nat) (M : Mem) : Option (Int × Mem) := nm (wr M x0 31 0) (fun M1 => Option.bind (fX9_tellSurplus_l7 x0 1000 0 M1) (fun z20 => some (0, z20.2)))
set_option maxRecDepth 20000 in
theorem lX9_tellSurplus_l7 {X : XC} {d : Nat} {Post : Option XV → Mem → Prop} {x0 : Nat} (hx0 : Sh x0 = (18, 69)) : ∀ (n : Nat) (x1 : Int) (M : Mem) (t0 : Int × Mem), fX9_tellSurplus_l7 x0 n x1 M = some t0 → Go X mX9_tellSurplus d 65 [] [] t0.2 Post → Go X mX9_tellSurplus d 7 [(0, XR x0), (1, XI x1)] [] M Post := by
  intro n
  induction n with
  | zero => intro _ _ _ h; cases h
  | succ n ih =>
    intro x1 M t0 h K
    unfold fX9_tellSurplus_l7 at h
    refine g_iload_n 1 dX9_tellSurplus_7 rfl ?_
    refine g_aload_n 0 dX9_tellSurplus_8 rfl ?_
    refine g_getI dX9_tellSurplus_9 flX9_167 (by decide) rfl hx0 ?_
    refine g_icmp_ge (tgt := 65) dX9_tellSurplus_12 (by decide) (fun b2 => ?_) (fun b2 => ?_)
    · replace h := ifp b2 h
      cases h
      exact g_sub [] rfl K
    · replace h := ifn b2 h
      refine g_pc (pc' := 15) rfl ?_
      refine g_aload_n 0 dX9_tellSurplus_15 rfl ?_
      refine g_getR dX9_tellSurplus_16 flX9_62 (by decide) rfl hx0 ?_
      refine g_iload_n 1 dX9_tellSurplus_19 rfl ?_
      obtain ⟨c3, h⟩ := chk_some h
      refine g_iald dX9_tellSurplus_20 (sf_8_24 hx0) c3.1 c3.2 ?_
      refine g_iconst (v := 2) dX9_tellSurplus_21 rfl (i32l rfl) ?_
      obtain ⟨t11, ht11, h⟩ := bnd_some h
      have Kt11 : Go X mX9_tellSurplus d 59 [(0, XR x0), (1, XI x1)] [] t11 Post := by
        obtain ⟨c19, h⟩ := chk_some h
        refine g_iinc (ls' := [(1, XI (x1 + 1)), (0, XR x0)]) 1 dX9_tellSurplus_59 rfl rfl c19 (by decide) rfl ?_
        refine g_goto (tgt := 7) dX9_tellSurplus_62 (by decide) ?_
        exact g_sub [1, 0] rfl (ih _ _ _ h K)
      refine g_icmp_ne (tgt := 59) dX9_tellSurplus_22 (by decide) (fun b12 => ?_) (fun b12 => ?_)
      · replace ht11 := ifn b12 ht11
        cases ht11
        exact g_sub [0, 1] rfl Kt11
      · replace ht11 := ifp b12 ht11
        refine g_pc (pc' := 25) rfl ?_
        refine g_aload_n 0 dX9_tellSurplus_25 rfl ?_
        refine g_getR dX9_tellSurplus_26 flX9_74 (by decide) rfl hx0 ?_
        refine g_iload_n 1 dX9_tellSurplus_29 rfl ?_
        obtain ⟨c13, ht11⟩ := chk_some ht11
        refine g_lald dX9_tellSurplus_30 (sf_8_28 hx0) c13.1 c13.2 ?_
        refine g_aload_n 0 dX9_tellSurplus_31 rfl ?_
        refine g_getJ dX9_tellSurplus_32 flX9_242 (by decide) rfl hx0 ?_
        refine g_lcmp_le (tgt := 59) dX9_tellSurplus_35 dX9_tellSurplus_36 (by decide) (fun b14 => ?_) (fun b14 => ?_)
        · replace ht11 := ifp b14 ht11
          cases ht11
          exact g_sub [0, 1] rfl Kt11
        · replace ht11 := ifn b14 ht11
          refine g_pc (pc' := 39) rfl ?_
          refine g_aload_n 0 dX9_tellSurplus_39 rfl ?_
          refine g_dupR dX9_tellSurplus_40 ?_
          refine g_getJ dX9_tellSurplus_41 flX9_260 (by decide) rfl hx0 ?_
          refine g_aload_n 0 dX9_tellSurplus_44 rfl ?_
          refine g_getR dX9_tellSurplus_45 flX9_74 (by decide) rfl hx0 ?_
          refine g_iload_n 1 dX9_tellSurplus_48 rfl ?_
          obtain ⟨c15, ht11⟩ := chk_some ht11
          refine g_lald dX9_tellSurplus_49 (sf_8_28 hx0) c15.1 c15.2 ?_
          refine g_aload_n 0 dX9_tellSurplus_50 rfl ?_
          refine g_pc (pc' := 51) rfl ?_
          refine g_getJ dX9_tellSurplus_51 flX9_242 (by decide) rfl hx0 ?_
          obtain ⟨c16, ht11⟩ := chk_some ht11
          refine g_lsub dX9_tellSurplus_54 rfl c16 ?_
          obtain ⟨c17, ht11⟩ := chk_some ht11
          refine g_ladd dX9_tellSurplus_55 rfl c17 ?_
          refine g_putJ dX9_tellSurplus_56 flX9_260 (by decide) rfl hx0 ?_
          refine g_nmM (fun M18 eM18 => ?_)
          replace ht11 := nm_s eM18 ht11
          cases ht11
          exact g_sub [0, 1] rfl Kt11
set_option maxRecDepth 20000 in
theorem kX9_tellSurplus {X : XC} {d : Nat} {x0 : Nat} (hx0 : Sh x0 = (18, 69)) {M : Mem} {q : Int × Mem} (h : fX9_tellSurplus x0 M = some q) : Ct X mX9_tellSurplus d [XR x0] M (pV q) := by
  unfold fX9_tellSurplus at h
  refine ct_go (by decide +kernel) (Nat.le_of_ble_eq_true rfl) (ls := [(0, XR x0)]) rfl ?_
  refine g_aload_n 0 dX9_tellSurplus_0 rfl ?_
  refine g_lconst (v := 0) dX9_tellSurplus_1 rfl (i64l rfl) ?_
  refine g_putJ dX9_tellSurplus_2 flX9_260 (by decide) rfl hx0 ?_
  refine g_nmM (fun M1 eM1 => ?_)
  replace h := nm_s eM1 h
  refine g_iconst (v := 0) dX9_tellSurplus_5 rfl (i32l rfl) ?_
  refine g_istore_n (ls' := [(1, XI 0), (0, XR x0)]) dX9_tellSurplus_6 (by decide) rfl ?_
  obtain ⟨z20, hz20, h⟩ := bnd_some h
  refine g_sub (ls' := [(0, XR x0), (1, XI 0)]) [1, 0] rfl ?_
  refine lX9_tellSurplus_l7 hx0 1000 _ _ _ hz20 ?_
  cases h
  exact g_return dX9_tellSurplus_65 rfl ⟨rfl, rfl⟩
def fX9_goesRather_l45 (x0 : Nat) (x1 : Int) (x2 : Int) : Nat → Int → Mem → Option ((Int × Mem) ⊕ (Int × Mem))
  | 0, _, _ => none
  | n + 1, x3, M => (if x3 < 0 then Option.bind (fX9_lotOf x0 x1 M) (fun q7 => Option.bind (fX9_lotOf x0 x2 q7.2) (fun q8 => Option.bind ((if q7.1 ≤ q8.1 then some (0) else some (1)) : Option (Int)) (fun t10 => if t10 = 0 ∨ t10 = 1 then some (.inl (t10, q8.2)) else none))) else if -2147483648 ≤ (8 * x3) ∧ (8 * x3) ≤ 2147483647 then if -2147483648 ≤ ((8 * x3) + x1) ∧ ((8 * x3) + x1) ≤ 2147483647 then if 0 ≤ ((8 * x3) + x1) ∧ ((8 * x3) + x1) < 72 then nm ((M (x0 + 34) (Int.toNat ((8 * x3) + x1)))) (fun v15 => if -2147483648 ≤ (8 * x3) ∧ (8 * x3) ≤ 2147483647 then if -2147483648 ≤ ((8 * x3) + x2) ∧ ((8 * x3) + x2) ≤ 2147483647 then if 0 ≤ ((8 * x3) + x2) ∧ ((8 * x3) + x2) < 72 then nm ((M (x0 + 34) (Int.toNat ((8 * x3) + x2)))) (fun v19 => (if v15 = v19 then if -2147483648 ≤ (x3 + (-1)) ∧ (x3 + (-1)) ≤ 2147483647 then fX9_goesRather_l45 x0 x1 x2 n (x3 + (-1)) M else none else Option.bind ((if v19 ≤ v15 then some (0) else some (1)) : Option (Int)) (fun t23 => if t23 = 0 ∨ t23 = 1 then some (.inl (t23, M)) else none))) else none else none else none) else none else none else none)
def fX9_goesRather (x0 : Nat) (x1 : Int) (x2 : Int) (M : Mem) : Option (Int × Mem) := if 0 ≤ x1 ∧ x1 < 8 then if 0 ≤ x2 ∧ x2 < 8 then (if (M (x0 + 29) (Int.toNat x1)) = (M (x0 + 29) (Int.toNat x2)) then if -2147483648 ≤ ((M x0 22) - 1) ∧ ((M x0 22) - 1) ≤ 2147483647 then nm (((M x0 22) - 1)) (fun v5 => lr (fX9_goesRather_l45 x0 x1 x2 1000 v5 M) (fun r => r) (fun _ => none)) else none else if 0 ≤ x1 ∧ x1 < 8 then if 0 ≤ x2 ∧ x2 < 8 then Option.bind ((if (M (x0 + 29) (Int.toNat x2)) ≤ (M (x0 + 29) (Int.toNat x1)) then some (0) else some (1)) : Option (Int)) (fun t29 => if t29 = 0 ∨ t29 = 1 then some (t29, M) else none) else none else none) else none else none
set_option maxRecDepth 20000 in
theorem lX9_goesRather_l45 {X : XC} {d : Nat} {Post : Option XV → Mem → Prop} {x0 : Nat} {x1 : Int} {x2 : Int} (hx0 : Sh x0 = (18, 69)) : ∀ (n : Nat) (x3 : Int) (M : Mem) (z : (Int × Mem) ⊕ (Int × Mem)), fX9_goesRather_l45 x0 x1 x2 n x3 M = some z → (∀ r, z = .inl r → Post (some (XI r.1)) r.2) → Go X mX9_goesRather (d + 1) 45 [(0, XR x0), (1, XI x1), (2, XI x2), (3, XI x3)] [] M Post := by
  intro n
  induction n with
  | zero => intro _ _ _ h; cases h
  | succ n ih =>
    intro x3 M z h K1
    unfold fX9_goesRather_l45 at h
    refine g_iload_n 3 dX9_goesRather_45 rfl ?_
    refine g_if_lt (tgt := 103) dX9_goesRather_46 (by decide) (fun b6 => ?_) (fun b6 => ?_)
    · replace h := ifp b6 h
      refine g_aload_n 0 dX9_goesRather_103 rfl ?_
      refine g_iload_n 1 dX9_goesRather_104 rfl ?_
      obtain ⟨q7, hq7, h⟩ := bnd_some h
      refine v_I (ci := 8) (as := [XI x1]) dX9_goesRather_105 mlX9_245 mdX9_lotOf mvX9_lotOf rfl hx0 rfl (Nat.le_of_ble_eq_true rfl) (kX9_lotOf hx0 hq7) rfl ?_
      refine g_aload_n 0 dX9_goesRather_108 rfl ?_
      refine g_iload_n 2 dX9_goesRather_109 rfl ?_
      obtain ⟨q8, hq8, h⟩ := bnd_some h
      refine v_I (ci := 8) (as := [XI x2]) dX9_goesRather_110 mlX9_245 mdX9_lotOf mvX9_lotOf rfl hx0 rfl (Nat.le_of_ble_eq_true rfl) (kX9_lotOf hx0 hq8) rfl ?_
      obtain ⟨t10, ht10, h⟩ := bnd_some h
      have Kt10 : Go X mX9_goesRather (d + 1) 121 [] [XI t10] q8.2 Post := by
        obtain ⟨cz, h⟩ := chk_some h
        cases h
        exact g_zreturn dX9_goesRather_121 rfl cz (K1 (t10, q8.2) rfl)
      refine g_icmp_le (tgt := 120) dX9_goesRather_113 (by decide) (fun b11 => ?_) (fun b11 => ?_)
      · replace ht10 := ifp b11 ht10
        refine g_iconst (v := 0) dX9_goesRather_120 rfl (i32l rfl) ?_
        cases ht10
        exact g_sub [] rfl Kt10
      · replace ht10 := ifn b11 ht10
        refine g_pc (pc' := 116) rfl ?_
        refine g_iconst (v := 1) dX9_goesRather_116 rfl (i32l rfl) ?_
        refine g_goto (tgt := 121) dX9_goesRather_117 (by decide) ?_
        cases ht10
        exact g_sub [] rfl Kt10
    · replace h := ifn b6 h
      refine g_pc (pc' := 49) rfl ?_
      refine g_aload_n 0 dX9_goesRather_49 rfl ?_
      refine g_getR dX9_goesRather_50 flX9_78 (by decide) rfl hx0 ?_
      refine g_bip dX9_goesRather_53 rfl ?_
      refine g_iload_n 3 dX9_goesRather_55 rfl ?_
      obtain ⟨c12, h⟩ := chk_some h
      refine g_imul dX9_goesRather_56 rfl c12 ?_
      refine g_iload_n 1 dX9_goesRather_57 rfl ?_
      obtain ⟨c13, h⟩ := chk_some h
      refine g_iadd dX9_goesRather_58 rfl c13 ?_
      obtain ⟨c14, h⟩ := chk_some h
      refine g_lald dX9_goesRather_59 (sf_8_33 hx0) c14.1 c14.2 ?_
      refine g_pc (pc' := 60) rfl ?_
      refine g_nmL (fun v15 ev15 => ?_)
      replace h := nm_s ev15 h
      refine g_lstore (ls' := [(4, XL v15), (0, XR x0), (1, XI x1), (2, XI x2), (3, XI x3)]) dX9_goesRather_60 (by decide) rfl ?_
      refine g_aload_n 1 dX9_goesRather_62 rfl ?_
      refine g_getR dX9_goesRather_63 flX9_78 (by decide) rfl hx0 ?_
      refine g_bip dX9_goesRather_66 rfl ?_
      refine g_iload_n 4 dX9_goesRather_68 rfl ?_
      obtain ⟨c16, h⟩ := chk_some h
      refine g_imul dX9_goesRather_69 rfl c16 ?_
      refine g_iload_n 3 dX9_goesRather_70 rfl ?_
      obtain ⟨c17, h⟩ := chk_some h
      refine g_iadd dX9_goesRather_71 rfl c17 ?_
      obtain ⟨c18, h⟩ := chk_some h
      refine g_lald dX9_goesRather_72 (sf_8_33 hx0) c18.1 c18.2 ?_
      refine g_pc (pc' := 73) rfl ?_
      refine g_nmL (fun v19 ev19 => ?_)
      replace h := nm_s ev19 h
      refine g_lstore (ls' := [(6, XL v19), (4, XL v15), (0, XR x0), (1, XI x1), (2, XI x2), (3, XI x3)]) dX9_goesRather_73 (by decide) rfl ?_
      refine g_lload 1 dX9_goesRather_75 rfl ?_
      refine g_lload 0 dX9_goesRather_77 rfl ?_
      refine g_lcmp_eq (tgt := 97) dX9_goesRather_79 dX9_goesRather_80 (by decide) (fun b20 => ?_) (fun b20 => ?_)
      · replace h := ifp b20 h
        obtain ⟨c21, h⟩ := chk_some h
        refine g_iinc (ls' := [(3, XI (x3 + (-1))), (6, XL v19), (4, XL v15), (0, XR x0), (1, XI x1), (2, XI x2)]) 5 dX9_goesRather_97 rfl rfl c21 (by decide) rfl ?_
        refine g_goto (tgt := 45) dX9_goesRather_100 (by decide) ?_
        exact g_sub [3, 4, 5, 0] rfl (ih _ _ _ h K1)
      · replace h := ifn b20 h
        refine g_pc (pc' := 83) rfl ?_
        refine g_lload 1 dX9_goesRather_83 rfl ?_
        refine g_lload 0 dX9_goesRather_85 rfl ?_
        obtain ⟨t23, ht23, h⟩ := bnd_some h
        have Kt23 : Go X mX9_goesRather (d + 1) 96 [] [XI t23] M Post := by
          obtain ⟨cz, h⟩ := chk_some h
          cases h
          exact g_zreturn dX9_goesRather_96 rfl cz (K1 (t23, M) rfl)
        refine g_lcmp_ge (tgt := 95) dX9_goesRather_87 dX9_goesRather_88 (by decide) (fun b24 => ?_) (fun b24 => ?_)
        · replace ht23 := ifp b24 ht23
          refine g_iconst (v := 0) dX9_goesRather_95 rfl (i32l rfl) ?_
          cases ht23
          exact g_sub [] rfl Kt23
        · replace ht23 := ifn b24 ht23
          refine g_pc (pc' := 91) rfl ?_
          refine g_iconst (v := 1) dX9_goesRather_91 rfl (i32l rfl) ?_
          refine g_goto (tgt := 96) dX9_goesRather_92 (by decide) ?_
          cases ht23
          exact g_sub [] rfl Kt23
set_option maxRecDepth 20000 in
theorem kX9_goesRather {X : XC} {d : Nat} {x0 : Nat} {x1 : Int} {x2 : Int} (hx0 : Sh x0 = (18, 69)) {M : Mem} {q : Int × Mem} (h : fX9_goesRather x0 x1 x2 M = some q) : Ct X mX9_goesRather (d + 1) [XR x0, XI x1, XI x2] M (pI q) := by
  unfold fX9_goesRather at h
  refine ct_go (by decide +kernel) (Nat.le_of_ble_eq_true rfl) (ls := [(0, XR x0), (1, XI x1), (2, XI x2)]) rfl ?_
  refine g_aload_n 0 dX9_goesRather_0 rfl ?_
  refine g_getR dX9_goesRather_1 flX9_74 (by decide) rfl hx0 ?_
  refine g_iload_n 1 dX9_goesRather_4 rfl ?_
  obtain ⟨c1, h⟩ := chk_some h
  refine g_lald dX9_goesRather_5 (sf_8_28 hx0) c1.1 c1.2 ?_
  refine g_aload_n 0 dX9_goesRather_6 rfl ?_
  refine g_getR dX9_goesRather_7 flX9_74 (by decide) rfl hx0 ?_
  refine g_iload_n 2 dX9_goesRather_10 rfl ?_
  obtain ⟨c2, h⟩ := chk_some h
  refine g_lald dX9_goesRather_11 (sf_8_28 hx0) c2.1 c2.2 ?_
  refine g_pc (pc' := 12) rfl ?_
  refine g_lcmp_eq (tgt := 38) dX9_goesRather_12 dX9_goesRather_13 (by decide) (fun b3 => ?_) (fun b3 => ?_)
  · replace h := ifp b3 h
    refine g_aload_n 0 dX9_goesRather_38 rfl ?_
    refine g_getI dX9_goesRather_39 flX9_248 (by decide) rfl hx0 ?_
    refine g_iconst (v := 1) dX9_goesRather_42 rfl (i32l rfl) ?_
    obtain ⟨c4, h⟩ := chk_some h
    refine g_isub dX9_goesRather_43 rfl c4 ?_
    refine g_nmI (fun v5 ev5 => ?_)
    replace h := nm_s ev5 h
    refine g_istore_n (ls' := [(3, XI v5), (0, XR x0), (1, XI x1), (2, XI x2)]) dX9_goesRather_44 (by decide) rfl ?_
    obtain ⟨z25, hz25, rz25, h⟩ := lr_some h
    refine g_sub (ls' := [(0, XR x0), (1, XI x1), (2, XI x2), (3, XI v5)]) [1, 2, 3, 0] rfl ?_
    refine lX9_goesRather_l45 hx0 1000 _ _ _ hz25 (fun r e => ?_)
    have rz25 := rz25 r e
    subst rz25
    exact ⟨rfl, rfl⟩
  · replace h := ifn b3 h
    refine g_pc (pc' := 16) rfl ?_
    refine g_aload_n 0 dX9_goesRather_16 rfl ?_
    refine g_getR dX9_goesRather_17 flX9_74 (by decide) rfl hx0 ?_
    refine g_iload_n 1 dX9_goesRather_20 rfl ?_
    obtain ⟨c26, h⟩ := chk_some h
    refine g_lald dX9_goesRather_21 (sf_8_28 hx0) c26.1 c26.2 ?_
    refine g_aload_n 0 dX9_goesRather_22 rfl ?_
    refine g_getR dX9_goesRather_23 flX9_74 (by decide) rfl hx0 ?_
    refine g_iload_n 2 dX9_goesRather_26 rfl ?_
    obtain ⟨c27, h⟩ := chk_some h
    refine g_lald dX9_goesRather_27 (sf_8_28 hx0) c27.1 c27.2 ?_
    refine g_pc (pc' := 28) rfl ?_
    obtain ⟨t29, ht29, h⟩ := bnd_some h
    have Kt29 : Go X mX9_goesRather (d + 1) 37 [] [XI t29] M (pI q) := by
      obtain ⟨cz, h⟩ := chk_some h
      cases h
      exact g_zreturn dX9_goesRather_37 rfl cz ⟨rfl, rfl⟩
    refine g_lcmp_ge (tgt := 36) dX9_goesRather_28 dX9_goesRather_29 (by decide) (fun b30 => ?_) (fun b30 => ?_)
    · replace ht29 := ifp b30 ht29
      refine g_iconst (v := 0) dX9_goesRather_36 rfl (i32l rfl) ?_
      cases ht29
      exact g_sub [] rfl Kt29
    · replace ht29 := ifn b30 ht29
      refine g_pc (pc' := 32) rfl ?_
      refine g_iconst (v := 1) dX9_goesRather_32 rfl (i32l rfl) ?_
      refine g_goto (tgt := 37) dX9_goesRather_33 (by decide) ?_
      cases ht29
      exact g_sub [] rfl Kt29
def fX9_worst_l4 (x0 : Nat) : Nat → Int → Int → Mem → Option (Int × Int × Mem)
  | 0, _, _, _ => none
  | n + 1, x1, x2, M => (if (M x0 0) ≤ x2 then some (x1, x2, M) else if 0 ≤ x2 ∧ x2 < 8 then Option.bind ((if (M (x0 + 25) (Int.toNat x2)) = 1 then (if x1 = (-1) then some (x2, M) else Option.bind (fX9_goesRather x0 x2 x1 M) (fun q10 => (if q10.1 = 0 then some (x1, q10.2) else some (x2, q10.2)))) else some (x1, M)) : Option (Int × Mem)) (fun t7 => if -2147483648 ≤ (x2 + 1) ∧ (x2 + 1) ≤ 2147483647 then fX9_worst_l4 x0 n t7.1 (x2 + 1) t7.2 else none) else none)
def fX9_worst (x0 : Nat) (M : Mem) : Option (Int × Mem) := Option.bind (fX9_worst_l4 x0 1000 (-1) 0 M) (fun z13 => some (z13.1, z13.2.2))
set_option maxRecDepth 20000 in
theorem lX9_worst_l4 {X : XC} {d : Nat} {Post : Option XV → Mem → Prop} {x0 : Nat} (hx0 : Sh x0 = (18, 69)) : ∀ (n : Nat) (x1 x2 : Int) (M : Mem) (t0 : Int × Int × Mem), fX9_worst_l4 x0 n x1 x2 M = some t0 → Go X mX9_worst (d + 2) 44 [(1, XI t0.1)] [] t0.2.2 Post → Go X mX9_worst (d + 2) 4 [(0, XR x0), (1, XI x1), (2, XI x2)] [] M Post := by
  intro n
  induction n with
  | zero => intro _ _ _ _ h; cases h
  | succ n ih =>
    intro x1 x2 M t0 h K
    unfold fX9_worst_l4 at h
    refine g_iload_n 2 dX9_worst_4 rfl ?_
    refine g_aload_n 0 dX9_worst_5 rfl ?_
    refine g_getI dX9_worst_6 flX9_167 (by decide) rfl hx0 ?_
    refine g_icmp_ge (tgt := 44) dX9_worst_9 (by decide) (fun b1 => ?_) (fun b1 => ?_)
    · replace h := ifp b1 h
      cases h
      exact g_sub [1] rfl K
    · replace h := ifn b1 h
      refine g_pc (pc' := 12) rfl ?_
      refine g_aload_n 0 dX9_worst_12 rfl ?_
      refine g_getR dX9_worst_13 flX9_62 (by decide) rfl hx0 ?_
      refine g_iload_n 2 dX9_worst_16 rfl ?_
      obtain ⟨c2, h⟩ := chk_some h
      refine g_iald dX9_worst_17 (sf_8_24 hx0) c2.1 c2.2 ?_
      refine g_iconst (v := 1) dX9_worst_18 rfl (i32l rfl) ?_
      obtain ⟨t7, ht7, h⟩ := bnd_some h
      have Kt7 : Go X mX9_worst (d + 2) 38 [(0, XR x0), (1, XI t7.1), (2, XI x2)] [] t7.2 Post := by
        obtain ⟨c12, h⟩ := chk_some h
        refine g_iinc (ls' := [(2, XI (x2 + 1)), (0, XR x0), (1, XI t7.1)]) 2 dX9_worst_38 rfl rfl c12 (by decide) rfl ?_
        refine g_goto (tgt := 4) dX9_worst_41 (by decide) ?_
        exact g_sub [1, 2, 0] rfl (ih _ _ _ _ h K)
      refine g_icmp_ne (tgt := 38) dX9_worst_19 (by decide) (fun b8 => ?_) (fun b8 => ?_)
      · replace ht7 := ifn b8 ht7
        cases ht7
        exact g_sub [0, 1, 2] rfl Kt7
      · replace ht7 := ifp b8 ht7
        refine g_pc (pc' := 22) rfl ?_
        refine g_iload_n 1 dX9_worst_22 rfl ?_
        refine g_iconst (v := -1) dX9_worst_23 rfl (i32l rfl) ?_
        refine g_icmp_eq (tgt := 36) dX9_worst_24 (by decide) (fun b9 => ?_) (fun b9 => ?_)
        · replace ht7 := ifp b9 ht7
          refine g_iload_n 2 dX9_worst_36 rfl ?_
          refine g_istore_n (ls' := [(1, XI x2), (0, XR x0), (2, XI x2)]) dX9_worst_37 (by decide) rfl ?_
          cases ht7
          exact g_sub [1, 0, 2] rfl Kt7
        · replace ht7 := ifn b9 ht7
          refine g_pc (pc' := 27) rfl ?_
          refine g_aload_n 0 dX9_worst_27 rfl ?_
          refine g_iload_n 2 dX9_worst_28 rfl ?_
          refine g_iload_n 1 dX9_worst_29 rfl ?_
          obtain ⟨q10, hq10, ht7⟩ := bnd_some ht7
          refine v_I (ci := 8) (as := [XI x2, XI x1]) dX9_worst_30 mlX9_279 mdX9_goesRather mvX9_goesRather rfl hx0 rfl (Nat.le_of_ble_eq_true rfl) (kX9_goesRather hx0 hq10) rfl ?_
          refine g_if_eq (tgt := 38) dX9_worst_33 (by decide) (fun b11 => ?_) (fun b11 => ?_)
          · replace ht7 := ifp b11 ht7
            cases ht7
            exact g_sub [0, 1, 2] rfl Kt7
          · replace ht7 := ifn b11 ht7
            refine g_pc (pc' := 36) rfl ?_
            refine g_iload_n 2 dX9_worst_36 rfl ?_
            refine g_istore_n (ls' := [(1, XI x2), (0, XR x0), (2, XI x2)]) dX9_worst_37 (by decide) rfl ?_
            cases ht7
            exact g_sub [1, 0, 2] rfl Kt7
set_option maxRecDepth 20000 in
theorem kX9_worst {X : XC} {d : Nat} {x0 : Nat} (hx0 : Sh x0 = (18, 69)) {M : Mem} {q : Int × Mem} (h : fX9_worst x0 M = some q) : Ct X mX9_worst (d + 2) [XR x0] M (pI q) := by
  unfold fX9_worst at h
  refine ct_go (by decide +kernel) (Nat.le_of_ble_eq_true rfl) (ls := [(0, XR x0)]) rfl ?_
  refine g_iconst (v := -1) dX9_worst_0 rfl (i32l rfl) ?_
  refine g_istore_n (ls' := [(1, XI (-1)), (0, XR x0)]) dX9_worst_1 (by decide) rfl ?_
  refine g_iconst (v := 0) dX9_worst_2 rfl (i32l rfl) ?_
  refine g_istore_n (ls' := [(2, XI 0), (1, XI (-1)), (0, XR x0)]) dX9_worst_3 (by decide) rfl ?_
  obtain ⟨z13, hz13, h⟩ := bnd_some h
  refine g_sub (ls' := [(0, XR x0), (1, XI (-1)), (2, XI 0)]) [2, 1, 0] rfl ?_
  refine lX9_worst_l4 hx0 1000 _ _ _ _ hz13 ?_
  refine g_iload_n 0 dX9_worst_44 rfl ?_
  cases h
  exact g_ireturn dX9_worst_45 rfl ⟨rfl, rfl⟩
def fX9_goesStage_l4 (x0 : Nat) (x1 : Int) : Nat → Int → Int → Mem → Option (Int × Int × Mem)
  | 0, _, _, _ => none
  | n + 1, x2, x3, M => (if x2 = 0 then Option.bind (fX9_many_ x0 2 M) (fun q2 => Option.bind ((if q2.1 ≤ 0 then some (q2.2) else (if x3 = 1 then (if x1 = 0 then Option.bind (fX9_keepsAnew x0 q2.2) (fun q13 => some (q13.2)) else some (q2.2)) else Option.bind (fX9_keepsAnew x0 q2.2) (fun q11 => some (q11.2)))) : Option (Mem)) (fun t8 => Option.bind (fX9_tellVotes x0 t8) (fun q14 => Option.bind (fX9_tellSurplus x0 q14.2) (fun q15 => Option.bind (fX9_elects x0 q15.2) (fun q16 => Option.bind ((if q16.1 = 0 then (if (q16.2 x0 31) ≤ (q16.2 x0 7) then Option.bind (fX9_worst x0 q16.2) (fun q46 => nm (q46.1) (fun v47 => if 0 ≤ (q46.2 x0 22) ∧ (q46.2 x0 22) < 9 then nm (wr q46.2 (x0 + 41) (Int.toNat (q46.2 x0 22)) v47) (fun M49 => Option.bind (fX9_endsStage x0 x3 M49) (fun q50 => if 0 ≤ v47 ∧ v47 < 8 then nm (wr q50.2 (x0 + 25) (Int.toNat v47) 3) (fun M52 => if 0 ≤ v47 ∧ v47 < 8 then nm (wr M52 (x0 + 27) (Int.toNat v47) (M52 x0 22)) (fun M54 => if 0 ≤ v47 ∧ v47 < 8 then nm (wr M54 (x0 + 26) (Int.toNat v47) 0) (fun M56 => some (1, M56)) else none) else none) else none)) else none)) else (if x3 = (q16.2 x0 8) then Option.bind (fX9_worst x0 q16.2) (fun q58 => nm (q58.1) (fun v59 => if 0 ≤ (q58.2 x0 22) ∧ (q58.2 x0 22) < 9 then nm (wr q58.2 (x0 + 41) (Int.toNat (q58.2 x0 22)) v59) (fun M61 => Option.bind (fX9_endsStage x0 x3 M61) (fun q62 => if 0 ≤ v59 ∧ v59 < 8 then nm (wr q62.2 (x0 + 25) (Int.toNat v59) 3) (fun M64 => if 0 ≤ v59 ∧ v59 < 8 then nm (wr M64 (x0 + 27) (Int.toNat v59) (M64 x0 22)) (fun M66 => if 0 ≤ v59 ∧ v59 < 8 then nm (wr M66 (x0 + 26) (Int.toNat v59) 0) (fun M68 => some (1, M68)) else none) else none) else none)) else none)) else some (x2, q16.2))) else Option.bind (fX9_endsStage x0 x3 q16.2) (fun q69 => some (1, q69.2))) : Option (Int × Mem)) (fun t43 => if -2147483648 ≤ (x3 + 1) ∧ (x3 + 1) ≤ 2147483647 then fX9_goesStage_l4 x0 x1 n t43.1 (x3 + 1) t43.2 else none)))))) else some (x2, x3, M))
def fX9_goesStage (x0 : Nat) (x1 : Int) (M : Mem) : Option (Int × Mem) := Option.bind (fX9_goesStage_l4 x0 x1 1000 0 1 M) (fun z71 => some (0, z71.2.2))
set_option maxRecDepth 20000 in
theorem lX9_goesStage_l4 {X : XC} {d : Nat} {Post : Option XV → Mem → Prop} {x0 : Nat} {x1 : Int} (hx0 : Sh x0 = (18, 69)) : ∀ (n : Nat) (x2 x3 : Int) (M : Mem) (t0 : Int × Int × Mem), fX9_goesStage_l4 x0 x1 n x2 x3 M = some t0 → Go X mX9_goesStage (d + 4) 132 [] [] t0.2.2 Post → Go X mX9_goesStage (d + 4) 4 [(0, XR x0), (1, XI x1), (2, XI x2), (3, XI x3)] [] M Post := by
  intro n
  induction n with
  | zero => intro _ _ _ _ h; cases h
  | succ n ih =>
    intro x2 x3 M t0 h K
    unfold fX9_goesStage_l4 at h
    refine g_iload_n 2 dX9_goesStage_4 rfl ?_
    refine g_if_ne (tgt := 132) dX9_goesStage_5 (by decide) (fun b1 => ?_) (fun b1 => ?_)
    · replace h := ifn b1 h
      cases h
      exact g_sub [] rfl K
    · replace h := ifp b1 h
      refine g_pc (pc' := 8) rfl ?_
      refine g_aload_n 0 dX9_goesStage_8 rfl ?_
      refine g_iconst (v := 2) dX9_goesStage_9 rfl (i32l rfl) ?_
      obtain ⟨q2, hq2, h⟩ := bnd_some h
      refine v_I (ci := 8) (as := [XI 2]) dX9_goesStage_10 mlX9_276 mdX9_many_ mvX9_many_ rfl hx0 rfl (Nat.le_of_ble_eq_true rfl) (kX9_many_ hx0 hq2) rfl ?_
      obtain ⟨t8, ht8, h⟩ := bnd_some h
      have Kt8 : Go X mX9_goesStage (d + 4) 29 [(0, XR x0), (1, XI x1), (2, XI x2), (3, XI x3)] [] t8 Post := by
        refine g_aload_n 0 dX9_goesStage_29 rfl ?_
        obtain ⟨q14, hq14, h⟩ := bnd_some h
        refine v_V (ci := 8) (as := []) dX9_goesStage_30 mlX9_257 mdX9_tellVotes mvX9_tellVotes rfl hx0 rfl (Nat.le_of_ble_eq_true rfl) (kX9_tellVotes hx0 hq14) rfl ?_
        refine g_aload_n 0 dX9_goesStage_33 rfl ?_
        obtain ⟨q15, hq15, h⟩ := bnd_some h
        refine v_V (ci := 8) (as := []) dX9_goesStage_34 mlX9_288 mdX9_tellSurplus mvX9_tellSurplus rfl hx0 rfl (Nat.le_of_ble_eq_true rfl) (kX9_tellSurplus hx0 hq15) rfl ?_
        refine g_aload_n 0 dX9_goesStage_37 rfl ?_
        obtain ⟨q16, hq16, h⟩ := bnd_some h
        refine v_I (ci := 8) (as := []) dX9_goesStage_38 mlX9_291 mdX9_elects mvX9_elects rfl hx0 rfl (Nat.le_of_ble_eq_true rfl) (kX9_elects hx0 hq16) rfl ?_
        obtain ⟨t43, ht43, h⟩ := bnd_some h
        have Kt43 : Go X mX9_goesStage (d + 4) 126 [(0, XR x0), (1, XI x1), (2, XI t43.1), (3, XI x3)] [] t43.2 Post := by
          obtain ⟨c70, h⟩ := chk_some h
          refine g_iinc (ls' := [(3, XI (x3 + 1)), (0, XR x0), (1, XI x1), (2, XI t43.1)]) 3 dX9_goesStage_126 rfl rfl c70 (by decide) rfl ?_
          refine g_goto (tgt := 4) dX9_goesStage_129 (by decide) ?_
          exact g_sub [1, 2, 3, 0] rfl (ih _ _ _ _ h K)
        refine g_if_eq (tgt := 54) dX9_goesStage_41 (by decide) (fun b44 => ?_) (fun b44 => ?_)
        · replace ht43 := ifp b44 ht43
          refine g_aload_n 0 dX9_goesStage_54 rfl ?_
          refine g_getJ dX9_goesStage_55 flX9_260 (by decide) rfl hx0 ?_
          refine g_aload_n 0 dX9_goesStage_58 rfl ?_
          refine g_getI dX9_goesStage_59 flX9_29 (by decide) rfl hx0 ?_
          refine g_i2l dX9_goesStage_62 ?_
          refine g_lcmp_le (tgt := 75) dX9_goesStage_63 dX9_goesStage_64 (by decide) (fun b45 => ?_) (fun b45 => ?_)
          · replace ht43 := ifp b45 ht43
            refine g_aload_n 0 dX9_goesStage_75 rfl ?_
            obtain ⟨q46, hq46, ht43⟩ := bnd_some ht43
            refine v_I (ci := 8) (as := []) dX9_goesStage_76 mlX9_295 mdX9_worst mvX9_worst rfl hx0 rfl (Nat.le_of_ble_eq_true rfl) (kX9_worst hx0 hq46) rfl ?_
            refine g_nmI (fun v47 ev47 => ?_)
            replace ht43 := nm_s ev47 ht43
            refine g_istore (ls' := [(4, XI v47), (0, XR x0), (1, XI x1), (2, XI x2), (3, XI x3)]) dX9_goesStage_79 (by decide) rfl ?_
            refine g_aload_n 1 dX9_goesStage_81 rfl ?_
            refine g_getR dX9_goesStage_82 flX9_99 (by decide) rfl hx0 ?_
            refine g_aload_n 1 dX9_goesStage_85 rfl ?_
            refine g_getI dX9_goesStage_86 flX9_248 (by decide) rfl hx0 ?_
            refine g_iload 0 dX9_goesStage_89 rfl ?_
            refine g_pc (pc' := 91) rfl ?_
            obtain ⟨c48, ht43⟩ := chk_some ht43
            refine g_iast dX9_goesStage_91 (sf_8_40 hx0) c48.1 c48.2 ?_
            refine g_nmM (fun M49 eM49 => ?_)
            replace ht43 := nm_s eM49 ht43
            refine g_aload_n 1 dX9_goesStage_92 rfl ?_
            refine g_iload_n 4 dX9_goesStage_93 rfl ?_
            obtain ⟨q50, hq50, ht43⟩ := bnd_some ht43
            refine v_V (ci := 8) (as := [XI x3]) dX9_goesStage_94 mlX9_267 mdX9_endsStage mvX9_endsStage rfl hx0 rfl (Nat.le_of_ble_eq_true rfl) (kX9_endsStage hx0 hq50) rfl ?_
            refine g_aload_n 1 dX9_goesStage_97 rfl ?_
            refine g_getR dX9_goesStage_98 flX9_62 (by decide) rfl hx0 ?_
            refine g_iload 0 dX9_goesStage_101 rfl ?_
            refine g_iconst (v := 3) dX9_goesStage_103 rfl (i32l rfl) ?_
            obtain ⟨c51, ht43⟩ := chk_some ht43
            refine g_iast dX9_goesStage_104 (sf_8_24 hx0) c51.1 c51.2 ?_
            refine g_nmM (fun M52 eM52 => ?_)
            replace ht43 := nm_s eM52 ht43
            refine g_pc (pc' := 105) rfl ?_
            refine g_aload_n 1 dX9_goesStage_105 rfl ?_
            refine g_getR dX9_goesStage_106 flX9_68 (by decide) rfl hx0 ?_
            refine g_iload 0 dX9_goesStage_109 rfl ?_
            refine g_aload_n 1 dX9_goesStage_111 rfl ?_
            refine g_getI dX9_goesStage_112 flX9_248 (by decide) rfl hx0 ?_
            obtain ⟨c53, ht43⟩ := chk_some ht43
            refine g_iast dX9_goesStage_115 (sf_8_26 hx0) c53.1 c53.2 ?_
            refine g_nmM (fun M54 eM54 => ?_)
            replace ht43 := nm_s eM54 ht43
            refine g_aload_n 1 dX9_goesStage_116 rfl ?_
            refine g_getR dX9_goesStage_117 flX9_65 (by decide) rfl hx0 ?_
            refine g_iload 0 dX9_goesStage_120 rfl ?_
            refine g_pc (pc' := 122) rfl ?_
            refine g_iconst (v := 0) dX9_goesStage_122 rfl (i32l rfl) ?_
            obtain ⟨c55, ht43⟩ := chk_some ht43
            refine g_iast dX9_goesStage_123 (sf_8_25 hx0) c55.1 c55.2 ?_
            refine g_nmM (fun M56 eM56 => ?_)
            replace ht43 := nm_s eM56 ht43
            refine g_iconst (v := 1) dX9_goesStage_124 rfl (i32l rfl) ?_
            refine g_istore_n (ls' := [(2, XI 1), (4, XI v47), (0, XR x0), (1, XI x1), (3, XI x3)]) dX9_goesStage_125 (by decide) rfl ?_
            cases ht43
            exact g_sub [2, 3, 0, 4] rfl Kt43
          · replace ht43 := ifn b45 ht43
            refine g_pc (pc' := 67) rfl ?_
            refine g_iload_n 3 dX9_goesStage_67 rfl ?_
            refine g_aload_n 0 dX9_goesStage_68 rfl ?_
            refine g_getI dX9_goesStage_69 flX9_32 (by decide) rfl hx0 ?_
            refine g_icmp_ne (tgt := 126) dX9_goesStage_72 (by decide) (fun b57 => ?_) (fun b57 => ?_)
            · replace ht43 := ifn b57 ht43
              cases ht43
              exact g_sub [0, 1, 2, 3] rfl Kt43
            · replace ht43 := ifp b57 ht43
              refine g_pc (pc' := 75) rfl ?_
              refine g_aload_n 0 dX9_goesStage_75 rfl ?_
              obtain ⟨q58, hq58, ht43⟩ := bnd_some ht43
              refine v_I (ci := 8) (as := []) dX9_goesStage_76 mlX9_295 mdX9_worst mvX9_worst rfl hx0 rfl (Nat.le_of_ble_eq_true rfl) (kX9_worst hx0 hq58) rfl ?_
              refine g_nmI (fun v59 ev59 => ?_)
              replace ht43 := nm_s ev59 ht43
              refine g_istore (ls' := [(4, XI v59), (0, XR x0), (1, XI x1), (2, XI x2), (3, XI x3)]) dX9_goesStage_79 (by decide) rfl ?_
              refine g_aload_n 1 dX9_goesStage_81 rfl ?_
              refine g_getR dX9_goesStage_82 flX9_99 (by decide) rfl hx0 ?_
              refine g_aload_n 1 dX9_goesStage_85 rfl ?_
              refine g_getI dX9_goesStage_86 flX9_248 (by decide) rfl hx0 ?_
              refine g_iload 0 dX9_goesStage_89 rfl ?_
              refine g_pc (pc' := 91) rfl ?_
              obtain ⟨c60, ht43⟩ := chk_some ht43
              refine g_iast dX9_goesStage_91 (sf_8_40 hx0) c60.1 c60.2 ?_
              refine g_nmM (fun M61 eM61 => ?_)
              replace ht43 := nm_s eM61 ht43
              refine g_aload_n 1 dX9_goesStage_92 rfl ?_
              refine g_iload_n 4 dX9_goesStage_93 rfl ?_
              obtain ⟨q62, hq62, ht43⟩ := bnd_some ht43
              refine v_V (ci := 8) (as := [XI x3]) dX9_goesStage_94 mlX9_267 mdX9_endsStage mvX9_endsStage rfl hx0 rfl (Nat.le_of_ble_eq_true rfl) (kX9_endsStage hx0 hq62) rfl ?_
              refine g_aload_n 1 dX9_goesStage_97 rfl ?_
              refine g_getR dX9_goesStage_98 flX9_62 (by decide) rfl hx0 ?_
              refine g_iload 0 dX9_goesStage_101 rfl ?_
              refine g_iconst (v := 3) dX9_goesStage_103 rfl (i32l rfl) ?_
              obtain ⟨c63, ht43⟩ := chk_some ht43
              refine g_iast dX9_goesStage_104 (sf_8_24 hx0) c63.1 c63.2 ?_
              refine g_nmM (fun M64 eM64 => ?_)
              replace ht43 := nm_s eM64 ht43
              refine g_pc (pc' := 105) rfl ?_
              refine g_aload_n 1 dX9_goesStage_105 rfl ?_
              refine g_getR dX9_goesStage_106 flX9_68 (by decide) rfl hx0 ?_
              refine g_iload 0 dX9_goesStage_109 rfl ?_
              refine g_aload_n 1 dX9_goesStage_111 rfl ?_
              refine g_getI dX9_goesStage_112 flX9_248 (by decide) rfl hx0 ?_
              obtain ⟨c65, ht43⟩ := chk_some ht43
              refine g_iast dX9_goesStage_115 (sf_8_26 hx0) c65.1 c65.2 ?_
              refine g_nmM (fun M66 eM66 => ?_)
              replace ht43 := nm_s eM66 ht43
              refine g_aload_n 1 dX9_goesStage_116 rfl ?_
              refine g_getR dX9_goesStage_117 flX9_65 (by decide) rfl hx0 ?_
              refine g_iload 0 dX9_goesStage_120 rfl ?_
              refine g_pc (pc' := 122) rfl ?_
              refine g_iconst (v := 0) dX9_goesStage_122 rfl (i32l rfl) ?_
              obtain ⟨c67, ht43⟩ := chk_some ht43
              refine g_iast dX9_goesStage_123 (sf_8_25 hx0) c67.1 c67.2 ?_
              refine g_nmM (fun M68 eM68 => ?_)
              replace ht43 := nm_s eM68 ht43
              refine g_iconst (v := 1) dX9_goesStage_124 rfl (i32l rfl) ?_
              refine g_istore_n (ls' := [(2, XI 1), (4, XI v59), (0, XR x0), (1, XI x1), (3, XI x3)]) dX9_goesStage_125 (by decide) rfl ?_
              cases ht43
              exact g_sub [2, 3, 0, 4] rfl Kt43
        · replace ht43 := ifn b44 ht43
          refine g_pc (pc' := 44) rfl ?_
          refine g_aload_n 0 dX9_goesStage_44 rfl ?_
          refine g_iload_n 3 dX9_goesStage_45 rfl ?_
          obtain ⟨q69, hq69, ht43⟩ := bnd_some ht43
          refine v_V (ci := 8) (as := [XI x3]) dX9_goesStage_46 mlX9_267 mdX9_endsStage mvX9_endsStage rfl hx0 rfl (Nat.le_of_ble_eq_true rfl) (kX9_endsStage hx0 hq69) rfl ?_
          refine g_iconst (v := 1) dX9_goesStage_49 rfl (i32l rfl) ?_
          refine g_istore_n (ls' := [(2, XI 1), (0, XR x0), (1, XI x1), (3, XI x3)]) dX9_goesStage_50 (by decide) rfl ?_
          refine g_goto (tgt := 126) dX9_goesStage_51 (by decide) ?_
          cases ht43
          exact g_sub [1, 2, 0, 3] rfl Kt43
      refine g_if_le (tgt := 29) dX9_goesStage_13 (by decide) (fun b9 => ?_) (fun b9 => ?_)
      · replace ht8 := ifp b9 ht8
        cases ht8
        exact g_sub [0, 1, 2, 3] rfl Kt8
      · replace ht8 := ifn b9 ht8
        refine g_pc (pc' := 16) rfl ?_
        refine g_iload_n 3 dX9_goesStage_16 rfl ?_
        refine g_iconst (v := 1) dX9_goesStage_17 rfl (i32l rfl) ?_
        refine g_icmp_ne (tgt := 25) dX9_goesStage_18 (by decide) (fun b10 => ?_) (fun b10 => ?_)
        · replace ht8 := ifn b10 ht8
          refine g_aload_n 0 dX9_goesStage_25 rfl ?_
          obtain ⟨q11, hq11, ht8⟩ := bnd_some ht8
          refine v_V (ci := 8) (as := []) dX9_goesStage_26 mlX9_285 mdX9_keepsAnew mvX9_keepsAnew rfl hx0 rfl (Nat.le_of_ble_eq_true rfl) (kX9_keepsAnew hx0 hq11) rfl ?_
          cases ht8
          exact g_sub [0, 1, 2, 3] rfl Kt8
        · replace ht8 := ifp b10 ht8
          refine g_pc (pc' := 21) rfl ?_
          refine g_iload_n 1 dX9_goesStage_21 rfl ?_
          refine g_if_ne (tgt := 29) dX9_goesStage_22 (by decide) (fun b12 => ?_) (fun b12 => ?_)
          · replace ht8 := ifn b12 ht8
            cases ht8
            exact g_sub [0, 1, 2, 3] rfl Kt8
          · replace ht8 := ifp b12 ht8
            refine g_pc (pc' := 25) rfl ?_
            refine g_aload_n 0 dX9_goesStage_25 rfl ?_
            obtain ⟨q13, hq13, ht8⟩ := bnd_some ht8
            refine v_V (ci := 8) (as := []) dX9_goesStage_26 mlX9_285 mdX9_keepsAnew mvX9_keepsAnew rfl hx0 rfl (Nat.le_of_ble_eq_true rfl) (kX9_keepsAnew hx0 hq13) rfl ?_
            cases ht8
            exact g_sub [0, 1, 2, 3] rfl Kt8
set_option maxRecDepth 20000 in
theorem kX9_goesStage {X : XC} {d : Nat} {x0 : Nat} {x1 : Int} (hx0 : Sh x0 = (18, 69)) {M : Mem} {q : Int × Mem} (h : fX9_goesStage x0 x1 M = some q) : Ct X mX9_goesStage (d + 4) [XR x0, XI x1] M (pV q) := by
  unfold fX9_goesStage at h
  refine ct_go (by decide +kernel) (Nat.le_of_ble_eq_true rfl) (ls := [(0, XR x0), (1, XI x1)]) rfl ?_
  refine g_iconst (v := 0) dX9_goesStage_0 rfl (i32l rfl) ?_
  refine g_istore_n (ls' := [(2, XI 0), (0, XR x0), (1, XI x1)]) dX9_goesStage_1 (by decide) rfl ?_
  refine g_iconst (v := 1) dX9_goesStage_2 rfl (i32l rfl) ?_
  refine g_istore_n (ls' := [(3, XI 1), (2, XI 0), (0, XR x0), (1, XI x1)]) dX9_goesStage_3 (by decide) rfl ?_
  obtain ⟨z71, hz71, h⟩ := bnd_some h
  refine g_sub (ls' := [(0, XR x0), (1, XI x1), (2, XI 0), (3, XI 1)]) [2, 3, 1, 0] rfl ?_
  refine lX9_goesStage_l4 hx0 1000 _ _ _ _ hz71 ?_
  cases h
  exact g_return dX9_goesStage_132 rfl ⟨rfl, rfl⟩
def fX9_counts_l16 (x0 : Nat) : Nat → Int → Mem → Option (Int × Mem)
  | 0, _, _ => none
  | n + 1, x1, M => (if (M x0 0) ≤ x1 then some (x1, M) else if 0 ≤ x1 ∧ x1 < 8 then Option.bind ((if (M (x0 + 3) (Int.toNat x1)) = 0 then some (1) else some (0)) : Option (Int)) (fun t7 => if 0 ≤ x1 ∧ x1 < 8 then nm (wr M (x0 + 25) (Int.toNat x1) t7) (fun M10 => if 0 ≤ x1 ∧ x1 < 8 then Option.bind ((if (M10 (x0 + 3) (Int.toNat x1)) = 0 then some (1000000) else some (0)) : Option (Int)) (fun t13 => if 0 ≤ x1 ∧ x1 < 8 then nm (wr M10 (x0 + 26) (Int.toNat x1) t13) (fun M16 => if 0 ≤ x1 ∧ x1 < 8 then nm (wr M16 (x0 + 27) (Int.toNat x1) (-5)) (fun M18 => if -2147483648 ≤ (x1 + 1) ∧ (x1 + 1) ≤ 2147483647 then fX9_counts_l16 x0 n (x1 + 1) M18 else none) else none) else none) else none) else none) else none)
def fX9_counts_l82 (x0 : Nat) : Nat → Int → Mem → Option (Int × Mem)
  | 0, _, _ => none
  | n + 1, x1, M => Option.bind (fX9_many_ x0 2 M) (fun q21 => (if (q21.2 x0 6) ≤ q21.1 then some (x1, q21.2) else Option.bind (fX9_many_ x0 1 q21.2) (fun q23 => (if q23.1 ≤ 0 then some (x1, q23.2) else if 0 ≤ (q23.2 x0 22) ∧ (q23.2 x0 22) < 9 then nm (wr q23.2 (x0 + 41) (Int.toNat (q23.2 x0 22)) (-5)) (fun M26 => if 0 ≤ (M26 x0 22) ∧ (M26 x0 22) < 9 then nm (wr M26 (x0 + 42) (Int.toNat (M26 x0 22)) 0) (fun M28 => Option.bind (fX9_many_ x0 1 M28) (fun q29 => Option.bind (fX9_many_ x0 2 q29.2) (fun q30 => if -2147483648 ≤ (q29.1 + q30.1) ∧ (q29.1 + q30.1) ≤ 2147483647 then Option.bind ((if (q30.2 x0 6) < (q29.1 + q30.1) then Option.bind (fX9_goesStage x0 x1 q30.2) (fun q37 => some (q37.2)) else Option.bind (fX9_fills x0 q30.2) (fun q38 => some (q38.2))) : Option (Mem)) (fun t35 => if 0 ≤ (t35 x0 22) ∧ (t35 x0 22) < 9 then Option.bind ((if (t35 (x0 + 41) (Int.toNat (t35 x0 22))) = (-5) then some (0) else some (1)) : Option (Int)) (fun t41 => if -2147483648 ≤ ((t35 x0 22) + 1) ∧ ((t35 x0 22) + 1) ≤ 2147483647 then nm (wr t35 x0 22 ((t35 x0 22) + 1)) (fun M44 => fX9_counts_l82 x0 n t41 M44) else none) else none) else none))) else none) else none))))
def fX9_counts (x0 : Nat) (M : Mem) : Option (Int × Mem) := Option.bind (fX9_tellPiles x0 M) (fun q1 => nm (wr q1.2 x0 22 0) (fun M2 => nm (wr M2 x0 23 0) (fun M3 => Option.bind (fX9_counts_l16 x0 1000 0 M3) (fun z20 => Option.bind (fX9_counts_l82 x0 1000 0 z20.2) (fun z45 => some (0, z45.2))))))
set_option maxRecDepth 20000 in
theorem lX9_counts_l16 {X : XC} {d : Nat} {Post : Option XV → Mem → Prop} {x0 : Nat} (hx0 : Sh x0 = (18, 69)) : ∀ (n : Nat) (x1 : Int) (M : Mem) (t0 : Int × Mem), fX9_counts_l16 x0 n x1 M = some t0 → Go X mX9_counts (d + 5) 80 [(0, XR x0)] [] t0.2 Post → Go X mX9_counts (d + 5) 16 [(0, XR x0), (1, XI x1)] [] M Post := by
  intro n
  induction n with
  | zero => intro _ _ _ h; cases h
  | succ n ih =>
    intro x1 M t0 h K
    unfold fX9_counts_l16 at h
    refine g_iload_n 1 dX9_counts_16 rfl ?_
    refine g_aload_n 0 dX9_counts_17 rfl ?_
    refine g_getI dX9_counts_18 flX9_167 (by decide) rfl hx0 ?_
    refine g_icmp_ge (tgt := 80) dX9_counts_21 (by decide) (fun b4 => ?_) (fun b4 => ?_)
    · replace h := ifp b4 h
      cases h
      exact g_sub [0] rfl K
    · replace h := ifn b4 h
      refine g_pc (pc' := 24) rfl ?_
      refine g_aload_n 0 dX9_counts_24 rfl ?_
      refine g_getR dX9_counts_25 flX9_62 (by decide) rfl hx0 ?_
      refine g_iload_n 1 dX9_counts_28 rfl ?_
      refine g_aload_n 0 dX9_counts_29 rfl ?_
      refine g_getR dX9_counts_30 flX9_11 (by decide) rfl hx0 ?_
      refine g_iload_n 1 dX9_counts_33 rfl ?_
      obtain ⟨c5, h⟩ := chk_some h
      refine g_zald dX9_counts_34 (sf_8_2 hx0) c5.1 c5.2 ?_
      obtain ⟨t7, ht7, h⟩ := bnd_some h
      have Kt7 : Go X mX9_counts (d + 5) 43 [(0, XR x0), (1, XI x1)] [XI t7, XI x1, XR (x0 + 25)] M Post := by
        obtain ⟨c9, h⟩ := chk_some h
        refine g_iast dX9_counts_43 (sf_8_24 hx0) c9.1 c9.2 ?_
        refine g_nmM (fun M10 eM10 => ?_)
        replace h := nm_s eM10 h
        refine g_aload_n 0 dX9_counts_44 rfl ?_
        refine g_getR dX9_counts_45 flX9_65 (by decide) rfl hx0 ?_
        refine g_iload_n 1 dX9_counts_48 rfl ?_
        refine g_aload_n 0 dX9_counts_49 rfl ?_
        refine g_getR dX9_counts_50 flX9_11 (by decide) rfl hx0 ?_
        refine g_iload_n 1 dX9_counts_53 rfl ?_
        obtain ⟨c11, h⟩ := chk_some h
        refine g_zald dX9_counts_54 (sf_8_2 hx0) c11.1 c11.2 ?_
        refine g_pc (pc' := 55) rfl ?_
        obtain ⟨t13, ht13, h⟩ := bnd_some h
        have Kt13 : Go X mX9_counts (d + 5) 65 [(0, XR x0), (1, XI x1)] [XI t13, XI x1, XR (x0 + 26)] M10 Post := by
          obtain ⟨c15, h⟩ := chk_some h
          refine g_iast dX9_counts_65 (sf_8_25 hx0) c15.1 c15.2 ?_
          refine g_nmM (fun M16 eM16 => ?_)
          replace h := nm_s eM16 h
          refine g_aload_n 0 dX9_counts_66 rfl ?_
          refine g_getR dX9_counts_67 flX9_68 (by decide) rfl hx0 ?_
          refine g_iload_n 1 dX9_counts_70 rfl ?_
          refine g_bip dX9_counts_71 rfl ?_
          obtain ⟨c17, h⟩ := chk_some h
          refine g_iast dX9_counts_73 (sf_8_26 hx0) c17.1 c17.2 ?_
          refine g_nmM (fun M18 eM18 => ?_)
          replace h := nm_s eM18 h
          obtain ⟨c19, h⟩ := chk_some h
          refine g_iinc (ls' := [(1, XI (x1 + 1)), (0, XR x0)]) 1 dX9_counts_74 rfl rfl c19 (by decide) rfl ?_
          refine g_goto (tgt := 16) dX9_counts_77 (by decide) ?_
          exact g_sub [1, 0] rfl (ih _ _ _ h K)
        refine g_if_eq (tgt := 62) dX9_counts_55 (by decide) (fun b14 => ?_) (fun b14 => ?_)
        · replace ht13 := ifp b14 ht13
          refine g_ldcw (v := 1000000) dX9_counts_62 csX9_302 (by decide +kernel) (i32l rfl) ?_
          cases ht13
          exact g_sub [0, 1] rfl Kt13
        · replace ht13 := ifn b14 ht13
          refine g_pc (pc' := 58) rfl ?_
          refine g_iconst (v := 0) dX9_counts_58 rfl (i32l rfl) ?_
          refine g_goto (tgt := 65) dX9_counts_59 (by decide) ?_
          cases ht13
          exact g_sub [0, 1] rfl Kt13
      refine g_if_eq (tgt := 42) dX9_counts_35 (by decide) (fun b8 => ?_) (fun b8 => ?_)
      · replace ht7 := ifp b8 ht7
        refine g_iconst (v := 1) dX9_counts_42 rfl (i32l rfl) ?_
        cases ht7
        exact g_sub [0, 1] rfl Kt7
      · replace ht7 := ifn b8 ht7
        refine g_pc (pc' := 38) rfl ?_
        refine g_iconst (v := 0) dX9_counts_38 rfl (i32l rfl) ?_
        refine g_goto (tgt := 43) dX9_counts_39 (by decide) ?_
        cases ht7
        exact g_sub [0, 1] rfl Kt7
set_option maxRecDepth 20000 in
theorem lX9_counts_l82 {X : XC} {d : Nat} {Post : Option XV → Mem → Prop} {x0 : Nat} (hx0 : Sh x0 = (18, 69)) : ∀ (n : Nat) (x1 : Int) (M : Mem) (t0 : Int × Mem), fX9_counts_l82 x0 n x1 M = some t0 → Go X mX9_counts (d + 5) 186 [] [] t0.2 Post → Go X mX9_counts (d + 5) 82 [(0, XR x0), (1, XI x1)] [] M Post := by
  intro n
  induction n with
  | zero => intro _ _ _ h; cases h
  | succ n ih =>
    intro x1 M t0 h K
    unfold fX9_counts_l82 at h
    refine g_aload_n 0 dX9_counts_82 rfl ?_
    refine g_iconst (v := 2) dX9_counts_83 rfl (i32l rfl) ?_
    obtain ⟨q21, hq21, h⟩ := bnd_some h
    refine v_I (ci := 8) (as := [XI 2]) dX9_counts_84 mlX9_276 mdX9_many_ mvX9_many_ rfl hx0 rfl (Nat.le_of_ble_eq_true rfl) (kX9_many_ hx0 hq21) rfl ?_
    refine g_aload_n 0 dX9_counts_87 rfl ?_
    refine g_getI dX9_counts_88 flX9_25 (by decide) rfl hx0 ?_
    refine g_icmp_ge (tgt := 186) dX9_counts_91 (by decide) (fun b22 => ?_) (fun b22 => ?_)
    · replace h := ifp b22 h
      cases h
      exact g_sub [] rfl K
    · replace h := ifn b22 h
      refine g_pc (pc' := 94) rfl ?_
      refine g_aload_n 0 dX9_counts_94 rfl ?_
      refine g_iconst (v := 1) dX9_counts_95 rfl (i32l rfl) ?_
      obtain ⟨q23, hq23, h⟩ := bnd_some h
      refine v_I (ci := 8) (as := [XI 1]) dX9_counts_96 mlX9_276 mdX9_many_ mvX9_many_ rfl hx0 rfl (Nat.le_of_ble_eq_true rfl) (kX9_many_ hx0 hq23) rfl ?_
      refine g_if_le (tgt := 186) dX9_counts_99 (by decide) (fun b24 => ?_) (fun b24 => ?_)
      · replace h := ifp b24 h
        cases h
        exact g_sub [] rfl K
      · replace h := ifn b24 h
        refine g_pc (pc' := 102) rfl ?_
        refine g_aload_n 0 dX9_counts_102 rfl ?_
        refine g_getR dX9_counts_103 flX9_99 (by decide) rfl hx0 ?_
        refine g_aload_n 0 dX9_counts_106 rfl ?_
        refine g_getI dX9_counts_107 flX9_248 (by decide) rfl hx0 ?_
        refine g_bip dX9_counts_110 rfl ?_
        obtain ⟨c25, h⟩ := chk_some h
        refine g_iast dX9_counts_112 (sf_8_40 hx0) c25.1 c25.2 ?_
        refine g_nmM (fun M26 eM26 => ?_)
        replace h := nm_s eM26 h
        refine g_aload_n 0 dX9_counts_113 rfl ?_
        refine g_getR dX9_counts_114 flX9_102 (by decide) rfl hx0 ?_
        refine g_pc (pc' := 117) rfl ?_
        refine g_aload_n 0 dX9_counts_117 rfl ?_
        refine g_getI dX9_counts_118 flX9_248 (by decide) rfl hx0 ?_
        refine g_iconst (v := 0) dX9_counts_121 rfl (i32l rfl) ?_
        obtain ⟨c27, h⟩ := chk_some h
        refine g_iast dX9_counts_122 (sf_8_41 hx0) c27.1 c27.2 ?_
        refine g_nmM (fun M28 eM28 => ?_)
        replace h := nm_s eM28 h
        refine g_aload_n 0 dX9_counts_123 rfl ?_
        refine g_iconst (v := 1) dX9_counts_124 rfl (i32l rfl) ?_
        obtain ⟨q29, hq29, h⟩ := bnd_some h
        refine v_I (ci := 8) (as := [XI 1]) dX9_counts_125 mlX9_276 mdX9_many_ mvX9_many_ rfl hx0 rfl (Nat.le_of_ble_eq_true rfl) (kX9_many_ hx0 hq29) rfl ?_
        refine g_aload_n 0 dX9_counts_128 rfl ?_
        refine g_iconst (v := 2) dX9_counts_129 rfl (i32l rfl) ?_
        refine g_pc (pc' := 130) rfl ?_
        obtain ⟨q30, hq30, h⟩ := bnd_some h
        refine v_I (ci := 8) (as := [XI 2]) dX9_counts_130 mlX9_276 mdX9_many_ mvX9_many_ rfl hx0 rfl (Nat.le_of_ble_eq_true rfl) (kX9_many_ hx0 hq30) rfl ?_
        obtain ⟨c31, h⟩ := chk_some h
        refine g_iadd dX9_counts_133 rfl c31 ?_
        refine g_aload_n 0 dX9_counts_134 rfl ?_
        refine g_getI dX9_counts_135 flX9_25 (by decide) rfl hx0 ?_
        obtain ⟨t35, ht35, h⟩ := bnd_some h
        have Kt35 : Go X mX9_counts (d + 5) 153 [(0, XR x0)] [] t35 Post := by
          refine g_aload_n 0 dX9_counts_153 rfl ?_
          refine g_getR dX9_counts_154 flX9_99 (by decide) rfl hx0 ?_
          refine g_aload_n 0 dX9_counts_157 rfl ?_
          refine g_getI dX9_counts_158 flX9_248 (by decide) rfl hx0 ?_
          obtain ⟨c39, h⟩ := chk_some h
          refine g_iald dX9_counts_161 (sf_8_40 hx0) c39.1 c39.2 ?_
          refine g_bip dX9_counts_162 rfl ?_
          obtain ⟨t41, ht41, h⟩ := bnd_some h
          have Kt41 : Go X mX9_counts (d + 5) 172 [(0, XR x0)] [XI t41] t35 Post := by
            refine g_istore_n (ls' := [(1, XI t41), (0, XR x0)]) dX9_counts_172 (by decide) rfl ?_
            refine g_aload_n 1 dX9_counts_173 rfl ?_
            refine g_dupR dX9_counts_174 ?_
            refine g_getI dX9_counts_175 flX9_248 (by decide) rfl hx0 ?_
            refine g_iconst (v := 1) dX9_counts_178 rfl (i32l rfl) ?_
            obtain ⟨c43, h⟩ := chk_some h
            refine g_iadd dX9_counts_179 rfl c43 ?_
            refine g_putI dX9_counts_180 flX9_248 (by decide) rfl hx0 ?_
            refine g_nmM (fun M44 eM44 => ?_)
            replace h := nm_s eM44 h
            refine g_goto (tgt := 82) dX9_counts_183 (by decide) ?_
            exact g_sub [1, 0] rfl (ih _ _ _ h K)
          refine g_icmp_eq (tgt := 171) dX9_counts_164 (by decide) (fun b42 => ?_) (fun b42 => ?_)
          · replace ht41 := ifp b42 ht41
            refine g_iconst (v := 0) dX9_counts_171 rfl (i32l rfl) ?_
            cases ht41
            exact g_sub [0] rfl Kt41
          · replace ht41 := ifn b42 ht41
            refine g_pc (pc' := 167) rfl ?_
            refine g_iconst (v := 1) dX9_counts_167 rfl (i32l rfl) ?_
            refine g_goto (tgt := 172) dX9_counts_168 (by decide) ?_
            cases ht41
            exact g_sub [0] rfl Kt41
        refine g_icmp_gt (tgt := 148) dX9_counts_138 (by decide) (fun b36 => ?_) (fun b36 => ?_)
        · replace ht35 := ifp b36 ht35
          refine g_aload_n 0 dX9_counts_148 rfl ?_
          refine g_iload_n 1 dX9_counts_149 rfl ?_
          obtain ⟨q37, hq37, ht35⟩ := bnd_some ht35
          refine v_V (ci := 8) (as := [XI x1]) dX9_counts_150 mlX9_306 mdX9_goesStage mvX9_goesStage rfl hx0 rfl (Nat.le_of_ble_eq_true rfl) (kX9_goesStage hx0 hq37) rfl ?_
          cases ht35
          exact g_sub [0] rfl Kt35
        · replace ht35 := ifn b36 ht35
          refine g_pc (pc' := 141) rfl ?_
          refine g_aload_n 0 dX9_counts_141 rfl ?_
          obtain ⟨q38, hq38, ht35⟩ := bnd_some ht35
          refine v_V (ci := 8) (as := []) dX9_counts_142 mlX9_303 mdX9_fills mvX9_fills rfl hx0 rfl (Nat.le_of_ble_eq_true rfl) (kX9_fills hx0 hq38) rfl ?_
          refine g_goto (tgt := 153) dX9_counts_145 (by decide) ?_
          cases ht35
          exact g_sub [0] rfl Kt35
set_option maxRecDepth 20000 in
theorem kX9_counts {X : XC} {d : Nat} {x0 : Nat} (hx0 : Sh x0 = (18, 69)) {M : Mem} {q : Int × Mem} (h : fX9_counts x0 M = some q) : Ct X mX9_counts (d + 5) [XR x0] M (pV q) := by
  unfold fX9_counts at h
  refine ct_go (by decide +kernel) (Nat.le_of_ble_eq_true rfl) (ls := [(0, XR x0)]) rfl ?_
  refine g_aload_n 0 dX9_counts_0 rfl ?_
  obtain ⟨q1, hq1, h⟩ := bnd_some h
  refine v_V (ci := 8) (as := []) dX9_counts_1 mlX9_299 mdX9_tellPiles mvX9_tellPiles rfl hx0 rfl (Nat.le_of_ble_eq_true rfl) (kX9_tellPiles hx0 hq1) rfl ?_
  refine g_aload_n 0 dX9_counts_4 rfl ?_
  refine g_iconst (v := 0) dX9_counts_5 rfl (i32l rfl) ?_
  refine g_putI dX9_counts_6 flX9_248 (by decide) rfl hx0 ?_
  refine g_nmM (fun M2 eM2 => ?_)
  replace h := nm_s eM2 h
  refine g_aload_n 0 dX9_counts_9 rfl ?_
  refine g_iconst (v := 0) dX9_counts_10 rfl (i32l rfl) ?_
  refine g_putI dX9_counts_11 flX9_251 (by decide) rfl hx0 ?_
  refine g_nmM (fun M3 eM3 => ?_)
  replace h := nm_s eM3 h
  refine g_pc (pc' := 14) rfl ?_
  refine g_iconst (v := 0) dX9_counts_14 rfl (i32l rfl) ?_
  refine g_istore_n (ls' := [(1, XI 0), (0, XR x0)]) dX9_counts_15 (by decide) rfl ?_
  obtain ⟨z20, hz20, h⟩ := bnd_some h
  refine g_sub (ls' := [(0, XR x0), (1, XI 0)]) [1, 0] rfl ?_
  refine lX9_counts_l16 hx0 1000 _ _ _ hz20 ?_
  refine g_iconst (v := 0) dX9_counts_80 rfl (i32l rfl) ?_
  refine g_istore_n (ls' := [(1, XI 0), (0, XR x0)]) dX9_counts_81 (by decide) rfl ?_
  obtain ⟨z45, hz45, h⟩ := bnd_some h
  refine g_sub (ls' := [(0, XR x0), (1, XI 0)]) [1, 0] rfl ?_
  refine lX9_counts_l82 hx0 1000 _ _ _ hz45 ?_
  cases h
  exact g_return dX9_counts_186 rfl ⟨rfl, rfl⟩
def fX9_electedSet_l8 (x0 : Nat) : Nat → Int → Int → Mem → Option (Int × Int × Mem)
  | 0, _, _, _ => none
  | n + 1, x1, x2, M => (if (M x0 0) ≤ x2 then some (x1, x2, M) else if 0 ≤ x2 ∧ x2 < 8 then Option.bind ((if (M (x0 + 25) (Int.toNat x2)) = 2 then nm ((bOr x1 (bShl 1 x2))) (fun v8 => some (v8)) else some (x1)) : Option (Int)) (fun t6 => if -2147483648 ≤ (x2 + 1) ∧ (x2 + 1) ≤ 2147483647 then fX9_electedSet_l8 x0 n t6 (x2 + 1) M else none) else none)
def fX9_electedSet (x0 : Nat) (M : Mem) : Option (Int × Mem) := Option.bind (fX9_counts x0 M) (fun q1 => Option.bind (fX9_electedSet_l8 x0 1000 0 0 q1.2) (fun z10 => some (z10.1, z10.2.2)))
set_option maxRecDepth 20000 in
theorem lX9_electedSet_l8 {X : XC} {d : Nat} {Post : Option XV → Mem → Prop} {x0 : Nat} (hx0 : Sh x0 = (18, 69)) : ∀ (n : Nat) (x1 x2 : Int) (M : Mem) (t0 : Int × Int × Mem), fX9_electedSet_l8 x0 n x1 x2 M = some t0 → Go X mX9_electedSet (d + 6) 38 [(1, XI t0.1)] [] t0.2.2 Post → Go X mX9_electedSet (d + 6) 8 [(0, XR x0), (1, XI x1), (2, XI x2)] [] M Post := by
  intro n
  induction n with
  | zero => intro _ _ _ _ h; cases h
  | succ n ih =>
    intro x1 x2 M t0 h K
    unfold fX9_electedSet_l8 at h
    refine g_iload_n 2 dX9_electedSet_8 rfl ?_
    refine g_aload_n 0 dX9_electedSet_9 rfl ?_
    refine g_getI dX9_electedSet_10 flX9_167 (by decide) rfl hx0 ?_
    refine g_icmp_ge (tgt := 38) dX9_electedSet_13 (by decide) (fun b2 => ?_) (fun b2 => ?_)
    · replace h := ifp b2 h
      cases h
      exact g_sub [1] rfl K
    · replace h := ifn b2 h
      refine g_pc (pc' := 16) rfl ?_
      refine g_aload_n 0 dX9_electedSet_16 rfl ?_
      refine g_getR dX9_electedSet_17 flX9_62 (by decide) rfl hx0 ?_
      refine g_iload_n 2 dX9_electedSet_20 rfl ?_
      obtain ⟨c3, h⟩ := chk_some h
      refine g_iald dX9_electedSet_21 (sf_8_24 hx0) c3.1 c3.2 ?_
      refine g_iconst (v := 2) dX9_electedSet_22 rfl (i32l rfl) ?_
      obtain ⟨t6, ht6, h⟩ := bnd_some h
      have Kt6 : Go X mX9_electedSet (d + 6) 32 [(0, XR x0), (1, XI t6), (2, XI x2)] [] M Post := by
        obtain ⟨c9, h⟩ := chk_some h
        refine g_iinc (ls' := [(2, XI (x2 + 1)), (0, XR x0), (1, XI t6)]) 2 dX9_electedSet_32 rfl rfl c9 (by decide) rfl ?_
        refine g_goto (tgt := 8) dX9_electedSet_35 (by decide) ?_
        exact g_sub [1, 2, 0] rfl (ih _ _ _ _ h K)
      refine g_icmp_ne (tgt := 32) dX9_electedSet_23 (by decide) (fun b7 => ?_) (fun b7 => ?_)
      · replace ht6 := ifn b7 ht6
        cases ht6
        exact g_sub [0, 1, 2] rfl Kt6
      · replace ht6 := ifp b7 ht6
        refine g_pc (pc' := 26) rfl ?_
        refine g_iload_n 1 dX9_electedSet_26 rfl ?_
        refine g_iconst (v := 1) dX9_electedSet_27 rfl (i32l rfl) ?_
        refine g_iload_n 2 dX9_electedSet_28 rfl ?_
        refine g_ishl dX9_electedSet_29 ?_
        refine g_ior dX9_electedSet_30 ?_
        refine g_nmI (fun v8 ev8 => ?_)
        replace ht6 := nm_s ev8 ht6
        refine g_istore_n (ls' := [(1, XI v8), (0, XR x0), (2, XI x2)]) dX9_electedSet_31 (by decide) rfl ?_
        cases ht6
        exact g_sub [1, 0, 2] rfl Kt6
set_option maxRecDepth 20000 in
theorem kX9_electedSet {X : XC} {d : Nat} {x0 : Nat} (hx0 : Sh x0 = (18, 69)) {M : Mem} {q : Int × Mem} (h : fX9_electedSet x0 M = some q) : Ct X mX9_electedSet (d + 6) [XR x0] M (pI q) := by
  unfold fX9_electedSet at h
  refine ct_go (by decide +kernel) (Nat.le_of_ble_eq_true rfl) (ls := [(0, XR x0)]) rfl ?_
  refine g_aload_n 0 dX9_electedSet_0 rfl ?_
  obtain ⟨q1, hq1, h⟩ := bnd_some h
  refine v_V (ci := 8) (as := []) dX9_electedSet_1 mlX9_310 mdX9_counts mvX9_counts rfl hx0 rfl (Nat.le_of_ble_eq_true rfl) (kX9_counts hx0 hq1) rfl ?_
  refine g_iconst (v := 0) dX9_electedSet_4 rfl (i32l rfl) ?_
  refine g_istore_n (ls' := [(1, XI 0), (0, XR x0)]) dX9_electedSet_5 (by decide) rfl ?_
  refine g_iconst (v := 0) dX9_electedSet_6 rfl (i32l rfl) ?_
  refine g_istore_n (ls' := [(2, XI 0), (1, XI 0), (0, XR x0)]) dX9_electedSet_7 (by decide) rfl ?_
  obtain ⟨z10, hz10, h⟩ := bnd_some h
  refine g_sub (ls' := [(0, XR x0), (1, XI 0), (2, XI 0)]) [2, 1, 0] rfl ?_
  refine lX9_electedSet_l8 hx0 1000 _ _ _ _ hz10 ?_
  refine g_iload_n 0 dX9_electedSet_38 rfl ?_
  cases h
  exact g_ireturn dX9_electedSet_39 rfl ⟨rfl, rfl⟩
def fX9_firstMany_l4 (x0 : Nat) (x1 : Int) : Nat → Int → Int → Mem → Option (Int × Int × Mem)
  | 0, _, _, _ => none
  | n + 1, x2, x3, M => (if (M x0 1) ≤ x3 then some (x2, x3, M) else if 0 ≤ x3 ∧ x3 < 25 then Option.bind (fX9_left x0 (M (x0 + 5) (Int.toNat x3)) M) (fun q3 => nm (q3.1) (fun v4 => Option.bind ((if v4 ≤ 0 then some (x2, q3.2) else Option.bind (fX9_digitAt v4 0 q3.2) (fun q14 => if -2147483648 ≤ (x1 + 1) ∧ (x1 + 1) ≤ 2147483647 then (if q14.1 = (x1 + 1) then if 0 ≤ x3 ∧ x3 < 25 then if -2147483648 ≤ (x2 + (q14.2 (x0 + 6) (Int.toNat x3))) ∧ (x2 + (q14.2 (x0 + 6) (Int.toNat x3))) ≤ 2147483647 then nm ((x2 + (q14.2 (x0 + 6) (Int.toNat x3)))) (fun v19 => some (v19, q14.2)) else none else none else some (x2, q14.2)) else none)) : Option (Int × Mem)) (fun t12 => if -2147483648 ≤ (x3 + 1) ∧ (x3 + 1) ≤ 2147483647 then fX9_firstMany_l4 x0 x1 n t12.1 (x3 + 1) t12.2 else none))) else none)
def fX9_firstMany (x0 : Nat) (x1 : Int) (M : Mem) : Option (Int × Mem) := Option.bind (fX9_firstMany_l4 x0 x1 1000 0 0 M) (fun z21 => some (z21.1, z21.2.2))
set_option maxRecDepth 20000 in
theorem lX9_firstMany_l4 {X : XC} {d : Nat} {Post : Option XV → Mem → Prop} {x0 : Nat} {x1 : Int} (hx0 : Sh x0 = (18, 69)) : ∀ (n : Nat) (x2 x3 : Int) (M : Mem) (t0 : Int × Int × Mem), fX9_firstMany_l4 x0 x1 n x2 x3 M = some t0 → Go X mX9_firstMany (d + 3) 56 [(2, XI t0.1)] [] t0.2.2 Post → Go X mX9_firstMany (d + 3) 4 [(0, XR x0), (1, XI x1), (2, XI x2), (3, XI x3)] [] M Post := by
  intro n
  induction n with
  | zero => intro _ _ _ _ h; cases h
  | succ n ih =>
    intro x2 x3 M t0 h K
    unfold fX9_firstMany_l4 at h
    refine g_iload_n 3 dX9_firstMany_4 rfl ?_
    refine g_aload_n 0 dX9_firstMany_5 rfl ?_
    refine g_getI dX9_firstMany_6 flX9_174 (by decide) rfl hx0 ?_
    refine g_icmp_ge (tgt := 56) dX9_firstMany_9 (by decide) (fun b1 => ?_) (fun b1 => ?_)
    · replace h := ifp b1 h
      cases h
      exact g_sub [2] rfl K
    · replace h := ifn b1 h
      refine g_pc (pc' := 12) rfl ?_
      refine g_aload_n 0 dX9_firstMany_12 rfl ?_
      refine g_aload_n 0 dX9_firstMany_13 rfl ?_
      refine g_getR dX9_firstMany_14 flX9_19 (by decide) rfl hx0 ?_
      refine g_iload_n 3 dX9_firstMany_17 rfl ?_
      obtain ⟨c2, h⟩ := chk_some h
      refine g_iald dX9_firstMany_18 (sf_8_4 hx0) c2.1 c2.2 ?_
      obtain ⟨q3, hq3, h⟩ := bnd_some h
      refine v_I (ci := 8) (as := [XI (M (x0 + 5) (Int.toNat x3))]) dX9_firstMany_19 mlX9_228 mdX9_left mvX9_left rfl hx0 rfl (Nat.le_of_ble_eq_true rfl) (kX9_left hx0 hq3) rfl ?_
      refine g_nmI (fun v4 ev4 => ?_)
      replace h := nm_s ev4 h
      refine g_istore (ls' := [(4, XI v4), (0, XR x0), (1, XI x1), (2, XI x2), (3, XI x3)]) dX9_firstMany_22 (by decide) rfl ?_
      refine g_iload 0 dX9_firstMany_24 rfl ?_
      refine g_pc (pc' := 26) rfl ?_
      obtain ⟨t12, ht12, h⟩ := bnd_some h
      have Kt12 : Go X mX9_firstMany (d + 3) 50 [(0, XR x0), (1, XI x1), (2, XI t12.1), (3, XI x3)] [] t12.2 Post := by
        obtain ⟨c20, h⟩ := chk_some h
        refine g_iinc (ls' := [(3, XI (x3 + 1)), (0, XR x0), (1, XI x1), (2, XI t12.1)]) 3 dX9_firstMany_50 rfl rfl c20 (by decide) rfl ?_
        refine g_goto (tgt := 4) dX9_firstMany_53 (by decide) ?_
        exact g_sub [1, 2, 3, 0] rfl (ih _ _ _ _ h K)
      refine g_if_le (tgt := 50) dX9_firstMany_26 (by decide) (fun b13 => ?_) (fun b13 => ?_)
      · replace ht12 := ifp b13 ht12
        cases ht12
        exact g_sub [1, 2, 3, 4] rfl Kt12
      · replace ht12 := ifn b13 ht12
        refine g_pc (pc' := 29) rfl ?_
        refine g_iload 0 dX9_firstMany_29 rfl ?_
        refine g_iconst (v := 0) dX9_firstMany_31 rfl (i32l rfl) ?_
        obtain ⟨q14, hq14, ht12⟩ := bnd_some ht12
        refine s_I (as := [XI v4, XI 0]) dX9_firstMany_32 mlX9_181 mdX9_digitAt msX9_digitAt rfl (Nat.le_of_ble_eq_true rfl) (kX9_digitAt  hq14) rfl ?_
        refine g_iload_n 2 dX9_firstMany_35 rfl ?_
        refine g_iconst (v := 1) dX9_firstMany_36 rfl (i32l rfl) ?_
        obtain ⟨c15, ht12⟩ := chk_some ht12
        refine g_iadd dX9_firstMany_37 rfl c15 ?_
        refine g_icmp_ne (tgt := 50) dX9_firstMany_38 (by decide) (fun b16 => ?_) (fun b16 => ?_)
        · replace ht12 := ifn b16 ht12
          cases ht12
          exact g_sub [1, 2, 3, 4] rfl Kt12
        · replace ht12 := ifp b16 ht12
          refine g_pc (pc' := 41) rfl ?_
          refine g_iload_n 3 dX9_firstMany_41 rfl ?_
          refine g_aload_n 1 dX9_firstMany_42 rfl ?_
          refine g_getR dX9_firstMany_43 flX9_22 (by decide) rfl hx0 ?_
          refine g_iload_n 4 dX9_firstMany_46 rfl ?_
          obtain ⟨c17, ht12⟩ := chk_some ht12
          refine g_iald dX9_firstMany_47 (sf_8_5 hx0) c17.1 c17.2 ?_
          obtain ⟨c18, ht12⟩ := chk_some ht12
          refine g_iadd dX9_firstMany_48 rfl c18 ?_
          refine g_nmI (fun v19 ev19 => ?_)
          replace ht12 := nm_s ev19 ht12
          refine g_istore_n (ls' := [(2, XI v19), (4, XI v4), (0, XR x0), (1, XI x1), (3, XI x3)]) dX9_firstMany_49 (by decide) rfl ?_
          cases ht12
          exact g_sub [2, 3, 0, 4] rfl Kt12
set_option maxRecDepth 20000 in
theorem kX9_firstMany {X : XC} {d : Nat} {x0 : Nat} {x1 : Int} (hx0 : Sh x0 = (18, 69)) {M : Mem} {q : Int × Mem} (h : fX9_firstMany x0 x1 M = some q) : Ct X mX9_firstMany (d + 3) [XR x0, XI x1] M (pI q) := by
  unfold fX9_firstMany at h
  refine ct_go (by decide +kernel) (Nat.le_of_ble_eq_true rfl) (ls := [(0, XR x0), (1, XI x1)]) rfl ?_
  refine g_iconst (v := 0) dX9_firstMany_0 rfl (i32l rfl) ?_
  refine g_istore_n (ls' := [(2, XI 0), (0, XR x0), (1, XI x1)]) dX9_firstMany_1 (by decide) rfl ?_
  refine g_iconst (v := 0) dX9_firstMany_2 rfl (i32l rfl) ?_
  refine g_istore_n (ls' := [(3, XI 0), (2, XI 0), (0, XR x0), (1, XI x1)]) dX9_firstMany_3 (by decide) rfl ?_
  obtain ⟨z21, hz21, h⟩ := bnd_some h
  refine g_sub (ls' := [(0, XR x0), (1, XI x1), (2, XI 0), (3, XI 0)]) [2, 3, 1, 0] rfl ?_
  refine lX9_firstMany_l4 hx0 1000 _ _ _ _ hz21 ?_
  refine g_iload_n 0 dX9_firstMany_56 rfl ?_
  cases h
  exact g_ireturn dX9_firstMany_57 rfl ⟨rfl, rfl⟩
def fX9_of (x0 : Nat) (x1 : Int) (x2 : Int) (M : Mem) : Option (Int × Mem) := Option.bind (fX9_isOne x0 x1 M) (fun q1 => (if q1.1 = 0 then some ((-1), q1.2) else Option.bind (fX9_in x2 0 3 q1.2) (fun q3 => (if q3.1 = 0 then some ((-1), q3.2) else Option.bind (fX9_counts x0 q3.2) (fun q5 => Option.bind ((if x2 = 0 then if 0 ≤ x1 ∧ x1 < 8 then some ((q5.2 (x0 + 25) (Int.toNat x1)), q5.2) else none else (if x2 = 1 then if 0 ≤ x1 ∧ x1 < 8 then some ((q5.2 (x0 + 27) (Int.toNat x1)), q5.2) else none else (if x2 = 2 then Option.bind (fX9_lotOf x0 x1 q5.2) (fun q18 => some (q18.1, q18.2)) else Option.bind (fX9_firstMany x0 x1 q5.2) (fun q17 => some (q17.1, q17.2))))) : Option (Int × Mem)) (fun t13 => some (t13.1, t13.2)))))))
set_option maxRecDepth 20000 in
theorem kX9_of {X : XC} {d : Nat} {x0 : Nat} {x1 : Int} {x2 : Int} (hx0 : Sh x0 = (18, 69)) {M : Mem} {q : Int × Mem} (h : fX9_of x0 x1 x2 M = some q) : Ct X mX9_of (d + 6) [XR x0, XI x1, XI x2] M (pI q) := by
  unfold fX9_of at h
  refine ct_go (by decide +kernel) (Nat.le_of_ble_eq_true rfl) (ls := [(0, XR x0), (1, XI x1), (2, XI x2)]) rfl ?_
  refine g_aload_n 0 dX9_of_0 rfl ?_
  refine g_iload_n 1 dX9_of_1 rfl ?_
  obtain ⟨q1, hq1, h⟩ := bnd_some h
  refine v_I (ci := 8) (as := [XI x1]) dX9_of_2 mlX9_211 mdX9_isOne mvX9_isOne rfl hx0 rfl (Nat.le_of_ble_eq_true rfl) (kX9_isOne hx0 hq1) rfl ?_
  refine g_if_eq (tgt := 20) dX9_of_5 (by decide) (fun b2 => ?_) (fun b2 => ?_)
  · replace h := ifp b2 h
    refine g_iconst (v := -1) dX9_of_20 rfl (i32l rfl) ?_
    cases h
    exact g_ireturn dX9_of_21 rfl ⟨rfl, rfl⟩
  · replace h := ifn b2 h
    refine g_pc (pc' := 8) rfl ?_
    refine g_iload_n 2 dX9_of_8 rfl ?_
    refine g_i2l dX9_of_9 ?_
    refine g_lconst (v := 0) dX9_of_10 rfl (i64l rfl) ?_
    refine g_ldc2 (v := 3) dX9_of_11 csX9_313 (by decide +kernel) (i64l rfl) ?_
    obtain ⟨q3, hq3, h⟩ := bnd_some h
    refine s_I (as := [XL x2, XL 0, XL 3]) dX9_of_14 mlX9_170 mdX9_in msX9_in rfl (Nat.le_of_ble_eq_true rfl) (kX9_in  hq3) rfl ?_
    refine g_if_ne (tgt := 22) dX9_of_17 (by decide) (fun b4 => ?_) (fun b4 => ?_)
    · replace h := ifn b4 h
      refine g_aload_n 0 dX9_of_22 rfl ?_
      obtain ⟨q5, hq5, h⟩ := bnd_some h
      refine v_V (ci := 8) (as := []) dX9_of_23 mlX9_310 mdX9_counts mvX9_counts rfl hx0 rfl (Nat.le_of_ble_eq_true rfl) (kX9_counts hx0 hq5) rfl ?_
      refine g_iload_n 2 dX9_of_26 rfl ?_
      obtain ⟨t13, ht13, h⟩ := bnd_some h
      have Kt13 : Go X mX9_of (d + 6) 71 [] [XI t13.1] t13.2 (pI q) := by
        cases h
        exact g_ireturn dX9_of_71 rfl ⟨rfl, rfl⟩
      refine g_if_ne (tgt := 39) dX9_of_27 (by decide) (fun b14 => ?_) (fun b14 => ?_)
      · replace ht13 := ifn b14 ht13
        refine g_iload_n 2 dX9_of_39 rfl ?_
        refine g_iconst (v := 1) dX9_of_40 rfl (i32l rfl) ?_
        refine g_icmp_ne (tgt := 53) dX9_of_41 (by decide) (fun b15 => ?_) (fun b15 => ?_)
        · replace ht13 := ifn b15 ht13
          refine g_iload_n 2 dX9_of_53 rfl ?_
          refine g_iconst (v := 2) dX9_of_54 rfl (i32l rfl) ?_
          refine g_icmp_ne (tgt := 66) dX9_of_55 (by decide) (fun b16 => ?_) (fun b16 => ?_)
          · replace ht13 := ifn b16 ht13
            refine g_aload_n 0 dX9_of_66 rfl ?_
            refine g_iload_n 1 dX9_of_67 rfl ?_
            obtain ⟨q17, hq17, ht13⟩ := bnd_some ht13
            refine v_I (ci := 8) (as := [XI x1]) dX9_of_68 mlX9_315 mdX9_firstMany mvX9_firstMany rfl hx0 rfl (Nat.le_of_ble_eq_true rfl) (kX9_firstMany hx0 hq17) rfl ?_
            cases ht13
            exact g_sub [] rfl Kt13
          · replace ht13 := ifp b16 ht13
            refine g_pc (pc' := 58) rfl ?_
            refine g_aload_n 0 dX9_of_58 rfl ?_
            refine g_iload_n 1 dX9_of_59 rfl ?_
            obtain ⟨q18, hq18, ht13⟩ := bnd_some ht13
            refine v_I (ci := 8) (as := [XI x1]) dX9_of_60 mlX9_245 mdX9_lotOf mvX9_lotOf rfl hx0 rfl (Nat.le_of_ble_eq_true rfl) (kX9_lotOf hx0 hq18) rfl ?_
            refine g_goto (tgt := 71) dX9_of_63 (by decide) ?_
            cases ht13
            exact g_sub [] rfl Kt13
        · replace ht13 := ifp b15 ht13
          refine g_pc (pc' := 44) rfl ?_
          refine g_aload_n 0 dX9_of_44 rfl ?_
          refine g_getR dX9_of_45 flX9_68 (by decide) rfl hx0 ?_
          refine g_iload_n 1 dX9_of_48 rfl ?_
          obtain ⟨c19, ht13⟩ := chk_some ht13
          refine g_iald dX9_of_49 (sf_8_26 hx0) c19.1 c19.2 ?_
          refine g_goto (tgt := 71) dX9_of_50 (by decide) ?_
          cases ht13
          exact g_sub [] rfl Kt13
      · replace ht13 := ifp b14 ht13
        refine g_pc (pc' := 30) rfl ?_
        refine g_aload_n 0 dX9_of_30 rfl ?_
        refine g_getR dX9_of_31 flX9_62 (by decide) rfl hx0 ?_
        refine g_iload_n 1 dX9_of_34 rfl ?_
        obtain ⟨c20, ht13⟩ := chk_some ht13
        refine g_iald dX9_of_35 (sf_8_24 hx0) c20.1 c20.2 ?_
        refine g_goto (tgt := 71) dX9_of_36 (by decide) ?_
        cases ht13
        exact g_sub [] rfl Kt13
    · replace h := ifp b4 h
      refine g_pc (pc' := 20) rfl ?_
      refine g_iconst (v := -1) dX9_of_20 rfl (i32l rfl) ?_
      cases h
      exact g_ireturn dX9_of_21 rfl ⟨rfl, rfl⟩
def fX9_ballotOf (x0 : Nat) (x1 : Int) (x2 : Int) (M : Mem) : Option (Int × Mem) := Option.bind (fX9_isBallot x0 x1 M) (fun q1 => (if q1.1 = 0 then some ((-1), q1.2) else Option.bind (fX9_in x2 0 2 q1.2) (fun q3 => (if q3.1 = 0 then some ((-1), q3.2) else if 0 ≤ x1 ∧ x1 < 25 then Option.bind (fX9_left x0 (q3.2 (x0 + 5) (Int.toNat x1)) q3.2) (fun q6 => nm (q6.1) (fun v7 => Option.bind ((if x2 = 0 then if 0 ≤ x1 ∧ x1 < 25 then some ((q6.2 (x0 + 6) (Int.toNat x1)), q6.2) else none else (if x2 = 1 then if 0 ≤ x1 ∧ x1 < 25 then Option.bind (fX9_lengthOf (q6.2 (x0 + 5) (Int.toNat x1)) q6.2) (fun q23 => some (q23.1, q23.2)) else none else (if v7 = 0 then some ((-5), q6.2) else Option.bind (fX9_digitAt v7 0 q6.2) (fun q20 => if -2147483648 ≤ (q20.1 - 1) ∧ (q20.1 - 1) ≤ 2147483647 then some ((q20.1 - 1), q20.2) else none)))) : Option (Int × Mem)) (fun t16 => some (t16.1, t16.2)))) else none))))
set_option maxRecDepth 20000 in
theorem kX9_ballotOf {X : XC} {d : Nat} {x0 : Nat} {x1 : Int} {x2 : Int} (hx0 : Sh x0 = (18, 69)) {M : Mem} {q : Int × Mem} (h : fX9_ballotOf x0 x1 x2 M = some q) : Ct X mX9_ballotOf (d + 3) [XR x0, XI x1, XI x2] M (pI q) := by
  unfold fX9_ballotOf at h
  refine ct_go (by decide +kernel) (Nat.le_of_ble_eq_true rfl) (ls := [(0, XR x0), (1, XI x1), (2, XI x2)]) rfl ?_
  refine g_aload_n 0 dX9_ballotOf_0 rfl ?_
  refine g_iload_n 1 dX9_ballotOf_1 rfl ?_
  obtain ⟨q1, hq1, h⟩ := bnd_some h
  refine v_I (ci := 8) (as := [XI x1]) dX9_ballotOf_2 mlX9_208 mdX9_isBallot mvX9_isBallot rfl hx0 rfl (Nat.le_of_ble_eq_true rfl) (kX9_isBallot hx0 hq1) rfl ?_
  refine g_if_eq (tgt := 20) dX9_ballotOf_5 (by decide) (fun b2 => ?_) (fun b2 => ?_)
  · replace h := ifp b2 h
    refine g_iconst (v := -1) dX9_ballotOf_20 rfl (i32l rfl) ?_
    cases h
    exact g_ireturn dX9_ballotOf_21 rfl ⟨rfl, rfl⟩
  · replace h := ifn b2 h
    refine g_pc (pc' := 8) rfl ?_
    refine g_iload_n 2 dX9_ballotOf_8 rfl ?_
    refine g_i2l dX9_ballotOf_9 ?_
    refine g_lconst (v := 0) dX9_ballotOf_10 rfl (i64l rfl) ?_
    refine g_ldc2 (v := 2) dX9_ballotOf_11 csX9_214 (by decide +kernel) (i64l rfl) ?_
    obtain ⟨q3, hq3, h⟩ := bnd_some h
    refine s_I (as := [XL x2, XL 0, XL 2]) dX9_ballotOf_14 mlX9_170 mdX9_in msX9_in rfl (Nat.le_of_ble_eq_true rfl) (kX9_in  hq3) rfl ?_
    refine g_if_ne (tgt := 22) dX9_ballotOf_17 (by decide) (fun b4 => ?_) (fun b4 => ?_)
    · replace h := ifn b4 h
      refine g_aload_n 0 dX9_ballotOf_22 rfl ?_
      refine g_aload_n 0 dX9_ballotOf_23 rfl ?_
      refine g_getR dX9_ballotOf_24 flX9_19 (by decide) rfl hx0 ?_
      refine g_iload_n 1 dX9_ballotOf_27 rfl ?_
      obtain ⟨c5, h⟩ := chk_some h
      refine g_iald dX9_ballotOf_28 (sf_8_4 hx0) c5.1 c5.2 ?_
      obtain ⟨q6, hq6, h⟩ := bnd_some h
      refine v_I (ci := 8) (as := [XI (q3.2 (x0 + 5) (Int.toNat x1))]) dX9_ballotOf_29 mlX9_228 mdX9_left mvX9_left rfl hx0 rfl (Nat.le_of_ble_eq_true rfl) (kX9_left hx0 hq6) rfl ?_
      refine g_nmI (fun v7 ev7 => ?_)
      replace h := nm_s ev7 h
      refine g_istore_n (ls' := [(3, XI v7), (0, XR x0), (1, XI x1), (2, XI x2)]) dX9_ballotOf_32 (by decide) rfl ?_
      refine g_iload_n 3 dX9_ballotOf_33 rfl ?_
      refine g_pc (pc' := 34) rfl ?_
      obtain ⟨t16, ht16, h⟩ := bnd_some h
      have Kt16 : Go X mX9_ballotOf (d + 3) 79 [] [XI t16.1] t16.2 (pI q) := by
        cases h
        exact g_ireturn dX9_ballotOf_79 rfl ⟨rfl, rfl⟩
      refine g_if_ne (tgt := 46) dX9_ballotOf_34 (by decide) (fun b17 => ?_) (fun b17 => ?_)
      · replace ht16 := ifn b17 ht16
        refine g_iload_n 3 dX9_ballotOf_46 rfl ?_
        refine g_iconst (v := 1) dX9_ballotOf_47 rfl (i32l rfl) ?_
        refine g_icmp_ne (tgt := 63) dX9_ballotOf_48 (by decide) (fun b18 => ?_) (fun b18 => ?_)
        · replace ht16 := ifn b18 ht16
          refine g_iload_n 0 dX9_ballotOf_63 rfl ?_
          refine g_if_ne (tgt := 72) dX9_ballotOf_64 (by decide) (fun b19 => ?_) (fun b19 => ?_)
          · replace ht16 := ifn b19 ht16
            refine g_iload_n 0 dX9_ballotOf_72 rfl ?_
            refine g_iconst (v := 0) dX9_ballotOf_73 rfl (i32l rfl) ?_
            obtain ⟨q20, hq20, ht16⟩ := bnd_some ht16
            refine s_I (as := [XI v7, XI 0]) dX9_ballotOf_74 mlX9_181 mdX9_digitAt msX9_digitAt rfl (Nat.le_of_ble_eq_true rfl) (kX9_digitAt  hq20) rfl ?_
            refine g_iconst (v := 1) dX9_ballotOf_77 rfl (i32l rfl) ?_
            obtain ⟨c21, ht16⟩ := chk_some ht16
            refine g_isub dX9_ballotOf_78 rfl c21 ?_
            cases ht16
            exact g_sub [] rfl Kt16
          · replace ht16 := ifp b19 ht16
            refine g_pc (pc' := 67) rfl ?_
            refine g_bip dX9_ballotOf_67 rfl ?_
            refine g_goto (tgt := 79) dX9_ballotOf_69 (by decide) ?_
            cases ht16
            exact g_sub [] rfl Kt16
        · replace ht16 := ifp b18 ht16
          refine g_pc (pc' := 51) rfl ?_
          refine g_aload_n 1 dX9_ballotOf_51 rfl ?_
          refine g_getR dX9_ballotOf_52 flX9_19 (by decide) rfl hx0 ?_
          refine g_iload_n 2 dX9_ballotOf_55 rfl ?_
          obtain ⟨c22, ht16⟩ := chk_some ht16
          refine g_iald dX9_ballotOf_56 (sf_8_4 hx0) c22.1 c22.2 ?_
          obtain ⟨q23, hq23, ht16⟩ := bnd_some ht16
          refine s_I (as := [XI (q6.2 (x0 + 5) (Int.toNat x1))]) dX9_ballotOf_57 mlX9_177 mdX9_lengthOf msX9_lengthOf rfl (Nat.le_of_ble_eq_true rfl) (kX9_lengthOf  hq23) rfl ?_
          refine g_goto (tgt := 79) dX9_ballotOf_60 (by decide) ?_
          cases ht16
          exact g_sub [] rfl Kt16
      · replace ht16 := ifp b17 ht16
        refine g_pc (pc' := 37) rfl ?_
        refine g_aload_n 1 dX9_ballotOf_37 rfl ?_
        refine g_getR dX9_ballotOf_38 flX9_22 (by decide) rfl hx0 ?_
        refine g_iload_n 2 dX9_ballotOf_41 rfl ?_
        obtain ⟨c24, ht16⟩ := chk_some ht16
        refine g_iald dX9_ballotOf_42 (sf_8_5 hx0) c24.1 c24.2 ?_
        refine g_goto (tgt := 79) dX9_ballotOf_43 (by decide) ?_
        cases ht16
        exact g_sub [] rfl Kt16
    · replace h := ifp b4 h
      refine g_pc (pc' := 20) rfl ?_
      refine g_iconst (v := -1) dX9_ballotOf_20 rfl (i32l rfl) ?_
      cases h
      exact g_ireturn dX9_ballotOf_21 rfl ⟨rfl, rfl⟩
def fX9_rowOf (x0 : Nat) (x1 : Int) (x2 : Int) (M : Mem) : Option (Int × Mem) := Option.bind (fX9_isBallot x0 x1 M) (fun q1 => (if q1.1 = 0 then some ((-1), q1.2) else if 0 ≤ x1 ∧ x1 < 25 then Option.bind (fX9_lengthOf (q1.2 (x0 + 5) (Int.toNat x1)) q1.2) (fun q4 => if -2147483648 ≤ (q4.1 - 1) ∧ (q4.1 - 1) ≤ 2147483647 then Option.bind (fX9_in x2 0 (q4.1 - 1) q4.2) (fun q6 => (if q6.1 = 0 then some ((-1), q6.2) else if 0 ≤ x1 ∧ x1 < 25 then Option.bind (fX9_digitAt (q6.2 (x0 + 5) (Int.toNat x1)) x2 q6.2) (fun q9 => if -2147483648 ≤ (q9.1 - 1) ∧ (q9.1 - 1) ≤ 2147483647 then some ((q9.1 - 1), q9.2) else none) else none)) else none) else none))
set_option maxRecDepth 20000 in
theorem kX9_rowOf {X : XC} {d : Nat} {x0 : Nat} {x1 : Int} {x2 : Int} (hx0 : Sh x0 = (18, 69)) {M : Mem} {q : Int × Mem} (h : fX9_rowOf x0 x1 x2 M = some q) : Ct X mX9_rowOf (d + 2) [XR x0, XI x1, XI x2] M (pI q) := by
  unfold fX9_rowOf at h
  refine ct_go (by decide +kernel) (Nat.le_of_ble_eq_true rfl) (ls := [(0, XR x0), (1, XI x1), (2, XI x2)]) rfl ?_
  refine g_aload_n 0 dX9_rowOf_0 rfl ?_
  refine g_iload_n 1 dX9_rowOf_1 rfl ?_
  obtain ⟨q1, hq1, h⟩ := bnd_some h
  refine v_I (ci := 8) (as := [XI x1]) dX9_rowOf_2 mlX9_208 mdX9_isBallot mvX9_isBallot rfl hx0 rfl (Nat.le_of_ble_eq_true rfl) (kX9_isBallot hx0 hq1) rfl ?_
  refine g_if_eq (tgt := 29) dX9_rowOf_5 (by decide) (fun b2 => ?_) (fun b2 => ?_)
  · replace h := ifp b2 h
    refine g_iconst (v := -1) dX9_rowOf_29 rfl (i32l rfl) ?_
    cases h
    exact g_ireturn dX9_rowOf_30 rfl ⟨rfl, rfl⟩
  · replace h := ifn b2 h
    refine g_pc (pc' := 8) rfl ?_
    refine g_iload_n 2 dX9_rowOf_8 rfl ?_
    refine g_i2l dX9_rowOf_9 ?_
    refine g_lconst (v := 0) dX9_rowOf_10 rfl (i64l rfl) ?_
    refine g_aload_n 0 dX9_rowOf_11 rfl ?_
    refine g_getR dX9_rowOf_12 flX9_19 (by decide) rfl hx0 ?_
    refine g_iload_n 1 dX9_rowOf_15 rfl ?_
    obtain ⟨c3, h⟩ := chk_some h
    refine g_iald dX9_rowOf_16 (sf_8_4 hx0) c3.1 c3.2 ?_
    obtain ⟨q4, hq4, h⟩ := bnd_some h
    refine s_I (as := [XI (q1.2 (x0 + 5) (Int.toNat x1))]) dX9_rowOf_17 mlX9_177 mdX9_lengthOf msX9_lengthOf rfl (Nat.le_of_ble_eq_true rfl) (kX9_lengthOf  hq4) rfl ?_
    refine g_pc (pc' := 20) rfl ?_
    refine g_iconst (v := 1) dX9_rowOf_20 rfl (i32l rfl) ?_
    obtain ⟨c5, h⟩ := chk_some h
    refine g_isub dX9_rowOf_21 rfl c5 ?_
    refine g_i2l dX9_rowOf_22 ?_
    obtain ⟨q6, hq6, h⟩ := bnd_some h
    refine s_I (as := [XL x2, XL 0, XL (q4.1 - 1)]) dX9_rowOf_23 mlX9_170 mdX9_in msX9_in rfl (Nat.le_of_ble_eq_true rfl) (kX9_in  hq6) rfl ?_
    refine g_if_ne (tgt := 31) dX9_rowOf_26 (by decide) (fun b7 => ?_) (fun b7 => ?_)
    · replace h := ifn b7 h
      refine g_aload_n 0 dX9_rowOf_31 rfl ?_
      refine g_getR dX9_rowOf_32 flX9_19 (by decide) rfl hx0 ?_
      refine g_iload_n 1 dX9_rowOf_35 rfl ?_
      obtain ⟨c8, h⟩ := chk_some h
      refine g_iald dX9_rowOf_36 (sf_8_4 hx0) c8.1 c8.2 ?_
      refine g_iload_n 2 dX9_rowOf_37 rfl ?_
      obtain ⟨q9, hq9, h⟩ := bnd_some h
      refine s_I (as := [XI (q6.2 (x0 + 5) (Int.toNat x1)), XI x2]) dX9_rowOf_38 mlX9_181 mdX9_digitAt msX9_digitAt rfl (Nat.le_of_ble_eq_true rfl) (kX9_digitAt  hq9) rfl ?_
      refine g_iconst (v := 1) dX9_rowOf_41 rfl (i32l rfl) ?_
      obtain ⟨c10, h⟩ := chk_some h
      refine g_isub dX9_rowOf_42 rfl c10 ?_
      refine g_pc (pc' := 43) rfl ?_
      cases h
      exact g_ireturn dX9_rowOf_43 rfl ⟨rfl, rfl⟩
    · replace h := ifp b7 h
      refine g_pc (pc' := 29) rfl ?_
      refine g_iconst (v := -1) dX9_rowOf_29 rfl (i32l rfl) ?_
      cases h
      exact g_ireturn dX9_rowOf_30 rfl ⟨rfl, rfl⟩
end
