section
set_option maxHeartbeats 8000000 in
set_option maxRecDepth 20000 in
theorem kX2_at {X : XC} {d : Nat} {x0 : Int} {x1 : Int}  {M : Mem} {q : Int × Mem} (h : fX2_at x0 x1 M = some q) : Ct X mX2_at d [XI x0, XI x1] M (pI q) := by
  unfold fX2_at at h
  refine ct_go (by decide +kernel) (Nat.le_of_ble_eq_true rfl) (ls := [(0, XI x0), (1, XI x1)]) rfl ?_
  refine g_iload_n 1 dX2_at_0 rfl ?_
  refine g_if_lt (tgt := 20) dX2_at_1 (by decide) (fun b1 => ?_) (fun b1 => ?_)
  · replace h := ifp b1 h
    refine g_iconst (v := -1) dX2_at_20 rfl (i32l rfl) ?_
    cases h
    exact g_ireturn dX2_at_21 rfl ⟨rfl, rfl⟩
  · replace h := ifn b1 h
    refine g_pc (pc' := 4) rfl ?_
    refine g_iload_n 1 dX2_at_4 rfl ?_
    refine g_gets dX2_at_5 gsX2_8 ?_
    refine g_alenC dX2_at_8 ?_
    refine g_icmp_ge (tgt := 20) dX2_at_9 (by decide) (fun b2 => ?_) (fun b2 => ?_)
    · replace h := ifp b2 h
      refine g_iconst (v := -1) dX2_at_20 rfl (i32l rfl) ?_
      cases h
      exact g_ireturn dX2_at_21 rfl ⟨rfl, rfl⟩
    · replace h := ifn b2 h
      refine g_pc (pc' := 12) rfl ?_
      refine g_gets dX2_at_12 gsX2_8 ?_
      refine g_iload_n 1 dX2_at_15 rfl ?_
      obtain ⟨c3, h⟩ := chk_some h
      refine g_ialdC dX2_at_16 c3.1 c3.2 ?_
      refine g_if_gt (tgt := 22) dX2_at_17 (by decide) (fun b4 => ?_) (fun b4 => ?_)
      · replace h := ifp b4 h
        refine g_iload_n 0 dX2_at_22 rfl ?_
        refine g_gets dX2_at_23 gsX2_8 ?_
        refine g_iload_n 1 dX2_at_26 rfl ?_
        obtain ⟨c5, h⟩ := chk_some h
        refine g_ialdC dX2_at_27 c5.1 c5.2 ?_
        obtain ⟨c6, h⟩ := chk_some h
        refine g_idiv dX2_at_28 c6.1 c6.2 rfl ?_
        refine g_bip dX2_at_29 rfl ?_
        obtain ⟨c7, h⟩ := chk_some h
        refine g_irem dX2_at_31 c7 (by decide) rfl ?_
        refine g_iconst (v := 1) dX2_at_32 rfl (i32l rfl) ?_
        refine g_pc (pc' := 33) rfl ?_
        obtain ⟨c8, h⟩ := chk_some h
        refine g_isub dX2_at_33 rfl c8 ?_
        cases h
        exact g_ireturn dX2_at_34 rfl ⟨rfl, rfl⟩
      · replace h := ifn b4 h
        refine g_pc (pc' := 20) rfl ?_
        refine g_iconst (v := -1) dX2_at_20 rfl (i32l rfl) ?_
        cases h
        exact g_ireturn dX2_at_21 rfl ⟨rfl, rfl⟩
set_option maxHeartbeats 8000000 in
set_option maxRecDepth 20000 in
theorem lX2_filledUp_l4 {X : XC} {d : Nat} {Post : Option XV → Mem → Prop}   : ∀ (n : Nat) (x1 x2 : Int) (M : Mem) (t0 : Int × Int × Mem), fX2_filledUp_l4  n x1 x2 M = some t0 → Go X mX2_filledUp d 32 [(1, XI t0.1)] [] t0.2.2 Post → Go X mX2_filledUp d 4 [(1, XI x1), (2, XI x2)] [] M Post := by
  intro n
  induction n with
  | zero => intro _ _ _ _ h; cases h
  | succ n ih =>
    intro x1 x2 M t0 h K
    unfold fX2_filledUp_l4 at h
    refine g_iload_n 1 dX2_filledUp_4 rfl ?_
    refine g_gets dX2_filledUp_5 gsX2_8 ?_
    refine g_alenC dX2_filledUp_8 ?_
    refine g_icmp_ge (tgt := 32) dX2_filledUp_9 (by decide) (fun b1 => ?_) (fun b1 => ?_)
    · replace h := ifp b1 h
      cases h
      exact g_sub [0] rfl K
    · replace h := ifn b1 h
      refine g_pc (pc' := 12) rfl ?_
      refine g_iload_n 0 dX2_filledUp_12 rfl ?_
      refine g_gets dX2_filledUp_13 gsX2_8 ?_
      refine g_iconst (v := 0) dX2_filledUp_16 rfl (i32l rfl) ?_
      refine g_ialdC dX2_filledUp_17 (by decide) (by decide) ?_
      obtain ⟨t5, ht5, h⟩ := bnd_some h
      have Kt5 : Go X mX2_filledUp d 26 [(1, XI t5), (2, XI x2)] [] M Post := by
        obtain ⟨c9, h⟩ := chk_some h
        refine g_iinc (ls' := [(2, XI (x2 + 1)), (1, XI t5)]) 1 dX2_filledUp_26 rfl rfl c9 (by decide) rfl ?_
        refine g_goto (tgt := 4) dX2_filledUp_29 (by decide) ?_
        exact g_sub [1, 0] rfl (ih _ _ _ _ h K)
      refine g_icmp_ge (tgt := 26) dX2_filledUp_18 (by decide) (fun b6 => ?_) (fun b6 => ?_)
      · replace ht5 := ifp b6 ht5
        cases ht5
        exact g_sub [0, 1] rfl Kt5
      · replace ht5 := ifn b6 ht5
        refine g_pc (pc' := 21) rfl ?_
        refine g_iload_n 0 dX2_filledUp_21 rfl ?_
        refine g_bip dX2_filledUp_22 rfl ?_
        obtain ⟨c7, ht5⟩ := chk_some ht5
        refine g_imul dX2_filledUp_24 rfl c7 ?_
        refine g_nmI (fun v8 ev8 => ?_)
        replace ht5 := nm_s ev8 ht5
        refine g_istore_n (ls' := [(1, XI v8), (2, XI x2)]) dX2_filledUp_25 (by decide) rfl ?_
        cases ht5
        exact g_sub [0, 1] rfl Kt5
set_option maxHeartbeats 8000000 in
set_option maxRecDepth 20000 in
theorem kX2_filledUp {X : XC} {d : Nat} {x0 : Int}  {M : Mem} {q : Int × Mem} (h : fX2_filledUp x0 M = some q) : Ct X mX2_filledUp d [XI x0] M (pI q) := by
  unfold fX2_filledUp at h
  refine ct_go (by decide +kernel) (Nat.le_of_ble_eq_true rfl) (ls := [(0, XI x0)]) rfl ?_
  refine g_iload_n 0 dX2_filledUp_0 rfl ?_
  refine g_istore_n (ls' := [(1, XI x0), (0, XI x0)]) dX2_filledUp_1 (by decide) rfl ?_
  refine g_iconst (v := 1) dX2_filledUp_2 rfl (i32l rfl) ?_
  refine g_istore_n (ls' := [(2, XI 1), (1, XI x0), (0, XI x0)]) dX2_filledUp_3 (by decide) rfl ?_
  obtain ⟨z10, hz10, h⟩ := bnd_some h
  refine g_sub (ls' := [(1, XI x0), (2, XI 1)]) [1, 0] rfl ?_
  refine lX2_filledUp_l4  1000 _ _ _ _ hz10 ?_
  refine g_iload_n 0 dX2_filledUp_32 rfl ?_
  cases h
  exact g_ireturn dX2_filledUp_33 rfl ⟨rfl, rfl⟩
set_option maxHeartbeats 8000000 in
set_option maxRecDepth 20000 in
theorem lX2_leftOf_l4 {X : XC} {d : Nat} {Post : Option XV → Mem → Prop} {x0 : Int} {x1 : Nat} (hx1 : Sh x1 = (3, 8)) : ∀ (n : Nat) (x2 x3 : Int) (M : Mem) (t0 : Int × Int × Mem), fX2_leftOf_l4 x0 x1 n x2 x3 M = some t0 → Go X mX2_leftOf (d + 1) 54 [(2, XI t0.1)] [] t0.2.2 Post → Go X mX2_leftOf (d + 1) 4 [(0, XI x0), (1, XR x1), (2, XI x2), (3, XI x3)] [] M Post := by
  intro n
  induction n with
  | zero => intro _ _ _ _ h; cases h
  | succ n ih =>
    intro x2 x3 M t0 h K
    unfold fX2_leftOf_l4 at h
    refine g_iload_n 3 dX2_leftOf_4 rfl ?_
    refine g_gets dX2_leftOf_5 gsX2_8 ?_
    refine g_alenC dX2_leftOf_8 ?_
    refine g_icmp_ge (tgt := 54) dX2_leftOf_9 (by decide) (fun b1 => ?_) (fun b1 => ?_)
    · replace h := ifp b1 h
      cases h
      exact g_sub [2] rfl K
    · replace h := ifn b1 h
      refine g_pc (pc' := 12) rfl ?_
      refine g_iload_n 0 dX2_leftOf_12 rfl ?_
      refine g_iload_n 3 dX2_leftOf_13 rfl ?_
      obtain ⟨q2, hq2, h⟩ := bnd_some h
      refine s_I (as := [XI x0, XI x3]) dX2_leftOf_14 mlX2_14 mdX2_at msX2_at rfl (Nat.le_of_ble_eq_true rfl) (kX2_at  hq2) rfl ?_
      refine g_nmI (fun v3 ev3 => ?_)
      replace h := nm_s ev3 h
      refine g_istore (ls' := [(4, XI v3), (0, XI x0), (1, XR x1), (2, XI x2), (3, XI x3)]) dX2_leftOf_17 (by decide) rfl ?_
      refine g_iload 0 dX2_leftOf_19 rfl ?_
      obtain ⟨t12, ht12, h⟩ := bnd_some h
      have Kt12 : Go X mX2_leftOf (d + 1) 48 [(0, XI x0), (1, XR x1), (2, XI t12), (3, XI x3)] [] q2.2 Post := by
        obtain ⟨c21, h⟩ := chk_some h
        refine g_iinc (ls' := [(3, XI (x3 + 1)), (0, XI x0), (1, XR x1), (2, XI t12)]) 3 dX2_leftOf_48 rfl rfl c21 (by decide) rfl ?_
        refine g_goto (tgt := 4) dX2_leftOf_51 (by decide) ?_
        exact g_sub [1, 2, 3, 0] rfl (ih _ _ _ _ h K)
      refine g_if_lt (tgt := 48) dX2_leftOf_21 (by decide) (fun b13 => ?_) (fun b13 => ?_)
      · replace ht12 := ifp b13 ht12
        cases ht12
        exact g_sub [1, 2, 3, 4] rfl Kt12
      · replace ht12 := ifn b13 ht12
        refine g_pc (pc' := 24) rfl ?_
        refine g_iload 0 dX2_leftOf_24 rfl ?_
        refine g_aload_n 2 dX2_leftOf_26 rfl ?_
        refine g_alenV 8 dX2_leftOf_27 hx1 rfl rfl rfl ?_
        refine g_icmp_ge (tgt := 48) dX2_leftOf_28 (by decide) (fun b14 => ?_) (fun b14 => ?_)
        · replace ht12 := ifp b14 ht12
          cases ht12
          exact g_sub [1, 2, 3, 4] rfl Kt12
        · replace ht12 := ifn b14 ht12
          refine g_pc (pc' := 31) rfl ?_
          refine g_aload_n 2 dX2_leftOf_31 rfl ?_
          refine g_iload 0 dX2_leftOf_32 rfl ?_
          obtain ⟨c15, ht12⟩ := chk_some ht12
          refine g_zald dX2_leftOf_34 hx1 c15.1 c15.2 ?_
          refine g_if_ne (tgt := 48) dX2_leftOf_35 (by decide) (fun b16 => ?_) (fun b16 => ?_)
          · replace ht12 := ifn b16 ht12
            cases ht12
            exact g_sub [1, 2, 3, 4] rfl Kt12
          · replace ht12 := ifp b16 ht12
            refine g_pc (pc' := 38) rfl ?_
            refine g_iload_n 3 dX2_leftOf_38 rfl ?_
            refine g_bip dX2_leftOf_39 rfl ?_
            obtain ⟨c17, ht12⟩ := chk_some ht12
            refine g_imul dX2_leftOf_41 rfl c17 ?_
            refine g_iload 0 dX2_leftOf_42 rfl ?_
            obtain ⟨c18, ht12⟩ := chk_some ht12
            refine g_iadd dX2_leftOf_44 rfl c18 ?_
            refine g_iconst (v := 1) dX2_leftOf_45 rfl (i32l rfl) ?_
            obtain ⟨c19, ht12⟩ := chk_some ht12
            refine g_iadd dX2_leftOf_46 rfl c19 ?_
            refine g_nmI (fun v20 ev20 => ?_)
            replace ht12 := nm_s ev20 ht12
            refine g_istore_n (ls' := [(2, XI v20), (4, XI v3), (0, XI x0), (1, XR x1), (3, XI x3)]) dX2_leftOf_47 (by decide) rfl ?_
            refine g_pc (pc' := 48) rfl ?_
            cases ht12
            exact g_sub [2, 3, 0, 4] rfl Kt12
set_option maxHeartbeats 8000000 in
set_option maxRecDepth 20000 in
theorem kX2_leftOf {X : XC} {d : Nat} {x0 : Int} {x1 : Nat} (hx1 : Sh x1 = (3, 8)) {M : Mem} {q : Int × Mem} (h : fX2_leftOf x0 x1 M = some q) : Ct X mX2_leftOf (d + 1) [XI x0, XR x1] M (pI q) := by
  unfold fX2_leftOf at h
  refine ct_go (by decide +kernel) (Nat.le_of_ble_eq_true rfl) (ls := [(0, XI x0), (1, XR x1)]) rfl ?_
  refine g_iconst (v := 0) dX2_leftOf_0 rfl (i32l rfl) ?_
  refine g_istore_n (ls' := [(2, XI 0), (0, XI x0), (1, XR x1)]) dX2_leftOf_1 (by decide) rfl ?_
  refine g_iconst (v := 0) dX2_leftOf_2 rfl (i32l rfl) ?_
  refine g_istore_n (ls' := [(3, XI 0), (2, XI 0), (0, XI x0), (1, XR x1)]) dX2_leftOf_3 (by decide) rfl ?_
  obtain ⟨z22, hz22, h⟩ := bnd_some h
  refine g_sub (ls' := [(0, XI x0), (1, XR x1), (2, XI 0), (3, XI 0)]) [2, 3, 1, 0] rfl ?_
  refine lX2_leftOf_l4 hx1 1000 _ _ _ _ hz22 ?_
  refine g_iload_n 0 dX2_leftOf_54 rfl ?_
  obtain ⟨q23, hq23, h⟩ := bnd_some h
  refine s_I (as := [XI z22.1]) dX2_leftOf_55 mlX2_20 mdX2_filledUp msX2_filledUp rfl (Nat.le_of_ble_eq_true rfl) (kX2_filledUp  hq23) rfl ?_
  cases h
  exact g_ireturn dX2_leftOf_58 rfl ⟨rfl, rfl⟩
set_option maxHeartbeats 8000000 in
set_option maxRecDepth 20000 in
theorem lX0_put_l2 {X : XC} {d : Nat} {Post : Option XV → Mem → Prop} {x0 : Nat} {x1 : Int} {x2 : Int} (hx0 : Sh x0 = (10, 3)) : ∀ (n : Nat) (x3 : Int) (M : Mem) (t0 : Int × Mem), fX0_put_l2 x0 x1 x2 n x3 M = some t0 → Go X mX0_put d 26 [(0, XR x0), (1, XI x1), (2, XI x2), (3, XI t0.1)] [] t0.2 Post → Go X mX0_put d 2 [(0, XR x0), (1, XI x1), (2, XI x2), (3, XI x3)] [] M Post := by
  intro n
  induction n with
  | zero => intro _ _ _ h; cases h
  | succ n ih =>
    intro x3 M t0 h K
    unfold fX0_put_l2 at h
    refine g_iload_n 3 dX0_put_2 rfl ?_
    refine g_aload_n 0 dX0_put_3 rfl ?_
    refine g_getI dX0_put_4 flX0_9 (by decide) rfl hx0 ?_
    refine g_icmp_ge (tgt := 26) dX0_put_7 (by decide) (fun b1 => ?_) (fun b1 => ?_)
    · replace h := ifp b1 h
      cases h
      exact g_sub [0, 1, 2, 3] rfl K
    · replace h := ifn b1 h
      refine g_pc (pc' := 10) rfl ?_
      refine g_aload_n 0 dX0_put_10 rfl ?_
      refine g_getR dX0_put_11 flX0_15 (by decide) rfl hx0 ?_
      refine g_iload_n 3 dX0_put_14 rfl ?_
      obtain ⟨c2, h⟩ := chk_some h
      refine g_iald dX0_put_15 (sf_0_1 hx0) c2.1 c2.2 ?_
      refine g_iload_n 1 dX0_put_16 rfl ?_
      refine g_icmp_ge (tgt := 26) dX0_put_17 (by decide) (fun b3 => ?_) (fun b3 => ?_)
      · replace h := ifp b3 h
        cases h
        exact g_sub [0, 1, 2, 3] rfl K
      · replace h := ifn b3 h
        refine g_pc (pc' := 20) rfl ?_
        obtain ⟨c4, h⟩ := chk_some h
        refine g_iinc (ls' := [(3, XI (x3 + 1)), (0, XR x0), (1, XI x1), (2, XI x2)]) 3 dX0_put_20 rfl rfl c4 (by decide) rfl ?_
        refine g_goto (tgt := 2) dX0_put_23 (by decide) ?_
        exact g_sub [1, 2, 3, 0] rfl (ih _ _ _ h K)
set_option maxHeartbeats 8000000 in
set_option maxRecDepth 20000 in
theorem lX0_put_l75 {X : XC} {d : Nat} {Post : Option XV → Mem → Prop} {x0 : Nat} {x1 : Int} {x2 : Int} {x3 : Int} (hx0 : Sh x0 = (10, 3)) : ∀ (n : Nat) (x4 : Int) (M : Mem) (t0 : Int × Mem), fX0_put_l75 x0 x1 x2 x3 n x4 M = some t0 → Go X mX0_put d 119 [(0, XR x0), (1, XI x1), (2, XI x2), (3, XI x3)] [] t0.2 Post → Go X mX0_put d 75 [(0, XR x0), (1, XI x1), (2, XI x2), (3, XI x3), (4, XI x4)] [] M Post := by
  intro n
  induction n with
  | zero => intro _ _ _ h; cases h
  | succ n ih =>
    intro x4 M t0 h K
    unfold fX0_put_l75 at h
    refine g_iload 4 dX0_put_75 rfl ?_
    refine g_iload_n 3 dX0_put_77 rfl ?_
    refine g_icmp_le (tgt := 119) dX0_put_78 (by decide) (fun b35 => ?_) (fun b35 => ?_)
    · replace h := ifp b35 h
      cases h
      exact g_sub [0, 1, 2, 3] rfl K
    · replace h := ifn b35 h
      refine g_pc (pc' := 81) rfl ?_
      refine g_aload_n 0 dX0_put_81 rfl ?_
      refine g_getR dX0_put_82 flX0_15 (by decide) rfl hx0 ?_
      refine g_iload 4 dX0_put_85 rfl ?_
      refine g_aload_n 0 dX0_put_87 rfl ?_
      refine g_getR dX0_put_88 flX0_15 (by decide) rfl hx0 ?_
      refine g_iload 4 dX0_put_91 rfl ?_
      refine g_iconst (v := 1) dX0_put_93 rfl (i32l rfl) ?_
      obtain ⟨c36, h⟩ := chk_some h
      refine g_isub dX0_put_94 rfl c36 ?_
      refine g_pc (pc' := 95) rfl ?_
      obtain ⟨c37, h⟩ := chk_some h
      refine g_iald dX0_put_95 (sf_0_1 hx0) c37.1 c37.2 ?_
      obtain ⟨c38, h⟩ := chk_some h
      refine g_iast dX0_put_96 (sf_0_1 hx0) c38.1 c38.2 ?_
      refine g_nmM (fun M39 eM39 => ?_)
      replace h := nm_s eM39 h
      refine g_aload_n 0 dX0_put_97 rfl ?_
      refine g_getR dX0_put_98 flX0_19 (by decide) rfl hx0 ?_
      refine g_iload 4 dX0_put_101 rfl ?_
      refine g_aload_n 0 dX0_put_103 rfl ?_
      refine g_getR dX0_put_104 flX0_19 (by decide) rfl hx0 ?_
      refine g_iload 4 dX0_put_107 rfl ?_
      refine g_iconst (v := 1) dX0_put_109 rfl (i32l rfl) ?_
      refine g_pc (pc' := 110) rfl ?_
      obtain ⟨c40, h⟩ := chk_some h
      refine g_isub dX0_put_110 rfl c40 ?_
      obtain ⟨c41, h⟩ := chk_some h
      refine g_iald dX0_put_111 (sf_0_2 hx0) c41.1 c41.2 ?_
      obtain ⟨c42, h⟩ := chk_some h
      refine g_iast dX0_put_112 (sf_0_2 hx0) c42.1 c42.2 ?_
      refine g_nmM (fun M43 eM43 => ?_)
      replace h := nm_s eM43 h
      obtain ⟨c44, h⟩ := chk_some h
      refine g_iinc (ls' := [(4, XI (x4 + (-1))), (0, XR x0), (1, XI x1), (2, XI x2), (3, XI x3)]) 4 dX0_put_113 rfl rfl c44 (by decide) rfl ?_
      refine g_goto (tgt := 75) dX0_put_116 (by decide) ?_
      exact g_sub [1, 2, 3, 4, 0] rfl (ih _ _ _ h K)
set_option maxHeartbeats 8000000 in
set_option maxRecDepth 20000 in
theorem kX0_put {X : XC} {d : Nat} {x0 : Nat} {x1 : Int} {x2 : Int} (hx0 : Sh x0 = (10, 3)) {M : Mem} {q : Int × Mem} (h : fX0_put x0 x1 x2 M = some q) : Ct X mX0_put d [XR x0, XI x1, XI x2] M (pV q) := by
  unfold fX0_put at h
  refine ct_go (by decide +kernel) (Nat.le_of_ble_eq_true rfl) (ls := [(0, XR x0), (1, XI x1), (2, XI x2)]) rfl ?_
  refine g_iconst (v := 0) dX0_put_0 rfl (i32l rfl) ?_
  refine g_istore_n (ls' := [(3, XI 0), (0, XR x0), (1, XI x1), (2, XI x2)]) dX0_put_1 (by decide) rfl ?_
  obtain ⟨z5, hz5, h⟩ := bnd_some h
  refine g_sub (ls' := [(0, XR x0), (1, XI x1), (2, XI x2), (3, XI 0)]) [1, 2, 3, 0] rfl ?_
  refine lX0_put_l2 hx0 1000 _ _ _ hz5 ?_
  refine g_iload_n 3 dX0_put_26 rfl ?_
  refine g_aload_n 0 dX0_put_27 rfl ?_
  refine g_getI dX0_put_28 flX0_9 (by decide) rfl hx0 ?_
  obtain ⟨t31, ht31, h⟩ := bnd_some h
  have Kt31 : Go X mX0_put d 143 [] [] t31 (pV q) := by
    cases h
    exact g_return dX0_put_143 rfl ⟨rfl, rfl⟩
  refine g_icmp_ge (tgt := 57) dX0_put_31 (by decide) (fun b32 => ?_) (fun b32 => ?_)
  · replace ht31 := ifp b32 ht31
    refine g_aload_n 0 dX0_put_57 rfl ?_
    refine g_getI dX0_put_58 flX0_9 (by decide) rfl hx0 ?_
    refine g_aload_n 0 dX0_put_61 rfl ?_
    refine g_getR dX0_put_62 flX0_15 (by decide) rfl hx0 ?_
    refine g_alenV 25 dX0_put_65 (sf_0_1 hx0) rfl rfl rfl ?_
    refine g_icmp_ge (tgt := 143) dX0_put_66 (by decide) (fun b33 => ?_) (fun b33 => ?_)
    · replace ht31 := ifp b33 ht31
      cases ht31
      exact g_sub [] rfl Kt31
    · replace ht31 := ifn b33 ht31
      refine g_pc (pc' := 69) rfl ?_
      refine g_aload_n 0 dX0_put_69 rfl ?_
      refine g_getI dX0_put_70 flX0_9 (by decide) rfl hx0 ?_
      refine g_nmI (fun v34 ev34 => ?_)
      replace ht31 := nm_s ev34 ht31
      refine g_istore (ls' := [(4, XI v34), (0, XR x0), (1, XI x1), (2, XI x2), (3, XI z5.1)]) dX0_put_73 (by decide) rfl ?_
      obtain ⟨z45, hz45, ht31⟩ := bnd_some ht31
      refine g_sub (ls' := [(0, XR x0), (1, XI x1), (2, XI x2), (3, XI z5.1), (4, XI v34)]) [1, 2, 3, 4, 0] rfl ?_
      refine lX0_put_l75 hx0 1000 _ _ _ hz45 ?_
      refine g_aload_n 0 dX0_put_119 rfl ?_
      refine g_getR dX0_put_120 flX0_15 (by decide) rfl hx0 ?_
      refine g_iload_n 3 dX0_put_123 rfl ?_
      refine g_iload_n 1 dX0_put_124 rfl ?_
      obtain ⟨c46, ht31⟩ := chk_some ht31
      refine g_iast dX0_put_125 (sf_0_1 hx0) c46.1 c46.2 ?_
      refine g_nmM (fun M47 eM47 => ?_)
      replace ht31 := nm_s eM47 ht31
      refine g_aload_n 0 dX0_put_126 rfl ?_
      refine g_getR dX0_put_127 flX0_19 (by decide) rfl hx0 ?_
      refine g_iload_n 3 dX0_put_130 rfl ?_
      refine g_pc (pc' := 131) rfl ?_
      refine g_iload_n 2 dX0_put_131 rfl ?_
      obtain ⟨c48, ht31⟩ := chk_some ht31
      refine g_iast dX0_put_132 (sf_0_2 hx0) c48.1 c48.2 ?_
      refine g_nmM (fun M49 eM49 => ?_)
      replace ht31 := nm_s eM49 ht31
      refine g_aload_n 0 dX0_put_133 rfl ?_
      refine g_dupR dX0_put_134 ?_
      refine g_getI dX0_put_135 flX0_9 (by decide) rfl hx0 ?_
      refine g_iconst (v := 1) dX0_put_138 rfl (i32l rfl) ?_
      obtain ⟨c50, ht31⟩ := chk_some ht31
      refine g_iadd dX0_put_139 rfl c50 ?_
      refine g_putI dX0_put_140 flX0_9 (by decide) rfl hx0 ?_
      refine g_nmM (fun M51 eM51 => ?_)
      replace ht31 := nm_s eM51 ht31
      cases ht31
      exact g_sub [] rfl Kt31
  · replace ht31 := ifn b32 ht31
    refine g_pc (pc' := 34) rfl ?_
    refine g_aload_n 0 dX0_put_34 rfl ?_
    refine g_getR dX0_put_35 flX0_15 (by decide) rfl hx0 ?_
    refine g_iload_n 3 dX0_put_38 rfl ?_
    obtain ⟨c52, ht31⟩ := chk_some ht31
    refine g_iald dX0_put_39 (sf_0_1 hx0) c52.1 c52.2 ?_
    refine g_iload_n 1 dX0_put_40 rfl ?_
    refine g_icmp_ne (tgt := 57) dX0_put_41 (by decide) (fun b53 => ?_) (fun b53 => ?_)
    · replace ht31 := ifn b53 ht31
      refine g_aload_n 0 dX0_put_57 rfl ?_
      refine g_getI dX0_put_58 flX0_9 (by decide) rfl hx0 ?_
      refine g_aload_n 0 dX0_put_61 rfl ?_
      refine g_getR dX0_put_62 flX0_15 (by decide) rfl hx0 ?_
      refine g_alenV 25 dX0_put_65 (sf_0_1 hx0) rfl rfl rfl ?_
      refine g_icmp_ge (tgt := 143) dX0_put_66 (by decide) (fun b54 => ?_) (fun b54 => ?_)
      · replace ht31 := ifp b54 ht31
        cases ht31
        exact g_sub [] rfl Kt31
      · replace ht31 := ifn b54 ht31
        refine g_pc (pc' := 69) rfl ?_
        refine g_aload_n 0 dX0_put_69 rfl ?_
        refine g_getI dX0_put_70 flX0_9 (by decide) rfl hx0 ?_
        refine g_nmI (fun v55 ev55 => ?_)
        replace ht31 := nm_s ev55 ht31
        refine g_istore (ls' := [(4, XI v55), (0, XR x0), (1, XI x1), (2, XI x2), (3, XI z5.1)]) dX0_put_73 (by decide) rfl ?_
        obtain ⟨z56, hz56, ht31⟩ := bnd_some ht31
        refine g_sub (ls' := [(0, XR x0), (1, XI x1), (2, XI x2), (3, XI z5.1), (4, XI v55)]) [1, 2, 3, 4, 0] rfl ?_
        refine lX0_put_l75 hx0 1000 _ _ _ hz56 ?_
        refine g_aload_n 0 dX0_put_119 rfl ?_
        refine g_getR dX0_put_120 flX0_15 (by decide) rfl hx0 ?_
        refine g_iload_n 3 dX0_put_123 rfl ?_
        refine g_iload_n 1 dX0_put_124 rfl ?_
        obtain ⟨c57, ht31⟩ := chk_some ht31
        refine g_iast dX0_put_125 (sf_0_1 hx0) c57.1 c57.2 ?_
        refine g_nmM (fun M58 eM58 => ?_)
        replace ht31 := nm_s eM58 ht31
        refine g_aload_n 0 dX0_put_126 rfl ?_
        refine g_getR dX0_put_127 flX0_19 (by decide) rfl hx0 ?_
        refine g_iload_n 3 dX0_put_130 rfl ?_
        refine g_pc (pc' := 131) rfl ?_
        refine g_iload_n 2 dX0_put_131 rfl ?_
        obtain ⟨c59, ht31⟩ := chk_some ht31
        refine g_iast dX0_put_132 (sf_0_2 hx0) c59.1 c59.2 ?_
        refine g_nmM (fun M60 eM60 => ?_)
        replace ht31 := nm_s eM60 ht31
        refine g_aload_n 0 dX0_put_133 rfl ?_
        refine g_dupR dX0_put_134 ?_
        refine g_getI dX0_put_135 flX0_9 (by decide) rfl hx0 ?_
        refine g_iconst (v := 1) dX0_put_138 rfl (i32l rfl) ?_
        obtain ⟨c61, ht31⟩ := chk_some ht31
        refine g_iadd dX0_put_139 rfl c61 ?_
        refine g_putI dX0_put_140 flX0_9 (by decide) rfl hx0 ?_
        refine g_nmM (fun M62 eM62 => ?_)
        replace ht31 := nm_s eM62 ht31
        cases ht31
        exact g_sub [] rfl Kt31
    · replace ht31 := ifp b53 ht31
      refine g_pc (pc' := 44) rfl ?_
      refine g_aload_n 0 dX0_put_44 rfl ?_
      refine g_getR dX0_put_45 flX0_19 (by decide) rfl hx0 ?_
      refine g_iload_n 3 dX0_put_48 rfl ?_
      refine g_dup2RI dX0_put_49 ?_
      obtain ⟨c63, ht31⟩ := chk_some ht31
      refine g_iald dX0_put_50 (sf_0_2 hx0) c63.1 c63.2 ?_
      refine g_iload_n 2 dX0_put_51 rfl ?_
      obtain ⟨c64, ht31⟩ := chk_some ht31
      refine g_iadd dX0_put_52 rfl c64 ?_
      obtain ⟨c65, ht31⟩ := chk_some ht31
      refine g_iast dX0_put_53 (sf_0_2 hx0) c65.1 c65.2 ?_
      refine g_nmM (fun M66 eM66 => ?_)
      replace ht31 := nm_s eM66 ht31
      refine g_pc (pc' := 54) rfl ?_
      refine g_goto (tgt := 143) dX0_put_54 (by decide) ?_
      cases ht31
      exact g_sub [] rfl Kt31
set_option maxHeartbeats 8000000 in
set_option maxRecDepth 20000 in
theorem lX0_gather_l7 {X : XC} {d : Nat} {Post : Option XV → Mem → Prop} {x0 : Nat} {x1 : Nat} (hx0 : Sh x0 = (10, 3)) (hx1 : Sh x1 = (11, 15)) : ∀ (n : Nat) (x2 : Int) (M : Mem) (t0 : Int × Mem), fX0_gather_l7 x0 x1 n x2 M = some t0 → Go X mX0_gather (d + 2) 59 [] [] t0.2 Post → Go X mX0_gather (d + 2) 7 [(0, XR x0), (1, XR x1), (2, XI x2)] [] M Post := by
  intro n
  induction n with
  | zero => intro _ _ _ h; cases h
  | succ n ih =>
    intro x2 M t0 h K
    unfold fX0_gather_l7 at h
    refine g_iload_n 2 dX0_gather_7 rfl ?_
    refine g_aload_n 1 dX0_gather_8 rfl ?_
    refine g_getI dX0_gather_9 flX0_22 (by decide) rfl hx1 ?_
    refine g_icmp_ge (tgt := 59) dX0_gather_12 (by decide) (fun b2 => ?_) (fun b2 => ?_)
    · replace h := ifp b2 h
      cases h
      exact g_sub [] rfl K
    · replace h := ifn b2 h
      refine g_pc (pc' := 15) rfl ?_
      refine g_aload_n 1 dX0_gather_15 rfl ?_
      refine g_getR dX0_gather_16 flX0_27 (by decide) rfl hx1 ?_
      refine g_iload_n 2 dX0_gather_19 rfl ?_
      obtain ⟨c3, h⟩ := chk_some h
      refine g_iald dX0_gather_20 (sf_1_4 hx1) c3.1 c3.2 ?_
      refine g_aload_n 1 dX0_gather_21 rfl ?_
      refine g_getR dX0_gather_22 flX0_28 (by decide) rfl hx1 ?_
      obtain ⟨q4, hq4, h⟩ := bnd_some h
      refine s_I (as := [XI (M (x1 + 5) (Int.toNat x2)), XR (x1 + 3)]) dX0_gather_25 mlX0_32 mdX2_leftOf msX2_leftOf rfl (Nat.le_of_ble_eq_true rfl) (kX2_leftOf (sf_1_2 hx1) hq4) rfl ?_
      refine g_nmI (fun v5 ev5 => ?_)
      replace h := nm_s ev5 h
      refine g_istore_n (ls' := [(3, XI v5), (0, XR x0), (1, XR x1), (2, XI x2)]) dX0_gather_28 (by decide) rfl ?_
      refine g_pc (pc' := 29) rfl ?_
      refine g_iload_n 0 dX0_gather_29 rfl ?_
      obtain ⟨t11, ht11, h⟩ := bnd_some h
      have Kt11 : Go X mX0_gather (d + 2) 53 [(0, XR x0), (1, XR x1), (2, XI x2)] [] t11 Post := by
        obtain ⟨c17, h⟩ := chk_some h
        refine g_iinc (ls' := [(2, XI (x2 + 1)), (0, XR x0), (1, XR x1)]) 2 dX0_gather_53 rfl rfl c17 (by decide) rfl ?_
        refine g_goto (tgt := 7) dX0_gather_56 (by decide) ?_
        exact g_sub [1, 2, 0] rfl (ih _ _ _ h K)
      refine g_if_eq (tgt := 53) dX0_gather_30 (by decide) (fun b12 => ?_) (fun b12 => ?_)
      · replace ht11 := ifp b12 ht11
        cases ht11
        exact g_sub [1, 2, 3] rfl Kt11
      · replace ht11 := ifn b12 ht11
        refine g_pc (pc' := 33) rfl ?_
        refine g_aload_n 2 dX0_gather_33 rfl ?_
        refine g_getR dX0_gather_34 flX0_38 (by decide) rfl hx1 ?_
        refine g_iload_n 3 dX0_gather_37 rfl ?_
        obtain ⟨c13, ht11⟩ := chk_some ht11
        refine g_iald dX0_gather_38 (sf_1_5 hx1) c13.1 c13.2 ?_
        refine g_if_eq (tgt := 53) dX0_gather_39 (by decide) (fun b14 => ?_) (fun b14 => ?_)
        · replace ht11 := ifp b14 ht11
          cases ht11
          exact g_sub [1, 2, 3] rfl Kt11
        · replace ht11 := ifn b14 ht11
          refine g_pc (pc' := 42) rfl ?_
          refine g_aload_n 1 dX0_gather_42 rfl ?_
          refine g_iload_n 0 dX0_gather_43 rfl ?_
          refine g_aload_n 2 dX0_gather_44 rfl ?_
          refine g_getR dX0_gather_45 flX0_38 (by decide) rfl hx1 ?_
          refine g_iload_n 3 dX0_gather_48 rfl ?_
          obtain ⟨c15, ht11⟩ := chk_some ht11
          refine g_iald dX0_gather_49 (sf_1_5 hx1) c15.1 c15.2 ?_
          obtain ⟨q16, hq16, ht11⟩ := bnd_some ht11
          refine v_V (ci := 0) (as := [XI v5, XI (q4.2 (x1 + 6) (Int.toNat x2))]) dX0_gather_50 mlX0_39 mdX0_put mvX0_put rfl hx0 rfl (Nat.le_of_ble_eq_true rfl) (kX0_put hx0 hq16) rfl ?_
          cases ht11
          exact g_sub [1, 2, 3] rfl Kt11
set_option maxHeartbeats 8000000 in
set_option maxRecDepth 20000 in
theorem kX0_gather {X : XC} {d : Nat} {x0 : Nat} {x1 : Nat} (hx0 : Sh x0 = (10, 3)) (hx1 : Sh x1 = (11, 15)) {M : Mem} {q : Int × Mem} (h : fX0_gather x0 x1 M = some q) : Ct X mX0_gather (d + 2) [XR x0, XR x1] M (pV q) := by
  unfold fX0_gather at h
  refine ct_go (by decide +kernel) (Nat.le_of_ble_eq_true rfl) (ls := [(0, XR x0), (1, XR x1)]) rfl ?_
  refine g_aload_n 0 dX0_gather_0 rfl ?_
  refine g_iconst (v := 0) dX0_gather_1 rfl (i32l rfl) ?_
  refine g_putI dX0_gather_2 flX0_9 (by decide) rfl hx0 ?_
  refine g_nmM (fun M1 eM1 => ?_)
  replace h := nm_s eM1 h
  refine g_iconst (v := 0) dX0_gather_5 rfl (i32l rfl) ?_
  refine g_istore_n (ls' := [(2, XI 0), (0, XR x0), (1, XR x1)]) dX0_gather_6 (by decide) rfl ?_
  obtain ⟨z18, hz18, h⟩ := bnd_some h
  refine g_sub (ls' := [(0, XR x0), (1, XR x1), (2, XI 0)]) [1, 2, 0] rfl ?_
  refine lX0_gather_l7 hx0 hx1 1000 _ _ _ hz18 ?_
  cases h
  exact g_return dX0_gather_59 rfl ⟨rfl, rfl⟩
end
