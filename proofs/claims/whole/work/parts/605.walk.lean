section
set_option maxHeartbeats 8000000 in
set_option maxRecDepth 20000 in
theorem lX4_surplus_l4 {X : XC} {d : Nat} {Post : Option XV → Mem → Prop} {x0 : Nat} (hx0 : Sh x0 = (13, 14)) : ∀ (n : Nat) (x1 x3 : Int) (M : Mem) (t0 : Int × Int × Mem), fX4_surplus_l4 x0 n x1 x3 M = some t0 → Go X mX4_surplus (d + 1) 49 [(1, XL t0.1)] [] t0.2.2 Post → Go X mX4_surplus (d + 1) 4 [(0, XR x0), (1, XL x1), (3, XI x3)] [] M Post := by
  intro n
  induction n with
  | zero => intro _ _ _ _ h; cases h
  | succ n ih =>
    intro x1 x3 M t0 h K
    unfold fX4_surplus_l4 at h
    refine g_iload_n 2 dX4_surplus_4 rfl ?_
    refine g_aload_n 0 dX4_surplus_5 rfl ?_
    refine g_getR dX4_surplus_6 flX4_61 (by decide) rfl hx0 ?_
    refine g_getI dX4_surplus_9 flX4_92 (by decide) rfl (sf_3_0 hx0) ?_
    refine g_icmp_ge (tgt := 49) dX4_surplus_12 (by decide) (fun b1 => ?_) (fun b1 => ?_)
    · replace h := ifp b1 h
      cases h
      exact g_sub [1] rfl K
    · replace h := ifn b1 h
      refine g_pc (pc' := 15) rfl ?_
      refine g_aload_n 0 dX4_surplus_15 rfl ?_
      refine g_getR dX4_surplus_16 flX4_18 (by decide) rfl hx0 ?_
      refine g_iload_n 2 dX4_surplus_19 rfl ?_
      obtain ⟨c2, h⟩ := chk_some h
      refine g_iald dX4_surplus_20 (sf_3_2 hx0) c2.1 c2.2 ?_
      refine g_iconst (v := 2) dX4_surplus_21 rfl (i32l rfl) ?_
      obtain ⟨t8, ht8, h⟩ := bnd_some h
      have Kt8 : Go X mX4_surplus (d + 1) 43 [(0, XR x0), (1, XL t8), (3, XI x3)] [] M Post := by
        obtain ⟨c14, h⟩ := chk_some h
        refine g_iinc (ls' := [(3, XI (x3 + 1)), (0, XR x0), (1, XL t8)]) 2 dX4_surplus_43 rfl rfl c14 (by decide) rfl ?_
        refine g_goto (tgt := 4) dX4_surplus_46 (by decide) ?_
        exact g_sub [1, 2, 0] rfl (ih _ _ _ _ h K)
      refine g_icmp_ne (tgt := 43) dX4_surplus_22 (by decide) (fun b9 => ?_) (fun b9 => ?_)
      · replace ht8 := ifn b9 ht8
        cases ht8
        exact g_sub [0, 1, 2] rfl Kt8
      · replace ht8 := ifp b9 ht8
        refine g_pc (pc' := 25) rfl ?_
        refine g_lload_n 1 dX4_surplus_25 rfl ?_
        refine g_lconst (v := 0) dX4_surplus_26 rfl (i64l rfl) ?_
        refine g_aload_n 0 dX4_surplus_27 rfl ?_
        refine g_getR dX4_surplus_28 flX4_48 (by decide) rfl hx0 ?_
        refine g_iload_n 2 dX4_surplus_31 rfl ?_
        obtain ⟨c10, ht8⟩ := chk_some ht8
        refine g_lald dX4_surplus_32 (sf_3_10 hx0) c10.1 c10.2 ?_
        refine g_aload_n 0 dX4_surplus_33 rfl ?_
        refine g_getJ dX4_surplus_34 flX4_51 (by decide) rfl hx0 ?_
        refine g_pc (pc' := 37) rfl ?_
        obtain ⟨c11, ht8⟩ := chk_some ht8
        refine g_lsub dX4_surplus_37 rfl c11 ?_
        refine g_maxL dX4_surplus_38 mlX4_169 (Nat.le_of_ble_eq_true rfl) ?_
        obtain ⟨c12, ht8⟩ := chk_some ht8
        refine g_ladd dX4_surplus_41 rfl c12 ?_
        refine g_nmL (fun v13 ev13 => ?_)
        replace ht8 := nm_s ev13 ht8
        refine g_lstore_n (ls' := [(1, XL v13), (0, XR x0), (3, XI x3)]) dX4_surplus_42 (by decide) rfl ?_
        cases ht8
        exact g_sub [1, 0, 2] rfl Kt8
set_option maxHeartbeats 8000000 in
set_option maxRecDepth 20000 in
theorem kX4_surplus {X : XC} {d : Nat} {x0 : Nat} (hx0 : Sh x0 = (13, 14)) {M : Mem} {q : Int × Mem} (h : fX4_surplus x0 M = some q) : Ct X mX4_surplus (d + 1) [XR x0] M (pJ q) := by
  unfold fX4_surplus at h
  refine ct_go (by decide +kernel) (Nat.le_of_ble_eq_true rfl) (ls := [(0, XR x0)]) rfl ?_
  refine g_lconst (v := 0) dX4_surplus_0 rfl (i64l rfl) ?_
  refine g_lstore_n (ls' := [(1, XL 0), (0, XR x0)]) dX4_surplus_1 (by decide) rfl ?_
  refine g_iconst (v := 0) dX4_surplus_2 rfl (i32l rfl) ?_
  refine g_istore_n (ls' := [(3, XI 0), (1, XL 0), (0, XR x0)]) dX4_surplus_3 (by decide) rfl ?_
  obtain ⟨z15, hz15, h⟩ := bnd_some h
  refine g_sub (ls' := [(0, XR x0), (1, XL 0), (3, XI 0)]) [2, 1, 0] rfl ?_
  refine lX4_surplus_l4 hx0 1000 _ _ _ _ hz15 ?_
  refine g_lload_n 0 dX4_surplus_49 rfl ?_
  cases h
  exact g_lreturn dX4_surplus_50 rfl ⟨rfl, rfl⟩
set_option maxHeartbeats 8000000 in
set_option maxRecDepth 20000 in
theorem lX4_whoReachesQuota_l4 {X : XC} {d : Nat} {Post : Option XV → Mem → Prop} {x0 : Nat} (hx0 : Sh x0 = (13, 14)) : ∀ (n : Nat) (x1 x2 : Int) (M : Mem) (t0 : Int × Int × Mem), fX4_whoReachesQuota_l4 x0 n x1 x2 M = some t0 → Go X mX4_whoReachesQuota d 51 [(1, XI t0.1)] [] t0.2.2 Post → Go X mX4_whoReachesQuota d 4 [(0, XR x0), (1, XI x1), (2, XI x2)] [] M Post := by
  intro n
  induction n with
  | zero => intro _ _ _ _ h; cases h
  | succ n ih =>
    intro x1 x2 M t0 h K
    unfold fX4_whoReachesQuota_l4 at h
    refine g_iload_n 2 dX4_whoReachesQuota_4 rfl ?_
    refine g_aload_n 0 dX4_whoReachesQuota_5 rfl ?_
    refine g_getR dX4_whoReachesQuota_6 flX4_61 (by decide) rfl hx0 ?_
    refine g_getI dX4_whoReachesQuota_9 flX4_92 (by decide) rfl (sf_3_0 hx0) ?_
    refine g_icmp_ge (tgt := 51) dX4_whoReachesQuota_12 (by decide) (fun b1 => ?_) (fun b1 => ?_)
    · replace h := ifp b1 h
      cases h
      exact g_sub [1] rfl K
    · replace h := ifn b1 h
      refine g_pc (pc' := 15) rfl ?_
      refine g_aload_n 0 dX4_whoReachesQuota_15 rfl ?_
      refine g_getR dX4_whoReachesQuota_16 flX4_18 (by decide) rfl hx0 ?_
      refine g_iload_n 2 dX4_whoReachesQuota_19 rfl ?_
      obtain ⟨c2, h⟩ := chk_some h
      refine g_iald dX4_whoReachesQuota_20 (sf_3_2 hx0) c2.1 c2.2 ?_
      refine g_iconst (v := 1) dX4_whoReachesQuota_21 rfl (i32l rfl) ?_
      obtain ⟨t7, ht7, h⟩ := bnd_some h
      have Kt7 : Go X mX4_whoReachesQuota d 45 [(0, XR x0), (1, XI t7), (2, XI x2)] [] M Post := by
        obtain ⟨c12, h⟩ := chk_some h
        refine g_iinc (ls' := [(2, XI (x2 + 1)), (0, XR x0), (1, XI t7)]) 2 dX4_whoReachesQuota_45 rfl rfl c12 (by decide) rfl ?_
        refine g_goto (tgt := 4) dX4_whoReachesQuota_48 (by decide) ?_
        exact g_sub [1, 2, 0] rfl (ih _ _ _ _ h K)
      refine g_icmp_ne (tgt := 45) dX4_whoReachesQuota_22 (by decide) (fun b8 => ?_) (fun b8 => ?_)
      · replace ht7 := ifn b8 ht7
        cases ht7
        exact g_sub [0, 1, 2] rfl Kt7
      · replace ht7 := ifp b8 ht7
        refine g_pc (pc' := 25) rfl ?_
        refine g_aload_n 0 dX4_whoReachesQuota_25 rfl ?_
        refine g_getR dX4_whoReachesQuota_26 flX4_48 (by decide) rfl hx0 ?_
        refine g_iload_n 2 dX4_whoReachesQuota_29 rfl ?_
        obtain ⟨c9, ht7⟩ := chk_some ht7
        refine g_lald dX4_whoReachesQuota_30 (sf_3_10 hx0) c9.1 c9.2 ?_
        refine g_aload_n 0 dX4_whoReachesQuota_31 rfl ?_
        refine g_getJ dX4_whoReachesQuota_32 flX4_51 (by decide) rfl hx0 ?_
        refine g_lcmp_lt (tgt := 45) dX4_whoReachesQuota_35 dX4_whoReachesQuota_36 (by decide) (fun b10 => ?_) (fun b10 => ?_)
        · replace ht7 := ifp b10 ht7
          cases ht7
          exact g_sub [0, 1, 2] rfl Kt7
        · replace ht7 := ifn b10 ht7
          refine g_pc (pc' := 39) rfl ?_
          refine g_iload_n 1 dX4_whoReachesQuota_39 rfl ?_
          refine g_iconst (v := 1) dX4_whoReachesQuota_40 rfl (i32l rfl) ?_
          refine g_iload_n 2 dX4_whoReachesQuota_41 rfl ?_
          refine g_ishl dX4_whoReachesQuota_42 ?_
          refine g_ior dX4_whoReachesQuota_43 ?_
          refine g_nmI (fun v11 ev11 => ?_)
          replace ht7 := nm_s ev11 ht7
          refine g_istore_n (ls' := [(1, XI v11), (0, XR x0), (2, XI x2)]) dX4_whoReachesQuota_44 (by decide) rfl ?_
          cases ht7
          exact g_sub [1, 0, 2] rfl Kt7
set_option maxHeartbeats 8000000 in
set_option maxRecDepth 20000 in
theorem kX4_whoReachesQuota {X : XC} {d : Nat} {x0 : Nat} (hx0 : Sh x0 = (13, 14)) {M : Mem} {q : Int × Mem} (h : fX4_whoReachesQuota x0 M = some q) : Ct X mX4_whoReachesQuota d [XR x0] M (pI q) := by
  unfold fX4_whoReachesQuota at h
  refine ct_go (by decide +kernel) (Nat.le_of_ble_eq_true rfl) (ls := [(0, XR x0)]) rfl ?_
  refine g_iconst (v := 0) dX4_whoReachesQuota_0 rfl (i32l rfl) ?_
  refine g_istore_n (ls' := [(1, XI 0), (0, XR x0)]) dX4_whoReachesQuota_1 (by decide) rfl ?_
  refine g_iconst (v := 0) dX4_whoReachesQuota_2 rfl (i32l rfl) ?_
  refine g_istore_n (ls' := [(2, XI 0), (1, XI 0), (0, XR x0)]) dX4_whoReachesQuota_3 (by decide) rfl ?_
  obtain ⟨z13, hz13, h⟩ := bnd_some h
  refine g_sub (ls' := [(0, XR x0), (1, XI 0), (2, XI 0)]) [2, 1, 0] rfl ?_
  refine lX4_whoReachesQuota_l4 hx0 1000 _ _ _ _ hz13 ?_
  refine g_iload_n 0 dX4_whoReachesQuota_51 rfl ?_
  cases h
  exact g_ireturn dX4_whoReachesQuota_52 rfl ⟨rfl, rfl⟩
set_option maxHeartbeats 8000000 in
set_option maxRecDepth 20000 in
theorem lX4_whoHasFewest_l10 {X : XC} {d : Nat} {Post : Option XV → Mem → Prop} {x0 : Nat} {x1 : Nat} {x2 : Int} (hx0 : Sh x0 = (13, 14)) (hx1 : Sh x1 = (2, 8)) : ∀ (n : Nat) (x3 x4 x6 : Int) (M : Mem) (t0 : Int × Int × Int × Mem), fX4_whoHasFewest_l10 x0 x1 x2 n x3 x4 x6 M = some t0 → Go X mX4_whoHasFewest d 72 [(3, XI t0.1)] [] t0.2.2.2 Post → Go X mX4_whoHasFewest d 10 [(0, XR x0), (1, XR x1), (2, XI x2), (3, XI x3), (4, XL x4), (6, XI x6)] [] M Post := by
  intro n
  induction n with
  | zero => intro _ _ _ _ _ h; cases h
  | succ n ih =>
    intro x3 x4 x6 M t0 h K
    unfold fX4_whoHasFewest_l10 at h
    refine g_iload 5 dX4_whoHasFewest_10 rfl ?_
    refine g_aload_n 0 dX4_whoHasFewest_12 rfl ?_
    refine g_getR dX4_whoHasFewest_13 flX4_61 (by decide) rfl hx0 ?_
    refine g_getI dX4_whoHasFewest_16 flX4_92 (by decide) rfl (sf_3_0 hx0) ?_
    refine g_icmp_ge (tgt := 72) dX4_whoHasFewest_19 (by decide) (fun b1 => ?_) (fun b1 => ?_)
    · replace h := ifp b1 h
      cases h
      exact g_sub [3] rfl K
    · replace h := ifn b1 h
      refine g_pc (pc' := 22) rfl ?_
      refine g_iload_n 2 dX4_whoHasFewest_22 rfl ?_
      refine g_iload 5 dX4_whoHasFewest_23 rfl ?_
      refine g_ishr dX4_whoHasFewest_25 ?_
      refine g_iconst (v := 1) dX4_whoHasFewest_26 rfl (i32l rfl) ?_
      refine g_iand dX4_whoHasFewest_27 ?_
      obtain ⟨t14, ht14, h⟩ := bnd_some h
      have Kt14 : Go X mX4_whoHasFewest d 66 [(0, XR x0), (1, XR x1), (2, XI x2), (3, XI t14.1), (4, XL t14.2), (6, XI x6)] [] M Post := by
        obtain ⟨c27, h⟩ := chk_some h
        refine g_iinc (ls' := [(6, XI (x6 + 1)), (0, XR x0), (1, XR x1), (2, XI x2), (3, XI t14.1), (4, XL t14.2)]) 5 dX4_whoHasFewest_66 rfl rfl c27 (by decide) rfl ?_
        refine g_goto (tgt := 10) dX4_whoHasFewest_69 (by decide) ?_
        exact g_sub [1, 2, 3, 4, 5, 0] rfl (ih _ _ _ _ _ h K)
      refine g_if_eq (tgt := 66) dX4_whoHasFewest_28 (by decide) (fun b15 => ?_) (fun b15 => ?_)
      · replace ht14 := ifp b15 ht14
        cases ht14
        exact g_sub [0, 1, 2, 3, 4, 5] rfl Kt14
      · replace ht14 := ifn b15 ht14
        refine g_pc (pc' := 31) rfl ?_
        refine g_aload_n 1 dX4_whoHasFewest_31 rfl ?_
        refine g_iload 5 dX4_whoHasFewest_32 rfl ?_
        obtain ⟨c16, ht14⟩ := chk_some ht14
        refine g_lald dX4_whoHasFewest_34 hx1 c16.1 c16.2 ?_
        refine g_lload 4 dX4_whoHasFewest_35 rfl ?_
        obtain ⟨t20, ht20, ht14⟩ := bnd_some ht14
        have Kt20 : Go X mX4_whoHasFewest d 49 [(0, XR x0), (1, XR x1), (2, XI x2), (3, XI t20.1), (4, XL t20.2), (6, XI x6)] [] M Post := by
          refine g_aload_n 1 dX4_whoHasFewest_49 rfl ?_
          refine g_iload 5 dX4_whoHasFewest_50 rfl ?_
          obtain ⟨c24, ht14⟩ := chk_some ht14
          refine g_lald dX4_whoHasFewest_52 hx1 c24.1 c24.2 ?_
          refine g_lload 4 dX4_whoHasFewest_53 rfl ?_
          refine g_lcmp_ne (tgt := 66) dX4_whoHasFewest_55 dX4_whoHasFewest_56 (by decide) (fun b25 => ?_) (fun b25 => ?_)
          · replace ht14 := ifn b25 ht14
            cases ht14
            exact g_sub [0, 1, 2, 3, 4, 5] rfl Kt14
          · replace ht14 := ifp b25 ht14
            refine g_pc (pc' := 59) rfl ?_
            refine g_iload_n 3 dX4_whoHasFewest_59 rfl ?_
            refine g_iconst (v := 1) dX4_whoHasFewest_60 rfl (i32l rfl) ?_
            refine g_iload 5 dX4_whoHasFewest_61 rfl ?_
            refine g_ishl dX4_whoHasFewest_63 ?_
            refine g_ior dX4_whoHasFewest_64 ?_
            refine g_nmI (fun v26 ev26 => ?_)
            replace ht14 := nm_s ev26 ht14
            refine g_istore_n (ls' := [(3, XI v26), (0, XR x0), (1, XR x1), (2, XI x2), (4, XL t20.2), (6, XI x6)]) dX4_whoHasFewest_65 (by decide) rfl ?_
            cases ht14
            exact g_sub [1, 2, 3, 0, 4, 5] rfl Kt14
        refine g_lcmp_ge (tgt := 49) dX4_whoHasFewest_37 dX4_whoHasFewest_38 (by decide) (fun b21 => ?_) (fun b21 => ?_)
        · replace ht20 := ifp b21 ht20
          cases ht20
          exact g_sub [0, 1, 2, 3, 4, 5] rfl Kt20
        · replace ht20 := ifn b21 ht20
          refine g_pc (pc' := 41) rfl ?_
          refine g_aload_n 1 dX4_whoHasFewest_41 rfl ?_
          refine g_iload 5 dX4_whoHasFewest_42 rfl ?_
          obtain ⟨c22, ht20⟩ := chk_some ht20
          refine g_lald dX4_whoHasFewest_44 hx1 c22.1 c22.2 ?_
          refine g_nmL (fun v23 ev23 => ?_)
          replace ht20 := nm_s ev23 ht20
          refine g_lstore (ls' := [(4, XL v23), (0, XR x0), (1, XR x1), (2, XI x2), (3, XI x3), (6, XI x6)]) dX4_whoHasFewest_45 (by decide) rfl ?_
          refine g_iconst (v := 0) dX4_whoHasFewest_47 rfl (i32l rfl) ?_
          refine g_istore_n (ls' := [(3, XI 0), (4, XL v23), (0, XR x0), (1, XR x1), (2, XI x2), (6, XI x6)]) dX4_whoHasFewest_48 (by decide) rfl ?_
          cases ht20
          exact g_sub [2, 3, 4, 0, 1, 5] rfl Kt20
set_option maxHeartbeats 8000000 in
set_option maxRecDepth 20000 in
theorem kX4_whoHasFewest {X : XC} {d : Nat} {x0 : Nat} {x1 : Nat} {x2 : Int} (hx0 : Sh x0 = (13, 14)) (hx1 : Sh x1 = (2, 8)) {M : Mem} {q : Int × Mem} (h : fX4_whoHasFewest x0 x1 x2 M = some q) : Ct X mX4_whoHasFewest d [XR x0, XR x1, XI x2] M (pI q) := by
  unfold fX4_whoHasFewest at h
  refine ct_go (by decide +kernel) (Nat.le_of_ble_eq_true rfl) (ls := [(0, XR x0), (1, XR x1), (2, XI x2)]) rfl ?_
  refine g_iconst (v := 0) dX4_whoHasFewest_0 rfl (i32l rfl) ?_
  refine g_istore_n (ls' := [(3, XI 0), (0, XR x0), (1, XR x1), (2, XI x2)]) dX4_whoHasFewest_1 (by decide) rfl ?_
  refine g_ldc2 (v := 9223372036854775807) dX4_whoHasFewest_2 csX4_193 (by decide +kernel) (i64l rfl) ?_
  refine g_lstore (ls' := [(4, XL 9223372036854775807), (3, XI 0), (0, XR x0), (1, XR x1), (2, XI x2)]) dX4_whoHasFewest_5 (by decide) rfl ?_
  refine g_iconst (v := 0) dX4_whoHasFewest_7 rfl (i32l rfl) ?_
  refine g_istore (ls' := [(6, XI 0), (4, XL 9223372036854775807), (3, XI 0), (0, XR x0), (1, XR x1), (2, XI x2)]) dX4_whoHasFewest_8 (by decide) rfl ?_
  obtain ⟨z28, hz28, h⟩ := bnd_some h
  refine g_sub (ls' := [(0, XR x0), (1, XR x1), (2, XI x2), (3, XI 0), (4, XL 9223372036854775807), (6, XI 0)]) [3, 4, 5, 2, 1, 0] rfl ?_
  refine lX4_whoHasFewest_l10 hx0 hx1 1000 _ _ _ _ _ hz28 ?_
  refine g_iload_n 0 dX4_whoHasFewest_72 rfl ?_
  cases h
  exact g_ireturn dX4_whoHasFewest_73 rfl ⟨rfl, rfl⟩
set_option maxHeartbeats 8000000 in
set_option maxRecDepth 20000 in
theorem lX4_lastInLot_l10 {X : XC} {d : Nat} {Post : Option XV → Mem → Prop} {x0 : Nat} {x1 : Int} (hx0 : Sh x0 = (13, 14)) : ∀ (n : Nat) (x2 : Int) (M : Mem) (z : (Int × Mem) ⊕ (Int × Mem)), fX4_lastInLot_l10 x0 x1 n x2 M = some z → (∀ r, z = .inl r → Post (some (XI r.1)) r.2) → Go X mX4_lastInLot d 10 [(0, XR x0), (1, XI x1), (2, XI x2)] [] M Post := by
  intro n
  induction n with
  | zero => intro _ _ _ h; cases h
  | succ n ih =>
    intro x2 M z h K1
    unfold fX4_lastInLot_l10 at h
    refine g_iload_n 2 dX4_lastInLot_10 rfl ?_
    refine g_if_lt (tgt := 46) dX4_lastInLot_11 (by decide) (fun b3 => ?_) (fun b3 => ?_)
    · replace h := ifp b3 h
      refine g_iconst (v := -1) dX4_lastInLot_46 rfl (i32l rfl) ?_
      cases h
      exact g_ireturn dX4_lastInLot_47 rfl (K1 ((-1), M) rfl)
    · replace h := ifn b3 h
      refine g_pc (pc' := 14) rfl ?_
      refine g_iload_n 1 dX4_lastInLot_14 rfl ?_
      refine g_aload_n 0 dX4_lastInLot_15 rfl ?_
      refine g_getR dX4_lastInLot_16 flX4_61 (by decide) rfl hx0 ?_
      refine g_getR dX4_lastInLot_19 flX4_195 (by decide) rfl (sf_3_0 hx0) ?_
      refine g_iload_n 2 dX4_lastInLot_22 rfl ?_
      obtain ⟨c4, h⟩ := chk_some h
      refine g_iald dX4_lastInLot_23 (sf_1_1 (sf_3_0 hx0)) c4.1 c4.2 ?_
      refine g_ishr dX4_lastInLot_24 ?_
      refine g_iconst (v := 1) dX4_lastInLot_25 rfl (i32l rfl) ?_
      refine g_pc (pc' := 26) rfl ?_
      refine g_iand dX4_lastInLot_26 ?_
      refine g_if_eq (tgt := 40) dX4_lastInLot_27 (by decide) (fun b5 => ?_) (fun b5 => ?_)
      · replace h := ifp b5 h
        obtain ⟨c6, h⟩ := chk_some h
        refine g_iinc (ls' := [(2, XI (x2 + (-1))), (0, XR x0), (1, XI x1)]) 2 dX4_lastInLot_40 rfl rfl c6 (by decide) rfl ?_
        refine g_goto (tgt := 10) dX4_lastInLot_43 (by decide) ?_
        exact g_sub [1, 2, 0] rfl (ih _ _ _ h K1)
      · replace h := ifn b5 h
        refine g_pc (pc' := 30) rfl ?_
        refine g_aload_n 0 dX4_lastInLot_30 rfl ?_
        refine g_getR dX4_lastInLot_31 flX4_61 (by decide) rfl hx0 ?_
        refine g_getR dX4_lastInLot_34 flX4_195 (by decide) rfl (sf_3_0 hx0) ?_
        refine g_iload_n 2 dX4_lastInLot_37 rfl ?_
        obtain ⟨c7, h⟩ := chk_some h
        refine g_iald dX4_lastInLot_38 (sf_1_1 (sf_3_0 hx0)) c7.1 c7.2 ?_
        cases h
        exact g_ireturn dX4_lastInLot_39 rfl (K1 ((M ((x0 + 10000) + 2) (Int.toNat x2)), M) rfl)
set_option maxHeartbeats 8000000 in
set_option maxRecDepth 20000 in
theorem kX4_lastInLot {X : XC} {d : Nat} {x0 : Nat} {x1 : Int} (hx0 : Sh x0 = (13, 14)) {M : Mem} {q : Int × Mem} (h : fX4_lastInLot x0 x1 M = some q) : Ct X mX4_lastInLot d [XR x0, XI x1] M (pI q) := by
  unfold fX4_lastInLot at h
  refine ct_go (by decide +kernel) (Nat.le_of_ble_eq_true rfl) (ls := [(0, XR x0), (1, XI x1)]) rfl ?_
  refine g_aload_n 0 dX4_lastInLot_0 rfl ?_
  refine g_getR dX4_lastInLot_1 flX4_61 (by decide) rfl hx0 ?_
  refine g_getI dX4_lastInLot_4 flX4_92 (by decide) rfl (sf_3_0 hx0) ?_
  refine g_iconst (v := 1) dX4_lastInLot_7 rfl (i32l rfl) ?_
  obtain ⟨c1, h⟩ := chk_some h
  refine g_isub dX4_lastInLot_8 rfl c1 ?_
  refine g_nmI (fun v2 ev2 => ?_)
  replace h := nm_s ev2 h
  refine g_istore_n (ls' := [(2, XI v2), (0, XR x0), (1, XI x1)]) dX4_lastInLot_9 (by decide) rfl ?_
  obtain ⟨z8, hz8, rz8, h⟩ := lr_some h
  refine g_sub (ls' := [(0, XR x0), (1, XI x1), (2, XI v2)]) [1, 2, 0] rfl ?_
  refine lX4_lastInLot_l10 hx0 1000 _ _ _ hz8 (fun r e => ?_)
  have rz8 := rz8 r e
  subst rz8
  exact ⟨rfl, rfl⟩
set_option maxHeartbeats 8000000 in
set_option maxRecDepth 20000 in
theorem lX4_exclude_l13 {X : XC} {d : Nat} {Post : Option XV → Mem → Prop} {x0 : Nat} {x1 : Nat} (hx0 : Sh x0 = (13, 14)) (hx1 : Sh x1 = (12, 9)) : ∀ (n : Nat) (x2 x3 : Int) (M : Mem) (t0 : Int × Int × Mem), fX4_exclude_l13 x0 x1 n x2 x3 M = some t0 → Go X mX4_exclude (d + 1) 38 [(0, XR x0), (1, XR x1), (2, XI t0.1)] [] t0.2.2 Post → Go X mX4_exclude (d + 1) 13 [(0, XR x0), (1, XR x1), (2, XI x2), (3, XI x3)] [] M Post := by
  intro n
  induction n with
  | zero => intro _ _ _ _ h; cases h
  | succ n ih =>
    intro x2 x3 M t0 h K
    unfold fX4_exclude_l13 at h
    refine g_iload_n 3 dX4_exclude_13 rfl ?_
    refine g_if_lt (tgt := 38) dX4_exclude_14 (by decide) (fun b5 => ?_) (fun b5 => ?_)
    · replace h := ifp b5 h
      cases h
      exact g_sub [0, 1, 2] rfl K
    · replace h := ifn b5 h
      refine g_pc (pc' := 17) rfl ?_
      refine g_aload_n 0 dX4_exclude_17 rfl ?_
      refine g_aload_n 0 dX4_exclude_18 rfl ?_
      refine g_getR dX4_exclude_19 flX4_40 (by decide) rfl hx0 ?_
      refine g_iload_n 3 dX4_exclude_22 rfl ?_
      obtain ⟨c6, h⟩ := chk_some h
      refine g_aald dX4_exclude_23 (sf_3_8 hx0) (by decide) c6.1 c6.2 ?_
      refine g_getR dX4_exclude_24 flX4_178 (by decide) rfl (sr_4 (sf_3_8 hx0) (tn_lt c6.1 c6.2)) ?_
      refine g_iload_n 2 dX4_exclude_27 rfl ?_
      obtain ⟨q7, hq7, h⟩ := bnd_some h
      refine v_I (ci := 3) (as := [XR (((x0 + 9) + 36 + 16 * Int.toNat x3) + 8), XI x2]) dX4_exclude_28 mlX4_184 mdX4_whoHasFewest mvX4_whoHasFewest rfl hx0 rfl (Nat.le_of_ble_eq_true rfl) (kX4_whoHasFewest hx0 (sf_2_7 (sr_4 (sf_3_8 hx0) (tn_lt c6.1 c6.2))) hq7) rfl ?_
      refine g_pc (pc' := 31) rfl ?_
      refine g_nmI (fun v8 ev8 => ?_)
      replace h := nm_s ev8 h
      refine g_istore_n (ls' := [(2, XI v8), (0, XR x0), (1, XR x1), (3, XI x3)]) dX4_exclude_31 (by decide) rfl ?_
      obtain ⟨c9, h⟩ := chk_some h
      refine g_iinc (ls' := [(3, XI (x3 + (-1))), (2, XI v8), (0, XR x0), (1, XR x1)]) 3 dX4_exclude_32 rfl rfl c9 (by decide) rfl ?_
      refine g_goto (tgt := 13) dX4_exclude_35 (by decide) ?_
      exact g_sub [2, 3, 1, 0] rfl (ih _ _ _ _ h K)
set_option maxHeartbeats 8000000 in
set_option maxRecDepth 20000 in
theorem kX4_exclude {X : XC} {d : Nat} {x0 : Nat} {x1 : Nat} (hx0 : Sh x0 = (13, 14)) (hx1 : Sh x1 = (12, 9)) {M : Mem} {q : Int × Mem} (h : fX4_exclude x0 x1 M = some q) : Ct X mX4_exclude (d + 1) [XR x0, XR x1] M (pV q) := by
  unfold fX4_exclude at h
  refine ct_go (by decide +kernel) (Nat.le_of_ble_eq_true rfl) (ls := [(0, XR x0), (1, XR x1)]) rfl ?_
  refine g_aload_n 0 dX4_exclude_0 rfl ?_
  refine g_iconst (v := 1) dX4_exclude_1 rfl (i32l rfl) ?_
  obtain ⟨q1, hq1, h⟩ := bnd_some h
  refine v_I (ci := 3) (as := [XI 1]) dX4_exclude_2 mlX4_108 mdX4_whoIs mvX4_whoIs rfl hx0 rfl (Nat.le_of_ble_eq_true rfl) (kX4_whoIs hx0 hq1) rfl ?_
  refine g_nmI (fun v2 ev2 => ?_)
  replace h := nm_s ev2 h
  refine g_istore_n (ls' := [(2, XI v2), (0, XR x0), (1, XR x1)]) dX4_exclude_5 (by decide) rfl ?_
  refine g_aload_n 1 dX4_exclude_6 rfl ?_
  refine g_getI dX4_exclude_7 flX4_35 (by decide) rfl hx0 ?_
  refine g_iconst (v := 1) dX4_exclude_10 rfl (i32l rfl) ?_
  obtain ⟨c3, h⟩ := chk_some h
  refine g_isub dX4_exclude_11 rfl c3 ?_
  refine g_pc (pc' := 12) rfl ?_
  refine g_nmI (fun v4 ev4 => ?_)
  replace h := nm_s ev4 h
  refine g_istore_n (ls' := [(3, XI v4), (2, XI v2), (0, XR x0), (1, XR x1)]) dX4_exclude_12 (by decide) rfl ?_
  obtain ⟨z10, hz10, h⟩ := bnd_some h
  refine g_sub (ls' := [(0, XR x0), (1, XR x1), (2, XI v2), (3, XI v4)]) [2, 3, 1, 0] rfl ?_
  refine lX4_exclude_l13 hx0 hx1 1000 _ _ _ _ hz10 ?_
  refine g_aload_n 0 dX4_exclude_38 rfl ?_
  refine g_iload_n 2 dX4_exclude_39 rfl ?_
  obtain ⟨q11, hq11, h⟩ := bnd_some h
  refine v_I (ci := 3) (as := [XI z10.1]) dX4_exclude_40 mlX4_188 mdX4_lastInLot mvX4_lastInLot rfl hx0 rfl (Nat.le_of_ble_eq_true rfl) (kX4_lastInLot hx0 hq11) rfl ?_
  refine g_nmI (fun v12 ev12 => ?_)
  replace h := nm_s ev12 h
  refine g_istore_n (ls' := [(3, XI v12), (0, XR x0), (1, XR x1), (2, XI z10.1)]) dX4_exclude_43 (by decide) rfl ?_
  refine g_iload_n 0 dX4_exclude_44 rfl ?_
  obtain ⟨t24, ht24, h⟩ := bnd_some h
  have Kt24 : Go X mX4_exclude (d + 1) 89 [] [] t24 (pV q) := by
    cases h
    exact g_return dX4_exclude_89 rfl ⟨rfl, rfl⟩
  refine g_if_lt (tgt := 89) dX4_exclude_45 (by decide) (fun b25 => ?_) (fun b25 => ?_)
  · replace ht24 := ifp b25 ht24
    cases ht24
    exact g_sub [] rfl Kt24
  · replace ht24 := ifn b25 ht24
    refine g_pc (pc' := 48) rfl ?_
    refine g_aload_n 2 dX4_exclude_48 rfl ?_
    refine g_iload_n 0 dX4_exclude_49 rfl ?_
    refine g_putI dX4_exclude_50 flX4_81 (by decide) rfl hx1 ?_
    refine g_nmM (fun M26 eM26 => ?_)
    replace ht24 := nm_s eM26 ht24
    refine g_aload_n 1 dX4_exclude_53 rfl ?_
    refine g_dupR dX4_exclude_54 ?_
    refine g_getI dX4_exclude_55 flX4_32 (by decide) rfl hx0 ?_
    refine g_iconst (v := 1) dX4_exclude_58 rfl (i32l rfl) ?_
    obtain ⟨c27, ht24⟩ := chk_some ht24
    refine g_isub dX4_exclude_59 rfl c27 ?_
    refine g_pc (pc' := 60) rfl ?_
    refine g_putI dX4_exclude_60 flX4_32 (by decide) rfl hx0 ?_
    refine g_nmM (fun M28 eM28 => ?_)
    replace ht24 := nm_s eM28 ht24
    refine g_aload_n 1 dX4_exclude_63 rfl ?_
    refine g_getR dX4_exclude_64 flX4_18 (by decide) rfl hx0 ?_
    refine g_iload_n 0 dX4_exclude_67 rfl ?_
    refine g_iconst (v := 3) dX4_exclude_68 rfl (i32l rfl) ?_
    obtain ⟨c29, ht24⟩ := chk_some ht24
    refine g_iast dX4_exclude_69 (sf_3_2 hx0) c29.1 c29.2 ?_
    refine g_nmM (fun M30 eM30 => ?_)
    replace ht24 := nm_s eM30 ht24
    refine g_aload_n 1 dX4_exclude_70 rfl ?_
    refine g_getR dX4_exclude_71 flX4_22 (by decide) rfl hx0 ?_
    refine g_iload_n 0 dX4_exclude_74 rfl ?_
    refine g_pc (pc' := 75) rfl ?_
    refine g_aload_n 1 dX4_exclude_75 rfl ?_
    refine g_getI dX4_exclude_76 flX4_35 (by decide) rfl hx0 ?_
    refine g_iconst (v := 1) dX4_exclude_79 rfl (i32l rfl) ?_
    obtain ⟨c31, ht24⟩ := chk_some ht24
    refine g_isub dX4_exclude_80 rfl c31 ?_
    obtain ⟨c32, ht24⟩ := chk_some ht24
    refine g_iast dX4_exclude_81 (sf_3_3 hx0) c32.1 c32.2 ?_
    refine g_nmM (fun M33 eM33 => ?_)
    replace ht24 := nm_s eM33 ht24
    refine g_aload_n 1 dX4_exclude_82 rfl ?_
    refine g_getR dX4_exclude_83 flX4_44 (by decide) rfl hx0 ?_
    refine g_iload_n 0 dX4_exclude_86 rfl ?_
    refine g_lconst (v := 0) dX4_exclude_87 rfl (i64l rfl) ?_
    refine g_pc (pc' := 88) rfl ?_
    obtain ⟨c34, ht24⟩ := chk_some ht24
    refine g_last dX4_exclude_88 (sf_3_9 hx0) c34.1 c34.2 ?_
    refine g_nmM (fun M35 eM35 => ?_)
    replace ht24 := nm_s eM35 ht24
    cases ht24
    exact g_sub [] rfl Kt24
set_option maxHeartbeats 8000000 in
set_option maxRecDepth 20000 in
theorem lX4_goByRounds_l2 {X : XC} {d : Nat} {Post : Option XV → Mem → Prop} {x0 : Nat} {x1 : Nat} {x2 : Int} (hx0 : Sh x0 = (13, 14)) (hx1 : Sh x1 = (12, 9)) : ∀ (n : Nat) (x3 : Int) (M : Mem) (z : (Int × Mem) ⊕ (Int × Mem)), fX4_goByRounds_l2 x0 x1 x2 n x3 M = some z → (∀ r, z = .inl r → Post none r.2) → Go X mX4_goByRounds (d + 3) 2 [(0, XR x0), (1, XR x1), (2, XI x2), (3, XI x3)] [] M Post := by
  intro n
  induction n with
  | zero => intro _ _ _ h; cases h
  | succ n ih =>
    intro x3 M z h K1
    unfold fX4_goByRounds_l2 at h
    refine g_iload_n 3 dX4_goByRounds_2 rfl ?_
    refine g_aload_n 0 dX4_goByRounds_3 rfl ?_
    refine g_getR dX4_goByRounds_4 flX4_61 (by decide) rfl hx0 ?_
    refine g_getI dX4_goByRounds_7 flX4_116 (by decide) rfl (sf_3_0 hx0) ?_
    refine g_icmp_gt (tgt := 98) dX4_goByRounds_10 (by decide) (fun b1 => ?_) (fun b1 => ?_)
    · replace h := ifp b1 h
      cases h
      exact g_return dX4_goByRounds_98 rfl (K1 (0, M) rfl)
    · replace h := ifn b1 h
      refine g_pc (pc' := 13) rfl ?_
      refine g_iload_n 3 dX4_goByRounds_13 rfl ?_
      refine g_iconst (v := 1) dX4_goByRounds_14 rfl (i32l rfl) ?_
      obtain ⟨t6, ht6, h⟩ := bnd_some h
      have Kt6 : Go X mX4_goByRounds (d + 3) 26 [(0, XR x0), (1, XR x1), (2, XI x2), (3, XI x3)] [] t6 Post := by
        refine g_aload_n 0 dX4_goByRounds_26 rfl ?_
        obtain ⟨q11, hq11, h⟩ := bnd_some h
        refine v_V (ci := 3) (as := []) dX4_goByRounds_27 mlX4_101 mdX4_workOut mvX4_workOut rfl hx0 rfl (Nat.le_of_ble_eq_true rfl) (kX4_workOut hx0 hq11) rfl ?_
        refine g_aload_n 0 dX4_goByRounds_30 rfl ?_
        obtain ⟨q12, hq12, h⟩ := bnd_some h
        refine v_J (ci := 3) (as := []) dX4_goByRounds_31 mlX4_122 mdX4_surplus mvX4_surplus rfl hx0 rfl (Nat.le_of_ble_eq_true rfl) (kX4_surplus hx0 hq12) rfl ?_
        refine g_nmL (fun v13 ev13 => ?_)
        replace h := nm_s ev13 h
        refine g_lstore (ls' := [(4, XL v13), (0, XR x0), (1, XR x1), (2, XI x2), (3, XI x3)]) dX4_goByRounds_34 (by decide) rfl ?_
        refine g_aload_n 1 dX4_goByRounds_36 rfl ?_
        refine g_aload_n 2 dX4_goByRounds_37 rfl ?_
        refine g_iload_n 4 dX4_goByRounds_38 rfl ?_
        refine g_pc (pc' := 39) rfl ?_
        refine g_lload 0 dX4_goByRounds_39 rfl ?_
        obtain ⟨q14, hq14, h⟩ := bnd_some h
        refine v_V (ci := 3) (as := [XR x1, XI x3, XL v13]) dX4_goByRounds_41 mlX4_104 mdX4_note mvX4_note rfl hx0 rfl (Nat.le_of_ble_eq_true rfl) (kX4_note hx0 hx1 hq14) rfl ?_
        refine g_aload_n 1 dX4_goByRounds_44 rfl ?_
        refine g_aload_n 2 dX4_goByRounds_45 rfl ?_
        refine g_aload_n 1 dX4_goByRounds_46 rfl ?_
        obtain ⟨q15, hq15, h⟩ := bnd_some h
        refine v_I (ci := 3) (as := []) dX4_goByRounds_47 mlX4_126 mdX4_whoReachesQuota mvX4_whoReachesQuota rfl hx0 rfl (Nat.le_of_ble_eq_true rfl) (kX4_whoReachesQuota hx0 hq15) rfl ?_
        obtain ⟨q16, hq16, h⟩ := bnd_some h
        refine v_V (ci := 3) (as := [XR x1, XI q15.1]) dX4_goByRounds_50 mlX4_112 mdX4_elect mvX4_elect rfl hx0 rfl (Nat.le_of_ble_eq_true rfl) (kX4_elect hx0 hx1 hq16) rfl ?_
        refine g_aload_n 2 dX4_goByRounds_53 rfl ?_
        refine g_getI dX4_goByRounds_54 flX4_78 (by decide) rfl hx1 ?_
        refine g_pc (pc' := 57) rfl ?_
        refine g_if_eq (tgt := 61) dX4_goByRounds_57 (by decide) (fun b17 => ?_) (fun b17 => ?_)
        · replace h := ifp b17 h
          refine g_lload 0 dX4_goByRounds_61 rfl ?_
          refine g_aload_n 1 dX4_goByRounds_63 rfl ?_
          refine g_getR dX4_goByRounds_64 flX4_61 (by decide) rfl hx0 ?_
          refine g_getI dX4_goByRounds_67 flX4_130 (by decide) rfl (sf_3_0 hx0) ?_
          refine g_i2l dX4_goByRounds_70 ?_
          refine g_lcmp_le (tgt := 86) dX4_goByRounds_71 dX4_goByRounds_72 (by decide) (fun b18 => ?_) (fun b18 => ?_)
          · replace h := ifp b18 h
            refine g_aload_n 1 dX4_goByRounds_86 rfl ?_
            refine g_aload_n 2 dX4_goByRounds_87 rfl ?_
            obtain ⟨q19, hq19, h⟩ := bnd_some h
            refine v_V (ci := 3) (as := [XR x1]) dX4_goByRounds_88 mlX4_133 mdX4_exclude mvX4_exclude rfl hx0 rfl (Nat.le_of_ble_eq_true rfl) (kX4_exclude hx0 hx1 hq19) rfl ?_
            cases h
            exact g_return dX4_goByRounds_91 rfl (K1 (0, q19.2) rfl)
          · replace h := ifn b18 h
            refine g_pc (pc' := 75) rfl ?_
            refine g_iload_n 4 dX4_goByRounds_75 rfl ?_
            refine g_aload_n 1 dX4_goByRounds_76 rfl ?_
            refine g_getR dX4_goByRounds_77 flX4_61 (by decide) rfl hx0 ?_
            refine g_getI dX4_goByRounds_80 flX4_116 (by decide) rfl (sf_3_0 hx0) ?_
            refine g_icmp_ne (tgt := 92) dX4_goByRounds_83 (by decide) (fun b20 => ?_) (fun b20 => ?_)
            · replace h := ifn b20 h
              obtain ⟨c21, h⟩ := chk_some h
              refine g_iinc (ls' := [(3, XI (x3 + 1)), (4, XL v13), (0, XR x0), (1, XR x1), (2, XI x2)]) 4 dX4_goByRounds_92 rfl rfl c21 (by decide) rfl ?_
              refine g_goto (tgt := 2) dX4_goByRounds_95 (by decide) ?_
              exact g_sub [2, 3, 4, 0] rfl (ih _ _ _ h K1)
            · replace h := ifp b20 h
              refine g_pc (pc' := 86) rfl ?_
              refine g_aload_n 1 dX4_goByRounds_86 rfl ?_
              refine g_aload_n 2 dX4_goByRounds_87 rfl ?_
              obtain ⟨q22, hq22, h⟩ := bnd_some h
              refine v_V (ci := 3) (as := [XR x1]) dX4_goByRounds_88 mlX4_133 mdX4_exclude mvX4_exclude rfl hx0 rfl (Nat.le_of_ble_eq_true rfl) (kX4_exclude hx0 hx1 hq22) rfl ?_
              cases h
              exact g_return dX4_goByRounds_91 rfl (K1 (0, q22.2) rfl)
        · replace h := ifn b17 h
          refine g_pc (pc' := 60) rfl ?_
          cases h
          exact g_return dX4_goByRounds_60 rfl (K1 (0, q16.2) rfl)
      refine g_icmp_gt (tgt := 22) dX4_goByRounds_15 (by decide) (fun b7 => ?_) (fun b7 => ?_)
      · replace ht6 := ifp b7 ht6
        refine g_aload_n 0 dX4_goByRounds_22 rfl ?_
        obtain ⟨q8, hq8, ht6⟩ := bnd_some ht6
        refine v_V (ci := 3) (as := []) dX4_goByRounds_23 mlX4_119 mdX4_turnKeeps mvX4_turnKeeps rfl hx0 rfl (Nat.le_of_ble_eq_true rfl) (kX4_turnKeeps hx0 hq8) rfl ?_
        cases ht6
        exact g_sub [0, 1, 2, 3] rfl Kt6
      · replace ht6 := ifn b7 ht6
        refine g_pc (pc' := 18) rfl ?_
        refine g_iload_n 2 dX4_goByRounds_18 rfl ?_
        refine g_if_ne (tgt := 26) dX4_goByRounds_19 (by decide) (fun b9 => ?_) (fun b9 => ?_)
        · replace ht6 := ifn b9 ht6
          cases ht6
          exact g_sub [0, 1, 2, 3] rfl Kt6
        · replace ht6 := ifp b9 ht6
          refine g_pc (pc' := 22) rfl ?_
          refine g_aload_n 0 dX4_goByRounds_22 rfl ?_
          obtain ⟨q10, hq10, ht6⟩ := bnd_some ht6
          refine v_V (ci := 3) (as := []) dX4_goByRounds_23 mlX4_119 mdX4_turnKeeps mvX4_turnKeeps rfl hx0 rfl (Nat.le_of_ble_eq_true rfl) (kX4_turnKeeps hx0 hq10) rfl ?_
          cases ht6
          exact g_sub [0, 1, 2, 3] rfl Kt6
set_option maxHeartbeats 8000000 in
set_option maxRecDepth 20000 in
theorem kX4_goByRounds {X : XC} {d : Nat} {x0 : Nat} {x1 : Nat} {x2 : Int} (hx0 : Sh x0 = (13, 14)) (hx1 : Sh x1 = (12, 9)) {M : Mem} {q : Int × Mem} (h : fX4_goByRounds x0 x1 x2 M = some q) : Ct X mX4_goByRounds (d + 3) [XR x0, XR x1, XI x2] M (pV q) := by
  unfold fX4_goByRounds at h
  refine ct_go (by decide +kernel) (Nat.le_of_ble_eq_true rfl) (ls := [(0, XR x0), (1, XR x1), (2, XI x2)]) rfl ?_
  refine g_iconst (v := 1) dX4_goByRounds_0 rfl (i32l rfl) ?_
  refine g_istore_n (ls' := [(3, XI 1), (0, XR x0), (1, XR x1), (2, XI x2)]) dX4_goByRounds_1 (by decide) rfl ?_
  obtain ⟨z23, hz23, rz23, h⟩ := lr_some h
  refine g_sub (ls' := [(0, XR x0), (1, XR x1), (2, XI x2), (3, XI 1)]) [1, 2, 3, 0] rfl ?_
  refine lX4_goByRounds_l2 hx0 hx1 1000 _ _ _ hz23 (fun r e => ?_)
  have rz23 := rz23 r e
  subst rz23
  exact ⟨rfl, rfl⟩
end
