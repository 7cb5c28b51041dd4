section
set_option maxHeartbeats 8000000 in
set_option maxRecDepth 20000 in
theorem kX4_stageAt {X : XC} {d : Nat} {x0 : Nat} {x1 : Int} (hx0 : Sh x0 = (13, 14)) {M : Mem} {q : Option Nat × Mem} (h : fX4_stageAt x0 x1 M = some q) : Ct X mX4_stageAt d [XR x0, XI x1] M (pR q) := by
  unfold fX4_stageAt at h
  refine ct_go (by decide +kernel) (Nat.le_of_ble_eq_true rfl) (ls := [(0, XR x0), (1, XI x1)]) rfl ?_
  refine g_iload_n 1 dX4_stageAt_0 rfl ?_
  refine g_if_lt (tgt := 21) dX4_stageAt_1 (by decide) (fun b5 => ?_) (fun b5 => ?_)
  · replace h := ifp b5 h
    refine g_null dX4_stageAt_21 ?_
    refine g_goto (tgt := 31) dX4_stageAt_22 (by decide) ?_
    cases h
    exact g_areturnN dX4_stageAt_31 rfl ⟨rfl, rfl⟩
  · replace h := ifn b5 h
    refine g_pc (pc' := 4) rfl ?_
    refine g_iload_n 1 dX4_stageAt_4 rfl ?_
    refine g_aload_n 0 dX4_stageAt_5 rfl ?_
    refine g_getI dX4_stageAt_6 flX4_35 (by decide) rfl hx0 ?_
    refine g_icmp_ge (tgt := 21) dX4_stageAt_9 (by decide) (fun b9 => ?_) (fun b9 => ?_)
    · replace h := ifp b9 h
      refine g_null dX4_stageAt_21 ?_
      refine g_goto (tgt := 31) dX4_stageAt_22 (by decide) ?_
      cases h
      exact g_areturnN dX4_stageAt_31 rfl ⟨rfl, rfl⟩
    · replace h := ifn b9 h
      refine g_pc (pc' := 12) rfl ?_
      refine g_iload_n 1 dX4_stageAt_12 rfl ?_
      refine g_aload_n 0 dX4_stageAt_13 rfl ?_
      refine g_getR dX4_stageAt_14 flX4_40 (by decide) rfl hx0 ?_
      refine g_alenV 8 dX4_stageAt_17 (sf_3_8 hx0) rfl rfl rfl ?_
      refine g_icmp_lt (tgt := 25) dX4_stageAt_18 (by decide) (fun b12 => ?_) (fun b12 => ?_)
      · replace h := ifp b12 h
        refine g_aload_n 0 dX4_stageAt_25 rfl ?_
        refine g_getR dX4_stageAt_26 flX4_40 (by decide) rfl hx0 ?_
        refine g_iload_n 1 dX4_stageAt_29 rfl ?_
        obtain ⟨c13, h⟩ := chk_some h
        refine g_aald dX4_stageAt_30 (sf_3_8 hx0) (by decide) c13.1 c13.2 ?_
        cases h
        exact g_areturn dX4_stageAt_31 rfl ⟨rfl, rfl⟩
      · replace h := ifn b12 h
        refine g_pc (pc' := 21) rfl ?_
        refine g_null dX4_stageAt_21 ?_
        refine g_goto (tgt := 31) dX4_stageAt_22 (by decide) ?_
        cases h
        exact g_areturnN dX4_stageAt_31 rfl ⟨rfl, rfl⟩
set_option maxHeartbeats 8000000 in
set_option maxRecDepth 20000 in
theorem lX4_begin_l17 {X : XC} {d : Nat} {Post : Option XV → Mem → Prop} {x0 : Nat} (hx0 : Sh x0 = (13, 14)) : ∀ (n : Nat) (x1 : Int) (M : Mem) (t0 : Int × Mem), fX4_begin_l17 x0 n x1 M = some t0 → Go X mX4_begin d 110 [] [] t0.2 Post → Go X mX4_begin d 17 [(0, XR x0), (1, XI x1)] [] M Post := by
  intro n
  induction n with
  | zero => intro _ _ _ h; cases h
  | succ n ih =>
    intro x1 M t0 h K
    unfold fX4_begin_l17 at h
    refine g_iload_n 1 dX4_begin_17 rfl ?_
    refine g_aload_n 0 dX4_begin_18 rfl ?_
    refine g_getR dX4_begin_19 flX4_61 (by decide) rfl hx0 ?_
    refine g_getI dX4_begin_22 flX4_92 (by decide) rfl (sf_3_0 hx0) ?_
    refine g_icmp_ge (tgt := 110) dX4_begin_25 (by decide) (fun b4 => ?_) (fun b4 => ?_)
    · replace h := ifp b4 h
      cases h
      exact g_sub [] rfl K
    · replace h := ifn b4 h
      refine g_pc (pc' := 28) rfl ?_
      refine g_aload_n 0 dX4_begin_28 rfl ?_
      refine g_getR dX4_begin_29 flX4_61 (by decide) rfl hx0 ?_
      refine g_getR dX4_begin_32 flX4_95 (by decide) rfl (sf_3_0 hx0) ?_
      refine g_iload_n 1 dX4_begin_35 rfl ?_
      obtain ⟨c5, h⟩ := chk_some h
      refine g_zald dX4_begin_36 (sf_1_2 (sf_3_0 hx0)) c5.1 c5.2 ?_
      obtain ⟨t7, ht7, h⟩ := bnd_some h
      have Kt7 : Go X mX4_begin d 45 [(0, XR x0), (1, XI x1)] [XI t7] M Post := by
        refine g_istore_n (ls' := [(2, XI t7), (0, XR x0), (1, XI x1)]) dX4_begin_45 (by decide) rfl ?_
        refine g_aload_n 1 dX4_begin_46 rfl ?_
        refine g_getR dX4_begin_47 flX4_18 (by decide) rfl hx0 ?_
        refine g_iload_n 2 dX4_begin_50 rfl ?_
        refine g_iload_n 0 dX4_begin_51 rfl ?_
        obtain ⟨t10, ht10, h⟩ := bnd_some h
        have Kt10 : Go X mX4_begin d 60 [(0, XR x0), (1, XI x1), (2, XI t7)] [XI t10, XI x1, XR (x0 + 3)] M Post := by
          obtain ⟨c12, h⟩ := chk_some h
          refine g_iast dX4_begin_60 (sf_3_2 hx0) c12.1 c12.2 ?_
          refine g_nmM (fun M13 eM13 => ?_)
          replace h := nm_s eM13 h
          refine g_aload_n 0 dX4_begin_61 rfl ?_
          refine g_getR dX4_begin_62 flX4_44 (by decide) rfl hx0 ?_
          refine g_iload_n 1 dX4_begin_65 rfl ?_
          refine g_iload_n 2 dX4_begin_66 rfl ?_
          obtain ⟨t15, ht15, h⟩ := bnd_some h
          have Kt15 : Go X mX4_begin d 77 [(0, XR x0), (1, XI x1), (2, XI t7)] [XL t15, XI x1, XR (x0 + 10)] M13 Post := by
            obtain ⟨c17, h⟩ := chk_some h
            refine g_last dX4_begin_77 (sf_3_9 hx0) c17.1 c17.2 ?_
            refine g_nmM (fun M18 eM18 => ?_)
            replace h := nm_s eM18 h
            refine g_aload_n 0 dX4_begin_78 rfl ?_
            refine g_getR dX4_begin_79 flX4_22 (by decide) rfl hx0 ?_
            refine g_iload_n 1 dX4_begin_82 rfl ?_
            refine g_bip dX4_begin_83 rfl ?_
            obtain ⟨c19, h⟩ := chk_some h
            refine g_iast dX4_begin_85 (sf_3_3 hx0) c19.1 c19.2 ?_
            refine g_nmM (fun M20 eM20 => ?_)
            replace h := nm_s eM20 h
            refine g_aload_n 0 dX4_begin_86 rfl ?_
            refine g_dupR dX4_begin_87 ?_
            refine g_pc (pc' := 88) rfl ?_
            refine g_getI dX4_begin_88 flX4_32 (by decide) rfl hx0 ?_
            refine g_iload_n 2 dX4_begin_91 rfl ?_
            obtain ⟨t22, ht22, h⟩ := bnd_some h
            have Kt22 : Go X mX4_begin d 100 [(0, XR x0), (1, XI x1)] [XI t22, XI (M20 x0 6), XR x0] M20 Post := by
              obtain ⟨c24, h⟩ := chk_some h
              refine g_iadd dX4_begin_100 rfl c24 ?_
              refine g_putI dX4_begin_101 flX4_32 (by decide) rfl hx0 ?_
              refine g_nmM (fun M25 eM25 => ?_)
              replace h := nm_s eM25 h
              obtain ⟨c26, h⟩ := chk_some h
              refine g_iinc (ls' := [(1, XI (x1 + 1)), (0, XR x0)]) 1 dX4_begin_104 rfl rfl c26 (by decide) rfl ?_
              refine g_goto (tgt := 17) dX4_begin_107 (by decide) ?_
              exact g_sub [1, 0] rfl (ih _ _ _ h K)
            refine g_if_eq (tgt := 99) dX4_begin_92 (by decide) (fun b23 => ?_) (fun b23 => ?_)
            · replace ht22 := ifp b23 ht22
              refine g_iconst (v := 0) dX4_begin_99 rfl (i32l rfl) ?_
              cases ht22
              exact g_sub [0, 1] rfl Kt22
            · replace ht22 := ifn b23 ht22
              refine g_pc (pc' := 95) rfl ?_
              refine g_iconst (v := 1) dX4_begin_95 rfl (i32l rfl) ?_
              refine g_goto (tgt := 100) dX4_begin_96 (by decide) ?_
              cases ht22
              exact g_sub [0, 1] rfl Kt22
          refine g_if_eq (tgt := 76) dX4_begin_67 (by decide) (fun b16 => ?_) (fun b16 => ?_)
          · replace ht15 := ifp b16 ht15
            refine g_lconst (v := 0) dX4_begin_76 rfl (i64l rfl) ?_
            cases ht15
            exact g_sub [0, 1, 2] rfl Kt15
          · replace ht15 := ifn b16 ht15
            refine g_pc (pc' := 70) rfl ?_
            refine g_ldc2 (v := 1000000) dX4_begin_70 csX4_99 (by decide +kernel) (i64l rfl) ?_
            refine g_goto (tgt := 77) dX4_begin_73 (by decide) ?_
            cases ht15
            exact g_sub [0, 1, 2] rfl Kt15
        refine g_if_eq (tgt := 59) dX4_begin_52 (by decide) (fun b11 => ?_) (fun b11 => ?_)
        · replace ht10 := ifp b11 ht10
          refine g_iconst (v := 0) dX4_begin_59 rfl (i32l rfl) ?_
          cases ht10
          exact g_sub [1, 2, 0] rfl Kt10
        · replace ht10 := ifn b11 ht10
          refine g_pc (pc' := 55) rfl ?_
          refine g_iconst (v := 1) dX4_begin_55 rfl (i32l rfl) ?_
          refine g_goto (tgt := 60) dX4_begin_56 (by decide) ?_
          cases ht10
          exact g_sub [1, 2, 0] rfl Kt10
      refine g_if_ne (tgt := 44) dX4_begin_37 (by decide) (fun b8 => ?_) (fun b8 => ?_)
      · replace ht7 := ifn b8 ht7
        refine g_iconst (v := 0) dX4_begin_44 rfl (i32l rfl) ?_
        cases ht7
        exact g_sub [0, 1] rfl Kt7
      · replace ht7 := ifp b8 ht7
        refine g_pc (pc' := 40) rfl ?_
        refine g_iconst (v := 1) dX4_begin_40 rfl (i32l rfl) ?_
        refine g_goto (tgt := 45) dX4_begin_41 (by decide) ?_
        cases ht7
        exact g_sub [0, 1] rfl Kt7
set_option maxHeartbeats 8000000 in
set_option maxRecDepth 20000 in
theorem kX4_begin {X : XC} {d : Nat} {x0 : Nat} (hx0 : Sh x0 = (13, 14)) {M : Mem} {q : Int × Mem} (h : fX4_begin x0 M = some q) : Ct X mX4_begin d [XR x0] M (pV q) := by
  unfold fX4_begin at h
  refine ct_go (by decide +kernel) (Nat.le_of_ble_eq_true rfl) (ls := [(0, XR x0)]) rfl ?_
  refine g_aload_n 0 dX4_begin_0 rfl ?_
  refine g_iconst (v := 0) dX4_begin_1 rfl (i32l rfl) ?_
  refine g_putI dX4_begin_2 flX4_35 (by decide) rfl hx0 ?_
  refine g_nmM (fun M1 eM1 => ?_)
  replace h := nm_s eM1 h
  refine g_aload_n 0 dX4_begin_5 rfl ?_
  refine g_iconst (v := 0) dX4_begin_6 rfl (i32l rfl) ?_
  refine g_putI dX4_begin_7 flX4_28 (by decide) rfl hx0 ?_
  refine g_nmM (fun M2 eM2 => ?_)
  replace h := nm_s eM2 h
  refine g_aload_n 0 dX4_begin_10 rfl ?_
  refine g_iconst (v := 0) dX4_begin_11 rfl (i32l rfl) ?_
  refine g_pc (pc' := 12) rfl ?_
  refine g_putI dX4_begin_12 flX4_32 (by decide) rfl hx0 ?_
  refine g_nmM (fun M3 eM3 => ?_)
  replace h := nm_s eM3 h
  refine g_iconst (v := 0) dX4_begin_15 rfl (i32l rfl) ?_
  refine g_istore_n (ls' := [(1, XI 0), (0, XR x0)]) dX4_begin_16 (by decide) rfl ?_
  obtain ⟨z27, hz27, h⟩ := bnd_some h
  refine g_sub (ls' := [(0, XR x0), (1, XI 0)]) [1, 0] rfl ?_
  refine lX4_begin_l17 hx0 1000 _ _ _ hz27 ?_
  cases h
  exact g_return dX4_begin_110 rfl ⟨rfl, rfl⟩
set_option maxHeartbeats 8000000 in
set_option maxRecDepth 20000 in
theorem lJ7_fill_d0a16_l6 {X : XC} {d : Nat} {Post : Option XV → Mem → Prop} {x0 : Nat} {x1 : Int} {x4 : Int} (hx0 : Sh x0 = (2, 8)) : ∀ (n : Nat) (x3 : Int) (M : Mem) (t0 : Int × Mem), fJ7_fill_d0a16_l6 x0 x1 x4 n x3 M = some t0 → Go X mJ7_fill_d0a16 d 22 [] [] t0.2 Post → Go X mJ7_fill_d0a16 d 6 [(0, XR x0), (1, XL x1), (3, XI x3), (4, XI x4)] [] M Post := by
  intro n
  induction n with
  | zero => intro _ _ _ h; cases h
  | succ n ih =>
    intro x3 M t0 h K
    unfold fJ7_fill_d0a16_l6 at h
    refine g_iload_n 2 dJ7_fill_d0a16_6 rfl ?_
    refine g_iload 3 dJ7_fill_d0a16_7 rfl ?_
    refine g_icmp_ge (tgt := 22) dJ7_fill_d0a16_9 (by decide) (fun b1 => ?_) (fun b1 => ?_)
    · replace h := ifp b1 h
      cases h
      exact g_sub [] rfl K
    · replace h := ifn b1 h
      refine g_pc (pc' := 12) rfl ?_
      refine g_aload_n 0 dJ7_fill_d0a16_12 rfl ?_
      refine g_iload_n 2 dJ7_fill_d0a16_13 rfl ?_
      refine g_lload_n 1 dJ7_fill_d0a16_14 rfl ?_
      obtain ⟨c2, h⟩ := chk_some h
      refine g_last dJ7_fill_d0a16_15 hx0 c2.1 c2.2 ?_
      refine g_nmM (fun M3 eM3 => ?_)
      replace h := nm_s eM3 h
      obtain ⟨c4, h⟩ := chk_some h
      refine g_iinc (ls' := [(3, XI (x3 + 1)), (0, XR x0), (1, XL x1), (4, XI x4)]) 2 dJ7_fill_d0a16_16 rfl rfl c4 (by decide) rfl ?_
      refine g_goto (tgt := 6) dJ7_fill_d0a16_19 (by decide) ?_
      exact g_sub [1, 2, 0, 3] rfl (ih _ _ _ h K)
set_option maxHeartbeats 8000000 in
set_option maxRecDepth 20000 in
theorem kJ7_fill_d0a16 {X : XC} {d : Nat} {x0 : Nat} {x1 : Int} (hx0 : Sh x0 = (2, 8)) {M : Mem} {q : Int × Mem} (h : fJ7_fill_d0a16 x0 x1 M = some q) : Ct X mJ7_fill_d0a16 d [XR x0, XL x1] M (pV q) := by
  unfold fJ7_fill_d0a16 at h
  refine ct_go (by decide +kernel) (Nat.le_of_ble_eq_true rfl) (ls := [(0, XR x0), (1, XL x1)]) rfl ?_
  refine g_iconst (v := 0) dJ7_fill_d0a16_0 rfl (i32l rfl) ?_
  refine g_istore_n (ls' := [(3, XI 0), (0, XR x0), (1, XL x1)]) dJ7_fill_d0a16_1 (by decide) rfl ?_
  refine g_aload_n 1 dJ7_fill_d0a16_2 rfl ?_
  refine g_alenV 8 dJ7_fill_d0a16_3 hx0 rfl rfl rfl ?_
  refine g_istore (ls' := [(4, XI 8), (3, XI 0), (0, XR x0), (1, XL x1)]) dJ7_fill_d0a16_4 (by decide) rfl ?_
  obtain ⟨z5, hz5, h⟩ := bnd_some h
  refine g_sub (ls' := [(0, XR x0), (1, XL x1), (3, XI 0), (4, XI 8)]) [2, 3, 1, 0] rfl ?_
  refine lJ7_fill_d0a16_l6 hx0 1000 _ _ _ hz5 ?_
  cases h
  exact g_return dJ7_fill_d0a16_22 rfl ⟨rfl, rfl⟩
set_option maxHeartbeats 8000000 in
set_option maxRecDepth 20000 in
theorem lJ7_fill_d0a16_60_l6 {X : XC} {d : Nat} {Post : Option XV → Mem → Prop} {x0 : Nat} {x1 : Int} {x4 : Int} (hx0 : Sh x0 = (2, 60)) : ∀ (n : Nat) (x3 : Int) (M : Mem) (t0 : Int × Mem), fJ7_fill_d0a16_60_l6 x0 x1 x4 n x3 M = some t0 → Go X mJ7_fill_d0a16 d 22 [] [] t0.2 Post → Go X mJ7_fill_d0a16 d 6 [(0, XR x0), (1, XL x1), (3, XI x3), (4, XI x4)] [] M Post := by
  intro n
  induction n with
  | zero => intro _ _ _ h; cases h
  | succ n ih =>
    intro x3 M t0 h K
    unfold fJ7_fill_d0a16_60_l6 at h
    refine g_iload_n 2 dJ7_fill_d0a16_6 rfl ?_
    refine g_iload 3 dJ7_fill_d0a16_7 rfl ?_
    refine g_icmp_ge (tgt := 22) dJ7_fill_d0a16_9 (by decide) (fun b1 => ?_) (fun b1 => ?_)
    · replace h := ifp b1 h
      cases h
      exact g_sub [] rfl K
    · replace h := ifn b1 h
      refine g_pc (pc' := 12) rfl ?_
      refine g_aload_n 0 dJ7_fill_d0a16_12 rfl ?_
      refine g_iload_n 2 dJ7_fill_d0a16_13 rfl ?_
      refine g_lload_n 1 dJ7_fill_d0a16_14 rfl ?_
      obtain ⟨c2, h⟩ := chk_some h
      refine g_last dJ7_fill_d0a16_15 hx0 c2.1 c2.2 ?_
      refine g_nmM (fun M3 eM3 => ?_)
      replace h := nm_s eM3 h
      obtain ⟨c4, h⟩ := chk_some h
      refine g_iinc (ls' := [(3, XI (x3 + 1)), (0, XR x0), (1, XL x1), (4, XI x4)]) 2 dJ7_fill_d0a16_16 rfl rfl c4 (by decide) rfl ?_
      refine g_goto (tgt := 6) dJ7_fill_d0a16_19 (by decide) ?_
      exact g_sub [1, 2, 0, 3] rfl (ih _ _ _ h K)
set_option maxHeartbeats 8000000 in
set_option maxRecDepth 20000 in
theorem kJ7_fill_d0a16_60 {X : XC} {d : Nat} {x0 : Nat} {x1 : Int} (hx0 : Sh x0 = (2, 60)) {M : Mem} {q : Int × Mem} (h : fJ7_fill_d0a16_60 x0 x1 M = some q) : Ct X mJ7_fill_d0a16 d [XR x0, XL x1] M (pV q) := by
  unfold fJ7_fill_d0a16_60 at h
  refine ct_go (by decide +kernel) (Nat.le_of_ble_eq_true rfl) (ls := [(0, XR x0), (1, XL x1)]) rfl ?_
  refine g_iconst (v := 0) dJ7_fill_d0a16_0 rfl (i32l rfl) ?_
  refine g_istore_n (ls' := [(3, XI 0), (0, XR x0), (1, XL x1)]) dJ7_fill_d0a16_1 (by decide) rfl ?_
  refine g_aload_n 1 dJ7_fill_d0a16_2 rfl ?_
  refine g_alenV 60 dJ7_fill_d0a16_3 hx0 rfl rfl rfl ?_
  refine g_istore (ls' := [(4, XI 60), (3, XI 0), (0, XR x0), (1, XL x1)]) dJ7_fill_d0a16_4 (by decide) rfl ?_
  obtain ⟨z5, hz5, h⟩ := bnd_some h
  refine g_sub (ls' := [(0, XR x0), (1, XL x1), (3, XI 0), (4, XI 60)]) [2, 3, 1, 0] rfl ?_
  refine lJ7_fill_d0a16_60_l6 hx0 1000 _ _ _ hz5 ?_
  cases h
  exact g_return dJ7_fill_d0a16_22 rfl ⟨rfl, rfl⟩
set_option maxHeartbeats 8000000 in
set_option maxRecDepth 20000 in
theorem lX4_passOn_l6 {X : XC} {d : Nat} {Post : Option XV → Mem → Prop} {x0 : Nat} {x1 : Int} (hx0 : Sh x0 = (13, 14)) : ∀ (n : Nat) (x4 x6 : Int) (M : Mem) (z : (Int × Mem) ⊕ (Int × Int × Mem)), fX4_passOn_l6 x0 x1 n x4 x6 M = some z → (∀ r, z = .inl r → Post (some (XL r.1)) r.2) → Go X mX4_passOn (d + 1) 6 [(0, XR x0), (1, XI x1), (4, XL x4), (6, XI x6)] [] M Post := by
  intro n
  induction n with
  | zero => intro _ _ _ _ h; cases h
  | succ n ih =>
    intro x4 x6 M z h K1
    unfold fX4_passOn_l6 at h
    refine g_iload 3 dX4_passOn_6 rfl ?_
    refine g_bip dX4_passOn_8 rfl ?_
    refine g_icmp_ge (tgt := 84) dX4_passOn_10 (by decide) (fun b1 => ?_) (fun b1 => ?_)
    · replace h := ifp b1 h
      refine g_lload 2 dX4_passOn_84 rfl ?_
      cases h
      exact g_lreturn dX4_passOn_86 rfl (K1 (x4, M) rfl)
    · replace h := ifn b1 h
      refine g_pc (pc' := 13) rfl ?_
      refine g_lload 2 dX4_passOn_13 rfl ?_
      refine g_lconst (v := 0) dX4_passOn_15 rfl (i64l rfl) ?_
      refine g_lcmp_le (tgt := 84) dX4_passOn_16 dX4_passOn_17 (by decide) (fun b2 => ?_) (fun b2 => ?_)
      · replace h := ifp b2 h
        refine g_lload 2 dX4_passOn_84 rfl ?_
        cases h
        exact g_lreturn dX4_passOn_86 rfl (K1 (x4, M) rfl)
      · replace h := ifn b2 h
        refine g_pc (pc' := 20) rfl ?_
        refine g_iload_n 1 dX4_passOn_20 rfl ?_
        refine g_iload 3 dX4_passOn_21 rfl ?_
        obtain ⟨q3, hq3, h⟩ := bnd_some h
        refine s_I (as := [XI x1, XI x6]) dX4_passOn_23 mlX4_163 mdX2_at msX2_at rfl (Nat.le_of_ble_eq_true rfl) (kX2_at  hq3) rfl ?_
        refine g_nmI (fun v4 ev4 => ?_)
        replace h := nm_s ev4 h
        refine g_istore (ls' := [(7, XI v4), (0, XR x0), (1, XI x1), (4, XL x4), (6, XI x6)]) dX4_passOn_26 (by decide) rfl ?_
        refine g_iload 0 dX4_passOn_28 rfl ?_
        refine g_if_lt (tgt := 40) dX4_passOn_30 (by decide) (fun b5 => ?_) (fun b5 => ?_)
        · replace h := ifp b5 h
          refine g_lload 3 dX4_passOn_40 rfl ?_
          cases h
          exact g_lreturn dX4_passOn_42 rfl (K1 (x4, q3.2) rfl)
        · replace h := ifn b5 h
          refine g_pc (pc' := 33) rfl ?_
          refine g_iload 0 dX4_passOn_33 rfl ?_
          refine g_bip dX4_passOn_35 rfl ?_
          refine g_icmp_lt (tgt := 43) dX4_passOn_37 (by decide) (fun b6 => ?_) (fun b6 => ?_)
          · replace h := ifp b6 h
            refine g_lload 3 dX4_passOn_43 rfl ?_
            refine g_aload_n 1 dX4_passOn_45 rfl ?_
            refine g_getR dX4_passOn_46 flX4_44 (by decide) rfl hx0 ?_
            refine g_iload 0 dX4_passOn_49 rfl ?_
            obtain ⟨c7, h⟩ := chk_some h
            refine g_lald dX4_passOn_51 (sf_3_9 hx0) c7.1 c7.2 ?_
            obtain ⟨c8, h⟩ := chk_some h
            refine g_lmul dX4_passOn_52 rfl c8 ?_
            refine g_ldc2 (v := 1000000) dX4_passOn_53 csX4_99 (by decide +kernel) (i64l rfl) ?_
            obtain ⟨c9, h⟩ := chk_some h
            refine g_ldiv dX4_passOn_56 c9 (by decide) rfl ?_
            refine g_pc (pc' := 57) rfl ?_
            refine g_nmL (fun v10 ev10 => ?_)
            replace h := nm_s ev10 h
            refine g_lstore (ls' := [(8, XL v10), (7, XI v4), (0, XR x0), (1, XI x1), (4, XL x4), (6, XI x6)]) dX4_passOn_57 (by decide) rfl ?_
            refine g_aload_n 2 dX4_passOn_59 rfl ?_
            refine g_getR dX4_passOn_60 flX4_48 (by decide) rfl hx0 ?_
            refine g_iload 1 dX4_passOn_63 rfl ?_
            refine g_dup2RI dX4_passOn_65 ?_
            obtain ⟨c11, h⟩ := chk_some h
            refine g_lald dX4_passOn_66 (sf_3_10 hx0) c11.1 c11.2 ?_
            refine g_lload 0 dX4_passOn_67 rfl ?_
            obtain ⟨c12, h⟩ := chk_some h
            refine g_ladd dX4_passOn_69 rfl c12 ?_
            obtain ⟨c13, h⟩ := chk_some h
            refine g_last dX4_passOn_70 (sf_3_10 hx0) c13.1 c13.2 ?_
            refine g_nmM (fun M14 eM14 => ?_)
            replace h := nm_s eM14 h
            refine g_pc (pc' := 71) rfl ?_
            refine g_lload 4 dX4_passOn_71 rfl ?_
            refine g_lload 0 dX4_passOn_73 rfl ?_
            obtain ⟨c15, h⟩ := chk_some h
            refine g_lsub dX4_passOn_75 rfl c15 ?_
            refine g_nmL (fun v16 ev16 => ?_)
            replace h := nm_s ev16 h
            refine g_lstore (ls' := [(4, XL v16), (8, XL v10), (7, XI v4), (0, XR x0), (1, XI x1), (6, XI x6)]) dX4_passOn_76 (by decide) rfl ?_
            obtain ⟨c17, h⟩ := chk_some h
            refine g_iinc (ls' := [(6, XI (x6 + 1)), (4, XL v16), (8, XL v10), (7, XI v4), (0, XR x0), (1, XI x1)]) 5 dX4_passOn_78 rfl rfl c17 (by decide) rfl ?_
            refine g_goto (tgt := 6) dX4_passOn_81 (by decide) ?_
            exact g_sub [4, 5, 1, 0] rfl (ih _ _ _ _ h K1)
          · replace h := ifn b6 h
            refine g_pc (pc' := 40) rfl ?_
            refine g_lload 3 dX4_passOn_40 rfl ?_
            cases h
            exact g_lreturn dX4_passOn_42 rfl (K1 (x4, q3.2) rfl)
set_option maxHeartbeats 8000000 in
set_option maxRecDepth 20000 in
theorem kX4_passOn {X : XC} {d : Nat} {x0 : Nat} {x1 : Int} {x2 : Int} (hx0 : Sh x0 = (13, 14)) {M : Mem} {q : Int × Mem} (h : fX4_passOn x0 x1 x2 M = some q) : Ct X mX4_passOn (d + 1) [XR x0, XI x1, XL x2] M (pJ q) := by
  unfold fX4_passOn at h
  refine ct_go (by decide +kernel) (Nat.le_of_ble_eq_true rfl) (ls := [(0, XR x0), (1, XI x1), (2, XL x2)]) rfl ?_
  refine g_lload_n 2 dX4_passOn_0 rfl ?_
  refine g_lstore (ls' := [(4, XL x2), (0, XR x0), (1, XI x1), (2, XL x2)]) dX4_passOn_1 (by decide) rfl ?_
  refine g_iconst (v := 0) dX4_passOn_3 rfl (i32l rfl) ?_
  refine g_istore (ls' := [(6, XI 0), (4, XL x2), (0, XR x0), (1, XI x1), (2, XL x2)]) dX4_passOn_4 (by decide) rfl ?_
  obtain ⟨z18, hz18, rz18, h⟩ := lr_some h
  refine g_sub (ls' := [(0, XR x0), (1, XI x1), (4, XL x2), (6, XI 0)]) [2, 3, 1, 0] rfl ?_
  refine lX4_passOn_l6 hx0 1000 _ _ _ _ hz18 (fun r e => ?_)
  have rz18 := rz18 r e
  subst rz18
  exact ⟨rfl, rfl⟩
set_option maxHeartbeats 8000000 in
set_option maxRecDepth 20000 in
theorem kX8_cut {X : XC} {d : Nat} {x0 : Int} {x2 : Int}  {M : Mem} {q : Int × Mem} (h : fX8_cut x0 x2 M = some q) : Ct X mX8_cut d [XL x0, XL x2] M (pJ q) := by
  unfold fX8_cut at h
  refine ct_go (by decide +kernel) (Nat.le_of_ble_eq_true rfl) (ls := [(0, XL x0), (2, XL x2)]) rfl ?_
  refine g_lload_n 1 dX8_cut_0 rfl ?_
  refine g_lconst (v := 0) dX8_cut_1 rfl (i64l rfl) ?_
  obtain ⟨t3, ht3, h⟩ := bnd_some h
  have Kt3 : Go X mX8_cut d 13 [] [XL t3] M (pJ q) := by
    cases h
    exact g_lreturn dX8_cut_13 rfl ⟨rfl, rfl⟩
  refine g_lcmp_le (tgt := 12) dX8_cut_2 dX8_cut_3 (by decide) (fun b4 => ?_) (fun b4 => ?_)
  · replace ht3 := ifp b4 ht3
    refine g_lconst (v := 0) dX8_cut_12 rfl (i64l rfl) ?_
    cases ht3
    exact g_sub [] rfl Kt3
  · replace ht3 := ifn b4 ht3
    refine g_pc (pc' := 6) rfl ?_
    refine g_lload_n 0 dX8_cut_6 rfl ?_
    refine g_lload_n 1 dX8_cut_7 rfl ?_
    obtain ⟨c5, ht3⟩ := chk_some ht3
    refine g_ldiv dX8_cut_8 c5.1 c5.2 rfl ?_
    refine g_goto (tgt := 13) dX8_cut_9 (by decide) ?_
    cases ht3
    exact g_sub [] rfl Kt3
set_option maxHeartbeats 8000000 in
set_option maxRecDepth 20000 in
theorem lX4_workOut_l15 {X : XC} {d : Nat} {Post : Option XV → Mem → Prop} {x0 : Nat} (hx0 : Sh x0 = (13, 14)) : ∀ (n : Nat) (x1 : Int) (M : Mem) (t0 : Int × Mem), fX4_workOut_l15 x0 n x1 M = some t0 → Go X mX4_workOut (d + 2) 68 [(0, XR x0)] [] t0.2 Post → Go X mX4_workOut (d + 2) 15 [(0, XR x0), (1, XI x1)] [] M Post := by
  intro n
  induction n with
  | zero => intro _ _ _ h; cases h
  | succ n ih =>
    intro x1 M t0 h K
    unfold fX4_workOut_l15 at h
    refine g_iload_n 1 dX4_workOut_15 rfl ?_
    refine g_aload_n 0 dX4_workOut_16 rfl ?_
    refine g_getR dX4_workOut_17 flX4_12 (by decide) rfl hx0 ?_
    refine g_getI dX4_workOut_20 flX4_147 (by decide) rfl (sf_3_1 hx0) ?_
    refine g_icmp_ge (tgt := 68) dX4_workOut_23 (by decide) (fun b3 => ?_) (fun b3 => ?_)
    · replace h := ifp b3 h
      cases h
      exact g_sub [0] rfl K
    · replace h := ifn b3 h
      refine g_pc (pc' := 26) rfl ?_
      refine g_aload_n 0 dX4_workOut_26 rfl ?_
      refine g_dupR dX4_workOut_27 ?_
      refine g_getJ dX4_workOut_28 flX4_55 (by decide) rfl hx0 ?_
      refine g_aload_n 0 dX4_workOut_31 rfl ?_
      refine g_aload_n 0 dX4_workOut_32 rfl ?_
      refine g_getR dX4_workOut_33 flX4_12 (by decide) rfl hx0 ?_
      refine g_getR dX4_workOut_36 flX4_150 (by decide) rfl (sf_3_1 hx0) ?_
      refine g_iload_n 1 dX4_workOut_39 rfl ?_
      refine g_pc (pc' := 40) rfl ?_
      obtain ⟨c4, h⟩ := chk_some h
      refine g_iald dX4_workOut_40 (sf_0_1 (sf_3_1 hx0)) c4.1 c4.2 ?_
      refine g_aload_n 0 dX4_workOut_41 rfl ?_
      refine g_getR dX4_workOut_42 flX4_12 (by decide) rfl hx0 ?_
      refine g_getR dX4_workOut_45 flX4_153 (by decide) rfl (sf_3_1 hx0) ?_
      refine g_iload_n 1 dX4_workOut_48 rfl ?_
      obtain ⟨c5, h⟩ := chk_some h
      refine g_iald dX4_workOut_49 (sf_0_2 (sf_3_1 hx0)) c5.1 c5.2 ?_
      refine g_i2l dX4_workOut_50 ?_
      refine g_ldc2 (v := 1000000) dX4_workOut_51 csX4_99 (by decide +kernel) (i64l rfl) ?_
      obtain ⟨c6, h⟩ := chk_some h
      refine g_lmul dX4_workOut_54 rfl c6 ?_
      refine g_pc (pc' := 55) rfl ?_
      obtain ⟨q7, hq7, h⟩ := bnd_some h
      refine v_J (ci := 3) (as := [XI (M ((x0 + 20) + 2) (Int.toNat x1)), XL ((M ((x0 + 20) + 3) (Int.toNat x1)) * 1000000)]) dX4_workOut_55 mlX4_156 mdX4_passOn mvX4_passOn rfl hx0 rfl (Nat.le_of_ble_eq_true rfl) (kX4_passOn hx0 hq7) rfl ?_
      obtain ⟨c8, h⟩ := chk_some h
      refine g_ladd dX4_workOut_58 rfl c8 ?_
      refine g_putJ dX4_workOut_59 flX4_55 (by decide) rfl hx0 ?_
      refine g_nmM (fun M9 eM9 => ?_)
      replace h := nm_s eM9 h
      obtain ⟨c10, h⟩ := chk_some h
      refine g_iinc (ls' := [(1, XI (x1 + 1)), (0, XR x0)]) 1 dX4_workOut_62 rfl rfl c10 (by decide) rfl ?_
      refine g_goto (tgt := 15) dX4_workOut_65 (by decide) ?_
      exact g_sub [1, 0] rfl (ih _ _ _ h K)
set_option maxHeartbeats 8000000 in
set_option maxRecDepth 20000 in
theorem lX4_workOut_l75 {X : XC} {d : Nat} {Post : Option XV → Mem → Prop} {x0 : Nat} (hx0 : Sh x0 = (13, 14)) : ∀ (n : Nat) (x1 : Int) (M : Mem) (t0 : Int × Mem), fX4_workOut_l75 x0 n x1 M = some t0 → Go X mX4_workOut (d + 2) 107 [(0, XR x0)] [] t0.2 Post → Go X mX4_workOut (d + 2) 75 [(0, XR x0), (1, XI x1)] [] M Post := by
  intro n
  induction n with
  | zero => intro _ _ _ h; cases h
  | succ n ih =>
    intro x1 M t0 h K
    unfold fX4_workOut_l75 at h
    refine g_iload_n 1 dX4_workOut_75 rfl ?_
    refine g_aload_n 0 dX4_workOut_76 rfl ?_
    refine g_getR dX4_workOut_77 flX4_61 (by decide) rfl hx0 ?_
    refine g_getI dX4_workOut_80 flX4_92 (by decide) rfl (sf_3_0 hx0) ?_
    refine g_icmp_ge (tgt := 107) dX4_workOut_83 (by decide) (fun b13 => ?_) (fun b13 => ?_)
    · replace h := ifp b13 h
      cases h
      exact g_sub [0] rfl K
    · replace h := ifn b13 h
      refine g_pc (pc' := 86) rfl ?_
      refine g_aload_n 0 dX4_workOut_86 rfl ?_
      refine g_dupR dX4_workOut_87 ?_
      refine g_getJ dX4_workOut_88 flX4_58 (by decide) rfl hx0 ?_
      refine g_aload_n 0 dX4_workOut_91 rfl ?_
      refine g_getR dX4_workOut_92 flX4_48 (by decide) rfl hx0 ?_
      refine g_iload_n 1 dX4_workOut_95 rfl ?_
      obtain ⟨c14, h⟩ := chk_some h
      refine g_lald dX4_workOut_96 (sf_3_10 hx0) c14.1 c14.2 ?_
      obtain ⟨c15, h⟩ := chk_some h
      refine g_ladd dX4_workOut_97 rfl c15 ?_
      refine g_pc (pc' := 98) rfl ?_
      refine g_putJ dX4_workOut_98 flX4_58 (by decide) rfl hx0 ?_
      refine g_nmM (fun M16 eM16 => ?_)
      replace h := nm_s eM16 h
      obtain ⟨c17, h⟩ := chk_some h
      refine g_iinc (ls' := [(1, XI (x1 + 1)), (0, XR x0)]) 1 dX4_workOut_101 rfl rfl c17 (by decide) rfl ?_
      refine g_goto (tgt := 75) dX4_workOut_104 (by decide) ?_
      exact g_sub [1, 0] rfl (ih _ _ _ h K)
set_option maxHeartbeats 8000000 in
set_option maxRecDepth 20000 in
theorem kX4_workOut {X : XC} {d : Nat} {x0 : Nat} (hx0 : Sh x0 = (13, 14)) {M : Mem} {q : Int × Mem} (h : fX4_workOut x0 M = some q) : Ct X mX4_workOut (d + 2) [XR x0] M (pV q) := by
  unfold fX4_workOut at h
  refine ct_go (by decide +kernel) (Nat.le_of_ble_eq_true rfl) (ls := [(0, XR x0)]) rfl ?_
  refine g_aload_n 0 dX4_workOut_0 rfl ?_
  refine g_getR dX4_workOut_1 flX4_48 (by decide) rfl hx0 ?_
  refine g_lconst (v := 0) dX4_workOut_4 rfl (i64l rfl) ?_
  obtain ⟨q1, hq1, h⟩ := bnd_some h
  refine s_V (as := [XR (x0 + 11), XL 0]) dX4_workOut_5 mlX4_142 mdJ7_fill_d0a16 msJ7_fill_d0a16 rfl (Nat.le_of_ble_eq_true rfl) (kJ7_fill_d0a16 (sf_3_10 hx0) hq1) rfl ?_
  refine g_aload_n 0 dX4_workOut_8 rfl ?_
  refine g_lconst (v := 0) dX4_workOut_9 rfl (i64l rfl) ?_
  refine g_putJ dX4_workOut_10 flX4_55 (by decide) rfl hx0 ?_
  refine g_nmM (fun M2 eM2 => ?_)
  replace h := nm_s eM2 h
  refine g_iconst (v := 0) dX4_workOut_13 rfl (i32l rfl) ?_
  refine g_pc (pc' := 14) rfl ?_
  refine g_istore_n (ls' := [(1, XI 0), (0, XR x0)]) dX4_workOut_14 (by decide) rfl ?_
  obtain ⟨z11, hz11, h⟩ := bnd_some h
  refine g_sub (ls' := [(0, XR x0), (1, XI 0)]) [1, 0] rfl ?_
  refine lX4_workOut_l15 hx0 1000 _ _ _ hz11 ?_
  refine g_aload_n 0 dX4_workOut_68 rfl ?_
  refine g_lconst (v := 0) dX4_workOut_69 rfl (i64l rfl) ?_
  refine g_putJ dX4_workOut_70 flX4_58 (by decide) rfl hx0 ?_
  refine g_nmM (fun M12 eM12 => ?_)
  replace h := nm_s eM12 h
  refine g_iconst (v := 0) dX4_workOut_73 rfl (i32l rfl) ?_
  refine g_istore_n (ls' := [(1, XI 0), (0, XR x0)]) dX4_workOut_74 (by decide) rfl ?_
  obtain ⟨z18, hz18, h⟩ := bnd_some h
  refine g_sub (ls' := [(0, XR x0), (1, XI 0)]) [1, 0] rfl ?_
  refine lX4_workOut_l75 hx0 1000 _ _ _ hz18 ?_
  refine g_aload_n 0 dX4_workOut_107 rfl ?_
  refine g_aload_n 0 dX4_workOut_108 rfl ?_
  refine g_getJ dX4_workOut_109 flX4_58 (by decide) rfl hx0 ?_
  refine g_aload_n 0 dX4_workOut_112 rfl ?_
  refine g_getR dX4_workOut_113 flX4_61 (by decide) rfl hx0 ?_
  refine g_getI dX4_workOut_116 flX4_73 (by decide) rfl (sf_3_0 hx0) ?_
  refine g_iconst (v := 1) dX4_workOut_119 rfl (i32l rfl) ?_
  obtain ⟨c19, h⟩ := chk_some h
  refine g_iadd dX4_workOut_120 rfl c19 ?_
  refine g_pc (pc' := 121) rfl ?_
  refine g_i2l dX4_workOut_121 ?_
  obtain ⟨q20, hq20, h⟩ := bnd_some h
  refine n_J (as := [XL (z18.2 x0 13), XL ((z18.2 (x0 + 10000) 6) + 1)]) dX4_workOut_122 mlX4_160 mdX8_cut msX8_cut rfl (Nat.le_of_ble_eq_true rfl) (kX8_cut  hq20) rfl ?_
  refine g_lconst (v := 1) dX4_workOut_125 rfl (i64l rfl) ?_
  obtain ⟨c21, h⟩ := chk_some h
  refine g_ladd dX4_workOut_126 rfl c21 ?_
  refine g_putJ dX4_workOut_127 flX4_51 (by decide) rfl hx0 ?_
  refine g_nmM (fun M22 eM22 => ?_)
  replace h := nm_s eM22 h
  cases h
  exact g_return dX4_workOut_130 rfl ⟨rfl, rfl⟩
end
