section
set_option maxHeartbeats 8000000 in
set_option maxRecDepth 20000 in
theorem lX4_note_l37 {X : XC} {d : Nat} {Post : Option XV → Mem → Prop} {x0 : Nat} {x1 : Nat} (hx0 : Sh x0 = (13, 14)) (hx1 : Sh x1 = (12, 9)) : ∀ (n : Nat) (x5 : Int) (M : Mem) (t0 : Int × Mem), fX4_note_l37 x0 x1 n x5 M = some t0 → Go X mX4_note d 78 [] [] t0.2 Post → Go X mX4_note d 37 [(0, XR x0), (1, XR x1), (5, XI x5)] [] M Post := by
  intro n
  induction n with
  | zero => intro _ _ _ h; cases h
  | succ n ih =>
    intro x5 M t0 h K
    unfold fX4_note_l37 at h
    refine g_iload 2 dX4_note_37 rfl ?_
    refine g_bip dX4_note_39 rfl ?_
    refine g_icmp_ge (tgt := 78) dX4_note_41 (by decide) (fun b6 => ?_) (fun b6 => ?_)
    · replace h := ifp b6 h
      cases h
      exact g_sub [] rfl K
    · replace h := ifn b6 h
      refine g_pc (pc' := 44) rfl ?_
      refine g_aload_n 1 dX4_note_44 rfl ?_
      refine g_getR dX4_note_45 flX4_178 (by decide) rfl hx1 ?_
      refine g_iload 2 dX4_note_48 rfl ?_
      refine g_aload_n 0 dX4_note_50 rfl ?_
      refine g_getR dX4_note_51 flX4_48 (by decide) rfl hx0 ?_
      refine g_iload 2 dX4_note_54 rfl ?_
      obtain ⟨c7, h⟩ := chk_some h
      refine g_lald dX4_note_56 (sf_3_10 hx0) c7.1 c7.2 ?_
      obtain ⟨c8, h⟩ := chk_some h
      refine g_last dX4_note_57 (sf_2_7 hx1) c8.1 c8.2 ?_
      refine g_nmM (fun M9 eM9 => ?_)
      replace h := nm_s eM9 h
      refine g_pc (pc' := 58) rfl ?_
      refine g_aload_n 1 dX4_note_58 rfl ?_
      refine g_getR dX4_note_59 flX4_179 (by decide) rfl hx1 ?_
      refine g_iload 2 dX4_note_62 rfl ?_
      refine g_aload_n 0 dX4_note_64 rfl ?_
      refine g_getR dX4_note_65 flX4_44 (by decide) rfl hx0 ?_
      refine g_iload 2 dX4_note_68 rfl ?_
      obtain ⟨c10, h⟩ := chk_some h
      refine g_lald dX4_note_70 (sf_3_9 hx0) c10.1 c10.2 ?_
      obtain ⟨c11, h⟩ := chk_some h
      refine g_last dX4_note_71 (sf_2_8 hx1) c11.1 c11.2 ?_
      refine g_nmM (fun M12 eM12 => ?_)
      replace h := nm_s eM12 h
      obtain ⟨c13, h⟩ := chk_some h
      refine g_iinc (ls' := [(5, XI (x5 + 1)), (0, XR x0), (1, XR x1)]) 2 dX4_note_72 rfl rfl c13 (by decide) rfl ?_
      refine g_pc (pc' := 75) rfl ?_
      refine g_goto (tgt := 37) dX4_note_75 (by decide) ?_
      exact g_sub [1, 2, 0] rfl (ih _ _ _ h K)
set_option maxHeartbeats 8000000 in
set_option maxRecDepth 20000 in
theorem kX4_note {X : XC} {d : Nat} {x0 : Nat} {x1 : Nat} {x2 : Int} {x3 : Int} (hx0 : Sh x0 = (13, 14)) (hx1 : Sh x1 = (12, 9)) {M : Mem} {q : Int × Mem} (h : fX4_note x0 x1 x2 x3 M = some q) : Ct X mX4_note d [XR x0, XR x1, XI x2, XL x3] M (pV q) := by
  unfold fX4_note at h
  refine ct_go (by decide +kernel) (Nat.le_of_ble_eq_true rfl) (ls := [(0, XR x0), (1, XR x1), (2, XI x2), (3, XL x3)]) rfl ?_
  refine g_aload_n 1 dX4_note_0 rfl ?_
  refine g_iload_n 2 dX4_note_1 rfl ?_
  refine g_putI dX4_note_2 flX4_172 (by decide) rfl hx1 ?_
  refine g_nmM (fun M1 eM1 => ?_)
  replace h := nm_s eM1 h
  refine g_aload_n 1 dX4_note_5 rfl ?_
  refine g_aload_n 0 dX4_note_6 rfl ?_
  refine g_getJ dX4_note_7 flX4_51 (by decide) rfl hx0 ?_
  refine g_putJ dX4_note_10 flX4_173 (by decide) rfl hx1 ?_
  refine g_nmM (fun M2 eM2 => ?_)
  replace h := nm_s eM2 h
  refine g_aload_n 1 dX4_note_13 rfl ?_
  refine g_pc (pc' := 14) rfl ?_
  refine g_aload_n 0 dX4_note_14 rfl ?_
  refine g_getJ dX4_note_15 flX4_55 (by decide) rfl hx0 ?_
  refine g_putJ dX4_note_18 flX4_174 (by decide) rfl hx1 ?_
  refine g_nmM (fun M3 eM3 => ?_)
  replace h := nm_s eM3 h
  refine g_aload_n 1 dX4_note_21 rfl ?_
  refine g_lload_n 3 dX4_note_22 rfl ?_
  refine g_putJ dX4_note_23 flX4_175 (by decide) rfl hx1 ?_
  refine g_nmM (fun M4 eM4 => ?_)
  replace h := nm_s eM4 h
  refine g_aload_n 1 dX4_note_26 rfl ?_
  refine g_aload_n 0 dX4_note_27 rfl ?_
  refine g_getJ dX4_note_28 flX4_58 (by decide) rfl hx0 ?_
  refine g_pc (pc' := 31) rfl ?_
  refine g_putJ dX4_note_31 flX4_177 (by decide) rfl hx1 ?_
  refine g_nmM (fun M5 eM5 => ?_)
  replace h := nm_s eM5 h
  refine g_iconst (v := 0) dX4_note_34 rfl (i32l rfl) ?_
  refine g_istore (ls' := [(5, XI 0), (0, XR x0), (1, XR x1), (2, XI x2), (3, XL x3)]) dX4_note_35 (by decide) rfl ?_
  obtain ⟨z14, hz14, h⟩ := bnd_some h
  refine g_sub (ls' := [(0, XR x0), (1, XR x1), (5, XI 0)]) [1, 2, 0] rfl ?_
  refine lX4_note_l37 hx0 hx1 1000 _ _ _ hz14 ?_
  cases h
  exact g_return dX4_note_78 rfl ⟨rfl, rfl⟩
set_option maxHeartbeats 8000000 in
set_option maxRecDepth 20000 in
theorem lX4_whoIs_l4 {X : XC} {d : Nat} {Post : Option XV → Mem → Prop} {x0 : Nat} {x1 : Int} (hx0 : Sh x0 = (13, 14)) : ∀ (n : Nat) (x2 x3 : Int) (M : Mem) (t0 : Int × Int × Mem), fX4_whoIs_l4 x0 x1 n x2 x3 M = some t0 → Go X mX4_whoIs d 37 [(2, XI t0.1)] [] t0.2.2 Post → Go X mX4_whoIs d 4 [(0, XR x0), (1, XI x1), (2, XI x2), (3, XI x3)] [] M Post := by
  intro n
  induction n with
  | zero => intro _ _ _ _ h; cases h
  | succ n ih =>
    intro x2 x3 M t0 h K
    unfold fX4_whoIs_l4 at h
    refine g_iload_n 3 dX4_whoIs_4 rfl ?_
    refine g_aload_n 0 dX4_whoIs_5 rfl ?_
    refine g_getR dX4_whoIs_6 flX4_61 (by decide) rfl hx0 ?_
    refine g_getI dX4_whoIs_9 flX4_92 (by decide) rfl (sf_3_0 hx0) ?_
    refine g_icmp_ge (tgt := 37) dX4_whoIs_12 (by decide) (fun b1 => ?_) (fun b1 => ?_)
    · replace h := ifp b1 h
      cases h
      exact g_sub [2] rfl K
    · replace h := ifn b1 h
      refine g_pc (pc' := 15) rfl ?_
      refine g_aload_n 0 dX4_whoIs_15 rfl ?_
      refine g_getR dX4_whoIs_16 flX4_18 (by decide) rfl hx0 ?_
      refine g_iload_n 3 dX4_whoIs_19 rfl ?_
      obtain ⟨c2, h⟩ := chk_some h
      refine g_iald dX4_whoIs_20 (sf_3_2 hx0) c2.1 c2.2 ?_
      refine g_iload_n 1 dX4_whoIs_21 rfl ?_
      obtain ⟨t5, ht5, h⟩ := bnd_some h
      have Kt5 : Go X mX4_whoIs d 31 [(0, XR x0), (1, XI x1), (2, XI t5), (3, XI x3)] [] M Post := by
        obtain ⟨c8, h⟩ := chk_some h
        refine g_iinc (ls' := [(3, XI (x3 + 1)), (0, XR x0), (1, XI x1), (2, XI t5)]) 3 dX4_whoIs_31 rfl rfl c8 (by decide) rfl ?_
        refine g_goto (tgt := 4) dX4_whoIs_34 (by decide) ?_
        exact g_sub [1, 2, 3, 0] rfl (ih _ _ _ _ h K)
      refine g_icmp_ne (tgt := 31) dX4_whoIs_22 (by decide) (fun b6 => ?_) (fun b6 => ?_)
      · replace ht5 := ifn b6 ht5
        cases ht5
        exact g_sub [0, 1, 2, 3] rfl Kt5
      · replace ht5 := ifp b6 ht5
        refine g_pc (pc' := 25) rfl ?_
        refine g_iload_n 2 dX4_whoIs_25 rfl ?_
        refine g_iconst (v := 1) dX4_whoIs_26 rfl (i32l rfl) ?_
        refine g_iload_n 3 dX4_whoIs_27 rfl ?_
        refine g_ishl dX4_whoIs_28 ?_
        refine g_ior dX4_whoIs_29 ?_
        refine g_nmI (fun v7 ev7 => ?_)
        replace ht5 := nm_s ev7 ht5
        refine g_istore_n (ls' := [(2, XI v7), (0, XR x0), (1, XI x1), (3, XI x3)]) dX4_whoIs_30 (by decide) rfl ?_
        cases ht5
        exact g_sub [1, 2, 0, 3] rfl Kt5
set_option maxHeartbeats 8000000 in
set_option maxRecDepth 20000 in
theorem kX4_whoIs {X : XC} {d : Nat} {x0 : Nat} {x1 : Int} (hx0 : Sh x0 = (13, 14)) {M : Mem} {q : Int × Mem} (h : fX4_whoIs x0 x1 M = some q) : Ct X mX4_whoIs d [XR x0, XI x1] M (pI q) := by
  unfold fX4_whoIs at h
  refine ct_go (by decide +kernel) (Nat.le_of_ble_eq_true rfl) (ls := [(0, XR x0), (1, XI x1)]) rfl ?_
  refine g_iconst (v := 0) dX4_whoIs_0 rfl (i32l rfl) ?_
  refine g_istore_n (ls' := [(2, XI 0), (0, XR x0), (1, XI x1)]) dX4_whoIs_1 (by decide) rfl ?_
  refine g_iconst (v := 0) dX4_whoIs_2 rfl (i32l rfl) ?_
  refine g_istore_n (ls' := [(3, XI 0), (2, XI 0), (0, XR x0), (1, XI x1)]) dX4_whoIs_3 (by decide) rfl ?_
  obtain ⟨z9, hz9, h⟩ := bnd_some h
  refine g_sub (ls' := [(0, XR x0), (1, XI x1), (2, XI 0), (3, XI 0)]) [2, 3, 1, 0] rfl ?_
  refine lX4_whoIs_l4 hx0 1000 _ _ _ _ hz9 ?_
  refine g_iload_n 0 dX4_whoIs_37 rfl ?_
  cases h
  exact g_ireturn dX4_whoIs_38 rfl ⟨rfl, rfl⟩
set_option maxHeartbeats 8000000 in
set_option maxRecDepth 20000 in
theorem lX4_leader_l28 {X : XC} {d : Nat} {Post : Option XV → Mem → Prop} {x0 : Nat} {x1 : Nat} {x3 : Int} {x4 : Int} {x6 : Int} (hx0 : Sh x0 = (13, 14)) (hx1 : Sh x1 = (2, 8)) : ∀ (n : Nat) (x5 x7 : Int) (M : Mem) (t0 : Int × Int × Mem), fX4_leader_l28 x0 x1 x3 x4 x6 n x5 x7 M = some t0 → Go X mX4_leader d 89 [(0, XR x0), (1, XR x1), (3, XI x3), (4, XI x4), (5, XI t0.1), (6, XI x6)] [] t0.2.2 Post → Go X mX4_leader d 28 [(0, XR x0), (1, XR x1), (3, XI x3), (4, XI x4), (5, XI x5), (6, XI x6), (7, XI x7)] [] M Post := by
  intro n
  induction n with
  | zero => intro _ _ _ _ h; cases h
  | succ n ih =>
    intro x5 x7 M t0 h K
    unfold fX4_leader_l28 at h
    refine g_iload 6 dX4_leader_28 rfl ?_
    refine g_aload_n 0 dX4_leader_30 rfl ?_
    refine g_getR dX4_leader_31 flX4_61 (by decide) rfl hx0 ?_
    refine g_getI dX4_leader_34 flX4_92 (by decide) rfl (sf_3_0 hx0) ?_
    refine g_icmp_ge (tgt := 89) dX4_leader_37 (by decide) (fun b3 => ?_) (fun b3 => ?_)
    · replace h := ifp b3 h
      cases h
      exact g_sub [0, 1, 2, 3, 4, 5] rfl K
    · replace h := ifn b3 h
      refine g_pc (pc' := 40) rfl ?_
      refine g_aload_n 0 dX4_leader_40 rfl ?_
      refine g_getR dX4_leader_41 flX4_61 (by decide) rfl hx0 ?_
      refine g_getR dX4_leader_44 flX4_195 (by decide) rfl (sf_3_0 hx0) ?_
      refine g_iload 6 dX4_leader_47 rfl ?_
      obtain ⟨c4, h⟩ := chk_some h
      refine g_iald dX4_leader_49 (sf_1_1 (sf_3_0 hx0)) c4.1 c4.2 ?_
      refine g_nmI (fun v5 ev5 => ?_)
      replace h := nm_s ev5 h
      refine g_istore (ls' := [(8, XI v5), (0, XR x0), (1, XR x1), (3, XI x3), (4, XI x4), (5, XI x5), (6, XI x6), (7, XI x7)]) dX4_leader_50 (by decide) rfl ?_
      refine g_iload 4 dX4_leader_52 rfl ?_
      refine g_iload 0 dX4_leader_54 rfl ?_
      refine g_pc (pc' := 56) rfl ?_
      refine g_ishr dX4_leader_56 ?_
      refine g_iconst (v := 1) dX4_leader_57 rfl (i32l rfl) ?_
      refine g_iand dX4_leader_58 ?_
      obtain ⟨t11, ht11, h⟩ := bnd_some h
      have Kt11 : Go X mX4_leader d 83 [(0, XR x0), (1, XR x1), (3, XI x3), (4, XI x4), (5, XI t11), (6, XI x6), (7, XI x7)] [] M Post := by
        obtain ⟨c17, h⟩ := chk_some h
        refine g_iinc (ls' := [(7, XI (x7 + 1)), (0, XR x0), (1, XR x1), (3, XI x3), (4, XI x4), (5, XI t11), (6, XI x6)]) 6 dX4_leader_83 rfl rfl c17 (by decide) rfl ?_
        refine g_goto (tgt := 28) dX4_leader_86 (by decide) ?_
        exact g_sub [1, 2, 3, 4, 5, 6, 0] rfl (ih _ _ _ _ h K)
      refine g_if_eq (tgt := 83) dX4_leader_59 (by decide) (fun b12 => ?_) (fun b12 => ?_)
      · replace ht11 := ifp b12 ht11
        cases ht11
        exact g_sub [1, 2, 3, 4, 5, 6, 7] rfl Kt11
      · replace ht11 := ifn b12 ht11
        refine g_pc (pc' := 62) rfl ?_
        refine g_iload 5 dX4_leader_62 rfl ?_
        refine g_if_lt (tgt := 79) dX4_leader_64 (by decide) (fun b13 => ?_) (fun b13 => ?_)
        · replace ht11 := ifp b13 ht11
          refine g_iload 0 dX4_leader_79 rfl ?_
          refine g_istore (ls' := [(5, XI v5), (8, XI v5), (0, XR x0), (1, XR x1), (3, XI x3), (4, XI x4), (6, XI x6), (7, XI x7)]) dX4_leader_81 (by decide) rfl ?_
          cases ht11
          exact g_sub [2, 3, 4, 5, 0, 6, 7] rfl Kt11
        · replace ht11 := ifn b13 ht11
          refine g_pc (pc' := 67) rfl ?_
          refine g_aload_n 2 dX4_leader_67 rfl ?_
          refine g_iload 0 dX4_leader_68 rfl ?_
          obtain ⟨c14, ht11⟩ := chk_some ht11
          refine g_lald dX4_leader_70 hx1 c14.1 c14.2 ?_
          refine g_aload_n 2 dX4_leader_71 rfl ?_
          refine g_iload 5 dX4_leader_72 rfl ?_
          obtain ⟨c15, ht11⟩ := chk_some ht11
          refine g_lald dX4_leader_74 hx1 c15.1 c15.2 ?_
          refine g_lcmp_le (tgt := 83) dX4_leader_75 dX4_leader_76 (by decide) (fun b16 => ?_) (fun b16 => ?_)
          · replace ht11 := ifp b16 ht11
            cases ht11
            exact g_sub [1, 2, 3, 4, 5, 6, 7] rfl Kt11
          · replace ht11 := ifn b16 ht11
            refine g_pc (pc' := 79) rfl ?_
            refine g_iload 0 dX4_leader_79 rfl ?_
            refine g_istore (ls' := [(5, XI v5), (8, XI v5), (0, XR x0), (1, XR x1), (3, XI x3), (4, XI x4), (6, XI x6), (7, XI x7)]) dX4_leader_81 (by decide) rfl ?_
            cases ht11
            exact g_sub [2, 3, 4, 5, 0, 6, 7] rfl Kt11
set_option maxHeartbeats 8000000 in
set_option maxRecDepth 20000 in
theorem lX4_leader_l9 {X : XC} {d : Nat} {Post : Option XV → Mem → Prop} {x0 : Nat} {x1 : Nat} {x3 : Int} (hx0 : Sh x0 = (13, 14)) (hx1 : Sh x1 = (2, 8)) : ∀ (n : Nat) (x4 x5 x6 : Int) (M : Mem) (t0 : Int × Int × Int × Mem), fX4_leader_l9 x0 x1 x3 n x4 x5 x6 M = some t0 → Go X mX4_leader d 111 [(5, XI t0.2.1)] [] t0.2.2.2 Post → Go X mX4_leader d 9 [(0, XR x0), (1, XR x1), (3, XI x3), (4, XI x4), (5, XI x5), (6, XI x6)] [] M Post := by
  intro n
  induction n with
  | zero => intro _ _ _ _ _ h; cases h
  | succ n ih =>
    intro x4 x5 x6 M t0 h K
    unfold fX4_leader_l9 at h
    refine g_iload 5 dX4_leader_9 rfl ?_
    refine g_iload_n 2 dX4_leader_11 rfl ?_
    refine g_icmp_gt (tgt := 111) dX4_leader_12 (by decide) (fun b1 => ?_) (fun b1 => ?_)
    · replace h := ifp b1 h
      cases h
      exact g_sub [4] rfl K
    · replace h := ifn b1 h
      refine g_pc (pc' := 15) rfl ?_
      refine g_iload 5 dX4_leader_15 rfl ?_
      refine g_bip dX4_leader_17 rfl ?_
      refine g_icmp_ge (tgt := 111) dX4_leader_19 (by decide) (fun b2 => ?_) (fun b2 => ?_)
      · replace h := ifp b2 h
        cases h
        exact g_sub [4] rfl K
      · replace h := ifn b2 h
        refine g_pc (pc' := 22) rfl ?_
        refine g_iconst (v := -1) dX4_leader_22 rfl (i32l rfl) ?_
        refine g_istore (ls' := [(5, XI (-1)), (0, XR x0), (1, XR x1), (3, XI x3), (4, XI x4), (6, XI x6)]) dX4_leader_23 (by decide) rfl ?_
        refine g_iconst (v := 0) dX4_leader_25 rfl (i32l rfl) ?_
        refine g_istore (ls' := [(7, XI 0), (5, XI (-1)), (0, XR x0), (1, XR x1), (3, XI x3), (4, XI x4), (6, XI x6)]) dX4_leader_26 (by decide) rfl ?_
        obtain ⟨z18, hz18, h⟩ := bnd_some h
        refine g_sub (ls' := [(0, XR x0), (1, XR x1), (3, XI x3), (4, XI x4), (5, XI (-1)), (6, XI x6), (7, XI 0)]) [2, 3, 4, 5, 1, 6, 0] rfl ?_
        refine lX4_leader_l28 hx0 hx1 1000 _ _ _ _ hz18 ?_
        refine g_iload 4 dX4_leader_89 rfl ?_
        obtain ⟨t21, ht21, h⟩ := bnd_some h
        have Kt21 : Go X mX4_leader d 105 [(0, XR x0), (1, XR x1), (3, XI x3), (4, XI t21), (5, XI z18.1), (6, XI x6)] [] z18.2.2 Post := by
          obtain ⟨c24, h⟩ := chk_some h
          refine g_iinc (ls' := [(6, XI (x6 + 1)), (0, XR x0), (1, XR x1), (3, XI x3), (4, XI t21), (5, XI z18.1)]) 5 dX4_leader_105 rfl rfl c24 (by decide) rfl ?_
          refine g_goto (tgt := 9) dX4_leader_108 (by decide) ?_
          exact g_sub [1, 2, 3, 4, 5, 0] rfl (ih _ _ _ _ _ h K)
        refine g_if_lt (tgt := 105) dX4_leader_91 (by decide) (fun b22 => ?_) (fun b22 => ?_)
        · replace ht21 := ifp b22 ht21
          cases ht21
          exact g_sub [0, 1, 2, 3, 4, 5] rfl Kt21
        · replace ht21 := ifn b22 ht21
          refine g_pc (pc' := 94) rfl ?_
          refine g_iload 3 dX4_leader_94 rfl ?_
          refine g_iconst (v := 1) dX4_leader_96 rfl (i32l rfl) ?_
          refine g_iload 4 dX4_leader_97 rfl ?_
          refine g_ishl dX4_leader_99 ?_
          refine g_iconst (v := -1) dX4_leader_100 rfl (i32l rfl) ?_
          refine g_ixor dX4_leader_101 ?_
          refine g_iand dX4_leader_102 ?_
          refine g_nmI (fun v23 ev23 => ?_)
          replace ht21 := nm_s ev23 ht21
          refine g_istore (ls' := [(4, XI v23), (0, XR x0), (1, XR x1), (3, XI x3), (5, XI z18.1), (6, XI x6)]) dX4_leader_103 (by decide) rfl ?_
          refine g_pc (pc' := 105) rfl ?_
          cases ht21
          exact g_sub [1, 2, 3, 0, 4, 5] rfl Kt21
set_option maxHeartbeats 8000000 in
set_option maxRecDepth 20000 in
theorem kX4_leader {X : XC} {d : Nat} {x0 : Nat} {x1 : Nat} {x2 : Int} {x3 : Int} (hx0 : Sh x0 = (13, 14)) (hx1 : Sh x1 = (2, 8)) {M : Mem} {q : Int × Mem} (h : fX4_leader x0 x1 x2 x3 M = some q) : Ct X mX4_leader d [XR x0, XR x1, XI x2, XI x3] M (pI q) := by
  unfold fX4_leader at h
  refine ct_go (by decide +kernel) (Nat.le_of_ble_eq_true rfl) (ls := [(0, XR x0), (1, XR x1), (2, XI x2), (3, XI x3)]) rfl ?_
  refine g_iload_n 2 dX4_leader_0 rfl ?_
  refine g_istore (ls' := [(4, XI x2), (0, XR x0), (1, XR x1), (2, XI x2), (3, XI x3)]) dX4_leader_1 (by decide) rfl ?_
  refine g_iconst (v := -1) dX4_leader_3 rfl (i32l rfl) ?_
  refine g_istore (ls' := [(5, XI (-1)), (4, XI x2), (0, XR x0), (1, XR x1), (2, XI x2), (3, XI x3)]) dX4_leader_4 (by decide) rfl ?_
  refine g_iconst (v := 0) dX4_leader_6 rfl (i32l rfl) ?_
  refine g_istore (ls' := [(6, XI 0), (5, XI (-1)), (4, XI x2), (0, XR x0), (1, XR x1), (2, XI x2), (3, XI x3)]) dX4_leader_7 (by decide) rfl ?_
  obtain ⟨z25, hz25, h⟩ := bnd_some h
  refine g_sub (ls' := [(0, XR x0), (1, XR x1), (3, XI x3), (4, XI x2), (5, XI (-1)), (6, XI 0)]) [3, 4, 6, 2, 1, 0] rfl ?_
  refine lX4_leader_l9 hx0 hx1 1000 _ _ _ _ _ hz25 ?_
  refine g_iload 0 dX4_leader_111 rfl ?_
  cases h
  exact g_ireturn dX4_leader_113 rfl ⟨rfl, rfl⟩
set_option maxHeartbeats 8000000 in
set_option maxRecDepth 20000 in
theorem lX4_elect_l13 {X : XC} {d : Nat} {Post : Option XV → Mem → Prop} {x0 : Nat} {x1 : Nat} {x2 : Int} (hx0 : Sh x0 = (13, 14)) (hx1 : Sh x1 = (12, 9)) : ∀ (n : Nat) (x3 : Int) (M : Mem) (z : (Int × Mem) ⊕ (Int × Mem)), fX4_elect_l13 x0 x1 x2 n x3 M = some z → (∀ r, z = .inl r → Post none r.2) → Go X mX4_elect (d + 1) 13 [(0, XR x0), (1, XR x1), (2, XI x2), (3, XI x3)] [] M Post := by
  intro n
  induction n with
  | zero => intro _ _ _ h; cases h
  | succ n ih =>
    intro x3 M z h K1
    unfold fX4_elect_l13 at h
    refine g_iload_n 3 dX4_elect_13 rfl ?_
    refine g_if_le (tgt := 125) dX4_elect_14 (by decide) (fun b3 => ?_) (fun b3 => ?_)
    · replace h := ifp b3 h
      cases h
      exact g_return dX4_elect_125 rfl (K1 (0, M) rfl)
    · replace h := ifn b3 h
      refine g_pc (pc' := 17) rfl ?_
      refine g_aload_n 0 dX4_elect_17 rfl ?_
      refine g_aload_n 1 dX4_elect_18 rfl ?_
      refine g_getR dX4_elect_19 flX4_178 (by decide) rfl hx1 ?_
      refine g_iload_n 2 dX4_elect_22 rfl ?_
      refine g_aload_n 1 dX4_elect_23 rfl ?_
      refine g_getI dX4_elect_24 flX4_78 (by decide) rfl hx1 ?_
      refine g_iconst (v := -1) dX4_elect_27 rfl (i32l rfl) ?_
      refine g_ixor dX4_elect_28 ?_
      refine g_pc (pc' := 29) rfl ?_
      refine g_iand dX4_elect_29 ?_
      refine g_iconst (v := 0) dX4_elect_30 rfl (i32l rfl) ?_
      obtain ⟨q4, hq4, h⟩ := bnd_some h
      refine v_I (ci := 3) (as := [XR (x1 + 8), XI (bAnd x2 (bXor (M x1 2) (-1))), XI 0]) dX4_elect_31 mlX4_180 mdX4_leader mvX4_leader rfl hx0 rfl (Nat.le_of_ble_eq_true rfl) (kX4_leader hx0 (sf_2_7 hx1) hq4) rfl ?_
      refine g_nmI (fun v5 ev5 => ?_)
      replace h := nm_s ev5 h
      refine g_istore (ls' := [(4, XI v5), (0, XR x0), (1, XR x1), (2, XI x2), (3, XI x3)]) dX4_elect_34 (by decide) rfl ?_
      refine g_iload 0 dX4_elect_36 rfl ?_
      refine g_if_lt (tgt := 53) dX4_elect_38 (by decide) (fun b6 => ?_) (fun b6 => ?_)
      · replace h := ifp b6 h
        cases h
        exact g_return dX4_elect_53 rfl (K1 (0, q4.2) rfl)
      · replace h := ifn b6 h
        refine g_pc (pc' := 41) rfl ?_
        refine g_aload_n 1 dX4_elect_41 rfl ?_
        refine g_getI dX4_elect_42 flX4_28 (by decide) rfl hx0 ?_
        refine g_aload_n 1 dX4_elect_45 rfl ?_
        refine g_getR dX4_elect_46 flX4_25 (by decide) rfl hx0 ?_
        refine g_alenV 8 dX4_elect_49 (sf_3_4 hx0) rfl rfl rfl ?_
        refine g_icmp_lt (tgt := 54) dX4_elect_50 (by decide) (fun b7 => ?_) (fun b7 => ?_)
        · replace h := ifp b7 h
          refine g_aload_n 2 dX4_elect_54 rfl ?_
          refine g_dupR dX4_elect_55 ?_
          refine g_getI dX4_elect_56 flX4_78 (by decide) rfl hx1 ?_
          refine g_iconst (v := 1) dX4_elect_59 rfl (i32l rfl) ?_
          refine g_iload 0 dX4_elect_60 rfl ?_
          refine g_ishl dX4_elect_62 ?_
          refine g_ior dX4_elect_63 ?_
          refine g_putI dX4_elect_64 flX4_78 (by decide) rfl hx1 ?_
          refine g_nmM (fun M8 eM8 => ?_)
          replace h := nm_s eM8 h
          refine g_pc (pc' := 67) rfl ?_
          refine g_aload_n 1 dX4_elect_67 rfl ?_
          refine g_getR dX4_elect_68 flX4_25 (by decide) rfl hx0 ?_
          refine g_aload_n 1 dX4_elect_71 rfl ?_
          refine g_getI dX4_elect_72 flX4_28 (by decide) rfl hx0 ?_
          refine g_iload 0 dX4_elect_75 rfl ?_
          obtain ⟨c9, h⟩ := chk_some h
          refine g_iast dX4_elect_77 (sf_3_4 hx0) c9.1 c9.2 ?_
          refine g_nmM (fun M10 eM10 => ?_)
          replace h := nm_s eM10 h
          refine g_aload_n 1 dX4_elect_78 rfl ?_
          refine g_dupR dX4_elect_79 ?_
          refine g_getI dX4_elect_80 flX4_28 (by decide) rfl hx0 ?_
          refine g_pc (pc' := 83) rfl ?_
          refine g_iconst (v := 1) dX4_elect_83 rfl (i32l rfl) ?_
          obtain ⟨c11, h⟩ := chk_some h
          refine g_iadd dX4_elect_84 rfl c11 ?_
          refine g_putI dX4_elect_85 flX4_28 (by decide) rfl hx0 ?_
          refine g_nmM (fun M12 eM12 => ?_)
          replace h := nm_s eM12 h
          refine g_aload_n 1 dX4_elect_88 rfl ?_
          refine g_dupR dX4_elect_89 ?_
          refine g_getI dX4_elect_90 flX4_32 (by decide) rfl hx0 ?_
          refine g_iconst (v := 1) dX4_elect_93 rfl (i32l rfl) ?_
          obtain ⟨c13, h⟩ := chk_some h
          refine g_isub dX4_elect_94 rfl c13 ?_
          refine g_putI dX4_elect_95 flX4_32 (by decide) rfl hx0 ?_
          refine g_nmM (fun M14 eM14 => ?_)
          replace h := nm_s eM14 h
          refine g_pc (pc' := 98) rfl ?_
          refine g_aload_n 1 dX4_elect_98 rfl ?_
          refine g_getR dX4_elect_99 flX4_18 (by decide) rfl hx0 ?_
          refine g_iload 0 dX4_elect_102 rfl ?_
          refine g_iconst (v := 2) dX4_elect_104 rfl (i32l rfl) ?_
          obtain ⟨c15, h⟩ := chk_some h
          refine g_iast dX4_elect_105 (sf_3_2 hx0) c15.1 c15.2 ?_
          refine g_nmM (fun M16 eM16 => ?_)
          replace h := nm_s eM16 h
          refine g_aload_n 1 dX4_elect_106 rfl ?_
          refine g_getR dX4_elect_107 flX4_22 (by decide) rfl hx0 ?_
          refine g_iload 0 dX4_elect_110 rfl ?_
          refine g_aload_n 1 dX4_elect_112 rfl ?_
          refine g_pc (pc' := 113) rfl ?_
          refine g_getI dX4_elect_113 flX4_35 (by decide) rfl hx0 ?_
          refine g_iconst (v := 1) dX4_elect_116 rfl (i32l rfl) ?_
          obtain ⟨c17, h⟩ := chk_some h
          refine g_isub dX4_elect_117 rfl c17 ?_
          obtain ⟨c18, h⟩ := chk_some h
          refine g_iast dX4_elect_118 (sf_3_3 hx0) c18.1 c18.2 ?_
          refine g_nmM (fun M19 eM19 => ?_)
          replace h := nm_s eM19 h
          obtain ⟨c20, h⟩ := chk_some h
          refine g_iinc (ls' := [(3, XI (x3 + (-1))), (4, XI v5), (0, XR x0), (1, XR x1), (2, XI x2)]) 4 dX4_elect_119 rfl rfl c20 (by decide) rfl ?_
          refine g_goto (tgt := 13) dX4_elect_122 (by decide) ?_
          exact g_sub [2, 3, 4, 0] rfl (ih _ _ _ h K1)
        · replace h := ifn b7 h
          refine g_pc (pc' := 53) rfl ?_
          cases h
          exact g_return dX4_elect_53 rfl (K1 (0, q4.2) rfl)
set_option maxHeartbeats 8000000 in
set_option maxRecDepth 20000 in
theorem kX4_elect {X : XC} {d : Nat} {x0 : Nat} {x1 : Nat} {x2 : Int} (hx0 : Sh x0 = (13, 14)) (hx1 : Sh x1 = (12, 9)) {M : Mem} {q : Int × Mem} (h : fX4_elect x0 x1 x2 M = some q) : Ct X mX4_elect (d + 1) [XR x0, XR x1, XI x2] M (pV q) := by
  unfold fX4_elect at h
  refine ct_go (by decide +kernel) (Nat.le_of_ble_eq_true rfl) (ls := [(0, XR x0), (1, XR x1), (2, XI x2)]) rfl ?_
  refine g_aload_n 0 dX4_elect_0 rfl ?_
  refine g_getR dX4_elect_1 flX4_61 (by decide) rfl hx0 ?_
  refine g_getI dX4_elect_4 flX4_73 (by decide) rfl (sf_3_0 hx0) ?_
  refine g_aload_n 0 dX4_elect_7 rfl ?_
  refine g_getI dX4_elect_8 flX4_28 (by decide) rfl hx0 ?_
  obtain ⟨c1, h⟩ := chk_some h
  refine g_isub dX4_elect_11 rfl c1 ?_
  refine g_nmI (fun v2 ev2 => ?_)
  replace h := nm_s ev2 h
  refine g_istore_n (ls' := [(3, XI v2), (0, XR x0), (1, XR x1), (2, XI x2)]) dX4_elect_12 (by decide) rfl ?_
  obtain ⟨z21, hz21, rz21, h⟩ := lr_some h
  refine g_sub (ls' := [(0, XR x0), (1, XR x1), (2, XI x2), (3, XI v2)]) [1, 2, 3, 0] rfl ?_
  refine lX4_elect_l13 hx0 hx1 1000 _ _ _ hz21 (fun r e => ?_)
  have rz21 := rz21 r e
  subst rz21
  exact ⟨rfl, rfl⟩
set_option maxHeartbeats 8000000 in
set_option maxRecDepth 20000 in
theorem kX4_fill {X : XC} {d : Nat} {x0 : Nat} {x1 : Nat} (hx0 : Sh x0 = (13, 14)) (hx1 : Sh x1 = (12, 9)) {M : Mem} {q : Int × Mem} (h : fX4_fill x0 x1 M = some q) : Ct X mX4_fill (d + 3) [XR x0, XR x1] M (pV q) := by
  unfold fX4_fill at h
  refine ct_go (by decide +kernel) (Nat.le_of_ble_eq_true rfl) (ls := [(0, XR x0), (1, XR x1)]) rfl ?_
  refine g_aload_n 0 dX4_fill_0 rfl ?_
  obtain ⟨q1, hq1, h⟩ := bnd_some h
  refine v_V (ci := 3) (as := []) dX4_fill_1 mlX4_101 mdX4_workOut mvX4_workOut rfl hx0 rfl (Nat.le_of_ble_eq_true rfl) (kX4_workOut hx0 hq1) rfl ?_
  refine g_aload_n 0 dX4_fill_4 rfl ?_
  refine g_aload_n 1 dX4_fill_5 rfl ?_
  refine g_iconst (v := 0) dX4_fill_6 rfl (i32l rfl) ?_
  refine g_lconst (v := 0) dX4_fill_7 rfl (i64l rfl) ?_
  obtain ⟨q2, hq2, h⟩ := bnd_some h
  refine v_V (ci := 3) (as := [XR x1, XI 0, XL 0]) dX4_fill_8 mlX4_104 mdX4_note mvX4_note rfl hx0 rfl (Nat.le_of_ble_eq_true rfl) (kX4_note hx0 hx1 hq2) rfl ?_
  refine g_aload_n 0 dX4_fill_11 rfl ?_
  refine g_pc (pc' := 12) rfl ?_
  refine g_aload_n 1 dX4_fill_12 rfl ?_
  refine g_aload_n 0 dX4_fill_13 rfl ?_
  refine g_iconst (v := 1) dX4_fill_14 rfl (i32l rfl) ?_
  obtain ⟨q3, hq3, h⟩ := bnd_some h
  refine v_I (ci := 3) (as := [XI 1]) dX4_fill_15 mlX4_108 mdX4_whoIs mvX4_whoIs rfl hx0 rfl (Nat.le_of_ble_eq_true rfl) (kX4_whoIs hx0 hq3) rfl ?_
  obtain ⟨q4, hq4, h⟩ := bnd_some h
  refine v_V (ci := 3) (as := [XR x1, XI q3.1]) dX4_fill_18 mlX4_112 mdX4_elect mvX4_elect rfl hx0 rfl (Nat.le_of_ble_eq_true rfl) (kX4_elect hx0 hx1 hq4) rfl ?_
  cases h
  exact g_return dX4_fill_21 rfl ⟨rfl, rfl⟩
set_option maxHeartbeats 8000000 in
set_option maxRecDepth 20000 in
theorem lX4_turnKeeps_l2 {X : XC} {d : Nat} {Post : Option XV → Mem → Prop} {x0 : Nat} (hx0 : Sh x0 = (13, 14)) : ∀ (n : Nat) (x1 : Int) (M : Mem) (t0 : Int × Mem), fX4_turnKeeps_l2 x0 n x1 M = some t0 → Go X mX4_turnKeeps (d + 1) 71 [] [] t0.2 Post → Go X mX4_turnKeeps (d + 1) 2 [(0, XR x0), (1, XI x1)] [] M Post := by
  intro n
  induction n with
  | zero => intro _ _ _ h; cases h
  | succ n ih =>
    intro x1 M t0 h K
    unfold fX4_turnKeeps_l2 at h
    refine g_iload_n 1 dX4_turnKeeps_2 rfl ?_
    refine g_aload_n 0 dX4_turnKeeps_3 rfl ?_
    refine g_getR dX4_turnKeeps_4 flX4_61 (by decide) rfl hx0 ?_
    refine g_getI dX4_turnKeeps_7 flX4_92 (by decide) rfl (sf_3_0 hx0) ?_
    refine g_icmp_ge (tgt := 71) dX4_turnKeeps_10 (by decide) (fun b1 => ?_) (fun b1 => ?_)
    · replace h := ifp b1 h
      cases h
      exact g_sub [] rfl K
    · replace h := ifn b1 h
      refine g_pc (pc' := 13) rfl ?_
      refine g_aload_n 0 dX4_turnKeeps_13 rfl ?_
      refine g_getR dX4_turnKeeps_14 flX4_48 (by decide) rfl hx0 ?_
      refine g_iload_n 1 dX4_turnKeeps_17 rfl ?_
      obtain ⟨c2, h⟩ := chk_some h
      refine g_lald dX4_turnKeeps_18 (sf_3_10 hx0) c2.1 c2.2 ?_
      refine g_nmL (fun v3 ev3 => ?_)
      replace h := nm_s ev3 h
      refine g_lstore_n (ls' := [(2, XL v3), (0, XR x0), (1, XI x1)]) dX4_turnKeeps_19 (by decide) rfl ?_
      refine g_aload_n 1 dX4_turnKeeps_20 rfl ?_
      refine g_getR dX4_turnKeeps_21 flX4_18 (by decide) rfl hx0 ?_
      refine g_iload_n 2 dX4_turnKeeps_24 rfl ?_
      refine g_pc (pc' := 25) rfl ?_
      obtain ⟨c4, h⟩ := chk_some h
      refine g_iald dX4_turnKeeps_25 (sf_3_2 hx0) c4.1 c4.2 ?_
      refine g_iconst (v := 2) dX4_turnKeeps_26 rfl (i32l rfl) ?_
      obtain ⟨t14, ht14, h⟩ := bnd_some h
      have Kt14 : Go X mX4_turnKeeps (d + 1) 65 [(0, XR x0), (1, XI x1)] [] t14 Post := by
        obtain ⟨c24, h⟩ := chk_some h
        refine g_iinc (ls' := [(1, XI (x1 + 1)), (0, XR x0)]) 1 dX4_turnKeeps_65 rfl rfl c24 (by decide) rfl ?_
        refine g_goto (tgt := 2) dX4_turnKeeps_68 (by decide) ?_
        exact g_sub [1, 0] rfl (ih _ _ _ h K)
      refine g_icmp_ne (tgt := 65) dX4_turnKeeps_27 (by decide) (fun b15 => ?_) (fun b15 => ?_)
      · replace ht14 := ifn b15 ht14
        cases ht14
        exact g_sub [1, 2] rfl Kt14
      · replace ht14 := ifp b15 ht14
        refine g_pc (pc' := 30) rfl ?_
        refine g_lload_n 0 dX4_turnKeeps_30 rfl ?_
        refine g_lconst (v := 0) dX4_turnKeeps_31 rfl (i64l rfl) ?_
        refine g_lcmp_le (tgt := 65) dX4_turnKeeps_32 dX4_turnKeeps_33 (by decide) (fun b16 => ?_) (fun b16 => ?_)
        · replace ht14 := ifp b16 ht14
          cases ht14
          exact g_sub [1, 2] rfl Kt14
        · replace ht14 := ifn b16 ht14
          refine g_pc (pc' := 36) rfl ?_
          refine g_aload_n 1 dX4_turnKeeps_36 rfl ?_
          refine g_getR dX4_turnKeeps_37 flX4_44 (by decide) rfl hx0 ?_
          refine g_iload_n 2 dX4_turnKeeps_40 rfl ?_
          refine g_ldc2 (v := 1000000) dX4_turnKeeps_41 csX4_99 (by decide +kernel) (i64l rfl) ?_
          refine g_aload_n 1 dX4_turnKeeps_44 rfl ?_
          refine g_getR dX4_turnKeeps_45 flX4_44 (by decide) rfl hx0 ?_
          refine g_iload_n 2 dX4_turnKeeps_48 rfl ?_
          obtain ⟨c17, ht14⟩ := chk_some ht14
          refine g_lald dX4_turnKeeps_49 (sf_3_9 hx0) c17.1 c17.2 ?_
          refine g_pc (pc' := 50) rfl ?_
          refine g_aload_n 1 dX4_turnKeeps_50 rfl ?_
          refine g_getJ dX4_turnKeeps_51 flX4_51 (by decide) rfl hx0 ?_
          obtain ⟨c18, ht14⟩ := chk_some ht14
          refine g_lmul dX4_turnKeeps_54 rfl c18 ?_
          refine g_lload_n 0 dX4_turnKeeps_55 rfl ?_
          obtain ⟨c19, ht14⟩ := chk_some ht14
          refine g_ladd dX4_turnKeeps_56 rfl c19 ?_
          refine g_lconst (v := 1) dX4_turnKeeps_57 rfl (i64l rfl) ?_
          obtain ⟨c20, ht14⟩ := chk_some ht14
          refine g_lsub dX4_turnKeeps_58 rfl c20 ?_
          refine g_lload_n 0 dX4_turnKeeps_59 rfl ?_
          obtain ⟨c21, ht14⟩ := chk_some ht14
          refine g_ldiv dX4_turnKeeps_60 c21.1 c21.2 rfl ?_
          refine g_pc (pc' := 61) rfl ?_
          refine g_minL dX4_turnKeeps_61 mlX4_136 (Nat.le_of_ble_eq_true rfl) ?_
          obtain ⟨c22, ht14⟩ := chk_some ht14
          refine g_last dX4_turnKeeps_64 (sf_3_9 hx0) c22.1 c22.2 ?_
          refine g_nmM (fun M23 eM23 => ?_)
          replace ht14 := nm_s eM23 ht14
          cases ht14
          exact g_sub [1, 2] rfl Kt14
set_option maxHeartbeats 8000000 in
set_option maxRecDepth 20000 in
theorem kX4_turnKeeps {X : XC} {d : Nat} {x0 : Nat} (hx0 : Sh x0 = (13, 14)) {M : Mem} {q : Int × Mem} (h : fX4_turnKeeps x0 M = some q) : Ct X mX4_turnKeeps (d + 1) [XR x0] M (pV q) := by
  unfold fX4_turnKeeps at h
  refine ct_go (by decide +kernel) (Nat.le_of_ble_eq_true rfl) (ls := [(0, XR x0)]) rfl ?_
  refine g_iconst (v := 0) dX4_turnKeeps_0 rfl (i32l rfl) ?_
  refine g_istore_n (ls' := [(1, XI 0), (0, XR x0)]) dX4_turnKeeps_1 (by decide) rfl ?_
  obtain ⟨z25, hz25, h⟩ := bnd_some h
  refine g_sub (ls' := [(0, XR x0), (1, XI 0)]) [1, 0] rfl ?_
  refine lX4_turnKeeps_l2 hx0 1000 _ _ _ hz25 ?_
  cases h
  exact g_return dX4_turnKeeps_71 rfl ⟨rfl, rfl⟩
end
