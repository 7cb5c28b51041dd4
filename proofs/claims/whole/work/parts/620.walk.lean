section
set_option maxHeartbeats 8000000 in
set_option maxRecDepth 20000 in
theorem lX9_goesRather_l45 {X : XC} {d : Nat} {Post : Option XV → Mem → Prop} {x0 : Nat} {x1 : Int} {x2 : Int} (hx0 : Sh x0 = (18, 69)) : ∀ (n : Nat) (x3 : Int) (M : Mem) (z : (Int × Mem) ⊕ (Int × Mem)), fX9_goesRather_l45 x0 x1 x2 n x3 M = some z → (∀ r, z = .inl r → Post (some (XI r.1)) r.2) → Go X mX9_goesRather (d + 1) 45 [(0, XR x0), (1, XI x1), (2, XI x2), (3, XI x3)] [] M Post := by
  intro n
  induction n with
  | zero => intro _ _ _ h; cases h
  | succ n ih =>
    intro x3 M z h K1
    unfold fX9_goesRather_l45 at h
    refine g_iload_n 3 dX9_goesRather_45 rfl ?_
    refine g_if_lt (tgt := 103) dX9_goesRather_46 (by decide) (fun b6 => ?_) (fun b6 => ?_)
    · replace h := ifp b6 h
      refine g_aload_n 0 dX9_goesRather_103 rfl ?_
      refine g_iload_n 1 dX9_goesRather_104 rfl ?_
      obtain ⟨q7, hq7, h⟩ := bnd_some h
      refine v_I (ci := 8) (as := [XI x1]) dX9_goesRather_105 mlX9_245 mdX9_lotOf mvX9_lotOf rfl hx0 rfl (Nat.le_of_ble_eq_true rfl) (kX9_lotOf hx0 hq7) rfl ?_
      refine g_aload_n 0 dX9_goesRather_108 rfl ?_
      refine g_iload_n 2 dX9_goesRather_109 rfl ?_
      obtain ⟨q8, hq8, h⟩ := bnd_some h
      refine v_I (ci := 8) (as := [XI x2]) dX9_goesRather_110 mlX9_245 mdX9_lotOf mvX9_lotOf rfl hx0 rfl (Nat.le_of_ble_eq_true rfl) (kX9_lotOf hx0 hq8) rfl ?_
      obtain ⟨t10, ht10, h⟩ := bnd_some h
      have Kt10 : Go X mX9_goesRather (d + 1) 121 [] [XI t10] q8.2 Post := by
        obtain ⟨cz, h⟩ := chk_some h
        cases h
        exact g_zreturn dX9_goesRather_121 rfl cz (K1 (t10, q8.2) rfl)
      refine g_icmp_le (tgt := 120) dX9_goesRather_113 (by decide) (fun b11 => ?_) (fun b11 => ?_)
      · replace ht10 := ifp b11 ht10
        refine g_iconst (v := 0) dX9_goesRather_120 rfl (i32l rfl) ?_
        cases ht10
        exact g_sub [] rfl Kt10
      · replace ht10 := ifn b11 ht10
        refine g_pc (pc' := 116) rfl ?_
        refine g_iconst (v := 1) dX9_goesRather_116 rfl (i32l rfl) ?_
        refine g_goto (tgt := 121) dX9_goesRather_117 (by decide) ?_
        cases ht10
        exact g_sub [] rfl Kt10
    · replace h := ifn b6 h
      refine g_pc (pc' := 49) rfl ?_
      refine g_aload_n 0 dX9_goesRather_49 rfl ?_
      refine g_getR dX9_goesRather_50 flX9_78 (by decide) rfl hx0 ?_
      refine g_bip dX9_goesRather_53 rfl ?_
      refine g_iload_n 3 dX9_goesRather_55 rfl ?_
      obtain ⟨c12, h⟩ := chk_some h
      refine g_imul dX9_goesRather_56 rfl c12 ?_
      refine g_iload_n 1 dX9_goesRather_57 rfl ?_
      obtain ⟨c13, h⟩ := chk_some h
      refine g_iadd dX9_goesRather_58 rfl c13 ?_
      obtain ⟨c14, h⟩ := chk_some h
      refine g_lald dX9_goesRather_59 (sf_8_33 hx0) c14.1 c14.2 ?_
      refine g_pc (pc' := 60) rfl ?_
      refine g_nmL (fun v15 ev15 => ?_)
      replace h := nm_s ev15 h
      refine g_lstore (ls' := [(4, XL v15), (0, XR x0), (1, XI x1), (2, XI x2), (3, XI x3)]) dX9_goesRather_60 (by decide) rfl ?_
      refine g_aload_n 1 dX9_goesRather_62 rfl ?_
      refine g_getR dX9_goesRather_63 flX9_78 (by decide) rfl hx0 ?_
      refine g_bip dX9_goesRather_66 rfl ?_
      refine g_iload_n 4 dX9_goesRather_68 rfl ?_
      obtain ⟨c16, h⟩ := chk_some h
      refine g_imul dX9_goesRather_69 rfl c16 ?_
      refine g_iload_n 3 dX9_goesRather_70 rfl ?_
      obtain ⟨c17, h⟩ := chk_some h
      refine g_iadd dX9_goesRather_71 rfl c17 ?_
      obtain ⟨c18, h⟩ := chk_some h
      refine g_lald dX9_goesRather_72 (sf_8_33 hx0) c18.1 c18.2 ?_
      refine g_pc (pc' := 73) rfl ?_
      refine g_nmL (fun v19 ev19 => ?_)
      replace h := nm_s ev19 h
      refine g_lstore (ls' := [(6, XL v19), (4, XL v15), (0, XR x0), (1, XI x1), (2, XI x2), (3, XI x3)]) dX9_goesRather_73 (by decide) rfl ?_
      refine g_lload 1 dX9_goesRather_75 rfl ?_
      refine g_lload 0 dX9_goesRather_77 rfl ?_
      refine g_lcmp_eq (tgt := 97) dX9_goesRather_79 dX9_goesRather_80 (by decide) (fun b20 => ?_) (fun b20 => ?_)
      · replace h := ifp b20 h
        obtain ⟨c21, h⟩ := chk_some h
        refine g_iinc (ls' := [(3, XI (x3 + (-1))), (6, XL v19), (4, XL v15), (0, XR x0), (1, XI x1), (2, XI x2)]) 5 dX9_goesRather_97 rfl rfl c21 (by decide) rfl ?_
        refine g_goto (tgt := 45) dX9_goesRather_100 (by decide) ?_
        exact g_sub [3, 4, 5, 0] rfl (ih _ _ _ h K1)
      · replace h := ifn b20 h
        refine g_pc (pc' := 83) rfl ?_
        refine g_lload 1 dX9_goesRather_83 rfl ?_
        refine g_lload 0 dX9_goesRather_85 rfl ?_
        obtain ⟨t23, ht23, h⟩ := bnd_some h
        have Kt23 : Go X mX9_goesRather (d + 1) 96 [] [XI t23] M Post := by
          obtain ⟨cz, h⟩ := chk_some h
          cases h
          exact g_zreturn dX9_goesRather_96 rfl cz (K1 (t23, M) rfl)
        refine g_lcmp_ge (tgt := 95) dX9_goesRather_87 dX9_goesRather_88 (by decide) (fun b24 => ?_) (fun b24 => ?_)
        · replace ht23 := ifp b24 ht23
          refine g_iconst (v := 0) dX9_goesRather_95 rfl (i32l rfl) ?_
          cases ht23
          exact g_sub [] rfl Kt23
        · replace ht23 := ifn b24 ht23
          refine g_pc (pc' := 91) rfl ?_
          refine g_iconst (v := 1) dX9_goesRather_91 rfl (i32l rfl) ?_
          refine g_goto (tgt := 96) dX9_goesRather_92 (by decide) ?_
          cases ht23
          exact g_sub [] rfl Kt23
set_option maxHeartbeats 8000000 in
set_option maxRecDepth 20000 in
theorem kX9_goesRather {X : XC} {d : Nat} {x0 : Nat} {x1 : Int} {x2 : Int} (hx0 : Sh x0 = (18, 69)) {M : Mem} {q : Int × Mem} (h : fX9_goesRather x0 x1 x2 M = some q) : Ct X mX9_goesRather (d + 1) [XR x0, XI x1, XI x2] M (pI q) := by
  unfold fX9_goesRather at h
  refine ct_go (by decide +kernel) (Nat.le_of_ble_eq_true rfl) (ls := [(0, XR x0), (1, XI x1), (2, XI x2)]) rfl ?_
  refine g_aload_n 0 dX9_goesRather_0 rfl ?_
  refine g_getR dX9_goesRather_1 flX9_74 (by decide) rfl hx0 ?_
  refine g_iload_n 1 dX9_goesRather_4 rfl ?_
  obtain ⟨c1, h⟩ := chk_some h
  refine g_lald dX9_goesRather_5 (sf_8_28 hx0) c1.1 c1.2 ?_
  refine g_aload_n 0 dX9_goesRather_6 rfl ?_
  refine g_getR dX9_goesRather_7 flX9_74 (by decide) rfl hx0 ?_
  refine g_iload_n 2 dX9_goesRather_10 rfl ?_
  obtain ⟨c2, h⟩ := chk_some h
  refine g_lald dX9_goesRather_11 (sf_8_28 hx0) c2.1 c2.2 ?_
  refine g_pc (pc' := 12) rfl ?_
  refine g_lcmp_eq (tgt := 38) dX9_goesRather_12 dX9_goesRather_13 (by decide) (fun b3 => ?_) (fun b3 => ?_)
  · replace h := ifp b3 h
    refine g_aload_n 0 dX9_goesRather_38 rfl ?_
    refine g_getI dX9_goesRather_39 flX9_248 (by decide) rfl hx0 ?_
    refine g_iconst (v := 1) dX9_goesRather_42 rfl (i32l rfl) ?_
    obtain ⟨c4, h⟩ := chk_some h
    refine g_isub dX9_goesRather_43 rfl c4 ?_
    refine g_nmI (fun v5 ev5 => ?_)
    replace h := nm_s ev5 h
    refine g_istore_n (ls' := [(3, XI v5), (0, XR x0), (1, XI x1), (2, XI x2)]) dX9_goesRather_44 (by decide) rfl ?_
    obtain ⟨z25, hz25, rz25, h⟩ := lr_some h
    refine g_sub (ls' := [(0, XR x0), (1, XI x1), (2, XI x2), (3, XI v5)]) [1, 2, 3, 0] rfl ?_
    refine lX9_goesRather_l45 hx0 1000 _ _ _ hz25 (fun r e => ?_)
    have rz25 := rz25 r e
    subst rz25
    exact ⟨rfl, rfl⟩
  · replace h := ifn b3 h
    refine g_pc (pc' := 16) rfl ?_
    refine g_aload_n 0 dX9_goesRather_16 rfl ?_
    refine g_getR dX9_goesRather_17 flX9_74 (by decide) rfl hx0 ?_
    refine g_iload_n 1 dX9_goesRather_20 rfl ?_
    obtain ⟨c26, h⟩ := chk_some h
    refine g_lald dX9_goesRather_21 (sf_8_28 hx0) c26.1 c26.2 ?_
    refine g_aload_n 0 dX9_goesRather_22 rfl ?_
    refine g_getR dX9_goesRather_23 flX9_74 (by decide) rfl hx0 ?_
    refine g_iload_n 2 dX9_goesRather_26 rfl ?_
    obtain ⟨c27, h⟩ := chk_some h
    refine g_lald dX9_goesRather_27 (sf_8_28 hx0) c27.1 c27.2 ?_
    refine g_pc (pc' := 28) rfl ?_
    obtain ⟨t29, ht29, h⟩ := bnd_some h
    have Kt29 : Go X mX9_goesRather (d + 1) 37 [] [XI t29] M (pI q) := by
      obtain ⟨cz, h⟩ := chk_some h
      cases h
      exact g_zreturn dX9_goesRather_37 rfl cz ⟨rfl, rfl⟩
    refine g_lcmp_ge (tgt := 36) dX9_goesRather_28 dX9_goesRather_29 (by decide) (fun b30 => ?_) (fun b30 => ?_)
    · replace ht29 := ifp b30 ht29
      refine g_iconst (v := 0) dX9_goesRather_36 rfl (i32l rfl) ?_
      cases ht29
      exact g_sub [] rfl Kt29
    · replace ht29 := ifn b30 ht29
      refine g_pc (pc' := 32) rfl ?_
      refine g_iconst (v := 1) dX9_goesRather_32 rfl (i32l rfl) ?_
      refine g_goto (tgt := 37) dX9_goesRather_33 (by decide) ?_
      cases ht29
      exact g_sub [] rfl Kt29
set_option maxHeartbeats 8000000 in
set_option maxRecDepth 20000 in
theorem lX9_worst_l4 {X : XC} {d : Nat} {Post : Option XV → Mem → Prop} {x0 : Nat} (hx0 : Sh x0 = (18, 69)) : ∀ (n : Nat) (x1 x2 : Int) (M : Mem) (t0 : Int × Int × Mem), fX9_worst_l4 x0 n x1 x2 M = some t0 → Go X mX9_worst (d + 2) 44 [(1, XI t0.1)] [] t0.2.2 Post → Go X mX9_worst (d + 2) 4 [(0, XR x0), (1, XI x1), (2, XI x2)] [] M Post := by
  intro n
  induction n with
  | zero => intro _ _ _ _ h; cases h
  | succ n ih =>
    intro x1 x2 M t0 h K
    unfold fX9_worst_l4 at h
    refine g_iload_n 2 dX9_worst_4 rfl ?_
    refine g_aload_n 0 dX9_worst_5 rfl ?_
    refine g_getI dX9_worst_6 flX9_167 (by decide) rfl hx0 ?_
    refine g_icmp_ge (tgt := 44) dX9_worst_9 (by decide) (fun b1 => ?_) (fun b1 => ?_)
    · replace h := ifp b1 h
      cases h
      exact g_sub [1] rfl K
    · replace h := ifn b1 h
      refine g_pc (pc' := 12) rfl ?_
      refine g_aload_n 0 dX9_worst_12 rfl ?_
      refine g_getR dX9_worst_13 flX9_62 (by decide) rfl hx0 ?_
      refine g_iload_n 2 dX9_worst_16 rfl ?_
      obtain ⟨c2, h⟩ := chk_some h
      refine g_iald dX9_worst_17 (sf_8_24 hx0) c2.1 c2.2 ?_
      refine g_iconst (v := 1) dX9_worst_18 rfl (i32l rfl) ?_
      obtain ⟨t7, ht7, h⟩ := bnd_some h
      have Kt7 : Go X mX9_worst (d + 2) 38 [(0, XR x0), (1, XI t7.1), (2, XI x2)] [] t7.2 Post := by
        obtain ⟨c12, h⟩ := chk_some h
        refine g_iinc (ls' := [(2, XI (x2 + 1)), (0, XR x0), (1, XI t7.1)]) 2 dX9_worst_38 rfl rfl c12 (by decide) rfl ?_
        refine g_goto (tgt := 4) dX9_worst_41 (by decide) ?_
        exact g_sub [1, 2, 0] rfl (ih _ _ _ _ h K)
      refine g_icmp_ne (tgt := 38) dX9_worst_19 (by decide) (fun b8 => ?_) (fun b8 => ?_)
      · replace ht7 := ifn b8 ht7
        cases ht7
        exact g_sub [0, 1, 2] rfl Kt7
      · replace ht7 := ifp b8 ht7
        refine g_pc (pc' := 22) rfl ?_
        refine g_iload_n 1 dX9_worst_22 rfl ?_
        refine g_iconst (v := -1) dX9_worst_23 rfl (i32l rfl) ?_
        refine g_icmp_eq (tgt := 36) dX9_worst_24 (by decide) (fun b9 => ?_) (fun b9 => ?_)
        · replace ht7 := ifp b9 ht7
          refine g_iload_n 2 dX9_worst_36 rfl ?_
          refine g_istore_n (ls' := [(1, XI x2), (0, XR x0), (2, XI x2)]) dX9_worst_37 (by decide) rfl ?_
          cases ht7
          exact g_sub [1, 0, 2] rfl Kt7
        · replace ht7 := ifn b9 ht7
          refine g_pc (pc' := 27) rfl ?_
          refine g_aload_n 0 dX9_worst_27 rfl ?_
          refine g_iload_n 2 dX9_worst_28 rfl ?_
          refine g_iload_n 1 dX9_worst_29 rfl ?_
          obtain ⟨q10, hq10, ht7⟩ := bnd_some ht7
          refine v_I (ci := 8) (as := [XI x2, XI x1]) dX9_worst_30 mlX9_279 mdX9_goesRather mvX9_goesRather rfl hx0 rfl (Nat.le_of_ble_eq_true rfl) (kX9_goesRather hx0 hq10) rfl ?_
          refine g_if_eq (tgt := 38) dX9_worst_33 (by decide) (fun b11 => ?_) (fun b11 => ?_)
          · replace ht7 := ifp b11 ht7
            cases ht7
            exact g_sub [0, 1, 2] rfl Kt7
          · replace ht7 := ifn b11 ht7
            refine g_pc (pc' := 36) rfl ?_
            refine g_iload_n 2 dX9_worst_36 rfl ?_
            refine g_istore_n (ls' := [(1, XI x2), (0, XR x0), (2, XI x2)]) dX9_worst_37 (by decide) rfl ?_
            cases ht7
            exact g_sub [1, 0, 2] rfl Kt7
set_option maxHeartbeats 8000000 in
set_option maxRecDepth 20000 in
theorem kX9_worst {X : XC} {d : Nat} {x0 : Nat} (hx0 : Sh x0 = (18, 69)) {M : Mem} {q : Int × Mem} (h : fX9_worst x0 M = some q) : Ct X mX9_worst (d + 2) [XR x0] M (pI q) := by
  unfold fX9_worst at h
  refine ct_go (by decide +kernel) (Nat.le_of_ble_eq_true rfl) (ls := [(0, XR x0)]) rfl ?_
  refine g_iconst (v := -1) dX9_worst_0 rfl (i32l rfl) ?_
  refine g_istore_n (ls' := [(1, XI (-1)), (0, XR x0)]) dX9_worst_1 (by decide) rfl ?_
  refine g_iconst (v := 0) dX9_worst_2 rfl (i32l rfl) ?_
  refine g_istore_n (ls' := [(2, XI 0), (1, XI (-1)), (0, XR x0)]) dX9_worst_3 (by decide) rfl ?_
  obtain ⟨z13, hz13, h⟩ := bnd_some h
  refine g_sub (ls' := [(0, XR x0), (1, XI (-1)), (2, XI 0)]) [2, 1, 0] rfl ?_
  refine lX9_worst_l4 hx0 1000 _ _ _ _ hz13 ?_
  refine g_iload_n 0 dX9_worst_44 rfl ?_
  cases h
  exact g_ireturn dX9_worst_45 rfl ⟨rfl, rfl⟩
set_option maxHeartbeats 8000000 in
set_option maxRecDepth 20000 in
theorem lX9_goesStage_l4 {X : XC} {d : Nat} {Post : Option XV → Mem → Prop} {x0 : Nat} {x1 : Int} (hx0 : Sh x0 = (18, 69)) : ∀ (n : Nat) (x2 x3 : Int) (M : Mem) (t0 : Int × Int × Mem), fX9_goesStage_l4 x0 x1 n x2 x3 M = some t0 → Go X mX9_goesStage (d + 4) 132 [] [] t0.2.2 Post → Go X mX9_goesStage (d + 4) 4 [(0, XR x0), (1, XI x1), (2, XI x2), (3, XI x3)] [] M Post := by
  intro n
  induction n with
  | zero => intro _ _ _ _ h; cases h
  | succ n ih =>
    intro x2 x3 M t0 h K
    unfold fX9_goesStage_l4 at h
    refine g_iload_n 2 dX9_goesStage_4 rfl ?_
    refine g_if_ne (tgt := 132) dX9_goesStage_5 (by decide) (fun b1 => ?_) (fun b1 => ?_)
    · replace h := ifn b1 h
      cases h
      exact g_sub [] rfl K
    · replace h := ifp b1 h
      refine g_pc (pc' := 8) rfl ?_
      refine g_aload_n 0 dX9_goesStage_8 rfl ?_
      refine g_iconst (v := 2) dX9_goesStage_9 rfl (i32l rfl) ?_
      obtain ⟨q2, hq2, h⟩ := bnd_some h
      refine v_I (ci := 8) (as := [XI 2]) dX9_goesStage_10 mlX9_276 mdX9_many_ mvX9_many_ rfl hx0 rfl (Nat.le_of_ble_eq_true rfl) (kX9_many_ hx0 hq2) rfl ?_
      obtain ⟨t8, ht8, h⟩ := bnd_some h
      have Kt8 : Go X mX9_goesStage (d + 4) 29 [(0, XR x0), (1, XI x1), (2, XI x2), (3, XI x3)] [] t8 Post := by
        refine g_aload_n 0 dX9_goesStage_29 rfl ?_
        obtain ⟨q14, hq14, h⟩ := bnd_some h
        refine v_V (ci := 8) (as := []) dX9_goesStage_30 mlX9_257 mdX9_tellVotes mvX9_tellVotes rfl hx0 rfl (Nat.le_of_ble_eq_true rfl) (kX9_tellVotes hx0 hq14) rfl ?_
        refine g_aload_n 0 dX9_goesStage_33 rfl ?_
        obtain ⟨q15, hq15, h⟩ := bnd_some h
        refine v_V (ci := 8) (as := []) dX9_goesStage_34 mlX9_288 mdX9_tellSurplus mvX9_tellSurplus rfl hx0 rfl (Nat.le_of_ble_eq_true rfl) (kX9_tellSurplus hx0 hq15) rfl ?_
        refine g_aload_n 0 dX9_goesStage_37 rfl ?_
        obtain ⟨q16, hq16, h⟩ := bnd_some h
        refine v_I (ci := 8) (as := []) dX9_goesStage_38 mlX9_291 mdX9_elects mvX9_elects rfl hx0 rfl (Nat.le_of_ble_eq_true rfl) (kX9_elects hx0 hq16) rfl ?_
        obtain ⟨t43, ht43, h⟩ := bnd_some h
        have Kt43 : Go X mX9_goesStage (d + 4) 126 [(0, XR x0), (1, XI x1), (2, XI t43.1), (3, XI x3)] [] t43.2 Post := by
          obtain ⟨c70, h⟩ := chk_some h
          refine g_iinc (ls' := [(3, XI (x3 + 1)), (0, XR x0), (1, XI x1), (2, XI t43.1)]) 3 dX9_goesStage_126 rfl rfl c70 (by decide) rfl ?_
          refine g_goto (tgt := 4) dX9_goesStage_129 (by decide) ?_
          exact g_sub [1, 2, 3, 0] rfl (ih _ _ _ _ h K)
        refine g_if_eq (tgt := 54) dX9_goesStage_41 (by decide) (fun b44 => ?_) (fun b44 => ?_)
        · replace ht43 := ifp b44 ht43
          refine g_aload_n 0 dX9_goesStage_54 rfl ?_
          refine g_getJ dX9_goesStage_55 flX9_260 (by decide) rfl hx0 ?_
          refine g_aload_n 0 dX9_goesStage_58 rfl ?_
          refine g_getI dX9_goesStage_59 flX9_29 (by decide) rfl hx0 ?_
          refine g_i2l dX9_goesStage_62 ?_
          refine g_lcmp_le (tgt := 75) dX9_goesStage_63 dX9_goesStage_64 (by decide) (fun b45 => ?_) (fun b45 => ?_)
          · replace ht43 := ifp b45 ht43
            refine g_aload_n 0 dX9_goesStage_75 rfl ?_
            obtain ⟨q46, hq46, ht43⟩ := bnd_some ht43
            refine v_I (ci := 8) (as := []) dX9_goesStage_76 mlX9_295 mdX9_worst mvX9_worst rfl hx0 rfl (Nat.le_of_ble_eq_true rfl) (kX9_worst hx0 hq46) rfl ?_
            refine g_nmI (fun v47 ev47 => ?_)
            replace ht43 := nm_s ev47 ht43
            refine g_istore (ls' := [(4, XI v47), (0, XR x0), (1, XI x1), (2, XI x2), (3, XI x3)]) dX9_goesStage_79 (by decide) rfl ?_
            refine g_aload_n 1 dX9_goesStage_81 rfl ?_
            refine g_getR dX9_goesStage_82 flX9_99 (by decide) rfl hx0 ?_
            refine g_aload_n 1 dX9_goesStage_85 rfl ?_
            refine g_getI dX9_goesStage_86 flX9_248 (by decide) rfl hx0 ?_
            refine g_iload 0 dX9_goesStage_89 rfl ?_
            refine g_pc (pc' := 91) rfl ?_
            obtain ⟨c48, ht43⟩ := chk_some ht43
            refine g_iast dX9_goesStage_91 (sf_8_40 hx0) c48.1 c48.2 ?_
            refine g_nmM (fun M49 eM49 => ?_)
            replace ht43 := nm_s eM49 ht43
            refine g_aload_n 1 dX9_goesStage_92 rfl ?_
            refine g_iload_n 4 dX9_goesStage_93 rfl ?_
            obtain ⟨q50, hq50, ht43⟩ := bnd_some ht43
            refine v_V (ci := 8) (as := [XI x3]) dX9_goesStage_94 mlX9_267 mdX9_endsStage mvX9_endsStage rfl hx0 rfl (Nat.le_of_ble_eq_true rfl) (kX9_endsStage hx0 hq50) rfl ?_
            refine g_aload_n 1 dX9_goesStage_97 rfl ?_
            refine g_getR dX9_goesStage_98 flX9_62 (by decide) rfl hx0 ?_
            refine g_iload 0 dX9_goesStage_101 rfl ?_
            refine g_iconst (v := 3) dX9_goesStage_103 rfl (i32l rfl) ?_
            obtain ⟨c51, ht43⟩ := chk_some ht43
            refine g_iast dX9_goesStage_104 (sf_8_24 hx0) c51.1 c51.2 ?_
            refine g_nmM (fun M52 eM52 => ?_)
            replace ht43 := nm_s eM52 ht43
            refine g_pc (pc' := 105) rfl ?_
            refine g_aload_n 1 dX9_goesStage_105 rfl ?_
            refine g_getR dX9_goesStage_106 flX9_68 (by decide) rfl hx0 ?_
            refine g_iload 0 dX9_goesStage_109 rfl ?_
            refine g_aload_n 1 dX9_goesStage_111 rfl ?_
            refine g_getI dX9_goesStage_112 flX9_248 (by decide) rfl hx0 ?_
            obtain ⟨c53, ht43⟩ := chk_some ht43
            refine g_iast dX9_goesStage_115 (sf_8_26 hx0) c53.1 c53.2 ?_
            refine g_nmM (fun M54 eM54 => ?_)
            replace ht43 := nm_s eM54 ht43
            refine g_aload_n 1 dX9_goesStage_116 rfl ?_
            refine g_getR dX9_goesStage_117 flX9_65 (by decide) rfl hx0 ?_
            refine g_iload 0 dX9_goesStage_120 rfl ?_
            refine g_pc (pc' := 122) rfl ?_
            refine g_iconst (v := 0) dX9_goesStage_122 rfl (i32l rfl) ?_
            obtain ⟨c55, ht43⟩ := chk_some ht43
            refine g_iast dX9_goesStage_123 (sf_8_25 hx0) c55.1 c55.2 ?_
            refine g_nmM (fun M56 eM56 => ?_)
            replace ht43 := nm_s eM56 ht43
            refine g_iconst (v := 1) dX9_goesStage_124 rfl (i32l rfl) ?_
            refine g_istore_n (ls' := [(2, XI 1), (4, XI v47), (0, XR x0), (1, XI x1), (3, XI x3)]) dX9_goesStage_125 (by decide) rfl ?_
            cases ht43
            exact g_sub [2, 3, 0, 4] rfl Kt43
          · replace ht43 := ifn b45 ht43
            refine g_pc (pc' := 67) rfl ?_
            refine g_iload_n 3 dX9_goesStage_67 rfl ?_
            refine g_aload_n 0 dX9_goesStage_68 rfl ?_
            refine g_getI dX9_goesStage_69 flX9_32 (by decide) rfl hx0 ?_
            refine g_icmp_ne (tgt := 126) dX9_goesStage_72 (by decide) (fun b57 => ?_) (fun b57 => ?_)
            · replace ht43 := ifn b57 ht43
              cases ht43
              exact g_sub [0, 1, 2, 3] rfl Kt43
            · replace ht43 := ifp b57 ht43
              refine g_pc (pc' := 75) rfl ?_
              refine g_aload_n 0 dX9_goesStage_75 rfl ?_
              obtain ⟨q58, hq58, ht43⟩ := bnd_some ht43
              refine v_I (ci := 8) (as := []) dX9_goesStage_76 mlX9_295 mdX9_worst mvX9_worst rfl hx0 rfl (Nat.le_of_ble_eq_true rfl) (kX9_worst hx0 hq58) rfl ?_
              refine g_nmI (fun v59 ev59 => ?_)
              replace ht43 := nm_s ev59 ht43
              refine g_istore (ls' := [(4, XI v59), (0, XR x0), (1, XI x1), (2, XI x2), (3, XI x3)]) dX9_goesStage_79 (by decide) rfl ?_
              refine g_aload_n 1 dX9_goesStage_81 rfl ?_
              refine g_getR dX9_goesStage_82 flX9_99 (by decide) rfl hx0 ?_
              refine g_aload_n 1 dX9_goesStage_85 rfl ?_
              refine g_getI dX9_goesStage_86 flX9_248 (by decide) rfl hx0 ?_
              refine g_iload 0 dX9_goesStage_89 rfl ?_
              refine g_pc (pc' := 91) rfl ?_
              obtain ⟨c60, ht43⟩ := chk_some ht43
              refine g_iast dX9_goesStage_91 (sf_8_40 hx0) c60.1 c60.2 ?_
              refine g_nmM (fun M61 eM61 => ?_)
              replace ht43 := nm_s eM61 ht43
              refine g_aload_n 1 dX9_goesStage_92 rfl ?_
              refine g_iload_n 4 dX9_goesStage_93 rfl ?_
              obtain ⟨q62, hq62, ht43⟩ := bnd_some ht43
              refine v_V (ci := 8) (as := [XI x3]) dX9_goesStage_94 mlX9_267 mdX9_endsStage mvX9_endsStage rfl hx0 rfl (Nat.le_of_ble_eq_true rfl) (kX9_endsStage hx0 hq62) rfl ?_
              refine g_aload_n 1 dX9_goesStage_97 rfl ?_
              refine g_getR dX9_goesStage_98 flX9_62 (by decide) rfl hx0 ?_
              refine g_iload 0 dX9_goesStage_101 rfl ?_
              refine g_iconst (v := 3) dX9_goesStage_103 rfl (i32l rfl) ?_
              obtain ⟨c63, ht43⟩ := chk_some ht43
              refine g_iast dX9_goesStage_104 (sf_8_24 hx0) c63.1 c63.2 ?_
              refine g_nmM (fun M64 eM64 => ?_)
              replace ht43 := nm_s eM64 ht43
              refine g_pc (pc' := 105) rfl ?_
              refine g_aload_n 1 dX9_goesStage_105 rfl ?_
              refine g_getR dX9_goesStage_106 flX9_68 (by decide) rfl hx0 ?_
              refine g_iload 0 dX9_goesStage_109 rfl ?_
              refine g_aload_n 1 dX9_goesStage_111 rfl ?_
              refine g_getI dX9_goesStage_112 flX9_248 (by decide) rfl hx0 ?_
              obtain ⟨c65, ht43⟩ := chk_some ht43
              refine g_iast dX9_goesStage_115 (sf_8_26 hx0) c65.1 c65.2 ?_
              refine g_nmM (fun M66 eM66 => ?_)
              replace ht43 := nm_s eM66 ht43
              refine g_aload_n 1 dX9_goesStage_116 rfl ?_
              refine g_getR dX9_goesStage_117 flX9_65 (by decide) rfl hx0 ?_
              refine g_iload 0 dX9_goesStage_120 rfl ?_
              refine g_pc (pc' := 122) rfl ?_
              refine g_iconst (v := 0) dX9_goesStage_122 rfl (i32l rfl) ?_
              obtain ⟨c67, ht43⟩ := chk_some ht43
              refine g_iast dX9_goesStage_123 (sf_8_25 hx0) c67.1 c67.2 ?_
              refine g_nmM (fun M68 eM68 => ?_)
              replace ht43 := nm_s eM68 ht43
              refine g_iconst (v := 1) dX9_goesStage_124 rfl (i32l rfl) ?_
              refine g_istore_n (ls' := [(2, XI 1), (4, XI v59), (0, XR x0), (1, XI x1), (3, XI x3)]) dX9_goesStage_125 (by decide) rfl ?_
              cases ht43
              exact g_sub [2, 3, 0, 4] rfl Kt43
        · replace ht43 := ifn b44 ht43
          refine g_pc (pc' := 44) rfl ?_
          refine g_aload_n 0 dX9_goesStage_44 rfl ?_
          refine g_iload_n 3 dX9_goesStage_45 rfl ?_
          obtain ⟨q69, hq69, ht43⟩ := bnd_some ht43
          refine v_V (ci := 8) (as := [XI x3]) dX9_goesStage_46 mlX9_267 mdX9_endsStage mvX9_endsStage rfl hx0 rfl (Nat.le_of_ble_eq_true rfl) (kX9_endsStage hx0 hq69) rfl ?_
          refine g_iconst (v := 1) dX9_goesStage_49 rfl (i32l rfl) ?_
          refine g_istore_n (ls' := [(2, XI 1), (0, XR x0), (1, XI x1), (3, XI x3)]) dX9_goesStage_50 (by decide) rfl ?_
          refine g_goto (tgt := 126) dX9_goesStage_51 (by decide) ?_
          cases ht43
          exact g_sub [1, 2, 0, 3] rfl Kt43
      refine g_if_le (tgt := 29) dX9_goesStage_13 (by decide) (fun b9 => ?_) (fun b9 => ?_)
      · replace ht8 := ifp b9 ht8
        cases ht8
        exact g_sub [0, 1, 2, 3] rfl Kt8
      · replace ht8 := ifn b9 ht8
        refine g_pc (pc' := 16) rfl ?_
        refine g_iload_n 3 dX9_goesStage_16 rfl ?_
        refine g_iconst (v := 1) dX9_goesStage_17 rfl (i32l rfl) ?_
        refine g_icmp_ne (tgt := 25) dX9_goesStage_18 (by decide) (fun b10 => ?_) (fun b10 => ?_)
        · replace ht8 := ifn b10 ht8
          refine g_aload_n 0 dX9_goesStage_25 rfl ?_
          obtain ⟨q11, hq11, ht8⟩ := bnd_some ht8
          refine v_V (ci := 8) (as := []) dX9_goesStage_26 mlX9_285 mdX9_keepsAnew mvX9_keepsAnew rfl hx0 rfl (Nat.le_of_ble_eq_true rfl) (kX9_keepsAnew hx0 hq11) rfl ?_
          cases ht8
          exact g_sub [0, 1, 2, 3] rfl Kt8
        · replace ht8 := ifp b10 ht8
          refine g_pc (pc' := 21) rfl ?_
          refine g_iload_n 1 dX9_goesStage_21 rfl ?_
          refine g_if_ne (tgt := 29) dX9_goesStage_22 (by decide) (fun b12 => ?_) (fun b12 => ?_)
          · replace ht8 := ifn b12 ht8
            cases ht8
            exact g_sub [0, 1, 2, 3] rfl Kt8
          · replace ht8 := ifp b12 ht8
            refine g_pc (pc' := 25) rfl ?_
            refine g_aload_n 0 dX9_goesStage_25 rfl ?_
            obtain ⟨q13, hq13, ht8⟩ := bnd_some ht8
            refine v_V (ci := 8) (as := []) dX9_goesStage_26 mlX9_285 mdX9_keepsAnew mvX9_keepsAnew rfl hx0 rfl (Nat.le_of_ble_eq_true rfl) (kX9_keepsAnew hx0 hq13) rfl ?_
            cases ht8
            exact g_sub [0, 1, 2, 3] rfl Kt8
set_option maxHeartbeats 8000000 in
set_option maxRecDepth 20000 in
theorem kX9_goesStage {X : XC} {d : Nat} {x0 : Nat} {x1 : Int} (hx0 : Sh x0 = (18, 69)) {M : Mem} {q : Int × Mem} (h : fX9_goesStage x0 x1 M = some q) : Ct X mX9_goesStage (d + 4) [XR x0, XI x1] M (pV q) := by
  unfold fX9_goesStage at h
  refine ct_go (by decide +kernel) (Nat.le_of_ble_eq_true rfl) (ls := [(0, XR x0), (1, XI x1)]) rfl ?_
  refine g_iconst (v := 0) dX9_goesStage_0 rfl (i32l rfl) ?_
  refine g_istore_n (ls' := [(2, XI 0), (0, XR x0), (1, XI x1)]) dX9_goesStage_1 (by decide) rfl ?_
  refine g_iconst (v := 1) dX9_goesStage_2 rfl (i32l rfl) ?_
  refine g_istore_n (ls' := [(3, XI 1), (2, XI 0), (0, XR x0), (1, XI x1)]) dX9_goesStage_3 (by decide) rfl ?_
  obtain ⟨z71, hz71, h⟩ := bnd_some h
  refine g_sub (ls' := [(0, XR x0), (1, XI x1), (2, XI 0), (3, XI 1)]) [2, 3, 1, 0] rfl ?_
  refine lX9_goesStage_l4 hx0 1000 _ _ _ _ hz71 ?_
  cases h
  exact g_return dX9_goesStage_132 rfl ⟨rfl, rfl⟩
end
