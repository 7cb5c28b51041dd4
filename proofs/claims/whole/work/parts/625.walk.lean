section
set_option maxHeartbeats 8000000 in
set_option maxRecDepth 20000 in
theorem lX9_raised_l33 {X : XC} {d : Nat} {Post : Option XV → Mem → Prop} {x0 : Nat} {x1 : Int} {x2 : Int} {x3 : Int} (hx0 : Sh x0 = (18, 69)) : ∀ (n : Nat) (x4 x5 : Int) (M : Mem) (t0 : Int × Int × Mem), fX9_raised_l33 x0 x1 x2 x3 n x4 x5 M = some t0 → Go X mX9_raised (d + 7) 74 [(0, XR x0), (1, XI x1), (3, XI x3), (4, XI t0.1)] [] t0.2.2 Post → Go X mX9_raised (d + 7) 33 [(0, XR x0), (1, XI x1), (2, XI x2), (3, XI x3), (4, XI x4), (5, XI x5)] [] M Post := by
  intro n
  induction n with
  | zero => intro _ _ _ _ h; cases h
  | succ n ih =>
    intro x4 x5 M t0 h K
    unfold fX9_raised_l33 at h
    refine g_iload 5 dX9_raised_33 rfl ?_
    refine g_iload_n 3 dX9_raised_35 rfl ?_
    obtain ⟨q9, hq9, h⟩ := bnd_some h
    refine s_I (as := [XI x3]) dX9_raised_36 mlX9_177 mdX9_lengthOf msX9_lengthOf rfl (Nat.le_of_ble_eq_true rfl) (kX9_lengthOf  hq9) rfl ?_
    refine g_icmp_ge (tgt := 74) dX9_raised_39 (by decide) (fun b10 => ?_) (fun b10 => ?_)
    · replace h := ifp b10 h
      cases h
      exact g_sub [0, 1, 3, 4] rfl K
    · replace h := ifn b10 h
      refine g_pc (pc' := 42) rfl ?_
      refine g_iload_n 3 dX9_raised_42 rfl ?_
      refine g_iload 5 dX9_raised_43 rfl ?_
      obtain ⟨q11, hq11, h⟩ := bnd_some h
      refine s_I (as := [XI x3, XI x5]) dX9_raised_45 mlX9_181 mdX9_digitAt msX9_digitAt rfl (Nat.le_of_ble_eq_true rfl) (kX9_digitAt  hq11) rfl ?_
      refine g_iload_n 2 dX9_raised_48 rfl ?_
      refine g_iconst (v := 1) dX9_raised_49 rfl (i32l rfl) ?_
      obtain ⟨c12, h⟩ := chk_some h
      refine g_iadd dX9_raised_50 rfl c12 ?_
      obtain ⟨t18, ht18, h⟩ := bnd_some h
      have Kt18 : Go X mX9_raised (d + 7) 68 [(0, XR x0), (1, XI x1), (2, XI x2), (3, XI x3), (4, XI t18.1), (5, XI x5)] [] t18.2 Post := by
        obtain ⟨c24, h⟩ := chk_some h
        refine g_iinc (ls' := [(5, XI (x5 + 1)), (0, XR x0), (1, XI x1), (2, XI x2), (3, XI x3), (4, XI t18.1)]) 5 dX9_raised_68 rfl rfl c24 (by decide) rfl ?_
        refine g_goto (tgt := 33) dX9_raised_71 (by decide) ?_
        exact g_sub [1, 2, 3, 4, 5, 0] rfl (ih _ _ _ _ h K)
      refine g_icmp_eq (tgt := 68) dX9_raised_51 (by decide) (fun b19 => ?_) (fun b19 => ?_)
      · replace ht18 := ifp b19 ht18
        cases ht18
        exact g_sub [0, 1, 2, 3, 4, 5] rfl Kt18
      · replace ht18 := ifn b19 ht18
        refine g_pc (pc' := 54) rfl ?_
        refine g_bip dX9_raised_54 rfl ?_
        refine g_iload 4 dX9_raised_56 rfl ?_
        obtain ⟨c20, ht18⟩ := chk_some ht18
        refine g_imul dX9_raised_58 rfl c20 ?_
        refine g_iload_n 3 dX9_raised_59 rfl ?_
        refine g_iload 5 dX9_raised_60 rfl ?_
        obtain ⟨q21, hq21, ht18⟩ := bnd_some ht18
        refine s_I (as := [XI x3, XI x5]) dX9_raised_62 mlX9_181 mdX9_digitAt msX9_digitAt rfl (Nat.le_of_ble_eq_true rfl) (kX9_digitAt  hq21) rfl ?_
        obtain ⟨c22, ht18⟩ := chk_some ht18
        refine g_iadd dX9_raised_65 rfl c22 ?_
        refine g_nmI (fun v23 ev23 => ?_)
        replace ht18 := nm_s ev23 ht18
        refine g_istore (ls' := [(4, XI v23), (0, XR x0), (1, XI x1), (2, XI x2), (3, XI x3), (5, XI x5)]) dX9_raised_66 (by decide) rfl ?_
        refine g_pc (pc' := 68) rfl ?_
        cases ht18
        exact g_sub [1, 2, 3, 4, 0, 5] rfl Kt18
set_option maxHeartbeats 8000000 in
set_option maxRecDepth 20000 in
theorem kX9_raised {X : XC} {d : Nat} {x0 : Nat} {x1 : Int} {x2 : Int} (hx0 : Sh x0 = (18, 69)) {M : Mem} {q : Int × Mem} (h : fX9_raised x0 x1 x2 M = some q) : Ct X mX9_raised (d + 7) [XR x0, XI x1, XI x2] M (pI q) := by
  unfold fX9_raised at h
  refine ct_go (by decide +kernel) (Nat.le_of_ble_eq_true rfl) (ls := [(0, XR x0), (1, XI x1), (2, XI x2)]) rfl ?_
  refine g_aload_n 0 dX9_raised_0 rfl ?_
  refine g_iload_n 1 dX9_raised_1 rfl ?_
  obtain ⟨q1, hq1, h⟩ := bnd_some h
  refine v_I (ci := 8) (as := [XI x1]) dX9_raised_2 mlX9_208 mdX9_isBallot mvX9_isBallot rfl hx0 rfl (Nat.le_of_ble_eq_true rfl) (kX9_isBallot hx0 hq1) rfl ?_
  refine g_if_eq (tgt := 16) dX9_raised_5 (by decide) (fun b2 => ?_) (fun b2 => ?_)
  · replace h := ifp b2 h
    refine g_iconst (v := -1) dX9_raised_16 rfl (i32l rfl) ?_
    cases h
    exact g_ireturn dX9_raised_17 rfl ⟨rfl, rfl⟩
  · replace h := ifn b2 h
    refine g_pc (pc' := 8) rfl ?_
    refine g_aload_n 0 dX9_raised_8 rfl ?_
    refine g_iload_n 2 dX9_raised_9 rfl ?_
    obtain ⟨q3, hq3, h⟩ := bnd_some h
    refine v_I (ci := 8) (as := [XI x2]) dX9_raised_10 mlX9_211 mdX9_isOne mvX9_isOne rfl hx0 rfl (Nat.le_of_ble_eq_true rfl) (kX9_isOne hx0 hq3) rfl ?_
    refine g_if_ne (tgt := 18) dX9_raised_13 (by decide) (fun b4 => ?_) (fun b4 => ?_)
    · replace h := ifn b4 h
      refine g_aload_n 0 dX9_raised_18 rfl ?_
      refine g_getR dX9_raised_19 flX9_19 (by decide) rfl hx0 ?_
      refine g_iload_n 1 dX9_raised_22 rfl ?_
      obtain ⟨c5, h⟩ := chk_some h
      refine g_iald dX9_raised_23 (sf_8_4 hx0) c5.1 c5.2 ?_
      refine g_nmI (fun v6 ev6 => ?_)
      replace h := nm_s ev6 h
      refine g_istore_n (ls' := [(3, XI v6), (0, XR x0), (1, XI x1), (2, XI x2)]) dX9_raised_24 (by decide) rfl ?_
      refine g_iload_n 3 dX9_raised_25 rfl ?_
      refine g_iconst (v := 1) dX9_raised_26 rfl (i32l rfl) ?_
      obtain ⟨c7, h⟩ := chk_some h
      refine g_iadd dX9_raised_27 rfl c7 ?_
      refine g_pc (pc' := 28) rfl ?_
      refine g_nmI (fun v8 ev8 => ?_)
      replace h := nm_s ev8 h
      refine g_istore (ls' := [(4, XI v8), (3, XI v6), (0, XR x0), (1, XI x1), (2, XI x2)]) dX9_raised_28 (by decide) rfl ?_
      refine g_iconst (v := 0) dX9_raised_30 rfl (i32l rfl) ?_
      refine g_istore (ls' := [(5, XI 0), (4, XI v8), (3, XI v6), (0, XR x0), (1, XI x1), (2, XI x2)]) dX9_raised_31 (by decide) rfl ?_
      obtain ⟨z25, hz25, h⟩ := bnd_some h
      refine g_sub (ls' := [(0, XR x0), (1, XI x1), (2, XI x2), (3, XI v6), (4, XI v8), (5, XI 0)]) [3, 4, 5, 2, 1, 0] rfl ?_
      refine lX9_raised_l33 hx0 1000 _ _ _ _ hz25 ?_
      refine g_aload_n 0 dX9_raised_74 rfl ?_
      refine g_getR dX9_raised_75 flX9_19 (by decide) rfl hx0 ?_
      refine g_iload_n 1 dX9_raised_78 rfl ?_
      refine g_iload 3 dX9_raised_79 rfl ?_
      obtain ⟨c26, h⟩ := chk_some h
      refine g_iast dX9_raised_81 (sf_8_4 hx0) c26.1 c26.2 ?_
      refine g_nmM (fun M27 eM27 => ?_)
      replace h := nm_s eM27 h
      refine g_aload_n 0 dX9_raised_82 rfl ?_
      obtain ⟨q28, hq28, h⟩ := bnd_some h
      refine v_I (ci := 8) (as := []) dX9_raised_83 mlX9_320 mdX9_electedSet mvX9_electedSet rfl hx0 rfl (Nat.le_of_ble_eq_true rfl) (kX9_electedSet hx0 hq28) rfl ?_
      refine g_nmI (fun v29 ev29 => ?_)
      replace h := nm_s ev29 h
      refine g_istore (ls' := [(5, XI v29), (0, XR x0), (1, XI x1), (3, XI v6), (4, XI z25.1)]) dX9_raised_86 (by decide) rfl ?_
      refine g_pc (pc' := 88) rfl ?_
      refine g_aload_n 1 dX9_raised_88 rfl ?_
      refine g_getR dX9_raised_89 flX9_19 (by decide) rfl hx0 ?_
      refine g_iload_n 2 dX9_raised_92 rfl ?_
      refine g_iload_n 3 dX9_raised_93 rfl ?_
      obtain ⟨c30, h⟩ := chk_some h
      refine g_iast dX9_raised_94 (sf_8_4 hx0) c30.1 c30.2 ?_
      refine g_nmM (fun M31 eM31 => ?_)
      replace h := nm_s eM31 h
      refine g_iload 0 dX9_raised_95 rfl ?_
      cases h
      exact g_ireturn dX9_raised_97 rfl ⟨rfl, rfl⟩
    · replace h := ifp b4 h
      refine g_pc (pc' := 16) rfl ?_
      refine g_iconst (v := -1) dX9_raised_16 rfl (i32l rfl) ?_
      cases h
      exact g_ireturn dX9_raised_17 rfl ⟨rfl, rfl⟩
set_option maxHeartbeats 8000000 in
set_option maxRecDepth 20000 in
theorem lX9_needs_l55 {X : XC} {d : Nat} {Post : Option XV → Mem → Prop} {x0 : Nat} {x1 : Int} {x2 : Int} (hx0 : Sh x0 = (18, 69)) : ∀ (n : Nat) (x3 x4 : Int) (M : Mem) (z : (Int × Mem) ⊕ (Int × Int × Mem)), fX9_needs_l55 x0 x1 x2 n x3 x4 M = some z → (∀ r, z = .inl r → Post (some (XI r.1)) r.2) → Go X mX9_needs (d + 7) 55 [(0, XR x0), (1, XI x1), (2, XI x2), (3, XI x3), (4, XI x4)] [] M Post := by
  intro n
  induction n with
  | zero => intro _ _ _ _ h; cases h
  | succ n ih =>
    intro x3 x4 M z h K1
    unfold fX9_needs_l55 at h
    refine g_iload 4 dX9_needs_55 rfl ?_
    refine g_bip dX9_needs_57 rfl ?_
    refine g_icmp_gt (tgt := 138) dX9_needs_59 (by decide) (fun b10 => ?_) (fun b10 => ?_)
    · replace h := ifp b10 h
      refine g_iload_n 3 dX9_needs_138 rfl ?_
      cases h
      exact g_ireturn dX9_needs_139 rfl (K1 (x3, M) rfl)
    · replace h := ifn b10 h
      refine g_pc (pc' := 62) rfl ?_
      refine g_iload_n 3 dX9_needs_62 rfl ?_
      refine g_bip dX9_needs_63 rfl ?_
      refine g_icmp_ne (tgt := 138) dX9_needs_65 (by decide) (fun b11 => ?_) (fun b11 => ?_)
      · replace h := ifn b11 h
        refine g_iload_n 3 dX9_needs_138 rfl ?_
        cases h
        exact g_ireturn dX9_needs_139 rfl (K1 (x3, M) rfl)
      · replace h := ifp b11 h
        refine g_pc (pc' := 68) rfl ?_
        refine g_aload_n 0 dX9_needs_68 rfl ?_
        refine g_getR dX9_needs_69 flX9_22 (by decide) rfl hx0 ?_
        refine g_aload_n 0 dX9_needs_72 rfl ?_
        refine g_getI dX9_needs_73 flX9_174 (by decide) rfl hx0 ?_
        refine g_iload 4 dX9_needs_76 rfl ?_
        refine g_iload_n 2 dX9_needs_78 rfl ?_
        obtain ⟨c12, h⟩ := chk_some h
        refine g_imul dX9_needs_79 rfl c12 ?_
        obtain ⟨c13, h⟩ := chk_some h
        refine g_iast dX9_needs_80 (sf_8_5 hx0) c13.1 c13.2 ?_
        refine g_nmM (fun M14 eM14 => ?_)
        replace h := nm_s eM14 h
        refine g_pc (pc' := 81) rfl ?_
        refine g_aload_n 0 dX9_needs_81 rfl ?_
        refine g_aload_n 0 dX9_needs_82 rfl ?_
        refine g_getI dX9_needs_83 flX9_174 (by decide) rfl hx0 ?_
        refine g_iconst (v := 1) dX9_needs_86 rfl (i32l rfl) ?_
        obtain ⟨c15, h⟩ := chk_some h
        refine g_iadd dX9_needs_87 rfl c15 ?_
        obtain ⟨q16, hq16, h⟩ := bnd_some h
        refine v_I (ci := 8) (as := [XI ((M14 x0 1) + 1)]) dX9_needs_88 mlX9_202 mdX9_firstOver mvX9_firstOver rfl hx0 rfl (Nat.le_of_ble_eq_true rfl) (kX9_firstOver hx0 hq16) rfl ?_
        refine g_iconst (v := -1) dX9_needs_91 rfl (i32l rfl) ?_
        refine g_icmp_eq (tgt := 98) dX9_needs_92 (by decide) (fun b17 => ?_) (fun b17 => ?_)
        · replace h := ifp b17 h
          refine g_aload_n 0 dX9_needs_98 rfl ?_
          refine g_dupR dX9_needs_99 ?_
          refine g_getI dX9_needs_100 flX9_174 (by decide) rfl hx0 ?_
          refine g_iconst (v := 1) dX9_needs_103 rfl (i32l rfl) ?_
          obtain ⟨c18, h⟩ := chk_some h
          refine g_iadd dX9_needs_104 rfl c18 ?_
          refine g_putI dX9_needs_105 flX9_174 (by decide) rfl hx0 ?_
          refine g_nmM (fun M19 eM19 => ?_)
          replace h := nm_s eM19 h
          refine g_aload_n 0 dX9_needs_108 rfl ?_
          obtain ⟨q20, hq20, h⟩ := bnd_some h
          refine v_I (ci := 8) (as := []) dX9_needs_109 mlX9_320 mdX9_electedSet mvX9_electedSet rfl hx0 rfl (Nat.le_of_ble_eq_true rfl) (kX9_electedSet hx0 hq20) rfl ?_
          refine g_pc (pc' := 112) rfl ?_
          refine g_iload_n 1 dX9_needs_112 rfl ?_
          obtain ⟨q21, hq21, h⟩ := bnd_some h
          refine s_I (as := [XI q20.1, XI x1]) dX9_needs_113 mlX9_192 mdX9_has msX9_has rfl (Nat.le_of_ble_eq_true rfl) (kX9_has  hq21) rfl ?_
          obtain ⟨t23, ht23, h⟩ := bnd_some h
          have Kt23 : Go X mX9_needs (d + 7) 122 [(0, XR x0), (1, XI x1), (2, XI x2), (3, XI t23), (4, XI x4)] [] q21.2 Post := by
            refine g_aload_n 0 dX9_needs_122 rfl ?_
            refine g_dupR dX9_needs_123 ?_
            refine g_getI dX9_needs_124 flX9_174 (by decide) rfl hx0 ?_
            refine g_iconst (v := 1) dX9_needs_127 rfl (i32l rfl) ?_
            obtain ⟨c25, h⟩ := chk_some h
            refine g_isub dX9_needs_128 rfl c25 ?_
            refine g_putI dX9_needs_129 flX9_174 (by decide) rfl hx0 ?_
            refine g_nmM (fun M26 eM26 => ?_)
            replace h := nm_s eM26 h
            obtain ⟨c27, h⟩ := chk_some h
            refine g_iinc (ls' := [(4, XI (x4 + 1)), (0, XR x0), (1, XI x1), (2, XI x2), (3, XI t23)]) 4 dX9_needs_132 rfl rfl c27 (by decide) rfl ?_
            refine g_goto (tgt := 55) dX9_needs_135 (by decide) ?_
            exact g_sub [1, 2, 3, 4, 0] rfl (ih _ _ _ _ h K1)
          refine g_if_eq (tgt := 122) dX9_needs_116 (by decide) (fun b24 => ?_) (fun b24 => ?_)
          · replace ht23 := ifp b24 ht23
            cases ht23
            exact g_sub [0, 1, 2, 3, 4] rfl Kt23
          · replace ht23 := ifn b24 ht23
            refine g_pc (pc' := 119) rfl ?_
            refine g_iload 4 dX9_needs_119 rfl ?_
            refine g_istore_n (ls' := [(3, XI x4), (0, XR x0), (1, XI x1), (2, XI x2), (4, XI x4)]) dX9_needs_121 (by decide) rfl ?_
            cases ht23
            exact g_sub [1, 2, 3, 0, 4] rfl Kt23
        · replace h := ifn b17 h
          refine g_pc (pc' := 95) rfl ?_
          refine g_bip dX9_needs_95 rfl ?_
          cases h
          exact g_ireturn dX9_needs_97 rfl (K1 ((-5), q16.2) rfl)
set_option maxHeartbeats 8000000 in
set_option maxRecDepth 20000 in
theorem kX9_needs {X : XC} {d : Nat} {x0 : Nat} {x1 : Int} {x2 : Int} (hx0 : Sh x0 = (18, 69)) {M : Mem} {q : Int × Mem} (h : fX9_needs x0 x1 x2 M = some q) : Ct X mX9_needs (d + 7) [XR x0, XI x1, XI x2] M (pI q) := by
  unfold fX9_needs at h
  refine ct_go (by decide +kernel) (Nat.le_of_ble_eq_true rfl) (ls := [(0, XR x0), (1, XI x1), (2, XI x2)]) rfl ?_
  refine g_aload_n 0 dX9_needs_0 rfl ?_
  refine g_iload_n 1 dX9_needs_1 rfl ?_
  obtain ⟨q1, hq1, h⟩ := bnd_some h
  refine v_I (ci := 8) (as := [XI x1]) dX9_needs_2 mlX9_211 mdX9_isOne mvX9_isOne rfl hx0 rfl (Nat.le_of_ble_eq_true rfl) (kX9_isOne hx0 hq1) rfl ?_
  refine g_if_ne (tgt := 10) dX9_needs_5 (by decide) (fun b2 => ?_) (fun b2 => ?_)
  · replace h := ifn b2 h
    refine g_iload_n 2 dX9_needs_10 rfl ?_
    refine g_i2l dX9_needs_11 ?_
    refine g_lconst (v := 1) dX9_needs_12 rfl (i64l rfl) ?_
    refine g_ldc2 (v := 10000) dX9_needs_13 csX9_358 (by decide +kernel) (i64l rfl) ?_
    obtain ⟨q3, hq3, h⟩ := bnd_some h
    refine s_I (as := [XL x2, XL 1, XL 10000]) dX9_needs_16 mlX9_170 mdX9_in msX9_in rfl (Nat.le_of_ble_eq_true rfl) (kX9_in  hq3) rfl ?_
    refine g_if_ne (tgt := 25) dX9_needs_19 (by decide) (fun b4 => ?_) (fun b4 => ?_)
    · replace h := ifn b4 h
      refine g_aload_n 0 dX9_needs_25 rfl ?_
      refine g_getR dX9_needs_26 flX9_11 (by decide) rfl hx0 ?_
      refine g_iload_n 1 dX9_needs_29 rfl ?_
      obtain ⟨c5, h⟩ := chk_some h
      refine g_zald dX9_needs_30 (sf_8_2 hx0) c5.1 c5.2 ?_
      refine g_if_eq (tgt := 37) dX9_needs_31 (by decide) (fun b6 => ?_) (fun b6 => ?_)
      · replace h := ifp b6 h
        refine g_aload_n 0 dX9_needs_37 rfl ?_
        refine g_getR dX9_needs_38 flX9_19 (by decide) rfl hx0 ?_
        refine g_aload_n 0 dX9_needs_41 rfl ?_
        refine g_getI dX9_needs_42 flX9_174 (by decide) rfl hx0 ?_
        refine g_iload_n 1 dX9_needs_45 rfl ?_
        refine g_iconst (v := 1) dX9_needs_46 rfl (i32l rfl) ?_
        obtain ⟨c7, h⟩ := chk_some h
        refine g_iadd dX9_needs_47 rfl c7 ?_
        obtain ⟨c8, h⟩ := chk_some h
        refine g_iast dX9_needs_48 (sf_8_4 hx0) c8.1 c8.2 ?_
        refine g_nmM (fun M9 eM9 => ?_)
        replace h := nm_s eM9 h
        refine g_pc (pc' := 49) rfl ?_
        refine g_bip dX9_needs_49 rfl ?_
        refine g_istore_n (ls' := [(3, XI (-5)), (0, XR x0), (1, XI x1), (2, XI x2)]) dX9_needs_51 (by decide) rfl ?_
        refine g_iconst (v := 0) dX9_needs_52 rfl (i32l rfl) ?_
        refine g_istore (ls' := [(4, XI 0), (3, XI (-5)), (0, XR x0), (1, XI x1), (2, XI x2)]) dX9_needs_53 (by decide) rfl ?_
        obtain ⟨z28, hz28, rz28, h⟩ := lr_some h
        refine g_sub (ls' := [(0, XR x0), (1, XI x1), (2, XI x2), (3, XI (-5)), (4, XI 0)]) [2, 3, 4, 1, 0] rfl ?_
        refine lX9_needs_l55 hx0 1000 _ _ _ _ hz28 (fun r e => ?_)
        have rz28 := rz28 r e
        subst rz28
        exact ⟨rfl, rfl⟩
      · replace h := ifn b6 h
        refine g_pc (pc' := 34) rfl ?_
        refine g_bip dX9_needs_34 rfl ?_
        cases h
        exact g_ireturn dX9_needs_36 rfl ⟨rfl, rfl⟩
    · replace h := ifp b4 h
      refine g_pc (pc' := 22) rfl ?_
      refine g_bip dX9_needs_22 rfl ?_
      cases h
      exact g_ireturn dX9_needs_24 rfl ⟨rfl, rfl⟩
  · replace h := ifp b2 h
    refine g_pc (pc' := 8) rfl ?_
    refine g_iconst (v := -1) dX9_needs_8 rfl (i32l rfl) ?_
    cases h
    exact g_ireturn dX9_needs_9 rfl ⟨rfl, rfl⟩
set_option maxHeartbeats 8000000 in
set_option maxRecDepth 20000 in
theorem kX9_see {X : XC} {d : Nat} {x0 : Nat} {x1 : Int} {x2 : Int} (hx0 : Sh x0 = (18, 69)) {M : Mem} {q : Int × Mem} (h : fX9_see x0 x1 x2 M = some q) : Ct X mX9_see (d + 2) [XR x0, XI x1, XI x2] M (pI q) := by
  unfold fX9_see at h
  refine ct_go (by decide +kernel) (Nat.le_of_ble_eq_true rfl) (ls := [(0, XR x0), (1, XI x1), (2, XI x2)]) rfl ?_
  refine g_iload_n 1 dX9_see_0 rfl ?_
  refine g_iconst (v := -1) dX9_see_1 rfl (i32l rfl) ?_
  refine g_icmp_ne (tgt := 12) dX9_see_2 (by decide) (fun b1 => ?_) (fun b1 => ?_)
  · replace h := ifn b1 h
    refine g_aload_n 0 dX9_see_12 rfl ?_
    refine g_iload_n 1 dX9_see_13 rfl ?_
    obtain ⟨q2, hq2, h⟩ := bnd_some h
    refine v_I (ci := 8) (as := [XI x1]) dX9_see_14 mlX9_211 mdX9_isOne mvX9_isOne rfl hx0 rfl (Nat.le_of_ble_eq_true rfl) (kX9_isOne hx0 hq2) rfl ?_
    refine g_if_ne (tgt := 22) dX9_see_17 (by decide) (fun b3 => ?_) (fun b3 => ?_)
    · replace h := ifn b3 h
      refine g_aload_n 0 dX9_see_22 rfl ?_
      refine g_getI dX9_see_23 flX9_360 (by decide) rfl hx0 ?_
      refine g_iconst (v := 5) dX9_see_26 rfl (i32l rfl) ?_
      refine g_icmp_ne (tgt := 33) dX9_see_27 (by decide) (fun b4 => ?_) (fun b4 => ?_)
      · replace h := ifn b4 h
        refine g_aload_n 0 dX9_see_33 rfl ?_
        refine g_getR dX9_see_34 flX9_35 (by decide) rfl hx0 ?_
        refine g_aload_n 0 dX9_see_37 rfl ?_
        refine g_getI dX9_see_38 flX9_360 (by decide) rfl hx0 ?_
        refine g_iload_n 1 dX9_see_41 rfl ?_
        obtain ⟨c5, h⟩ := chk_some h
        refine g_iast dX9_see_42 (sf_8_11 hx0) c5.1 c5.2 ?_
        refine g_nmM (fun M6 eM6 => ?_)
        replace h := nm_s eM6 h
        refine g_aload_n 0 dX9_see_43 rfl ?_
        refine g_getR dX9_see_44 flX9_44 (by decide) rfl hx0 ?_
        refine g_pc (pc' := 47) rfl ?_
        refine g_aload_n 0 dX9_see_47 rfl ?_
        refine g_getI dX9_see_48 flX9_360 (by decide) rfl hx0 ?_
        refine g_iload_n 2 dX9_see_51 rfl ?_
        obtain ⟨c7, h⟩ := chk_some h
        obtain ⟨c8, h⟩ := chk_some h
        refine g_zast dX9_see_52 (sf_8_14 hx0) c7.1 c7.2 c8 ?_
        refine g_nmM (fun M9 eM9 => ?_)
        replace h := nm_s eM9 h
        refine g_aload_n 0 dX9_see_53 rfl ?_
        refine g_dupR dX9_see_54 ?_
        refine g_getI dX9_see_55 flX9_360 (by decide) rfl hx0 ?_
        refine g_iconst (v := 1) dX9_see_58 rfl (i32l rfl) ?_
        obtain ⟨c10, h⟩ := chk_some h
        refine g_iadd dX9_see_59 rfl c10 ?_
        refine g_pc (pc' := 60) rfl ?_
        refine g_putI dX9_see_60 flX9_360 (by decide) rfl hx0 ?_
        refine g_nmM (fun M11 eM11 => ?_)
        replace h := nm_s eM11 h
        refine g_aload_n 0 dX9_see_63 rfl ?_
        refine g_getI dX9_see_64 flX9_360 (by decide) rfl hx0 ?_
        cases h
        exact g_ireturn dX9_see_67 rfl ⟨rfl, rfl⟩
      · replace h := ifp b4 h
        refine g_pc (pc' := 30) rfl ?_
        refine g_bip dX9_see_30 rfl ?_
        cases h
        exact g_ireturn dX9_see_32 rfl ⟨rfl, rfl⟩
    · replace h := ifp b3 h
      refine g_pc (pc' := 20) rfl ?_
      refine g_iconst (v := -1) dX9_see_20 rfl (i32l rfl) ?_
      cases h
      exact g_ireturn dX9_see_21 rfl ⟨rfl, rfl⟩
  · replace h := ifp b1 h
    refine g_pc (pc' := 5) rfl ?_
    refine g_aload_n 0 dX9_see_5 rfl ?_
    refine g_iconst (v := 0) dX9_see_6 rfl (i32l rfl) ?_
    refine g_putI dX9_see_7 flX9_360 (by decide) rfl hx0 ?_
    refine g_nmM (fun M12 eM12 => ?_)
    replace h := nm_s eM12 h
    refine g_iconst (v := 0) dX9_see_10 rfl (i32l rfl) ?_
    cases h
    exact g_ireturn dX9_see_11 rfl ⟨rfl, rfl⟩
set_option maxHeartbeats 8000000 in
set_option maxRecDepth 20000 in
theorem lX9_isAsSeen_l7 {X : XC} {d : Nat} {Post : Option XV → Mem → Prop} {x0 : Nat} {x1 : Int} (hx0 : Sh x0 = (18, 69)) : ∀ (n : Nat) (x2 : Int) (M : Mem) (z : (Int × Mem) ⊕ (Int × Mem)), fX9_isAsSeen_l7 x0 x1 n x2 M = some z → (∀ r, z = .inl r → Post (some (XI r.1)) r.2) → Go X mX9_isAsSeen (d + 7) 7 [(0, XR x0), (1, XI x1), (2, XI x2)] [] M Post := by
  intro n
  induction n with
  | zero => intro _ _ _ h; cases h
  | succ n ih =>
    intro x2 M z h K1
    unfold fX9_isAsSeen_l7 at h
    refine g_iload_n 2 dX9_isAsSeen_7 rfl ?_
    refine g_aload_n 0 dX9_isAsSeen_8 rfl ?_
    refine g_getI dX9_isAsSeen_9 flX9_360 (by decide) rfl hx0 ?_
    refine g_icmp_ge (tgt := 42) dX9_isAsSeen_12 (by decide) (fun b3 => ?_) (fun b3 => ?_)
    · replace h := ifp b3 h
      refine g_iconst (v := 1) dX9_isAsSeen_42 rfl (i32l rfl) ?_
      cases h
      exact g_zreturn dX9_isAsSeen_43 rfl (by decide) (K1 (1, M) rfl)
    · replace h := ifn b3 h
      refine g_pc (pc' := 15) rfl ?_
      refine g_iload_n 1 dX9_isAsSeen_15 rfl ?_
      refine g_aload_n 0 dX9_isAsSeen_16 rfl ?_
      refine g_getR dX9_isAsSeen_17 flX9_35 (by decide) rfl hx0 ?_
      refine g_iload_n 2 dX9_isAsSeen_20 rfl ?_
      obtain ⟨c4, h⟩ := chk_some h
      refine g_iald dX9_isAsSeen_21 (sf_8_11 hx0) c4.1 c4.2 ?_
      obtain ⟨q5, hq5, h⟩ := bnd_some h
      refine s_I (as := [XI x1, XI (M (x0 + 12) (Int.toNat x2))]) dX9_isAsSeen_22 mlX9_192 mdX9_has msX9_has rfl (Nat.le_of_ble_eq_true rfl) (kX9_has  hq5) rfl ?_
      refine g_aload_n 0 dX9_isAsSeen_25 rfl ?_
      refine g_getR dX9_isAsSeen_26 flX9_44 (by decide) rfl hx0 ?_
      refine g_pc (pc' := 29) rfl ?_
      refine g_iload_n 2 dX9_isAsSeen_29 rfl ?_
      obtain ⟨c6, h⟩ := chk_some h
      refine g_zald dX9_isAsSeen_30 (sf_8_14 hx0) c6.1 c6.2 ?_
      refine g_icmp_eq (tgt := 36) dX9_isAsSeen_31 (by decide) (fun b7 => ?_) (fun b7 => ?_)
      · replace h := ifp b7 h
        obtain ⟨c8, h⟩ := chk_some h
        refine g_iinc (ls' := [(2, XI (x2 + 1)), (0, XR x0), (1, XI x1)]) 2 dX9_isAsSeen_36 rfl rfl c8 (by decide) rfl ?_
        refine g_goto (tgt := 7) dX9_isAsSeen_39 (by decide) ?_
        exact g_sub [1, 2, 0] rfl (ih _ _ _ h K1)
      · replace h := ifn b7 h
        refine g_pc (pc' := 34) rfl ?_
        refine g_iconst (v := 0) dX9_isAsSeen_34 rfl (i32l rfl) ?_
        cases h
        exact g_zreturn dX9_isAsSeen_35 rfl (by decide) (K1 (0, q5.2) rfl)
set_option maxHeartbeats 8000000 in
set_option maxRecDepth 20000 in
theorem kX9_isAsSeen {X : XC} {d : Nat} {x0 : Nat} (hx0 : Sh x0 = (18, 69)) {M : Mem} {q : Int × Mem} (h : fX9_isAsSeen x0 M = some q) : Ct X mX9_isAsSeen (d + 7) [XR x0] M (pI q) := by
  unfold fX9_isAsSeen at h
  refine ct_go (by decide +kernel) (Nat.le_of_ble_eq_true rfl) (ls := [(0, XR x0)]) rfl ?_
  refine g_aload_n 0 dX9_isAsSeen_0 rfl ?_
  obtain ⟨q1, hq1, h⟩ := bnd_some h
  refine v_I (ci := 8) (as := []) dX9_isAsSeen_1 mlX9_320 mdX9_electedSet mvX9_electedSet rfl hx0 rfl (Nat.le_of_ble_eq_true rfl) (kX9_electedSet hx0 hq1) rfl ?_
  refine g_nmI (fun v2 ev2 => ?_)
  replace h := nm_s ev2 h
  refine g_istore_n (ls' := [(1, XI v2), (0, XR x0)]) dX9_isAsSeen_4 (by decide) rfl ?_
  refine g_iconst (v := 0) dX9_isAsSeen_5 rfl (i32l rfl) ?_
  refine g_istore_n (ls' := [(2, XI 0), (1, XI v2), (0, XR x0)]) dX9_isAsSeen_6 (by decide) rfl ?_
  obtain ⟨z9, hz9, rz9, h⟩ := lr_some h
  refine g_sub (ls' := [(0, XR x0), (1, XI v2), (2, XI 0)]) [2, 1, 0] rfl ?_
  refine lX9_isAsSeen_l7 hx0 1000 _ _ _ hz9 (fun r e => ?_)
  have rz9 := rz9 r e
  subst rz9
  exact ⟨rfl, rfl⟩
set_option maxHeartbeats 8000000 in
set_option maxRecDepth 20000 in
theorem lX9_fits_l27 {X : XC} {d : Nat} {Post : Option XV → Mem → Prop} {x0 : Nat} {x1 : Int} {x2 : Int} (hx0 : Sh x0 = (18, 69)) : ∀ (n : Nat) (x3 x4 x5 : Int) (M : Mem) (t0 : Int × Int × Int × Mem), fX9_fits_l27 x0 x1 x2 n x3 x4 x5 M = some t0 → Go X mX9_fits (d + 8) 62 [(0, XR x0), (1, XI x1), (2, XI x2), (3, XI t0.1), (4, XI t0.2.1)] [] t0.2.2.2 Post → Go X mX9_fits (d + 8) 27 [(0, XR x0), (1, XI x1), (2, XI x2), (3, XI x3), (4, XI x4), (5, XI x5)] [] M Post := by
  intro n
  induction n with
  | zero => intro _ _ _ _ _ h; cases h
  | succ n ih =>
    intro x3 x4 x5 M t0 h K
    unfold fX9_fits_l27 at h
    refine g_iload 5 dX9_fits_27 rfl ?_
    refine g_iconst (v := 1) dX9_fits_29 rfl (i32l rfl) ?_
    refine g_icmp_lt (tgt := 62) dX9_fits_30 (by decide) (fun b4 => ?_) (fun b4 => ?_)
    · replace h := ifp b4 h
      cases h
      exact g_sub [0, 1, 2, 3, 4] rfl K
    · replace h := ifn b4 h
      refine g_pc (pc' := 33) rfl ?_
      refine g_aload_n 0 dX9_fits_33 rfl ?_
      refine g_iload 5 dX9_fits_34 rfl ?_
      refine g_putI dX9_fits_36 flX9_25 (by decide) rfl hx0 ?_
      refine g_nmM (fun M5 eM5 => ?_)
      replace h := nm_s eM5 h
      refine g_aload_n 0 dX9_fits_39 rfl ?_
      obtain ⟨q6, hq6, h⟩ := bnd_some h
      refine v_I (ci := 8) (as := []) dX9_fits_40 mlX9_363 mdX9_isAsSeen mvX9_isAsSeen rfl hx0 rfl (Nat.le_of_ble_eq_true rfl) (kX9_isAsSeen hx0 hq6) rfl ?_
      obtain ⟨t9, ht9, h⟩ := bnd_some h
      have Kt9 : Go X mX9_fits (d + 8) 56 [(0, XR x0), (1, XI x1), (2, XI x2), (3, XI t9.1), (4, XI t9.2), (5, XI x5)] [] q6.2 Post := by
        obtain ⟨c12, h⟩ := chk_some h
        refine g_iinc (ls' := [(5, XI (x5 + (-1))), (0, XR x0), (1, XI x1), (2, XI x2), (3, XI t9.1), (4, XI t9.2)]) 5 dX9_fits_56 rfl rfl c12 (by decide) rfl ?_
        refine g_goto (tgt := 27) dX9_fits_59 (by decide) ?_
        exact g_sub [1, 2, 3, 4, 5, 0] rfl (ih _ _ _ _ _ h K)
      refine g_if_ne (tgt := 49) dX9_fits_43 (by decide) (fun b10 => ?_) (fun b10 => ?_)
      · replace ht9 := ifn b10 ht9
        obtain ⟨c11, ht9⟩ := chk_some ht9
        refine g_iinc (ls' := [(3, XI (x3 + 1)), (0, XR x0), (1, XI x1), (2, XI x2), (4, XI x4), (5, XI x5)]) 3 dX9_fits_49 rfl rfl c11 (by decide) rfl ?_
        refine g_iload 5 dX9_fits_52 rfl ?_
        refine g_istore (ls' := [(4, XI x5), (3, XI (x3 + 1)), (0, XR x0), (1, XI x1), (2, XI x2), (5, XI x5)]) dX9_fits_54 (by decide) rfl ?_
        cases ht9
        exact g_sub [2, 3, 4, 1, 0, 5] rfl Kt9
      · replace ht9 := ifp b10 ht9
        refine g_pc (pc' := 46) rfl ?_
        refine g_goto (tgt := 56) dX9_fits_46 (by decide) ?_
        cases ht9
        exact g_sub [0, 1, 2, 3, 4, 5] rfl Kt9
set_option maxHeartbeats 8000000 in
set_option maxRecDepth 20000 in
theorem kX9_fits {X : XC} {d : Nat} {x0 : Nat} {x1 : Int} (hx0 : Sh x0 = (18, 69)) {M : Mem} {q : Int × Mem} (h : fX9_fits x0 x1 M = some q) : Ct X mX9_fits (d + 8) [XR x0, XI x1] M (pI q) := by
  unfold fX9_fits at h
  refine ct_go (by decide +kernel) (Nat.le_of_ble_eq_true rfl) (ls := [(0, XR x0), (1, XI x1)]) rfl ?_
  refine g_iload_n 1 dX9_fits_0 rfl ?_
  refine g_i2l dX9_fits_1 ?_
  refine g_lconst (v := 0) dX9_fits_2 rfl (i64l rfl) ?_
  refine g_lconst (v := 1) dX9_fits_3 rfl (i64l rfl) ?_
  obtain ⟨q1, hq1, h⟩ := bnd_some h
  refine s_I (as := [XL x1, XL 0, XL 1]) dX9_fits_4 mlX9_170 mdX9_in msX9_in rfl (Nat.le_of_ble_eq_true rfl) (kX9_in  hq1) rfl ?_
  refine g_if_ne (tgt := 12) dX9_fits_7 (by decide) (fun b2 => ?_) (fun b2 => ?_)
  · replace h := ifn b2 h
    refine g_aload_n 0 dX9_fits_12 rfl ?_
    refine g_getI dX9_fits_13 flX9_25 (by decide) rfl hx0 ?_
    refine g_nmI (fun v3 ev3 => ?_)
    replace h := nm_s ev3 h
    refine g_istore_n (ls' := [(2, XI v3), (0, XR x0), (1, XI x1)]) dX9_fits_16 (by decide) rfl ?_
    refine g_iconst (v := 0) dX9_fits_17 rfl (i32l rfl) ?_
    refine g_istore_n (ls' := [(3, XI 0), (2, XI v3), (0, XR x0), (1, XI x1)]) dX9_fits_18 (by decide) rfl ?_
    refine g_bip dX9_fits_19 rfl ?_
    refine g_istore (ls' := [(4, XI (-5)), (3, XI 0), (2, XI v3), (0, XR x0), (1, XI x1)]) dX9_fits_21 (by decide) rfl ?_
    refine g_bip dX9_fits_23 rfl ?_
    refine g_pc (pc' := 25) rfl ?_
    refine g_istore (ls' := [(5, XI 7), (4, XI (-5)), (3, XI 0), (2, XI v3), (0, XR x0), (1, XI x1)]) dX9_fits_25 (by decide) rfl ?_
    obtain ⟨z13, hz13, h⟩ := bnd_some h
    refine g_sub (ls' := [(0, XR x0), (1, XI x1), (2, XI v3), (3, XI 0), (4, XI (-5)), (5, XI 7)]) [4, 5, 3, 2, 1, 0] rfl ?_
    refine lX9_fits_l27 hx0 1000 _ _ _ _ _ hz13 ?_
    refine g_aload_n 0 dX9_fits_62 rfl ?_
    refine g_iload_n 2 dX9_fits_63 rfl ?_
    refine g_putI dX9_fits_64 flX9_25 (by decide) rfl hx0 ?_
    refine g_nmM (fun M14 eM14 => ?_)
    replace h := nm_s eM14 h
    refine g_iload_n 1 dX9_fits_67 rfl ?_
    obtain ⟨t16, ht16, h⟩ := bnd_some h
    have Kt16 : Go X mX9_fits (d + 8) 77 [] [XI t16] M14 (pI q) := by
      cases h
      exact g_ireturn dX9_fits_77 rfl ⟨rfl, rfl⟩
    refine g_if_ne (tgt := 75) dX9_fits_68 (by decide) (fun b17 => ?_) (fun b17 => ?_)
    · replace ht16 := ifn b17 ht16
      refine g_iload 4 dX9_fits_75 rfl ?_
      cases ht16
      exact g_sub [] rfl Kt16
    · replace ht16 := ifp b17 ht16
      refine g_pc (pc' := 71) rfl ?_
      refine g_iload_n 3 dX9_fits_71 rfl ?_
      refine g_goto (tgt := 77) dX9_fits_72 (by decide) ?_
      cases ht16
      exact g_sub [] rfl Kt16
  · replace h := ifp b2 h
    refine g_pc (pc' := 10) rfl ?_
    refine g_iconst (v := -1) dX9_fits_10 rfl (i32l rfl) ?_
    cases h
    exact g_ireturn dX9_fits_11 rfl ⟨rfl, rfl⟩
end
