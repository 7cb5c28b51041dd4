section
set_option maxHeartbeats 8000000 in
set_option maxRecDepth 20000 in
theorem lX8_needs_l98 {X : XC} {d : Nat} {Post : Option XV → Mem → Prop} {x0 : Nat} {x1 : Int} {x2 : Int} {x3 : Int} {x4 : Int} (hx0 : Sh x0 = (17, 10)) : ∀ (n : Nat) (x6 : Int) (M : Mem) (z : (Int × Mem) ⊕ (Int × Mem)), fX8_needs_l98 x0 x1 x2 x3 x4 n x6 M = some z → (∀ r, z = .inl r → Post (some (XI r.1)) r.2) → Go X mX8_needs (d + 6) 98 [(0, XR x0), (1, XI x1), (2, XI x2), (3, XI x3), (4, XL x4), (6, XI x6)] [] M Post := by
  intro n
  induction n with
  | zero => intro _ _ _ h; cases h
  | succ n ih =>
    intro x6 M z h K1
    unfold fX8_needs_l98 at h
    refine g_iload 5 dX8_needs_98 rfl ?_
    refine g_bip dX8_needs_100 rfl ?_
    refine g_icmp_gt (tgt := 153) dX8_needs_102 (by decide) (fun b16 => ?_) (fun b16 => ?_)
    · replace h := ifp b16 h
      refine g_bip dX8_needs_153 rfl ?_
      cases h
      exact g_ireturn dX8_needs_155 rfl (K1 ((-5), M) rfl)
    · replace h := ifn b16 h
      refine g_pc (pc' := 105) rfl ?_
      refine g_lload 4 dX8_needs_105 rfl ?_
      refine g_iload 5 dX8_needs_107 rfl ?_
      refine g_iload_n 2 dX8_needs_109 rfl ?_
      obtain ⟨c17, h⟩ := chk_some h
      refine g_imul dX8_needs_110 rfl c17 ?_
      refine g_i2l dX8_needs_111 ?_
      obtain ⟨c18, h⟩ := chk_some h
      refine g_ladd dX8_needs_112 rfl c18 ?_
      refine g_ldc2 (v := 4611686) dX8_needs_113 csX8_131 (by decide +kernel) (i64l rfl) ?_
      refine g_lcmp_gt (tgt := 153) dX8_needs_116 dX8_needs_117 (by decide) (fun b19 => ?_) (fun b19 => ?_)
      · replace h := ifp b19 h
        refine g_bip dX8_needs_153 rfl ?_
        cases h
        exact g_ireturn dX8_needs_155 rfl (K1 ((-5), M) rfl)
      · replace h := ifn b19 h
        refine g_pc (pc' := 120) rfl ?_
        refine g_aload_n 0 dX8_needs_120 rfl ?_
        refine g_getR dX8_needs_121 flX8_18 (by decide) rfl hx0 ?_
        refine g_getR dX8_needs_124 flX8_96 (by decide) rfl (sf_7_1 hx0) ?_
        refine g_iload_n 3 dX8_needs_127 rfl ?_
        refine g_iload 5 dX8_needs_128 rfl ?_
        refine g_iload_n 2 dX8_needs_130 rfl ?_
        obtain ⟨c20, h⟩ := chk_some h
        refine g_imul dX8_needs_131 rfl c20 ?_
        obtain ⟨c21, h⟩ := chk_some h
        refine g_iast dX8_needs_132 (sf_1_5 (sf_7_1 hx0)) c21.1 c21.2 ?_
        refine g_nmM (fun M22 eM22 => ?_)
        replace h := nm_s eM22 h
        refine g_pc (pc' := 133) rfl ?_
        refine g_aload_n 0 dX8_needs_133 rfl ?_
        obtain ⟨q23, hq23, h⟩ := bnd_some h
        refine v_I (ci := 7) (as := []) dX8_needs_134 mlX8_256 mdX8_electedInThought mvX8_electedInThought rfl hx0 rfl (Nat.le_of_ble_eq_true rfl) (kX8_electedInThought hx0 hq23) rfl ?_
        refine g_iload_n 1 dX8_needs_137 rfl ?_
        refine g_ishr dX8_needs_138 ?_
        refine g_iconst (v := 1) dX8_needs_139 rfl (i32l rfl) ?_
        refine g_iand dX8_needs_140 ?_
        refine g_if_eq (tgt := 147) dX8_needs_141 (by decide) (fun b24 => ?_) (fun b24 => ?_)
        · replace h := ifp b24 h
          obtain ⟨c25, h⟩ := chk_some h
          refine g_iinc (ls' := [(6, XI (x6 + 1)), (0, XR x0), (1, XI x1), (2, XI x2), (3, XI x3), (4, XL x4)]) 5 dX8_needs_147 rfl rfl c25 (by decide) rfl ?_
          refine g_goto (tgt := 98) dX8_needs_150 (by decide) ?_
          exact g_sub [1, 2, 3, 4, 5, 0] rfl (ih _ _ _ h K1)
        · replace h := ifn b24 h
          refine g_pc (pc' := 144) rfl ?_
          refine g_iload 5 dX8_needs_144 rfl ?_
          cases h
          exact g_ireturn dX8_needs_146 rfl (K1 (x6, q23.2) rfl)
set_option maxHeartbeats 8000000 in
set_option maxRecDepth 20000 in
theorem kX8_needs {X : XC} {d : Nat} {x0 : Nat} {x1 : Int} {x2 : Int} (hx0 : Sh x0 = (17, 10)) {M : Mem} {q : Int × Mem} (h : fX8_needs x0 x1 x2 M = some q) : Ct X mX8_needs (d + 6) [XR x0, XI x1, XI x2] M (pI q) := by
  unfold fX8_needs at h
  refine ct_go (by decide +kernel) (Nat.le_of_ble_eq_true rfl) (ls := [(0, XR x0), (1, XI x1), (2, XI x2)]) rfl ?_
  refine g_aload_n 0 dX8_needs_0 rfl ?_
  refine g_getR dX8_needs_1 flX8_14 (by decide) rfl hx0 ?_
  refine g_iload_n 1 dX8_needs_4 rfl ?_
  obtain ⟨q1, hq1, h⟩ := bnd_some h
  refine v_I (ci := 1) (as := [XI x1]) dX8_needs_5 mlX8_103 mdX1_hasCandidate mvX1_hasCandidate rfl (sf_7_0 hx0) rfl (Nat.le_of_ble_eq_true rfl) (kX1_hasCandidate (sf_7_0 hx0) hq1) rfl ?_
  refine g_if_ne (tgt := 13) dX8_needs_8 (by decide) (fun b2 => ?_) (fun b2 => ?_)
  · replace h := ifn b2 h
    refine g_iload_n 2 dX8_needs_13 rfl ?_
    refine g_iconst (v := 1) dX8_needs_14 rfl (i32l rfl) ?_
    refine g_icmp_lt (tgt := 25) dX8_needs_15 (by decide) (fun b3 => ?_) (fun b3 => ?_)
    · replace h := ifp b3 h
      refine g_bip dX8_needs_25 rfl ?_
      cases h
      exact g_ireturn dX8_needs_27 rfl ⟨rfl, rfl⟩
    · replace h := ifn b3 h
      refine g_pc (pc' := 18) rfl ?_
      refine g_iload_n 2 dX8_needs_18 rfl ?_
      refine g_sip dX8_needs_19 rfl ?_
      refine g_icmp_le (tgt := 28) dX8_needs_22 (by decide) (fun b4 => ?_) (fun b4 => ?_)
      · replace h := ifp b4 h
        refine g_aload_n 0 dX8_needs_28 rfl ?_
        refine g_getR dX8_needs_29 flX8_14 (by decide) rfl hx0 ?_
        refine g_getR dX8_needs_32 flX8_72 (by decide) rfl (sf_7_0 hx0) ?_
        refine g_iload_n 1 dX8_needs_35 rfl ?_
        obtain ⟨c5, h⟩ := chk_some h
        refine g_zald dX8_needs_36 (sf_1_2 (sf_7_0 hx0)) c5.1 c5.2 ?_
        refine g_if_eq (tgt := 43) dX8_needs_37 (by decide) (fun b6 => ?_) (fun b6 => ?_)
        · replace h := ifp b6 h
          refine g_aload_n 0 dX8_needs_43 rfl ?_
          refine g_getR dX8_needs_44 flX8_18 (by decide) rfl hx0 ?_
          refine g_aload_n 0 dX8_needs_47 rfl ?_
          refine g_getR dX8_needs_48 flX8_14 (by decide) rfl hx0 ?_
          obtain ⟨q7, hq7, h⟩ := bnd_some h
          refine v_V (ci := 1) (as := [XR (x0 + 10990)]) dX8_needs_51 mlX8_253 mdX1_copyFrom mvX1_copyFrom rfl (sf_7_1 hx0) rfl (Nat.le_of_ble_eq_true rfl) (kX1_copyFrom (sf_7_1 hx0) (sf_7_0 hx0) hq7) rfl ?_
          refine g_aload_n 0 dX8_needs_54 rfl ?_
          refine g_getR dX8_needs_55 flX8_14 (by decide) rfl hx0 ?_
          refine g_getI dX8_needs_58 flX8_83 (by decide) rfl (sf_7_0 hx0) ?_
          refine g_pc (pc' := 61) rfl ?_
          refine g_nmI (fun v8 ev8 => ?_)
          replace h := nm_s ev8 h
          refine g_istore_n (ls' := [(3, XI v8), (0, XR x0), (1, XI x1), (2, XI x2)]) dX8_needs_61 (by decide) rfl ?_
          refine g_aload_n 1 dX8_needs_62 rfl ?_
          refine g_getR dX8_needs_63 flX8_18 (by decide) rfl hx0 ?_
          refine g_getR dX8_needs_66 flX8_89 (by decide) rfl (sf_7_1 hx0) ?_
          refine g_iload_n 0 dX8_needs_69 rfl ?_
          refine g_iload_n 2 dX8_needs_70 rfl ?_
          refine g_iconst (v := 0) dX8_needs_71 rfl (i32l rfl) ?_
          obtain ⟨q9, hq9, h⟩ := bnd_some h
          refine s_I (as := [XI x1, XI 0]) dX8_needs_72 mlX8_259 mdX2_ledBy msX2_ledBy rfl (Nat.le_of_ble_eq_true rfl) (kX2_ledBy  hq9) rfl ?_
          obtain ⟨c10, h⟩ := chk_some h
          refine g_iast dX8_needs_75 (sf_1_4 (sf_7_1 hx0)) c10.1 c10.2 ?_
          refine g_nmM (fun M11 eM11 => ?_)
          replace h := nm_s eM11 h
          refine g_pc (pc' := 76) rfl ?_
          refine g_aload_n 1 dX8_needs_76 rfl ?_
          refine g_getR dX8_needs_77 flX8_18 (by decide) rfl hx0 ?_
          refine g_iload_n 0 dX8_needs_80 rfl ?_
          refine g_iconst (v := 1) dX8_needs_81 rfl (i32l rfl) ?_
          obtain ⟨c12, h⟩ := chk_some h
          refine g_iadd dX8_needs_82 rfl c12 ?_
          refine g_putI dX8_needs_83 flX8_83 (by decide) rfl (sf_7_1 hx0) ?_
          refine g_nmM (fun M13 eM13 => ?_)
          replace h := nm_s eM13 h
          refine g_aload_n 1 dX8_needs_86 rfl ?_
          refine g_getR dX8_needs_87 flX8_14 (by decide) rfl hx0 ?_
          obtain ⟨q14, hq14, h⟩ := bnd_some h
          refine v_J (ci := 1) (as := []) dX8_needs_90 mlX8_262 mdX1_together mvX1_together rfl (sf_7_0 hx0) rfl (Nat.le_of_ble_eq_true rfl) (kX1_together (sf_7_0 hx0) hq14) rfl ?_
          refine g_pc (pc' := 93) rfl ?_
          refine g_nmL (fun v15 ev15 => ?_)
          replace h := nm_s ev15 h
          refine g_lstore (ls' := [(4, XL v15), (3, XI v8), (0, XR x0), (1, XI x1), (2, XI x2)]) dX8_needs_93 (by decide) rfl ?_
          refine g_iconst (v := 0) dX8_needs_95 rfl (i32l rfl) ?_
          refine g_istore (ls' := [(6, XI 0), (4, XL v15), (3, XI v8), (0, XR x0), (1, XI x1), (2, XI x2)]) dX8_needs_96 (by decide) rfl ?_
          obtain ⟨z26, hz26, rz26, h⟩ := lr_some h
          refine g_sub (ls' := [(0, XR x0), (1, XI x1), (2, XI x2), (3, XI v8), (4, XL v15), (6, XI 0)]) [3, 4, 5, 2, 1, 0] rfl ?_
          refine lX8_needs_l98 hx0 1000 _ _ _ hz26 (fun r e => ?_)
          have rz26 := rz26 r e
          subst rz26
          exact ⟨rfl, rfl⟩
        · replace h := ifn b6 h
          refine g_pc (pc' := 40) rfl ?_
          refine g_bip dX8_needs_40 rfl ?_
          cases h
          exact g_ireturn dX8_needs_42 rfl ⟨rfl, rfl⟩
      · replace h := ifn b4 h
        refine g_pc (pc' := 25) rfl ?_
        refine g_bip dX8_needs_25 rfl ?_
        cases h
        exact g_ireturn dX8_needs_27 rfl ⟨rfl, rfl⟩
  · replace h := ifp b2 h
    refine g_pc (pc' := 11) rfl ?_
    refine g_iconst (v := -1) dX8_needs_11 rfl (i32l rfl) ?_
    cases h
    exact g_ireturn dX8_needs_12 rfl ⟨rfl, rfl⟩
set_option maxHeartbeats 8000000 in
set_option maxRecDepth 20000 in
theorem kX8_see {X : XC} {d : Nat} {x0 : Nat} {x1 : Int} {x2 : Int} (hx0 : Sh x0 = (17, 10)) {M : Mem} {q : Int × Mem} (h : fX8_see x0 x1 x2 M = some q) : Ct X mX8_see (d + 1) [XR x0, XI x1, XI x2] M (pI q) := by
  unfold fX8_see at h
  refine ct_go (by decide +kernel) (Nat.le_of_ble_eq_true rfl) (ls := [(0, XR x0), (1, XI x1), (2, XI x2)]) rfl ?_
  refine g_iload_n 1 dX8_see_0 rfl ?_
  refine g_iconst (v := -1) dX8_see_1 rfl (i32l rfl) ?_
  refine g_icmp_ne (tgt := 15) dX8_see_2 (by decide) (fun b1 => ?_) (fun b1 => ?_)
  · replace h := ifn b1 h
    refine g_aload_n 0 dX8_see_15 rfl ?_
    refine g_getR dX8_see_16 flX8_14 (by decide) rfl hx0 ?_
    refine g_iload_n 1 dX8_see_19 rfl ?_
    obtain ⟨q2, hq2, h⟩ := bnd_some h
    refine v_I (ci := 1) (as := [XI x1]) dX8_see_20 mlX8_103 mdX1_hasCandidate mvX1_hasCandidate rfl (sf_7_0 hx0) rfl (Nat.le_of_ble_eq_true rfl) (kX1_hasCandidate (sf_7_0 hx0) hq2) rfl ?_
    refine g_if_ne (tgt := 28) dX8_see_23 (by decide) (fun b3 => ?_) (fun b3 => ?_)
    · replace h := ifn b3 h
      refine g_aload_n 0 dX8_see_28 rfl ?_
      refine g_getR dX8_see_29 flX8_14 (by decide) rfl hx0 ?_
      refine g_getI dX8_see_32 flX8_266 (by decide) rfl (sf_7_0 hx0) ?_
      refine g_iconst (v := 5) dX8_see_35 rfl (i32l rfl) ?_
      refine g_icmp_lt (tgt := 42) dX8_see_36 (by decide) (fun b4 => ?_) (fun b4 => ?_)
      · replace h := ifp b4 h
        refine g_aload_n 0 dX8_see_42 rfl ?_
        refine g_getR dX8_see_43 flX8_14 (by decide) rfl hx0 ?_
        refine g_getR dX8_see_46 flX8_269 (by decide) rfl (sf_7_0 hx0) ?_
        refine g_aload_n 0 dX8_see_49 rfl ?_
        refine g_getR dX8_see_50 flX8_14 (by decide) rfl hx0 ?_
        refine g_getI dX8_see_53 flX8_266 (by decide) rfl (sf_7_0 hx0) ?_
        refine g_iload_n 1 dX8_see_56 rfl ?_
        obtain ⟨c5, h⟩ := chk_some h
        refine g_iast dX8_see_57 (sf_1_10 (sf_7_0 hx0)) c5.1 c5.2 ?_
        refine g_nmM (fun M6 eM6 => ?_)
        replace h := nm_s eM6 h
        refine g_pc (pc' := 58) rfl ?_
        refine g_aload_n 0 dX8_see_58 rfl ?_
        refine g_getR dX8_see_59 flX8_14 (by decide) rfl hx0 ?_
        refine g_getR dX8_see_62 flX8_272 (by decide) rfl (sf_7_0 hx0) ?_
        refine g_aload_n 0 dX8_see_65 rfl ?_
        refine g_getR dX8_see_66 flX8_14 (by decide) rfl hx0 ?_
        refine g_getI dX8_see_69 flX8_266 (by decide) rfl (sf_7_0 hx0) ?_
        refine g_iload_n 2 dX8_see_72 rfl ?_
        obtain ⟨c7, h⟩ := chk_some h
        obtain ⟨c8, h⟩ := chk_some h
        refine g_zast dX8_see_73 (sf_1_11 (sf_7_0 hx0)) c7.1 c7.2 c8 ?_
        refine g_nmM (fun M9 eM9 => ?_)
        replace h := nm_s eM9 h
        refine g_aload_n 0 dX8_see_74 rfl ?_
        refine g_pc (pc' := 75) rfl ?_
        refine g_getR dX8_see_75 flX8_14 (by decide) rfl hx0 ?_
        refine g_dupR dX8_see_78 ?_
        refine g_getI dX8_see_79 flX8_266 (by decide) rfl (sf_7_0 hx0) ?_
        refine g_iconst (v := 1) dX8_see_82 rfl (i32l rfl) ?_
        obtain ⟨c10, h⟩ := chk_some h
        refine g_iadd dX8_see_83 rfl c10 ?_
        refine g_putI dX8_see_84 flX8_266 (by decide) rfl (sf_7_0 hx0) ?_
        refine g_nmM (fun M11 eM11 => ?_)
        replace h := nm_s eM11 h
        refine g_aload_n 0 dX8_see_87 rfl ?_
        refine g_getR dX8_see_88 flX8_14 (by decide) rfl hx0 ?_
        refine g_getI dX8_see_91 flX8_266 (by decide) rfl (sf_7_0 hx0) ?_
        refine g_pc (pc' := 94) rfl ?_
        cases h
        exact g_ireturn dX8_see_94 rfl ⟨rfl, rfl⟩
      · replace h := ifn b4 h
        refine g_pc (pc' := 39) rfl ?_
        refine g_bip dX8_see_39 rfl ?_
        cases h
        exact g_ireturn dX8_see_41 rfl ⟨rfl, rfl⟩
    · replace h := ifp b3 h
      refine g_pc (pc' := 26) rfl ?_
      refine g_iconst (v := -1) dX8_see_26 rfl (i32l rfl) ?_
      cases h
      exact g_ireturn dX8_see_27 rfl ⟨rfl, rfl⟩
  · replace h := ifp b1 h
    refine g_pc (pc' := 5) rfl ?_
    refine g_aload_n 0 dX8_see_5 rfl ?_
    refine g_getR dX8_see_6 flX8_14 (by decide) rfl hx0 ?_
    refine g_iconst (v := 0) dX8_see_9 rfl (i32l rfl) ?_
    refine g_putI dX8_see_10 flX8_266 (by decide) rfl (sf_7_0 hx0) ?_
    refine g_nmM (fun M12 eM12 => ?_)
    replace h := nm_s eM12 h
    refine g_iconst (v := 0) dX8_see_13 rfl (i32l rfl) ?_
    cases h
    exact g_ireturn dX8_see_14 rfl ⟨rfl, rfl⟩
set_option maxHeartbeats 8000000 in
set_option maxRecDepth 20000 in
theorem lX8_fits_l31 {X : XC} {d : Nat} {Post : Option XV → Mem → Prop} {x0 : Nat} {x1 : Int} (hx0 : Sh x0 = (17, 10)) : ∀ (n : Nat) (x2 x3 x4 : Int) (M : Mem) (t0 : Int × Int × Int × Mem), fX8_fits_l31 x0 x1 n x2 x3 x4 M = some t0 → Go X mX8_fits (d + 6) 72 [(1, XI x1), (2, XI t0.1), (3, XI t0.2.1)] [] t0.2.2.2 Post → Go X mX8_fits (d + 6) 31 [(0, XR x0), (1, XI x1), (2, XI x2), (3, XI x3), (4, XI x4)] [] M Post := by
  intro n
  induction n with
  | zero => intro _ _ _ _ _ h; cases h
  | succ n ih =>
    intro x2 x3 x4 M t0 h K
    unfold fX8_fits_l31 at h
    refine g_iload 4 dX8_fits_31 rfl ?_
    refine g_iconst (v := 1) dX8_fits_33 rfl (i32l rfl) ?_
    refine g_icmp_lt (tgt := 72) dX8_fits_34 (by decide) (fun b4 => ?_) (fun b4 => ?_)
    · replace h := ifp b4 h
      cases h
      exact g_sub [1, 2, 3] rfl K
    · replace h := ifn b4 h
      refine g_pc (pc' := 37) rfl ?_
      refine g_aload_n 0 dX8_fits_37 rfl ?_
      refine g_getR dX8_fits_38 flX8_18 (by decide) rfl hx0 ?_
      refine g_iload 4 dX8_fits_41 rfl ?_
      refine g_putI dX8_fits_43 flX8_116 (by decide) rfl (sf_7_1 hx0) ?_
      refine g_nmM (fun M5 eM5 => ?_)
      replace h := nm_s eM5 h
      refine g_aload_n 0 dX8_fits_46 rfl ?_
      refine g_getR dX8_fits_47 flX8_14 (by decide) rfl hx0 ?_
      refine g_aload_n 0 dX8_fits_50 rfl ?_
      obtain ⟨q6, hq6, h⟩ := bnd_some h
      refine v_I (ci := 7) (as := []) dX8_fits_51 mlX8_256 mdX8_electedInThought mvX8_electedInThought rfl hx0 rfl (Nat.le_of_ble_eq_true rfl) (kX8_electedInThought hx0 hq6) rfl ?_
      refine g_pc (pc' := 54) rfl ?_
      obtain ⟨q7, hq7, h⟩ := bnd_some h
      refine v_I (ci := 1) (as := [XI q6.1]) dX8_fits_54 mlX8_275 mdX1_isSeenSo mvX1_isSeenSo rfl (sf_7_0 hx0) rfl (Nat.le_of_ble_eq_true rfl) (kX1_isSeenSo (sf_7_0 hx0) hq7) rfl ?_
      obtain ⟨t10, ht10, h⟩ := bnd_some h
      have Kt10 : Go X mX8_fits (d + 6) 66 [(0, XR x0), (1, XI x1), (2, XI t10.1), (3, XI t10.2), (4, XI x4)] [] q7.2 Post := by
        obtain ⟨c13, h⟩ := chk_some h
        refine g_iinc (ls' := [(4, XI (x4 + (-1))), (0, XR x0), (1, XI x1), (2, XI t10.1), (3, XI t10.2)]) 4 dX8_fits_66 rfl rfl c13 (by decide) rfl ?_
        refine g_goto (tgt := 31) dX8_fits_69 (by decide) ?_
        exact g_sub [1, 2, 3, 4, 0] rfl (ih _ _ _ _ _ h K)
      refine g_if_eq (tgt := 66) dX8_fits_57 (by decide) (fun b11 => ?_) (fun b11 => ?_)
      · replace ht10 := ifp b11 ht10
        cases ht10
        exact g_sub [0, 1, 2, 3, 4] rfl Kt10
      · replace ht10 := ifn b11 ht10
        refine g_pc (pc' := 60) rfl ?_
        obtain ⟨c12, ht10⟩ := chk_some ht10
        refine g_iinc (ls' := [(2, XI (x2 + 1)), (0, XR x0), (1, XI x1), (3, XI x3), (4, XI x4)]) 2 dX8_fits_60 rfl rfl c12 (by decide) rfl ?_
        refine g_iload 4 dX8_fits_63 rfl ?_
        refine g_istore_n (ls' := [(3, XI x4), (2, XI (x2 + 1)), (0, XR x0), (1, XI x1), (4, XI x4)]) dX8_fits_65 (by decide) rfl ?_
        cases ht10
        exact g_sub [2, 3, 1, 0, 4] rfl Kt10
set_option maxHeartbeats 8000000 in
set_option maxRecDepth 20000 in
theorem kX8_fits {X : XC} {d : Nat} {x0 : Nat} {x1 : Int} (hx0 : Sh x0 = (17, 10)) {M : Mem} {q : Int × Mem} (h : fX8_fits x0 x1 M = some q) : Ct X mX8_fits (d + 6) [XR x0, XI x1] M (pI q) := by
  unfold fX8_fits at h
  refine ct_go (by decide +kernel) (Nat.le_of_ble_eq_true rfl) (ls := [(0, XR x0), (1, XI x1)]) rfl ?_
  refine g_iload_n 1 dX8_fits_0 rfl ?_
  refine g_if_lt (tgt := 9) dX8_fits_1 (by decide) (fun b1 => ?_) (fun b1 => ?_)
  · replace h := ifp b1 h
    refine g_iconst (v := -1) dX8_fits_9 rfl (i32l rfl) ?_
    cases h
    exact g_ireturn dX8_fits_10 rfl ⟨rfl, rfl⟩
  · replace h := ifn b1 h
    refine g_pc (pc' := 4) rfl ?_
    refine g_iload_n 1 dX8_fits_4 rfl ?_
    refine g_iconst (v := 1) dX8_fits_5 rfl (i32l rfl) ?_
    refine g_icmp_le (tgt := 11) dX8_fits_6 (by decide) (fun b2 => ?_) (fun b2 => ?_)
    · replace h := ifp b2 h
      refine g_iconst (v := 0) dX8_fits_11 rfl (i32l rfl) ?_
      refine g_istore_n (ls' := [(2, XI 0), (0, XR x0), (1, XI x1)]) dX8_fits_12 (by decide) rfl ?_
      refine g_bip dX8_fits_13 rfl ?_
      refine g_istore_n (ls' := [(3, XI (-5)), (2, XI 0), (0, XR x0), (1, XI x1)]) dX8_fits_15 (by decide) rfl ?_
      refine g_aload_n 2 dX8_fits_16 rfl ?_
      refine g_getR dX8_fits_17 flX8_18 (by decide) rfl hx0 ?_
      refine g_aload_n 2 dX8_fits_20 rfl ?_
      refine g_getR dX8_fits_21 flX8_14 (by decide) rfl hx0 ?_
      refine g_pc (pc' := 24) rfl ?_
      obtain ⟨q3, hq3, h⟩ := bnd_some h
      refine v_V (ci := 1) (as := [XR (x0 + 10990)]) dX8_fits_24 mlX8_253 mdX1_copyFrom mvX1_copyFrom rfl (sf_7_1 hx0) rfl (Nat.le_of_ble_eq_true rfl) (kX1_copyFrom (sf_7_1 hx0) (sf_7_0 hx0) hq3) rfl ?_
      refine g_bip dX8_fits_27 rfl ?_
      refine g_istore (ls' := [(4, XI 7), (3, XI (-5)), (2, XI 0), (0, XR x0), (1, XI x1)]) dX8_fits_29 (by decide) rfl ?_
      obtain ⟨z14, hz14, h⟩ := bnd_some h
      refine g_sub (ls' := [(0, XR x0), (1, XI x1), (2, XI 0), (3, XI (-5)), (4, XI 7)]) [3, 4, 2, 1, 0] rfl ?_
      refine lX8_fits_l31 hx0 1000 _ _ _ _ _ hz14 ?_
      refine g_iload_n 0 dX8_fits_72 rfl ?_
      obtain ⟨t16, ht16, h⟩ := bnd_some h
      have Kt16 : Go X mX8_fits (d + 6) 81 [] [XI t16] z14.2.2.2 (pI q) := by
        cases h
        exact g_ireturn dX8_fits_81 rfl ⟨rfl, rfl⟩
      refine g_if_ne (tgt := 80) dX8_fits_73 (by decide) (fun b17 => ?_) (fun b17 => ?_)
      · replace ht16 := ifn b17 ht16
        refine g_iload_n 2 dX8_fits_80 rfl ?_
        cases ht16
        exact g_sub [] rfl Kt16
      · replace ht16 := ifp b17 ht16
        refine g_pc (pc' := 76) rfl ?_
        refine g_iload_n 1 dX8_fits_76 rfl ?_
        refine g_goto (tgt := 81) dX8_fits_77 (by decide) ?_
        cases ht16
        exact g_sub [] rfl Kt16
    · replace h := ifn b2 h
      refine g_pc (pc' := 9) rfl ?_
      refine g_iconst (v := -1) dX8_fits_9 rfl (i32l rfl) ?_
      cases h
      exact g_ireturn dX8_fits_10 rfl ⟨rfl, rfl⟩
set_option maxHeartbeats 8000000 in
set_option maxRecDepth 20000 in
theorem kX8_event {X : XC} {d : Nat} {x0 : Nat} {x1 : Int} {x2 : Int} (hx0 : Sh x0 = (17, 10)) {M : Mem} {q : Int × Mem} (h : fX8_event x0 x1 x2 M = some q) : Ct X mX8_event (d + 1) [XR x0, XI x1, XI x2] M (pI q) := by
  unfold fX8_event at h
  refine ct_go (by decide +kernel) (Nat.le_of_ble_eq_true rfl) (ls := [(0, XR x0), (1, XI x1), (2, XI x2)]) rfl ?_
  refine g_iload_n 1 dX8_event_0 rfl ?_
  refine g_iconst (v := -1) dX8_event_1 rfl (i32l rfl) ?_
  refine g_icmp_ne (tgt := 15) dX8_event_2 (by decide) (fun b1 => ?_) (fun b1 => ?_)
  · replace h := ifn b1 h
    refine g_iload_n 1 dX8_event_15 rfl ?_
    refine g_if_lt (tgt := 24) dX8_event_16 (by decide) (fun b2 => ?_) (fun b2 => ?_)
    · replace h := ifp b2 h
      refine g_iconst (v := -1) dX8_event_24 rfl (i32l rfl) ?_
      cases h
      exact g_ireturn dX8_event_25 rfl ⟨rfl, rfl⟩
    · replace h := ifn b2 h
      refine g_pc (pc' := 19) rfl ?_
      refine g_iload_n 1 dX8_event_19 rfl ?_
      refine g_iconst (v := 3) dX8_event_20 rfl (i32l rfl) ?_
      refine g_icmp_le (tgt := 26) dX8_event_21 (by decide) (fun b3 => ?_) (fun b3 => ?_)
      · replace h := ifp b3 h
        refine g_iload_n 1 dX8_event_26 rfl ?_
        refine g_iconst (v := 2) dX8_event_27 rfl (i32l rfl) ?_
        refine g_icmp_ne (tgt := 45) dX8_event_28 (by decide) (fun b4 => ?_) (fun b4 => ?_)
        · replace h := ifn b4 h
          refine g_aload_n 0 dX8_event_45 rfl ?_
          refine g_getR dX8_event_46 flX8_14 (by decide) rfl hx0 ?_
          refine g_iload_n 2 dX8_event_49 rfl ?_
          obtain ⟨q5, hq5, h⟩ := bnd_some h
          refine v_I (ci := 1) (as := [XI x2]) dX8_event_50 mlX8_103 mdX1_hasCandidate mvX1_hasCandidate rfl (sf_7_0 hx0) rfl (Nat.le_of_ble_eq_true rfl) (kX1_hasCandidate (sf_7_0 hx0) hq5) rfl ?_
          refine g_if_ne (tgt := 58) dX8_event_53 (by decide) (fun b6 => ?_) (fun b6 => ?_)
          · replace h := ifn b6 h
            refine g_aload_n 0 dX8_event_58 rfl ?_
            refine g_getR dX8_event_59 flX8_14 (by decide) rfl hx0 ?_
            refine g_getI dX8_event_62 flX8_278 (by decide) rfl (sf_7_0 hx0) ?_
            refine g_bip dX8_event_65 rfl ?_
            refine g_icmp_lt (tgt := 73) dX8_event_67 (by decide) (fun b7 => ?_) (fun b7 => ?_)
            · replace h := ifp b7 h
              refine g_aload_n 0 dX8_event_73 rfl ?_
              refine g_getR dX8_event_74 flX8_14 (by decide) rfl hx0 ?_
              refine g_getR dX8_event_77 flX8_281 (by decide) rfl (sf_7_0 hx0) ?_
              refine g_aload_n 0 dX8_event_80 rfl ?_
              refine g_getR dX8_event_81 flX8_14 (by decide) rfl hx0 ?_
              refine g_getI dX8_event_84 flX8_278 (by decide) rfl (sf_7_0 hx0) ?_
              refine g_iload_n 1 dX8_event_87 rfl ?_
              obtain ⟨c8, h⟩ := chk_some h
              refine g_iast dX8_event_88 (sf_1_13 (sf_7_0 hx0)) c8.1 c8.2 ?_
              refine g_nmM (fun M9 eM9 => ?_)
              replace h := nm_s eM9 h
              refine g_pc (pc' := 89) rfl ?_
              refine g_aload_n 0 dX8_event_89 rfl ?_
              refine g_getR dX8_event_90 flX8_14 (by decide) rfl hx0 ?_
              refine g_getR dX8_event_93 flX8_284 (by decide) rfl (sf_7_0 hx0) ?_
              refine g_aload_n 0 dX8_event_96 rfl ?_
              refine g_getR dX8_event_97 flX8_14 (by decide) rfl hx0 ?_
              refine g_getI dX8_event_100 flX8_278 (by decide) rfl (sf_7_0 hx0) ?_
              refine g_iload_n 2 dX8_event_103 rfl ?_
              obtain ⟨c10, h⟩ := chk_some h
              refine g_iast dX8_event_104 (sf_1_14 (sf_7_0 hx0)) c10.1 c10.2 ?_
              refine g_nmM (fun M11 eM11 => ?_)
              replace h := nm_s eM11 h
              refine g_aload_n 0 dX8_event_105 rfl ?_
              refine g_pc (pc' := 106) rfl ?_
              refine g_getR dX8_event_106 flX8_14 (by decide) rfl hx0 ?_
              refine g_dupR dX8_event_109 ?_
              refine g_getI dX8_event_110 flX8_278 (by decide) rfl (sf_7_0 hx0) ?_
              refine g_iconst (v := 1) dX8_event_113 rfl (i32l rfl) ?_
              obtain ⟨c12, h⟩ := chk_some h
              refine g_iadd dX8_event_114 rfl c12 ?_
              refine g_putI dX8_event_115 flX8_278 (by decide) rfl (sf_7_0 hx0) ?_
              refine g_nmM (fun M13 eM13 => ?_)
              replace h := nm_s eM13 h
              refine g_aload_n 0 dX8_event_118 rfl ?_
              refine g_getR dX8_event_119 flX8_14 (by decide) rfl hx0 ?_
              refine g_getI dX8_event_122 flX8_278 (by decide) rfl (sf_7_0 hx0) ?_
              refine g_pc (pc' := 125) rfl ?_
              cases h
              exact g_ireturn dX8_event_125 rfl ⟨rfl, rfl⟩
            · replace h := ifn b7 h
              refine g_pc (pc' := 70) rfl ?_
              refine g_bip dX8_event_70 rfl ?_
              cases h
              exact g_ireturn dX8_event_72 rfl ⟨rfl, rfl⟩
          · replace h := ifp b6 h
            refine g_pc (pc' := 56) rfl ?_
            refine g_iconst (v := -1) dX8_event_56 rfl (i32l rfl) ?_
            cases h
            exact g_ireturn dX8_event_57 rfl ⟨rfl, rfl⟩
        · replace h := ifp b4 h
          refine g_pc (pc' := 31) rfl ?_
          refine g_iload_n 2 dX8_event_31 rfl ?_
          refine g_iconst (v := 1) dX8_event_32 rfl (i32l rfl) ?_
          refine g_icmp_lt (tgt := 42) dX8_event_33 (by decide) (fun b14 => ?_) (fun b14 => ?_)
          · replace h := ifp b14 h
            refine g_bip dX8_event_42 rfl ?_
            cases h
            exact g_ireturn dX8_event_44 rfl ⟨rfl, rfl⟩
          · replace h := ifn b14 h
            refine g_pc (pc' := 36) rfl ?_
            refine g_iload_n 2 dX8_event_36 rfl ?_
            refine g_bip dX8_event_37 rfl ?_
            refine g_icmp_le (tgt := 58) dX8_event_39 (by decide) (fun b15 => ?_) (fun b15 => ?_)
            · replace h := ifp b15 h
              refine g_aload_n 0 dX8_event_58 rfl ?_
              refine g_getR dX8_event_59 flX8_14 (by decide) rfl hx0 ?_
              refine g_getI dX8_event_62 flX8_278 (by decide) rfl (sf_7_0 hx0) ?_
              refine g_bip dX8_event_65 rfl ?_
              refine g_icmp_lt (tgt := 73) dX8_event_67 (by decide) (fun b16 => ?_) (fun b16 => ?_)
              · replace h := ifp b16 h
                refine g_aload_n 0 dX8_event_73 rfl ?_
                refine g_getR dX8_event_74 flX8_14 (by decide) rfl hx0 ?_
                refine g_getR dX8_event_77 flX8_281 (by decide) rfl (sf_7_0 hx0) ?_
                refine g_aload_n 0 dX8_event_80 rfl ?_
                refine g_getR dX8_event_81 flX8_14 (by decide) rfl hx0 ?_
                refine g_getI dX8_event_84 flX8_278 (by decide) rfl (sf_7_0 hx0) ?_
                refine g_iload_n 1 dX8_event_87 rfl ?_
                obtain ⟨c17, h⟩ := chk_some h
                refine g_iast dX8_event_88 (sf_1_13 (sf_7_0 hx0)) c17.1 c17.2 ?_
                refine g_nmM (fun M18 eM18 => ?_)
                replace h := nm_s eM18 h
                refine g_pc (pc' := 89) rfl ?_
                refine g_aload_n 0 dX8_event_89 rfl ?_
                refine g_getR dX8_event_90 flX8_14 (by decide) rfl hx0 ?_
                refine g_getR dX8_event_93 flX8_284 (by decide) rfl (sf_7_0 hx0) ?_
                refine g_aload_n 0 dX8_event_96 rfl ?_
                refine g_getR dX8_event_97 flX8_14 (by decide) rfl hx0 ?_
                refine g_getI dX8_event_100 flX8_278 (by decide) rfl (sf_7_0 hx0) ?_
                refine g_iload_n 2 dX8_event_103 rfl ?_
                obtain ⟨c19, h⟩ := chk_some h
                refine g_iast dX8_event_104 (sf_1_14 (sf_7_0 hx0)) c19.1 c19.2 ?_
                refine g_nmM (fun M20 eM20 => ?_)
                replace h := nm_s eM20 h
                refine g_aload_n 0 dX8_event_105 rfl ?_
                refine g_pc (pc' := 106) rfl ?_
                refine g_getR dX8_event_106 flX8_14 (by decide) rfl hx0 ?_
                refine g_dupR dX8_event_109 ?_
                refine g_getI dX8_event_110 flX8_278 (by decide) rfl (sf_7_0 hx0) ?_
                refine g_iconst (v := 1) dX8_event_113 rfl (i32l rfl) ?_
                obtain ⟨c21, h⟩ := chk_some h
                refine g_iadd dX8_event_114 rfl c21 ?_
                refine g_putI dX8_event_115 flX8_278 (by decide) rfl (sf_7_0 hx0) ?_
                refine g_nmM (fun M22 eM22 => ?_)
                replace h := nm_s eM22 h
                refine g_aload_n 0 dX8_event_118 rfl ?_
                refine g_getR dX8_event_119 flX8_14 (by decide) rfl hx0 ?_
                refine g_getI dX8_event_122 flX8_278 (by decide) rfl (sf_7_0 hx0) ?_
                refine g_pc (pc' := 125) rfl ?_
                cases h
                exact g_ireturn dX8_event_125 rfl ⟨rfl, rfl⟩
              · replace h := ifn b16 h
                refine g_pc (pc' := 70) rfl ?_
                refine g_bip dX8_event_70 rfl ?_
                cases h
                exact g_ireturn dX8_event_72 rfl ⟨rfl, rfl⟩
            · replace h := ifn b15 h
              refine g_pc (pc' := 42) rfl ?_
              refine g_bip dX8_event_42 rfl ?_
              cases h
              exact g_ireturn dX8_event_44 rfl ⟨rfl, rfl⟩
      · replace h := ifn b3 h
        refine g_pc (pc' := 24) rfl ?_
        refine g_iconst (v := -1) dX8_event_24 rfl (i32l rfl) ?_
        cases h
        exact g_ireturn dX8_event_25 rfl ⟨rfl, rfl⟩
  · replace h := ifp b1 h
    refine g_pc (pc' := 5) rfl ?_
    refine g_aload_n 0 dX8_event_5 rfl ?_
    refine g_getR dX8_event_6 flX8_14 (by decide) rfl hx0 ?_
    refine g_iconst (v := 0) dX8_event_9 rfl (i32l rfl) ?_
    refine g_putI dX8_event_10 flX8_278 (by decide) rfl (sf_7_0 hx0) ?_
    refine g_nmM (fun M23 eM23 => ?_)
    replace h := nm_s eM23 h
    refine g_iconst (v := 0) dX8_event_13 rfl (i32l rfl) ?_
    cases h
    exact g_ireturn dX8_event_14 rfl ⟨rfl, rfl⟩
set_option maxHeartbeats 8000000 in
set_option maxRecDepth 20000 in
theorem lX8_after_l13 {X : XC} {d : Nat} {Post : Option XV → Mem → Prop} {x0 : Nat} (hx0 : Sh x0 = (17, 10)) : ∀ (n : Nat) (x1 : Int) (M : Mem) (t0 : Int × Mem), fX8_after_l13 x0 n x1 M = some t0 → Go X mX8_after (d + 6) 55 [(0, XR x0)] [] t0.2 Post → Go X mX8_after (d + 6) 13 [(0, XR x0), (1, XI x1)] [] M Post := by
  intro n
  induction n with
  | zero => intro _ _ _ h; cases h
  | succ n ih =>
    intro x1 M t0 h K
    unfold fX8_after_l13 at h
    refine g_iload_n 1 dX8_after_13 rfl ?_
    refine g_aload_n 0 dX8_after_14 rfl ?_
    refine g_getR dX8_after_15 flX8_14 (by decide) rfl hx0 ?_
    refine g_getI dX8_after_18 flX8_278 (by decide) rfl (sf_7_0 hx0) ?_
    refine g_icmp_ge (tgt := 55) dX8_after_21 (by decide) (fun b2 => ?_) (fun b2 => ?_)
    · replace h := ifp b2 h
      cases h
      exact g_sub [0] rfl K
    · replace h := ifn b2 h
      refine g_pc (pc' := 24) rfl ?_
      refine g_aload_n 0 dX8_after_24 rfl ?_
      refine g_getR dX8_after_25 flX8_18 (by decide) rfl hx0 ?_
      refine g_aload_n 0 dX8_after_28 rfl ?_
      refine g_getR dX8_after_29 flX8_14 (by decide) rfl hx0 ?_
      refine g_getR dX8_after_32 flX8_281 (by decide) rfl (sf_7_0 hx0) ?_
      refine g_iload_n 1 dX8_after_35 rfl ?_
      obtain ⟨c3, h⟩ := chk_some h
      refine g_iald dX8_after_36 (sf_1_13 (sf_7_0 hx0)) c3.1 c3.2 ?_
      refine g_aload_n 0 dX8_after_37 rfl ?_
      refine g_pc (pc' := 38) rfl ?_
      refine g_getR dX8_after_38 flX8_14 (by decide) rfl hx0 ?_
      refine g_getR dX8_after_41 flX8_284 (by decide) rfl (sf_7_0 hx0) ?_
      refine g_iload_n 1 dX8_after_44 rfl ?_
      obtain ⟨c4, h⟩ := chk_some h
      refine g_iald dX8_after_45 (sf_1_14 (sf_7_0 hx0)) c4.1 c4.2 ?_
      obtain ⟨q5, hq5, h⟩ := bnd_some h
      refine v_V (ci := 1) (as := [XI (M ((x0 + 10990) + 14) (Int.toNat x1)), XI (M ((x0 + 10990) + 15) (Int.toNat x1))]) dX8_after_46 mlX8_287 mdX1_suffer mvX1_suffer rfl (sf_7_1 hx0) rfl (Nat.le_of_ble_eq_true rfl) (kX1_suffer (sf_7_1 hx0) hq5) rfl ?_
      obtain ⟨c6, h⟩ := chk_some h
      refine g_iinc (ls' := [(1, XI (x1 + 1)), (0, XR x0)]) 1 dX8_after_49 rfl rfl c6 (by decide) rfl ?_
      refine g_goto (tgt := 13) dX8_after_52 (by decide) ?_
      exact g_sub [1, 0] rfl (ih _ _ _ h K)
set_option maxHeartbeats 8000000 in
set_option maxRecDepth 20000 in
theorem kX8_after {X : XC} {d : Nat} {x0 : Nat} (hx0 : Sh x0 = (17, 10)) {M : Mem} {q : Int × Mem} (h : fX8_after x0 M = some q) : Ct X mX8_after (d + 6) [XR x0] M (pI q) := by
  unfold fX8_after at h
  refine ct_go (by decide +kernel) (Nat.le_of_ble_eq_true rfl) (ls := [(0, XR x0)]) rfl ?_
  refine g_aload_n 0 dX8_after_0 rfl ?_
  refine g_getR dX8_after_1 flX8_18 (by decide) rfl hx0 ?_
  refine g_aload_n 0 dX8_after_4 rfl ?_
  refine g_getR dX8_after_5 flX8_14 (by decide) rfl hx0 ?_
  obtain ⟨q1, hq1, h⟩ := bnd_some h
  refine v_V (ci := 1) (as := [XR (x0 + 10990)]) dX8_after_8 mlX8_253 mdX1_copyFrom mvX1_copyFrom rfl (sf_7_1 hx0) rfl (Nat.le_of_ble_eq_true rfl) (kX1_copyFrom (sf_7_1 hx0) (sf_7_0 hx0) hq1) rfl ?_
  refine g_iconst (v := 0) dX8_after_11 rfl (i32l rfl) ?_
  refine g_istore_n (ls' := [(1, XI 0), (0, XR x0)]) dX8_after_12 (by decide) rfl ?_
  obtain ⟨z7, hz7, h⟩ := bnd_some h
  refine g_sub (ls' := [(0, XR x0), (1, XI 0)]) [1, 0] rfl ?_
  refine lX8_after_l13 hx0 1000 _ _ _ hz7 ?_
  refine g_aload_n 0 dX8_after_55 rfl ?_
  obtain ⟨q8, hq8, h⟩ := bnd_some h
  refine v_I (ci := 7) (as := []) dX8_after_56 mlX8_256 mdX8_electedInThought mvX8_electedInThought rfl hx0 rfl (Nat.le_of_ble_eq_true rfl) (kX8_electedInThought hx0 hq8) rfl ?_
  cases h
  exact g_ireturn dX8_after_59 rfl ⟨rfl, rfl⟩
end
