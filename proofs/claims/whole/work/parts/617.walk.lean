section
set_option maxHeartbeats 8000000 in
set_option maxRecDepth 20000 in
theorem lX9_comesTo_l8 {X : XC} {d : Nat} {Post : Option XV → Mem → Prop} {x0 : Nat} {x1 : Int} {x2 : Int} {x3 : Int} (hx0 : Sh x0 = (18, 69)) : ∀ (n : Nat) (x4 : Int) (M : Mem) (t0 : Int × Mem), fX9_comesTo_l8 x0 x1 x2 x3 n x4 M = some t0 → Go X mX9_comesTo (d + 2) 34 [(0, XR x0), (1, XI x1), (2, XI x2), (3, XI x3), (4, XI t0.1)] [] t0.2 Post → Go X mX9_comesTo (d + 2) 8 [(0, XR x0), (1, XI x1), (2, XI x2), (3, XI x3), (4, XI x4)] [] M Post := by
  intro n
  induction n with
  | zero => intro _ _ _ h; cases h
  | succ n ih =>
    intro x4 M t0 h K
    unfold fX9_comesTo_l8 at h
    refine g_iload 4 dX9_comesTo_8 rfl ?_
    refine g_aload_n 0 dX9_comesTo_10 rfl ?_
    refine g_getI dX9_comesTo_11 flX9_225 (by decide) rfl hx0 ?_
    refine g_icmp_ge (tgt := 34) dX9_comesTo_14 (by decide) (fun b3 => ?_) (fun b3 => ?_)
    · replace h := ifp b3 h
      cases h
      exact g_sub [0, 1, 2, 3, 4] rfl K
    · replace h := ifn b3 h
      refine g_pc (pc' := 17) rfl ?_
      refine g_aload_n 0 dX9_comesTo_17 rfl ?_
      refine g_getR dX9_comesTo_18 flX9_56 (by decide) rfl hx0 ?_
      refine g_iload 4 dX9_comesTo_21 rfl ?_
      obtain ⟨c4, h⟩ := chk_some h
      refine g_iald dX9_comesTo_23 (sf_8_20 hx0) c4.1 c4.2 ?_
      refine g_iload_n 3 dX9_comesTo_24 rfl ?_
      refine g_icmp_ge (tgt := 34) dX9_comesTo_25 (by decide) (fun b5 => ?_) (fun b5 => ?_)
      · replace h := ifp b5 h
        cases h
        exact g_sub [0, 1, 2, 3, 4] rfl K
      · replace h := ifn b5 h
        refine g_pc (pc' := 28) rfl ?_
        obtain ⟨c6, h⟩ := chk_some h
        refine g_iinc (ls' := [(4, XI (x4 + 1)), (0, XR x0), (1, XI x1), (2, XI x2), (3, XI x3)]) 4 dX9_comesTo_28 rfl rfl c6 (by decide) rfl ?_
        refine g_goto (tgt := 8) dX9_comesTo_31 (by decide) ?_
        exact g_sub [1, 2, 3, 4, 0] rfl (ih _ _ _ h K)
set_option maxHeartbeats 8000000 in
set_option maxRecDepth 20000 in
theorem lX9_comesTo_l72 {X : XC} {d : Nat} {Post : Option XV → Mem → Prop} {x0 : Nat} {x1 : Int} {x2 : Int} {x3 : Int} {x4 : Int} (hx0 : Sh x0 = (18, 69)) : ∀ (n : Nat) (x5 : Int) (M : Mem) (t0 : Int × Mem), fX9_comesTo_l72 x0 x1 x2 x3 x4 n x5 M = some t0 → Go X mX9_comesTo (d + 2) 133 [(0, XR x0), (1, XI x1), (2, XI x2), (3, XI x3), (4, XI x4)] [] t0.2 Post → Go X mX9_comesTo (d + 2) 72 [(0, XR x0), (1, XI x1), (2, XI x2), (3, XI x3), (4, XI x4), (5, XI x5)] [] M Post := by
  intro n
  induction n with
  | zero => intro _ _ _ h; cases h
  | succ n ih =>
    intro x5 M t0 h K
    unfold fX9_comesTo_l72 at h
    refine g_iload 5 dX9_comesTo_72 rfl ?_
    refine g_iload 4 dX9_comesTo_74 rfl ?_
    refine g_icmp_le (tgt := 133) dX9_comesTo_76 (by decide) (fun b10 => ?_) (fun b10 => ?_)
    · replace h := ifp b10 h
      cases h
      exact g_sub [0, 1, 2, 3, 4] rfl K
    · replace h := ifn b10 h
      refine g_pc (pc' := 79) rfl ?_
      refine g_aload_n 0 dX9_comesTo_79 rfl ?_
      refine g_getR dX9_comesTo_80 flX9_53 (by decide) rfl hx0 ?_
      refine g_iload 5 dX9_comesTo_83 rfl ?_
      refine g_aload_n 0 dX9_comesTo_85 rfl ?_
      refine g_getR dX9_comesTo_86 flX9_53 (by decide) rfl hx0 ?_
      refine g_iload 5 dX9_comesTo_89 rfl ?_
      refine g_iconst (v := 1) dX9_comesTo_91 rfl (i32l rfl) ?_
      obtain ⟨c11, h⟩ := chk_some h
      refine g_isub dX9_comesTo_92 rfl c11 ?_
      refine g_pc (pc' := 93) rfl ?_
      obtain ⟨c12, h⟩ := chk_some h
      refine g_iald dX9_comesTo_93 (sf_8_19 hx0) c12.1 c12.2 ?_
      obtain ⟨c13, h⟩ := chk_some h
      refine g_iast dX9_comesTo_94 (sf_8_19 hx0) c13.1 c13.2 ?_
      refine g_nmM (fun M14 eM14 => ?_)
      replace h := nm_s eM14 h
      refine g_aload_n 0 dX9_comesTo_95 rfl ?_
      refine g_getR dX9_comesTo_96 flX9_56 (by decide) rfl hx0 ?_
      refine g_iload 5 dX9_comesTo_99 rfl ?_
      refine g_aload_n 0 dX9_comesTo_101 rfl ?_
      refine g_getR dX9_comesTo_102 flX9_56 (by decide) rfl hx0 ?_
      refine g_iload 5 dX9_comesTo_105 rfl ?_
      refine g_iconst (v := 1) dX9_comesTo_107 rfl (i32l rfl) ?_
      refine g_pc (pc' := 108) rfl ?_
      obtain ⟨c15, h⟩ := chk_some h
      refine g_isub dX9_comesTo_108 rfl c15 ?_
      obtain ⟨c16, h⟩ := chk_some h
      refine g_iald dX9_comesTo_109 (sf_8_20 hx0) c16.1 c16.2 ?_
      obtain ⟨c17, h⟩ := chk_some h
      refine g_iast dX9_comesTo_110 (sf_8_20 hx0) c17.1 c17.2 ?_
      refine g_nmM (fun M18 eM18 => ?_)
      replace h := nm_s eM18 h
      refine g_aload_n 0 dX9_comesTo_111 rfl ?_
      refine g_getR dX9_comesTo_112 flX9_59 (by decide) rfl hx0 ?_
      refine g_iload 5 dX9_comesTo_115 rfl ?_
      refine g_aload_n 0 dX9_comesTo_117 rfl ?_
      refine g_getR dX9_comesTo_118 flX9_59 (by decide) rfl hx0 ?_
      refine g_iload 5 dX9_comesTo_121 rfl ?_
      refine g_pc (pc' := 123) rfl ?_
      refine g_iconst (v := 1) dX9_comesTo_123 rfl (i32l rfl) ?_
      obtain ⟨c19, h⟩ := chk_some h
      refine g_isub dX9_comesTo_124 rfl c19 ?_
      obtain ⟨c20, h⟩ := chk_some h
      refine g_iald dX9_comesTo_125 (sf_8_21 hx0) c20.1 c20.2 ?_
      obtain ⟨c21, h⟩ := chk_some h
      refine g_iast dX9_comesTo_126 (sf_8_21 hx0) c21.1 c21.2 ?_
      refine g_nmM (fun M22 eM22 => ?_)
      replace h := nm_s eM22 h
      obtain ⟨c23, h⟩ := chk_some h
      refine g_iinc (ls' := [(5, XI (x5 + (-1))), (0, XR x0), (1, XI x1), (2, XI x2), (3, XI x3), (4, XI x4)]) 5 dX9_comesTo_127 rfl rfl c23 (by decide) rfl ?_
      refine g_goto (tgt := 72) dX9_comesTo_130 (by decide) ?_
      exact g_sub [1, 2, 3, 4, 5, 0] rfl (ih _ _ _ h K)
set_option maxHeartbeats 8000000 in
set_option maxRecDepth 20000 in
theorem kX9_comesTo {X : XC} {d : Nat} {x0 : Nat} {x1 : Int} {x2 : Int} (hx0 : Sh x0 = (18, 69)) {M : Mem} {q : Int × Mem} (h : fX9_comesTo x0 x1 x2 M = some q) : Ct X mX9_comesTo (d + 2) [XR x0, XI x1, XI x2] M (pV q) := by
  unfold fX9_comesTo at h
  refine ct_go (by decide +kernel) (Nat.le_of_ble_eq_true rfl) (ls := [(0, XR x0), (1, XI x1), (2, XI x2)]) rfl ?_
  refine g_iload_n 1 dX9_comesTo_0 rfl ?_
  obtain ⟨q1, hq1, h⟩ := bnd_some h
  refine s_I (as := [XI x1]) dX9_comesTo_1 mlX9_222 mdX9_keyOf msX9_keyOf rfl (Nat.le_of_ble_eq_true rfl) (kX9_keyOf  hq1) rfl ?_
  refine g_nmI (fun v2 ev2 => ?_)
  replace h := nm_s ev2 h
  refine g_istore_n (ls' := [(3, XI v2), (0, XR x0), (1, XI x1), (2, XI x2)]) dX9_comesTo_4 (by decide) rfl ?_
  refine g_iconst (v := 0) dX9_comesTo_5 rfl (i32l rfl) ?_
  refine g_istore (ls' := [(4, XI 0), (3, XI v2), (0, XR x0), (1, XI x1), (2, XI x2)]) dX9_comesTo_6 (by decide) rfl ?_
  obtain ⟨z7, hz7, h⟩ := bnd_some h
  refine g_sub (ls' := [(0, XR x0), (1, XI x1), (2, XI x2), (3, XI v2), (4, XI 0)]) [2, 3, 4, 1, 0] rfl ?_
  refine lX9_comesTo_l8 hx0 1000 _ _ _ hz7 ?_
  refine g_iload 4 dX9_comesTo_34 rfl ?_
  refine g_aload_n 0 dX9_comesTo_36 rfl ?_
  refine g_getI dX9_comesTo_37 flX9_225 (by decide) rfl hx0 ?_
  refine g_icmp_ge (tgt := 66) dX9_comesTo_40 (by decide) (fun b8 => ?_) (fun b8 => ?_)
  · replace h := ifp b8 h
    refine g_aload_n 0 dX9_comesTo_66 rfl ?_
    refine g_getI dX9_comesTo_67 flX9_225 (by decide) rfl hx0 ?_
    refine g_nmI (fun v9 ev9 => ?_)
    replace h := nm_s ev9 h
    refine g_istore (ls' := [(5, XI v9), (0, XR x0), (1, XI x1), (2, XI x2), (3, XI v2), (4, XI z7.1)]) dX9_comesTo_70 (by decide) rfl ?_
    obtain ⟨z24, hz24, h⟩ := bnd_some h
    refine g_sub (ls' := [(0, XR x0), (1, XI x1), (2, XI x2), (3, XI v2), (4, XI z7.1), (5, XI v9)]) [1, 2, 3, 4, 5, 0] rfl ?_
    refine lX9_comesTo_l72 hx0 1000 _ _ _ hz24 ?_
    refine g_aload_n 0 dX9_comesTo_133 rfl ?_
    refine g_getR dX9_comesTo_134 flX9_53 (by decide) rfl hx0 ?_
    refine g_iload 4 dX9_comesTo_137 rfl ?_
    refine g_iload_n 1 dX9_comesTo_139 rfl ?_
    obtain ⟨c25, h⟩ := chk_some h
    refine g_iast dX9_comesTo_140 (sf_8_19 hx0) c25.1 c25.2 ?_
    refine g_nmM (fun M26 eM26 => ?_)
    replace h := nm_s eM26 h
    refine g_aload_n 0 dX9_comesTo_141 rfl ?_
    refine g_getR dX9_comesTo_142 flX9_56 (by decide) rfl hx0 ?_
    refine g_iload 4 dX9_comesTo_145 rfl ?_
    refine g_pc (pc' := 147) rfl ?_
    refine g_iload_n 3 dX9_comesTo_147 rfl ?_
    obtain ⟨c27, h⟩ := chk_some h
    refine g_iast dX9_comesTo_148 (sf_8_20 hx0) c27.1 c27.2 ?_
    refine g_nmM (fun M28 eM28 => ?_)
    replace h := nm_s eM28 h
    refine g_aload_n 0 dX9_comesTo_149 rfl ?_
    refine g_getR dX9_comesTo_150 flX9_59 (by decide) rfl hx0 ?_
    refine g_iload 4 dX9_comesTo_153 rfl ?_
    refine g_iload_n 2 dX9_comesTo_155 rfl ?_
    obtain ⟨c29, h⟩ := chk_some h
    refine g_iast dX9_comesTo_156 (sf_8_21 hx0) c29.1 c29.2 ?_
    refine g_nmM (fun M30 eM30 => ?_)
    replace h := nm_s eM30 h
    refine g_aload_n 0 dX9_comesTo_157 rfl ?_
    refine g_dupR dX9_comesTo_158 ?_
    refine g_pc (pc' := 159) rfl ?_
    refine g_getI dX9_comesTo_159 flX9_225 (by decide) rfl hx0 ?_
    refine g_iconst (v := 1) dX9_comesTo_162 rfl (i32l rfl) ?_
    obtain ⟨c31, h⟩ := chk_some h
    refine g_iadd dX9_comesTo_163 rfl c31 ?_
    refine g_putI dX9_comesTo_164 flX9_225 (by decide) rfl hx0 ?_
    refine g_nmM (fun M32 eM32 => ?_)
    replace h := nm_s eM32 h
    cases h
    exact g_return dX9_comesTo_167 rfl ⟨rfl, rfl⟩
  · replace h := ifn b8 h
    refine g_pc (pc' := 43) rfl ?_
    refine g_aload_n 0 dX9_comesTo_43 rfl ?_
    refine g_getR dX9_comesTo_44 flX9_56 (by decide) rfl hx0 ?_
    refine g_iload 4 dX9_comesTo_47 rfl ?_
    obtain ⟨c33, h⟩ := chk_some h
    refine g_iald dX9_comesTo_49 (sf_8_20 hx0) c33.1 c33.2 ?_
    refine g_iload_n 3 dX9_comesTo_50 rfl ?_
    refine g_icmp_ne (tgt := 66) dX9_comesTo_51 (by decide) (fun b34 => ?_) (fun b34 => ?_)
    · replace h := ifn b34 h
      refine g_aload_n 0 dX9_comesTo_66 rfl ?_
      refine g_getI dX9_comesTo_67 flX9_225 (by decide) rfl hx0 ?_
      refine g_nmI (fun v35 ev35 => ?_)
      replace h := nm_s ev35 h
      refine g_istore (ls' := [(5, XI v35), (0, XR x0), (1, XI x1), (2, XI x2), (3, XI v2), (4, XI z7.1)]) dX9_comesTo_70 (by decide) rfl ?_
      obtain ⟨z36, hz36, h⟩ := bnd_some h
      refine g_sub (ls' := [(0, XR x0), (1, XI x1), (2, XI x2), (3, XI v2), (4, XI z7.1), (5, XI v35)]) [1, 2, 3, 4, 5, 0] rfl ?_
      refine lX9_comesTo_l72 hx0 1000 _ _ _ hz36 ?_
      refine g_aload_n 0 dX9_comesTo_133 rfl ?_
      refine g_getR dX9_comesTo_134 flX9_53 (by decide) rfl hx0 ?_
      refine g_iload 4 dX9_comesTo_137 rfl ?_
      refine g_iload_n 1 dX9_comesTo_139 rfl ?_
      obtain ⟨c37, h⟩ := chk_some h
      refine g_iast dX9_comesTo_140 (sf_8_19 hx0) c37.1 c37.2 ?_
      refine g_nmM (fun M38 eM38 => ?_)
      replace h := nm_s eM38 h
      refine g_aload_n 0 dX9_comesTo_141 rfl ?_
      refine g_getR dX9_comesTo_142 flX9_56 (by decide) rfl hx0 ?_
      refine g_iload 4 dX9_comesTo_145 rfl ?_
      refine g_pc (pc' := 147) rfl ?_
      refine g_iload_n 3 dX9_comesTo_147 rfl ?_
      obtain ⟨c39, h⟩ := chk_some h
      refine g_iast dX9_comesTo_148 (sf_8_20 hx0) c39.1 c39.2 ?_
      refine g_nmM (fun M40 eM40 => ?_)
      replace h := nm_s eM40 h
      refine g_aload_n 0 dX9_comesTo_149 rfl ?_
      refine g_getR dX9_comesTo_150 flX9_59 (by decide) rfl hx0 ?_
      refine g_iload 4 dX9_comesTo_153 rfl ?_
      refine g_iload_n 2 dX9_comesTo_155 rfl ?_
      obtain ⟨c41, h⟩ := chk_some h
      refine g_iast dX9_comesTo_156 (sf_8_21 hx0) c41.1 c41.2 ?_
      refine g_nmM (fun M42 eM42 => ?_)
      replace h := nm_s eM42 h
      refine g_aload_n 0 dX9_comesTo_157 rfl ?_
      refine g_dupR dX9_comesTo_158 ?_
      refine g_pc (pc' := 159) rfl ?_
      refine g_getI dX9_comesTo_159 flX9_225 (by decide) rfl hx0 ?_
      refine g_iconst (v := 1) dX9_comesTo_162 rfl (i32l rfl) ?_
      obtain ⟨c43, h⟩ := chk_some h
      refine g_iadd dX9_comesTo_163 rfl c43 ?_
      refine g_putI dX9_comesTo_164 flX9_225 (by decide) rfl hx0 ?_
      refine g_nmM (fun M44 eM44 => ?_)
      replace h := nm_s eM44 h
      cases h
      exact g_return dX9_comesTo_167 rfl ⟨rfl, rfl⟩
    · replace h := ifp b34 h
      refine g_pc (pc' := 54) rfl ?_
      refine g_aload_n 0 dX9_comesTo_54 rfl ?_
      refine g_getR dX9_comesTo_55 flX9_59 (by decide) rfl hx0 ?_
      refine g_iload 4 dX9_comesTo_58 rfl ?_
      refine g_dup2RI dX9_comesTo_60 ?_
      obtain ⟨c45, h⟩ := chk_some h
      refine g_iald dX9_comesTo_61 (sf_8_21 hx0) c45.1 c45.2 ?_
      refine g_iload_n 2 dX9_comesTo_62 rfl ?_
      obtain ⟨c46, h⟩ := chk_some h
      refine g_iadd dX9_comesTo_63 rfl c46 ?_
      obtain ⟨c47, h⟩ := chk_some h
      refine g_iast dX9_comesTo_64 (sf_8_21 hx0) c47.1 c47.2 ?_
      refine g_nmM (fun M48 eM48 => ?_)
      replace h := nm_s eM48 h
      refine g_pc (pc' := 65) rfl ?_
      cases h
      exact g_return dX9_comesTo_65 rfl ⟨rfl, rfl⟩
set_option maxHeartbeats 8000000 in
set_option maxRecDepth 20000 in
theorem lX9_tellPiles_l7 {X : XC} {d : Nat} {Post : Option XV → Mem → Prop} {x0 : Nat} (hx0 : Sh x0 = (18, 69)) : ∀ (n : Nat) (x1 : Int) (M : Mem) (t0 : Int × Mem), fX9_tellPiles_l7 x0 n x1 M = some t0 → Go X mX9_tellPiles (d + 3) 56 [] [] t0.2 Post → Go X mX9_tellPiles (d + 3) 7 [(0, XR x0), (1, XI x1)] [] M Post := by
  intro n
  induction n with
  | zero => intro _ _ _ h; cases h
  | succ n ih =>
    intro x1 M t0 h K
    unfold fX9_tellPiles_l7 at h
    refine g_iload_n 1 dX9_tellPiles_7 rfl ?_
    refine g_aload_n 0 dX9_tellPiles_8 rfl ?_
    refine g_getI dX9_tellPiles_9 flX9_174 (by decide) rfl hx0 ?_
    refine g_icmp_ge (tgt := 56) dX9_tellPiles_12 (by decide) (fun b2 => ?_) (fun b2 => ?_)
    · replace h := ifp b2 h
      cases h
      exact g_sub [] rfl K
    · replace h := ifn b2 h
      refine g_pc (pc' := 15) rfl ?_
      refine g_aload_n 0 dX9_tellPiles_15 rfl ?_
      refine g_aload_n 0 dX9_tellPiles_16 rfl ?_
      refine g_getR dX9_tellPiles_17 flX9_19 (by decide) rfl hx0 ?_
      refine g_iload_n 1 dX9_tellPiles_20 rfl ?_
      obtain ⟨c3, h⟩ := chk_some h
      refine g_iald dX9_tellPiles_21 (sf_8_4 hx0) c3.1 c3.2 ?_
      obtain ⟨q4, hq4, h⟩ := bnd_some h
      refine v_I (ci := 8) (as := [XI (M (x0 + 5) (Int.toNat x1))]) dX9_tellPiles_22 mlX9_228 mdX9_left mvX9_left rfl hx0 rfl (Nat.le_of_ble_eq_true rfl) (kX9_left hx0 hq4) rfl ?_
      refine g_nmI (fun v5 ev5 => ?_)
      replace h := nm_s ev5 h
      refine g_istore_n (ls' := [(2, XI v5), (0, XR x0), (1, XI x1)]) dX9_tellPiles_25 (by decide) rfl ?_
      refine g_iload_n 0 dX9_tellPiles_26 rfl ?_
      refine g_pc (pc' := 27) rfl ?_
      obtain ⟨t11, ht11, h⟩ := bnd_some h
      have Kt11 : Go X mX9_tellPiles (d + 3) 50 [(0, XR x0), (1, XI x1)] [] t11 Post := by
        obtain ⟨c17, h⟩ := chk_some h
        refine g_iinc (ls' := [(1, XI (x1 + 1)), (0, XR x0)]) 1 dX9_tellPiles_50 rfl rfl c17 (by decide) rfl ?_
        refine g_goto (tgt := 7) dX9_tellPiles_53 (by decide) ?_
        exact g_sub [1, 0] rfl (ih _ _ _ h K)
      refine g_if_le (tgt := 50) dX9_tellPiles_27 (by decide) (fun b12 => ?_) (fun b12 => ?_)
      · replace ht11 := ifp b12 ht11
        cases ht11
        exact g_sub [1, 2] rfl Kt11
      · replace ht11 := ifn b12 ht11
        refine g_pc (pc' := 30) rfl ?_
        refine g_aload_n 1 dX9_tellPiles_30 rfl ?_
        refine g_getR dX9_tellPiles_31 flX9_22 (by decide) rfl hx0 ?_
        refine g_iload_n 2 dX9_tellPiles_34 rfl ?_
        obtain ⟨c13, ht11⟩ := chk_some ht11
        refine g_iald dX9_tellPiles_35 (sf_8_5 hx0) c13.1 c13.2 ?_
        refine g_if_le (tgt := 50) dX9_tellPiles_36 (by decide) (fun b14 => ?_) (fun b14 => ?_)
        · replace ht11 := ifp b14 ht11
          cases ht11
          exact g_sub [1, 2] rfl Kt11
        · replace ht11 := ifn b14 ht11
          refine g_pc (pc' := 39) rfl ?_
          refine g_aload_n 1 dX9_tellPiles_39 rfl ?_
          refine g_iload_n 0 dX9_tellPiles_40 rfl ?_
          refine g_aload_n 1 dX9_tellPiles_41 rfl ?_
          refine g_getR dX9_tellPiles_42 flX9_22 (by decide) rfl hx0 ?_
          refine g_iload_n 2 dX9_tellPiles_45 rfl ?_
          obtain ⟨c15, ht11⟩ := chk_some ht11
          refine g_iald dX9_tellPiles_46 (sf_8_5 hx0) c15.1 c15.2 ?_
          obtain ⟨q16, hq16, ht11⟩ := bnd_some ht11
          refine v_V (ci := 8) (as := [XI v5, XI (q4.2 (x0 + 6) (Int.toNat x1))]) dX9_tellPiles_47 mlX9_231 mdX9_comesTo mvX9_comesTo rfl hx0 rfl (Nat.le_of_ble_eq_true rfl) (kX9_comesTo hx0 hq16) rfl ?_
          cases ht11
          exact g_sub [1, 2] rfl Kt11
set_option maxHeartbeats 8000000 in
set_option maxRecDepth 20000 in
theorem kX9_tellPiles {X : XC} {d : Nat} {x0 : Nat} (hx0 : Sh x0 = (18, 69)) {M : Mem} {q : Int × Mem} (h : fX9_tellPiles x0 M = some q) : Ct X mX9_tellPiles (d + 3) [XR x0] M (pV q) := by
  unfold fX9_tellPiles at h
  refine ct_go (by decide +kernel) (Nat.le_of_ble_eq_true rfl) (ls := [(0, XR x0)]) rfl ?_
  refine g_aload_n 0 dX9_tellPiles_0 rfl ?_
  refine g_iconst (v := 0) dX9_tellPiles_1 rfl (i32l rfl) ?_
  refine g_putI dX9_tellPiles_2 flX9_225 (by decide) rfl hx0 ?_
  refine g_nmM (fun M1 eM1 => ?_)
  replace h := nm_s eM1 h
  refine g_iconst (v := 0) dX9_tellPiles_5 rfl (i32l rfl) ?_
  refine g_istore_n (ls' := [(1, XI 0), (0, XR x0)]) dX9_tellPiles_6 (by decide) rfl ?_
  obtain ⟨z18, hz18, h⟩ := bnd_some h
  refine g_sub (ls' := [(0, XR x0), (1, XI 0)]) [1, 0] rfl ?_
  refine lX9_tellPiles_l7 hx0 1000 _ _ _ hz18 ?_
  cases h
  exact g_return dX9_tellPiles_56 rfl ⟨rfl, rfl⟩
set_option maxHeartbeats 8000000 in
set_option maxRecDepth 20000 in
theorem lX9_many__l4 {X : XC} {d : Nat} {Post : Option XV → Mem → Prop} {x0 : Nat} {x1 : Int} (hx0 : Sh x0 = (18, 69)) : ∀ (n : Nat) (x2 x3 : Int) (M : Mem) (t0 : Int × Int × Mem), fX9_many__l4 x0 x1 n x2 x3 M = some t0 → Go X mX9_many_ d 31 [(2, XI t0.1)] [] t0.2.2 Post → Go X mX9_many_ d 4 [(0, XR x0), (1, XI x1), (2, XI x2), (3, XI x3)] [] M Post := by
  intro n
  induction n with
  | zero => intro _ _ _ _ h; cases h
  | succ n ih =>
    intro x2 x3 M t0 h K
    unfold fX9_many__l4 at h
    refine g_iload_n 3 dX9_many__4 rfl ?_
    refine g_aload_n 0 dX9_many__5 rfl ?_
    refine g_getI dX9_many__6 flX9_167 (by decide) rfl hx0 ?_
    refine g_icmp_ge (tgt := 31) dX9_many__9 (by decide) (fun b1 => ?_) (fun b1 => ?_)
    · replace h := ifp b1 h
      cases h
      exact g_sub [2] rfl K
    · replace h := ifn b1 h
      refine g_pc (pc' := 12) rfl ?_
      refine g_aload_n 0 dX9_many__12 rfl ?_
      refine g_getR dX9_many__13 flX9_62 (by decide) rfl hx0 ?_
      refine g_iload_n 3 dX9_many__16 rfl ?_
      obtain ⟨c2, h⟩ := chk_some h
      refine g_iald dX9_many__17 (sf_8_24 hx0) c2.1 c2.2 ?_
      refine g_iload_n 1 dX9_many__18 rfl ?_
      obtain ⟨t5, ht5, h⟩ := bnd_some h
      have Kt5 : Go X mX9_many_ d 25 [(0, XR x0), (1, XI x1), (2, XI t5), (3, XI x3)] [] M Post := by
        obtain ⟨c8, h⟩ := chk_some h
        refine g_iinc (ls' := [(3, XI (x3 + 1)), (0, XR x0), (1, XI x1), (2, XI t5)]) 3 dX9_many__25 rfl rfl c8 (by decide) rfl ?_
        refine g_goto (tgt := 4) dX9_many__28 (by decide) ?_
        exact g_sub [1, 2, 3, 0] rfl (ih _ _ _ _ h K)
      refine g_icmp_ne (tgt := 25) dX9_many__19 (by decide) (fun b6 => ?_) (fun b6 => ?_)
      · replace ht5 := ifn b6 ht5
        cases ht5
        exact g_sub [0, 1, 2, 3] rfl Kt5
      · replace ht5 := ifp b6 ht5
        refine g_pc (pc' := 22) rfl ?_
        obtain ⟨c7, ht5⟩ := chk_some ht5
        refine g_iinc (ls' := [(2, XI (x2 + 1)), (0, XR x0), (1, XI x1), (3, XI x3)]) 2 dX9_many__22 rfl rfl c7 (by decide) rfl ?_
        cases ht5
        exact g_sub [1, 2, 0, 3] rfl Kt5
set_option maxHeartbeats 8000000 in
set_option maxRecDepth 20000 in
theorem kX9_many_ {X : XC} {d : Nat} {x0 : Nat} {x1 : Int} (hx0 : Sh x0 = (18, 69)) {M : Mem} {q : Int × Mem} (h : fX9_many_ x0 x1 M = some q) : Ct X mX9_many_ d [XR x0, XI x1] M (pI q) := by
  unfold fX9_many_ at h
  refine ct_go (by decide +kernel) (Nat.le_of_ble_eq_true rfl) (ls := [(0, XR x0), (1, XI x1)]) rfl ?_
  refine g_iconst (v := 0) dX9_many__0 rfl (i32l rfl) ?_
  refine g_istore_n (ls' := [(2, XI 0), (0, XR x0), (1, XI x1)]) dX9_many__1 (by decide) rfl ?_
  refine g_iconst (v := 0) dX9_many__2 rfl (i32l rfl) ?_
  refine g_istore_n (ls' := [(3, XI 0), (2, XI 0), (0, XR x0), (1, XI x1)]) dX9_many__3 (by decide) rfl ?_
  obtain ⟨z9, hz9, h⟩ := bnd_some h
  refine g_sub (ls' := [(0, XR x0), (1, XI x1), (2, XI 0), (3, XI 0)]) [2, 3, 1, 0] rfl ?_
  refine lX9_many__l4 hx0 1000 _ _ _ _ hz9 ?_
  refine g_iload_n 0 dX9_many__31 rfl ?_
  cases h
  exact g_ireturn dX9_many__32 rfl ⟨rfl, rfl⟩
end
