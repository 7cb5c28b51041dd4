section
set_option maxHeartbeats 8000000 in
set_option maxRecDepth 20000 in
theorem lX9_counts_l16 {X : XC} {d : Nat} {Post : Option XV → Mem → Prop} {x0 : Nat} (hx0 : Sh x0 = (18, 69)) : ∀ (n : Nat) (x1 : Int) (M : Mem) (t0 : Int × Mem), fX9_counts_l16 x0 n x1 M = some t0 → Go X mX9_counts (d + 5) 80 [(0, XR x0)] [] t0.2 Post → Go X mX9_counts (d + 5) 16 [(0, XR x0), (1, XI x1)] [] M Post := by
  intro n
  induction n with
  | zero => intro _ _ _ h; cases h
  | succ n ih =>
    intro x1 M t0 h K
    unfold fX9_counts_l16 at h
    refine g_iload_n 1 dX9_counts_16 rfl ?_
    refine g_aload_n 0 dX9_counts_17 rfl ?_
    refine g_getI dX9_counts_18 flX9_167 (by decide) rfl hx0 ?_
    refine g_icmp_ge (tgt := 80) dX9_counts_21 (by decide) (fun b4 => ?_) (fun b4 => ?_)
    · replace h := ifp b4 h
      cases h
      exact g_sub [0] rfl K
    · replace h := ifn b4 h
      refine g_pc (pc' := 24) rfl ?_
      refine g_aload_n 0 dX9_counts_24 rfl ?_
      refine g_getR dX9_counts_25 flX9_62 (by decide) rfl hx0 ?_
      refine g_iload_n 1 dX9_counts_28 rfl ?_
      refine g_aload_n 0 dX9_counts_29 rfl ?_
      refine g_getR dX9_counts_30 flX9_11 (by decide) rfl hx0 ?_
      refine g_iload_n 1 dX9_counts_33 rfl ?_
      obtain ⟨c5, h⟩ := chk_some h
      refine g_zald dX9_counts_34 (sf_8_2 hx0) c5.1 c5.2 ?_
      obtain ⟨t7, ht7, h⟩ := bnd_some h
      have Kt7 : Go X mX9_counts (d + 5) 43 [(0, XR x0), (1, XI x1)] [XI t7, XI x1, XR (x0 + 25)] M Post := by
        obtain ⟨c9, h⟩ := chk_some h
        refine g_iast dX9_counts_43 (sf_8_24 hx0) c9.1 c9.2 ?_
        refine g_nmM (fun M10 eM10 => ?_)
        replace h := nm_s eM10 h
        refine g_aload_n 0 dX9_counts_44 rfl ?_
        refine g_getR dX9_counts_45 flX9_65 (by decide) rfl hx0 ?_
        refine g_iload_n 1 dX9_counts_48 rfl ?_
        refine g_aload_n 0 dX9_counts_49 rfl ?_
        refine g_getR dX9_counts_50 flX9_11 (by decide) rfl hx0 ?_
        refine g_iload_n 1 dX9_counts_53 rfl ?_
        obtain ⟨c11, h⟩ := chk_some h
        refine g_zald dX9_counts_54 (sf_8_2 hx0) c11.1 c11.2 ?_
        refine g_pc (pc' := 55) rfl ?_
        obtain ⟨t13, ht13, h⟩ := bnd_some h
        have Kt13 : Go X mX9_counts (d + 5) 65 [(0, XR x0), (1, XI x1)] [XI t13, XI x1, XR (x0 + 26)] M10 Post := by
          obtain ⟨c15, h⟩ := chk_some h
          refine g_iast dX9_counts_65 (sf_8_25 hx0) c15.1 c15.2 ?_
          refine g_nmM (fun M16 eM16 => ?_)
          replace h := nm_s eM16 h
          refine g_aload_n 0 dX9_counts_66 rfl ?_
          refine g_getR dX9_counts_67 flX9_68 (by decide) rfl hx0 ?_
          refine g_iload_n 1 dX9_counts_70 rfl ?_
          refine g_bip dX9_counts_71 rfl ?_
          obtain ⟨c17, h⟩ := chk_some h
          refine g_iast dX9_counts_73 (sf_8_26 hx0) c17.1 c17.2 ?_
          refine g_nmM (fun M18 eM18 => ?_)
          replace h := nm_s eM18 h
          obtain ⟨c19, h⟩ := chk_some h
          refine g_iinc (ls' := [(1, XI (x1 + 1)), (0, XR x0)]) 1 dX9_counts_74 rfl rfl c19 (by decide) rfl ?_
          refine g_goto (tgt := 16) dX9_counts_77 (by decide) ?_
          exact g_sub [1, 0] rfl (ih _ _ _ h K)
        refine g_if_eq (tgt := 62) dX9_counts_55 (by decide) (fun b14 => ?_) (fun b14 => ?_)
        · replace ht13 := ifp b14 ht13
          refine g_ldcw (v := 1000000) dX9_counts_62 csX9_302 (by decide +kernel) (i32l rfl) ?_
          cases ht13
          exact g_sub [0, 1] rfl Kt13
        · replace ht13 := ifn b14 ht13
          refine g_pc (pc' := 58) rfl ?_
          refine g_iconst (v := 0) dX9_counts_58 rfl (i32l rfl) ?_
          refine g_goto (tgt := 65) dX9_counts_59 (by decide) ?_
          cases ht13
          exact g_sub [0, 1] rfl Kt13
      refine g_if_eq (tgt := 42) dX9_counts_35 (by decide) (fun b8 => ?_) (fun b8 => ?_)
      · replace ht7 := ifp b8 ht7
        refine g_iconst (v := 1) dX9_counts_42 rfl (i32l rfl) ?_
        cases ht7
        exact g_sub [0, 1] rfl Kt7
      · replace ht7 := ifn b8 ht7
        refine g_pc (pc' := 38) rfl ?_
        refine g_iconst (v := 0) dX9_counts_38 rfl (i32l rfl) ?_
        refine g_goto (tgt := 43) dX9_counts_39 (by decide) ?_
        cases ht7
        exact g_sub [0, 1] rfl Kt7
set_option maxHeartbeats 8000000 in
set_option maxRecDepth 20000 in
theorem lX9_counts_l82 {X : XC} {d : Nat} {Post : Option XV → Mem → Prop} {x0 : Nat} (hx0 : Sh x0 = (18, 69)) : ∀ (n : Nat) (x1 : Int) (M : Mem) (t0 : Int × Mem), fX9_counts_l82 x0 n x1 M = some t0 → Go X mX9_counts (d + 5) 186 [] [] t0.2 Post → Go X mX9_counts (d + 5) 82 [(0, XR x0), (1, XI x1)] [] M Post := by
  intro n
  induction n with
  | zero => intro _ _ _ h; cases h
  | succ n ih =>
    intro x1 M t0 h K
    unfold fX9_counts_l82 at h
    refine g_aload_n 0 dX9_counts_82 rfl ?_
    refine g_iconst (v := 2) dX9_counts_83 rfl (i32l rfl) ?_
    obtain ⟨q21, hq21, h⟩ := bnd_some h
    refine v_I (ci := 8) (as := [XI 2]) dX9_counts_84 mlX9_276 mdX9_many_ mvX9_many_ rfl hx0 rfl (Nat.le_of_ble_eq_true rfl) (kX9_many_ hx0 hq21) rfl ?_
    refine g_aload_n 0 dX9_counts_87 rfl ?_
    refine g_getI dX9_counts_88 flX9_25 (by decide) rfl hx0 ?_
    refine g_icmp_ge (tgt := 186) dX9_counts_91 (by decide) (fun b22 => ?_) (fun b22 => ?_)
    · replace h := ifp b22 h
      cases h
      exact g_sub [] rfl K
    · replace h := ifn b22 h
      refine g_pc (pc' := 94) rfl ?_
      refine g_aload_n 0 dX9_counts_94 rfl ?_
      refine g_iconst (v := 1) dX9_counts_95 rfl (i32l rfl) ?_
      obtain ⟨q23, hq23, h⟩ := bnd_some h
      refine v_I (ci := 8) (as := [XI 1]) dX9_counts_96 mlX9_276 mdX9_many_ mvX9_many_ rfl hx0 rfl (Nat.le_of_ble_eq_true rfl) (kX9_many_ hx0 hq23) rfl ?_
      refine g_if_le (tgt := 186) dX9_counts_99 (by decide) (fun b24 => ?_) (fun b24 => ?_)
      · replace h := ifp b24 h
        cases h
        exact g_sub [] rfl K
      · replace h := ifn b24 h
        refine g_pc (pc' := 102) rfl ?_
        refine g_aload_n 0 dX9_counts_102 rfl ?_
        refine g_getR dX9_counts_103 flX9_99 (by decide) rfl hx0 ?_
        refine g_aload_n 0 dX9_counts_106 rfl ?_
        refine g_getI dX9_counts_107 flX9_248 (by decide) rfl hx0 ?_
        refine g_bip dX9_counts_110 rfl ?_
        obtain ⟨c25, h⟩ := chk_some h
        refine g_iast dX9_counts_112 (sf_8_40 hx0) c25.1 c25.2 ?_
        refine g_nmM (fun M26 eM26 => ?_)
        replace h := nm_s eM26 h
        refine g_aload_n 0 dX9_counts_113 rfl ?_
        refine g_getR dX9_counts_114 flX9_102 (by decide) rfl hx0 ?_
        refine g_pc (pc' := 117) rfl ?_
        refine g_aload_n 0 dX9_counts_117 rfl ?_
        refine g_getI dX9_counts_118 flX9_248 (by decide) rfl hx0 ?_
        refine g_iconst (v := 0) dX9_counts_121 rfl (i32l rfl) ?_
        obtain ⟨c27, h⟩ := chk_some h
        refine g_iast dX9_counts_122 (sf_8_41 hx0) c27.1 c27.2 ?_
        refine g_nmM (fun M28 eM28 => ?_)
        replace h := nm_s eM28 h
        refine g_aload_n 0 dX9_counts_123 rfl ?_
        refine g_iconst (v := 1) dX9_counts_124 rfl (i32l rfl) ?_
        obtain ⟨q29, hq29, h⟩ := bnd_some h
        refine v_I (ci := 8) (as := [XI 1]) dX9_counts_125 mlX9_276 mdX9_many_ mvX9_many_ rfl hx0 rfl (Nat.le_of_ble_eq_true rfl) (kX9_many_ hx0 hq29) rfl ?_
        refine g_aload_n 0 dX9_counts_128 rfl ?_
        refine g_iconst (v := 2) dX9_counts_129 rfl (i32l rfl) ?_
        refine g_pc (pc' := 130) rfl ?_
        obtain ⟨q30, hq30, h⟩ := bnd_some h
        refine v_I (ci := 8) (as := [XI 2]) dX9_counts_130 mlX9_276 mdX9_many_ mvX9_many_ rfl hx0 rfl (Nat.le_of_ble_eq_true rfl) (kX9_many_ hx0 hq30) rfl ?_
        obtain ⟨c31, h⟩ := chk_some h
        refine g_iadd dX9_counts_133 rfl c31 ?_
        refine g_aload_n 0 dX9_counts_134 rfl ?_
        refine g_getI dX9_counts_135 flX9_25 (by decide) rfl hx0 ?_
        obtain ⟨t35, ht35, h⟩ := bnd_some h
        have Kt35 : Go X mX9_counts (d + 5) 153 [(0, XR x0)] [] t35 Post := by
          refine g_aload_n 0 dX9_counts_153 rfl ?_
          refine g_getR dX9_counts_154 flX9_99 (by decide) rfl hx0 ?_
          refine g_aload_n 0 dX9_counts_157 rfl ?_
          refine g_getI dX9_counts_158 flX9_248 (by decide) rfl hx0 ?_
          obtain ⟨c39, h⟩ := chk_some h
          refine g_iald dX9_counts_161 (sf_8_40 hx0) c39.1 c39.2 ?_
          refine g_bip dX9_counts_162 rfl ?_
          obtain ⟨t41, ht41, h⟩ := bnd_some h
          have Kt41 : Go X mX9_counts (d + 5) 172 [(0, XR x0)] [XI t41] t35 Post := by
            refine g_istore_n (ls' := [(1, XI t41), (0, XR x0)]) dX9_counts_172 (by decide) rfl ?_
            refine g_aload_n 1 dX9_counts_173 rfl ?_
            refine g_dupR dX9_counts_174 ?_
            refine g_getI dX9_counts_175 flX9_248 (by decide) rfl hx0 ?_
            refine g_iconst (v := 1) dX9_counts_178 rfl (i32l rfl) ?_
            obtain ⟨c43, h⟩ := chk_some h
            refine g_iadd dX9_counts_179 rfl c43 ?_
            refine g_putI dX9_counts_180 flX9_248 (by decide) rfl hx0 ?_
            refine g_nmM (fun M44 eM44 => ?_)
            replace h := nm_s eM44 h
            refine g_goto (tgt := 82) dX9_counts_183 (by decide) ?_
            exact g_sub [1, 0] rfl (ih _ _ _ h K)
          refine g_icmp_eq (tgt := 171) dX9_counts_164 (by decide) (fun b42 => ?_) (fun b42 => ?_)
          · replace ht41 := ifp b42 ht41
            refine g_iconst (v := 0) dX9_counts_171 rfl (i32l rfl) ?_
            cases ht41
            exact g_sub [0] rfl Kt41
          · replace ht41 := ifn b42 ht41
            refine g_pc (pc' := 167) rfl ?_
            refine g_iconst (v := 1) dX9_counts_167 rfl (i32l rfl) ?_
            refine g_goto (tgt := 172) dX9_counts_168 (by decide) ?_
            cases ht41
            exact g_sub [0] rfl Kt41
        refine g_icmp_gt (tgt := 148) dX9_counts_138 (by decide) (fun b36 => ?_) (fun b36 => ?_)
        · replace ht35 := ifp b36 ht35
          refine g_aload_n 0 dX9_counts_148 rfl ?_
          refine g_iload_n 1 dX9_counts_149 rfl ?_
          obtain ⟨q37, hq37, ht35⟩ := bnd_some ht35
          refine v_V (ci := 8) (as := [XI x1]) dX9_counts_150 mlX9_306 mdX9_goesStage mvX9_goesStage rfl hx0 rfl (Nat.le_of_ble_eq_true rfl) (kX9_goesStage hx0 hq37) rfl ?_
          cases ht35
          exact g_sub [0] rfl Kt35
        · replace ht35 := ifn b36 ht35
          refine g_pc (pc' := 141) rfl ?_
          refine g_aload_n 0 dX9_counts_141 rfl ?_
          obtain ⟨q38, hq38, ht35⟩ := bnd_some ht35
          refine v_V (ci := 8) (as := []) dX9_counts_142 mlX9_303 mdX9_fills mvX9_fills rfl hx0 rfl (Nat.le_of_ble_eq_true rfl) (kX9_fills hx0 hq38) rfl ?_
          refine g_goto (tgt := 153) dX9_counts_145 (by decide) ?_
          cases ht35
          exact g_sub [0] rfl Kt35
set_option maxHeartbeats 8000000 in
set_option maxRecDepth 20000 in
theorem kX9_counts {X : XC} {d : Nat} {x0 : Nat} (hx0 : Sh x0 = (18, 69)) {M : Mem} {q : Int × Mem} (h : fX9_counts x0 M = some q) : Ct X mX9_counts (d + 5) [XR x0] M (pV q) := by
  unfold fX9_counts at h
  refine ct_go (by decide +kernel) (Nat.le_of_ble_eq_true rfl) (ls := [(0, XR x0)]) rfl ?_
  refine g_aload_n 0 dX9_counts_0 rfl ?_
  obtain ⟨q1, hq1, h⟩ := bnd_some h
  refine v_V (ci := 8) (as := []) dX9_counts_1 mlX9_299 mdX9_tellPiles mvX9_tellPiles rfl hx0 rfl (Nat.le_of_ble_eq_true rfl) (kX9_tellPiles hx0 hq1) rfl ?_
  refine g_aload_n 0 dX9_counts_4 rfl ?_
  refine g_iconst (v := 0) dX9_counts_5 rfl (i32l rfl) ?_
  refine g_putI dX9_counts_6 flX9_248 (by decide) rfl hx0 ?_
  refine g_nmM (fun M2 eM2 => ?_)
  replace h := nm_s eM2 h
  refine g_aload_n 0 dX9_counts_9 rfl ?_
  refine g_iconst (v := 0) dX9_counts_10 rfl (i32l rfl) ?_
  refine g_putI dX9_counts_11 flX9_251 (by decide) rfl hx0 ?_
  refine g_nmM (fun M3 eM3 => ?_)
  replace h := nm_s eM3 h
  refine g_pc (pc' := 14) rfl ?_
  refine g_iconst (v := 0) dX9_counts_14 rfl (i32l rfl) ?_
  refine g_istore_n (ls' := [(1, XI 0), (0, XR x0)]) dX9_counts_15 (by decide) rfl ?_
  obtain ⟨z20, hz20, h⟩ := bnd_some h
  refine g_sub (ls' := [(0, XR x0), (1, XI 0)]) [1, 0] rfl ?_
  refine lX9_counts_l16 hx0 1000 _ _ _ hz20 ?_
  refine g_iconst (v := 0) dX9_counts_80 rfl (i32l rfl) ?_
  refine g_istore_n (ls' := [(1, XI 0), (0, XR x0)]) dX9_counts_81 (by decide) rfl ?_
  obtain ⟨z45, hz45, h⟩ := bnd_some h
  refine g_sub (ls' := [(0, XR x0), (1, XI 0)]) [1, 0] rfl ?_
  refine lX9_counts_l82 hx0 1000 _ _ _ hz45 ?_
  cases h
  exact g_return dX9_counts_186 rfl ⟨rfl, rfl⟩
set_option maxHeartbeats 8000000 in
set_option maxRecDepth 20000 in
theorem lX9_electedSet_l8 {X : XC} {d : Nat} {Post : Option XV → Mem → Prop} {x0 : Nat} (hx0 : Sh x0 = (18, 69)) : ∀ (n : Nat) (x1 x2 : Int) (M : Mem) (t0 : Int × Int × Mem), fX9_electedSet_l8 x0 n x1 x2 M = some t0 → Go X mX9_electedSet (d + 6) 38 [(1, XI t0.1)] [] t0.2.2 Post → Go X mX9_electedSet (d + 6) 8 [(0, XR x0), (1, XI x1), (2, XI x2)] [] M Post := by
  intro n
  induction n with
  | zero => intro _ _ _ _ h; cases h
  | succ n ih =>
    intro x1 x2 M t0 h K
    unfold fX9_electedSet_l8 at h
    refine g_iload_n 2 dX9_electedSet_8 rfl ?_
    refine g_aload_n 0 dX9_electedSet_9 rfl ?_
    refine g_getI dX9_electedSet_10 flX9_167 (by decide) rfl hx0 ?_
    refine g_icmp_ge (tgt := 38) dX9_electedSet_13 (by decide) (fun b2 => ?_) (fun b2 => ?_)
    · replace h := ifp b2 h
      cases h
      exact g_sub [1] rfl K
    · replace h := ifn b2 h
      refine g_pc (pc' := 16) rfl ?_
      refine g_aload_n 0 dX9_electedSet_16 rfl ?_
      refine g_getR dX9_electedSet_17 flX9_62 (by decide) rfl hx0 ?_
      refine g_iload_n 2 dX9_electedSet_20 rfl ?_
      obtain ⟨c3, h⟩ := chk_some h
      refine g_iald dX9_electedSet_21 (sf_8_24 hx0) c3.1 c3.2 ?_
      refine g_iconst (v := 2) dX9_electedSet_22 rfl (i32l rfl) ?_
      obtain ⟨t6, ht6, h⟩ := bnd_some h
      have Kt6 : Go X mX9_electedSet (d + 6) 32 [(0, XR x0), (1, XI t6), (2, XI x2)] [] M Post := by
        obtain ⟨c9, h⟩ := chk_some h
        refine g_iinc (ls' := [(2, XI (x2 + 1)), (0, XR x0), (1, XI t6)]) 2 dX9_electedSet_32 rfl rfl c9 (by decide) rfl ?_
        refine g_goto (tgt := 8) dX9_electedSet_35 (by decide) ?_
        exact g_sub [1, 2, 0] rfl (ih _ _ _ _ h K)
      refine g_icmp_ne (tgt := 32) dX9_electedSet_23 (by decide) (fun b7 => ?_) (fun b7 => ?_)
      · replace ht6 := ifn b7 ht6
        cases ht6
        exact g_sub [0, 1, 2] rfl Kt6
      · replace ht6 := ifp b7 ht6
        refine g_pc (pc' := 26) rfl ?_
        refine g_iload_n 1 dX9_electedSet_26 rfl ?_
        refine g_iconst (v := 1) dX9_electedSet_27 rfl (i32l rfl) ?_
        refine g_iload_n 2 dX9_electedSet_28 rfl ?_
        refine g_ishl dX9_electedSet_29 ?_
        refine g_ior dX9_electedSet_30 ?_
        refine g_nmI (fun v8 ev8 => ?_)
        replace ht6 := nm_s ev8 ht6
        refine g_istore_n (ls' := [(1, XI v8), (0, XR x0), (2, XI x2)]) dX9_electedSet_31 (by decide) rfl ?_
        cases ht6
        exact g_sub [1, 0, 2] rfl Kt6
set_option maxHeartbeats 8000000 in
set_option maxRecDepth 20000 in
theorem kX9_electedSet {X : XC} {d : Nat} {x0 : Nat} (hx0 : Sh x0 = (18, 69)) {M : Mem} {q : Int × Mem} (h : fX9_electedSet x0 M = some q) : Ct X mX9_electedSet (d + 6) [XR x0] M (pI q) := by
  unfold fX9_electedSet at h
  refine ct_go (by decide +kernel) (Nat.le_of_ble_eq_true rfl) (ls := [(0, XR x0)]) rfl ?_
  refine g_aload_n 0 dX9_electedSet_0 rfl ?_
  obtain ⟨q1, hq1, h⟩ := bnd_some h
  refine v_V (ci := 8) (as := []) dX9_electedSet_1 mlX9_310 mdX9_counts mvX9_counts rfl hx0 rfl (Nat.le_of_ble_eq_true rfl) (kX9_counts hx0 hq1) rfl ?_
  refine g_iconst (v := 0) dX9_electedSet_4 rfl (i32l rfl) ?_
  refine g_istore_n (ls' := [(1, XI 0), (0, XR x0)]) dX9_electedSet_5 (by decide) rfl ?_
  refine g_iconst (v := 0) dX9_electedSet_6 rfl (i32l rfl) ?_
  refine g_istore_n (ls' := [(2, XI 0), (1, XI 0), (0, XR x0)]) dX9_electedSet_7 (by decide) rfl ?_
  obtain ⟨z10, hz10, h⟩ := bnd_some h
  refine g_sub (ls' := [(0, XR x0), (1, XI 0), (2, XI 0)]) [2, 1, 0] rfl ?_
  refine lX9_electedSet_l8 hx0 1000 _ _ _ _ hz10 ?_
  refine g_iload_n 0 dX9_electedSet_38 rfl ?_
  cases h
  exact g_ireturn dX9_electedSet_39 rfl ⟨rfl, rfl⟩
set_option maxHeartbeats 8000000 in
set_option maxRecDepth 20000 in
theorem lX9_firstMany_l4 {X : XC} {d : Nat} {Post : Option XV → Mem → Prop} {x0 : Nat} {x1 : Int} (hx0 : Sh x0 = (18, 69)) : ∀ (n : Nat) (x2 x3 : Int) (M : Mem) (t0 : Int × Int × Mem), fX9_firstMany_l4 x0 x1 n x2 x3 M = some t0 → Go X mX9_firstMany (d + 3) 56 [(2, XI t0.1)] [] t0.2.2 Post → Go X mX9_firstMany (d + 3) 4 [(0, XR x0), (1, XI x1), (2, XI x2), (3, XI x3)] [] M Post := by
  intro n
  induction n with
  | zero => intro _ _ _ _ h; cases h
  | succ n ih =>
    intro x2 x3 M t0 h K
    unfold fX9_firstMany_l4 at h
    refine g_iload_n 3 dX9_firstMany_4 rfl ?_
    refine g_aload_n 0 dX9_firstMany_5 rfl ?_
    refine g_getI dX9_firstMany_6 flX9_174 (by decide) rfl hx0 ?_
    refine g_icmp_ge (tgt := 56) dX9_firstMany_9 (by decide) (fun b1 => ?_) (fun b1 => ?_)
    · replace h := ifp b1 h
      cases h
      exact g_sub [2] rfl K
    · replace h := ifn b1 h
      refine g_pc (pc' := 12) rfl ?_
      refine g_aload_n 0 dX9_firstMany_12 rfl ?_
      refine g_aload_n 0 dX9_firstMany_13 rfl ?_
      refine g_getR dX9_firstMany_14 flX9_19 (by decide) rfl hx0 ?_
      refine g_iload_n 3 dX9_firstMany_17 rfl ?_
      obtain ⟨c2, h⟩ := chk_some h
      refine g_iald dX9_firstMany_18 (sf_8_4 hx0) c2.1 c2.2 ?_
      obtain ⟨q3, hq3, h⟩ := bnd_some h
      refine v_I (ci := 8) (as := [XI (M (x0 + 5) (Int.toNat x3))]) dX9_firstMany_19 mlX9_228 mdX9_left mvX9_left rfl hx0 rfl (Nat.le_of_ble_eq_true rfl) (kX9_left hx0 hq3) rfl ?_
      refine g_nmI (fun v4 ev4 => ?_)
      replace h := nm_s ev4 h
      refine g_istore (ls' := [(4, XI v4), (0, XR x0), (1, XI x1), (2, XI x2), (3, XI x3)]) dX9_firstMany_22 (by decide) rfl ?_
      refine g_iload 0 dX9_firstMany_24 rfl ?_
      refine g_pc (pc' := 26) rfl ?_
      obtain ⟨t12, ht12, h⟩ := bnd_some h
      have Kt12 : Go X mX9_firstMany (d + 3) 50 [(0, XR x0), (1, XI x1), (2, XI t12.1), (3, XI x3)] [] t12.2 Post := by
        obtain ⟨c20, h⟩ := chk_some h
        refine g_iinc (ls' := [(3, XI (x3 + 1)), (0, XR x0), (1, XI x1), (2, XI t12.1)]) 3 dX9_firstMany_50 rfl rfl c20 (by decide) rfl ?_
        refine g_goto (tgt := 4) dX9_firstMany_53 (by decide) ?_
        exact g_sub [1, 2, 3, 0] rfl (ih _ _ _ _ h K)
      refine g_if_le (tgt := 50) dX9_firstMany_26 (by decide) (fun b13 => ?_) (fun b13 => ?_)
      · replace ht12 := ifp b13 ht12
        cases ht12
        exact g_sub [1, 2, 3, 4] rfl Kt12
      · replace ht12 := ifn b13 ht12
        refine g_pc (pc' := 29) rfl ?_
        refine g_iload 0 dX9_firstMany_29 rfl ?_
        refine g_iconst (v := 0) dX9_firstMany_31 rfl (i32l rfl) ?_
        obtain ⟨q14, hq14, ht12⟩ := bnd_some ht12
        refine s_I (as := [XI v4, XI 0]) dX9_firstMany_32 mlX9_181 mdX9_digitAt msX9_digitAt rfl (Nat.le_of_ble_eq_true rfl) (kX9_digitAt  hq14) rfl ?_
        refine g_iload_n 2 dX9_firstMany_35 rfl ?_
        refine g_iconst (v := 1) dX9_firstMany_36 rfl (i32l rfl) ?_
        obtain ⟨c15, ht12⟩ := chk_some ht12
        refine g_iadd dX9_firstMany_37 rfl c15 ?_
        refine g_icmp_ne (tgt := 50) dX9_firstMany_38 (by decide) (fun b16 => ?_) (fun b16 => ?_)
        · replace ht12 := ifn b16 ht12
          cases ht12
          exact g_sub [1, 2, 3, 4] rfl Kt12
        · replace ht12 := ifp b16 ht12
          refine g_pc (pc' := 41) rfl ?_
          refine g_iload_n 3 dX9_firstMany_41 rfl ?_
          refine g_aload_n 1 dX9_firstMany_42 rfl ?_
          refine g_getR dX9_firstMany_43 flX9_22 (by decide) rfl hx0 ?_
          refine g_iload_n 4 dX9_firstMany_46 rfl ?_
          obtain ⟨c17, ht12⟩ := chk_some ht12
          refine g_iald dX9_firstMany_47 (sf_8_5 hx0) c17.1 c17.2 ?_
          obtain ⟨c18, ht12⟩ := chk_some ht12
          refine g_iadd dX9_firstMany_48 rfl c18 ?_
          refine g_nmI (fun v19 ev19 => ?_)
          replace ht12 := nm_s ev19 ht12
          refine g_istore_n (ls' := [(2, XI v19), (4, XI v4), (0, XR x0), (1, XI x1), (3, XI x3)]) dX9_firstMany_49 (by decide) rfl ?_
          cases ht12
          exact g_sub [2, 3, 0, 4] rfl Kt12
set_option maxHeartbeats 8000000 in
set_option maxRecDepth 20000 in
theorem kX9_firstMany {X : XC} {d : Nat} {x0 : Nat} {x1 : Int} (hx0 : Sh x0 = (18, 69)) {M : Mem} {q : Int × Mem} (h : fX9_firstMany x0 x1 M = some q) : Ct X mX9_firstMany (d + 3) [XR x0, XI x1] M (pI q) := by
  unfold fX9_firstMany at h
  refine ct_go (by decide +kernel) (Nat.le_of_ble_eq_true rfl) (ls := [(0, XR x0), (1, XI x1)]) rfl ?_
  refine g_iconst (v := 0) dX9_firstMany_0 rfl (i32l rfl) ?_
  refine g_istore_n (ls' := [(2, XI 0), (0, XR x0), (1, XI x1)]) dX9_firstMany_1 (by decide) rfl ?_
  refine g_iconst (v := 0) dX9_firstMany_2 rfl (i32l rfl) ?_
  refine g_istore_n (ls' := [(3, XI 0), (2, XI 0), (0, XR x0), (1, XI x1)]) dX9_firstMany_3 (by decide) rfl ?_
  obtain ⟨z21, hz21, h⟩ := bnd_some h
  refine g_sub (ls' := [(0, XR x0), (1, XI x1), (2, XI 0), (3, XI 0)]) [2, 3, 1, 0] rfl ?_
  refine lX9_firstMany_l4 hx0 1000 _ _ _ _ hz21 ?_
  refine g_iload_n 0 dX9_firstMany_56 rfl ?_
  cases h
  exact g_ireturn dX9_firstMany_57 rfl ⟨rfl, rfl⟩
set_option maxHeartbeats 8000000 in
set_option maxRecDepth 20000 in
theorem kX9_of {X : XC} {d : Nat} {x0 : Nat} {x1 : Int} {x2 : Int} (hx0 : Sh x0 = (18, 69)) {M : Mem} {q : Int × Mem} (h : fX9_of x0 x1 x2 M = some q) : Ct X mX9_of (d + 6) [XR x0, XI x1, XI x2] M (pI q) := by
  unfold fX9_of at h
  refine ct_go (by decide +kernel) (Nat.le_of_ble_eq_true rfl) (ls := [(0, XR x0), (1, XI x1), (2, XI x2)]) rfl ?_
  refine g_aload_n 0 dX9_of_0 rfl ?_
  refine g_iload_n 1 dX9_of_1 rfl ?_
  obtain ⟨q1, hq1, h⟩ := bnd_some h
  refine v_I (ci := 8) (as := [XI x1]) dX9_of_2 mlX9_211 mdX9_isOne mvX9_isOne rfl hx0 rfl (Nat.le_of_ble_eq_true rfl) (kX9_isOne hx0 hq1) rfl ?_
  refine g_if_eq (tgt := 20) dX9_of_5 (by decide) (fun b2 => ?_) (fun b2 => ?_)
  · replace h := ifp b2 h
    refine g_iconst (v := -1) dX9_of_20 rfl (i32l rfl) ?_
    cases h
    exact g_ireturn dX9_of_21 rfl ⟨rfl, rfl⟩
  · replace h := ifn b2 h
    refine g_pc (pc' := 8) rfl ?_
    refine g_iload_n 2 dX9_of_8 rfl ?_
    refine g_i2l dX9_of_9 ?_
    refine g_lconst (v := 0) dX9_of_10 rfl (i64l rfl) ?_
    refine g_ldc2 (v := 3) dX9_of_11 csX9_313 (by decide +kernel) (i64l rfl) ?_
    obtain ⟨q3, hq3, h⟩ := bnd_some h
    refine s_I (as := [XL x2, XL 0, XL 3]) dX9_of_14 mlX9_170 mdX9_in msX9_in rfl (Nat.le_of_ble_eq_true rfl) (kX9_in  hq3) rfl ?_
    refine g_if_ne (tgt := 22) dX9_of_17 (by decide) (fun b4 => ?_) (fun b4 => ?_)
    · replace h := ifn b4 h
      refine g_aload_n 0 dX9_of_22 rfl ?_
      obtain ⟨q5, hq5, h⟩ := bnd_some h
      refine v_V (ci := 8) (as := []) dX9_of_23 mlX9_310 mdX9_counts mvX9_counts rfl hx0 rfl (Nat.le_of_ble_eq_true rfl) (kX9_counts hx0 hq5) rfl ?_
      refine g_iload_n 2 dX9_of_26 rfl ?_
      obtain ⟨t13, ht13, h⟩ := bnd_some h
      have Kt13 : Go X mX9_of (d + 6) 71 [] [XI t13.1] t13.2 (pI q) := by
        cases h
        exact g_ireturn dX9_of_71 rfl ⟨rfl, rfl⟩
      refine g_if_ne (tgt := 39) dX9_of_27 (by decide) (fun b14 => ?_) (fun b14 => ?_)
      · replace ht13 := ifn b14 ht13
        refine g_iload_n 2 dX9_of_39 rfl ?_
        refine g_iconst (v := 1) dX9_of_40 rfl (i32l rfl) ?_
        refine g_icmp_ne (tgt := 53) dX9_of_41 (by decide) (fun b15 => ?_) (fun b15 => ?_)
        · replace ht13 := ifn b15 ht13
          refine g_iload_n 2 dX9_of_53 rfl ?_
          refine g_iconst (v := 2) dX9_of_54 rfl (i32l rfl) ?_
          refine g_icmp_ne (tgt := 66) dX9_of_55 (by decide) (fun b16 => ?_) (fun b16 => ?_)
          · replace ht13 := ifn b16 ht13
            refine g_aload_n 0 dX9_of_66 rfl ?_
            refine g_iload_n 1 dX9_of_67 rfl ?_
            obtain ⟨q17, hq17, ht13⟩ := bnd_some ht13
            refine v_I (ci := 8) (as := [XI x1]) dX9_of_68 mlX9_315 mdX9_firstMany mvX9_firstMany rfl hx0 rfl (Nat.le_of_ble_eq_true rfl) (kX9_firstMany hx0 hq17) rfl ?_
            cases ht13
            exact g_sub [] rfl Kt13
          · replace ht13 := ifp b16 ht13
            refine g_pc (pc' := 58) rfl ?_
            refine g_aload_n 0 dX9_of_58 rfl ?_
            refine g_iload_n 1 dX9_of_59 rfl ?_
            obtain ⟨q18, hq18, ht13⟩ := bnd_some ht13
            refine v_I (ci := 8) (as := [XI x1]) dX9_of_60 mlX9_245 mdX9_lotOf mvX9_lotOf rfl hx0 rfl (Nat.le_of_ble_eq_true rfl) (kX9_lotOf hx0 hq18) rfl ?_
            refine g_goto (tgt := 71) dX9_of_63 (by decide) ?_
            cases ht13
            exact g_sub [] rfl Kt13
        · replace ht13 := ifp b15 ht13
          refine g_pc (pc' := 44) rfl ?_
          refine g_aload_n 0 dX9_of_44 rfl ?_
          refine g_getR dX9_of_45 flX9_68 (by decide) rfl hx0 ?_
          refine g_iload_n 1 dX9_of_48 rfl ?_
          obtain ⟨c19, ht13⟩ := chk_some ht13
          refine g_iald dX9_of_49 (sf_8_26 hx0) c19.1 c19.2 ?_
          refine g_goto (tgt := 71) dX9_of_50 (by decide) ?_
          cases ht13
          exact g_sub [] rfl Kt13
      · replace ht13 := ifp b14 ht13
        refine g_pc (pc' := 30) rfl ?_
        refine g_aload_n 0 dX9_of_30 rfl ?_
        refine g_getR dX9_of_31 flX9_62 (by decide) rfl hx0 ?_
        refine g_iload_n 1 dX9_of_34 rfl ?_
        obtain ⟨c20, ht13⟩ := chk_some ht13
        refine g_iald dX9_of_35 (sf_8_24 hx0) c20.1 c20.2 ?_
        refine g_goto (tgt := 71) dX9_of_36 (by decide) ?_
        cases ht13
        exact g_sub [] rfl Kt13
    · replace h := ifp b4 h
      refine g_pc (pc' := 20) rfl ?_
      refine g_iconst (v := -1) dX9_of_20 rfl (i32l rfl) ?_
      cases h
      exact g_ireturn dX9_of_21 rfl ⟨rfl, rfl⟩
set_option maxHeartbeats 8000000 in
set_option maxRecDepth 20000 in
theorem kX9_ballotOf {X : XC} {d : Nat} {x0 : Nat} {x1 : Int} {x2 : Int} (hx0 : Sh x0 = (18, 69)) {M : Mem} {q : Int × Mem} (h : fX9_ballotOf x0 x1 x2 M = some q) : Ct X mX9_ballotOf (d + 3) [XR x0, XI x1, XI x2] M (pI q) := by
  unfold fX9_ballotOf at h
  refine ct_go (by decide +kernel) (Nat.le_of_ble_eq_true rfl) (ls := [(0, XR x0), (1, XI x1), (2, XI x2)]) rfl ?_
  refine g_aload_n 0 dX9_ballotOf_0 rfl ?_
  refine g_iload_n 1 dX9_ballotOf_1 rfl ?_
  obtain ⟨q1, hq1, h⟩ := bnd_some h
  refine v_I (ci := 8) (as := [XI x1]) dX9_ballotOf_2 mlX9_208 mdX9_isBallot mvX9_isBallot rfl hx0 rfl (Nat.le_of_ble_eq_true rfl) (kX9_isBallot hx0 hq1) rfl ?_
  refine g_if_eq (tgt := 20) dX9_ballotOf_5 (by decide) (fun b2 => ?_) (fun b2 => ?_)
  · replace h := ifp b2 h
    refine g_iconst (v := -1) dX9_ballotOf_20 rfl (i32l rfl) ?_
    cases h
    exact g_ireturn dX9_ballotOf_21 rfl ⟨rfl, rfl⟩
  · replace h := ifn b2 h
    refine g_pc (pc' := 8) rfl ?_
    refine g_iload_n 2 dX9_ballotOf_8 rfl ?_
    refine g_i2l dX9_ballotOf_9 ?_
    refine g_lconst (v := 0) dX9_ballotOf_10 rfl (i64l rfl) ?_
    refine g_ldc2 (v := 2) dX9_ballotOf_11 csX9_214 (by decide +kernel) (i64l rfl) ?_
    obtain ⟨q3, hq3, h⟩ := bnd_some h
    refine s_I (as := [XL x2, XL 0, XL 2]) dX9_ballotOf_14 mlX9_170 mdX9_in msX9_in rfl (Nat.le_of_ble_eq_true rfl) (kX9_in  hq3) rfl ?_
    refine g_if_ne (tgt := 22) dX9_ballotOf_17 (by decide) (fun b4 => ?_) (fun b4 => ?_)
    · replace h := ifn b4 h
      refine g_aload_n 0 dX9_ballotOf_22 rfl ?_
      refine g_aload_n 0 dX9_ballotOf_23 rfl ?_
      refine g_getR dX9_ballotOf_24 flX9_19 (by decide) rfl hx0 ?_
      refine g_iload_n 1 dX9_ballotOf_27 rfl ?_
      obtain ⟨c5, h⟩ := chk_some h
      refine g_iald dX9_ballotOf_28 (sf_8_4 hx0) c5.1 c5.2 ?_
      obtain ⟨q6, hq6, h⟩ := bnd_some h
      refine v_I (ci := 8) (as := [XI (q3.2 (x0 + 5) (Int.toNat x1))]) dX9_ballotOf_29 mlX9_228 mdX9_left mvX9_left rfl hx0 rfl (Nat.le_of_ble_eq_true rfl) (kX9_left hx0 hq6) rfl ?_
      refine g_nmI (fun v7 ev7 => ?_)
      replace h := nm_s ev7 h
      refine g_istore_n (ls' := [(3, XI v7), (0, XR x0), (1, XI x1), (2, XI x2)]) dX9_ballotOf_32 (by decide) rfl ?_
      refine g_iload_n 3 dX9_ballotOf_33 rfl ?_
      refine g_pc (pc' := 34) rfl ?_
      obtain ⟨t16, ht16, h⟩ := bnd_some h
      have Kt16 : Go X mX9_ballotOf (d + 3) 79 [] [XI t16.1] t16.2 (pI q) := by
        cases h
        exact g_ireturn dX9_ballotOf_79 rfl ⟨rfl, rfl⟩
      refine g_if_ne (tgt := 46) dX9_ballotOf_34 (by decide) (fun b17 => ?_) (fun b17 => ?_)
      · replace ht16 := ifn b17 ht16
        refine g_iload_n 3 dX9_ballotOf_46 rfl ?_
        refine g_iconst (v := 1) dX9_ballotOf_47 rfl (i32l rfl) ?_
        refine g_icmp_ne (tgt := 63) dX9_ballotOf_48 (by decide) (fun b18 => ?_) (fun b18 => ?_)
        · replace ht16 := ifn b18 ht16
          refine g_iload_n 0 dX9_ballotOf_63 rfl ?_
          refine g_if_ne (tgt := 72) dX9_ballotOf_64 (by decide) (fun b19 => ?_) (fun b19 => ?_)
          · replace ht16 := ifn b19 ht16
            refine g_iload_n 0 dX9_ballotOf_72 rfl ?_
            refine g_iconst (v := 0) dX9_ballotOf_73 rfl (i32l rfl) ?_
            obtain ⟨q20, hq20, ht16⟩ := bnd_some ht16
            refine s_I (as := [XI v7, XI 0]) dX9_ballotOf_74 mlX9_181 mdX9_digitAt msX9_digitAt rfl (Nat.le_of_ble_eq_true rfl) (kX9_digitAt  hq20) rfl ?_
            refine g_iconst (v := 1) dX9_ballotOf_77 rfl (i32l rfl) ?_
            obtain ⟨c21, ht16⟩ := chk_some ht16
            refine g_isub dX9_ballotOf_78 rfl c21 ?_
            cases ht16
            exact g_sub [] rfl Kt16
          · replace ht16 := ifp b19 ht16
            refine g_pc (pc' := 67) rfl ?_
            refine g_bip dX9_ballotOf_67 rfl ?_
            refine g_goto (tgt := 79) dX9_ballotOf_69 (by decide) ?_
            cases ht16
            exact g_sub [] rfl Kt16
        · replace ht16 := ifp b18 ht16
          refine g_pc (pc' := 51) rfl ?_
          refine g_aload_n 1 dX9_ballotOf_51 rfl ?_
          refine g_getR dX9_ballotOf_52 flX9_19 (by decide) rfl hx0 ?_
          refine g_iload_n 2 dX9_ballotOf_55 rfl ?_
          obtain ⟨c22, ht16⟩ := chk_some ht16
          refine g_iald dX9_ballotOf_56 (sf_8_4 hx0) c22.1 c22.2 ?_
          obtain ⟨q23, hq23, ht16⟩ := bnd_some ht16
          refine s_I (as := [XI (q6.2 (x0 + 5) (Int.toNat x1))]) dX9_ballotOf_57 mlX9_177 mdX9_lengthOf msX9_lengthOf rfl (Nat.le_of_ble_eq_true rfl) (kX9_lengthOf  hq23) rfl ?_
          refine g_goto (tgt := 79) dX9_ballotOf_60 (by decide) ?_
          cases ht16
          exact g_sub [] rfl Kt16
      · replace ht16 := ifp b17 ht16
        refine g_pc (pc' := 37) rfl ?_
        refine g_aload_n 1 dX9_ballotOf_37 rfl ?_
        refine g_getR dX9_ballotOf_38 flX9_22 (by decide) rfl hx0 ?_
        refine g_iload_n 2 dX9_ballotOf_41 rfl ?_
        obtain ⟨c24, ht16⟩ := chk_some ht16
        refine g_iald dX9_ballotOf_42 (sf_8_5 hx0) c24.1 c24.2 ?_
        refine g_goto (tgt := 79) dX9_ballotOf_43 (by decide) ?_
        cases ht16
        exact g_sub [] rfl Kt16
    · replace h := ifp b4 h
      refine g_pc (pc' := 20) rfl ?_
      refine g_iconst (v := -1) dX9_ballotOf_20 rfl (i32l rfl) ?_
      cases h
      exact g_ireturn dX9_ballotOf_21 rfl ⟨rfl, rfl⟩
end
