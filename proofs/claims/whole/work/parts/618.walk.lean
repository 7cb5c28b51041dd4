section
set_option maxHeartbeats 8000000 in
set_option maxRecDepth 20000 in
theorem lX9_tellVotes_l2 {X : XC} {d : Nat} {Post : Option XV → Mem → Prop} {x0 : Nat} (hx0 : Sh x0 = (18, 69)) : ∀ (n : Nat) (x1 : Int) (M : Mem) (t0 : Int × Mem), fX9_tellVotes_l2 x0 n x1 M = some t0 → Go X mX9_tellVotes (d + 2) 23 [(0, XR x0)] [] t0.2 Post → Go X mX9_tellVotes (d + 2) 2 [(0, XR x0), (1, XI x1)] [] M Post := by
  intro n
  induction n with
  | zero => intro _ _ _ h; cases h
  | succ n ih =>
    intro x1 M t0 h K
    unfold fX9_tellVotes_l2 at h
    refine g_iload_n 1 dX9_tellVotes_2 rfl ?_
    refine g_aload_n 0 dX9_tellVotes_3 rfl ?_
    refine g_getI dX9_tellVotes_4 flX9_167 (by decide) rfl hx0 ?_
    refine g_icmp_ge (tgt := 23) dX9_tellVotes_7 (by decide) (fun b1 => ?_) (fun b1 => ?_)
    · replace h := ifp b1 h
      cases h
      exact g_sub [0] rfl K
    · replace h := ifn b1 h
      refine g_pc (pc' := 10) rfl ?_
      refine g_aload_n 0 dX9_tellVotes_10 rfl ?_
      refine g_getR dX9_tellVotes_11 flX9_74 (by decide) rfl hx0 ?_
      refine g_iload_n 1 dX9_tellVotes_14 rfl ?_
      refine g_lconst (v := 0) dX9_tellVotes_15 rfl (i64l rfl) ?_
      obtain ⟨c2, h⟩ := chk_some h
      refine g_last dX9_tellVotes_16 (sf_8_28 hx0) c2.1 c2.2 ?_
      refine g_nmM (fun M3 eM3 => ?_)
      replace h := nm_s eM3 h
      obtain ⟨c4, h⟩ := chk_some h
      refine g_iinc (ls' := [(1, XI (x1 + 1)), (0, XR x0)]) 1 dX9_tellVotes_17 rfl rfl c4 (by decide) rfl ?_
      refine g_goto (tgt := 2) dX9_tellVotes_20 (by decide) ?_
      exact g_sub [1, 0] rfl (ih _ _ _ h K)
set_option maxHeartbeats 8000000 in
set_option maxRecDepth 20000 in
theorem lX9_tellVotes_l53 {X : XC} {d : Nat} {Post : Option XV → Mem → Prop} {x0 : Nat} {x1 : Int} (hx0 : Sh x0 = (18, 69)) : ∀ (n : Nat) (x2 x4 : Int) (M : Mem) (t0 : Int × Int × Mem), fX9_tellVotes_l53 x0 x1 n x2 x4 M = some t0 → Go X mX9_tellVotes (d + 2) 121 [(0, XR x0), (1, XI x1), (2, XL t0.1)] [] t0.2.2 Post → Go X mX9_tellVotes (d + 2) 53 [(0, XR x0), (1, XI x1), (2, XL x2), (4, XI x4)] [] M Post := by
  intro n
  induction n with
  | zero => intro _ _ _ _ h; cases h
  | succ n ih =>
    intro x2 x4 M t0 h K
    unfold fX9_tellVotes_l53 at h
    refine g_iload 3 dX9_tellVotes_53 rfl ?_
    refine g_aload_n 0 dX9_tellVotes_55 rfl ?_
    refine g_getR dX9_tellVotes_56 flX9_53 (by decide) rfl hx0 ?_
    refine g_iload_n 1 dX9_tellVotes_59 rfl ?_
    obtain ⟨c11, h⟩ := chk_some h
    refine g_iald dX9_tellVotes_60 (sf_8_19 hx0) c11.1 c11.2 ?_
    obtain ⟨q12, hq12, h⟩ := bnd_some h
    refine s_I (as := [XI (M (x0 + 20) (Int.toNat x1))]) dX9_tellVotes_61 mlX9_177 mdX9_lengthOf msX9_lengthOf rfl (Nat.le_of_ble_eq_true rfl) (kX9_lengthOf  hq12) rfl ?_
    refine g_icmp_ge (tgt := 121) dX9_tellVotes_64 (by decide) (fun b13 => ?_) (fun b13 => ?_)
    · replace h := ifp b13 h
      cases h
      exact g_sub [0, 1, 2] rfl K
    · replace h := ifn b13 h
      refine g_pc (pc' := 67) rfl ?_
      refine g_aload_n 0 dX9_tellVotes_67 rfl ?_
      refine g_getR dX9_tellVotes_68 flX9_53 (by decide) rfl hx0 ?_
      refine g_iload_n 1 dX9_tellVotes_71 rfl ?_
      obtain ⟨c14, h⟩ := chk_some h
      refine g_iald dX9_tellVotes_72 (sf_8_19 hx0) c14.1 c14.2 ?_
      refine g_iload 3 dX9_tellVotes_73 rfl ?_
      obtain ⟨q15, hq15, h⟩ := bnd_some h
      refine s_I (as := [XI (q12.2 (x0 + 20) (Int.toNat x1)), XI x4]) dX9_tellVotes_75 mlX9_181 mdX9_digitAt msX9_digitAt rfl (Nat.le_of_ble_eq_true rfl) (kX9_digitAt  hq15) rfl ?_
      refine g_iconst (v := 1) dX9_tellVotes_78 rfl (i32l rfl) ?_
      obtain ⟨c16, h⟩ := chk_some h
      refine g_isub dX9_tellVotes_79 rfl c16 ?_
      refine g_pc (pc' := 80) rfl ?_
      refine g_nmI (fun v17 ev17 => ?_)
      replace h := nm_s ev17 h
      refine g_istore (ls' := [(5, XI v17), (0, XR x0), (1, XI x1), (2, XL x2), (4, XI x4)]) dX9_tellVotes_80 (by decide) rfl ?_
      refine g_lload_n 3 dX9_tellVotes_82 rfl ?_
      refine g_aload_n 1 dX9_tellVotes_83 rfl ?_
      refine g_getR dX9_tellVotes_84 flX9_65 (by decide) rfl hx0 ?_
      refine g_iload 0 dX9_tellVotes_87 rfl ?_
      obtain ⟨c18, h⟩ := chk_some h
      refine g_iald dX9_tellVotes_89 (sf_8_25 hx0) c18.1 c18.2 ?_
      refine g_i2l dX9_tellVotes_90 ?_
      obtain ⟨c19, h⟩ := chk_some h
      refine g_lmul dX9_tellVotes_91 rfl c19 ?_
      refine g_ldc2 (v := 1000000) dX9_tellVotes_92 csX9_200 (by decide +kernel) (i64l rfl) ?_
      refine g_pc (pc' := 95) rfl ?_
      obtain ⟨c20, h⟩ := chk_some h
      refine g_ldiv dX9_tellVotes_95 c20 (by decide) rfl ?_
      refine g_nmL (fun v21 ev21 => ?_)
      replace h := nm_s ev21 h
      refine g_lstore (ls' := [(6, XL v21), (5, XI v17), (0, XR x0), (1, XI x1), (2, XL x2), (4, XI x4)]) dX9_tellVotes_96 (by decide) rfl ?_
      refine g_aload_n 2 dX9_tellVotes_98 rfl ?_
      refine g_getR dX9_tellVotes_99 flX9_74 (by decide) rfl hx0 ?_
      refine g_iload 1 dX9_tellVotes_102 rfl ?_
      refine g_dup2RI dX9_tellVotes_104 ?_
      obtain ⟨c22, h⟩ := chk_some h
      refine g_lald dX9_tellVotes_105 (sf_8_28 hx0) c22.1 c22.2 ?_
      refine g_lload 0 dX9_tellVotes_106 rfl ?_
      obtain ⟨c23, h⟩ := chk_some h
      refine g_ladd dX9_tellVotes_108 rfl c23 ?_
      refine g_pc (pc' := 109) rfl ?_
      obtain ⟨c24, h⟩ := chk_some h
      refine g_last dX9_tellVotes_109 (sf_8_28 hx0) c24.1 c24.2 ?_
      refine g_nmM (fun M25 eM25 => ?_)
      replace h := nm_s eM25 h
      refine g_lload_n 4 dX9_tellVotes_110 rfl ?_
      refine g_lload 0 dX9_tellVotes_111 rfl ?_
      obtain ⟨c26, h⟩ := chk_some h
      refine g_lsub dX9_tellVotes_113 rfl c26 ?_
      refine g_nmL (fun v27 ev27 => ?_)
      replace h := nm_s ev27 h
      refine g_lstore_n (ls' := [(2, XL v27), (6, XL v21), (5, XI v17), (0, XR x0), (1, XI x1), (4, XI x4)]) dX9_tellVotes_114 (by decide) rfl ?_
      obtain ⟨c28, h⟩ := chk_some h
      refine g_iinc (ls' := [(4, XI (x4 + 1)), (2, XL v27), (6, XL v21), (5, XI v17), (0, XR x0), (1, XI x1)]) 5 dX9_tellVotes_115 rfl rfl c28 (by decide) rfl ?_
      refine g_goto (tgt := 53) dX9_tellVotes_118 (by decide) ?_
      exact g_sub [4, 5, 1, 0] rfl (ih _ _ _ _ h K)
set_option maxHeartbeats 8000000 in
set_option maxRecDepth 20000 in
theorem lX9_tellVotes_l30 {X : XC} {d : Nat} {Post : Option XV → Mem → Prop} {x0 : Nat} (hx0 : Sh x0 = (18, 69)) : ∀ (n : Nat) (x1 : Int) (M : Mem) (t0 : Int × Mem), fX9_tellVotes_l30 x0 n x1 M = some t0 → Go X mX9_tellVotes (d + 2) 137 [(0, XR x0)] [] t0.2 Post → Go X mX9_tellVotes (d + 2) 30 [(0, XR x0), (1, XI x1)] [] M Post := by
  intro n
  induction n with
  | zero => intro _ _ _ h; cases h
  | succ n ih =>
    intro x1 M t0 h K
    unfold fX9_tellVotes_l30 at h
    refine g_iload_n 1 dX9_tellVotes_30 rfl ?_
    refine g_aload_n 0 dX9_tellVotes_31 rfl ?_
    refine g_getI dX9_tellVotes_32 flX9_225 (by decide) rfl hx0 ?_
    refine g_icmp_ge (tgt := 137) dX9_tellVotes_35 (by decide) (fun b7 => ?_) (fun b7 => ?_)
    · replace h := ifp b7 h
      cases h
      exact g_sub [0] rfl K
    · replace h := ifn b7 h
      refine g_pc (pc' := 38) rfl ?_
      refine g_ldc2 (v := 1000000) dX9_tellVotes_38 csX9_200 (by decide +kernel) (i64l rfl) ?_
      refine g_aload_n 0 dX9_tellVotes_41 rfl ?_
      refine g_getR dX9_tellVotes_42 flX9_59 (by decide) rfl hx0 ?_
      refine g_iload_n 1 dX9_tellVotes_45 rfl ?_
      obtain ⟨c8, h⟩ := chk_some h
      refine g_iald dX9_tellVotes_46 (sf_8_21 hx0) c8.1 c8.2 ?_
      refine g_i2l dX9_tellVotes_47 ?_
      obtain ⟨c9, h⟩ := chk_some h
      refine g_lmul dX9_tellVotes_48 rfl c9 ?_
      refine g_nmL (fun v10 ev10 => ?_)
      replace h := nm_s ev10 h
      refine g_lstore_n (ls' := [(2, XL v10), (0, XR x0), (1, XI x1)]) dX9_tellVotes_49 (by decide) rfl ?_
      refine g_pc (pc' := 50) rfl ?_
      refine g_iconst (v := 0) dX9_tellVotes_50 rfl (i32l rfl) ?_
      refine g_istore (ls' := [(4, XI 0), (2, XL v10), (0, XR x0), (1, XI x1)]) dX9_tellVotes_51 (by decide) rfl ?_
      obtain ⟨z29, hz29, h⟩ := bnd_some h
      refine g_sub (ls' := [(0, XR x0), (1, XI x1), (2, XL v10), (4, XI 0)]) [2, 3, 1, 0] rfl ?_
      refine lX9_tellVotes_l53 hx0 1000 _ _ _ _ hz29 ?_
      refine g_aload_n 0 dX9_tellVotes_121 rfl ?_
      refine g_dupR dX9_tellVotes_122 ?_
      refine g_getJ dX9_tellVotes_123 flX9_235 (by decide) rfl hx0 ?_
      refine g_lload_n 2 dX9_tellVotes_126 rfl ?_
      obtain ⟨c30, h⟩ := chk_some h
      refine g_ladd dX9_tellVotes_127 rfl c30 ?_
      refine g_putJ dX9_tellVotes_128 flX9_235 (by decide) rfl hx0 ?_
      refine g_nmM (fun M31 eM31 => ?_)
      replace h := nm_s eM31 h
      obtain ⟨c32, h⟩ := chk_some h
      refine g_iinc (ls' := [(1, XI (x1 + 1)), (0, XR x0), (2, XL z29.1)]) 1 dX9_tellVotes_131 rfl rfl c32 (by decide) rfl ?_
      refine g_goto (tgt := 30) dX9_tellVotes_134 (by decide) ?_
      exact g_sub [1, 0] rfl (ih _ _ _ h K)
set_option maxHeartbeats 8000000 in
set_option maxRecDepth 20000 in
theorem lX9_tellVotes_l144 {X : XC} {d : Nat} {Post : Option XV → Mem → Prop} {x0 : Nat} (hx0 : Sh x0 = (18, 69)) : ∀ (n : Nat) (x1 : Int) (M : Mem) (t0 : Int × Mem), fX9_tellVotes_l144 x0 n x1 M = some t0 → Go X mX9_tellVotes (d + 2) 173 [(0, XR x0)] [] t0.2 Post → Go X mX9_tellVotes (d + 2) 144 [(0, XR x0), (1, XI x1)] [] M Post := by
  intro n
  induction n with
  | zero => intro _ _ _ h; cases h
  | succ n ih =>
    intro x1 M t0 h K
    unfold fX9_tellVotes_l144 at h
    refine g_iload_n 1 dX9_tellVotes_144 rfl ?_
    refine g_aload_n 0 dX9_tellVotes_145 rfl ?_
    refine g_getI dX9_tellVotes_146 flX9_167 (by decide) rfl hx0 ?_
    refine g_icmp_ge (tgt := 173) dX9_tellVotes_149 (by decide) (fun b35 => ?_) (fun b35 => ?_)
    · replace h := ifp b35 h
      cases h
      exact g_sub [0] rfl K
    · replace h := ifn b35 h
      refine g_pc (pc' := 152) rfl ?_
      refine g_aload_n 0 dX9_tellVotes_152 rfl ?_
      refine g_dupR dX9_tellVotes_153 ?_
      refine g_getJ dX9_tellVotes_154 flX9_239 (by decide) rfl hx0 ?_
      refine g_aload_n 0 dX9_tellVotes_157 rfl ?_
      refine g_getR dX9_tellVotes_158 flX9_74 (by decide) rfl hx0 ?_
      refine g_iload_n 1 dX9_tellVotes_161 rfl ?_
      obtain ⟨c36, h⟩ := chk_some h
      refine g_lald dX9_tellVotes_162 (sf_8_28 hx0) c36.1 c36.2 ?_
      obtain ⟨c37, h⟩ := chk_some h
      refine g_ladd dX9_tellVotes_163 rfl c37 ?_
      refine g_pc (pc' := 164) rfl ?_
      refine g_putJ dX9_tellVotes_164 flX9_239 (by decide) rfl hx0 ?_
      refine g_nmM (fun M38 eM38 => ?_)
      replace h := nm_s eM38 h
      obtain ⟨c39, h⟩ := chk_some h
      refine g_iinc (ls' := [(1, XI (x1 + 1)), (0, XR x0)]) 1 dX9_tellVotes_167 rfl rfl c39 (by decide) rfl ?_
      refine g_goto (tgt := 144) dX9_tellVotes_170 (by decide) ?_
      exact g_sub [1, 0] rfl (ih _ _ _ h K)
set_option maxHeartbeats 8000000 in
set_option maxRecDepth 20000 in
theorem kX9_tellVotes {X : XC} {d : Nat} {x0 : Nat} (hx0 : Sh x0 = (18, 69)) {M : Mem} {q : Int × Mem} (h : fX9_tellVotes x0 M = some q) : Ct X mX9_tellVotes (d + 2) [XR x0] M (pV q) := by
  unfold fX9_tellVotes at h
  refine ct_go (by decide +kernel) (Nat.le_of_ble_eq_true rfl) (ls := [(0, XR x0)]) rfl ?_
  refine g_iconst (v := 0) dX9_tellVotes_0 rfl (i32l rfl) ?_
  refine g_istore_n (ls' := [(1, XI 0), (0, XR x0)]) dX9_tellVotes_1 (by decide) rfl ?_
  obtain ⟨z5, hz5, h⟩ := bnd_some h
  refine g_sub (ls' := [(0, XR x0), (1, XI 0)]) [1, 0] rfl ?_
  refine lX9_tellVotes_l2 hx0 1000 _ _ _ hz5 ?_
  refine g_aload_n 0 dX9_tellVotes_23 rfl ?_
  refine g_lconst (v := 0) dX9_tellVotes_24 rfl (i64l rfl) ?_
  refine g_putJ dX9_tellVotes_25 flX9_235 (by decide) rfl hx0 ?_
  refine g_nmM (fun M6 eM6 => ?_)
  replace h := nm_s eM6 h
  refine g_iconst (v := 0) dX9_tellVotes_28 rfl (i32l rfl) ?_
  refine g_istore_n (ls' := [(1, XI 0), (0, XR x0)]) dX9_tellVotes_29 (by decide) rfl ?_
  obtain ⟨z33, hz33, h⟩ := bnd_some h
  refine g_sub (ls' := [(0, XR x0), (1, XI 0)]) [1, 0] rfl ?_
  refine lX9_tellVotes_l30 hx0 1000 _ _ _ hz33 ?_
  refine g_aload_n 0 dX9_tellVotes_137 rfl ?_
  refine g_lconst (v := 0) dX9_tellVotes_138 rfl (i64l rfl) ?_
  refine g_putJ dX9_tellVotes_139 flX9_239 (by decide) rfl hx0 ?_
  refine g_nmM (fun M34 eM34 => ?_)
  replace h := nm_s eM34 h
  refine g_iconst (v := 0) dX9_tellVotes_142 rfl (i32l rfl) ?_
  refine g_istore_n (ls' := [(1, XI 0), (0, XR x0)]) dX9_tellVotes_143 (by decide) rfl ?_
  obtain ⟨z40, hz40, h⟩ := bnd_some h
  refine g_sub (ls' := [(0, XR x0), (1, XI 0)]) [1, 0] rfl ?_
  refine lX9_tellVotes_l144 hx0 1000 _ _ _ hz40 ?_
  refine g_aload_n 0 dX9_tellVotes_173 rfl ?_
  refine g_aload_n 0 dX9_tellVotes_174 rfl ?_
  refine g_getJ dX9_tellVotes_175 flX9_239 (by decide) rfl hx0 ?_
  refine g_aload_n 0 dX9_tellVotes_178 rfl ?_
  refine g_getI dX9_tellVotes_179 flX9_25 (by decide) rfl hx0 ?_
  refine g_iconst (v := 1) dX9_tellVotes_182 rfl (i32l rfl) ?_
  obtain ⟨c41, h⟩ := chk_some h
  refine g_iadd dX9_tellVotes_183 rfl c41 ?_
  refine g_i2l dX9_tellVotes_184 ?_
  refine g_pc (pc' := 185) rfl ?_
  obtain ⟨c42, h⟩ := chk_some h
  refine g_ldiv dX9_tellVotes_185 c42.1 c42.2 rfl ?_
  refine g_lconst (v := 1) dX9_tellVotes_186 rfl (i64l rfl) ?_
  obtain ⟨c43, h⟩ := chk_some h
  refine g_ladd dX9_tellVotes_187 rfl c43 ?_
  refine g_putJ dX9_tellVotes_188 flX9_242 (by decide) rfl hx0 ?_
  refine g_nmM (fun M44 eM44 => ?_)
  replace h := nm_s eM44 h
  cases h
  exact g_return dX9_tellVotes_191 rfl ⟨rfl, rfl⟩
set_option maxHeartbeats 8000000 in
set_option maxRecDepth 20000 in
theorem kX9_isAhead {X : XC} {d : Nat} {x0 : Nat} {x1 : Int} {x2 : Int} (hx0 : Sh x0 = (18, 69)) {M : Mem} {q : Int × Mem} (h : fX9_isAhead x0 x1 x2 M = some q) : Ct X mX9_isAhead (d + 1) [XR x0, XI x1, XI x2] M (pI q) := by
  unfold fX9_isAhead at h
  refine ct_go (by decide +kernel) (Nat.le_of_ble_eq_true rfl) (ls := [(0, XR x0), (1, XI x1), (2, XI x2)]) rfl ?_
  refine g_aload_n 0 dX9_isAhead_0 rfl ?_
  refine g_getR dX9_isAhead_1 flX9_74 (by decide) rfl hx0 ?_
  refine g_iload_n 1 dX9_isAhead_4 rfl ?_
  obtain ⟨c1, h⟩ := chk_some h
  refine g_lald dX9_isAhead_5 (sf_8_28 hx0) c1.1 c1.2 ?_
  refine g_aload_n 0 dX9_isAhead_6 rfl ?_
  refine g_getR dX9_isAhead_7 flX9_74 (by decide) rfl hx0 ?_
  refine g_iload_n 2 dX9_isAhead_10 rfl ?_
  obtain ⟨c2, h⟩ := chk_some h
  refine g_lald dX9_isAhead_11 (sf_8_28 hx0) c2.1 c2.2 ?_
  refine g_pc (pc' := 12) rfl ?_
  obtain ⟨t10, ht10, h⟩ := bnd_some h
  have Kt10 : Go X mX9_isAhead (d + 1) 50 [] [XI t10.1] t10.2 (pI q) := by
    obtain ⟨cz, h⟩ := chk_some h
    cases h
    exact g_zreturn dX9_isAhead_50 rfl cz ⟨rfl, rfl⟩
  refine g_lcmp_gt (tgt := 45) dX9_isAhead_12 dX9_isAhead_13 (by decide) (fun b11 => ?_) (fun b11 => ?_)
  · replace ht10 := ifp b11 ht10
    refine g_iconst (v := 1) dX9_isAhead_45 rfl (i32l rfl) ?_
    refine g_goto (tgt := 50) dX9_isAhead_46 (by decide) ?_
    cases ht10
    exact g_sub [] rfl Kt10
  · replace ht10 := ifn b11 ht10
    refine g_pc (pc' := 16) rfl ?_
    refine g_aload_n 0 dX9_isAhead_16 rfl ?_
    refine g_getR dX9_isAhead_17 flX9_74 (by decide) rfl hx0 ?_
    refine g_iload_n 1 dX9_isAhead_20 rfl ?_
    obtain ⟨c12, ht10⟩ := chk_some ht10
    refine g_lald dX9_isAhead_21 (sf_8_28 hx0) c12.1 c12.2 ?_
    refine g_aload_n 0 dX9_isAhead_22 rfl ?_
    refine g_getR dX9_isAhead_23 flX9_74 (by decide) rfl hx0 ?_
    refine g_iload_n 2 dX9_isAhead_26 rfl ?_
    obtain ⟨c13, ht10⟩ := chk_some ht10
    refine g_lald dX9_isAhead_27 (sf_8_28 hx0) c13.1 c13.2 ?_
    refine g_pc (pc' := 28) rfl ?_
    refine g_lcmp_ne (tgt := 49) dX9_isAhead_28 dX9_isAhead_29 (by decide) (fun b14 => ?_) (fun b14 => ?_)
    · replace ht10 := ifn b14 ht10
      refine g_iconst (v := 0) dX9_isAhead_49 rfl (i32l rfl) ?_
      cases ht10
      exact g_sub [] rfl Kt10
    · replace ht10 := ifp b14 ht10
      refine g_pc (pc' := 32) rfl ?_
      refine g_aload_n 0 dX9_isAhead_32 rfl ?_
      refine g_iload_n 1 dX9_isAhead_33 rfl ?_
      obtain ⟨q15, hq15, ht10⟩ := bnd_some ht10
      refine v_I (ci := 8) (as := [XI x1]) dX9_isAhead_34 mlX9_245 mdX9_lotOf mvX9_lotOf rfl hx0 rfl (Nat.le_of_ble_eq_true rfl) (kX9_lotOf hx0 hq15) rfl ?_
      refine g_aload_n 0 dX9_isAhead_37 rfl ?_
      refine g_iload_n 2 dX9_isAhead_38 rfl ?_
      obtain ⟨q16, hq16, ht10⟩ := bnd_some ht10
      refine v_I (ci := 8) (as := [XI x2]) dX9_isAhead_39 mlX9_245 mdX9_lotOf mvX9_lotOf rfl hx0 rfl (Nat.le_of_ble_eq_true rfl) (kX9_lotOf hx0 hq16) rfl ?_
      refine g_icmp_ge (tgt := 49) dX9_isAhead_42 (by decide) (fun b17 => ?_) (fun b17 => ?_)
      · replace ht10 := ifp b17 ht10
        refine g_iconst (v := 0) dX9_isAhead_49 rfl (i32l rfl) ?_
        cases ht10
        exact g_sub [] rfl Kt10
      · replace ht10 := ifn b17 ht10
        refine g_pc (pc' := 45) rfl ?_
        refine g_iconst (v := 1) dX9_isAhead_45 rfl (i32l rfl) ?_
        refine g_goto (tgt := 50) dX9_isAhead_46 (by decide) ?_
        cases ht10
        exact g_sub [] rfl Kt10
set_option maxHeartbeats 8000000 in
set_option maxRecDepth 20000 in
theorem kX9_becomesElected {X : XC} {d : Nat} {x0 : Nat} {x1 : Int} (hx0 : Sh x0 = (18, 69)) {M : Mem} {q : Int × Mem} (h : fX9_becomesElected x0 x1 M = some q) : Ct X mX9_becomesElected d [XR x0, XI x1] M (pV q) := by
  unfold fX9_becomesElected at h
  refine ct_go (by decide +kernel) (Nat.le_of_ble_eq_true rfl) (ls := [(0, XR x0), (1, XI x1)]) rfl ?_
  refine g_aload_n 0 dX9_becomesElected_0 rfl ?_
  refine g_getR dX9_becomesElected_1 flX9_62 (by decide) rfl hx0 ?_
  refine g_iload_n 1 dX9_becomesElected_4 rfl ?_
  refine g_iconst (v := 2) dX9_becomesElected_5 rfl (i32l rfl) ?_
  obtain ⟨c1, h⟩ := chk_some h
  refine g_iast dX9_becomesElected_6 (sf_8_24 hx0) c1.1 c1.2 ?_
  refine g_nmM (fun M2 eM2 => ?_)
  replace h := nm_s eM2 h
  refine g_aload_n 0 dX9_becomesElected_7 rfl ?_
  refine g_getR dX9_becomesElected_8 flX9_68 (by decide) rfl hx0 ?_
  refine g_iload_n 1 dX9_becomesElected_11 rfl ?_
  refine g_pc (pc' := 12) rfl ?_
  refine g_aload_n 0 dX9_becomesElected_12 rfl ?_
  refine g_getI dX9_becomesElected_13 flX9_248 (by decide) rfl hx0 ?_
  obtain ⟨c3, h⟩ := chk_some h
  refine g_iast dX9_becomesElected_16 (sf_8_26 hx0) c3.1 c3.2 ?_
  refine g_nmM (fun M4 eM4 => ?_)
  replace h := nm_s eM4 h
  refine g_aload_n 0 dX9_becomesElected_17 rfl ?_
  refine g_getR dX9_becomesElected_18 flX9_102 (by decide) rfl hx0 ?_
  refine g_aload_n 0 dX9_becomesElected_21 rfl ?_
  refine g_getI dX9_becomesElected_22 flX9_248 (by decide) rfl hx0 ?_
  refine g_dup2RI dX9_becomesElected_25 ?_
  obtain ⟨c5, h⟩ := chk_some h
  refine g_iald dX9_becomesElected_26 (sf_8_41 hx0) c5.1 c5.2 ?_
  refine g_pc (pc' := 27) rfl ?_
  refine g_iconst (v := 1) dX9_becomesElected_27 rfl (i32l rfl) ?_
  refine g_iload_n 1 dX9_becomesElected_28 rfl ?_
  refine g_ishl dX9_becomesElected_29 ?_
  refine g_ior dX9_becomesElected_30 ?_
  obtain ⟨c6, h⟩ := chk_some h
  refine g_iast dX9_becomesElected_31 (sf_8_41 hx0) c6.1 c6.2 ?_
  refine g_nmM (fun M7 eM7 => ?_)
  replace h := nm_s eM7 h
  cases h
  exact g_return dX9_becomesElected_32 rfl ⟨rfl, rfl⟩
set_option maxHeartbeats 8000000 in
set_option maxRecDepth 20000 in
theorem lX9_lines_l34 {X : XC} {d : Nat} {Post : Option XV → Mem → Prop} {x0 : Nat} {x1 : Int} (hx0 : Sh x0 = (18, 69)) : ∀ (n : Nat) (x2 : Int) (M : Mem) (t0 : Int × Mem), fX9_lines_l34 x0 x1 n x2 M = some t0 → Go X mX9_lines (d + 2) 94 [(0, XR x0), (1, XI x1), (2, XI t0.1)] [] t0.2 Post → Go X mX9_lines (d + 2) 34 [(0, XR x0), (1, XI x1), (2, XI x2)] [] M Post := by
  intro n
  induction n with
  | zero => intro _ _ _ h; cases h
  | succ n ih =>
    intro x2 M t0 h K
    unfold fX9_lines_l34 at h
    refine g_iload_n 2 dX9_lines_34 rfl ?_
    refine g_if_le (tgt := 94) dX9_lines_35 (by decide) (fun b14 => ?_) (fun b14 => ?_)
    · replace h := ifp b14 h
      cases h
      exact g_sub [0, 1, 2] rfl K
    · replace h := ifn b14 h
      refine g_pc (pc' := 38) rfl ?_
      refine g_aload_n 0 dX9_lines_38 rfl ?_
      refine g_getR dX9_lines_39 flX9_68 (by decide) rfl hx0 ?_
      refine g_aload_n 0 dX9_lines_42 rfl ?_
      refine g_getR dX9_lines_43 flX9_71 (by decide) rfl hx0 ?_
      refine g_iload_n 2 dX9_lines_46 rfl ?_
      refine g_iconst (v := 1) dX9_lines_47 rfl (i32l rfl) ?_
      obtain ⟨c15, h⟩ := chk_some h
      refine g_isub dX9_lines_48 rfl c15 ?_
      obtain ⟨c16, h⟩ := chk_some h
      refine g_iald dX9_lines_49 (sf_8_27 hx0) c16.1 c16.2 ?_
      refine g_pc (pc' := 50) rfl ?_
      obtain ⟨c17, h⟩ := chk_some h
      refine g_iald dX9_lines_50 (sf_8_26 hx0) c17.1 c17.2 ?_
      refine g_aload_n 0 dX9_lines_51 rfl ?_
      refine g_getI dX9_lines_52 flX9_248 (by decide) rfl hx0 ?_
      refine g_icmp_ne (tgt := 94) dX9_lines_55 (by decide) (fun b18 => ?_) (fun b18 => ?_)
      · replace h := ifn b18 h
        cases h
        exact g_sub [0, 1, 2] rfl K
      · replace h := ifp b18 h
        refine g_pc (pc' := 58) rfl ?_
        refine g_aload_n 0 dX9_lines_58 rfl ?_
        refine g_iload_n 1 dX9_lines_59 rfl ?_
        refine g_aload_n 0 dX9_lines_60 rfl ?_
        refine g_getR dX9_lines_61 flX9_71 (by decide) rfl hx0 ?_
        refine g_iload_n 2 dX9_lines_64 rfl ?_
        refine g_iconst (v := 1) dX9_lines_65 rfl (i32l rfl) ?_
        obtain ⟨c19, h⟩ := chk_some h
        refine g_isub dX9_lines_66 rfl c19 ?_
        obtain ⟨c20, h⟩ := chk_some h
        refine g_iald dX9_lines_67 (sf_8_27 hx0) c20.1 c20.2 ?_
        refine g_pc (pc' := 68) rfl ?_
        obtain ⟨q21, hq21, h⟩ := bnd_some h
        refine v_I (ci := 8) (as := [XI x1, XI (M (x0 + 28) (Int.toNat (x2 - 1)))]) dX9_lines_68 mlX9_254 mdX9_isAhead mvX9_isAhead rfl hx0 rfl (Nat.le_of_ble_eq_true rfl) (kX9_isAhead hx0 hq21) rfl ?_
        refine g_if_eq (tgt := 94) dX9_lines_71 (by decide) (fun b22 => ?_) (fun b22 => ?_)
        · replace h := ifp b22 h
          cases h
          exact g_sub [0, 1, 2] rfl K
        · replace h := ifn b22 h
          refine g_pc (pc' := 74) rfl ?_
          refine g_aload_n 0 dX9_lines_74 rfl ?_
          refine g_getR dX9_lines_75 flX9_71 (by decide) rfl hx0 ?_
          refine g_iload_n 2 dX9_lines_78 rfl ?_
          refine g_aload_n 0 dX9_lines_79 rfl ?_
          refine g_getR dX9_lines_80 flX9_71 (by decide) rfl hx0 ?_
          refine g_iload_n 2 dX9_lines_83 rfl ?_
          refine g_iconst (v := 1) dX9_lines_84 rfl (i32l rfl) ?_
          obtain ⟨c23, h⟩ := chk_some h
          refine g_isub dX9_lines_85 rfl c23 ?_
          refine g_pc (pc' := 86) rfl ?_
          obtain ⟨c24, h⟩ := chk_some h
          refine g_iald dX9_lines_86 (sf_8_27 hx0) c24.1 c24.2 ?_
          obtain ⟨c25, h⟩ := chk_some h
          refine g_iast dX9_lines_87 (sf_8_27 hx0) c25.1 c25.2 ?_
          refine g_nmM (fun M26 eM26 => ?_)
          replace h := nm_s eM26 h
          obtain ⟨c27, h⟩ := chk_some h
          refine g_iinc (ls' := [(2, XI (x2 + (-1))), (0, XR x0), (1, XI x1)]) 2 dX9_lines_88 rfl rfl c27 (by decide) rfl ?_
          refine g_goto (tgt := 34) dX9_lines_91 (by decide) ?_
          exact g_sub [1, 2, 0] rfl (ih _ _ _ h K)
set_option maxHeartbeats 8000000 in
set_option maxRecDepth 20000 in
theorem lX9_lines_l2 {X : XC} {d : Nat} {Post : Option XV → Mem → Prop} {x0 : Nat} (hx0 : Sh x0 = (18, 69)) : ∀ (n : Nat) (x1 : Int) (M : Mem) (t0 : Int × Mem), fX9_lines_l2 x0 n x1 M = some t0 → Go X mX9_lines (d + 2) 117 [] [] t0.2 Post → Go X mX9_lines (d + 2) 2 [(0, XR x0), (1, XI x1)] [] M Post := by
  intro n
  induction n with
  | zero => intro _ _ _ h; cases h
  | succ n ih =>
    intro x1 M t0 h K
    unfold fX9_lines_l2 at h
    refine g_iload_n 1 dX9_lines_2 rfl ?_
    refine g_aload_n 0 dX9_lines_3 rfl ?_
    refine g_getI dX9_lines_4 flX9_167 (by decide) rfl hx0 ?_
    refine g_icmp_ge (tgt := 117) dX9_lines_7 (by decide) (fun b1 => ?_) (fun b1 => ?_)
    · replace h := ifp b1 h
      cases h
      exact g_sub [] rfl K
    · replace h := ifn b1 h
      refine g_pc (pc' := 10) rfl ?_
      refine g_aload_n 0 dX9_lines_10 rfl ?_
      refine g_getR dX9_lines_11 flX9_102 (by decide) rfl hx0 ?_
      refine g_aload_n 0 dX9_lines_14 rfl ?_
      refine g_getI dX9_lines_15 flX9_248 (by decide) rfl hx0 ?_
      obtain ⟨c2, h⟩ := chk_some h
      refine g_iald dX9_lines_18 (sf_8_41 hx0) c2.1 c2.2 ?_
      refine g_iload_n 1 dX9_lines_19 rfl ?_
      obtain ⟨q3, hq3, h⟩ := bnd_some h
      refine s_I (as := [XI (M (x0 + 42) (Int.toNat (M x0 22))), XI x1]) dX9_lines_20 mlX9_192 mdX9_has msX9_has rfl (Nat.le_of_ble_eq_true rfl) (kX9_has  hq3) rfl ?_
      obtain ⟨t11, ht11, h⟩ := bnd_some h
      have Kt11 : Go X mX9_lines (d + 2) 111 [(0, XR x0), (1, XI x1)] [] t11 Post := by
        obtain ⟨c33, h⟩ := chk_some h
        refine g_iinc (ls' := [(1, XI (x1 + 1)), (0, XR x0)]) 1 dX9_lines_111 rfl rfl c33 (by decide) rfl ?_
        refine g_goto (tgt := 2) dX9_lines_114 (by decide) ?_
        exact g_sub [1, 0] rfl (ih _ _ _ h K)
      refine g_if_ne (tgt := 29) dX9_lines_23 (by decide) (fun b12 => ?_) (fun b12 => ?_)
      · replace ht11 := ifn b12 ht11
        refine g_aload_n 0 dX9_lines_29 rfl ?_
        refine g_getI dX9_lines_30 flX9_251 (by decide) rfl hx0 ?_
        refine g_nmI (fun v13 ev13 => ?_)
        replace ht11 := nm_s ev13 ht11
        refine g_istore_n (ls' := [(2, XI v13), (0, XR x0), (1, XI x1)]) dX9_lines_33 (by decide) rfl ?_
        obtain ⟨z28, hz28, ht11⟩ := bnd_some ht11
        refine g_sub (ls' := [(0, XR x0), (1, XI x1), (2, XI v13)]) [1, 2, 0] rfl ?_
        refine lX9_lines_l34 hx0 1000 _ _ _ hz28 ?_
        refine g_aload_n 0 dX9_lines_94 rfl ?_
        refine g_getR dX9_lines_95 flX9_71 (by decide) rfl hx0 ?_
        refine g_iload_n 2 dX9_lines_98 rfl ?_
        refine g_iload_n 1 dX9_lines_99 rfl ?_
        obtain ⟨c29, ht11⟩ := chk_some ht11
        refine g_iast dX9_lines_100 (sf_8_27 hx0) c29.1 c29.2 ?_
        refine g_nmM (fun M30 eM30 => ?_)
        replace ht11 := nm_s eM30 ht11
        refine g_aload_n 0 dX9_lines_101 rfl ?_
        refine g_dupR dX9_lines_102 ?_
        refine g_getI dX9_lines_103 flX9_251 (by decide) rfl hx0 ?_
        refine g_pc (pc' := 106) rfl ?_
        refine g_iconst (v := 1) dX9_lines_106 rfl (i32l rfl) ?_
        obtain ⟨c31, ht11⟩ := chk_some ht11
        refine g_iadd dX9_lines_107 rfl c31 ?_
        refine g_putI dX9_lines_108 flX9_251 (by decide) rfl hx0 ?_
        refine g_nmM (fun M32 eM32 => ?_)
        replace ht11 := nm_s eM32 ht11
        cases ht11
        exact g_sub [0, 1] rfl Kt11
      · replace ht11 := ifp b12 ht11
        refine g_pc (pc' := 26) rfl ?_
        refine g_goto (tgt := 111) dX9_lines_26 (by decide) ?_
        cases ht11
        exact g_sub [0, 1] rfl Kt11
set_option maxHeartbeats 8000000 in
set_option maxRecDepth 20000 in
theorem kX9_lines {X : XC} {d : Nat} {x0 : Nat} (hx0 : Sh x0 = (18, 69)) {M : Mem} {q : Int × Mem} (h : fX9_lines x0 M = some q) : Ct X mX9_lines (d + 2) [XR x0] M (pV q) := by
  unfold fX9_lines at h
  refine ct_go (by decide +kernel) (Nat.le_of_ble_eq_true rfl) (ls := [(0, XR x0)]) rfl ?_
  refine g_iconst (v := 0) dX9_lines_0 rfl (i32l rfl) ?_
  refine g_istore_n (ls' := [(1, XI 0), (0, XR x0)]) dX9_lines_1 (by decide) rfl ?_
  obtain ⟨z34, hz34, h⟩ := bnd_some h
  refine g_sub (ls' := [(0, XR x0), (1, XI 0)]) [1, 0] rfl ?_
  refine lX9_lines_l2 hx0 1000 _ _ _ hz34 ?_
  cases h
  exact g_return dX9_lines_117 rfl ⟨rfl, rfl⟩
end
