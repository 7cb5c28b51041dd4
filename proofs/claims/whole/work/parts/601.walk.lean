section
set_option maxHeartbeats 8000000 in
set_option maxRecDepth 20000 in
theorem lX1_copyFrom_l58 {X : XC} {d : Nat} {Post : Option XV → Mem → Prop} {x0 : Nat} {x1 : Nat} (hx0 : Sh x0 = (11, 15)) (hx1 : Sh x1 = (11, 15)) : ∀ (n : Nat) (x2 : Int) (M : Mem) (t0 : Int × Mem), fX1_copyFrom_l58 x0 x1 n x2 M = some t0 → Go X mX1_copyFrom d 94 [(0, XR x0), (1, XR x1)] [] t0.2 Post → Go X mX1_copyFrom d 58 [(0, XR x0), (1, XR x1), (2, XI x2)] [] M Post := by
  intro n
  induction n with
  | zero => intro _ _ _ h; cases h
  | succ n ih =>
    intro x2 M t0 h K
    unfold fX1_copyFrom_l58 at h
    refine g_iload_n 2 dX1_copyFrom_58 rfl ?_
    refine g_bip dX1_copyFrom_59 rfl ?_
    refine g_icmp_ge (tgt := 94) dX1_copyFrom_61 (by decide) (fun b8 => ?_) (fun b8 => ?_)
    · replace h := ifp b8 h
      cases h
      exact g_sub [0, 1] rfl K
    · replace h := ifn b8 h
      refine g_pc (pc' := 64) rfl ?_
      refine g_aload_n 0 dX1_copyFrom_64 rfl ?_
      refine g_getR dX1_copyFrom_65 flX1_15 (by decide) rfl hx0 ?_
      refine g_iload_n 2 dX1_copyFrom_68 rfl ?_
      refine g_aload_n 1 dX1_copyFrom_69 rfl ?_
      refine g_getR dX1_copyFrom_70 flX1_15 (by decide) rfl hx1 ?_
      refine g_iload_n 2 dX1_copyFrom_73 rfl ?_
      obtain ⟨c9, h⟩ := chk_some h
      refine g_iald dX1_copyFrom_74 (sf_1_1 hx1) c9.1 c9.2 ?_
      obtain ⟨c10, h⟩ := chk_some h
      refine g_iast dX1_copyFrom_75 (sf_1_1 hx0) c10.1 c10.2 ?_
      refine g_nmM (fun M11 eM11 => ?_)
      replace h := nm_s eM11 h
      refine g_pc (pc' := 76) rfl ?_
      refine g_aload_n 0 dX1_copyFrom_76 rfl ?_
      refine g_getR dX1_copyFrom_77 flX1_19 (by decide) rfl hx0 ?_
      refine g_iload_n 2 dX1_copyFrom_80 rfl ?_
      refine g_aload_n 1 dX1_copyFrom_81 rfl ?_
      refine g_getR dX1_copyFrom_82 flX1_19 (by decide) rfl hx1 ?_
      refine g_iload_n 2 dX1_copyFrom_85 rfl ?_
      obtain ⟨c12, h⟩ := chk_some h
      refine g_zald dX1_copyFrom_86 (sf_1_2 hx1) c12.1 c12.2 ?_
      obtain ⟨c13, h⟩ := chk_some h
      obtain ⟨c14, h⟩ := chk_some h
      refine g_zast dX1_copyFrom_87 (sf_1_2 hx0) c13.1 c13.2 c14 ?_
      refine g_nmM (fun M15 eM15 => ?_)
      replace h := nm_s eM15 h
      obtain ⟨c16, h⟩ := chk_some h
      refine g_iinc (ls' := [(2, XI (x2 + 1)), (0, XR x0), (1, XR x1)]) 2 dX1_copyFrom_88 rfl rfl c16 (by decide) rfl ?_
      refine g_pc (pc' := 91) rfl ?_
      refine g_goto (tgt := 58) dX1_copyFrom_91 (by decide) ?_
      exact g_sub [1, 2, 0] rfl (ih _ _ _ h K)
set_option maxHeartbeats 8000000 in
set_option maxRecDepth 20000 in
theorem lX1_copyFrom_l96 {X : XC} {d : Nat} {Post : Option XV → Mem → Prop} {x0 : Nat} {x1 : Nat} (hx0 : Sh x0 = (11, 15)) (hx1 : Sh x1 = (11, 15)) : ∀ (n : Nat) (x2 : Int) (M : Mem) (t0 : Int × Mem), fX1_copyFrom_l96 x0 x1 n x2 M = some t0 → Go X mX1_copyFrom d 132 [(0, XR x0), (1, XR x1)] [] t0.2 Post → Go X mX1_copyFrom d 96 [(0, XR x0), (1, XR x1), (2, XI x2)] [] M Post := by
  intro n
  induction n with
  | zero => intro _ _ _ h; cases h
  | succ n ih =>
    intro x2 M t0 h K
    unfold fX1_copyFrom_l96 at h
    refine g_iload_n 2 dX1_copyFrom_96 rfl ?_
    refine g_bip dX1_copyFrom_97 rfl ?_
    refine g_icmp_ge (tgt := 132) dX1_copyFrom_99 (by decide) (fun b18 => ?_) (fun b18 => ?_)
    · replace h := ifp b18 h
      cases h
      exact g_sub [0, 1] rfl K
    · replace h := ifn b18 h
      refine g_pc (pc' := 102) rfl ?_
      refine g_aload_n 0 dX1_copyFrom_102 rfl ?_
      refine g_getR dX1_copyFrom_103 flX1_26 (by decide) rfl hx0 ?_
      refine g_iload_n 2 dX1_copyFrom_106 rfl ?_
      refine g_aload_n 1 dX1_copyFrom_107 rfl ?_
      refine g_getR dX1_copyFrom_108 flX1_26 (by decide) rfl hx1 ?_
      refine g_iload_n 2 dX1_copyFrom_111 rfl ?_
      obtain ⟨c19, h⟩ := chk_some h
      refine g_iald dX1_copyFrom_112 (sf_1_4 hx1) c19.1 c19.2 ?_
      obtain ⟨c20, h⟩ := chk_some h
      refine g_iast dX1_copyFrom_113 (sf_1_4 hx0) c20.1 c20.2 ?_
      refine g_nmM (fun M21 eM21 => ?_)
      replace h := nm_s eM21 h
      refine g_pc (pc' := 114) rfl ?_
      refine g_aload_n 0 dX1_copyFrom_114 rfl ?_
      refine g_getR dX1_copyFrom_115 flX1_29 (by decide) rfl hx0 ?_
      refine g_iload_n 2 dX1_copyFrom_118 rfl ?_
      refine g_aload_n 1 dX1_copyFrom_119 rfl ?_
      refine g_getR dX1_copyFrom_120 flX1_29 (by decide) rfl hx1 ?_
      refine g_iload_n 2 dX1_copyFrom_123 rfl ?_
      obtain ⟨c22, h⟩ := chk_some h
      refine g_iald dX1_copyFrom_124 (sf_1_5 hx1) c22.1 c22.2 ?_
      obtain ⟨c23, h⟩ := chk_some h
      refine g_iast dX1_copyFrom_125 (sf_1_5 hx0) c23.1 c23.2 ?_
      refine g_nmM (fun M24 eM24 => ?_)
      replace h := nm_s eM24 h
      obtain ⟨c25, h⟩ := chk_some h
      refine g_iinc (ls' := [(2, XI (x2 + 1)), (0, XR x0), (1, XR x1)]) 2 dX1_copyFrom_126 rfl rfl c25 (by decide) rfl ?_
      refine g_pc (pc' := 129) rfl ?_
      refine g_goto (tgt := 96) dX1_copyFrom_129 (by decide) ?_
      exact g_sub [1, 2, 0] rfl (ih _ _ _ h K)
set_option maxHeartbeats 8000000 in
set_option maxRecDepth 20000 in
theorem lX1_copyFrom_l134 {X : XC} {d : Nat} {Post : Option XV → Mem → Prop} {x0 : Nat} {x1 : Nat} (hx0 : Sh x0 = (11, 15)) (hx1 : Sh x1 = (11, 15)) : ∀ (n : Nat) (x2 : Int) (M : Mem) (t0 : Int × Mem), fX1_copyFrom_l134 x0 x1 n x2 M = some t0 → Go X mX1_copyFrom d 169 [(0, XR x0), (1, XR x1)] [] t0.2 Post → Go X mX1_copyFrom d 134 [(0, XR x0), (1, XR x1), (2, XI x2)] [] M Post := by
  intro n
  induction n with
  | zero => intro _ _ _ h; cases h
  | succ n ih =>
    intro x2 M t0 h K
    unfold fX1_copyFrom_l134 at h
    refine g_iload_n 2 dX1_copyFrom_134 rfl ?_
    refine g_iconst (v := 5) dX1_copyFrom_135 rfl (i32l rfl) ?_
    refine g_icmp_ge (tgt := 169) dX1_copyFrom_136 (by decide) (fun b27 => ?_) (fun b27 => ?_)
    · replace h := ifp b27 h
      cases h
      exact g_sub [0, 1] rfl K
    · replace h := ifn b27 h
      refine g_pc (pc' := 139) rfl ?_
      refine g_aload_n 0 dX1_copyFrom_139 rfl ?_
      refine g_getR dX1_copyFrom_140 flX1_44 (by decide) rfl hx0 ?_
      refine g_iload_n 2 dX1_copyFrom_143 rfl ?_
      refine g_aload_n 1 dX1_copyFrom_144 rfl ?_
      refine g_getR dX1_copyFrom_145 flX1_44 (by decide) rfl hx1 ?_
      refine g_iload_n 2 dX1_copyFrom_148 rfl ?_
      obtain ⟨c28, h⟩ := chk_some h
      refine g_iald dX1_copyFrom_149 (sf_1_10 hx1) c28.1 c28.2 ?_
      obtain ⟨c29, h⟩ := chk_some h
      refine g_iast dX1_copyFrom_150 (sf_1_10 hx0) c29.1 c29.2 ?_
      refine g_nmM (fun M30 eM30 => ?_)
      replace h := nm_s eM30 h
      refine g_pc (pc' := 151) rfl ?_
      refine g_aload_n 0 dX1_copyFrom_151 rfl ?_
      refine g_getR dX1_copyFrom_152 flX1_47 (by decide) rfl hx0 ?_
      refine g_iload_n 2 dX1_copyFrom_155 rfl ?_
      refine g_aload_n 1 dX1_copyFrom_156 rfl ?_
      refine g_getR dX1_copyFrom_157 flX1_47 (by decide) rfl hx1 ?_
      refine g_iload_n 2 dX1_copyFrom_160 rfl ?_
      obtain ⟨c31, h⟩ := chk_some h
      refine g_zald dX1_copyFrom_161 (sf_1_11 hx1) c31.1 c31.2 ?_
      obtain ⟨c32, h⟩ := chk_some h
      obtain ⟨c33, h⟩ := chk_some h
      refine g_zast dX1_copyFrom_162 (sf_1_11 hx0) c32.1 c32.2 c33 ?_
      refine g_nmM (fun M34 eM34 => ?_)
      replace h := nm_s eM34 h
      obtain ⟨c35, h⟩ := chk_some h
      refine g_iinc (ls' := [(2, XI (x2 + 1)), (0, XR x0), (1, XR x1)]) 2 dX1_copyFrom_163 rfl rfl c35 (by decide) rfl ?_
      refine g_pc (pc' := 166) rfl ?_
      refine g_goto (tgt := 134) dX1_copyFrom_166 (by decide) ?_
      exact g_sub [1, 2, 0] rfl (ih _ _ _ h K)
set_option maxHeartbeats 8000000 in
set_option maxRecDepth 20000 in
theorem lX1_copyFrom_l171 {X : XC} {d : Nat} {Post : Option XV → Mem → Prop} {x0 : Nat} {x1 : Nat} (hx0 : Sh x0 = (11, 15)) (hx1 : Sh x1 = (11, 15)) : ∀ (n : Nat) (x2 : Int) (M : Mem) (t0 : Int × Mem), fX1_copyFrom_l171 x0 x1 n x2 M = some t0 → Go X mX1_copyFrom d 207 [] [] t0.2 Post → Go X mX1_copyFrom d 171 [(0, XR x0), (1, XR x1), (2, XI x2)] [] M Post := by
  intro n
  induction n with
  | zero => intro _ _ _ h; cases h
  | succ n ih =>
    intro x2 M t0 h K
    unfold fX1_copyFrom_l171 at h
    refine g_iload_n 2 dX1_copyFrom_171 rfl ?_
    refine g_bip dX1_copyFrom_172 rfl ?_
    refine g_icmp_ge (tgt := 207) dX1_copyFrom_174 (by decide) (fun b37 => ?_) (fun b37 => ?_)
    · replace h := ifp b37 h
      cases h
      exact g_sub [] rfl K
    · replace h := ifn b37 h
      refine g_pc (pc' := 177) rfl ?_
      refine g_aload_n 0 dX1_copyFrom_177 rfl ?_
      refine g_getR dX1_copyFrom_178 flX1_53 (by decide) rfl hx0 ?_
      refine g_iload_n 2 dX1_copyFrom_181 rfl ?_
      refine g_aload_n 1 dX1_copyFrom_182 rfl ?_
      refine g_getR dX1_copyFrom_183 flX1_53 (by decide) rfl hx1 ?_
      refine g_iload_n 2 dX1_copyFrom_186 rfl ?_
      obtain ⟨c38, h⟩ := chk_some h
      refine g_iald dX1_copyFrom_187 (sf_1_13 hx1) c38.1 c38.2 ?_
      obtain ⟨c39, h⟩ := chk_some h
      refine g_iast dX1_copyFrom_188 (sf_1_13 hx0) c39.1 c39.2 ?_
      refine g_nmM (fun M40 eM40 => ?_)
      replace h := nm_s eM40 h
      refine g_pc (pc' := 189) rfl ?_
      refine g_aload_n 0 dX1_copyFrom_189 rfl ?_
      refine g_getR dX1_copyFrom_190 flX1_56 (by decide) rfl hx0 ?_
      refine g_iload_n 2 dX1_copyFrom_193 rfl ?_
      refine g_aload_n 1 dX1_copyFrom_194 rfl ?_
      refine g_getR dX1_copyFrom_195 flX1_56 (by decide) rfl hx1 ?_
      refine g_iload_n 2 dX1_copyFrom_198 rfl ?_
      obtain ⟨c41, h⟩ := chk_some h
      refine g_iald dX1_copyFrom_199 (sf_1_14 hx1) c41.1 c41.2 ?_
      obtain ⟨c42, h⟩ := chk_some h
      refine g_iast dX1_copyFrom_200 (sf_1_14 hx0) c42.1 c42.2 ?_
      refine g_nmM (fun M43 eM43 => ?_)
      replace h := nm_s eM43 h
      obtain ⟨c44, h⟩ := chk_some h
      refine g_iinc (ls' := [(2, XI (x2 + 1)), (0, XR x0), (1, XR x1)]) 2 dX1_copyFrom_201 rfl rfl c44 (by decide) rfl ?_
      refine g_pc (pc' := 204) rfl ?_
      refine g_goto (tgt := 171) dX1_copyFrom_204 (by decide) ?_
      exact g_sub [1, 2, 0] rfl (ih _ _ _ h K)
set_option maxHeartbeats 8000000 in
set_option maxRecDepth 20000 in
theorem kX1_copyFrom {X : XC} {d : Nat} {x0 : Nat} {x1 : Nat} (hx0 : Sh x0 = (11, 15)) (hx1 : Sh x1 = (11, 15)) {M : Mem} {q : Int × Mem} (h : fX1_copyFrom x0 x1 M = some q) : Ct X mX1_copyFrom d [XR x0, XR x1] M (pV q) := by
  unfold fX1_copyFrom at h
  refine ct_go (by decide +kernel) (Nat.le_of_ble_eq_true rfl) (ls := [(0, XR x0), (1, XR x1)]) rfl ?_
  refine g_aload_n 0 dX1_copyFrom_0 rfl ?_
  refine g_aload_n 1 dX1_copyFrom_1 rfl ?_
  refine g_getI dX1_copyFrom_2 flX1_9 (by decide) rfl hx1 ?_
  refine g_putI dX1_copyFrom_5 flX1_9 (by decide) rfl hx0 ?_
  refine g_nmM (fun M1 eM1 => ?_)
  replace h := nm_s eM1 h
  refine g_aload_n 0 dX1_copyFrom_8 rfl ?_
  refine g_aload_n 1 dX1_copyFrom_9 rfl ?_
  refine g_getI dX1_copyFrom_10 flX1_23 (by decide) rfl hx1 ?_
  refine g_putI dX1_copyFrom_13 flX1_23 (by decide) rfl hx0 ?_
  refine g_nmM (fun M2 eM2 => ?_)
  replace h := nm_s eM2 h
  refine g_pc (pc' := 16) rfl ?_
  refine g_aload_n 0 dX1_copyFrom_16 rfl ?_
  refine g_aload_n 1 dX1_copyFrom_17 rfl ?_
  refine g_getI dX1_copyFrom_18 flX1_32 (by decide) rfl hx1 ?_
  refine g_putI dX1_copyFrom_21 flX1_32 (by decide) rfl hx0 ?_
  refine g_nmM (fun M3 eM3 => ?_)
  replace h := nm_s eM3 h
  refine g_aload_n 0 dX1_copyFrom_24 rfl ?_
  refine g_aload_n 1 dX1_copyFrom_25 rfl ?_
  refine g_getI dX1_copyFrom_26 flX1_35 (by decide) rfl hx1 ?_
  refine g_putI dX1_copyFrom_29 flX1_35 (by decide) rfl hx0 ?_
  refine g_nmM (fun M4 eM4 => ?_)
  replace h := nm_s eM4 h
  refine g_aload_n 0 dX1_copyFrom_32 rfl ?_
  refine g_pc (pc' := 33) rfl ?_
  refine g_aload_n 1 dX1_copyFrom_33 rfl ?_
  refine g_getI dX1_copyFrom_34 flX1_38 (by decide) rfl hx1 ?_
  refine g_putI dX1_copyFrom_37 flX1_38 (by decide) rfl hx0 ?_
  refine g_nmM (fun M5 eM5 => ?_)
  replace h := nm_s eM5 h
  refine g_aload_n 0 dX1_copyFrom_40 rfl ?_
  refine g_aload_n 1 dX1_copyFrom_41 rfl ?_
  refine g_getI dX1_copyFrom_42 flX1_41 (by decide) rfl hx1 ?_
  refine g_putI dX1_copyFrom_45 flX1_41 (by decide) rfl hx0 ?_
  refine g_nmM (fun M6 eM6 => ?_)
  replace h := nm_s eM6 h
  refine g_aload_n 0 dX1_copyFrom_48 rfl ?_
  refine g_aload_n 1 dX1_copyFrom_49 rfl ?_
  refine g_pc (pc' := 50) rfl ?_
  refine g_getI dX1_copyFrom_50 flX1_50 (by decide) rfl hx1 ?_
  refine g_putI dX1_copyFrom_53 flX1_50 (by decide) rfl hx0 ?_
  refine g_nmM (fun M7 eM7 => ?_)
  replace h := nm_s eM7 h
  refine g_iconst (v := 0) dX1_copyFrom_56 rfl (i32l rfl) ?_
  refine g_istore_n (ls' := [(2, XI 0), (0, XR x0), (1, XR x1)]) dX1_copyFrom_57 (by decide) rfl ?_
  obtain ⟨z17, hz17, h⟩ := bnd_some h
  refine g_sub (ls' := [(0, XR x0), (1, XR x1), (2, XI 0)]) [1, 2, 0] rfl ?_
  refine lX1_copyFrom_l58 hx0 hx1 1000 _ _ _ hz17 ?_
  refine g_iconst (v := 0) dX1_copyFrom_94 rfl (i32l rfl) ?_
  refine g_istore_n (ls' := [(2, XI 0), (0, XR x0), (1, XR x1)]) dX1_copyFrom_95 (by decide) rfl ?_
  obtain ⟨z26, hz26, h⟩ := bnd_some h
  refine g_sub (ls' := [(0, XR x0), (1, XR x1), (2, XI 0)]) [1, 2, 0] rfl ?_
  refine lX1_copyFrom_l96 hx0 hx1 1000 _ _ _ hz26 ?_
  refine g_iconst (v := 0) dX1_copyFrom_132 rfl (i32l rfl) ?_
  refine g_istore_n (ls' := [(2, XI 0), (0, XR x0), (1, XR x1)]) dX1_copyFrom_133 (by decide) rfl ?_
  obtain ⟨z36, hz36, h⟩ := bnd_some h
  refine g_sub (ls' := [(0, XR x0), (1, XR x1), (2, XI 0)]) [1, 2, 0] rfl ?_
  refine lX1_copyFrom_l134 hx0 hx1 1000 _ _ _ hz36 ?_
  refine g_iconst (v := 0) dX1_copyFrom_169 rfl (i32l rfl) ?_
  refine g_istore_n (ls' := [(2, XI 0), (0, XR x0), (1, XR x1)]) dX1_copyFrom_170 (by decide) rfl ?_
  obtain ⟨z45, hz45, h⟩ := bnd_some h
  refine g_sub (ls' := [(0, XR x0), (1, XR x1), (2, XI 0)]) [1, 2, 0] rfl ?_
  refine lX1_copyFrom_l171 hx0 hx1 1000 _ _ _ hz45 ?_
  cases h
  exact g_return dX1_copyFrom_207 rfl ⟨rfl, rfl⟩
set_option maxHeartbeats 8000000 in
set_option maxRecDepth 20000 in
theorem kX1_hasCandidate {X : XC} {d : Nat} {x0 : Nat} {x1 : Int} (hx0 : Sh x0 = (11, 15)) {M : Mem} {q : Int × Mem} (h : fX1_hasCandidate x0 x1 M = some q) : Ct X mX1_hasCandidate d [XR x0, XI x1] M (pI q) := by
  unfold fX1_hasCandidate at h
  refine ct_go (by decide +kernel) (Nat.le_of_ble_eq_true rfl) (ls := [(0, XR x0), (1, XI x1)]) rfl ?_
  refine g_iload_n 1 dX1_hasCandidate_0 rfl ?_
  obtain ⟨t3, ht3, h⟩ := bnd_some h
  have Kt3 : Go X mX1_hasCandidate d 17 [] [XI t3] M (pI q) := by
    obtain ⟨cz, h⟩ := chk_some h
    cases h
    exact g_zreturn dX1_hasCandidate_17 rfl cz ⟨rfl, rfl⟩
  refine g_if_lt (tgt := 16) dX1_hasCandidate_1 (by decide) (fun b4 => ?_) (fun b4 => ?_)
  · replace ht3 := ifp b4 ht3
    refine g_iconst (v := 0) dX1_hasCandidate_16 rfl (i32l rfl) ?_
    cases ht3
    exact g_sub [] rfl Kt3
  · replace ht3 := ifn b4 ht3
    refine g_pc (pc' := 4) rfl ?_
    refine g_iload_n 1 dX1_hasCandidate_4 rfl ?_
    refine g_aload_n 0 dX1_hasCandidate_5 rfl ?_
    refine g_getI dX1_hasCandidate_6 flX1_9 (by decide) rfl hx0 ?_
    refine g_icmp_ge (tgt := 16) dX1_hasCandidate_9 (by decide) (fun b5 => ?_) (fun b5 => ?_)
    · replace ht3 := ifp b5 ht3
      refine g_iconst (v := 0) dX1_hasCandidate_16 rfl (i32l rfl) ?_
      cases ht3
      exact g_sub [] rfl Kt3
    · replace ht3 := ifn b5 ht3
      refine g_pc (pc' := 12) rfl ?_
      refine g_iconst (v := 1) dX1_hasCandidate_12 rfl (i32l rfl) ?_
      refine g_goto (tgt := 17) dX1_hasCandidate_13 (by decide) ?_
      cases ht3
      exact g_sub [] rfl Kt3
set_option maxHeartbeats 8000000 in
set_option maxRecDepth 20000 in
theorem kX1_hasBallot {X : XC} {d : Nat} {x0 : Nat} {x1 : Int} (hx0 : Sh x0 = (11, 15)) {M : Mem} {q : Int × Mem} (h : fX1_hasBallot x0 x1 M = some q) : Ct X mX1_hasBallot d [XR x0, XI x1] M (pI q) := by
  unfold fX1_hasBallot at h
  refine ct_go (by decide +kernel) (Nat.le_of_ble_eq_true rfl) (ls := [(0, XR x0), (1, XI x1)]) rfl ?_
  refine g_iload_n 1 dX1_hasBallot_0 rfl ?_
  obtain ⟨t3, ht3, h⟩ := bnd_some h
  have Kt3 : Go X mX1_hasBallot d 17 [] [XI t3] M (pI q) := by
    obtain ⟨cz, h⟩ := chk_some h
    cases h
    exact g_zreturn dX1_hasBallot_17 rfl cz ⟨rfl, rfl⟩
  refine g_if_lt (tgt := 16) dX1_hasBallot_1 (by decide) (fun b4 => ?_) (fun b4 => ?_)
  · replace ht3 := ifp b4 ht3
    refine g_iconst (v := 0) dX1_hasBallot_16 rfl (i32l rfl) ?_
    cases ht3
    exact g_sub [] rfl Kt3
  · replace ht3 := ifn b4 ht3
    refine g_pc (pc' := 4) rfl ?_
    refine g_iload_n 1 dX1_hasBallot_4 rfl ?_
    refine g_aload_n 0 dX1_hasBallot_5 rfl ?_
    refine g_getI dX1_hasBallot_6 flX1_23 (by decide) rfl hx0 ?_
    refine g_icmp_ge (tgt := 16) dX1_hasBallot_9 (by decide) (fun b5 => ?_) (fun b5 => ?_)
    · replace ht3 := ifp b5 ht3
      refine g_iconst (v := 0) dX1_hasBallot_16 rfl (i32l rfl) ?_
      cases ht3
      exact g_sub [] rfl Kt3
    · replace ht3 := ifn b5 ht3
      refine g_pc (pc' := 12) rfl ?_
      refine g_iconst (v := 1) dX1_hasBallot_12 rfl (i32l rfl) ?_
      refine g_goto (tgt := 17) dX1_hasBallot_13 (by decide) ?_
      cases ht3
      exact g_sub [] rfl Kt3
set_option maxHeartbeats 8000000 in
set_option maxRecDepth 20000 in
theorem lX1_together_l4 {X : XC} {d : Nat} {Post : Option XV → Mem → Prop} {x0 : Nat} (hx0 : Sh x0 = (11, 15)) : ∀ (n : Nat) (x1 x3 : Int) (M : Mem) (t0 : Int × Int × Mem), fX1_together_l4 x0 n x1 x3 M = some t0 → Go X mX1_together d 28 [(1, XL t0.1)] [] t0.2.2 Post → Go X mX1_together d 4 [(0, XR x0), (1, XL x1), (3, XI x3)] [] M Post := by
  intro n
  induction n with
  | zero => intro _ _ _ _ h; cases h
  | succ n ih =>
    intro x1 x3 M t0 h K
    unfold fX1_together_l4 at h
    refine g_iload_n 2 dX1_together_4 rfl ?_
    refine g_aload_n 0 dX1_together_5 rfl ?_
    refine g_getI dX1_together_6 flX1_23 (by decide) rfl hx0 ?_
    refine g_icmp_ge (tgt := 28) dX1_together_9 (by decide) (fun b1 => ?_) (fun b1 => ?_)
    · replace h := ifp b1 h
      cases h
      exact g_sub [1] rfl K
    · replace h := ifn b1 h
      refine g_pc (pc' := 12) rfl ?_
      refine g_lload_n 1 dX1_together_12 rfl ?_
      refine g_aload_n 0 dX1_together_13 rfl ?_
      refine g_getR dX1_together_14 flX1_29 (by decide) rfl hx0 ?_
      refine g_iload_n 2 dX1_together_17 rfl ?_
      obtain ⟨c2, h⟩ := chk_some h
      refine g_iald dX1_together_18 (sf_1_5 hx0) c2.1 c2.2 ?_
      refine g_i2l dX1_together_19 ?_
      obtain ⟨c3, h⟩ := chk_some h
      refine g_ladd dX1_together_20 rfl c3 ?_
      refine g_nmL (fun v4 ev4 => ?_)
      replace h := nm_s ev4 h
      refine g_lstore_n (ls' := [(1, XL v4), (0, XR x0), (3, XI x3)]) dX1_together_21 (by decide) rfl ?_
      refine g_pc (pc' := 22) rfl ?_
      obtain ⟨c5, h⟩ := chk_some h
      refine g_iinc (ls' := [(3, XI (x3 + 1)), (1, XL v4), (0, XR x0)]) 2 dX1_together_22 rfl rfl c5 (by decide) rfl ?_
      refine g_goto (tgt := 4) dX1_together_25 (by decide) ?_
      exact g_sub [2, 1, 0] rfl (ih _ _ _ _ h K)
set_option maxHeartbeats 8000000 in
set_option maxRecDepth 20000 in
theorem kX1_together {X : XC} {d : Nat} {x0 : Nat} (hx0 : Sh x0 = (11, 15)) {M : Mem} {q : Int × Mem} (h : fX1_together x0 M = some q) : Ct X mX1_together d [XR x0] M (pJ q) := by
  unfold fX1_together at h
  refine ct_go (by decide +kernel) (Nat.le_of_ble_eq_true rfl) (ls := [(0, XR x0)]) rfl ?_
  refine g_lconst (v := 0) dX1_together_0 rfl (i64l rfl) ?_
  refine g_lstore_n (ls' := [(1, XL 0), (0, XR x0)]) dX1_together_1 (by decide) rfl ?_
  refine g_iconst (v := 0) dX1_together_2 rfl (i32l rfl) ?_
  refine g_istore_n (ls' := [(3, XI 0), (1, XL 0), (0, XR x0)]) dX1_together_3 (by decide) rfl ?_
  obtain ⟨z6, hz6, h⟩ := bnd_some h
  refine g_sub (ls' := [(0, XR x0), (1, XL 0), (3, XI 0)]) [2, 1, 0] rfl ?_
  refine lX1_together_l4 hx0 1000 _ _ _ _ hz6 ?_
  refine g_lload_n 0 dX1_together_28 rfl ?_
  cases h
  exact g_lreturn dX1_together_29 rfl ⟨rfl, rfl⟩
set_option maxHeartbeats 8000000 in
set_option maxRecDepth 20000 in
theorem lX1_placeInLot_l2 {X : XC} {d : Nat} {Post : Option XV → Mem → Prop} {x0 : Nat} {x1 : Int} (hx0 : Sh x0 = (11, 15)) : ∀ (n : Nat) (x2 : Int) (M : Mem) (z : (Int × Mem) ⊕ (Int × Mem)), fX1_placeInLot_l2 x0 x1 n x2 M = some z → (∀ r, z = .inl r → Post (some (XI r.1)) r.2) → Go X mX1_placeInLot d 2 [(0, XR x0), (1, XI x1), (2, XI x2)] [] M Post := by
  intro n
  induction n with
  | zero => intro _ _ _ h; cases h
  | succ n ih =>
    intro x2 M z h K1
    unfold fX1_placeInLot_l2 at h
    refine g_iload_n 2 dX1_placeInLot_2 rfl ?_
    refine g_aload_n 0 dX1_placeInLot_3 rfl ?_
    refine g_getI dX1_placeInLot_4 flX1_9 (by decide) rfl hx0 ?_
    refine g_icmp_ge (tgt := 28) dX1_placeInLot_7 (by decide) (fun b1 => ?_) (fun b1 => ?_)
    · replace h := ifp b1 h
      refine g_iconst (v := -1) dX1_placeInLot_28 rfl (i32l rfl) ?_
      cases h
      exact g_ireturn dX1_placeInLot_29 rfl (K1 ((-1), M) rfl)
    · replace h := ifn b1 h
      refine g_pc (pc' := 10) rfl ?_
      refine g_aload_n 0 dX1_placeInLot_10 rfl ?_
      refine g_getR dX1_placeInLot_11 flX1_15 (by decide) rfl hx0 ?_
      refine g_iload_n 2 dX1_placeInLot_14 rfl ?_
      obtain ⟨c2, h⟩ := chk_some h
      refine g_iald dX1_placeInLot_15 (sf_1_1 hx0) c2.1 c2.2 ?_
      refine g_iload_n 1 dX1_placeInLot_16 rfl ?_
      refine g_icmp_ne (tgt := 22) dX1_placeInLot_17 (by decide) (fun b3 => ?_) (fun b3 => ?_)
      · replace h := ifn b3 h
        obtain ⟨c4, h⟩ := chk_some h
        refine g_iinc (ls' := [(2, XI (x2 + 1)), (0, XR x0), (1, XI x1)]) 2 dX1_placeInLot_22 rfl rfl c4 (by decide) rfl ?_
        refine g_goto (tgt := 2) dX1_placeInLot_25 (by decide) ?_
        exact g_sub [1, 2, 0] rfl (ih _ _ _ h K1)
      · replace h := ifp b3 h
        refine g_pc (pc' := 20) rfl ?_
        refine g_iload_n 2 dX1_placeInLot_20 rfl ?_
        cases h
        exact g_ireturn dX1_placeInLot_21 rfl (K1 (x2, M) rfl)
set_option maxHeartbeats 8000000 in
set_option maxRecDepth 20000 in
theorem kX1_placeInLot {X : XC} {d : Nat} {x0 : Nat} {x1 : Int} (hx0 : Sh x0 = (11, 15)) {M : Mem} {q : Int × Mem} (h : fX1_placeInLot x0 x1 M = some q) : Ct X mX1_placeInLot d [XR x0, XI x1] M (pI q) := by
  unfold fX1_placeInLot at h
  refine ct_go (by decide +kernel) (Nat.le_of_ble_eq_true rfl) (ls := [(0, XR x0), (1, XI x1)]) rfl ?_
  refine g_iconst (v := 0) dX1_placeInLot_0 rfl (i32l rfl) ?_
  refine g_istore_n (ls' := [(2, XI 0), (0, XR x0), (1, XI x1)]) dX1_placeInLot_1 (by decide) rfl ?_
  obtain ⟨z5, hz5, rz5, h⟩ := lr_some h
  refine g_sub (ls' := [(0, XR x0), (1, XI x1), (2, XI 0)]) [1, 2, 0] rfl ?_
  refine lX1_placeInLot_l2 hx0 1000 _ _ _ hz5 (fun r e => ?_)
  have rz5 := rz5 r e
  subst rz5
  exact ⟨rfl, rfl⟩
set_option maxHeartbeats 8000000 in
set_option maxRecDepth 20000 in
theorem kX1_firstHere {X : XC} {d : Nat} {x0 : Nat} {x1 : Int} (hx0 : Sh x0 = (11, 15)) {M : Mem} {q : Int × Mem} (h : fX1_firstHere x0 x1 M = some q) : Ct X mX1_firstHere (d + 2) [XR x0, XI x1] M (pI q) := by
  unfold fX1_firstHere at h
  refine ct_go (by decide +kernel) (Nat.le_of_ble_eq_true rfl) (ls := [(0, XR x0), (1, XI x1)]) rfl ?_
  refine g_aload_n 0 dX1_firstHere_0 rfl ?_
  refine g_getR dX1_firstHere_1 flX1_26 (by decide) rfl hx0 ?_
  refine g_iload_n 1 dX1_firstHere_4 rfl ?_
  obtain ⟨c1, h⟩ := chk_some h
  refine g_iald dX1_firstHere_5 (sf_1_4 hx0) c1.1 c1.2 ?_
  refine g_aload_n 0 dX1_firstHere_6 rfl ?_
  refine g_getR dX1_firstHere_7 flX1_19 (by decide) rfl hx0 ?_
  obtain ⟨q2, hq2, h⟩ := bnd_some h
  refine s_I (as := [XI (M (x0 + 5) (Int.toNat x1)), XR (x0 + 3)]) dX1_firstHere_10 mlX1_59 mdX2_leftOf msX2_leftOf rfl (Nat.le_of_ble_eq_true rfl) (kX2_leftOf (sf_1_2 hx0) hq2) rfl ?_
  refine g_iconst (v := 0) dX1_firstHere_13 rfl (i32l rfl) ?_
  refine g_pc (pc' := 14) rfl ?_
  obtain ⟨q3, hq3, h⟩ := bnd_some h
  refine s_I (as := [XI q2.1, XI 0]) dX1_firstHere_14 mlX1_65 mdX2_at msX2_at rfl (Nat.le_of_ble_eq_true rfl) (kX2_at  hq3) rfl ?_
  refine g_nmI (fun v4 ev4 => ?_)
  replace h := nm_s ev4 h
  refine g_istore_n (ls' := [(2, XI v4), (0, XR x0), (1, XI x1)]) dX1_firstHere_17 (by decide) rfl ?_
  refine g_iload_n 0 dX1_firstHere_18 rfl ?_
  obtain ⟨t6, ht6, h⟩ := bnd_some h
  have Kt6 : Go X mX1_firstHere (d + 2) 28 [] [XI t6] q3.2 (pI q) := by
    cases h
    exact g_ireturn dX1_firstHere_28 rfl ⟨rfl, rfl⟩
  refine g_if_ge (tgt := 27) dX1_firstHere_19 (by decide) (fun b7 => ?_) (fun b7 => ?_)
  · replace ht6 := ifp b7 ht6
    refine g_iload_n 0 dX1_firstHere_27 rfl ?_
    cases ht6
    exact g_sub [] rfl Kt6
  · replace ht6 := ifn b7 ht6
    refine g_pc (pc' := 22) rfl ?_
    refine g_bip dX1_firstHere_22 rfl ?_
    refine g_goto (tgt := 28) dX1_firstHere_24 (by decide) ?_
    cases ht6
    exact g_sub [] rfl Kt6
set_option maxHeartbeats 8000000 in
set_option maxRecDepth 20000 in
theorem lX1_manyFirst_l4 {X : XC} {d : Nat} {Post : Option XV → Mem → Prop} {x0 : Nat} {x1 : Int} (hx0 : Sh x0 = (11, 15)) : ∀ (n : Nat) (x2 x3 : Int) (M : Mem) (t0 : Int × Int × Mem), fX1_manyFirst_l4 x0 x1 n x2 x3 M = some t0 → Go X mX1_manyFirst (d + 3) 36 [(2, XI t0.1)] [] t0.2.2 Post → Go X mX1_manyFirst (d + 3) 4 [(0, XR x0), (1, XI x1), (2, XI x2), (3, XI x3)] [] M Post := by
  intro n
  induction n with
  | zero => intro _ _ _ _ h; cases h
  | succ n ih =>
    intro x2 x3 M t0 h K
    unfold fX1_manyFirst_l4 at h
    refine g_iload_n 3 dX1_manyFirst_4 rfl ?_
    refine g_aload_n 0 dX1_manyFirst_5 rfl ?_
    refine g_getI dX1_manyFirst_6 flX1_23 (by decide) rfl hx0 ?_
    refine g_icmp_ge (tgt := 36) dX1_manyFirst_9 (by decide) (fun b1 => ?_) (fun b1 => ?_)
    · replace h := ifp b1 h
      cases h
      exact g_sub [2] rfl K
    · replace h := ifn b1 h
      refine g_pc (pc' := 12) rfl ?_
      refine g_aload_n 0 dX1_manyFirst_12 rfl ?_
      refine g_iload_n 3 dX1_manyFirst_13 rfl ?_
      obtain ⟨q2, hq2, h⟩ := bnd_some h
      refine v_I (ci := 1) (as := [XI x3]) dX1_manyFirst_14 mlX1_69 mdX1_firstHere mvX1_firstHere rfl hx0 rfl (Nat.le_of_ble_eq_true rfl) (kX1_firstHere hx0 hq2) rfl ?_
      refine g_iload_n 1 dX1_manyFirst_17 rfl ?_
      obtain ⟨t7, ht7, h⟩ := bnd_some h
      have Kt7 : Go X mX1_manyFirst (d + 3) 30 [(0, XR x0), (1, XI x1), (2, XI t7), (3, XI x3)] [] q2.2 Post := by
        obtain ⟨c12, h⟩ := chk_some h
        refine g_iinc (ls' := [(3, XI (x3 + 1)), (0, XR x0), (1, XI x1), (2, XI t7)]) 3 dX1_manyFirst_30 rfl rfl c12 (by decide) rfl ?_
        refine g_goto (tgt := 4) dX1_manyFirst_33 (by decide) ?_
        exact g_sub [1, 2, 3, 0] rfl (ih _ _ _ _ h K)
      refine g_icmp_ne (tgt := 30) dX1_manyFirst_18 (by decide) (fun b8 => ?_) (fun b8 => ?_)
      · replace ht7 := ifn b8 ht7
        cases ht7
        exact g_sub [0, 1, 2, 3] rfl Kt7
      · replace ht7 := ifp b8 ht7
        refine g_pc (pc' := 21) rfl ?_
        refine g_iload_n 2 dX1_manyFirst_21 rfl ?_
        refine g_aload_n 0 dX1_manyFirst_22 rfl ?_
        refine g_getR dX1_manyFirst_23 flX1_29 (by decide) rfl hx0 ?_
        refine g_iload_n 3 dX1_manyFirst_26 rfl ?_
        obtain ⟨c9, ht7⟩ := chk_some ht7
        refine g_iald dX1_manyFirst_27 (sf_1_5 hx0) c9.1 c9.2 ?_
        obtain ⟨c10, ht7⟩ := chk_some ht7
        refine g_iadd dX1_manyFirst_28 rfl c10 ?_
        refine g_nmI (fun v11 ev11 => ?_)
        replace ht7 := nm_s ev11 ht7
        refine g_istore_n (ls' := [(2, XI v11), (0, XR x0), (1, XI x1), (3, XI x3)]) dX1_manyFirst_29 (by decide) rfl ?_
        cases ht7
        exact g_sub [1, 2, 0, 3] rfl Kt7
set_option maxHeartbeats 8000000 in
set_option maxRecDepth 20000 in
theorem kX1_manyFirst {X : XC} {d : Nat} {x0 : Nat} {x1 : Int} (hx0 : Sh x0 = (11, 15)) {M : Mem} {q : Int × Mem} (h : fX1_manyFirst x0 x1 M = some q) : Ct X mX1_manyFirst (d + 3) [XR x0, XI x1] M (pI q) := by
  unfold fX1_manyFirst at h
  refine ct_go (by decide +kernel) (Nat.le_of_ble_eq_true rfl) (ls := [(0, XR x0), (1, XI x1)]) rfl ?_
  refine g_iconst (v := 0) dX1_manyFirst_0 rfl (i32l rfl) ?_
  refine g_istore_n (ls' := [(2, XI 0), (0, XR x0), (1, XI x1)]) dX1_manyFirst_1 (by decide) rfl ?_
  refine g_iconst (v := 0) dX1_manyFirst_2 rfl (i32l rfl) ?_
  refine g_istore_n (ls' := [(3, XI 0), (2, XI 0), (0, XR x0), (1, XI x1)]) dX1_manyFirst_3 (by decide) rfl ?_
  obtain ⟨z13, hz13, h⟩ := bnd_some h
  refine g_sub (ls' := [(0, XR x0), (1, XI x1), (2, XI 0), (3, XI 0)]) [2, 3, 1, 0] rfl ?_
  refine lX1_manyFirst_l4 hx0 1000 _ _ _ _ hz13 ?_
  refine g_iload_n 0 dX1_manyFirst_36 rfl ?_
  cases h
  exact g_ireturn dX1_manyFirst_37 rfl ⟨rfl, rfl⟩
set_option maxHeartbeats 8000000 in
set_option maxRecDepth 20000 in
theorem lX2_placeOf_l2 {X : XC} {d : Nat} {Post : Option XV → Mem → Prop} {x0 : Int} {x1 : Int}  : ∀ (n : Nat) (x2 : Int) (M : Mem) (z : (Int × Mem) ⊕ (Int × Mem)), fX2_placeOf_l2 x0 x1 n x2 M = some z → (∀ r, z = .inl r → Post (some (XI r.1)) r.2) → Go X mX2_placeOf (d + 1) 2 [(0, XI x0), (1, XI x1), (2, XI x2)] [] M Post := by
  intro n
  induction n with
  | zero => intro _ _ _ h; cases h
  | succ n ih =>
    intro x2 M z h K1
    unfold fX2_placeOf_l2 at h
    refine g_iload_n 2 dX2_placeOf_2 rfl ?_
    refine g_gets dX2_placeOf_3 gsX2_8 ?_
    refine g_alenC dX2_placeOf_6 ?_
    refine g_icmp_ge (tgt := 27) dX2_placeOf_7 (by decide) (fun b1 => ?_) (fun b1 => ?_)
    · replace h := ifp b1 h
      refine g_gets dX2_placeOf_27 gsX2_8 ?_
      refine g_alenC dX2_placeOf_30 ?_
      cases h
      exact g_ireturn dX2_placeOf_31 rfl (K1 (8, M) rfl)
    · replace h := ifn b1 h
      refine g_pc (pc' := 10) rfl ?_
      refine g_iload_n 0 dX2_placeOf_10 rfl ?_
      refine g_iload_n 2 dX2_placeOf_11 rfl ?_
      obtain ⟨q2, hq2, h⟩ := bnd_some h
      refine s_I (as := [XI x0, XI x2]) dX2_placeOf_12 mlX2_14 mdX2_at msX2_at rfl (Nat.le_of_ble_eq_true rfl) (kX2_at  hq2) rfl ?_
      refine g_iload_n 1 dX2_placeOf_15 rfl ?_
      refine g_icmp_ne (tgt := 21) dX2_placeOf_16 (by decide) (fun b3 => ?_) (fun b3 => ?_)
      · replace h := ifn b3 h
        obtain ⟨c4, h⟩ := chk_some h
        refine g_iinc (ls' := [(2, XI (x2 + 1)), (0, XI x0), (1, XI x1)]) 2 dX2_placeOf_21 rfl rfl c4 (by decide) rfl ?_
        refine g_goto (tgt := 2) dX2_placeOf_24 (by decide) ?_
        exact g_sub [1, 2, 0] rfl (ih _ _ _ h K1)
      · replace h := ifp b3 h
        refine g_pc (pc' := 19) rfl ?_
        refine g_iload_n 2 dX2_placeOf_19 rfl ?_
        cases h
        exact g_ireturn dX2_placeOf_20 rfl (K1 (x2, q2.2) rfl)
set_option maxHeartbeats 8000000 in
set_option maxRecDepth 20000 in
theorem kX2_placeOf {X : XC} {d : Nat} {x0 : Int} {x1 : Int}  {M : Mem} {q : Int × Mem} (h : fX2_placeOf x0 x1 M = some q) : Ct X mX2_placeOf (d + 1) [XI x0, XI x1] M (pI q) := by
  unfold fX2_placeOf at h
  refine ct_go (by decide +kernel) (Nat.le_of_ble_eq_true rfl) (ls := [(0, XI x0), (1, XI x1)]) rfl ?_
  refine g_iconst (v := 0) dX2_placeOf_0 rfl (i32l rfl) ?_
  refine g_istore_n (ls' := [(2, XI 0), (0, XI x0), (1, XI x1)]) dX2_placeOf_1 (by decide) rfl ?_
  obtain ⟨z5, hz5, rz5, h⟩ := lr_some h
  refine g_sub (ls' := [(0, XI x0), (1, XI x1), (2, XI 0)]) [1, 2, 0] rfl ?_
  refine lX2_placeOf_l2  1000 _ _ _ hz5 (fun r e => ?_)
  have rz5 := rz5 r e
  subst rz5
  exact ⟨rfl, rfl⟩
end
