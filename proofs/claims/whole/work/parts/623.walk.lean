section
set_option maxHeartbeats 8000000 in
set_option maxRecDepth 20000 in
theorem lX9_ranksBy_l68 {X : XC} {d : Nat} {Post : Option XV → Mem → Prop} {x0 : Nat} {x1 : Int} {x2 : Int} {x3 : Int} {x4 : Int} {x5 : Int} (hx0 : Sh x0 = (18, 69)) : ∀ (n : Nat) (x7 : Int) (M : Mem) (t0 : Int × Mem), fX9_ranksBy_l68 x0 x1 x2 x3 x4 x5 n x7 M = some t0 → Go X mX9_ranksBy (d + 2) 115 [(0, XR x0), (1, XI x1), (2, XI x2), (3, XI x3), (4, XI x4), (5, XI x5), (7, XI t0.1)] [] t0.2 Post → Go X mX9_ranksBy (d + 2) 68 [(0, XR x0), (1, XI x1), (2, XI x2), (3, XI x3), (4, XI x4), (5, XI x5), (7, XI x7)] [] M Post := by
  intro n
  induction n with
  | zero => intro _ _ _ h; cases h
  | succ n ih =>
    intro x7 M t0 h K
    unfold fX9_ranksBy_l68 at h
    refine g_iload 6 dX9_ranksBy_68 rfl ?_
    refine g_iload_n 1 dX9_ranksBy_70 rfl ?_
    refine g_icmp_le (tgt := 115) dX9_ranksBy_71 (by decide) (fun b20 => ?_) (fun b20 => ?_)
    · replace h := ifp b20 h
      cases h
      exact g_sub [0, 1, 2, 3, 4, 5, 6] rfl K
    · replace h := ifn b20 h
      refine g_pc (pc' := 74) rfl ?_
      refine g_aload_n 0 dX9_ranksBy_74 rfl ?_
      refine g_iload 5 dX9_ranksBy_75 rfl ?_
      refine g_aload_n 0 dX9_ranksBy_77 rfl ?_
      refine g_getR dX9_ranksBy_78 flX9_105 (by decide) rfl hx0 ?_
      refine g_iload 6 dX9_ranksBy_81 rfl ?_
      refine g_iconst (v := 1) dX9_ranksBy_83 rfl (i32l rfl) ?_
      obtain ⟨c21, h⟩ := chk_some h
      refine g_isub dX9_ranksBy_84 rfl c21 ?_
      obtain ⟨c22, h⟩ := chk_some h
      refine g_iald dX9_ranksBy_85 (sf_8_42 hx0) c22.1 c22.2 ?_
      refine g_pc (pc' := 86) rfl ?_
      refine g_iload_n 3 dX9_ranksBy_86 rfl ?_
      obtain ⟨q23, hq23, h⟩ := bnd_some h
      refine v_I (ci := 8) (as := [XI x5, XI (M (x0 + 43) (Int.toNat (x7 - 1))), XI x3]) dX9_ranksBy_87 mlX9_328 mdX9_isBefore mvX9_isBefore rfl hx0 rfl (Nat.le_of_ble_eq_true rfl) (kX9_isBefore hx0 hq23) rfl ?_
      refine g_if_eq (tgt := 115) dX9_ranksBy_90 (by decide) (fun b24 => ?_) (fun b24 => ?_)
      · replace h := ifp b24 h
        cases h
        exact g_sub [0, 1, 2, 3, 4, 5, 6] rfl K
      · replace h := ifn b24 h
        refine g_pc (pc' := 93) rfl ?_
        refine g_aload_n 0 dX9_ranksBy_93 rfl ?_
        refine g_getR dX9_ranksBy_94 flX9_105 (by decide) rfl hx0 ?_
        refine g_iload 6 dX9_ranksBy_97 rfl ?_
        refine g_aload_n 0 dX9_ranksBy_99 rfl ?_
        refine g_getR dX9_ranksBy_100 flX9_105 (by decide) rfl hx0 ?_
        refine g_iload 6 dX9_ranksBy_103 rfl ?_
        refine g_iconst (v := 1) dX9_ranksBy_105 rfl (i32l rfl) ?_
        obtain ⟨c25, h⟩ := chk_some h
        refine g_isub dX9_ranksBy_106 rfl c25 ?_
        refine g_pc (pc' := 107) rfl ?_
        obtain ⟨c26, h⟩ := chk_some h
        refine g_iald dX9_ranksBy_107 (sf_8_42 hx0) c26.1 c26.2 ?_
        obtain ⟨c27, h⟩ := chk_some h
        refine g_iast dX9_ranksBy_108 (sf_8_42 hx0) c27.1 c27.2 ?_
        refine g_nmM (fun M28 eM28 => ?_)
        replace h := nm_s eM28 h
        obtain ⟨c29, h⟩ := chk_some h
        refine g_iinc (ls' := [(7, XI (x7 + (-1))), (0, XR x0), (1, XI x1), (2, XI x2), (3, XI x3), (4, XI x4), (5, XI x5)]) 6 dX9_ranksBy_109 rfl rfl c29 (by decide) rfl ?_
        refine g_goto (tgt := 68) dX9_ranksBy_112 (by decide) ?_
        exact g_sub [1, 2, 3, 4, 5, 6, 0] rfl (ih _ _ _ h K)
set_option maxHeartbeats 8000000 in
set_option maxRecDepth 20000 in
theorem lX9_ranksBy_l6 {X : XC} {d : Nat} {Post : Option XV → Mem → Prop} {x0 : Nat} {x1 : Int} {x2 : Int} {x3 : Int} (hx0 : Sh x0 = (18, 69)) : ∀ (n : Nat) (x4 x5 : Int) (M : Mem) (t0 : Int × Int × Mem), fX9_ranksBy_l6 x0 x1 x2 x3 n x4 x5 M = some t0 → Go X mX9_ranksBy (d + 2) 133 [(4, XI t0.1)] [] t0.2.2 Post → Go X mX9_ranksBy (d + 2) 6 [(0, XR x0), (1, XI x1), (2, XI x2), (3, XI x3), (4, XI x4), (5, XI x5)] [] M Post := by
  intro n
  induction n with
  | zero => intro _ _ _ _ h; cases h
  | succ n ih =>
    intro x4 x5 M t0 h K
    unfold fX9_ranksBy_l6 at h
    refine g_iload 5 dX9_ranksBy_6 rfl ?_
    refine g_aload_n 0 dX9_ranksBy_8 rfl ?_
    refine g_getI dX9_ranksBy_9 flX9_167 (by decide) rfl hx0 ?_
    refine g_icmp_ge (tgt := 133) dX9_ranksBy_12 (by decide) (fun b1 => ?_) (fun b1 => ?_)
    · replace h := ifp b1 h
      cases h
      exact g_sub [4] rfl K
    · replace h := ifn b1 h
      refine g_pc (pc' := 15) rfl ?_
      refine g_iload_n 2 dX9_ranksBy_15 rfl ?_
      refine g_iconst (v := -1) dX9_ranksBy_16 rfl (i32l rfl) ?_
      obtain ⟨t7, ht7, h⟩ := bnd_some h
      have Kt7 : Go X mX9_ranksBy (d + 2) 54 [(0, XR x0), (1, XI x1), (2, XI x2), (3, XI x3), (4, XI x4), (5, XI x5)] [XI t7] M Post := by
        refine g_istore (ls' := [(6, XI t7), (0, XR x0), (1, XI x1), (2, XI x2), (3, XI x3), (4, XI x4), (5, XI x5)]) dX9_ranksBy_54 (by decide) rfl ?_
        refine g_iload 0 dX9_ranksBy_56 rfl ?_
        obtain ⟨t18, ht18, h⟩ := bnd_some h
        have Kt18 : Go X mX9_ranksBy (d + 2) 127 [(0, XR x0), (1, XI x1), (2, XI x2), (3, XI x3), (4, XI t18.1), (5, XI x5)] [] t18.2 Post := by
          obtain ⟨c34, h⟩ := chk_some h
          refine g_iinc (ls' := [(5, XI (x5 + 1)), (0, XR x0), (1, XI x1), (2, XI x2), (3, XI x3), (4, XI t18.1)]) 5 dX9_ranksBy_127 rfl rfl c34 (by decide) rfl ?_
          refine g_goto (tgt := 6) dX9_ranksBy_130 (by decide) ?_
          exact g_sub [1, 2, 3, 4, 5, 0] rfl (ih _ _ _ _ h K)
        refine g_if_ne (tgt := 64) dX9_ranksBy_58 (by decide) (fun b19 => ?_) (fun b19 => ?_)
        · replace ht18 := ifn b19 ht18
          refine g_iload 5 dX9_ranksBy_64 rfl ?_
          refine g_istore (ls' := [(7, XI x4), (6, XI t7), (0, XR x0), (1, XI x1), (2, XI x2), (3, XI x3), (4, XI x4), (5, XI x5)]) dX9_ranksBy_66 (by decide) rfl ?_
          obtain ⟨z30, hz30, ht18⟩ := bnd_some ht18
          refine g_sub (ls' := [(0, XR x0), (1, XI x1), (2, XI x2), (3, XI x3), (4, XI x4), (5, XI x5), (7, XI x4)]) [2, 3, 4, 5, 6, 7, 0] rfl ?_
          refine lX9_ranksBy_l68 hx0 1000 _ _ _ hz30 ?_
          refine g_aload_n 0 dX9_ranksBy_115 rfl ?_
          refine g_getR dX9_ranksBy_116 flX9_105 (by decide) rfl hx0 ?_
          refine g_iload 6 dX9_ranksBy_119 rfl ?_
          refine g_iload 5 dX9_ranksBy_121 rfl ?_
          obtain ⟨c31, ht18⟩ := chk_some ht18
          refine g_iast dX9_ranksBy_123 (sf_8_42 hx0) c31.1 c31.2 ?_
          refine g_nmM (fun M32 eM32 => ?_)
          replace ht18 := nm_s eM32 ht18
          obtain ⟨c33, ht18⟩ := chk_some ht18
          refine g_iinc (ls' := [(4, XI (x4 + 1)), (0, XR x0), (1, XI x1), (2, XI x2), (3, XI x3), (5, XI x5), (7, XI z30.1)]) 4 dX9_ranksBy_124 rfl rfl c33 (by decide) rfl ?_
          cases ht18
          exact g_sub [1, 2, 3, 4, 0, 5] rfl Kt18
        · replace ht18 := ifp b19 ht18
          refine g_pc (pc' := 61) rfl ?_
          refine g_goto (tgt := 127) dX9_ranksBy_61 (by decide) ?_
          cases ht18
          exact g_sub [1, 2, 3, 4, 5, 6] rfl Kt18
      refine g_icmp_ne (tgt := 38) dX9_ranksBy_17 (by decide) (fun b8 => ?_) (fun b8 => ?_)
      · replace ht7 := ifn b8 ht7
        refine g_aload_n 0 dX9_ranksBy_38 rfl ?_
        refine g_getR dX9_ranksBy_39 flX9_62 (by decide) rfl hx0 ?_
        refine g_iload 5 dX9_ranksBy_42 rfl ?_
        obtain ⟨c9, ht7⟩ := chk_some ht7
        refine g_iald dX9_ranksBy_44 (sf_8_24 hx0) c9.1 c9.2 ?_
        refine g_iload_n 2 dX9_ranksBy_45 rfl ?_
        refine g_icmp_ne (tgt := 53) dX9_ranksBy_46 (by decide) (fun b10 => ?_) (fun b10 => ?_)
        · replace ht7 := ifn b10 ht7
          refine g_iconst (v := 0) dX9_ranksBy_53 rfl (i32l rfl) ?_
          cases ht7
          exact g_sub [0, 1, 2, 3, 4, 5] rfl Kt7
        · replace ht7 := ifp b10 ht7
          refine g_pc (pc' := 49) rfl ?_
          refine g_iconst (v := 1) dX9_ranksBy_49 rfl (i32l rfl) ?_
          refine g_goto (tgt := 54) dX9_ranksBy_50 (by decide) ?_
          cases ht7
          exact g_sub [0, 1, 2, 3, 4, 5] rfl Kt7
      · replace ht7 := ifp b8 ht7
        refine g_pc (pc' := 20) rfl ?_
        refine g_aload_n 0 dX9_ranksBy_20 rfl ?_
        refine g_getR dX9_ranksBy_21 flX9_62 (by decide) rfl hx0 ?_
        refine g_iload 5 dX9_ranksBy_24 rfl ?_
        obtain ⟨c11, ht7⟩ := chk_some ht7
        refine g_iald dX9_ranksBy_26 (sf_8_24 hx0) c11.1 c11.2 ?_
        refine g_if_eq (tgt := 34) dX9_ranksBy_27 (by decide) (fun b12 => ?_) (fun b12 => ?_)
        · replace ht7 := ifp b12 ht7
          refine g_iconst (v := 0) dX9_ranksBy_34 rfl (i32l rfl) ?_
          refine g_goto (tgt := 54) dX9_ranksBy_35 (by decide) ?_
          cases ht7
          exact g_sub [0, 1, 2, 3, 4, 5] rfl Kt7
        · replace ht7 := ifn b12 ht7
          refine g_pc (pc' := 30) rfl ?_
          refine g_iconst (v := 1) dX9_ranksBy_30 rfl (i32l rfl) ?_
          refine g_goto (tgt := 54) dX9_ranksBy_31 (by decide) ?_
          cases ht7
          exact g_sub [0, 1, 2, 3, 4, 5] rfl Kt7
set_option maxHeartbeats 8000000 in
set_option maxRecDepth 20000 in
theorem kX9_ranksBy {X : XC} {d : Nat} {x0 : Nat} {x1 : Int} {x2 : Int} {x3 : Int} (hx0 : Sh x0 = (18, 69)) {M : Mem} {q : Int × Mem} (h : fX9_ranksBy x0 x1 x2 x3 M = some q) : Ct X mX9_ranksBy (d + 2) [XR x0, XI x1, XI x2, XI x3] M (pI q) := by
  unfold fX9_ranksBy at h
  refine ct_go (by decide +kernel) (Nat.le_of_ble_eq_true rfl) (ls := [(0, XR x0), (1, XI x1), (2, XI x2), (3, XI x3)]) rfl ?_
  refine g_iload_n 1 dX9_ranksBy_0 rfl ?_
  refine g_istore (ls' := [(4, XI x1), (0, XR x0), (1, XI x1), (2, XI x2), (3, XI x3)]) dX9_ranksBy_1 (by decide) rfl ?_
  refine g_iconst (v := 0) dX9_ranksBy_3 rfl (i32l rfl) ?_
  refine g_istore (ls' := [(5, XI 0), (4, XI x1), (0, XR x0), (1, XI x1), (2, XI x2), (3, XI x3)]) dX9_ranksBy_4 (by decide) rfl ?_
  obtain ⟨z35, hz35, h⟩ := bnd_some h
  refine g_sub (ls' := [(0, XR x0), (1, XI x1), (2, XI x2), (3, XI x3), (4, XI x1), (5, XI 0)]) [2, 3, 4, 5, 1, 0] rfl ?_
  refine lX9_ranksBy_l6 hx0 1000 _ _ _ _ hz35 ?_
  refine g_iload 0 dX9_ranksBy_133 rfl ?_
  cases h
  exact g_ireturn dX9_ranksBy_135 rfl ⟨rfl, rfl⟩
set_option maxHeartbeats 8000000 in
set_option maxRecDepth 20000 in
theorem lX9_ranked_l58 {X : XC} {d : Nat} {Post : Option XV → Mem → Prop} {x0 : Nat} {x1 : Int} (hx0 : Sh x0 = (18, 69)) : ∀ (n : Nat) (x2 x3 : Int) (M : Mem) (t0 : Int × Int × Mem), fX9_ranked_l58 x0 x1 n x2 x3 M = some t0 → Go X mX9_ranked (d + 6) 97 [(0, XR x0), (1, XI x1), (2, XI t0.1)] [] t0.2.2 Post → Go X mX9_ranked (d + 6) 58 [(0, XR x0), (1, XI x1), (2, XI x2), (3, XI x3)] [] M Post := by
  intro n
  induction n with
  | zero => intro _ _ _ _ h; cases h
  | succ n ih =>
    intro x2 x3 M t0 h K
    unfold fX9_ranked_l58 at h
    refine g_iload_n 3 dX9_ranked_58 rfl ?_
    refine g_if_lt (tgt := 97) dX9_ranked_59 (by decide) (fun b11 => ?_) (fun b11 => ?_)
    · replace h := ifp b11 h
      cases h
      exact g_sub [0, 1, 2] rfl K
    · replace h := ifn b11 h
      refine g_pc (pc' := 62) rfl ?_
      refine g_aload_n 0 dX9_ranked_62 rfl ?_
      refine g_getR dX9_ranked_63 flX9_99 (by decide) rfl hx0 ?_
      refine g_iload_n 3 dX9_ranked_66 rfl ?_
      obtain ⟨c12, h⟩ := chk_some h
      refine g_iald dX9_ranked_67 (sf_8_40 hx0) c12.1 c12.2 ?_
      refine g_bip dX9_ranked_68 rfl ?_
      obtain ⟨t18, ht18, h⟩ := bnd_some h
      have Kt18 : Go X mX9_ranked (d + 6) 91 [(0, XR x0), (1, XI x1), (2, XI t18.1), (3, XI x3)] [] t18.2 Post := by
        obtain ⟨c24, h⟩ := chk_some h
        refine g_iinc (ls' := [(3, XI (x3 + (-1))), (0, XR x0), (1, XI x1), (2, XI t18.1)]) 3 dX9_ranked_91 rfl rfl c24 (by decide) rfl ?_
        refine g_goto (tgt := 58) dX9_ranked_94 (by decide) ?_
        exact g_sub [1, 2, 3, 0] rfl (ih _ _ _ _ h K)
      refine g_icmp_ne (tgt := 76) dX9_ranked_70 (by decide) (fun b19 => ?_) (fun b19 => ?_)
      · replace ht18 := ifn b19 ht18
        refine g_aload_n 0 dX9_ranked_76 rfl ?_
        refine g_getR dX9_ranked_77 flX9_105 (by decide) rfl hx0 ?_
        refine g_iload_n 2 dX9_ranked_80 rfl ?_
        refine g_aload_n 0 dX9_ranked_81 rfl ?_
        refine g_getR dX9_ranked_82 flX9_99 (by decide) rfl hx0 ?_
        refine g_iload_n 3 dX9_ranked_85 rfl ?_
        obtain ⟨c20, ht18⟩ := chk_some ht18
        refine g_iald dX9_ranked_86 (sf_8_40 hx0) c20.1 c20.2 ?_
        obtain ⟨c21, ht18⟩ := chk_some ht18
        refine g_iast dX9_ranked_87 (sf_8_42 hx0) c21.1 c21.2 ?_
        refine g_nmM (fun M22 eM22 => ?_)
        replace ht18 := nm_s eM22 ht18
        refine g_pc (pc' := 88) rfl ?_
        obtain ⟨c23, ht18⟩ := chk_some ht18
        refine g_iinc (ls' := [(2, XI (x2 + 1)), (0, XR x0), (1, XI x1), (3, XI x3)]) 2 dX9_ranked_88 rfl rfl c23 (by decide) rfl ?_
        cases ht18
        exact g_sub [1, 2, 0, 3] rfl Kt18
      · replace ht18 := ifp b19 ht18
        refine g_pc (pc' := 73) rfl ?_
        refine g_goto (tgt := 91) dX9_ranked_73 (by decide) ?_
        cases ht18
        exact g_sub [0, 1, 2, 3] rfl Kt18
set_option maxHeartbeats 8000000 in
set_option maxRecDepth 20000 in
theorem lX9_ranked_l99 {X : XC} {d : Nat} {Post : Option XV → Mem → Prop} {x0 : Nat} {x1 : Int} (hx0 : Sh x0 = (18, 69)) : ∀ (n : Nat) (x2 x3 : Int) (M : Mem) (t0 : Int × Int × Mem), fX9_ranked_l99 x0 x1 n x2 x3 M = some t0 → Go X mX9_ranked (d + 6) 135 [(0, XR x0), (1, XI x1)] [] t0.2.2 Post → Go X mX9_ranked (d + 6) 99 [(0, XR x0), (1, XI x1), (2, XI x2), (3, XI x3)] [] M Post := by
  intro n
  induction n with
  | zero => intro _ _ _ _ h; cases h
  | succ n ih =>
    intro x2 x3 M t0 h K
    unfold fX9_ranked_l99 at h
    refine g_iload_n 3 dX9_ranked_99 rfl ?_
    refine g_aload_n 0 dX9_ranked_100 rfl ?_
    refine g_getI dX9_ranked_101 flX9_167 (by decide) rfl hx0 ?_
    refine g_icmp_ge (tgt := 135) dX9_ranked_104 (by decide) (fun b26 => ?_) (fun b26 => ?_)
    · replace h := ifp b26 h
      cases h
      exact g_sub [0, 1] rfl K
    · replace h := ifn b26 h
      refine g_pc (pc' := 107) rfl ?_
      refine g_aload_n 0 dX9_ranked_107 rfl ?_
      refine g_getR dX9_ranked_108 flX9_62 (by decide) rfl hx0 ?_
      refine g_iload_n 3 dX9_ranked_111 rfl ?_
      obtain ⟨c27, h⟩ := chk_some h
      refine g_iald dX9_ranked_112 (sf_8_24 hx0) c27.1 c27.2 ?_
      obtain ⟨t32, ht32, h⟩ := bnd_some h
      have Kt32 : Go X mX9_ranked (d + 6) 129 [(0, XR x0), (1, XI x1), (2, XI t32.1), (3, XI x3)] [] t32.2 Post := by
        obtain ⟨c37, h⟩ := chk_some h
        refine g_iinc (ls' := [(3, XI (x3 + 1)), (0, XR x0), (1, XI x1), (2, XI t32.1)]) 3 dX9_ranked_129 rfl rfl c37 (by decide) rfl ?_
        refine g_goto (tgt := 99) dX9_ranked_132 (by decide) ?_
        exact g_sub [1, 2, 3, 0] rfl (ih _ _ _ _ h K)
      refine g_if_eq (tgt := 119) dX9_ranked_113 (by decide) (fun b33 => ?_) (fun b33 => ?_)
      · replace ht32 := ifp b33 ht32
        refine g_aload_n 0 dX9_ranked_119 rfl ?_
        refine g_getR dX9_ranked_120 flX9_105 (by decide) rfl hx0 ?_
        refine g_iload_n 2 dX9_ranked_123 rfl ?_
        refine g_iload_n 3 dX9_ranked_124 rfl ?_
        obtain ⟨c34, ht32⟩ := chk_some ht32
        refine g_iast dX9_ranked_125 (sf_8_42 hx0) c34.1 c34.2 ?_
        refine g_nmM (fun M35 eM35 => ?_)
        replace ht32 := nm_s eM35 ht32
        obtain ⟨c36, ht32⟩ := chk_some ht32
        refine g_iinc (ls' := [(2, XI (x2 + 1)), (0, XR x0), (1, XI x1), (3, XI x3)]) 2 dX9_ranked_126 rfl rfl c36 (by decide) rfl ?_
        cases ht32
        exact g_sub [1, 2, 0, 3] rfl Kt32
      · replace ht32 := ifn b33 ht32
        refine g_pc (pc' := 116) rfl ?_
        refine g_goto (tgt := 129) dX9_ranked_116 (by decide) ?_
        cases ht32
        exact g_sub [0, 1, 2, 3] rfl Kt32
set_option maxHeartbeats 8000000 in
set_option maxRecDepth 20000 in
theorem kX9_ranked {X : XC} {d : Nat} {x0 : Nat} {x1 : Int} (hx0 : Sh x0 = (18, 69)) {M : Mem} {q : Int × Mem} (h : fX9_ranked x0 x1 M = some q) : Ct X mX9_ranked (d + 6) [XR x0, XI x1] M (pI q) := by
  unfold fX9_ranked at h
  refine ct_go (by decide +kernel) (Nat.le_of_ble_eq_true rfl) (ls := [(0, XR x0), (1, XI x1)]) rfl ?_
  refine g_aload_n 0 dX9_ranked_0 rfl ?_
  refine g_iload_n 1 dX9_ranked_1 rfl ?_
  obtain ⟨q1, hq1, h⟩ := bnd_some h
  refine v_I (ci := 8) (as := [XI x1]) dX9_ranked_2 mlX9_211 mdX9_isOne mvX9_isOne rfl hx0 rfl (Nat.le_of_ble_eq_true rfl) (kX9_isOne hx0 hq1) rfl ?_
  refine g_if_ne (tgt := 10) dX9_ranked_5 (by decide) (fun b2 => ?_) (fun b2 => ?_)
  · replace h := ifn b2 h
    refine g_aload_n 0 dX9_ranked_10 rfl ?_
    obtain ⟨q3, hq3, h⟩ := bnd_some h
    refine v_V (ci := 8) (as := []) dX9_ranked_11 mlX9_310 mdX9_counts mvX9_counts rfl hx0 rfl (Nat.le_of_ble_eq_true rfl) (kX9_counts hx0 hq3) rfl ?_
    refine g_aload_n 0 dX9_ranked_14 rfl ?_
    refine g_getR dX9_ranked_15 flX9_71 (by decide) rfl hx0 ?_
    refine g_iconst (v := 0) dX9_ranked_18 rfl (i32l rfl) ?_
    refine g_aload_n 0 dX9_ranked_19 rfl ?_
    refine g_getR dX9_ranked_20 flX9_105 (by decide) rfl hx0 ?_
    refine g_iconst (v := 0) dX9_ranked_23 rfl (i32l rfl) ?_
    refine g_pc (pc' := 24) rfl ?_
    refine g_aload_n 0 dX9_ranked_24 rfl ?_
    refine g_getI dX9_ranked_25 flX9_251 (by decide) rfl hx0 ?_
    obtain ⟨c4, h⟩ := chk_some h
    refine g_copy dX9_ranked_28 mlX9_332 (sf_8_27 hx0) (sf_8_42 hx0) (by decide) c4.1 c4.2.1 c4.2.2.1 c4.2.2.2.1 c4.2.2.2.2 (Nat.le_of_ble_eq_true rfl) ?_
    refine g_nmM (fun M5 eM5 => ?_)
    replace h := nm_s eM5 h
    refine g_aload_n 0 dX9_ranked_31 rfl ?_
    refine g_aload_n 0 dX9_ranked_32 rfl ?_
    refine g_getI dX9_ranked_33 flX9_251 (by decide) rfl hx0 ?_
    refine g_iconst (v := 1) dX9_ranked_36 rfl (i32l rfl) ?_
    refine g_iconst (v := 0) dX9_ranked_37 rfl (i32l rfl) ?_
    refine g_aload_n 0 dX9_ranked_38 rfl ?_
    refine g_pc (pc' := 39) rfl ?_
    refine g_getI dX9_ranked_39 flX9_248 (by decide) rfl hx0 ?_
    refine g_iconst (v := 1) dX9_ranked_42 rfl (i32l rfl) ?_
    obtain ⟨c6, h⟩ := chk_some h
    refine g_isub dX9_ranked_43 rfl c6 ?_
    refine g_maxI dX9_ranked_44 mlX9_338 (Nat.le_of_ble_eq_true rfl) ?_
    obtain ⟨q7, hq7, h⟩ := bnd_some h
    refine v_I (ci := 8) (as := [XI (M5 x0 23), XI 1, XI (if 0 < ((M5 x0 22) - 1) then ((M5 x0 22) - 1) else 0)]) dX9_ranked_47 mlX9_341 mdX9_ranksBy mvX9_ranksBy rfl hx0 rfl (Nat.le_of_ble_eq_true rfl) (kX9_ranksBy hx0 hq7) rfl ?_
    refine g_nmI (fun v8 ev8 => ?_)
    replace h := nm_s ev8 h
    refine g_istore_n (ls' := [(2, XI v8), (0, XR x0), (1, XI x1)]) dX9_ranked_50 (by decide) rfl ?_
    refine g_aload_n 1 dX9_ranked_51 rfl ?_
    refine g_getI dX9_ranked_52 flX9_248 (by decide) rfl hx0 ?_
    refine g_iconst (v := 1) dX9_ranked_55 rfl (i32l rfl) ?_
    refine g_pc (pc' := 56) rfl ?_
    obtain ⟨c9, h⟩ := chk_some h
    refine g_isub dX9_ranked_56 rfl c9 ?_
    refine g_nmI (fun v10 ev10 => ?_)
    replace h := nm_s ev10 h
    refine g_istore_n (ls' := [(3, XI v10), (2, XI v8), (0, XR x0), (1, XI x1)]) dX9_ranked_57 (by decide) rfl ?_
    obtain ⟨z25, hz25, h⟩ := bnd_some h
    refine g_sub (ls' := [(0, XR x0), (1, XI x1), (2, XI v8), (3, XI v10)]) [2, 3, 1, 0] rfl ?_
    refine lX9_ranked_l58 hx0 1000 _ _ _ _ hz25 ?_
    refine g_iconst (v := 0) dX9_ranked_97 rfl (i32l rfl) ?_
    refine g_istore_n (ls' := [(3, XI 0), (0, XR x0), (1, XI x1), (2, XI z25.1)]) dX9_ranked_98 (by decide) rfl ?_
    obtain ⟨z38, hz38, h⟩ := bnd_some h
    refine g_sub (ls' := [(0, XR x0), (1, XI x1), (2, XI z25.1), (3, XI 0)]) [1, 2, 3, 0] rfl ?_
    refine lX9_ranked_l99 hx0 1000 _ _ _ _ hz38 ?_
    refine g_aload_n 0 dX9_ranked_135 rfl ?_
    refine g_getR dX9_ranked_136 flX9_105 (by decide) rfl hx0 ?_
    refine g_iload_n 1 dX9_ranked_139 rfl ?_
    obtain ⟨c39, h⟩ := chk_some h
    refine g_iald dX9_ranked_140 (sf_8_42 hx0) c39.1 c39.2 ?_
    cases h
    exact g_ireturn dX9_ranked_141 rfl ⟨rfl, rfl⟩
  · replace h := ifp b2 h
    refine g_pc (pc' := 8) rfl ?_
    refine g_iconst (v := -1) dX9_ranked_8 rfl (i32l rfl) ?_
    cases h
    exact g_ireturn dX9_ranked_9 rfl ⟨rfl, rfl⟩
set_option maxHeartbeats 8000000 in
set_option maxRecDepth 20000 in
theorem kX9_standing {X : XC} {d : Nat} {x0 : Nat} {x1 : Int} {x2 : Int} (hx0 : Sh x0 = (18, 69)) {M : Mem} {q : Int × Mem} (h : fX9_standing x0 x1 x2 M = some q) : Ct X mX9_standing (d + 7) [XR x0, XI x1, XI x2] M (pI q) := by
  unfold fX9_standing at h
  refine ct_go (by decide +kernel) (Nat.le_of_ble_eq_true rfl) (ls := [(0, XR x0), (1, XI x1), (2, XI x2)]) rfl ?_
  refine g_aload_n 0 dX9_standing_0 rfl ?_
  refine g_iload_n 1 dX9_standing_1 rfl ?_
  obtain ⟨q1, hq1, h⟩ := bnd_some h
  refine v_I (ci := 8) (as := [XI x1]) dX9_standing_2 mlX9_323 mdX9_isStage mvX9_isStage rfl hx0 rfl (Nat.le_of_ble_eq_true rfl) (kX9_isStage hx0 hq1) rfl ?_
  refine g_if_ne (tgt := 10) dX9_standing_5 (by decide) (fun b2 => ?_) (fun b2 => ?_)
  · replace h := ifn b2 h
    refine g_aload_n 0 dX9_standing_10 rfl ?_
    refine g_iconst (v := 0) dX9_standing_11 rfl (i32l rfl) ?_
    refine g_iconst (v := -1) dX9_standing_12 rfl (i32l rfl) ?_
    refine g_iload_n 1 dX9_standing_13 rfl ?_
    obtain ⟨q3, hq3, h⟩ := bnd_some h
    refine v_I (ci := 8) (as := [XI 0, XI (-1), XI x1]) dX9_standing_14 mlX9_341 mdX9_ranksBy mvX9_ranksBy rfl hx0 rfl (Nat.le_of_ble_eq_true rfl) (kX9_ranksBy hx0 hq3) rfl ?_
    refine g_nmI (fun v4 ev4 => ?_)
    replace h := nm_s ev4 h
    refine g_istore_n (ls' := [(3, XI v4), (0, XR x0), (1, XI x1), (2, XI x2)]) dX9_standing_17 (by decide) rfl ?_
    refine g_iload_n 3 dX9_standing_18 rfl ?_
    refine g_i2l dX9_standing_19 ?_
    refine g_pc (pc' := 20) rfl ?_
    refine g_lconst (v := 0) dX9_standing_20 rfl (i64l rfl) ?_
    refine g_iload_n 0 dX9_standing_21 rfl ?_
    refine g_iconst (v := 1) dX9_standing_22 rfl (i32l rfl) ?_
    obtain ⟨c5, h⟩ := chk_some h
    refine g_isub dX9_standing_23 rfl c5 ?_
    refine g_i2l dX9_standing_24 ?_
    obtain ⟨q6, hq6, h⟩ := bnd_some h
    refine s_I (as := [XL x2, XL 0, XL (v4 - 1)]) dX9_standing_25 mlX9_170 mdX9_in msX9_in rfl (Nat.le_of_ble_eq_true rfl) (kX9_in  hq6) rfl ?_
    obtain ⟨t9, ht9, h⟩ := bnd_some h
    have Kt9 : Go X mX9_standing (d + 7) 41 [] [XI t9] q6.2 (pI q) := by
      cases h
      exact g_ireturn dX9_standing_41 rfl ⟨rfl, rfl⟩
    refine g_if_eq (tgt := 40) dX9_standing_28 (by decide) (fun b10 => ?_) (fun b10 => ?_)
    · replace ht9 := ifp b10 ht9
      refine g_iconst (v := -1) dX9_standing_40 rfl (i32l rfl) ?_
      cases ht9
      exact g_sub [] rfl Kt9
    · replace ht9 := ifn b10 ht9
      refine g_pc (pc' := 31) rfl ?_
      refine g_aload_n 1 dX9_standing_31 rfl ?_
      refine g_getR dX9_standing_32 flX9_105 (by decide) rfl hx0 ?_
      refine g_iload_n 3 dX9_standing_35 rfl ?_
      obtain ⟨c11, ht9⟩ := chk_some ht9
      refine g_iald dX9_standing_36 (sf_8_42 hx0) c11.1 c11.2 ?_
      refine g_goto (tgt := 41) dX9_standing_37 (by decide) ?_
      cases ht9
      exact g_sub [] rfl Kt9
  · replace h := ifp b2 h
    refine g_pc (pc' := 8) rfl ?_
    refine g_iconst (v := -1) dX9_standing_8 rfl (i32l rfl) ?_
    cases h
    exact g_ireturn dX9_standing_9 rfl ⟨rfl, rfl⟩
set_option maxHeartbeats 8000000 in
set_option maxRecDepth 20000 in
theorem kX9_pile {X : XC} {d : Nat} {x0 : Nat} {x1 : Int} {x2 : Int} (hx0 : Sh x0 = (18, 69)) {M : Mem} {q : Int × Mem} (h : fX9_pile x0 x1 x2 M = some q) : Ct X mX9_pile (d + 4) [XR x0, XI x1, XI x2] M (pI q) := by
  unfold fX9_pile at h
  refine ct_go (by decide +kernel) (Nat.le_of_ble_eq_true rfl) (ls := [(0, XR x0), (1, XI x1), (2, XI x2)]) rfl ?_
  refine g_aload_n 0 dX9_pile_0 rfl ?_
  obtain ⟨q1, hq1, h⟩ := bnd_some h
  refine v_V (ci := 8) (as := []) dX9_pile_1 mlX9_299 mdX9_tellPiles mvX9_tellPiles rfl hx0 rfl (Nat.le_of_ble_eq_true rfl) (kX9_tellPiles hx0 hq1) rfl ?_
  refine g_iload_n 1 dX9_pile_4 rfl ?_
  refine g_i2l dX9_pile_5 ?_
  refine g_lconst (v := 0) dX9_pile_6 rfl (i64l rfl) ?_
  refine g_aload_n 0 dX9_pile_7 rfl ?_
  refine g_getI dX9_pile_8 flX9_225 (by decide) rfl hx0 ?_
  refine g_iconst (v := 1) dX9_pile_11 rfl (i32l rfl) ?_
  refine g_pc (pc' := 12) rfl ?_
  obtain ⟨c2, h⟩ := chk_some h
  refine g_isub dX9_pile_12 rfl c2 ?_
  refine g_i2l dX9_pile_13 ?_
  obtain ⟨q3, hq3, h⟩ := bnd_some h
  refine s_I (as := [XL x1, XL 0, XL ((q1.2 x0 18) - 1)]) dX9_pile_14 mlX9_170 mdX9_in msX9_in rfl (Nat.le_of_ble_eq_true rfl) (kX9_in  hq3) rfl ?_
  refine g_if_eq (tgt := 30) dX9_pile_17 (by decide) (fun b4 => ?_) (fun b4 => ?_)
  · replace h := ifp b4 h
    refine g_iconst (v := -1) dX9_pile_30 rfl (i32l rfl) ?_
    cases h
    exact g_ireturn dX9_pile_31 rfl ⟨rfl, rfl⟩
  · replace h := ifn b4 h
    refine g_pc (pc' := 20) rfl ?_
    refine g_iload_n 2 dX9_pile_20 rfl ?_
    refine g_i2l dX9_pile_21 ?_
    refine g_lconst (v := 0) dX9_pile_22 rfl (i64l rfl) ?_
    refine g_lconst (v := 1) dX9_pile_23 rfl (i64l rfl) ?_
    obtain ⟨q5, hq5, h⟩ := bnd_some h
    refine s_I (as := [XL x2, XL 0, XL 1]) dX9_pile_24 mlX9_170 mdX9_in msX9_in rfl (Nat.le_of_ble_eq_true rfl) (kX9_in  hq5) rfl ?_
    refine g_if_ne (tgt := 32) dX9_pile_27 (by decide) (fun b6 => ?_) (fun b6 => ?_)
    · replace h := ifn b6 h
      refine g_iload_n 2 dX9_pile_32 rfl ?_
      obtain ⟨t10, ht10, h⟩ := bnd_some h
      have Kt10 : Go X mX9_pile (d + 4) 51 [] [XI t10] q5.2 (pI q) := by
        cases h
        exact g_ireturn dX9_pile_51 rfl ⟨rfl, rfl⟩
      refine g_if_ne (tgt := 45) dX9_pile_33 (by decide) (fun b11 => ?_) (fun b11 => ?_)
      · replace ht10 := ifn b11 ht10
        refine g_aload_n 0 dX9_pile_45 rfl ?_
        refine g_getR dX9_pile_46 flX9_59 (by decide) rfl hx0 ?_
        refine g_iload_n 1 dX9_pile_49 rfl ?_
        obtain ⟨c12, ht10⟩ := chk_some ht10
        refine g_iald dX9_pile_50 (sf_8_21 hx0) c12.1 c12.2 ?_
        cases ht10
        exact g_sub [] rfl Kt10
      · replace ht10 := ifp b11 ht10
        refine g_pc (pc' := 36) rfl ?_
        refine g_aload_n 0 dX9_pile_36 rfl ?_
        refine g_getR dX9_pile_37 flX9_53 (by decide) rfl hx0 ?_
        refine g_iload_n 1 dX9_pile_40 rfl ?_
        obtain ⟨c13, ht10⟩ := chk_some ht10
        refine g_iald dX9_pile_41 (sf_8_19 hx0) c13.1 c13.2 ?_
        refine g_goto (tgt := 51) dX9_pile_42 (by decide) ?_
        cases ht10
        exact g_sub [] rfl Kt10
    · replace h := ifp b6 h
      refine g_pc (pc' := 30) rfl ?_
      refine g_iconst (v := -1) dX9_pile_30 rfl (i32l rfl) ?_
      cases h
      exact g_ireturn dX9_pile_31 rfl ⟨rfl, rfl⟩
set_option maxHeartbeats 8000000 in
set_option maxRecDepth 20000 in
theorem kX9_isTwo {X : XC} {d : Nat} {x0 : Nat} {x1 : Int} {x2 : Int} (hx0 : Sh x0 = (18, 69)) {M : Mem} {q : Int × Mem} (h : fX9_isTwo x0 x1 x2 M = some q) : Ct X mX9_isTwo (d + 2) [XR x0, XI x1, XI x2] M (pI q) := by
  unfold fX9_isTwo at h
  refine ct_go (by decide +kernel) (Nat.le_of_ble_eq_true rfl) (ls := [(0, XR x0), (1, XI x1), (2, XI x2)]) rfl ?_
  refine g_aload_n 0 dX9_isTwo_0 rfl ?_
  refine g_iload_n 1 dX9_isTwo_1 rfl ?_
  obtain ⟨q1, hq1, h⟩ := bnd_some h
  refine v_I (ci := 8) (as := [XI x1]) dX9_isTwo_2 mlX9_211 mdX9_isOne mvX9_isOne rfl hx0 rfl (Nat.le_of_ble_eq_true rfl) (kX9_isOne hx0 hq1) rfl ?_
  obtain ⟨t6, ht6, h⟩ := bnd_some h
  have Kt6 : Go X mX9_isTwo (d + 2) 26 [] [XI t6.1] t6.2 (pI q) := by
    obtain ⟨cz, h⟩ := chk_some h
    cases h
    exact g_zreturn dX9_isTwo_26 rfl cz ⟨rfl, rfl⟩
  refine g_if_eq (tgt := 25) dX9_isTwo_5 (by decide) (fun b7 => ?_) (fun b7 => ?_)
  · replace ht6 := ifp b7 ht6
    refine g_iconst (v := 0) dX9_isTwo_25 rfl (i32l rfl) ?_
    cases ht6
    exact g_sub [] rfl Kt6
  · replace ht6 := ifn b7 ht6
    refine g_pc (pc' := 8) rfl ?_
    refine g_aload_n 0 dX9_isTwo_8 rfl ?_
    refine g_iload_n 2 dX9_isTwo_9 rfl ?_
    obtain ⟨q8, hq8, ht6⟩ := bnd_some ht6
    refine v_I (ci := 8) (as := [XI x2]) dX9_isTwo_10 mlX9_211 mdX9_isOne mvX9_isOne rfl hx0 rfl (Nat.le_of_ble_eq_true rfl) (kX9_isOne hx0 hq8) rfl ?_
    refine g_if_eq (tgt := 25) dX9_isTwo_13 (by decide) (fun b9 => ?_) (fun b9 => ?_)
    · replace ht6 := ifp b9 ht6
      refine g_iconst (v := 0) dX9_isTwo_25 rfl (i32l rfl) ?_
      cases ht6
      exact g_sub [] rfl Kt6
    · replace ht6 := ifn b9 ht6
      refine g_pc (pc' := 16) rfl ?_
      refine g_iload_n 1 dX9_isTwo_16 rfl ?_
      refine g_iload_n 2 dX9_isTwo_17 rfl ?_
      refine g_icmp_eq (tgt := 25) dX9_isTwo_18 (by decide) (fun b10 => ?_) (fun b10 => ?_)
      · replace ht6 := ifp b10 ht6
        refine g_iconst (v := 0) dX9_isTwo_25 rfl (i32l rfl) ?_
        cases ht6
        exact g_sub [] rfl Kt6
      · replace ht6 := ifn b10 ht6
        refine g_pc (pc' := 21) rfl ?_
        refine g_iconst (v := 1) dX9_isTwo_21 rfl (i32l rfl) ?_
        refine g_goto (tgt := 26) dX9_isTwo_22 (by decide) ?_
        cases ht6
        exact g_sub [] rfl Kt6
end
