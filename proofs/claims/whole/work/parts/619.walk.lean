section
set_option maxHeartbeats 8000000 in
set_option maxRecDepth 20000 in
theorem lX9_endsStage_l2 {X : XC} {d : Nat} {Post : Option XV → Mem → Prop} {x0 : Nat} {x1 : Int} (hx0 : Sh x0 = (18, 69)) : ∀ (n : Nat) (x2 : Int) (M : Mem) (t0 : Int × Mem), fX9_endsStage_l2 x0 x1 n x2 M = some t0 → Go X mX9_endsStage (d + 3) 56 [(0, XR x0), (1, XI x1)] [] t0.2 Post → Go X mX9_endsStage (d + 3) 2 [(0, XR x0), (1, XI x1), (2, XI x2)] [] M Post := by
  intro n
  induction n with
  | zero => intro _ _ _ h; cases h
  | succ n ih =>
    intro x2 M t0 h K
    unfold fX9_endsStage_l2 at h
    refine g_iload_n 2 dX9_endsStage_2 rfl ?_
    refine g_aload_n 0 dX9_endsStage_3 rfl ?_
    refine g_getI dX9_endsStage_4 flX9_167 (by decide) rfl hx0 ?_
    refine g_icmp_ge (tgt := 56) dX9_endsStage_7 (by decide) (fun b1 => ?_) (fun b1 => ?_)
    · replace h := ifp b1 h
      cases h
      exact g_sub [0, 1] rfl K
    · replace h := ifn b1 h
      refine g_pc (pc' := 10) rfl ?_
      refine g_aload_n 0 dX9_endsStage_10 rfl ?_
      refine g_getR dX9_endsStage_11 flX9_78 (by decide) rfl hx0 ?_
      refine g_bip dX9_endsStage_14 rfl ?_
      refine g_aload_n 0 dX9_endsStage_16 rfl ?_
      refine g_getI dX9_endsStage_17 flX9_248 (by decide) rfl hx0 ?_
      obtain ⟨c2, h⟩ := chk_some h
      refine g_imul dX9_endsStage_20 rfl c2 ?_
      refine g_iload_n 2 dX9_endsStage_21 rfl ?_
      obtain ⟨c3, h⟩ := chk_some h
      refine g_iadd dX9_endsStage_22 rfl c3 ?_
      refine g_pc (pc' := 23) rfl ?_
      refine g_aload_n 0 dX9_endsStage_23 rfl ?_
      refine g_getR dX9_endsStage_24 flX9_74 (by decide) rfl hx0 ?_
      refine g_iload_n 2 dX9_endsStage_27 rfl ?_
      obtain ⟨c4, h⟩ := chk_some h
      refine g_lald dX9_endsStage_28 (sf_8_28 hx0) c4.1 c4.2 ?_
      obtain ⟨c5, h⟩ := chk_some h
      refine g_last dX9_endsStage_29 (sf_8_33 hx0) c5.1 c5.2 ?_
      refine g_nmM (fun M6 eM6 => ?_)
      replace h := nm_s eM6 h
      refine g_aload_n 0 dX9_endsStage_30 rfl ?_
      refine g_getR dX9_endsStage_31 flX9_93 (by decide) rfl hx0 ?_
      refine g_bip dX9_endsStage_34 rfl ?_
      refine g_aload_n 0 dX9_endsStage_36 rfl ?_
      refine g_pc (pc' := 37) rfl ?_
      refine g_getI dX9_endsStage_37 flX9_248 (by decide) rfl hx0 ?_
      obtain ⟨c7, h⟩ := chk_some h
      refine g_imul dX9_endsStage_40 rfl c7 ?_
      refine g_iload_n 2 dX9_endsStage_41 rfl ?_
      obtain ⟨c8, h⟩ := chk_some h
      refine g_iadd dX9_endsStage_42 rfl c8 ?_
      refine g_aload_n 0 dX9_endsStage_43 rfl ?_
      refine g_getR dX9_endsStage_44 flX9_65 (by decide) rfl hx0 ?_
      refine g_iload_n 2 dX9_endsStage_47 rfl ?_
      obtain ⟨c9, h⟩ := chk_some h
      refine g_iald dX9_endsStage_48 (sf_8_25 hx0) c9.1 c9.2 ?_
      obtain ⟨c10, h⟩ := chk_some h
      refine g_iast dX9_endsStage_49 (sf_8_38 hx0) c10.1 c10.2 ?_
      refine g_nmM (fun M11 eM11 => ?_)
      replace h := nm_s eM11 h
      refine g_pc (pc' := 50) rfl ?_
      obtain ⟨c12, h⟩ := chk_some h
      refine g_iinc (ls' := [(2, XI (x2 + 1)), (0, XR x0), (1, XI x1)]) 2 dX9_endsStage_50 rfl rfl c12 (by decide) rfl ?_
      refine g_goto (tgt := 2) dX9_endsStage_53 (by decide) ?_
      exact g_sub [1, 2, 0] rfl (ih _ _ _ h K)
set_option maxHeartbeats 8000000 in
set_option maxRecDepth 20000 in
theorem kX9_endsStage {X : XC} {d : Nat} {x0 : Nat} {x1 : Int} (hx0 : Sh x0 = (18, 69)) {M : Mem} {q : Int × Mem} (h : fX9_endsStage x0 x1 M = some q) : Ct X mX9_endsStage (d + 3) [XR x0, XI x1] M (pV q) := by
  unfold fX9_endsStage at h
  refine ct_go (by decide +kernel) (Nat.le_of_ble_eq_true rfl) (ls := [(0, XR x0), (1, XI x1)]) rfl ?_
  refine g_iconst (v := 0) dX9_endsStage_0 rfl (i32l rfl) ?_
  refine g_istore_n (ls' := [(2, XI 0), (0, XR x0), (1, XI x1)]) dX9_endsStage_1 (by decide) rfl ?_
  obtain ⟨z13, hz13, h⟩ := bnd_some h
  refine g_sub (ls' := [(0, XR x0), (1, XI x1), (2, XI 0)]) [1, 2, 0] rfl ?_
  refine lX9_endsStage_l2 hx0 1000 _ _ _ hz13 ?_
  refine g_aload_n 0 dX9_endsStage_56 rfl ?_
  refine g_getR dX9_endsStage_57 flX9_81 (by decide) rfl hx0 ?_
  refine g_aload_n 0 dX9_endsStage_60 rfl ?_
  refine g_getI dX9_endsStage_61 flX9_248 (by decide) rfl hx0 ?_
  refine g_aload_n 0 dX9_endsStage_64 rfl ?_
  refine g_getJ dX9_endsStage_65 flX9_242 (by decide) rfl hx0 ?_
  obtain ⟨c14, h⟩ := chk_some h
  refine g_last dX9_endsStage_68 (sf_8_34 hx0) c14.1 c14.2 ?_
  refine g_nmM (fun M15 eM15 => ?_)
  replace h := nm_s eM15 h
  refine g_aload_n 0 dX9_endsStage_69 rfl ?_
  refine g_pc (pc' := 70) rfl ?_
  refine g_getR dX9_endsStage_70 flX9_84 (by decide) rfl hx0 ?_
  refine g_aload_n 0 dX9_endsStage_73 rfl ?_
  refine g_getI dX9_endsStage_74 flX9_248 (by decide) rfl hx0 ?_
  refine g_aload_n 0 dX9_endsStage_77 rfl ?_
  refine g_getJ dX9_endsStage_78 flX9_235 (by decide) rfl hx0 ?_
  obtain ⟨c16, h⟩ := chk_some h
  refine g_last dX9_endsStage_81 (sf_8_35 hx0) c16.1 c16.2 ?_
  refine g_nmM (fun M17 eM17 => ?_)
  replace h := nm_s eM17 h
  refine g_aload_n 0 dX9_endsStage_82 rfl ?_
  refine g_getR dX9_endsStage_83 flX9_87 (by decide) rfl hx0 ?_
  refine g_aload_n 0 dX9_endsStage_86 rfl ?_
  refine g_pc (pc' := 87) rfl ?_
  refine g_getI dX9_endsStage_87 flX9_248 (by decide) rfl hx0 ?_
  refine g_aload_n 0 dX9_endsStage_90 rfl ?_
  refine g_getJ dX9_endsStage_91 flX9_260 (by decide) rfl hx0 ?_
  obtain ⟨c18, h⟩ := chk_some h
  refine g_last dX9_endsStage_94 (sf_8_36 hx0) c18.1 c18.2 ?_
  refine g_nmM (fun M19 eM19 => ?_)
  replace h := nm_s eM19 h
  refine g_aload_n 0 dX9_endsStage_95 rfl ?_
  refine g_getR dX9_endsStage_96 flX9_90 (by decide) rfl hx0 ?_
  refine g_aload_n 0 dX9_endsStage_99 rfl ?_
  refine g_getI dX9_endsStage_100 flX9_248 (by decide) rfl hx0 ?_
  refine g_aload_n 0 dX9_endsStage_103 rfl ?_
  refine g_pc (pc' := 104) rfl ?_
  refine g_getJ dX9_endsStage_104 flX9_239 (by decide) rfl hx0 ?_
  obtain ⟨c20, h⟩ := chk_some h
  refine g_last dX9_endsStage_107 (sf_8_37 hx0) c20.1 c20.2 ?_
  refine g_nmM (fun M21 eM21 => ?_)
  replace h := nm_s eM21 h
  refine g_aload_n 0 dX9_endsStage_108 rfl ?_
  refine g_getR dX9_endsStage_109 flX9_96 (by decide) rfl hx0 ?_
  refine g_aload_n 0 dX9_endsStage_112 rfl ?_
  refine g_getI dX9_endsStage_113 flX9_248 (by decide) rfl hx0 ?_
  refine g_iload_n 1 dX9_endsStage_116 rfl ?_
  obtain ⟨c22, h⟩ := chk_some h
  refine g_iast dX9_endsStage_117 (sf_8_39 hx0) c22.1 c22.2 ?_
  refine g_nmM (fun M23 eM23 => ?_)
  replace h := nm_s eM23 h
  refine g_aload_n 0 dX9_endsStage_118 rfl ?_
  refine g_pc (pc' := 119) rfl ?_
  obtain ⟨q24, hq24, h⟩ := bnd_some h
  refine v_V (ci := 8) (as := []) dX9_endsStage_119 mlX9_282 mdX9_lines mvX9_lines rfl hx0 rfl (Nat.le_of_ble_eq_true rfl) (kX9_lines hx0 hq24) rfl ?_
  cases h
  exact g_return dX9_endsStage_122 rfl ⟨rfl, rfl⟩
set_option maxHeartbeats 8000000 in
set_option maxRecDepth 20000 in
theorem lX9_fills_l11 {X : XC} {d : Nat} {Post : Option XV → Mem → Prop} {x0 : Nat} (hx0 : Sh x0 = (18, 69)) : ∀ (n : Nat) (x1 : Int) (M : Mem) (t0 : Int × Mem), fX9_fills_l11 x0 n x1 M = some t0 → Go X mX9_fills (d + 4) 40 [(0, XR x0)] [] t0.2 Post → Go X mX9_fills (d + 4) 11 [(0, XR x0), (1, XI x1)] [] M Post := by
  intro n
  induction n with
  | zero => intro _ _ _ h; cases h
  | succ n ih =>
    intro x1 M t0 h K
    unfold fX9_fills_l11 at h
    refine g_iload_n 1 dX9_fills_11 rfl ?_
    refine g_aload_n 0 dX9_fills_12 rfl ?_
    refine g_getI dX9_fills_13 flX9_167 (by decide) rfl hx0 ?_
    refine g_icmp_ge (tgt := 40) dX9_fills_16 (by decide) (fun b3 => ?_) (fun b3 => ?_)
    · replace h := ifp b3 h
      cases h
      exact g_sub [0] rfl K
    · replace h := ifn b3 h
      refine g_pc (pc' := 19) rfl ?_
      refine g_aload_n 0 dX9_fills_19 rfl ?_
      refine g_getR dX9_fills_20 flX9_62 (by decide) rfl hx0 ?_
      refine g_iload_n 1 dX9_fills_23 rfl ?_
      obtain ⟨c4, h⟩ := chk_some h
      refine g_iald dX9_fills_24 (sf_8_24 hx0) c4.1 c4.2 ?_
      refine g_iconst (v := 1) dX9_fills_25 rfl (i32l rfl) ?_
      obtain ⟨t7, ht7, h⟩ := bnd_some h
      have Kt7 : Go X mX9_fills (d + 4) 34 [(0, XR x0), (1, XI x1)] [] t7 Post := by
        obtain ⟨c10, h⟩ := chk_some h
        refine g_iinc (ls' := [(1, XI (x1 + 1)), (0, XR x0)]) 1 dX9_fills_34 rfl rfl c10 (by decide) rfl ?_
        refine g_goto (tgt := 11) dX9_fills_37 (by decide) ?_
        exact g_sub [1, 0] rfl (ih _ _ _ h K)
      refine g_icmp_ne (tgt := 34) dX9_fills_26 (by decide) (fun b8 => ?_) (fun b8 => ?_)
      · replace ht7 := ifn b8 ht7
        cases ht7
        exact g_sub [0, 1] rfl Kt7
      · replace ht7 := ifp b8 ht7
        refine g_pc (pc' := 29) rfl ?_
        refine g_aload_n 0 dX9_fills_29 rfl ?_
        refine g_iload_n 1 dX9_fills_30 rfl ?_
        obtain ⟨q9, hq9, ht7⟩ := bnd_some ht7
        refine v_V (ci := 8) (as := [XI x1]) dX9_fills_31 mlX9_263 mdX9_becomesElected mvX9_becomesElected rfl hx0 rfl (Nat.le_of_ble_eq_true rfl) (kX9_becomesElected hx0 hq9) rfl ?_
        cases ht7
        exact g_sub [0, 1] rfl Kt7
set_option maxHeartbeats 8000000 in
set_option maxRecDepth 20000 in
theorem kX9_fills {X : XC} {d : Nat} {x0 : Nat} (hx0 : Sh x0 = (18, 69)) {M : Mem} {q : Int × Mem} (h : fX9_fills x0 M = some q) : Ct X mX9_fills (d + 4) [XR x0] M (pV q) := by
  unfold fX9_fills at h
  refine ct_go (by decide +kernel) (Nat.le_of_ble_eq_true rfl) (ls := [(0, XR x0)]) rfl ?_
  refine g_aload_n 0 dX9_fills_0 rfl ?_
  obtain ⟨q1, hq1, h⟩ := bnd_some h
  refine v_V (ci := 8) (as := []) dX9_fills_1 mlX9_257 mdX9_tellVotes mvX9_tellVotes rfl hx0 rfl (Nat.le_of_ble_eq_true rfl) (kX9_tellVotes hx0 hq1) rfl ?_
  refine g_aload_n 0 dX9_fills_4 rfl ?_
  refine g_lconst (v := 0) dX9_fills_5 rfl (i64l rfl) ?_
  refine g_putJ dX9_fills_6 flX9_260 (by decide) rfl hx0 ?_
  refine g_nmM (fun M2 eM2 => ?_)
  replace h := nm_s eM2 h
  refine g_iconst (v := 0) dX9_fills_9 rfl (i32l rfl) ?_
  refine g_istore_n (ls' := [(1, XI 0), (0, XR x0)]) dX9_fills_10 (by decide) rfl ?_
  obtain ⟨z11, hz11, h⟩ := bnd_some h
  refine g_sub (ls' := [(0, XR x0), (1, XI 0)]) [1, 0] rfl ?_
  refine lX9_fills_l11 hx0 1000 _ _ _ hz11 ?_
  refine g_aload_n 0 dX9_fills_40 rfl ?_
  refine g_iconst (v := 0) dX9_fills_41 rfl (i32l rfl) ?_
  obtain ⟨q12, hq12, h⟩ := bnd_some h
  refine v_V (ci := 8) (as := [XI 0]) dX9_fills_42 mlX9_267 mdX9_endsStage mvX9_endsStage rfl hx0 rfl (Nat.le_of_ble_eq_true rfl) (kX9_endsStage hx0 hq12) rfl ?_
  cases h
  exact g_return dX9_fills_45 rfl ⟨rfl, rfl⟩
set_option maxHeartbeats 8000000 in
set_option maxRecDepth 20000 in
theorem lX9_keepsAnew_l2 {X : XC} {d : Nat} {Post : Option XV → Mem → Prop} {x0 : Nat} (hx0 : Sh x0 = (18, 69)) : ∀ (n : Nat) (x1 : Int) (M : Mem) (t0 : Int × Mem), fX9_keepsAnew_l2 x0 n x1 M = some t0 → Go X mX9_keepsAnew (d + 1) 83 [] [] t0.2 Post → Go X mX9_keepsAnew (d + 1) 2 [(0, XR x0), (1, XI x1)] [] M Post := by
  intro n
  induction n with
  | zero => intro _ _ _ h; cases h
  | succ n ih =>
    intro x1 M t0 h K
    unfold fX9_keepsAnew_l2 at h
    refine g_iload_n 1 dX9_keepsAnew_2 rfl ?_
    refine g_aload_n 0 dX9_keepsAnew_3 rfl ?_
    refine g_getI dX9_keepsAnew_4 flX9_167 (by decide) rfl hx0 ?_
    refine g_icmp_ge (tgt := 83) dX9_keepsAnew_7 (by decide) (fun b1 => ?_) (fun b1 => ?_)
    · replace h := ifp b1 h
      cases h
      exact g_sub [] rfl K
    · replace h := ifn b1 h
      refine g_pc (pc' := 10) rfl ?_
      refine g_aload_n 0 dX9_keepsAnew_10 rfl ?_
      refine g_getR dX9_keepsAnew_11 flX9_62 (by decide) rfl hx0 ?_
      refine g_iload_n 1 dX9_keepsAnew_14 rfl ?_
      obtain ⟨c2, h⟩ := chk_some h
      refine g_iald dX9_keepsAnew_15 (sf_8_24 hx0) c2.1 c2.2 ?_
      refine g_iconst (v := 2) dX9_keepsAnew_16 rfl (i32l rfl) ?_
      obtain ⟨t16, ht16, h⟩ := bnd_some h
      have Kt16 : Go X mX9_keepsAnew (d + 1) 77 [(0, XR x0), (1, XI x1)] [] t16 Post := by
        obtain ⟨c30, h⟩ := chk_some h
        refine g_iinc (ls' := [(1, XI (x1 + 1)), (0, XR x0)]) 1 dX9_keepsAnew_77 rfl rfl c30 (by decide) rfl ?_
        refine g_goto (tgt := 2) dX9_keepsAnew_80 (by decide) ?_
        exact g_sub [1, 0] rfl (ih _ _ _ h K)
      refine g_icmp_ne (tgt := 77) dX9_keepsAnew_17 (by decide) (fun b17 => ?_) (fun b17 => ?_)
      · replace ht16 := ifn b17 ht16
        cases ht16
        exact g_sub [0, 1] rfl Kt16
      · replace ht16 := ifp b17 ht16
        refine g_pc (pc' := 20) rfl ?_
        refine g_aload_n 0 dX9_keepsAnew_20 rfl ?_
        refine g_getR dX9_keepsAnew_21 flX9_74 (by decide) rfl hx0 ?_
        refine g_iload_n 1 dX9_keepsAnew_24 rfl ?_
        obtain ⟨c18, ht16⟩ := chk_some ht16
        refine g_lald dX9_keepsAnew_25 (sf_8_28 hx0) c18.1 c18.2 ?_
        refine g_lconst (v := 0) dX9_keepsAnew_26 rfl (i64l rfl) ?_
        refine g_lcmp_ne (tgt := 34) dX9_keepsAnew_27 dX9_keepsAnew_28 (by decide) (fun b19 => ?_) (fun b19 => ?_)
        · replace ht16 := ifn b19 ht16
          refine g_aload_n 0 dX9_keepsAnew_34 rfl ?_
          refine g_getR dX9_keepsAnew_35 flX9_65 (by decide) rfl hx0 ?_
          refine g_iload_n 1 dX9_keepsAnew_38 rfl ?_
          obtain ⟨c20, ht16⟩ := chk_some ht16
          refine g_iald dX9_keepsAnew_39 (sf_8_25 hx0) c20.1 c20.2 ?_
          refine g_i2l dX9_keepsAnew_40 ?_
          refine g_aload_n 0 dX9_keepsAnew_41 rfl ?_
          refine g_getJ dX9_keepsAnew_42 flX9_242 (by decide) rfl hx0 ?_
          obtain ⟨c21, ht16⟩ := chk_some ht16
          refine g_lmul dX9_keepsAnew_45 rfl c21 ?_
          refine g_pc (pc' := 46) rfl ?_
          refine g_aload_n 0 dX9_keepsAnew_46 rfl ?_
          refine g_getR dX9_keepsAnew_47 flX9_74 (by decide) rfl hx0 ?_
          refine g_iload_n 1 dX9_keepsAnew_50 rfl ?_
          obtain ⟨c22, ht16⟩ := chk_some ht16
          refine g_lald dX9_keepsAnew_51 (sf_8_28 hx0) c22.1 c22.2 ?_
          obtain ⟨c23, ht16⟩ := chk_some ht16
          refine g_ladd dX9_keepsAnew_52 rfl c23 ?_
          refine g_lconst (v := 1) dX9_keepsAnew_53 rfl (i64l rfl) ?_
          obtain ⟨c24, ht16⟩ := chk_some ht16
          refine g_lsub dX9_keepsAnew_54 rfl c24 ?_
          refine g_aload_n 0 dX9_keepsAnew_55 rfl ?_
          refine g_getR dX9_keepsAnew_56 flX9_74 (by decide) rfl hx0 ?_
          refine g_pc (pc' := 59) rfl ?_
          refine g_iload_n 1 dX9_keepsAnew_59 rfl ?_
          obtain ⟨c25, ht16⟩ := chk_some ht16
          refine g_lald dX9_keepsAnew_60 (sf_8_28 hx0) c25.1 c25.2 ?_
          obtain ⟨c26, ht16⟩ := chk_some ht16
          refine g_ldiv dX9_keepsAnew_61 c26.1 c26.2 rfl ?_
          refine g_nmL (fun v27 ev27 => ?_)
          replace ht16 := nm_s ev27 ht16
          refine g_lstore_n (ls' := [(2, XL v27), (0, XR x0), (1, XI x1)]) dX9_keepsAnew_62 (by decide) rfl ?_
          refine g_aload_n 1 dX9_keepsAnew_63 rfl ?_
          refine g_getR dX9_keepsAnew_64 flX9_65 (by decide) rfl hx0 ?_
          refine g_iload_n 2 dX9_keepsAnew_67 rfl ?_
          refine g_ldc2 (v := 1000000) dX9_keepsAnew_68 csX9_200 (by decide +kernel) (i64l rfl) ?_
          refine g_lload_n 0 dX9_keepsAnew_71 rfl ?_
          refine g_pc (pc' := 72) rfl ?_
          refine g_minL dX9_keepsAnew_72 mlX9_270 (Nat.le_of_ble_eq_true rfl) ?_
          refine g_l2i dX9_keepsAnew_75 ?_
          obtain ⟨c28, ht16⟩ := chk_some ht16
          refine g_iast dX9_keepsAnew_76 (sf_8_25 hx0) c28.1 c28.2 ?_
          refine g_nmM (fun M29 eM29 => ?_)
          replace ht16 := nm_s eM29 ht16
          cases ht16
          exact g_sub [1, 2] rfl Kt16
        · replace ht16 := ifp b19 ht16
          refine g_pc (pc' := 31) rfl ?_
          refine g_goto (tgt := 77) dX9_keepsAnew_31 (by decide) ?_
          cases ht16
          exact g_sub [0, 1] rfl Kt16
set_option maxHeartbeats 8000000 in
set_option maxRecDepth 20000 in
theorem kX9_keepsAnew {X : XC} {d : Nat} {x0 : Nat} (hx0 : Sh x0 = (18, 69)) {M : Mem} {q : Int × Mem} (h : fX9_keepsAnew x0 M = some q) : Ct X mX9_keepsAnew (d + 1) [XR x0] M (pV q) := by
  unfold fX9_keepsAnew at h
  refine ct_go (by decide +kernel) (Nat.le_of_ble_eq_true rfl) (ls := [(0, XR x0)]) rfl ?_
  refine g_iconst (v := 0) dX9_keepsAnew_0 rfl (i32l rfl) ?_
  refine g_istore_n (ls' := [(1, XI 0), (0, XR x0)]) dX9_keepsAnew_1 (by decide) rfl ?_
  obtain ⟨z31, hz31, h⟩ := bnd_some h
  refine g_sub (ls' := [(0, XR x0), (1, XI 0)]) [1, 0] rfl ?_
  refine lX9_keepsAnew_l2 hx0 1000 _ _ _ hz31 ?_
  cases h
  exact g_return dX9_keepsAnew_83 rfl ⟨rfl, rfl⟩
set_option maxHeartbeats 8000000 in
set_option maxRecDepth 20000 in
theorem lX9_elects_l18 {X : XC} {d : Nat} {Post : Option XV → Mem → Prop} {x0 : Nat} {x1 : Int} (hx0 : Sh x0 = (18, 69)) : ∀ (n : Nat) (x2 x3 : Int) (M : Mem) (t0 : Int × Int × Mem), fX9_elects_l18 x0 x1 n x2 x3 M = some t0 → Go X mX9_elects (d + 2) 72 [(0, XR x0), (1, XI x1), (2, XI t0.1)] [] t0.2.2 Post → Go X mX9_elects (d + 2) 18 [(0, XR x0), (1, XI x1), (2, XI x2), (3, XI x3)] [] M Post := by
  intro n
  induction n with
  | zero => intro _ _ _ _ h; cases h
  | succ n ih =>
    intro x2 x3 M t0 h K
    unfold fX9_elects_l18 at h
    refine g_iload_n 3 dX9_elects_18 rfl ?_
    refine g_aload_n 0 dX9_elects_19 rfl ?_
    refine g_getI dX9_elects_20 flX9_167 (by decide) rfl hx0 ?_
    refine g_icmp_ge (tgt := 72) dX9_elects_23 (by decide) (fun b3 => ?_) (fun b3 => ?_)
    · replace h := ifp b3 h
      cases h
      exact g_sub [0, 1, 2] rfl K
    · replace h := ifn b3 h
      refine g_pc (pc' := 26) rfl ?_
      refine g_aload_n 0 dX9_elects_26 rfl ?_
      refine g_getR dX9_elects_27 flX9_62 (by decide) rfl hx0 ?_
      refine g_iload_n 3 dX9_elects_30 rfl ?_
      obtain ⟨c4, h⟩ := chk_some h
      refine g_iald dX9_elects_31 (sf_8_24 hx0) c4.1 c4.2 ?_
      refine g_iconst (v := 1) dX9_elects_32 rfl (i32l rfl) ?_
      obtain ⟨t11, ht11, h⟩ := bnd_some h
      have Kt11 : Go X mX9_elects (d + 2) 66 [(0, XR x0), (1, XI x1), (2, XI t11.1), (3, XI x3)] [] t11.2 Post := by
        obtain ⟨c18, h⟩ := chk_some h
        refine g_iinc (ls' := [(3, XI (x3 + 1)), (0, XR x0), (1, XI x1), (2, XI t11.1)]) 3 dX9_elects_66 rfl rfl c18 (by decide) rfl ?_
        refine g_goto (tgt := 18) dX9_elects_69 (by decide) ?_
        exact g_sub [1, 2, 3, 0] rfl (ih _ _ _ _ h K)
      refine g_icmp_ne (tgt := 66) dX9_elects_33 (by decide) (fun b12 => ?_) (fun b12 => ?_)
      · replace ht11 := ifn b12 ht11
        cases ht11
        exact g_sub [0, 1, 2, 3] rfl Kt11
      · replace ht11 := ifp b12 ht11
        refine g_pc (pc' := 36) rfl ?_
        refine g_aload_n 0 dX9_elects_36 rfl ?_
        refine g_getR dX9_elects_37 flX9_74 (by decide) rfl hx0 ?_
        refine g_iload_n 3 dX9_elects_40 rfl ?_
        obtain ⟨c13, ht11⟩ := chk_some ht11
        refine g_lald dX9_elects_41 (sf_8_28 hx0) c13.1 c13.2 ?_
        refine g_aload_n 0 dX9_elects_42 rfl ?_
        refine g_getJ dX9_elects_43 flX9_242 (by decide) rfl hx0 ?_
        refine g_lcmp_lt (tgt := 66) dX9_elects_46 dX9_elects_47 (by decide) (fun b14 => ?_) (fun b14 => ?_)
        · replace ht11 := ifp b14 ht11
          cases ht11
          exact g_sub [0, 1, 2, 3] rfl Kt11
        · replace ht11 := ifn b14 ht11
          refine g_pc (pc' := 50) rfl ?_
          refine g_iload_n 2 dX9_elects_50 rfl ?_
          refine g_iconst (v := -1) dX9_elects_51 rfl (i32l rfl) ?_
          refine g_icmp_eq (tgt := 64) dX9_elects_52 (by decide) (fun b15 => ?_) (fun b15 => ?_)
          · replace ht11 := ifp b15 ht11
            refine g_iload_n 3 dX9_elects_64 rfl ?_
            refine g_istore_n (ls' := [(2, XI x3), (0, XR x0), (1, XI x1), (3, XI x3)]) dX9_elects_65 (by decide) rfl ?_
            cases ht11
            exact g_sub [1, 2, 0, 3] rfl Kt11
          · replace ht11 := ifn b15 ht11
            refine g_pc (pc' := 55) rfl ?_
            refine g_aload_n 0 dX9_elects_55 rfl ?_
            refine g_iload_n 3 dX9_elects_56 rfl ?_
            refine g_iload_n 2 dX9_elects_57 rfl ?_
            obtain ⟨q16, hq16, ht11⟩ := bnd_some ht11
            refine v_I (ci := 8) (as := [XI x3, XI x2]) dX9_elects_58 mlX9_254 mdX9_isAhead mvX9_isAhead rfl hx0 rfl (Nat.le_of_ble_eq_true rfl) (kX9_isAhead hx0 hq16) rfl ?_
            refine g_if_eq (tgt := 66) dX9_elects_61 (by decide) (fun b17 => ?_) (fun b17 => ?_)
            · replace ht11 := ifp b17 ht11
              cases ht11
              exact g_sub [0, 1, 2, 3] rfl Kt11
            · replace ht11 := ifn b17 ht11
              refine g_pc (pc' := 64) rfl ?_
              refine g_iload_n 3 dX9_elects_64 rfl ?_
              refine g_istore_n (ls' := [(2, XI x3), (0, XR x0), (1, XI x1), (3, XI x3)]) dX9_elects_65 (by decide) rfl ?_
              cases ht11
              exact g_sub [1, 2, 0, 3] rfl Kt11
set_option maxHeartbeats 8000000 in
set_option maxRecDepth 20000 in
theorem lX9_elects_l2 {X : XC} {d : Nat} {Post : Option XV → Mem → Prop} {x0 : Nat} (hx0 : Sh x0 = (18, 69)) : ∀ (n : Nat) (x1 : Int) (M : Mem) (z : (Int × Mem) ⊕ (Int × Mem)), fX9_elects_l2 x0 n x1 M = some z → (∀ r, z = .inl r → Post (some (XI r.1)) r.2) → Go X mX9_elects (d + 2) 2 [(0, XR x0), (1, XI x1)] [] M Post := by
  intro n
  induction n with
  | zero => intro _ _ _ h; cases h
  | succ n ih =>
    intro x1 M z h K1
    unfold fX9_elects_l2 at h
    refine g_aload_n 0 dX9_elects_2 rfl ?_
    refine g_iconst (v := 2) dX9_elects_3 rfl (i32l rfl) ?_
    obtain ⟨q1, hq1, h⟩ := bnd_some h
    refine v_I (ci := 8) (as := [XI 2]) dX9_elects_4 mlX9_276 mdX9_many_ mvX9_many_ rfl hx0 rfl (Nat.le_of_ble_eq_true rfl) (kX9_many_ hx0 hq1) rfl ?_
    refine g_aload_n 0 dX9_elects_7 rfl ?_
    refine g_getI dX9_elects_8 flX9_25 (by decide) rfl hx0 ?_
    refine g_icmp_ge (tgt := 89) dX9_elects_11 (by decide) (fun b2 => ?_) (fun b2 => ?_)
    · replace h := ifp b2 h
      refine g_iload_n 1 dX9_elects_89 rfl ?_
      obtain ⟨cz, h⟩ := chk_some h
      cases h
      exact g_zreturn dX9_elects_90 rfl cz (K1 (x1, q1.2) rfl)
    · replace h := ifn b2 h
      refine g_pc (pc' := 14) rfl ?_
      refine g_iconst (v := -1) dX9_elects_14 rfl (i32l rfl) ?_
      refine g_istore_n (ls' := [(2, XI (-1)), (0, XR x0), (1, XI x1)]) dX9_elects_15 (by decide) rfl ?_
      refine g_iconst (v := 0) dX9_elects_16 rfl (i32l rfl) ?_
      refine g_istore_n (ls' := [(3, XI 0), (2, XI (-1)), (0, XR x0), (1, XI x1)]) dX9_elects_17 (by decide) rfl ?_
      obtain ⟨z19, hz19, h⟩ := bnd_some h
      refine g_sub (ls' := [(0, XR x0), (1, XI x1), (2, XI (-1)), (3, XI 0)]) [2, 3, 1, 0] rfl ?_
      refine lX9_elects_l18 hx0 1000 _ _ _ _ hz19 ?_
      refine g_iload_n 2 dX9_elects_72 rfl ?_
      refine g_iconst (v := -1) dX9_elects_73 rfl (i32l rfl) ?_
      refine g_icmp_ne (tgt := 79) dX9_elects_74 (by decide) (fun b20 => ?_) (fun b20 => ?_)
      · replace h := ifn b20 h
        refine g_aload_n 0 dX9_elects_79 rfl ?_
        refine g_iload_n 2 dX9_elects_80 rfl ?_
        obtain ⟨q21, hq21, h⟩ := bnd_some h
        refine v_V (ci := 8) (as := [XI z19.1]) dX9_elects_81 mlX9_263 mdX9_becomesElected mvX9_becomesElected rfl hx0 rfl (Nat.le_of_ble_eq_true rfl) (kX9_becomesElected hx0 hq21) rfl ?_
        refine g_iconst (v := 1) dX9_elects_84 rfl (i32l rfl) ?_
        refine g_istore_n (ls' := [(1, XI 1), (0, XR x0), (2, XI z19.1)]) dX9_elects_85 (by decide) rfl ?_
        refine g_goto (tgt := 2) dX9_elects_86 (by decide) ?_
        exact g_sub [1, 0] rfl (ih _ _ _ h K1)
      · replace h := ifp b20 h
        refine g_pc (pc' := 77) rfl ?_
        refine g_iload_n 1 dX9_elects_77 rfl ?_
        obtain ⟨cz, h⟩ := chk_some h
        cases h
        exact g_zreturn dX9_elects_78 rfl cz (K1 (x1, z19.2.2) rfl)
set_option maxHeartbeats 8000000 in
set_option maxRecDepth 20000 in
theorem kX9_elects {X : XC} {d : Nat} {x0 : Nat} (hx0 : Sh x0 = (18, 69)) {M : Mem} {q : Int × Mem} (h : fX9_elects x0 M = some q) : Ct X mX9_elects (d + 2) [XR x0] M (pI q) := by
  unfold fX9_elects at h
  refine ct_go (by decide +kernel) (Nat.le_of_ble_eq_true rfl) (ls := [(0, XR x0)]) rfl ?_
  refine g_iconst (v := 0) dX9_elects_0 rfl (i32l rfl) ?_
  refine g_istore_n (ls' := [(1, XI 0), (0, XR x0)]) dX9_elects_1 (by decide) rfl ?_
  obtain ⟨z22, hz22, rz22, h⟩ := lr_some h
  refine g_sub (ls' := [(0, XR x0), (1, XI 0)]) [1, 0] rfl ?_
  refine lX9_elects_l2 hx0 1000 _ _ _ hz22 (fun r e => ?_)
  have rz22 := rz22 r e
  subst rz22
  exact ⟨rfl, rfl⟩
set_option maxHeartbeats 8000000 in
set_option maxRecDepth 20000 in
theorem lX9_tellSurplus_l7 {X : XC} {d : Nat} {Post : Option XV → Mem → Prop} {x0 : Nat} (hx0 : Sh x0 = (18, 69)) : ∀ (n : Nat) (x1 : Int) (M : Mem) (t0 : Int × Mem), fX9_tellSurplus_l7 x0 n x1 M = some t0 → Go X mX9_tellSurplus d 65 [] [] t0.2 Post → Go X mX9_tellSurplus d 7 [(0, XR x0), (1, XI x1)] [] M Post := by
  intro n
  induction n with
  | zero => intro _ _ _ h; cases h
  | succ n ih =>
    intro x1 M t0 h K
    unfold fX9_tellSurplus_l7 at h
    refine g_iload_n 1 dX9_tellSurplus_7 rfl ?_
    refine g_aload_n 0 dX9_tellSurplus_8 rfl ?_
    refine g_getI dX9_tellSurplus_9 flX9_167 (by decide) rfl hx0 ?_
    refine g_icmp_ge (tgt := 65) dX9_tellSurplus_12 (by decide) (fun b2 => ?_) (fun b2 => ?_)
    · replace h := ifp b2 h
      cases h
      exact g_sub [] rfl K
    · replace h := ifn b2 h
      refine g_pc (pc' := 15) rfl ?_
      refine g_aload_n 0 dX9_tellSurplus_15 rfl ?_
      refine g_getR dX9_tellSurplus_16 flX9_62 (by decide) rfl hx0 ?_
      refine g_iload_n 1 dX9_tellSurplus_19 rfl ?_
      obtain ⟨c3, h⟩ := chk_some h
      refine g_iald dX9_tellSurplus_20 (sf_8_24 hx0) c3.1 c3.2 ?_
      refine g_iconst (v := 2) dX9_tellSurplus_21 rfl (i32l rfl) ?_
      obtain ⟨t11, ht11, h⟩ := bnd_some h
      have Kt11 : Go X mX9_tellSurplus d 59 [(0, XR x0), (1, XI x1)] [] t11 Post := by
        obtain ⟨c19, h⟩ := chk_some h
        refine g_iinc (ls' := [(1, XI (x1 + 1)), (0, XR x0)]) 1 dX9_tellSurplus_59 rfl rfl c19 (by decide) rfl ?_
        refine g_goto (tgt := 7) dX9_tellSurplus_62 (by decide) ?_
        exact g_sub [1, 0] rfl (ih _ _ _ h K)
      refine g_icmp_ne (tgt := 59) dX9_tellSurplus_22 (by decide) (fun b12 => ?_) (fun b12 => ?_)
      · replace ht11 := ifn b12 ht11
        cases ht11
        exact g_sub [0, 1] rfl Kt11
      · replace ht11 := ifp b12 ht11
        refine g_pc (pc' := 25) rfl ?_
        refine g_aload_n 0 dX9_tellSurplus_25 rfl ?_
        refine g_getR dX9_tellSurplus_26 flX9_74 (by decide) rfl hx0 ?_
        refine g_iload_n 1 dX9_tellSurplus_29 rfl ?_
        obtain ⟨c13, ht11⟩ := chk_some ht11
        refine g_lald dX9_tellSurplus_30 (sf_8_28 hx0) c13.1 c13.2 ?_
        refine g_aload_n 0 dX9_tellSurplus_31 rfl ?_
        refine g_getJ dX9_tellSurplus_32 flX9_242 (by decide) rfl hx0 ?_
        refine g_lcmp_le (tgt := 59) dX9_tellSurplus_35 dX9_tellSurplus_36 (by decide) (fun b14 => ?_) (fun b14 => ?_)
        · replace ht11 := ifp b14 ht11
          cases ht11
          exact g_sub [0, 1] rfl Kt11
        · replace ht11 := ifn b14 ht11
          refine g_pc (pc' := 39) rfl ?_
          refine g_aload_n 0 dX9_tellSurplus_39 rfl ?_
          refine g_dupR dX9_tellSurplus_40 ?_
          refine g_getJ dX9_tellSurplus_41 flX9_260 (by decide) rfl hx0 ?_
          refine g_aload_n 0 dX9_tellSurplus_44 rfl ?_
          refine g_getR dX9_tellSurplus_45 flX9_74 (by decide) rfl hx0 ?_
          refine g_iload_n 1 dX9_tellSurplus_48 rfl ?_
          obtain ⟨c15, ht11⟩ := chk_some ht11
          refine g_lald dX9_tellSurplus_49 (sf_8_28 hx0) c15.1 c15.2 ?_
          refine g_aload_n 0 dX9_tellSurplus_50 rfl ?_
          refine g_pc (pc' := 51) rfl ?_
          refine g_getJ dX9_tellSurplus_51 flX9_242 (by decide) rfl hx0 ?_
          obtain ⟨c16, ht11⟩ := chk_some ht11
          refine g_lsub dX9_tellSurplus_54 rfl c16 ?_
          obtain ⟨c17, ht11⟩ := chk_some ht11
          refine g_ladd dX9_tellSurplus_55 rfl c17 ?_
          refine g_putJ dX9_tellSurplus_56 flX9_260 (by decide) rfl hx0 ?_
          refine g_nmM (fun M18 eM18 => ?_)
          replace ht11 := nm_s eM18 ht11
          cases ht11
          exact g_sub [0, 1] rfl Kt11
set_option maxHeartbeats 8000000 in
set_option maxRecDepth 20000 in
theorem kX9_tellSurplus {X : XC} {d : Nat} {x0 : Nat} (hx0 : Sh x0 = (18, 69)) {M : Mem} {q : Int × Mem} (h : fX9_tellSurplus x0 M = some q) : Ct X mX9_tellSurplus d [XR x0] M (pV q) := by
  unfold fX9_tellSurplus at h
  refine ct_go (by decide +kernel) (Nat.le_of_ble_eq_true rfl) (ls := [(0, XR x0)]) rfl ?_
  refine g_aload_n 0 dX9_tellSurplus_0 rfl ?_
  refine g_lconst (v := 0) dX9_tellSurplus_1 rfl (i64l rfl) ?_
  refine g_putJ dX9_tellSurplus_2 flX9_260 (by decide) rfl hx0 ?_
  refine g_nmM (fun M1 eM1 => ?_)
  replace h := nm_s eM1 h
  refine g_iconst (v := 0) dX9_tellSurplus_5 rfl (i32l rfl) ?_
  refine g_istore_n (ls' := [(1, XI 0), (0, XR x0)]) dX9_tellSurplus_6 (by decide) rfl ?_
  obtain ⟨z20, hz20, h⟩ := bnd_some h
  refine g_sub (ls' := [(0, XR x0), (1, XI 0)]) [1, 0] rfl ?_
  refine lX9_tellSurplus_l7 hx0 1000 _ _ _ hz20 ?_
  cases h
  exact g_return dX9_tellSurplus_65 rfl ⟨rfl, rfl⟩
end
