section
set_option maxHeartbeats 8000000 in
set_option maxRecDepth 20000 in
theorem lX9_judge_l58 {X : XC} {d : Nat} {Post : Option XV → Mem → Prop} {x0 : Nat} {x1 : Int} {x2 : Int} {x3 : Int} (hx0 : Sh x0 = (18, 69)) : ∀ (n : Nat) (x4 : Int) (M : Mem) (z : (Int × Mem) ⊕ (Int × Mem)), fX9_judge_l58 x0 x1 x2 x3 n x4 M = some z → (∀ r, z = .inl r → Post (some (XI r.1)) r.2) → Go X mX9_judge (d + 7) 58 [(0, XR x0), (1, XI x1), (2, XI x2), (3, XI x3), (4, XI x4)] [] M Post := by
  intro n
  induction n with
  | zero => intro _ _ _ h; cases h
  | succ n ih =>
    intro x4 M z h K1
    unfold fX9_judge_l58 at h
    refine g_iload 4 dX9_judge_58 rfl ?_
    refine g_aload_n 0 dX9_judge_60 rfl ?_
    refine g_getI dX9_judge_61 flX9_167 (by decide) rfl hx0 ?_
    refine g_icmp_ge (tgt := 122) dX9_judge_64 (by decide) (fun b10 => ?_) (fun b10 => ?_)
    · replace h := ifp b10 h
      refine g_bip dX9_judge_122 rfl ?_
      cases h
      exact g_ireturn dX9_judge_124 rfl (K1 ((-5), M) rfl)
    · replace h := ifn b10 h
      refine g_pc (pc' := 67) rfl ?_
      refine g_iload_n 3 dX9_judge_67 rfl ?_
      refine g_aload_n 0 dX9_judge_68 rfl ?_
      refine g_getR dX9_judge_69 flX9_156 (by decide) rfl hx0 ?_
      refine g_iload_n 2 dX9_judge_72 rfl ?_
      obtain ⟨c11, h⟩ := chk_some h
      refine g_iald dX9_judge_73 (sf_8_66 hx0) c11.1 c11.2 ?_
      refine g_iload 4 dX9_judge_74 rfl ?_
      obtain ⟨c12, h⟩ := chk_some h
      refine g_isub dX9_judge_76 rfl c12 ?_
      refine g_icmp_lt (tgt := 86) dX9_judge_77 (by decide) (fun b13 => ?_) (fun b13 => ?_)
      · replace h := ifp b13 h
        refine g_aload_n 0 dX9_judge_86 rfl ?_
        refine g_getR dX9_judge_87 flX9_161 (by decide) rfl hx0 ?_
        refine g_iload_n 2 dX9_judge_90 rfl ?_
        obtain ⟨c14, h⟩ := chk_some h
        refine g_aald dX9_judge_91 (sf_8_67 hx0) (by decide) c14.1 c14.2 ?_
        refine g_iload_n 3 dX9_judge_92 rfl ?_
        refine g_iload 4 dX9_judge_93 rfl ?_
        obtain ⟨c15, h⟩ := chk_some h
        refine g_iadd dX9_judge_95 rfl c15 ?_
        obtain ⟨c16, h⟩ := chk_some h
        refine g_lald dX9_judge_96 (sr_6 (sf_8_67 hx0) (tn_lt c14.1 c14.2)) c16.1 c16.2 ?_
        refine g_pc (pc' := 97) rfl ?_
        refine g_aload_n 0 dX9_judge_97 rfl ?_
        refine g_getR dX9_judge_98 flX9_78 (by decide) rfl hx0 ?_
        refine g_bip dX9_judge_101 rfl ?_
        refine g_iload_n 1 dX9_judge_103 rfl ?_
        obtain ⟨c17, h⟩ := chk_some h
        refine g_imul dX9_judge_104 rfl c17 ?_
        refine g_iload 4 dX9_judge_105 rfl ?_
        obtain ⟨c18, h⟩ := chk_some h
        refine g_iadd dX9_judge_107 rfl c18 ?_
        obtain ⟨c19, h⟩ := chk_some h
        refine g_lald dX9_judge_108 (sf_8_33 hx0) c19.1 c19.2 ?_
        refine g_lcmp_eq (tgt := 116) dX9_judge_109 dX9_judge_110 (by decide) (fun b20 => ?_) (fun b20 => ?_)
        · replace h := ifp b20 h
          obtain ⟨c21, h⟩ := chk_some h
          refine g_iinc (ls' := [(4, XI (x4 + 1)), (0, XR x0), (1, XI x1), (2, XI x2), (3, XI x3)]) 4 dX9_judge_116 rfl rfl c21 (by decide) rfl ?_
          refine g_goto (tgt := 58) dX9_judge_119 (by decide) ?_
          exact g_sub [1, 2, 3, 4, 0] rfl (ih _ _ _ h K1)
        · replace h := ifn b20 h
          refine g_pc (pc' := 113) rfl ?_
          refine g_iload 4 dX9_judge_113 rfl ?_
          cases h
          exact g_ireturn dX9_judge_115 rfl (K1 (x4, M) rfl)
      · replace h := ifn b13 h
        refine g_pc (pc' := 80) rfl ?_
        refine g_bip dX9_judge_80 rfl ?_
        refine g_iload 4 dX9_judge_82 rfl ?_
        obtain ⟨c22, h⟩ := chk_some h
        refine g_iadd dX9_judge_84 rfl c22 ?_
        cases h
        exact g_ireturn dX9_judge_85 rfl (K1 ((100 + x4), M) rfl)
set_option maxHeartbeats 8000000 in
set_option maxRecDepth 20000 in
theorem kX9_judge {X : XC} {d : Nat} {x0 : Nat} {x1 : Int} {x2 : Int} {x3 : Int} (hx0 : Sh x0 = (18, 69)) {M : Mem} {q : Int × Mem} (h : fX9_judge x0 x1 x2 x3 M = some q) : Ct X mX9_judge (d + 7) [XR x0, XI x1, XI x2, XI x3] M (pI q) := by
  unfold fX9_judge at h
  refine ct_go (by decide +kernel) (Nat.le_of_ble_eq_true rfl) (ls := [(0, XR x0), (1, XI x1), (2, XI x2), (3, XI x3)]) rfl ?_
  refine g_aload_n 0 dX9_judge_0 rfl ?_
  refine g_iload_n 1 dX9_judge_1 rfl ?_
  obtain ⟨q1, hq1, h⟩ := bnd_some h
  refine v_I (ci := 8) (as := [XI x1]) dX9_judge_2 mlX9_323 mdX9_isStage mvX9_isStage rfl hx0 rfl (Nat.le_of_ble_eq_true rfl) (kX9_isStage hx0 hq1) rfl ?_
  refine g_if_eq (tgt := 15) dX9_judge_5 (by decide) (fun b2 => ?_) (fun b2 => ?_)
  · replace h := ifp b2 h
    refine g_iconst (v := -1) dX9_judge_15 rfl (i32l rfl) ?_
    cases h
    exact g_ireturn dX9_judge_16 rfl ⟨rfl, rfl⟩
  · replace h := ifn b2 h
    refine g_pc (pc' := 8) rfl ?_
    refine g_iload_n 2 dX9_judge_8 rfl ?_
    obtain ⟨q3, hq3, h⟩ := bnd_some h
    refine s_I (as := [XI x2]) dX9_judge_9 mlX9_428 mdX9_isTape msX9_isTape rfl (Nat.le_of_ble_eq_true rfl) (kX9_isTape  hq3) rfl ?_
    refine g_if_ne (tgt := 17) dX9_judge_12 (by decide) (fun b4 => ?_) (fun b4 => ?_)
    · replace h := ifn b4 h
      refine g_aload_n 0 dX9_judge_17 rfl ?_
      refine g_getR dX9_judge_18 flX9_153 (by decide) rfl hx0 ?_
      refine g_iload_n 2 dX9_judge_21 rfl ?_
      obtain ⟨c5, h⟩ := chk_some h
      refine g_iald dX9_judge_22 (sf_8_65 hx0) c5.1 c5.2 ?_
      refine g_if_lt (tgt := 39) dX9_judge_23 (by decide) (fun b6 => ?_) (fun b6 => ?_)
      · replace h := ifp b6 h
        refine g_aload_n 0 dX9_judge_39 rfl ?_
        refine g_getR dX9_judge_40 flX9_153 (by decide) rfl hx0 ?_
        refine g_iload_n 2 dX9_judge_43 rfl ?_
        obtain ⟨c7, h⟩ := chk_some h
        refine g_iald dX9_judge_44 (sf_8_65 hx0) c7.1 c7.2 ?_
        refine g_if_lt (tgt := 52) dX9_judge_45 (by decide) (fun b8 => ?_) (fun b8 => ?_)
        · replace h := ifp b8 h
          refine g_bip dX9_judge_52 rfl ?_
          cases h
          exact g_ireturn dX9_judge_54 rfl ⟨rfl, rfl⟩
        · replace h := ifn b8 h
          refine g_pc (pc' := 48) rfl ?_
          refine g_iload_n 3 dX9_judge_48 rfl ?_
          refine g_if_ge (tgt := 55) dX9_judge_49 (by decide) (fun b9 => ?_) (fun b9 => ?_)
          · replace h := ifp b9 h
            refine g_iconst (v := 0) dX9_judge_55 rfl (i32l rfl) ?_
            refine g_istore (ls' := [(4, XI 0), (0, XR x0), (1, XI x1), (2, XI x2), (3, XI x3)]) dX9_judge_56 (by decide) rfl ?_
            obtain ⟨z23, hz23, rz23, h⟩ := lr_some h
            refine g_sub (ls' := [(0, XR x0), (1, XI x1), (2, XI x2), (3, XI x3), (4, XI 0)]) [1, 2, 3, 4, 0] rfl ?_
            refine lX9_judge_l58 hx0 1000 _ _ _ hz23 (fun r e => ?_)
            have rz23 := rz23 r e
            subst rz23
            exact ⟨rfl, rfl⟩
          · replace h := ifn b9 h
            refine g_pc (pc' := 52) rfl ?_
            refine g_bip dX9_judge_52 rfl ?_
            cases h
            exact g_ireturn dX9_judge_54 rfl ⟨rfl, rfl⟩
      · replace h := ifn b6 h
        refine g_pc (pc' := 26) rfl ?_
        refine g_aload_n 0 dX9_judge_26 rfl ?_
        refine g_getR dX9_judge_27 flX9_153 (by decide) rfl hx0 ?_
        refine g_iload_n 2 dX9_judge_30 rfl ?_
        obtain ⟨c24, h⟩ := chk_some h
        refine g_iald dX9_judge_31 (sf_8_65 hx0) c24.1 c24.2 ?_
        refine g_iconst (v := 3) dX9_judge_32 rfl (i32l rfl) ?_
        refine g_icmp_eq (tgt := 39) dX9_judge_33 (by decide) (fun b25 => ?_) (fun b25 => ?_)
        · replace h := ifp b25 h
          refine g_aload_n 0 dX9_judge_39 rfl ?_
          refine g_getR dX9_judge_40 flX9_153 (by decide) rfl hx0 ?_
          refine g_iload_n 2 dX9_judge_43 rfl ?_
          obtain ⟨c26, h⟩ := chk_some h
          refine g_iald dX9_judge_44 (sf_8_65 hx0) c26.1 c26.2 ?_
          refine g_if_lt (tgt := 52) dX9_judge_45 (by decide) (fun b27 => ?_) (fun b27 => ?_)
          · replace h := ifp b27 h
            refine g_bip dX9_judge_52 rfl ?_
            cases h
            exact g_ireturn dX9_judge_54 rfl ⟨rfl, rfl⟩
          · replace h := ifn b27 h
            refine g_pc (pc' := 48) rfl ?_
            refine g_iload_n 3 dX9_judge_48 rfl ?_
            refine g_if_ge (tgt := 55) dX9_judge_49 (by decide) (fun b28 => ?_) (fun b28 => ?_)
            · replace h := ifp b28 h
              refine g_iconst (v := 0) dX9_judge_55 rfl (i32l rfl) ?_
              refine g_istore (ls' := [(4, XI 0), (0, XR x0), (1, XI x1), (2, XI x2), (3, XI x3)]) dX9_judge_56 (by decide) rfl ?_
              obtain ⟨z29, hz29, rz29, h⟩ := lr_some h
              refine g_sub (ls' := [(0, XR x0), (1, XI x1), (2, XI x2), (3, XI x3), (4, XI 0)]) [1, 2, 3, 4, 0] rfl ?_
              refine lX9_judge_l58 hx0 1000 _ _ _ hz29 (fun r e => ?_)
              have rz29 := rz29 r e
              subst rz29
              exact ⟨rfl, rfl⟩
            · replace h := ifn b28 h
              refine g_pc (pc' := 52) rfl ?_
              refine g_bip dX9_judge_52 rfl ?_
              cases h
              exact g_ireturn dX9_judge_54 rfl ⟨rfl, rfl⟩
        · replace h := ifn b25 h
          refine g_pc (pc' := 36) rfl ?_
          refine g_bip dX9_judge_36 rfl ?_
          cases h
          exact g_ireturn dX9_judge_38 rfl ⟨rfl, rfl⟩
    · replace h := ifp b4 h
      refine g_pc (pc' := 15) rfl ?_
      refine g_iconst (v := -1) dX9_judge_15 rfl (i32l rfl) ?_
      cases h
      exact g_ireturn dX9_judge_16 rfl ⟨rfl, rfl⟩
set_option maxHeartbeats 8000000 in
set_option maxRecDepth 20000 in
theorem kX9_image {X : XC} {d : Nat} {x0 : Nat} (hx0 : Sh x0 = (18, 69)) {M : Mem} {q : Int × Mem} (h : fX9_image x0 M = some q) : Ct X mX9_image (d + 1) [XR x0] M (pI q) := by
  unfold fX9_image at h
  refine ct_go (by decide +kernel) (Nat.le_of_ble_eq_true rfl) (ls := [(0, XR x0)]) rfl ?_
  refine g_aload_n 0 dX9_image_0 rfl ?_
  refine g_iconst (v := 1) dX9_image_1 rfl (i32l rfl) ?_
  refine g_putZ dX9_image_2 flX9_431 (by decide) rfl hx0 (by decide) ?_
  refine g_nmM (fun M1 eM1 => ?_)
  replace h := nm_s eM1 h
  refine g_aload_n 0 dX9_image_5 rfl ?_
  refine g_getR dX9_image_6 flX9_126 (by decide) rfl hx0 ?_
  refine g_iconst (v := 0) dX9_image_9 rfl (i32l rfl) ?_
  refine g_aload_n 0 dX9_image_10 rfl ?_
  refine g_getI dX9_image_11 flX9_167 (by decide) rfl hx0 ?_
  refine g_pc (pc' := 14) rfl ?_
  refine g_iast dX9_image_14 (sf_8_56 hx0) (by decide) (by decide) ?_
  refine g_nmM (fun M2 eM2 => ?_)
  replace h := nm_s eM2 h
  refine g_aload_n 0 dX9_image_15 rfl ?_
  refine g_getR dX9_image_16 flX9_126 (by decide) rfl hx0 ?_
  refine g_iconst (v := 1) dX9_image_19 rfl (i32l rfl) ?_
  refine g_aload_n 0 dX9_image_20 rfl ?_
  refine g_getI dX9_image_21 flX9_174 (by decide) rfl hx0 ?_
  refine g_iast dX9_image_24 (sf_8_56 hx0) (by decide) (by decide) ?_
  refine g_nmM (fun M3 eM3 => ?_)
  replace h := nm_s eM3 h
  refine g_aload_n 0 dX9_image_25 rfl ?_
  refine g_getR dX9_image_26 flX9_126 (by decide) rfl hx0 ?_
  refine g_pc (pc' := 29) rfl ?_
  refine g_iconst (v := 2) dX9_image_29 rfl (i32l rfl) ?_
  refine g_aload_n 0 dX9_image_30 rfl ?_
  refine g_getI dX9_image_31 flX9_25 (by decide) rfl hx0 ?_
  refine g_iast dX9_image_34 (sf_8_56 hx0) (by decide) (by decide) ?_
  refine g_nmM (fun M4 eM4 => ?_)
  replace h := nm_s eM4 h
  refine g_aload_n 0 dX9_image_35 rfl ?_
  refine g_getR dX9_image_36 flX9_126 (by decide) rfl hx0 ?_
  refine g_iconst (v := 3) dX9_image_39 rfl (i32l rfl) ?_
  refine g_aload_n 0 dX9_image_40 rfl ?_
  refine g_getI dX9_image_41 flX9_29 (by decide) rfl hx0 ?_
  refine g_pc (pc' := 44) rfl ?_
  refine g_iast dX9_image_44 (sf_8_56 hx0) (by decide) (by decide) ?_
  refine g_nmM (fun M5 eM5 => ?_)
  replace h := nm_s eM5 h
  refine g_aload_n 0 dX9_image_45 rfl ?_
  refine g_getR dX9_image_46 flX9_126 (by decide) rfl hx0 ?_
  refine g_iconst (v := 4) dX9_image_49 rfl (i32l rfl) ?_
  refine g_aload_n 0 dX9_image_50 rfl ?_
  refine g_getI dX9_image_51 flX9_32 (by decide) rfl hx0 ?_
  refine g_iast dX9_image_54 (sf_8_56 hx0) (by decide) (by decide) ?_
  refine g_nmM (fun M6 eM6 => ?_)
  replace h := nm_s eM6 h
  refine g_aload_n 0 dX9_image_55 rfl ?_
  refine g_getR dX9_image_56 flX9_126 (by decide) rfl hx0 ?_
  refine g_pc (pc' := 59) rfl ?_
  refine g_iconst (v := 5) dX9_image_59 rfl (i32l rfl) ?_
  refine g_aload_n 0 dX9_image_60 rfl ?_
  refine g_getI dX9_image_61 flX9_360 (by decide) rfl hx0 ?_
  refine g_iast dX9_image_64 (sf_8_56 hx0) (by decide) (by decide) ?_
  refine g_nmM (fun M7 eM7 => ?_)
  replace h := nm_s eM7 h
  refine g_aload_n 0 dX9_image_65 rfl ?_
  refine g_getR dX9_image_66 flX9_126 (by decide) rfl hx0 ?_
  refine g_bip dX9_image_69 rfl ?_
  refine g_aload_n 0 dX9_image_71 rfl ?_
  refine g_getI dX9_image_72 flX9_366 (by decide) rfl hx0 ?_
  refine g_pc (pc' := 75) rfl ?_
  refine g_iast dX9_image_75 (sf_8_56 hx0) (by decide) (by decide) ?_
  refine g_nmM (fun M8 eM8 => ?_)
  replace h := nm_s eM8 h
  refine g_aload_n 0 dX9_image_76 rfl ?_
  refine g_getR dX9_image_77 flX9_15 (by decide) rfl hx0 ?_
  refine g_iconst (v := 0) dX9_image_80 rfl (i32l rfl) ?_
  refine g_aload_n 0 dX9_image_81 rfl ?_
  refine g_getR dX9_image_82 flX9_129 (by decide) rfl hx0 ?_
  refine g_iconst (v := 0) dX9_image_85 rfl (i32l rfl) ?_
  refine g_bip dX9_image_86 rfl ?_
  obtain ⟨c9, h⟩ := chk_some h
  refine g_copy dX9_image_88 mlX9_332 (sf_8_3 hx0) (sf_8_57 hx0) (by decide) c9.1 c9.2.1 c9.2.2.1 c9.2.2.2.1 c9.2.2.2.2 (Nat.le_of_ble_eq_true rfl) ?_
  refine g_nmM (fun M10 eM10 => ?_)
  replace h := nm_s eM10 h
  refine g_pc (pc' := 91) rfl ?_
  refine g_aload_n 0 dX9_image_91 rfl ?_
  refine g_getR dX9_image_92 flX9_19 (by decide) rfl hx0 ?_
  refine g_iconst (v := 0) dX9_image_95 rfl (i32l rfl) ?_
  refine g_aload_n 0 dX9_image_96 rfl ?_
  refine g_getR dX9_image_97 flX9_132 (by decide) rfl hx0 ?_
  refine g_iconst (v := 0) dX9_image_100 rfl (i32l rfl) ?_
  refine g_bip dX9_image_101 rfl ?_
  obtain ⟨c11, h⟩ := chk_some h
  refine g_copy dX9_image_103 mlX9_332 (sf_8_4 hx0) (sf_8_58 hx0) (by decide) c11.1 c11.2.1 c11.2.2.1 c11.2.2.2.1 c11.2.2.2.2 (Nat.le_of_ble_eq_true rfl) ?_
  refine g_nmM (fun M12 eM12 => ?_)
  replace h := nm_s eM12 h
  refine g_aload_n 0 dX9_image_106 rfl ?_
  refine g_pc (pc' := 107) rfl ?_
  refine g_getR dX9_image_107 flX9_22 (by decide) rfl hx0 ?_
  refine g_iconst (v := 0) dX9_image_110 rfl (i32l rfl) ?_
  refine g_aload_n 0 dX9_image_111 rfl ?_
  refine g_getR dX9_image_112 flX9_135 (by decide) rfl hx0 ?_
  refine g_iconst (v := 0) dX9_image_115 rfl (i32l rfl) ?_
  refine g_bip dX9_image_116 rfl ?_
  obtain ⟨c13, h⟩ := chk_some h
  refine g_copy dX9_image_118 mlX9_332 (sf_8_5 hx0) (sf_8_59 hx0) (by decide) c13.1 c13.2.1 c13.2.2.1 c13.2.2.2.1 c13.2.2.2.2 (Nat.le_of_ble_eq_true rfl) ?_
  refine g_nmM (fun M14 eM14 => ?_)
  replace h := nm_s eM14 h
  refine g_aload_n 0 dX9_image_121 rfl ?_
  refine g_getR dX9_image_122 flX9_35 (by decide) rfl hx0 ?_
  refine g_pc (pc' := 125) rfl ?_
  refine g_iconst (v := 0) dX9_image_125 rfl (i32l rfl) ?_
  refine g_aload_n 0 dX9_image_126 rfl ?_
  refine g_getR dX9_image_127 flX9_138 (by decide) rfl hx0 ?_
  refine g_iconst (v := 0) dX9_image_130 rfl (i32l rfl) ?_
  refine g_iconst (v := 5) dX9_image_131 rfl (i32l rfl) ?_
  obtain ⟨c15, h⟩ := chk_some h
  refine g_copy dX9_image_132 mlX9_332 (sf_8_11 hx0) (sf_8_60 hx0) (by decide) c15.1 c15.2.1 c15.2.2.1 c15.2.2.2.1 c15.2.2.2.2 (Nat.le_of_ble_eq_true rfl) ?_
  refine g_nmM (fun M16 eM16 => ?_)
  replace h := nm_s eM16 h
  refine g_aload_n 0 dX9_image_135 rfl ?_
  refine g_getR dX9_image_136 flX9_38 (by decide) rfl hx0 ?_
  refine g_iconst (v := 0) dX9_image_139 rfl (i32l rfl) ?_
  refine g_pc (pc' := 140) rfl ?_
  refine g_aload_n 0 dX9_image_140 rfl ?_
  refine g_getR dX9_image_141 flX9_141 (by decide) rfl hx0 ?_
  refine g_iconst (v := 0) dX9_image_144 rfl (i32l rfl) ?_
  refine g_bip dX9_image_145 rfl ?_
  obtain ⟨c17, h⟩ := chk_some h
  refine g_copy dX9_image_147 mlX9_332 (sf_8_12 hx0) (sf_8_61 hx0) (by decide) c17.1 c17.2.1 c17.2.2.1 c17.2.2.2.1 c17.2.2.2.2 (Nat.le_of_ble_eq_true rfl) ?_
  refine g_nmM (fun M18 eM18 => ?_)
  replace h := nm_s eM18 h
  refine g_aload_n 0 dX9_image_150 rfl ?_
  refine g_getR dX9_image_151 flX9_41 (by decide) rfl hx0 ?_
  refine g_iconst (v := 0) dX9_image_154 rfl (i32l rfl) ?_
  refine g_aload_n 0 dX9_image_155 rfl ?_
  refine g_pc (pc' := 156) rfl ?_
  refine g_getR dX9_image_156 flX9_144 (by decide) rfl hx0 ?_
  refine g_iconst (v := 0) dX9_image_159 rfl (i32l rfl) ?_
  refine g_bip dX9_image_160 rfl ?_
  obtain ⟨c19, h⟩ := chk_some h
  refine g_copy dX9_image_162 mlX9_332 (sf_8_13 hx0) (sf_8_62 hx0) (by decide) c19.1 c19.2.1 c19.2.2.1 c19.2.2.2.1 c19.2.2.2.2 (Nat.le_of_ble_eq_true rfl) ?_
  refine g_nmM (fun M20 eM20 => ?_)
  replace h := nm_s eM20 h
  refine g_aload_n 0 dX9_image_165 rfl ?_
  refine g_getR dX9_image_166 flX9_11 (by decide) rfl hx0 ?_
  refine g_iconst (v := 0) dX9_image_169 rfl (i32l rfl) ?_
  refine g_aload_n 0 dX9_image_170 rfl ?_
  refine g_getR dX9_image_171 flX9_147 (by decide) rfl hx0 ?_
  refine g_pc (pc' := 174) rfl ?_
  refine g_iconst (v := 0) dX9_image_174 rfl (i32l rfl) ?_
  refine g_bip dX9_image_175 rfl ?_
  obtain ⟨c21, h⟩ := chk_some h
  refine g_copy dX9_image_177 mlX9_332 (sf_8_2 hx0) (sf_8_63 hx0) (by decide) c21.1 c21.2.1 c21.2.2.1 c21.2.2.2.1 c21.2.2.2.2 (Nat.le_of_ble_eq_true rfl) ?_
  refine g_nmM (fun M22 eM22 => ?_)
  replace h := nm_s eM22 h
  refine g_aload_n 0 dX9_image_180 rfl ?_
  refine g_getR dX9_image_181 flX9_44 (by decide) rfl hx0 ?_
  refine g_iconst (v := 0) dX9_image_184 rfl (i32l rfl) ?_
  refine g_aload_n 0 dX9_image_185 rfl ?_
  refine g_getR dX9_image_186 flX9_150 (by decide) rfl hx0 ?_
  refine g_iconst (v := 0) dX9_image_189 rfl (i32l rfl) ?_
  refine g_pc (pc' := 190) rfl ?_
  refine g_iconst (v := 5) dX9_image_190 rfl (i32l rfl) ?_
  obtain ⟨c23, h⟩ := chk_some h
  refine g_copy dX9_image_191 mlX9_332 (sf_8_14 hx0) (sf_8_64 hx0) (by decide) c23.1 c23.2.1 c23.2.2.1 c23.2.2.2.1 c23.2.2.2.2 (Nat.le_of_ble_eq_true rfl) ?_
  refine g_nmM (fun M24 eM24 => ?_)
  replace h := nm_s eM24 h
  refine g_aload_n 0 dX9_image_194 rfl ?_
  refine g_getI dX9_image_195 flX9_174 (by decide) rfl hx0 ?_
  cases h
  exact g_ireturn dX9_image_198 rfl ⟨rfl, rfl⟩
set_option maxHeartbeats 8000000 in
set_option maxRecDepth 20000 in
theorem kX9_undo {X : XC} {d : Nat} {x0 : Nat} (hx0 : Sh x0 = (18, 69)) {M : Mem} {q : Int × Mem} (h : fX9_undo x0 M = some q) : Ct X mX9_undo (d + 1) [XR x0] M (pI q) := by
  unfold fX9_undo at h
  refine ct_go (by decide +kernel) (Nat.le_of_ble_eq_true rfl) (ls := [(0, XR x0)]) rfl ?_
  refine g_aload_n 0 dX9_undo_0 rfl ?_
  refine g_getZ dX9_undo_1 flX9_431 (by decide) rfl hx0 ?_
  refine g_if_ne (tgt := 10) dX9_undo_4 (by decide) (fun b1 => ?_) (fun b1 => ?_)
  · replace h := ifn b1 h
    refine g_aload_n 0 dX9_undo_10 rfl ?_
    refine g_aload_n 0 dX9_undo_11 rfl ?_
    refine g_getR dX9_undo_12 flX9_126 (by decide) rfl hx0 ?_
    refine g_iconst (v := 0) dX9_undo_15 rfl (i32l rfl) ?_
    refine g_iald dX9_undo_16 (sf_8_56 hx0) (by decide) (by decide) ?_
    refine g_putI dX9_undo_17 flX9_167 (by decide) rfl hx0 ?_
    refine g_nmM (fun M2 eM2 => ?_)
    replace h := nm_s eM2 h
    refine g_aload_n 0 dX9_undo_20 rfl ?_
    refine g_aload_n 0 dX9_undo_21 rfl ?_
    refine g_pc (pc' := 22) rfl ?_
    refine g_getR dX9_undo_22 flX9_126 (by decide) rfl hx0 ?_
    refine g_iconst (v := 1) dX9_undo_25 rfl (i32l rfl) ?_
    refine g_iald dX9_undo_26 (sf_8_56 hx0) (by decide) (by decide) ?_
    refine g_putI dX9_undo_27 flX9_174 (by decide) rfl hx0 ?_
    refine g_nmM (fun M3 eM3 => ?_)
    replace h := nm_s eM3 h
    refine g_aload_n 0 dX9_undo_30 rfl ?_
    refine g_aload_n 0 dX9_undo_31 rfl ?_
    refine g_getR dX9_undo_32 flX9_126 (by decide) rfl hx0 ?_
    refine g_iconst (v := 2) dX9_undo_35 rfl (i32l rfl) ?_
    refine g_iald dX9_undo_36 (sf_8_56 hx0) (by decide) (by decide) ?_
    refine g_pc (pc' := 37) rfl ?_
    refine g_putI dX9_undo_37 flX9_25 (by decide) rfl hx0 ?_
    refine g_nmM (fun M4 eM4 => ?_)
    replace h := nm_s eM4 h
    refine g_aload_n 0 dX9_undo_40 rfl ?_
    refine g_aload_n 0 dX9_undo_41 rfl ?_
    refine g_getR dX9_undo_42 flX9_126 (by decide) rfl hx0 ?_
    refine g_iconst (v := 3) dX9_undo_45 rfl (i32l rfl) ?_
    refine g_iald dX9_undo_46 (sf_8_56 hx0) (by decide) (by decide) ?_
    refine g_putI dX9_undo_47 flX9_29 (by decide) rfl hx0 ?_
    refine g_nmM (fun M5 eM5 => ?_)
    replace h := nm_s eM5 h
    refine g_aload_n 0 dX9_undo_50 rfl ?_
    refine g_aload_n 0 dX9_undo_51 rfl ?_
    refine g_pc (pc' := 52) rfl ?_
    refine g_getR dX9_undo_52 flX9_126 (by decide) rfl hx0 ?_
    refine g_iconst (v := 4) dX9_undo_55 rfl (i32l rfl) ?_
    refine g_iald dX9_undo_56 (sf_8_56 hx0) (by decide) (by decide) ?_
    refine g_putI dX9_undo_57 flX9_32 (by decide) rfl hx0 ?_
    refine g_nmM (fun M6 eM6 => ?_)
    replace h := nm_s eM6 h
    refine g_aload_n 0 dX9_undo_60 rfl ?_
    refine g_aload_n 0 dX9_undo_61 rfl ?_
    refine g_getR dX9_undo_62 flX9_126 (by decide) rfl hx0 ?_
    refine g_iconst (v := 5) dX9_undo_65 rfl (i32l rfl) ?_
    refine g_iald dX9_undo_66 (sf_8_56 hx0) (by decide) (by decide) ?_
    refine g_pc (pc' := 67) rfl ?_
    refine g_putI dX9_undo_67 flX9_360 (by decide) rfl hx0 ?_
    refine g_nmM (fun M7 eM7 => ?_)
    replace h := nm_s eM7 h
    refine g_aload_n 0 dX9_undo_70 rfl ?_
    refine g_aload_n 0 dX9_undo_71 rfl ?_
    refine g_getR dX9_undo_72 flX9_126 (by decide) rfl hx0 ?_
    refine g_bip dX9_undo_75 rfl ?_
    refine g_iald dX9_undo_77 (sf_8_56 hx0) (by decide) (by decide) ?_
    refine g_putI dX9_undo_78 flX9_366 (by decide) rfl hx0 ?_
    refine g_nmM (fun M8 eM8 => ?_)
    replace h := nm_s eM8 h
    refine g_aload_n 0 dX9_undo_81 rfl ?_
    refine g_getR dX9_undo_82 flX9_129 (by decide) rfl hx0 ?_
    refine g_pc (pc' := 85) rfl ?_
    refine g_iconst (v := 0) dX9_undo_85 rfl (i32l rfl) ?_
    refine g_aload_n 0 dX9_undo_86 rfl ?_
    refine g_getR dX9_undo_87 flX9_15 (by decide) rfl hx0 ?_
    refine g_iconst (v := 0) dX9_undo_90 rfl (i32l rfl) ?_
    refine g_bip dX9_undo_91 rfl ?_
    obtain ⟨c9, h⟩ := chk_some h
    refine g_copy dX9_undo_93 mlX9_332 (sf_8_57 hx0) (sf_8_3 hx0) (by decide) c9.1 c9.2.1 c9.2.2.1 c9.2.2.2.1 c9.2.2.2.2 (Nat.le_of_ble_eq_true rfl) ?_
    refine g_nmM (fun M10 eM10 => ?_)
    replace h := nm_s eM10 h
    refine g_aload_n 0 dX9_undo_96 rfl ?_
    refine g_getR dX9_undo_97 flX9_132 (by decide) rfl hx0 ?_
    refine g_iconst (v := 0) dX9_undo_100 rfl (i32l rfl) ?_
    refine g_pc (pc' := 101) rfl ?_
    refine g_aload_n 0 dX9_undo_101 rfl ?_
    refine g_getR dX9_undo_102 flX9_19 (by decide) rfl hx0 ?_
    refine g_iconst (v := 0) dX9_undo_105 rfl (i32l rfl) ?_
    refine g_bip dX9_undo_106 rfl ?_
    obtain ⟨c11, h⟩ := chk_some h
    refine g_copy dX9_undo_108 mlX9_332 (sf_8_58 hx0) (sf_8_4 hx0) (by decide) c11.1 c11.2.1 c11.2.2.1 c11.2.2.2.1 c11.2.2.2.2 (Nat.le_of_ble_eq_true rfl) ?_
    refine g_nmM (fun M12 eM12 => ?_)
    replace h := nm_s eM12 h
    refine g_aload_n 0 dX9_undo_111 rfl ?_
    refine g_getR dX9_undo_112 flX9_135 (by decide) rfl hx0 ?_
    refine g_iconst (v := 0) dX9_undo_115 rfl (i32l rfl) ?_
    refine g_aload_n 0 dX9_undo_116 rfl ?_
    refine g_pc (pc' := 117) rfl ?_
    refine g_getR dX9_undo_117 flX9_22 (by decide) rfl hx0 ?_
    refine g_iconst (v := 0) dX9_undo_120 rfl (i32l rfl) ?_
    refine g_bip dX9_undo_121 rfl ?_
    obtain ⟨c13, h⟩ := chk_some h
    refine g_copy dX9_undo_123 mlX9_332 (sf_8_59 hx0) (sf_8_5 hx0) (by decide) c13.1 c13.2.1 c13.2.2.1 c13.2.2.2.1 c13.2.2.2.2 (Nat.le_of_ble_eq_true rfl) ?_
    refine g_nmM (fun M14 eM14 => ?_)
    replace h := nm_s eM14 h
    refine g_aload_n 0 dX9_undo_126 rfl ?_
    refine g_getR dX9_undo_127 flX9_138 (by decide) rfl hx0 ?_
    refine g_iconst (v := 0) dX9_undo_130 rfl (i32l rfl) ?_
    refine g_aload_n 0 dX9_undo_131 rfl ?_
    refine g_getR dX9_undo_132 flX9_35 (by decide) rfl hx0 ?_
    refine g_pc (pc' := 135) rfl ?_
    refine g_iconst (v := 0) dX9_undo_135 rfl (i32l rfl) ?_
    refine g_iconst (v := 5) dX9_undo_136 rfl (i32l rfl) ?_
    obtain ⟨c15, h⟩ := chk_some h
    refine g_copy dX9_undo_137 mlX9_332 (sf_8_60 hx0) (sf_8_11 hx0) (by decide) c15.1 c15.2.1 c15.2.2.1 c15.2.2.2.1 c15.2.2.2.2 (Nat.le_of_ble_eq_true rfl) ?_
    refine g_nmM (fun M16 eM16 => ?_)
    replace h := nm_s eM16 h
    refine g_aload_n 0 dX9_undo_140 rfl ?_
    refine g_getR dX9_undo_141 flX9_141 (by decide) rfl hx0 ?_
    refine g_iconst (v := 0) dX9_undo_144 rfl (i32l rfl) ?_
    refine g_aload_n 0 dX9_undo_145 rfl ?_
    refine g_getR dX9_undo_146 flX9_38 (by decide) rfl hx0 ?_
    refine g_iconst (v := 0) dX9_undo_149 rfl (i32l rfl) ?_
    refine g_pc (pc' := 150) rfl ?_
    refine g_bip dX9_undo_150 rfl ?_
    obtain ⟨c17, h⟩ := chk_some h
    refine g_copy dX9_undo_152 mlX9_332 (sf_8_61 hx0) (sf_8_12 hx0) (by decide) c17.1 c17.2.1 c17.2.2.1 c17.2.2.2.1 c17.2.2.2.2 (Nat.le_of_ble_eq_true rfl) ?_
    refine g_nmM (fun M18 eM18 => ?_)
    replace h := nm_s eM18 h
    refine g_aload_n 0 dX9_undo_155 rfl ?_
    refine g_getR dX9_undo_156 flX9_144 (by decide) rfl hx0 ?_
    refine g_iconst (v := 0) dX9_undo_159 rfl (i32l rfl) ?_
    refine g_aload_n 0 dX9_undo_160 rfl ?_
    refine g_getR dX9_undo_161 flX9_41 (by decide) rfl hx0 ?_
    refine g_iconst (v := 0) dX9_undo_164 rfl (i32l rfl) ?_
    refine g_bip dX9_undo_165 rfl ?_
    refine g_pc (pc' := 167) rfl ?_
    obtain ⟨c19, h⟩ := chk_some h
    refine g_copy dX9_undo_167 mlX9_332 (sf_8_62 hx0) (sf_8_13 hx0) (by decide) c19.1 c19.2.1 c19.2.2.1 c19.2.2.2.1 c19.2.2.2.2 (Nat.le_of_ble_eq_true rfl) ?_
    refine g_nmM (fun M20 eM20 => ?_)
    replace h := nm_s eM20 h
    refine g_aload_n 0 dX9_undo_170 rfl ?_
    refine g_getR dX9_undo_171 flX9_147 (by decide) rfl hx0 ?_
    refine g_iconst (v := 0) dX9_undo_174 rfl (i32l rfl) ?_
    refine g_aload_n 0 dX9_undo_175 rfl ?_
    refine g_getR dX9_undo_176 flX9_11 (by decide) rfl hx0 ?_
    refine g_iconst (v := 0) dX9_undo_179 rfl (i32l rfl) ?_
    refine g_bip dX9_undo_180 rfl ?_
    obtain ⟨c21, h⟩ := chk_some h
    refine g_copy dX9_undo_182 mlX9_332 (sf_8_63 hx0) (sf_8_2 hx0) (by decide) c21.1 c21.2.1 c21.2.2.1 c21.2.2.2.1 c21.2.2.2.2 (Nat.le_of_ble_eq_true rfl) ?_
    refine g_nmM (fun M22 eM22 => ?_)
    replace h := nm_s eM22 h
    refine g_pc (pc' := 185) rfl ?_
    refine g_aload_n 0 dX9_undo_185 rfl ?_
    refine g_getR dX9_undo_186 flX9_150 (by decide) rfl hx0 ?_
    refine g_iconst (v := 0) dX9_undo_189 rfl (i32l rfl) ?_
    refine g_aload_n 0 dX9_undo_190 rfl ?_
    refine g_getR dX9_undo_191 flX9_44 (by decide) rfl hx0 ?_
    refine g_iconst (v := 0) dX9_undo_194 rfl (i32l rfl) ?_
    refine g_iconst (v := 5) dX9_undo_195 rfl (i32l rfl) ?_
    obtain ⟨c23, h⟩ := chk_some h
    refine g_copy dX9_undo_196 mlX9_332 (sf_8_64 hx0) (sf_8_14 hx0) (by decide) c23.1 c23.2.1 c23.2.2.1 c23.2.2.2.1 c23.2.2.2.2 (Nat.le_of_ble_eq_true rfl) ?_
    refine g_nmM (fun M24 eM24 => ?_)
    replace h := nm_s eM24 h
    refine g_aload_n 0 dX9_undo_199 rfl ?_
    refine g_pc (pc' := 200) rfl ?_
    refine g_getI dX9_undo_200 flX9_174 (by decide) rfl hx0 ?_
    cases h
    exact g_ireturn dX9_undo_203 rfl ⟨rfl, rfl⟩
  · replace h := ifp b1 h
    refine g_pc (pc' := 7) rfl ?_
    refine g_bip dX9_undo_7 rfl ?_
    cases h
    exact g_ireturn dX9_undo_9 rfl ⟨rfl, rfl⟩
set_option maxHeartbeats 8000000 in
set_option maxRecDepth 20000 in
theorem kX9_count {X : XC} {d : Nat} {x0 : Nat} {x1 : Int} (hx0 : Sh x0 = (18, 69)) {M : Mem} {q : Int × Mem} (h : fX9_count x0 x1 M = some q) : Ct X mX9_count d [XR x0, XI x1] M (pI q) := by
  unfold fX9_count at h
  refine ct_go (by decide +kernel) (Nat.le_of_ble_eq_true rfl) (ls := [(0, XR x0), (1, XI x1)]) rfl ?_
  refine g_iload_n 1 dX9_count_0 rfl ?_
  obtain ⟨t4, ht4, h⟩ := bnd_some h
  have Kt4 : Go X mX9_count d 37 [] [XI t4] M (pI q) := by
    cases h
    exact g_ireturn dX9_count_37 rfl ⟨rfl, rfl⟩
  refine g_if_ne (tgt := 11) dX9_count_1 (by decide) (fun b5 => ?_) (fun b5 => ?_)
  · replace ht4 := ifn b5 ht4
    refine g_iload_n 1 dX9_count_11 rfl ?_
    refine g_iconst (v := 1) dX9_count_12 rfl (i32l rfl) ?_
    refine g_icmp_ne (tgt := 23) dX9_count_13 (by decide) (fun b6 => ?_) (fun b6 => ?_)
    · replace ht4 := ifn b6 ht4
      refine g_iload_n 1 dX9_count_23 rfl ?_
      refine g_iconst (v := 2) dX9_count_24 rfl (i32l rfl) ?_
      refine g_icmp_ne (tgt := 35) dX9_count_25 (by decide) (fun b7 => ?_) (fun b7 => ?_)
      · replace ht4 := ifn b7 ht4
        refine g_bip dX9_count_35 rfl ?_
        cases ht4
        exact g_sub [] rfl Kt4
      · replace ht4 := ifp b7 ht4
        refine g_pc (pc' := 28) rfl ?_
        refine g_aload_n 0 dX9_count_28 rfl ?_
        refine g_getI dX9_count_29 flX9_374 (by decide) rfl hx0 ?_
        refine g_goto (tgt := 37) dX9_count_32 (by decide) ?_
        cases ht4
        exact g_sub [] rfl Kt4
    · replace ht4 := ifp b6 ht4
      refine g_pc (pc' := 16) rfl ?_
      refine g_aload_n 0 dX9_count_16 rfl ?_
      refine g_getI dX9_count_17 flX9_366 (by decide) rfl hx0 ?_
      refine g_goto (tgt := 37) dX9_count_20 (by decide) ?_
      cases ht4
      exact g_sub [] rfl Kt4
  · replace ht4 := ifp b5 ht4
    refine g_pc (pc' := 4) rfl ?_
    refine g_aload_n 0 dX9_count_4 rfl ?_
    refine g_getI dX9_count_5 flX9_360 (by decide) rfl hx0 ?_
    refine g_goto (tgt := 37) dX9_count_8 (by decide) ?_
    cases ht4
    exact g_sub [] rfl Kt4
end
