section
def fX9_judge_l58 (x0 : Nat) (x1 : Int) (x2 : Int) (x3 : Int) : Nat → Int → Mem → Option ((Int × Mem) ⊕ (Int × Mem))
  | 0, _, _ => none
  | n + 1, x4, M => (if (M x0 0) ≤ x4 then some (.inl ((-5), M)) else if 0 ≤ x2 ∧ x2 < 6 then if -2147483648 ≤ ((M (x0 + 67) (Int.toNat x2)) - x4) ∧ ((M (x0 + 67) (Int.toNat x2)) - x4) ≤ 2147483647 then (if x3 < ((M (x0 + 67) (Int.toNat x2)) - x4) then if 0 ≤ x2 ∧ x2 < 6 then if -2147483648 ≤ (x3 + x4) ∧ (x3 + x4) ≤ 2147483647 then if 0 ≤ (x3 + x4) ∧ (x3 + x4) < 60 then if -2147483648 ≤ (8 * x1) ∧ (8 * x1) ≤ 2147483647 then if -2147483648 ≤ ((8 * x1) + x4) ∧ ((8 * x1) + x4) ≤ 2147483647 then if 0 ≤ ((8 * x1) + x4) ∧ ((8 * x1) + x4) < 72 then (if (M ((x0 + 68) + 36 + 16 * Int.toNat x2) (Int.toNat (x3 + x4))) = (M (x0 + 34) (Int.toNat ((8 * x1) + x4))) then if -2147483648 ≤ (x4 + 1) ∧ (x4 + 1) ≤ 2147483647 then fX9_judge_l58 x0 x1 x2 x3 n (x4 + 1) M else none else some (.inl (x4, M))) else none else none else none else none else none else none else if -2147483648 ≤ (100 + x4) ∧ (100 + x4) ≤ 2147483647 then some (.inl ((100 + x4), M)) else none) else none else none)
def fX9_judge (x0 : Nat) (x1 : Int) (x2 : Int) (x3 : Int) (M : Mem) : Option (Int × Mem) := Option.bind (fX9_isStage x0 x1 M) (fun q1 => (if q1.1 = 0 then some ((-1), q1.2) else Option.bind (fX9_isTape x2 q1.2) (fun q3 => (if q3.1 = 0 then some ((-1), q3.2) else if 0 ≤ x2 ∧ x2 < 6 then (if (q3.2 (x0 + 66) (Int.toNat x2)) < 0 then if 0 ≤ x2 ∧ x2 < 6 then (if (q3.2 (x0 + 66) (Int.toNat x2)) < 0 then some (100, q3.2) else (if 0 ≤ x3 then lr (fX9_judge_l58 x0 x1 x2 x3 1000 0 q3.2) (fun r => r) (fun _ => none) else some (100, q3.2))) else none else if 0 ≤ x2 ∧ x2 < 6 then (if (q3.2 (x0 + 66) (Int.toNat x2)) = 3 then if 0 ≤ x2 ∧ x2 < 6 then (if (q3.2 (x0 + 66) (Int.toNat x2)) < 0 then some (100, q3.2) else (if 0 ≤ x3 then lr (fX9_judge_l58 x0 x1 x2 x3 1000 0 q3.2) (fun r => r) (fun _ => none) else some (100, q3.2))) else none else some ((-12), q3.2)) else none) else none))))
set_option maxRecDepth 20000 in
theorem lX9_judge_l58 {X : XC} {d : Nat} {Post : Option XV → Mem → Prop} {x0 : Nat} {x1 : Int} {x2 : Int} {x3 : Int} (hx0 : Sh x0 = (18, 69)) : ∀ (n : Nat) (x4 : Int) (M : Mem) (z : (Int × Mem) ⊕ (Int × Mem)), fX9_judge_l58 x0 x1 x2 x3 n x4 M = some z → (∀ r, z = .inl r → Post (some (XI r.1)) r.2) → Go X mX9_judge (d + 7) 58 [(0, XR x0), (1, XI x1), (2, XI x2), (3, XI x3), (4, XI x4)] [] M Post := by
  intro n
  induction n with
  | zero => intro _ _ _ h; cases h
  | succ n ih =>
    intro x4 M z h K1
    unfold fX9_judge_l58 at h
    refine g_iload 4 dX9_judge_58 rfl ?_
    refine g_aload_n 0 dX9_judge_60 rfl ?_
    refine g_getI dX9_judge_61 flX9_167 (by decide) rfl hx0 ?_
    refine g_icmp_ge (tgt := 122) dX9_judge_64 (by decide) (fun b10 => ?_) (fun b10 => ?_)
    · replace h := ifp b10 h
      refine g_bip dX9_judge_122 rfl ?_
      cases h
      exact g_ireturn dX9_judge_124 rfl (K1 ((-5), M) rfl)
    · replace h := ifn b10 h
      refine g_pc (pc' := 67) rfl ?_
      refine g_iload_n 3 dX9_judge_67 rfl ?_
      refine g_aload_n 0 dX9_judge_68 rfl ?_
      refine g_getR dX9_judge_69 flX9_156 (by decide) rfl hx0 ?_
      refine g_iload_n 2 dX9_judge_72 rfl ?_
      obtain ⟨c11, h⟩ := chk_some h
      refine g_iald dX9_judge_73 (sf_8_66 hx0) c11.1 c11.2 ?_
      refine g_iload 4 dX9_judge_74 rfl ?_
      obtain ⟨c12, h⟩ := chk_some h
      refine g_isub dX9_judge_76 rfl c12 ?_
      refine g_icmp_lt (tgt := 86) dX9_judge_77 (by decide) (fun b13 => ?_) (fun b13 => ?_)
      · replace h := ifp b13 h
        refine g_aload_n 0 dX9_judge_86 rfl ?_
        refine g_getR dX9_judge_87 flX9_161 (by decide) rfl hx0 ?_
        refine g_iload_n 2 dX9_judge_90 rfl ?_
        obtain ⟨c14, h⟩ := chk_some h
        refine g_aald dX9_judge_91 (sf_8_67 hx0) (by decide) c14.1 c14.2 ?_
        refine g_iload_n 3 dX9_judge_92 rfl ?_
        refine g_iload 4 dX9_judge_93 rfl ?_
        obtain ⟨c15, h⟩ := chk_some h
        refine g_iadd dX9_judge_95 rfl c15 ?_
        obtain ⟨c16, h⟩ := chk_some h
        refine g_lald dX9_judge_96 (sr_6 (sf_8_67 hx0) (tn_lt c14.1 c14.2)) c16.1 c16.2 ?_
        refine g_pc (pc' := 97) rfl ?_
        refine g_aload_n 0 dX9_judge_97 rfl ?_
        refine g_getR dX9_judge_98 flX9_78 (by decide) rfl hx0 ?_
        refine g_bip dX9_judge_101 rfl ?_
        refine g_iload_n 1 dX9_judge_103 rfl ?_
        obtain ⟨c17, h⟩ := chk_some h
        refine g_imul dX9_judge_104 rfl c17 ?_
        refine g_iload 4 dX9_judge_105 rfl ?_
        obtain ⟨c18, h⟩ := chk_some h
        refine g_iadd dX9_judge_107 rfl c18 ?_
        obtain ⟨c19, h⟩ := chk_some h
        refine g_lald dX9_judge_108 (sf_8_33 hx0) c19.1 c19.2 ?_
        refine g_lcmp_eq (tgt := 116) dX9_judge_109 dX9_judge_110 (by decide) (fun b20 => ?_) (fun b20 => ?_)
        · replace h := ifp b20 h
          obtain ⟨c21, h⟩ := chk_some h
          refine g_iinc (ls' := [(4, XI (x4 + 1)), (0, XR x0), (1, XI x1), (2, XI x2), (3, XI x3)]) 4 dX9_judge_116 rfl rfl c21 (by decide) rfl ?_
          refine g_goto (tgt := 58) dX9_judge_119 (by decide) ?_
          exact g_sub [1, 2, 3, 4, 0] rfl (ih _ _ _ h K1)
        · replace h := ifn b20 h
          refine g_pc (pc' := 113) rfl ?_
          refine g_iload 4 dX9_judge_113 rfl ?_
          cases h
          exact g_ireturn dX9_judge_115 rfl (K1 (x4, M) rfl)
      · replace h := ifn b13 h
        refine g_pc (pc' := 80) rfl ?_
        refine g_bip dX9_judge_80 rfl ?_
        refine g_iload 4 dX9_judge_82 rfl ?_
        obtain ⟨c22, h⟩ := chk_some h
        refine g_iadd dX9_judge_84 rfl c22 ?_
        cases h
        exact g_ireturn dX9_judge_85 rfl (K1 ((100 + x4), M) rfl)
set_option maxRecDepth 20000 in
theorem kX9_judge {X : XC} {d : Nat} {x0 : Nat} {x1 : Int} {x2 : Int} {x3 : Int} (hx0 : Sh x0 = (18, 69)) {M : Mem} {q : Int × Mem} (h : fX9_judge x0 x1 x2 x3 M = some q) : Ct X mX9_judge (d + 7) [XR x0, XI x1, XI x2, XI x3] M (pI q) := by
  unfold fX9_judge at h
  refine ct_go (by decide +kernel) (Nat.le_of_ble_eq_true rfl) (ls := [(0, XR x0), (1, XI x1), (2, XI x2), (3, XI x3)]) rfl ?_
  refine g_aload_n 0 dX9_judge_0 rfl ?_
  refine g_iload_n 1 dX9_judge_1 rfl ?_
  obtain ⟨q1, hq1, h⟩ := bnd_some h
  refine v_I (ci := 8) (as := [XI x1]) dX9_judge_2 mlX9_323 mdX9_isStage mvX9_isStage rfl hx0 rfl (Nat.le_of_ble_eq_true rfl) (kX9_isStage hx0 hq1) rfl ?_
  refine g_if_eq (tgt := 15) dX9_judge_5 (by decide) (fun b2 => ?_) (fun b2 => ?_)
  · replace h := ifp b2 h
    refine g_iconst (v := -1) dX9_judge_15 rfl (i32l rfl) ?_
    cases h
    exact g_ireturn dX9_judge_16 rfl ⟨rfl, rfl⟩
  · replace h := ifn b2 h
    refine g_pc (pc' := 8) rfl ?_
    refine g_iload_n 2 dX9_judge_8 rfl ?_
    obtain ⟨q3, hq3, h⟩ := bnd_some h
    refine s_I (as := [XI x2]) dX9_judge_9 mlX9_428 mdX9_isTape msX9_isTape rfl (Nat.le_of_ble_eq_true rfl) (kX9_isTape  hq3) rfl ?_
    refine g_if_ne (tgt := 17) dX9_judge_12 (by decide) (fun b4 => ?_) (fun b4 => ?_)
    · replace h := ifn b4 h
      refine g_aload_n 0 dX9_judge_17 rfl ?_
      refine g_getR dX9_judge_18 flX9_153 (by decide) rfl hx0 ?_
      refine g_iload_n 2 dX9_judge_21 rfl ?_
      obtain ⟨c5, h⟩ := chk_some h
      refine g_iald dX9_judge_22 (sf_8_65 hx0) c5.1 c5.2 ?_
      refine g_if_lt (tgt := 39) dX9_judge_23 (by decide) (fun b6 => ?_) (fun b6 => ?_)
      · replace h := ifp b6 h
        refine g_aload_n 0 dX9_judge_39 rfl ?_
        refine g_getR dX9_judge_40 flX9_153 (by decide) rfl hx0 ?_
        refine g_iload_n 2 dX9_judge_43 rfl ?_
        obtain ⟨c7, h⟩ := chk_some h
        refine g_iald dX9_judge_44 (sf_8_65 hx0) c7.1 c7.2 ?_
        refine g_if_lt (tgt := 52) dX9_judge_45 (by decide) (fun b8 => ?_) (fun b8 => ?_)
        · replace h := ifp b8 h
          refine g_bip dX9_judge_52 rfl ?_
          cases h
          exact g_ireturn dX9_judge_54 rfl ⟨rfl, rfl⟩
        · replace h := ifn b8 h
          refine g_pc (pc' := 48) rfl ?_
          refine g_iload_n 3 dX9_judge_48 rfl ?_
          refine g_if_ge (tgt := 55) dX9_judge_49 (by decide) (fun b9 => ?_) (fun b9 => ?_)
          · replace h := ifp b9 h
            refine g_iconst (v := 0) dX9_judge_55 rfl (i32l rfl) ?_
            refine g_istore (ls' := [(4, XI 0), (0, XR x0), (1, XI x1), (2, XI x2), (3, XI x3)]) dX9_judge_56 (by decide) rfl ?_
            obtain ⟨z23, hz23, rz23, h⟩ := lr_some h
            refine g_sub (ls' := [(0, XR x0), (1, XI x1), (2, XI x2), (3, XI x3), (4, XI 0)]) [1, 2, 3, 4, 0] rfl ?_
            refine lX9_judge_l58 hx0 1000 _ _ _ hz23 (fun r e => ?_)
            have rz23 := rz23 r e
            subst rz23
            exact ⟨rfl, rfl⟩
          · replace h := ifn b9 h
            refine g_pc (pc' := 52) rfl ?_
            refine g_bip dX9_judge_52 rfl ?_
            cases h
            exact g_ireturn dX9_judge_54 rfl ⟨rfl, rfl⟩
      · replace h := ifn b6 h
        refine g_pc (pc' := 26) rfl ?_
        refine g_aload_n 0 dX9_judge_26 rfl ?_
        refine g_getR dX9_judge_27 flX9_153 (by decide) rfl hx0 ?_
        refine g_iload_n 2 dX9_judge_30 rfl ?_
        obtain ⟨c24, h⟩ := chk_some h
        refine g_iald dX9_judge_31 (sf_8_65 hx0) c24.1 c24.2 ?_
        refine g_iconst (v := 3) dX9_judge_32 rfl (i32l rfl) ?_
        refine g_icmp_eq (tgt := 39) dX9_judge_33 (by decide) (fun b25 => ?_) (fun b25 => ?_)
        · replace h := ifp b25 h
          refine g_aload_n 0 dX9_judge_39 rfl ?_
          refine g_getR dX9_judge_40 flX9_153 (by decide) rfl hx0 ?_
          refine g_iload_n 2 dX9_judge_43 rfl ?_
          obtain ⟨c26, h⟩ := chk_some h
          refine g_iald dX9_judge_44 (sf_8_65 hx0) c26.1 c26.2 ?_
          refine g_if_lt (tgt := 52) dX9_judge_45 (by decide) (fun b27 => ?_) (fun b27 => ?_)
          · replace h := ifp b27 h
            refine g_bip dX9_judge_52 rfl ?_
            cases h
            exact g_ireturn dX9_judge_54 rfl ⟨rfl, rfl⟩
          · replace h := ifn b27 h
            refine g_pc (pc' := 48) rfl ?_
            refine g_iload_n 3 dX9_judge_48 rfl ?_
            refine g_if_ge (tgt := 55) dX9_judge_49 (by decide) (fun b28 => ?_) (fun b28 => ?_)
            · replace h := ifp b28 h
              refine g_iconst (v := 0) dX9_judge_55 rfl (i32l rfl) ?_
              refine g_istore (ls' := [(4, XI 0), (0, XR x0), (1, XI x1), (2, XI x2), (3, XI x3)]) dX9_judge_56 (by decide) rfl ?_
              obtain ⟨z29, hz29, rz29, h⟩ := lr_some h
              refine g_sub (ls' := [(0, XR x0), (1, XI x1), (2, XI x2), (3, XI x3), (4, XI 0)]) [1, 2, 3, 4, 0] rfl ?_
              refine lX9_judge_l58 hx0 1000 _ _ _ hz29 (fun r e => ?_)
              have rz29 := rz29 r e
              subst rz29
              exact ⟨rfl, rfl⟩
            · replace h := ifn b28 h
              refine g_pc (pc' := 52) rfl ?_
              refine g_bip dX9_judge_52 rfl ?_
              cases h
              exact g_ireturn dX9_judge_54 rfl ⟨rfl, rfl⟩
        · replace h := ifn b25 h
          refine g_pc (pc' := 36) rfl ?_
          refine g_bip dX9_judge_36 rfl ?_
          cases h
          exact g_ireturn dX9_judge_38 rfl ⟨rfl, rfl⟩
    · replace h := ifp b4 h
      refine g_pc (pc' := 15) rfl ?_
      refine g_iconst (v := -1) dX9_judge_15 rfl (i32l rfl) ?_
      cases h
      exact g_ireturn dX9_judge_16 rfl ⟨rfl, rfl⟩
def fX9_image (x0 : Nat) (M : Mem) : Option (Int × Mem) := nm (wr M x0 55 1) (fun M1 => nm (wr M1 (x0 + 57) (Int.toNat 0) (M1 x0 0)) (fun M2 => nm (wr M2 (x0 + 57) (Int.toNat 1) (M2 x0 1)) (fun M3 => nm (wr M3 (x0 + 57) (Int.toNat 2) (M3 x0 6)) (fun M4 => nm (wr M4 (x0 + 57) (Int.toNat 3) (M4 x0 7)) (fun M5 => nm (wr M5 (x0 + 57) (Int.toNat 4) (M5 x0 8)) (fun M6 => nm (wr M6 (x0 + 57) (Int.toNat 5) (M6 x0 9)) (fun M7 => nm (wr M7 (x0 + 57) (Int.toNat 6) (M7 x0 10)) (fun M8 => if 0 ≤ 0 ∧ 0 ≤ 0 ∧ 0 ≤ 8 ∧ 0 + 8 ≤ 8 ∧ 0 + 8 ≤ 8 then nm (cpM M8 (x0 + 4) (Int.toNat 0) (x0 + 58) (Int.toNat 0) (Int.toNat 8)) (fun M10 => if 0 ≤ 0 ∧ 0 ≤ 0 ∧ 0 ≤ 24 ∧ 0 + 24 ≤ 25 ∧ 0 + 24 ≤ 25 then nm (cpM M10 (x0 + 5) (Int.toNat 0) (x0 + 59) (Int.toNat 0) (Int.toNat 24)) (fun M12 => if 0 ≤ 0 ∧ 0 ≤ 0 ∧ 0 ≤ 24 ∧ 0 + 24 ≤ 25 ∧ 0 + 24 ≤ 25 then nm (cpM M12 (x0 + 6) (Int.toNat 0) (x0 + 60) (Int.toNat 0) (Int.toNat 24)) (fun M14 => if 0 ≤ 0 ∧ 0 ≤ 0 ∧ 0 ≤ 5 ∧ 0 + 5 ≤ 5 ∧ 0 + 5 ≤ 5 then nm (cpM M14 (x0 + 12) (Int.toNat 0) (x0 + 61) (Int.toNat 0) (Int.toNat 5)) (fun M16 => if 0 ≤ 0 ∧ 0 ≤ 0 ∧ 0 ≤ 8 ∧ 0 + 8 ≤ 8 ∧ 0 + 8 ≤ 8 then nm (cpM M16 (x0 + 13) (Int.toNat 0) (x0 + 62) (Int.toNat 0) (Int.toNat 8)) (fun M18 => if 0 ≤ 0 ∧ 0 ≤ 0 ∧ 0 ≤ 8 ∧ 0 + 8 ≤ 8 ∧ 0 + 8 ≤ 8 then nm (cpM M18 (x0 + 14) (Int.toNat 0) (x0 + 63) (Int.toNat 0) (Int.toNat 8)) (fun M20 => if 0 ≤ 0 ∧ 0 ≤ 0 ∧ 0 ≤ 8 ∧ 0 + 8 ≤ 8 ∧ 0 + 8 ≤ 8 then nm (cpM M20 (x0 + 3) (Int.toNat 0) (x0 + 64) (Int.toNat 0) (Int.toNat 8)) (fun M22 => if 0 ≤ 0 ∧ 0 ≤ 0 ∧ 0 ≤ 5 ∧ 0 + 5 ≤ 5 ∧ 0 + 5 ≤ 5 then nm (cpM M22 (x0 + 15) (Int.toNat 0) (x0 + 65) (Int.toNat 0) (Int.toNat 5)) (fun M24 => some ((M24 x0 1), M24)) else none) else none) else none) else none) else none) else none) else none) else none))))))))
set_option maxRecDepth 20000 in
theorem kX9_image {X : XC} {d : Nat} {x0 : Nat} (hx0 : Sh x0 = (18, 69)) {M : Mem} {q : Int × Mem} (h : fX9_image x0 M = some q) : Ct X mX9_image (d + 1) [XR x0] M (pI q) := by
  unfold fX9_image at h
  refine ct_go (by decide +kernel) (Nat.le_of_ble_eq_true rfl) (ls := [(0, XR x0)]) rfl ?_
  refine g_aload_n 0 dX9_image_0 rfl ?_
  refine g_iconst (v := 1) dX9_image_1 rfl (i32l rfl) ?_
  refine g_putZ dX9_image_2 flX9_431 (by decide) rfl hx0 (by decide) ?_
  refine g_nmM (fun M1 eM1 => ?_)
  replace h := nm_s eM1 h
  refine g_aload_n 0 dX9_image_5 rfl ?_
  refine g_getR dX9_image_6 flX9_126 (by decide) rfl hx0 ?_
  refine g_iconst (v := 0) dX9_image_9 rfl (i32l rfl) ?_
  refine g_aload_n 0 dX9_image_10 rfl ?_
  refine g_getI dX9_image_11 flX9_167 (by decide) rfl hx0 ?_
  refine g_pc (pc' := 14) rfl ?_
  refine g_iast dX9_image_14 (sf_8_56 hx0) (by decide) (by decide) ?_
  refine g_nmM (fun M2 eM2 => ?_)
  replace h := nm_s eM2 h
  refine g_aload_n 0 dX9_image_15 rfl ?_
  refine g_getR dX9_image_16 flX9_126 (by decide) rfl hx0 ?_
  refine g_iconst (v := 1) dX9_image_19 rfl (i32l rfl) ?_
  refine g_aload_n 0 dX9_image_20 rfl ?_
  refine g_getI dX9_image_21 flX9_174 (by decide) rfl hx0 ?_
  refine g_iast dX9_image_24 (sf_8_56 hx0) (by decide) (by decide) ?_
  refine g_nmM (fun M3 eM3 => ?_)
  replace h := nm_s eM3 h
  refine g_aload_n 0 dX9_image_25 rfl ?_
  refine g_getR dX9_image_26 flX9_126 (by decide) rfl hx0 ?_
  refine g_pc (pc' := 29) rfl ?_
  refine g_iconst (v := 2) dX9_image_29 rfl (i32l rfl) ?_
  refine g_aload_n 0 dX9_image_30 rfl ?_
  refine g_getI dX9_image_31 flX9_25 (by decide) rfl hx0 ?_
  refine g_iast dX9_image_34 (sf_8_56 hx0) (by decide) (by decide) ?_
  refine g_nmM (fun M4 eM4 => ?_)
  replace h := nm_s eM4 h
  refine g_aload_n 0 dX9_image_35 rfl ?_
  refine g_getR dX9_image_36 flX9_126 (by decide) rfl hx0 ?_
  refine g_iconst (v := 3) dX9_image_39 rfl (i32l rfl) ?_
  refine g_aload_n 0 dX9_image_40 rfl ?_
  refine g_getI dX9_image_41 flX9_29 (by decide) rfl hx0 ?_
  refine g_pc (pc' := 44) rfl ?_
  refine g_iast dX9_image_44 (sf_8_56 hx0) (by decide) (by decide) ?_
  refine g_nmM (fun M5 eM5 => ?_)
  replace h := nm_s eM5 h
  refine g_aload_n 0 dX9_image_45 rfl ?_
  refine g_getR dX9_image_46 flX9_126 (by decide) rfl hx0 ?_
  refine g_iconst (v := 4) dX9_image_49 rfl (i32l rfl) ?_
  refine g_aload_n 0 dX9_image_50 rfl ?_
  refine g_getI dX9_image_51 flX9_32 (by decide) rfl hx0 ?_
  refine g_iast dX9_image_54 (sf_8_56 hx0) (by decide) (by decide) ?_
  refine g_nmM (fun M6 eM6 => ?_)
  replace h := nm_s eM6 h
  refine g_aload_n 0 dX9_image_55 rfl ?_
  refine g_getR dX9_image_56 flX9_126 (by decide) rfl hx0 ?_
  refine g_pc (pc' := 59) rfl ?_
  refine g_iconst (v := 5) dX9_image_59 rfl (i32l rfl) ?_
  refine g_aload_n 0 dX9_image_60 rfl ?_
  refine g_getI dX9_image_61 flX9_360 (by decide) rfl hx0 ?_
  refine g_iast dX9_image_64 (sf_8_56 hx0) (by decide) (by decide) ?_
  refine g_nmM (fun M7 eM7 => ?_)
  replace h := nm_s eM7 h
  refine g_aload_n 0 dX9_image_65 rfl ?_
  refine g_getR dX9_image_66 flX9_126 (by decide) rfl hx0 ?_
  refine g_bip dX9_image_69 rfl ?_
  refine g_aload_n 0 dX9_image_71 rfl ?_
  refine g_getI dX9_image_72 flX9_366 (by decide) rfl hx0 ?_
  refine g_pc (pc' := 75) rfl ?_
  refine g_iast dX9_image_75 (sf_8_56 hx0) (by decide) (by decide) ?_
  refine g_nmM (fun M8 eM8 => ?_)
  replace h := nm_s eM8 h
  refine g_aload_n 0 dX9_image_76 rfl ?_
  refine g_getR dX9_image_77 flX9_15 (by decide) rfl hx0 ?_
  refine g_iconst (v := 0) dX9_image_80 rfl (i32l rfl) ?_
  refine g_aload_n 0 dX9_image_81 rfl ?_
  refine g_getR dX9_image_82 flX9_129 (by decide) rfl hx0 ?_
  refine g_iconst (v := 0) dX9_image_85 rfl (i32l rfl) ?_
  refine g_bip dX9_image_86 rfl ?_
  obtain ⟨c9, h⟩ := chk_some h
  refine g_copy dX9_image_88 mlX9_332 (sf_8_3 hx0) (sf_8_57 hx0) (by decide) c9.1 c9.2.1 c9.2.2.1 c9.2.2.2.1 c9.2.2.2.2 (Nat.le_of_ble_eq_true rfl) ?_
  refine g_nmM (fun M10 eM10 => ?_)
  replace h := nm_s eM10 h
  refine g_pc (pc' := 91) rfl ?_
  refine g_aload_n 0 dX9_image_91 rfl ?_
  refine g_getR dX9_image_92 flX9_19 (by decide) rfl hx0 ?_
  refine g_iconst (v := 0) dX9_image_95 rfl (i32l rfl) ?_
  refine g_aload_n 0 dX9_image_96 rfl ?_
  refine g_getR dX9_image_97 flX9_132 (by decide) rfl hx0 ?_
  refine g_iconst (v := 0) dX9_image_100 rfl (i32l rfl) ?_
  refine g_bip dX9_image_101 rfl ?_
  obtain ⟨c11, h⟩ := chk_some h
  refine g_copy dX9_image_103 mlX9_332 (sf_8_4 hx0) (sf_8_58 hx0) (by decide) c11.1 c11.2.1 c11.2.2.1 c11.2.2.2.1 c11.2.2.2.2 (Nat.le_of_ble_eq_true rfl) ?_
  refine g_nmM (fun M12 eM12 => ?_)
  replace h := nm_s eM12 h
  refine g_aload_n 0 dX9_image_106 rfl ?_
  refine g_pc (pc' := 107) rfl ?_
  refine g_getR dX9_image_107 flX9_22 (by decide) rfl hx0 ?_
  refine g_iconst (v := 0) dX9_image_110 rfl (i32l rfl) ?_
  refine g_aload_n 0 dX9_image_111 rfl ?_
  refine g_getR dX9_image_112 flX9_135 (by decide) rfl hx0 ?_
  refine g_iconst (v := 0) dX9_image_115 rfl (i32l rfl) ?_
  refine g_bip dX9_image_116 rfl ?_
  obtain ⟨c13, h⟩ := chk_some h
  refine g_copy dX9_image_118 mlX9_332 (sf_8_5 hx0) (sf_8_59 hx0) (by decide) c13.1 c13.2.1 c13.2.2.1 c13.2.2.2.1 c13.2.2.2.2 (Nat.le_of_ble_eq_true rfl) ?_
  refine g_nmM (fun M14 eM14 => ?_)
  replace h := nm_s eM14 h
  refine g_aload_n 0 dX9_image_121 rfl ?_
  refine g_getR dX9_image_122 flX9_35 (by decide) rfl hx0 ?_
  refine g_pc (pc' := 125) rfl ?_
  refine g_iconst (v := 0) dX9_image_125 rfl (i32l rfl) ?_
  refine g_aload_n 0 dX9_image_126 rfl ?_
  refine g_getR dX9_image_127 flX9_138 (by decide) rfl hx0 ?_
  refine g_iconst (v := 0) dX9_image_130 rfl (i32l rfl) ?_
  refine g_iconst (v := 5) dX9_image_131 rfl (i32l rfl) ?_
  obtain ⟨c15, h⟩ := chk_some h
  refine g_copy dX9_image_132 mlX9_332 (sf_8_11 hx0) (sf_8_60 hx0) (by decide) c15.1 c15.2.1 c15.2.2.1 c15.2.2.2.1 c15.2.2.2.2 (Nat.le_of_ble_eq_true rfl) ?_
  refine g_nmM (fun M16 eM16 => ?_)
  replace h := nm_s eM16 h
  refine g_aload_n 0 dX9_image_135 rfl ?_
  refine g_getR dX9_image_136 flX9_38 (by decide) rfl hx0 ?_
  refine g_iconst (v := 0) dX9_image_139 rfl (i32l rfl) ?_
  refine g_pc (pc' := 140) rfl ?_
  refine g_aload_n 0 dX9_image_140 rfl ?_
  refine g_getR dX9_image_141 flX9_141 (by decide) rfl hx0 ?_
  refine g_iconst (v := 0) dX9_image_144 rfl (i32l rfl) ?_
  refine g_bip dX9_image_145 rfl ?_
  obtain ⟨c17, h⟩ := chk_some h
  refine g_copy dX9_image_147 mlX9_332 (sf_8_12 hx0) (sf_8_61 hx0) (by decide) c17.1 c17.2.1 c17.2.2.1 c17.2.2.2.1 c17.2.2.2.2 (Nat.le_of_ble_eq_true rfl) ?_
  refine g_nmM (fun M18 eM18 => ?_)
  replace h := nm_s eM18 h
  refine g_aload_n 0 dX9_image_150 rfl ?_
  refine g_getR dX9_image_151 flX9_41 (by decide) rfl hx0 ?_
  refine g_iconst (v := 0) dX9_image_154 rfl (i32l rfl) ?_
  refine g_aload_n 0 dX9_image_155 rfl ?_
  refine g_pc (pc' := 156) rfl ?_
  refine g_getR dX9_image_156 flX9_144 (by decide) rfl hx0 ?_
  refine g_iconst (v := 0) dX9_image_159 rfl (i32l rfl) ?_
  refine g_bip dX9_image_160 rfl ?_
  obtain ⟨c19, h⟩ := chk_some h
  refine g_copy dX9_image_162 mlX9_332 (sf_8_13 hx0) (sf_8_62 hx0) (by decide) c19.1 c19.2.1 c19.2.2.1 c19.2.2.2.1 c19.2.2.2.2 (Nat.le_of_ble_eq_true rfl) ?_
  refine g_nmM (fun M20 eM20 => ?_)
  replace h := nm_s eM20 h
  refine g_aload_n 0 dX9_image_165 rfl ?_
  refine g_getR dX9_image_166 flX9_11 (by decide) rfl hx0 ?_
  refine g_iconst (v := 0) dX9_image_169 rfl (i32l rfl) ?_
  refine g_aload_n 0 dX9_image_170 rfl ?_
  refine g_getR dX9_image_171 flX9_147 (by decide) rfl hx0 ?_
  refine g_pc (pc' := 174) rfl ?_
  refine g_iconst (v := 0) dX9_image_174 rfl (i32l rfl) ?_
  refine g_bip dX9_image_175 rfl ?_
  obtain ⟨c21, h⟩ := chk_some h
  refine g_copy dX9_image_177 mlX9_332 (sf_8_2 hx0) (sf_8_63 hx0) (by decide) c21.1 c21.2.1 c21.2.2.1 c21.2.2.2.1 c21.2.2.2.2 (Nat.le_of_ble_eq_true rfl) ?_
  refine g_nmM (fun M22 eM22 => ?_)
  replace h := nm_s eM22 h
  refine g_aload_n 0 dX9_image_180 rfl ?_
  refine g_getR dX9_image_181 flX9_44 (by decide) rfl hx0 ?_
  refine g_iconst (v := 0) dX9_image_184 rfl (i32l rfl) ?_
  refine g_aload_n 0 dX9_image_185 rfl ?_
  refine g_getR dX9_image_186 flX9_150 (by decide) rfl hx0 ?_
  refine g_iconst (v := 0) dX9_image_189 rfl (i32l rfl) ?_
  refine g_pc (pc' := 190) rfl ?_
  refine g_iconst (v := 5) dX9_image_190 rfl (i32l rfl) ?_
  obtain ⟨c23, h⟩ := chk_some h
  refine g_copy dX9_image_191 mlX9_332 (sf_8_14 hx0) (sf_8_64 hx0) (by decide) c23.1 c23.2.1 c23.2.2.1 c23.2.2.2.1 c23.2.2.2.2 (Nat.le_of_ble_eq_true rfl) ?_
  refine g_nmM (fun M24 eM24 => ?_)
  replace h := nm_s eM24 h
  refine g_aload_n 0 dX9_image_194 rfl ?_
  refine g_getI dX9_image_195 flX9_174 (by decide) rfl hx0 ?_
  cases h
  exact g_ireturn dX9_image_198 rfl ⟨rfl, rfl⟩
def fX9_undo (x0 : Nat) (M : Mem) : Option (Int × Mem) := (if (M x0 55) = 0 then some ((-3), M) else nm (wr M x0 0 (M (x0 + 57) (Int.toNat 0))) (fun M2 => nm (wr M2 x0 1 (M2 (x0 + 57) (Int.toNat 1))) (fun M3 => nm (wr M3 x0 6 (M3 (x0 + 57) (Int.toNat 2))) (fun M4 => nm (wr M4 x0 7 (M4 (x0 + 57) (Int.toNat 3))) (fun M5 => nm (wr M5 x0 8 (M5 (x0 + 57) (Int.toNat 4))) (fun M6 => nm (wr M6 x0 9 (M6 (x0 + 57) (Int.toNat 5))) (fun M7 => nm (wr M7 x0 10 (M7 (x0 + 57) (Int.toNat 6))) (fun M8 => if 0 ≤ 0 ∧ 0 ≤ 0 ∧ 0 ≤ 8 ∧ 0 + 8 ≤ 8 ∧ 0 + 8 ≤ 8 then nm (cpM M8 (x0 + 58) (Int.toNat 0) (x0 + 4) (Int.toNat 0) (Int.toNat 8)) (fun M10 => if 0 ≤ 0 ∧ 0 ≤ 0 ∧ 0 ≤ 24 ∧ 0 + 24 ≤ 25 ∧ 0 + 24 ≤ 25 then nm (cpM M10 (x0 + 59) (Int.toNat 0) (x0 + 5) (Int.toNat 0) (Int.toNat 24)) (fun M12 => if 0 ≤ 0 ∧ 0 ≤ 0 ∧ 0 ≤ 24 ∧ 0 + 24 ≤ 25 ∧ 0 + 24 ≤ 25 then nm (cpM M12 (x0 + 60) (Int.toNat 0) (x0 + 6) (Int.toNat 0) (Int.toNat 24)) (fun M14 => if 0 ≤ 0 ∧ 0 ≤ 0 ∧ 0 ≤ 5 ∧ 0 + 5 ≤ 5 ∧ 0 + 5 ≤ 5 then nm (cpM M14 (x0 + 61) (Int.toNat 0) (x0 + 12) (Int.toNat 0) (Int.toNat 5)) (fun M16 => if 0 ≤ 0 ∧ 0 ≤ 0 ∧ 0 ≤ 8 ∧ 0 + 8 ≤ 8 ∧ 0 + 8 ≤ 8 then nm (cpM M16 (x0 + 62) (Int.toNat 0) (x0 + 13) (Int.toNat 0) (Int.toNat 8)) (fun M18 => if 0 ≤ 0 ∧ 0 ≤ 0 ∧ 0 ≤ 8 ∧ 0 + 8 ≤ 8 ∧ 0 + 8 ≤ 8 then nm (cpM M18 (x0 + 63) (Int.toNat 0) (x0 + 14) (Int.toNat 0) (Int.toNat 8)) (fun M20 => if 0 ≤ 0 ∧ 0 ≤ 0 ∧ 0 ≤ 8 ∧ 0 + 8 ≤ 8 ∧ 0 + 8 ≤ 8 then nm (cpM M20 (x0 + 64) (Int.toNat 0) (x0 + 3) (Int.toNat 0) (Int.toNat 8)) (fun M22 => if 0 ≤ 0 ∧ 0 ≤ 0 ∧ 0 ≤ 5 ∧ 0 + 5 ≤ 5 ∧ 0 + 5 ≤ 5 then nm (cpM M22 (x0 + 65) (Int.toNat 0) (x0 + 15) (Int.toNat 0) (Int.toNat 5)) (fun M24 => some ((M24 x0 1), M24)) else none) else none) else none) else none) else none) else none) else none) else none))))))))
set_option maxRecDepth 20000 in
theorem kX9_undo {X : XC} {d : Nat} {x0 : Nat} (hx0 : Sh x0 = (18, 69)) {M : Mem} {q : Int × Mem} (h : fX9_undo x0 M = some q) : Ct X mX9_undo (d + 1) [XR x0] M (pI q) := by
  unfold fX9_undo at h
  refine ct_go (by decide +kernel) (Nat.le_of_ble_eq_true rfl) (ls := [(0, XR x0)]) rfl ?_
  refine g_aload_n 0 dX9_undo_0 rfl ?_
  refine g_getZ dX9_undo_1 flX9_431 (by decide) rfl hx0 ?_
  refine g_if_ne (tgt := 10) dX9_undo_4 (by decide) (fun b1 => ?_) (fun b1 => ?_)
  · replace h := ifn b1 h
    refine g_aload_n 0 dX9_undo_10 rfl ?_
    refine g_aload_n 0 dX9_undo_11 rfl ?_
    refine g_getR dX9_undo_12 flX9_126 (by decide) rfl hx0 ?_
    refine g_iconst (v := 0) dX9_undo_15 rfl (i32l rfl) ?_
    refine g_iald dX9_undo_16 (sf_8_56 hx0) (by decide) (by decide) ?_
    refine g_putI dX9_undo_17 flX9_167 (by decide) rfl hx0 ?_
    refine g_nmM (fun M2 eM2 => ?_)
    replace h := nm_s eM2 h
    refine g_aload_n 0 dX9_undo_20 rfl ?_
    refine g_aload_n 0 dX9_undo_21 rfl ?_
    refine g_pc (pc' := 22) rfl ?_
    refine g_getR dX9_undo_22 flX9_126 (by decide) rfl hx0 ?_
    refine g_iconst (v := 1) dX9_undo_25 rfl (i32l rfl) ?_
    refine g_iald dX9_undo_26 (sf_8_56 hx0) (by decide) (by decide) ?_
    refine g_putI dX9_undo_27 flX9_174 (by decide) rfl hx0 ?_
    refine g_nmM (fun M3 eM3 => ?_)
    replace h := nm_s eM3 h
    refine g_aload_n 0 dX9_undo_30 rfl ?_
    refine g_aload_n 0 dX9_undo_31 rfl ?_
    refine g_getR dX9_undo_32 flX9_126 (by decide) rfl hx0 ?_
    refine g_iconst (v := 2) dX9_undo_35 rfl (i32l rfl) ?_
    refine g_iald dX9_undo_36 (sf_8_56 hx0) (by decide) (by decide) ?_
    refine g_pc (pc' := 37) rfl ?_
    refine g_putI dX9_undo_37 flX9_25 (by decide) rfl hx0 ?_
    refine g_nmM (fun M4 eM4 => ?_)
    replace h := nm_s eM4 h
    refine g_aload_n 0 dX9_undo_40 rfl ?_
    refine g_aload_n 0 dX9_undo_41 rfl ?_
    refine g_getR dX9_undo_42 flX9_126 (by decide) rfl hx0 ?_
    refine g_iconst (v := 3) dX9_undo_45 rfl (i32l rfl) ?_
    refine g_iald dX9_undo_46 (sf_8_56 hx0) (by decide) (by decide) ?_
    refine g_putI dX9_undo_47 flX9_29 (by decide) rfl hx0 ?_
    refine g_nmM (fun M5 eM5 => ?_)
    replace h := nm_s eM5 h
    refine g_aload_n 0 dX9_undo_50 rfl ?_
    refine g_aload_n 0 dX9_undo_51 rfl ?_
    refine g_pc (pc' := 52) rfl ?_
    refine g_getR dX9_undo_52 flX9_126 (by decide) rfl hx0 ?_
    refine g_iconst (v := 4) dX9_undo_55 rfl (i32l rfl) ?_
    refine g_iald dX9_undo_56 (sf_8_56 hx0) (by decide) (by decide) ?_
    refine g_putI dX9_undo_57 flX9_32 (by decide) rfl hx0 ?_
    refine g_nmM (fun M6 eM6 => ?_)
    replace h := nm_s eM6 h
    refine g_aload_n 0 dX9_undo_60 rfl ?_
    refine g_aload_n 0 dX9_undo_61 rfl ?_
    refine g_getR dX9_undo_62 flX9_126 (by decide) rfl hx0 ?_
    refine g_iconst (v := 5) dX9_undo_65 rfl (i32l rfl) ?_
    refine g_iald dX9_undo_66 (sf_8_56 hx0) (by decide) (by decide) ?_
    refine g_pc (pc' := 67) rfl ?_
    refine g_putI dX9_undo_67 flX9_360 (by decide) rfl hx0 ?_
    refine g_nmM (fun M7 eM7 => ?_)
    replace h := nm_s eM7 h
    refine g_aload_n 0 dX9_undo_70 rfl ?_
    refine g_aload_n 0 dX9_undo_71 rfl ?_
    refine g_getR dX9_undo_72 flX9_126 (by decide) rfl hx0 ?_
    refine g_bip dX9_undo_75 rfl ?_
    refine g_iald dX9_undo_77 (sf_8_56 hx0) (by decide) (by decide) ?_
    refine g_putI dX9_undo_78 flX9_366 (by decide) rfl hx0 ?_
    refine g_nmM (fun M8 eM8 => ?_)
    replace h := nm_s eM8 h
    refine g_aload_n 0 dX9_undo_81 rfl ?_
    refine g_getR dX9_undo_82 flX9_129 (by decide) rfl hx0 ?_
    refine g_pc (pc' := 85) rfl ?_
    refine g_iconst (v := 0) dX9_undo_85 rfl (i32l rfl) ?_
    refine g_aload_n 0 dX9_undo_86 rfl ?_
    refine g_getR dX9_undo_87 flX9_15 (by decide) rfl hx0 ?_
    refine g_iconst (v := 0) dX9_undo_90 rfl (i32l rfl) ?_
    refine g_bip dX9_undo_91 rfl ?_
    obtain ⟨c9, h⟩ := chk_some h
    refine g_copy dX9_undo_93 mlX9_332 (sf_8_57 hx0) (sf_8_3 hx0) (by decide) c9.1 c9.2.1 c9.2.2.1 c9.2.2.2.1 c9.2.2.2.2 (Nat.le_of_ble_eq_true rfl) ?_
    refine g_nmM (fun M10 eM10 => ?_)
    replace h := nm_s eM10 h
    refine g_aload_n 0 dX9_undo_96 rfl ?_
    refine g_getR dX9_undo_97 flX9_132 (by decide) rfl hx0 ?_
    refine g_iconst (v := 0) dX9_undo_100 rfl (i32l rfl) ?_
    refine g_pc (pc' := 101) rfl ?_
    refine g_aload_n 0 dX9_undo_101 rfl ?_
    refine g_getR dX9_undo_102 flX9_19 (by decide) rfl hx0 ?_
    refine g_iconst (v := 0) dX9_undo_105 rfl (i32l rfl) ?_
    refine g_bip dX9_undo_106 rfl ?_
    obtain ⟨c11, h⟩ := chk_some h
    refine g_copy dX9_undo_108 mlX9_332 (sf_8_58 hx0) (sf_8_4 hx0) (by decide) c11.1 c11.2.1 c11.2.2.1 c11.2.2.2.1 c11.2.2.2.2 (Nat.le_of_ble_eq_true rfl) ?_
    refine g_nmM (fun M12 eM12 => ?_)
    replace h := nm_s eM12 h
    refine g_aload_n 0 dX9_undo_111 rfl ?_
    refine g_getR dX9_undo_112 flX9_135 (by decide) rfl hx0 ?_
    refine g_iconst (v := 0) dX9_undo_115 rfl (i32l rfl) ?_
    refine g_aload_n 0 dX9_undo_116 rfl ?_
    refine g_pc (pc' := 117) rfl ?_
    refine g_getR dX9_undo_117 flX9_22 (by decide) rfl hx0 ?_
    refine g_iconst (v := 0) dX9_undo_120 rfl (i32l rfl) ?_
    refine g_bip dX9_undo_121 rfl ?_
    obtain ⟨c13, h⟩ := chk_some h
    refine g_copy dX9_undo_123 mlX9_332 (sf_8_59 hx0) (sf_8_5 hx0) (by decide) c13.1 c13.2.1 c13.2.2.1 c13.2.2.2.1 c13.2.2.2.2 (Nat.le_of_ble_eq_true rfl) ?_
    refine g_nmM (fun M14 eM14 => ?_)
    replace h := nm_s eM14 h
    refine g_aload_n 0 dX9_undo_126 rfl ?_
    refine g_getR dX9_undo_127 flX9_138 (by decide) rfl hx0 ?_
    refine g_iconst (v := 0) dX9_undo_130 rfl (i32l rfl) ?_
    refine g_aload_n 0 dX9_undo_131 rfl ?_
    refine g_getR dX9_undo_132 flX9_35 (by decide) rfl hx0 ?_
    refine g_pc (pc' := 135) rfl ?_
    refine g_iconst (v := 0) dX9_undo_135 rfl (i32l rfl) ?_
    refine g_iconst (v := 5) dX9_undo_136 rfl (i32l rfl) ?_
    obtain ⟨c15, h⟩ := chk_some h
    refine g_copy dX9_undo_137 mlX9_332 (sf_8_60 hx0) (sf_8_11 hx0) (by decide) c15.1 c15.2.1 c15.2.2.1 c15.2.2.2.1 c15.2.2.2.2 (Nat.le_of_ble_eq_true rfl) ?_
    refine g_nmM (fun M16 eM16 => ?_)
    replace h := nm_s eM16 h
    refine g_aload_n 0 dX9_undo_140 rfl ?_
    refine g_getR dX9_undo_141 flX9_141 (by decide) rfl hx0 ?_
    refine g_iconst (v := 0) dX9_undo_144 rfl (i32l rfl) ?_
    refine g_aload_n 0 dX9_undo_145 rfl ?_
    refine g_getR dX9_undo_146 flX9_38 (by decide) rfl hx0 ?_
    refine g_iconst (v := 0) dX9_undo_149 rfl (i32l rfl) ?_
    refine g_pc (pc' := 150) rfl ?_
    refine g_bip dX9_undo_150 rfl ?_
    obtain ⟨c17, h⟩ := chk_some h
    refine g_copy dX9_undo_152 mlX9_332 (sf_8_61 hx0) (sf_8_12 hx0) (by decide) c17.1 c17.2.1 c17.2.2.1 c17.2.2.2.1 c17.2.2.2.2 (Nat.le_of_ble_eq_true rfl) ?_
    refine g_nmM (fun M18 eM18 => ?_)
    replace h := nm_s eM18 h
    refine g_aload_n 0 dX9_undo_155 rfl ?_
    refine g_getR dX9_undo_156 flX9_144 (by decide) rfl hx0 ?_
    refine g_iconst (v := 0) dX9_undo_159 rfl (i32l rfl) ?_
    refine g_aload_n 0 dX9_undo_160 rfl ?_
    refine g_getR dX9_undo_161 flX9_41 (by decide) rfl hx0 ?_
    refine g_iconst (v := 0) dX9_undo_164 rfl (i32l rfl) ?_
    refine g_bip dX9_undo_165 rfl ?_
    refine g_pc (pc' := 167) rfl ?_
    obtain ⟨c19, h⟩ := chk_some h
    refine g_copy dX9_undo_167 mlX9_332 (sf_8_62 hx0) (sf_8_13 hx0) (by decide) c19.1 c19.2.1 c19.2.2.1 c19.2.2.2.1 c19.2.2.2.2 (Nat.le_of_ble_eq_true rfl) ?_
    refine g_nmM (fun M20 eM20 => ?_)
    replace h := nm_s eM20 h
    refine g_aload_n 0 dX9_undo_170 rfl ?_
    refine g_getR dX9_undo_171 flX9_147 (by decide) rfl hx0 ?_
    refine g_iconst (v := 0) dX9_undo_174 rfl (i32l rfl) ?_
    refine g_aload_n 0 dX9_undo_175 rfl ?_
    refine g_getR dX9_undo_176 flX9_11 (by decide) rfl hx0 ?_
    refine g_iconst (v := 0) dX9_undo_179 rfl (i32l rfl) ?_
    refine g_bip dX9_undo_180 rfl ?_
    obtain ⟨c21, h⟩ := chk_some h
    refine g_copy dX9_undo_182 mlX9_332 (sf_8_63 hx0) (sf_8_2 hx0) (by decide) c21.1 c21.2.1 c21.2.2.1 c21.2.2.2.1 c21.2.2.2.2 (Nat.le_of_ble_eq_true rfl) ?_
    refine g_nmM (fun M22 eM22 => ?_)
    replace h := nm_s eM22 h
    refine g_pc (pc' := 185) rfl ?_
    refine g_aload_n 0 dX9_undo_185 rfl ?_
    refine g_getR dX9_undo_186 flX9_150 (by decide) rfl hx0 ?_
    refine g_iconst (v := 0) dX9_undo_189 rfl (i32l rfl) ?_
    refine g_aload_n 0 dX9_undo_190 rfl ?_
    refine g_getR dX9_undo_191 flX9_44 (by decide) rfl hx0 ?_
    refine g_iconst (v := 0) dX9_undo_194 rfl (i32l rfl) ?_
    refine g_iconst (v := 5) dX9_undo_195 rfl (i32l rfl) ?_
    obtain ⟨c23, h⟩ := chk_some h
    refine g_copy dX9_undo_196 mlX9_332 (sf_8_64 hx0) (sf_8_14 hx0) (by decide) c23.1 c23.2.1 c23.2.2.1 c23.2.2.2.1 c23.2.2.2.2 (Nat.le_of_ble_eq_true rfl) ?_
    refine g_nmM (fun M24 eM24 => ?_)
    replace h := nm_s eM24 h
    refine g_aload_n 0 dX9_undo_199 rfl ?_
    refine g_pc (pc' := 200) rfl ?_
    refine g_getI dX9_undo_200 flX9_174 (by decide) rfl hx0 ?_
    cases h
    exact g_ireturn dX9_undo_203 rfl ⟨rfl, rfl⟩
  · replace h := ifp b1 h
    refine g_pc (pc' := 7) rfl ?_
    refine g_bip dX9_undo_7 rfl ?_
    cases h
    exact g_ireturn dX9_undo_9 rfl ⟨rfl, rfl⟩
def fX9_count (x0 : Nat) (x1 : Int) (M : Mem) : Option (Int × Mem) := Option.bind ((if x1 = 0 then some ((M x0 9)) else (if x1 = 1 then some ((M x0 10)) else (if x1 = 2 then some ((M x0 46)) else some ((-2))))) : Option (Int)) (fun t4 => some (t4, M))
set_option maxRecDepth 20000 in
theorem kX9_count {X : XC} {d : Nat} {x0 : Nat} {x1 : Int} (hx0 : Sh x0 = (18, 69)) {M : Mem} {q : Int × Mem} (h : fX9_count x0 x1 M = some q) : Ct X mX9_count d [XR x0, XI x1] M (pI q) := by
  unfold fX9_count at h
  refine ct_go (by decide +kernel) (Nat.le_of_ble_eq_true rfl) (ls := [(0, XR x0), (1, XI x1)]) rfl ?_
  refine g_iload_n 1 dX9_count_0 rfl ?_
  obtain ⟨t4, ht4, h⟩ := bnd_some h
  have Kt4 : Go X mX9_count d 37 [] [XI t4] M (pI q) := by
    cases h
    exact g_ireturn dX9_count_37 rfl ⟨rfl, rfl⟩
  refine g_if_ne (tgt := 11) dX9_count_1 (by decide) (fun b5 => ?_) (fun b5 => ?_)
  · replace ht4 := ifn b5 ht4
    refine g_iload_n 1 dX9_count_11 rfl ?_
    refine g_iconst (v := 1) dX9_count_12 rfl (i32l rfl) ?_
    refine g_icmp_ne (tgt := 23) dX9_count_13 (by decide) (fun b6 => ?_) (fun b6 => ?_)
    · replace ht4 := ifn b6 ht4
      refine g_iload_n 1 dX9_count_23 rfl ?_
      refine g_iconst (v := 2) dX9_count_24 rfl (i32l rfl) ?_
      refine g_icmp_ne (tgt := 35) dX9_count_25 (by decide) (fun b7 => ?_) (fun b7 => ?_)
      · replace ht4 := ifn b7 ht4
        refine g_bip dX9_count_35 rfl ?_
        cases ht4
        exact g_sub [] rfl Kt4
      · replace ht4 := ifp b7 ht4
        refine g_pc (pc' := 28) rfl ?_
        refine g_aload_n 0 dX9_count_28 rfl ?_
        refine g_getI dX9_count_29 flX9_374 (by decide) rfl hx0 ?_
        refine g_goto (tgt := 37) dX9_count_32 (by decide) ?_
        cases ht4
        exact g_sub [] rfl Kt4
    · replace ht4 := ifp b6 ht4
      refine g_pc (pc' := 16) rfl ?_
      refine g_aload_n 0 dX9_count_16 rfl ?_
      refine g_getI dX9_count_17 flX9_366 (by decide) rfl hx0 ?_
      refine g_goto (tgt := 37) dX9_count_20 (by decide) ?_
      cases ht4
      exact g_sub [] rfl Kt4
  · replace ht4 := ifp b5 ht4
    refine g_pc (pc' := 4) rfl ?_
    refine g_aload_n 0 dX9_count_4 rfl ?_
    refine g_getI dX9_count_5 flX9_360 (by decide) rfl hx0 ?_
    refine g_goto (tgt := 37) dX9_count_8 (by decide) ?_
    cases ht4
    exact g_sub [] rfl Kt4
def fX9_tape_l72 (x0 : Nat) (x1 : Int) : Nat → Int → Mem → Option (Int × Mem)
  | 0, _, _ => none
  | n + 1, x4, M => (if 60 ≤ x4 then some (x4, M) else if 0 ≤ x1 ∧ x1 < 6 then if 0 ≤ x4 ∧ x4 < 60 then nm (wr M ((x0 + 68) + 36 + 16 * Int.toNat x1) (Int.toNat x4) 0) (fun M17 => if -2147483648 ≤ (x4 + 1) ∧ (x4 + 1) ≤ 2147483647 then fX9_tape_l72 x0 x1 n (x4 + 1) M17 else none) else none else none)
def fX9_tape (x0 : Nat) (x1 : Int) (x2 : Int) (x3 : Int) (M : Mem) : Option (Int × Mem) := Option.bind (fX9_isTape x1 M) (fun q1 => (if q1.1 = 0 then some ((-1), q1.2) else Option.bind (fX9_in x2 (-1) 4 q1.2) (fun q3 => (if q3.1 = 0 then some ((-2), q3.2) else (if x2 < 0 then (if x2 < 0 then if 0 ≤ x1 ∧ x1 < 6 then nm (wr q3.2 (x0 + 66) (Int.toNat x1) x2) (fun M8 => Option.bind ((if 0 ≤ x2 then some (x3) else some (0)) : Option (Int)) (fun t10 => if 0 ≤ x1 ∧ x1 < 6 then nm (wr M8 (x0 + 67) (Int.toNat x1) t10) (fun M13 => Option.bind (fX9_tape_l72 x0 x1 1000 0 M13) (fun z19 => some (1, z19.2))) else none)) else none else (if 0 ≤ x3 then if 0 ≤ x1 ∧ x1 < 6 then nm (wr q3.2 (x0 + 66) (Int.toNat x1) x2) (fun M22 => Option.bind ((if 0 ≤ x2 then some (x3) else some (0)) : Option (Int)) (fun t24 => if 0 ≤ x1 ∧ x1 < 6 then nm (wr M22 (x0 + 67) (Int.toNat x1) t24) (fun M27 => Option.bind (fX9_tape_l72 x0 x1 1000 0 M27) (fun z28 => some (1, z28.2))) else none)) else none else some ((-14), q3.2))) else (if x3 ≤ 60 then (if x2 < 0 then if 0 ≤ x1 ∧ x1 < 6 then nm (wr q3.2 (x0 + 66) (Int.toNat x1) x2) (fun M32 => Option.bind ((if 0 ≤ x2 then some (x3) else some (0)) : Option (Int)) (fun t34 => if 0 ≤ x1 ∧ x1 < 6 then nm (wr M32 (x0 + 67) (Int.toNat x1) t34) (fun M37 => Option.bind (fX9_tape_l72 x0 x1 1000 0 M37) (fun z38 => some (1, z38.2))) else none)) else none else (if 0 ≤ x3 then if 0 ≤ x1 ∧ x1 < 6 then nm (wr q3.2 (x0 + 66) (Int.toNat x1) x2) (fun M41 => Option.bind ((if 0 ≤ x2 then some (x3) else some (0)) : Option (Int)) (fun t43 => if 0 ≤ x1 ∧ x1 < 6 then nm (wr M41 (x0 + 67) (Int.toNat x1) t43) (fun M46 => Option.bind (fX9_tape_l72 x0 x1 1000 0 M46) (fun z47 => some (1, z47.2))) else none)) else none else some ((-14), q3.2))) else some ((-2), q3.2)))))))
set_option maxRecDepth 20000 in
theorem lX9_tape_l72 {X : XC} {d : Nat} {Post : Option XV → Mem → Prop} {x0 : Nat} {x1 : Int} (hx0 : Sh x0 = (18, 69)) : ∀ (n : Nat) (x4 : Int) (M : Mem) (t0 : Int × Mem), fX9_tape_l72 x0 x1 n x4 M = some t0 → Go X mX9_tape (d + 2) 95 [] [] t0.2 Post → Go X mX9_tape (d + 2) 72 [(0, XR x0), (1, XI x1), (4, XI x4)] [] M Post := by
  intro n
  induction n with
  | zero => intro _ _ _ h; cases h
  | succ n ih =>
    intro x4 M t0 h K
    unfold fX9_tape_l72 at h
    refine g_iload 2 dX9_tape_72 rfl ?_
    refine g_bip dX9_tape_74 rfl ?_
    refine g_icmp_ge (tgt := 95) dX9_tape_76 (by decide) (fun b14 => ?_) (fun b14 => ?_)
    · replace h := ifp b14 h
      cases h
      exact g_sub [] rfl K
    · replace h := ifn b14 h
      refine g_pc (pc' := 79) rfl ?_
      refine g_aload_n 0 dX9_tape_79 rfl ?_
      refine g_getR dX9_tape_80 flX9_161 (by decide) rfl hx0 ?_
      refine g_iload_n 1 dX9_tape_83 rfl ?_
      obtain ⟨c15, h⟩ := chk_some h
      refine g_aald dX9_tape_84 (sf_8_67 hx0) (by decide) c15.1 c15.2 ?_
      refine g_iload 2 dX9_tape_85 rfl ?_
      refine g_lconst (v := 0) dX9_tape_87 rfl (i64l rfl) ?_
      obtain ⟨c16, h⟩ := chk_some h
      refine g_last dX9_tape_88 (sr_6 (sf_8_67 hx0) (tn_lt c15.1 c15.2)) c16.1 c16.2 ?_
      refine g_nmM (fun M17 eM17 => ?_)
      replace h := nm_s eM17 h
      obtain ⟨c18, h⟩ := chk_some h
      refine g_iinc (ls' := [(4, XI (x4 + 1)), (0, XR x0), (1, XI x1)]) 2 dX9_tape_89 rfl rfl c18 (by decide) rfl ?_
      refine g_pc (pc' := 92) rfl ?_
      refine g_goto (tgt := 72) dX9_tape_92 (by decide) ?_
      exact g_sub [1, 2, 0] rfl (ih _ _ _ h K)
set_option maxRecDepth 20000 in
theorem kX9_tape {X : XC} {d : Nat} {x0 : Nat} {x1 : Int} {x2 : Int} {x3 : Int} (hx0 : Sh x0 = (18, 69)) {M : Mem} {q : Int × Mem} (h : fX9_tape x0 x1 x2 x3 M = some q) : Ct X mX9_tape (d + 2) [XR x0, XI x1, XI x2, XI x3] M (pI q) := by
  unfold fX9_tape at h
  refine ct_go (by decide +kernel) (Nat.le_of_ble_eq_true rfl) (ls := [(0, XR x0), (1, XI x1), (2, XI x2), (3, XI x3)]) rfl ?_
  refine g_iload_n 1 dX9_tape_0 rfl ?_
  obtain ⟨q1, hq1, h⟩ := bnd_some h
  refine s_I (as := [XI x1]) dX9_tape_1 mlX9_428 mdX9_isTape msX9_isTape rfl (Nat.le_of_ble_eq_true rfl) (kX9_isTape  hq1) rfl ?_
  refine g_if_ne (tgt := 9) dX9_tape_4 (by decide) (fun b2 => ?_) (fun b2 => ?_)
  · replace h := ifn b2 h
    refine g_iload_n 2 dX9_tape_9 rfl ?_
    refine g_i2l dX9_tape_10 ?_
    refine g_ldc2 (v := -1) dX9_tape_11 csX9_436 (by decide +kernel) (i64l rfl) ?_
    refine g_ldc2 (v := 4) dX9_tape_14 csX9_438 (by decide +kernel) (i64l rfl) ?_
    obtain ⟨q3, hq3, h⟩ := bnd_some h
    refine s_I (as := [XL x2, XL (-1), XL 4]) dX9_tape_17 mlX9_170 mdX9_in msX9_in rfl (Nat.le_of_ble_eq_true rfl) (kX9_in  hq3) rfl ?_
    refine g_if_eq (tgt := 33) dX9_tape_20 (by decide) (fun b4 => ?_) (fun b4 => ?_)
    · replace h := ifp b4 h
      refine g_bip dX9_tape_33 rfl ?_
      cases h
      exact g_ireturn dX9_tape_35 rfl ⟨rfl, rfl⟩
    · replace h := ifn b4 h
      refine g_pc (pc' := 23) rfl ?_
      refine g_iload_n 2 dX9_tape_23 rfl ?_
      refine g_if_lt (tgt := 36) dX9_tape_24 (by decide) (fun b5 => ?_) (fun b5 => ?_)
      · replace h := ifp b5 h
        refine g_iload_n 2 dX9_tape_36 rfl ?_
        refine g_if_lt (tgt := 47) dX9_tape_37 (by decide) (fun b6 => ?_) (fun b6 => ?_)
        · replace h := ifp b6 h
          refine g_aload_n 0 dX9_tape_47 rfl ?_
          refine g_getR dX9_tape_48 flX9_153 (by decide) rfl hx0 ?_
          refine g_iload_n 1 dX9_tape_51 rfl ?_
          refine g_iload_n 2 dX9_tape_52 rfl ?_
          obtain ⟨c7, h⟩ := chk_some h
          refine g_iast dX9_tape_53 (sf_8_65 hx0) c7.1 c7.2 ?_
          refine g_nmM (fun M8 eM8 => ?_)
          replace h := nm_s eM8 h
          refine g_aload_n 0 dX9_tape_54 rfl ?_
          refine g_getR dX9_tape_55 flX9_156 (by decide) rfl hx0 ?_
          refine g_iload_n 1 dX9_tape_58 rfl ?_
          refine g_pc (pc' := 59) rfl ?_
          refine g_iload_n 2 dX9_tape_59 rfl ?_
          obtain ⟨t10, ht10, h⟩ := bnd_some h
          have Kt10 : Go X mX9_tape (d + 2) 68 [(0, XR x0), (1, XI x1)] [XI t10, XI x1, XR (x0 + 67)] M8 (pI q) := by
            obtain ⟨c12, h⟩ := chk_some h
            refine g_iast dX9_tape_68 (sf_8_66 hx0) c12.1 c12.2 ?_
            refine g_nmM (fun M13 eM13 => ?_)
            replace h := nm_s eM13 h
            refine g_iconst (v := 0) dX9_tape_69 rfl (i32l rfl) ?_
            refine g_istore (ls' := [(4, XI 0), (0, XR x0), (1, XI x1)]) dX9_tape_70 (by decide) rfl ?_
            obtain ⟨z19, hz19, h⟩ := bnd_some h
            refine g_sub (ls' := [(0, XR x0), (1, XI x1), (4, XI 0)]) [1, 2, 0] rfl ?_
            refine lX9_tape_l72 hx0 1000 _ _ _ hz19 ?_
            refine g_iconst (v := 1) dX9_tape_95 rfl (i32l rfl) ?_
            cases h
            exact g_ireturn dX9_tape_96 rfl ⟨rfl, rfl⟩
          refine g_if_ge (tgt := 67) dX9_tape_60 (by decide) (fun b11 => ?_) (fun b11 => ?_)
          · replace ht10 := ifp b11 ht10
            refine g_iload_n 3 dX9_tape_67 rfl ?_
            cases ht10
            exact g_sub [0, 1] rfl Kt10
          · replace ht10 := ifn b11 ht10
            refine g_pc (pc' := 63) rfl ?_
            refine g_iconst (v := 0) dX9_tape_63 rfl (i32l rfl) ?_
            refine g_goto (tgt := 68) dX9_tape_64 (by decide) ?_
            cases ht10
            exact g_sub [0, 1] rfl Kt10
        · replace h := ifn b6 h
          refine g_pc (pc' := 40) rfl ?_
          refine g_iload_n 3 dX9_tape_40 rfl ?_
          refine g_if_ge (tgt := 47) dX9_tape_41 (by decide) (fun b20 => ?_) (fun b20 => ?_)
          · replace h := ifp b20 h
            refine g_aload_n 0 dX9_tape_47 rfl ?_
            refine g_getR dX9_tape_48 flX9_153 (by decide) rfl hx0 ?_
            refine g_iload_n 1 dX9_tape_51 rfl ?_
            refine g_iload_n 2 dX9_tape_52 rfl ?_
            obtain ⟨c21, h⟩ := chk_some h
            refine g_iast dX9_tape_53 (sf_8_65 hx0) c21.1 c21.2 ?_
            refine g_nmM (fun M22 eM22 => ?_)
            replace h := nm_s eM22 h
            refine g_aload_n 0 dX9_tape_54 rfl ?_
            refine g_getR dX9_tape_55 flX9_156 (by decide) rfl hx0 ?_
            refine g_iload_n 1 dX9_tape_58 rfl ?_
            refine g_pc (pc' := 59) rfl ?_
            refine g_iload_n 2 dX9_tape_59 rfl ?_
            obtain ⟨t24, ht24, h⟩ := bnd_some h
            have Kt24 : Go X mX9_tape (d + 2) 68 [(0, XR x0), (1, XI x1)] [XI t24, XI x1, XR (x0 + 67)] M22 (pI q) := by
              obtain ⟨c26, h⟩ := chk_some h
              refine g_iast dX9_tape_68 (sf_8_66 hx0) c26.1 c26.2 ?_
              refine g_nmM (fun M27 eM27 => ?_)
              replace h := nm_s eM27 h
              refine g_iconst (v := 0) dX9_tape_69 rfl (i32l rfl) ?_
              refine g_istore (ls' := [(4, XI 0), (0, XR x0), (1, XI x1)]) dX9_tape_70 (by decide) rfl ?_
              obtain ⟨z28, hz28, h⟩ := bnd_some h
              refine g_sub (ls' := [(0, XR x0), (1, XI x1), (4, XI 0)]) [1, 2, 0] rfl ?_
              refine lX9_tape_l72 hx0 1000 _ _ _ hz28 ?_
              refine g_iconst (v := 1) dX9_tape_95 rfl (i32l rfl) ?_
              cases h
              exact g_ireturn dX9_tape_96 rfl ⟨rfl, rfl⟩
            refine g_if_ge (tgt := 67) dX9_tape_60 (by decide) (fun b25 => ?_) (fun b25 => ?_)
            · replace ht24 := ifp b25 ht24
              refine g_iload_n 3 dX9_tape_67 rfl ?_
              cases ht24
              exact g_sub [0, 1] rfl Kt24
            · replace ht24 := ifn b25 ht24
              refine g_pc (pc' := 63) rfl ?_
              refine g_iconst (v := 0) dX9_tape_63 rfl (i32l rfl) ?_
              refine g_goto (tgt := 68) dX9_tape_64 (by decide) ?_
              cases ht24
              exact g_sub [0, 1] rfl Kt24
          · replace h := ifn b20 h
            refine g_pc (pc' := 44) rfl ?_
            refine g_bip dX9_tape_44 rfl ?_
            cases h
            exact g_ireturn dX9_tape_46 rfl ⟨rfl, rfl⟩
      · replace h := ifn b5 h
        refine g_pc (pc' := 27) rfl ?_
        refine g_iload_n 3 dX9_tape_27 rfl ?_
        refine g_bip dX9_tape_28 rfl ?_
        refine g_icmp_le (tgt := 36) dX9_tape_30 (by decide) (fun b29 => ?_) (fun b29 => ?_)
        · replace h := ifp b29 h
          refine g_iload_n 2 dX9_tape_36 rfl ?_
          refine g_if_lt (tgt := 47) dX9_tape_37 (by decide) (fun b30 => ?_) (fun b30 => ?_)
          · replace h := ifp b30 h
            refine g_aload_n 0 dX9_tape_47 rfl ?_
            refine g_getR dX9_tape_48 flX9_153 (by decide) rfl hx0 ?_
            refine g_iload_n 1 dX9_tape_51 rfl ?_
            refine g_iload_n 2 dX9_tape_52 rfl ?_
            obtain ⟨c31, h⟩ := chk_some h
            refine g_iast dX9_tape_53 (sf_8_65 hx0) c31.1 c31.2 ?_
            refine g_nmM (fun M32 eM32 => ?_)
            replace h := nm_s eM32 h
            refine g_aload_n 0 dX9_tape_54 rfl ?_
            refine g_getR dX9_tape_55 flX9_156 (by decide) rfl hx0 ?_
            refine g_iload_n 1 dX9_tape_58 rfl ?_
            refine g_pc (pc' := 59) rfl ?_
            refine g_iload_n 2 dX9_tape_59 rfl ?_
            obtain ⟨t34, ht34, h⟩ := bnd_some h
            have Kt34 : Go X mX9_tape (d + 2) 68 [(0, XR x0), (1, XI x1)] [XI t34, XI x1, XR (x0 + 67)] M32 (pI q) := by
              obtain ⟨c36, h⟩ := chk_some h
              refine g_iast dX9_tape_68 (sf_8_66 hx0) c36.1 c36.2 ?_
              refine g_nmM (fun M37 eM37 => ?_)
              replace h := nm_s eM37 h
              refine g_iconst (v := 0) dX9_tape_69 rfl (i32l rfl) ?_
              refine g_istore (ls' := [(4, XI 0), (0, XR x0), (1, XI x1)]) dX9_tape_70 (by decide) rfl ?_
              obtain ⟨z38, hz38, h⟩ := bnd_some h
              refine g_sub (ls' := [(0, XR x0), (1, XI x1), (4, XI 0)]) [1, 2, 0] rfl ?_
              refine lX9_tape_l72 hx0 1000 _ _ _ hz38 ?_
              refine g_iconst (v := 1) dX9_tape_95 rfl (i32l rfl) ?_
              cases h
              exact g_ireturn dX9_tape_96 rfl ⟨rfl, rfl⟩
            refine g_if_ge (tgt := 67) dX9_tape_60 (by decide) (fun b35 => ?_) (fun b35 => ?_)
            · replace ht34 := ifp b35 ht34
              refine g_iload_n 3 dX9_tape_67 rfl ?_
              cases ht34
              exact g_sub [0, 1] rfl Kt34
            · replace ht34 := ifn b35 ht34
              refine g_pc (pc' := 63) rfl ?_
              refine g_iconst (v := 0) dX9_tape_63 rfl (i32l rfl) ?_
              refine g_goto (tgt := 68) dX9_tape_64 (by decide) ?_
              cases ht34
              exact g_sub [0, 1] rfl Kt34
          · replace h := ifn b30 h
            refine g_pc (pc' := 40) rfl ?_
            refine g_iload_n 3 dX9_tape_40 rfl ?_
            refine g_if_ge (tgt := 47) dX9_tape_41 (by decide) (fun b39 => ?_) (fun b39 => ?_)
            · replace h := ifp b39 h
              refine g_aload_n 0 dX9_tape_47 rfl ?_
              refine g_getR dX9_tape_48 flX9_153 (by decide) rfl hx0 ?_
              refine g_iload_n 1 dX9_tape_51 rfl ?_
              refine g_iload_n 2 dX9_tape_52 rfl ?_
              obtain ⟨c40, h⟩ := chk_some h
              refine g_iast dX9_tape_53 (sf_8_65 hx0) c40.1 c40.2 ?_
              refine g_nmM (fun M41 eM41 => ?_)
              replace h := nm_s eM41 h
              refine g_aload_n 0 dX9_tape_54 rfl ?_
              refine g_getR dX9_tape_55 flX9_156 (by decide) rfl hx0 ?_
              refine g_iload_n 1 dX9_tape_58 rfl ?_
              refine g_pc (pc' := 59) rfl ?_
              refine g_iload_n 2 dX9_tape_59 rfl ?_
              obtain ⟨t43, ht43, h⟩ := bnd_some h
              have Kt43 : Go X mX9_tape (d + 2) 68 [(0, XR x0), (1, XI x1)] [XI t43, XI x1, XR (x0 + 67)] M41 (pI q) := by
                obtain ⟨c45, h⟩ := chk_some h
                refine g_iast dX9_tape_68 (sf_8_66 hx0) c45.1 c45.2 ?_
                refine g_nmM (fun M46 eM46 => ?_)
                replace h := nm_s eM46 h
                refine g_iconst (v := 0) dX9_tape_69 rfl (i32l rfl) ?_
                refine g_istore (ls' := [(4, XI 0), (0, XR x0), (1, XI x1)]) dX9_tape_70 (by decide) rfl ?_
                obtain ⟨z47, hz47, h⟩ := bnd_some h
                refine g_sub (ls' := [(0, XR x0), (1, XI x1), (4, XI 0)]) [1, 2, 0] rfl ?_
                refine lX9_tape_l72 hx0 1000 _ _ _ hz47 ?_
                refine g_iconst (v := 1) dX9_tape_95 rfl (i32l rfl) ?_
                cases h
                exact g_ireturn dX9_tape_96 rfl ⟨rfl, rfl⟩
              refine g_if_ge (tgt := 67) dX9_tape_60 (by decide) (fun b44 => ?_) (fun b44 => ?_)
              · replace ht43 := ifp b44 ht43
                refine g_iload_n 3 dX9_tape_67 rfl ?_
                cases ht43
                exact g_sub [0, 1] rfl Kt43
              · replace ht43 := ifn b44 ht43
                refine g_pc (pc' := 63) rfl ?_
                refine g_iconst (v := 0) dX9_tape_63 rfl (i32l rfl) ?_
                refine g_goto (tgt := 68) dX9_tape_64 (by decide) ?_
                cases ht43
                exact g_sub [0, 1] rfl Kt43
            · replace h := ifn b39 h
              refine g_pc (pc' := 44) rfl ?_
              refine g_bip dX9_tape_44 rfl ?_
              cases h
              exact g_ireturn dX9_tape_46 rfl ⟨rfl, rfl⟩
        · replace h := ifn b29 h
          refine g_pc (pc' := 33) rfl ?_
          refine g_bip dX9_tape_33 rfl ?_
          cases h
          exact g_ireturn dX9_tape_35 rfl ⟨rfl, rfl⟩
  · replace h := ifp b2 h
    refine g_pc (pc' := 7) rfl ?_
    refine g_iconst (v := -1) dX9_tape_7 rfl (i32l rfl) ?_
    cases h
    exact g_ireturn dX9_tape_8 rfl ⟨rfl, rfl⟩
def fX9_refusal (x0 : Nat) (x1 : Int) (x2 : Int) (M : Mem) : Option (Int × Mem) := Option.bind (fX9_isTape x1 M) (fun q1 => Option.bind ((if q1.1 = 0 then some ((-1), q1.2) else if 0 ≤ x1 ∧ x1 < 6 then (if 0 ≤ (q1.2 (x0 + 66) (Int.toNat x1)) then if 0 ≤ x1 ∧ x1 < 6 then if -2147483648 ≤ ((q1.2 (x0 + 67) (Int.toNat x1)) - 1) ∧ ((q1.2 (x0 + 67) (Int.toNat x1)) - 1) ≤ 2147483647 then Option.bind (fX9_in x2 0 ((q1.2 (x0 + 67) (Int.toNat x1)) - 1) q1.2) (fun q15 => (if q15.1 = 0 then some ((-13), q15.2) else some (0, q15.2))) else none else none else some ((-11), q1.2)) else none) : Option (Int × Mem)) (fun t9 => some (t9.1, t9.2)))
set_option maxRecDepth 20000 in
theorem kX9_refusal {X : XC} {d : Nat} {x0 : Nat} {x1 : Int} {x2 : Int} (hx0 : Sh x0 = (18, 69)) {M : Mem} {q : Int × Mem} (h : fX9_refusal x0 x1 x2 M = some q) : Ct X mX9_refusal (d + 2) [XR x0, XI x1, XI x2] M (pI q) := by
  unfold fX9_refusal at h
  refine ct_go (by decide +kernel) (Nat.le_of_ble_eq_true rfl) (ls := [(0, XR x0), (1, XI x1), (2, XI x2)]) rfl ?_
  refine g_iload_n 1 dX9_refusal_0 rfl ?_
  obtain ⟨q1, hq1, h⟩ := bnd_some h
  refine s_I (as := [XI x1]) dX9_refusal_1 mlX9_428 mdX9_isTape msX9_isTape rfl (Nat.le_of_ble_eq_true rfl) (kX9_isTape  hq1) rfl ?_
  obtain ⟨t9, ht9, h⟩ := bnd_some h
  have Kt9 : Go X mX9_refusal (d + 2) 49 [] [XI t9.1] t9.2 (pI q) := by
    cases h
    exact g_ireturn dX9_refusal_49 rfl ⟨rfl, rfl⟩
  refine g_if_ne (tgt := 11) dX9_refusal_4 (by decide) (fun b10 => ?_) (fun b10 => ?_)
  · replace ht9 := ifn b10 ht9
    refine g_aload_n 0 dX9_refusal_11 rfl ?_
    refine g_getR dX9_refusal_12 flX9_153 (by decide) rfl hx0 ?_
    refine g_iload_n 1 dX9_refusal_15 rfl ?_
    obtain ⟨c11, ht9⟩ := chk_some ht9
    refine g_iald dX9_refusal_16 (sf_8_65 hx0) c11.1 c11.2 ?_
    refine g_if_ge (tgt := 25) dX9_refusal_17 (by decide) (fun b12 => ?_) (fun b12 => ?_)
    · replace ht9 := ifp b12 ht9
      refine g_iload_n 2 dX9_refusal_25 rfl ?_
      refine g_i2l dX9_refusal_26 ?_
      refine g_lconst (v := 0) dX9_refusal_27 rfl (i64l rfl) ?_
      refine g_aload_n 0 dX9_refusal_28 rfl ?_
      refine g_getR dX9_refusal_29 flX9_156 (by decide) rfl hx0 ?_
      refine g_iload_n 1 dX9_refusal_32 rfl ?_
      obtain ⟨c13, ht9⟩ := chk_some ht9
      refine g_iald dX9_refusal_33 (sf_8_66 hx0) c13.1 c13.2 ?_
      refine g_iconst (v := 1) dX9_refusal_34 rfl (i32l rfl) ?_
      refine g_pc (pc' := 35) rfl ?_
      obtain ⟨c14, ht9⟩ := chk_some ht9
      refine g_isub dX9_refusal_35 rfl c14 ?_
      refine g_i2l dX9_refusal_36 ?_
      obtain ⟨q15, hq15, ht9⟩ := bnd_some ht9
      refine s_I (as := [XL x2, XL 0, XL ((q1.2 (x0 + 67) (Int.toNat x1)) - 1)]) dX9_refusal_37 mlX9_170 mdX9_in msX9_in rfl (Nat.le_of_ble_eq_true rfl) (kX9_in  hq15) rfl ?_
      refine g_if_eq (tgt := 47) dX9_refusal_40 (by decide) (fun b16 => ?_) (fun b16 => ?_)
      · replace ht9 := ifp b16 ht9
        refine g_bip dX9_refusal_47 rfl ?_
        cases ht9
        exact g_sub [] rfl Kt9
      · replace ht9 := ifn b16 ht9
        refine g_pc (pc' := 43) rfl ?_
        refine g_iconst (v := 0) dX9_refusal_43 rfl (i32l rfl) ?_
        refine g_goto (tgt := 49) dX9_refusal_44 (by decide) ?_
        cases ht9
        exact g_sub [] rfl Kt9
    · replace ht9 := ifn b12 ht9
      refine g_pc (pc' := 20) rfl ?_
      refine g_bip dX9_refusal_20 rfl ?_
      refine g_goto (tgt := 49) dX9_refusal_22 (by decide) ?_
      cases ht9
      exact g_sub [] rfl Kt9
  · replace ht9 := ifp b10 ht9
    refine g_pc (pc' := 7) rfl ?_
    refine g_iconst (v := -1) dX9_refusal_7 rfl (i32l rfl) ?_
    refine g_goto (tgt := 49) dX9_refusal_8 (by decide) ?_
    cases ht9
    exact g_sub [] rfl Kt9
def fX9_item (x0 : Nat) (x1 : Int) (x2 : Int) (x3 : Int) (M : Mem) : Option (Int × Mem) := Option.bind (fX9_refusal x0 x1 x2 M) (fun q1 => nm (q1.1) (fun v2 => (if v2 = 0 then if 0 ≤ x1 ∧ x1 < 6 then nm ((q1.2 (x0 + 66) (Int.toNat x1))) (fun v5 => if 0 ≤ x1 ∧ x1 < 6 then Option.bind ((if v5 = 0 then some ((w8 (w32 x3))) else (if v5 = 1 then some ((w16 (w32 x3))) else (if v5 = 2 then some ((w32 x3)) else (if v5 = 3 then some (x3) else (if x3 = 0 then some (0) else some (1)))))) : Option (Int)) (fun t12 => if 0 ≤ x2 ∧ x2 < 60 then nm (wr q1.2 ((x0 + 68) + 36 + 16 * Int.toNat x1) (Int.toNat x2) t12) (fun M19 => some (1, M19)) else none) else none) else none else some (v2, q1.2))))
set_option maxRecDepth 20000 in
theorem kX9_item {X : XC} {d : Nat} {x0 : Nat} {x1 : Int} {x2 : Int} {x3 : Int} (hx0 : Sh x0 = (18, 69)) {M : Mem} {q : Int × Mem} (h : fX9_item x0 x1 x2 x3 M = some q) : Ct X mX9_item (d + 3) [XR x0, XI x1, XI x2, XL x3] M (pI q) := by
  unfold fX9_item at h
  refine ct_go (by decide +kernel) (Nat.le_of_ble_eq_true rfl) (ls := [(0, XR x0), (1, XI x1), (2, XI x2), (3, XL x3)]) rfl ?_
  refine g_aload_n 0 dX9_item_0 rfl ?_
  refine g_iload_n 1 dX9_item_1 rfl ?_
  refine g_iload_n 2 dX9_item_2 rfl ?_
  obtain ⟨q1, hq1, h⟩ := bnd_some h
  refine v_I (ci := 8) (as := [XI x1, XI x2]) dX9_item_3 mlX9_440 mdX9_refusal mvX9_refusal rfl hx0 rfl (Nat.le_of_ble_eq_true rfl) (kX9_refusal hx0 hq1) rfl ?_
  refine g_nmI (fun v2 ev2 => ?_)
  replace h := nm_s ev2 h
  refine g_istore (ls' := [(5, XI v2), (0, XR x0), (1, XI x1), (2, XI x2), (3, XL x3)]) dX9_item_6 (by decide) rfl ?_
  refine g_iload 0 dX9_item_8 rfl ?_
  refine g_if_eq (tgt := 16) dX9_item_10 (by decide) (fun b3 => ?_) (fun b3 => ?_)
  · replace h := ifp b3 h
    refine g_aload_n 1 dX9_item_16 rfl ?_
    refine g_getR dX9_item_17 flX9_153 (by decide) rfl hx0 ?_
    refine g_iload_n 2 dX9_item_20 rfl ?_
    obtain ⟨c4, h⟩ := chk_some h
    refine g_iald dX9_item_21 (sf_8_65 hx0) c4.1 c4.2 ?_
    refine g_nmI (fun v5 ev5 => ?_)
    replace h := nm_s ev5 h
    refine g_istore (ls' := [(6, XI v5), (5, XI v2), (0, XR x0), (1, XI x1), (2, XI x2), (3, XL x3)]) dX9_item_22 (by decide) rfl ?_
    refine g_aload_n 2 dX9_item_24 rfl ?_
    refine g_getR dX9_item_25 flX9_161 (by decide) rfl hx0 ?_
    refine g_iload_n 3 dX9_item_28 rfl ?_
    refine g_pc (pc' := 29) rfl ?_
    obtain ⟨c6, h⟩ := chk_some h
    refine g_aald dX9_item_29 (sf_8_67 hx0) (by decide) c6.1 c6.2 ?_
    refine g_iload_n 4 dX9_item_30 rfl ?_
    refine g_iload 0 dX9_item_31 rfl ?_
    obtain ⟨t12, ht12, h⟩ := bnd_some h
    have Kt12 : Go X mX9_item (d + 3) 89 [] [XL t12, XI x2, XR ((x0 + 68) + 36 + 16 * Int.toNat x1)] q1.2 (pI q) := by
      obtain ⟨c18, h⟩ := chk_some h
      refine g_last dX9_item_89 (sr_6 (sf_8_67 hx0) (tn_lt c6.1 c6.2)) c18.1 c18.2 ?_
      refine g_nmM (fun M19 eM19 => ?_)
      replace h := nm_s eM19 h
      refine g_iconst (v := 1) dX9_item_90 rfl (i32l rfl) ?_
      cases h
      exact g_ireturn dX9_item_91 rfl ⟨rfl, rfl⟩
    refine g_if_ne (tgt := 43) dX9_item_33 (by decide) (fun b13 => ?_) (fun b13 => ?_)
    · replace ht12 := ifn b13 ht12
      refine g_iload 0 dX9_item_43 rfl ?_
      refine g_iconst (v := 1) dX9_item_45 rfl (i32l rfl) ?_
      refine g_icmp_ne (tgt := 56) dX9_item_46 (by decide) (fun b14 => ?_) (fun b14 => ?_)
      · replace ht12 := ifn b14 ht12
        refine g_iload 0 dX9_item_56 rfl ?_
        refine g_iconst (v := 2) dX9_item_58 rfl (i32l rfl) ?_
        refine g_icmp_ne (tgt := 68) dX9_item_59 (by decide) (fun b15 => ?_) (fun b15 => ?_)
        · replace ht12 := ifn b15 ht12
          refine g_iload 0 dX9_item_68 rfl ?_
          refine g_iconst (v := 3) dX9_item_70 rfl (i32l rfl) ?_
          refine g_icmp_ne (tgt := 78) dX9_item_71 (by decide) (fun b16 => ?_) (fun b16 => ?_)
          · replace ht12 := ifn b16 ht12
            refine g_lload_n 5 dX9_item_78 rfl ?_
            refine g_lconst (v := 0) dX9_item_79 rfl (i64l rfl) ?_
            refine g_lcmp_eq (tgt := 88) dX9_item_80 dX9_item_81 (by decide) (fun b17 => ?_) (fun b17 => ?_)
            · replace ht12 := ifp b17 ht12
              refine g_lconst (v := 0) dX9_item_88 rfl (i64l rfl) ?_
              cases ht12
              exact g_sub [] rfl Kt12
            · replace ht12 := ifn b17 ht12
              refine g_pc (pc' := 84) rfl ?_
              refine g_lconst (v := 1) dX9_item_84 rfl (i64l rfl) ?_
              refine g_goto (tgt := 89) dX9_item_85 (by decide) ?_
              cases ht12
              exact g_sub [] rfl Kt12
          · replace ht12 := ifp b16 ht12
            refine g_pc (pc' := 74) rfl ?_
            refine g_lload_n 5 dX9_item_74 rfl ?_
            refine g_goto (tgt := 89) dX9_item_75 (by decide) ?_
            cases ht12
            exact g_sub [] rfl Kt12
        · replace ht12 := ifp b15 ht12
          refine g_pc (pc' := 62) rfl ?_
          refine g_lload_n 5 dX9_item_62 rfl ?_
          refine g_l2i dX9_item_63 ?_
          refine g_i2l dX9_item_64 ?_
          refine g_goto (tgt := 89) dX9_item_65 (by decide) ?_
          cases ht12
          exact g_sub [] rfl Kt12
      · replace ht12 := ifp b14 ht12
        refine g_pc (pc' := 49) rfl ?_
        refine g_lload_n 5 dX9_item_49 rfl ?_
        refine g_l2i dX9_item_50 ?_
        refine g_i2s dX9_item_51 ?_
        refine g_i2l dX9_item_52 ?_
        refine g_goto (tgt := 89) dX9_item_53 (by decide) ?_
        cases ht12
        exact g_sub [] rfl Kt12
    · replace ht12 := ifp b13 ht12
      refine g_pc (pc' := 36) rfl ?_
      refine g_lload_n 5 dX9_item_36 rfl ?_
      refine g_l2i dX9_item_37 ?_
      refine g_i2b dX9_item_38 ?_
      refine g_i2l dX9_item_39 ?_
      refine g_goto (tgt := 89) dX9_item_40 (by decide) ?_
      cases ht12
      exact g_sub [] rfl Kt12
  · replace h := ifn b3 h
    refine g_pc (pc' := 13) rfl ?_
    refine g_iload 0 dX9_item_13 rfl ?_
    cases h
    exact g_ireturn dX9_item_15 rfl ⟨rfl, rfl⟩
def fX9_peek (x0 : Nat) (x1 : Int) (x2 : Int) (M : Mem) : Option (Int × Mem) := Option.bind (fX9_refusal x0 x1 x2 M) (fun q1 => Option.bind ((if q1.1 = 0 then if 0 ≤ x1 ∧ x1 < 6 then if 0 ≤ x2 ∧ x2 < 60 then some ((q1.2 ((x0 + 68) + 36 + 16 * Int.toNat x1) (Int.toNat x2))) else none else none else some ((-9223372036854775808))) : Option (Int)) (fun t5 => some (t5, q1.2)))
set_option maxRecDepth 20000 in
theorem kX9_peek {X : XC} {d : Nat} {x0 : Nat} {x1 : Int} {x2 : Int} (hx0 : Sh x0 = (18, 69)) {M : Mem} {q : Int × Mem} (h : fX9_peek x0 x1 x2 M = some q) : Ct X mX9_peek (d + 3) [XR x0, XI x1, XI x2] M (pJ q) := by
  unfold fX9_peek at h
  refine ct_go (by decide +kernel) (Nat.le_of_ble_eq_true rfl) (ls := [(0, XR x0), (1, XI x1), (2, XI x2)]) rfl ?_
  refine g_aload_n 0 dX9_peek_0 rfl ?_
  refine g_iload_n 1 dX9_peek_1 rfl ?_
  refine g_iload_n 2 dX9_peek_2 rfl ?_
  obtain ⟨q1, hq1, h⟩ := bnd_some h
  refine v_I (ci := 8) (as := [XI x1, XI x2]) dX9_peek_3 mlX9_440 mdX9_refusal mvX9_refusal rfl hx0 rfl (Nat.le_of_ble_eq_true rfl) (kX9_refusal hx0 hq1) rfl ?_
  obtain ⟨t5, ht5, h⟩ := bnd_some h
  have Kt5 : Go X mX9_peek (d + 3) 23 [] [XL t5] q1.2 (pJ q) := by
    cases h
    exact g_lreturn dX9_peek_23 rfl ⟨rfl, rfl⟩
  refine g_if_eq (tgt := 15) dX9_peek_6 (by decide) (fun b6 => ?_) (fun b6 => ?_)
  · replace ht5 := ifp b6 ht5
    refine g_aload_n 0 dX9_peek_15 rfl ?_
    refine g_getR dX9_peek_16 flX9_161 (by decide) rfl hx0 ?_
    refine g_iload_n 1 dX9_peek_19 rfl ?_
    obtain ⟨c7, ht5⟩ := chk_some ht5
    refine g_aald dX9_peek_20 (sf_8_67 hx0) (by decide) c7.1 c7.2 ?_
    refine g_iload_n 2 dX9_peek_21 rfl ?_
    obtain ⟨c8, ht5⟩ := chk_some ht5
    refine g_lald dX9_peek_22 (sr_6 (sf_8_67 hx0) (tn_lt c7.1 c7.2)) c8.1 c8.2 ?_
    cases ht5
    exact g_sub [] rfl Kt5
  · replace ht5 := ifn b6 ht5
    refine g_pc (pc' := 9) rfl ?_
    refine g_ldc2 (v := -9223372036854775808) dX9_peek_9 csX9_326 (by decide +kernel) (i64l rfl) ?_
    refine g_goto (tgt := 23) dX9_peek_12 (by decide) ?_
    cases ht5
    exact g_sub [] rfl Kt5
def fX9_shift (x0 : Nat) (x1 : Int) (x2 : Int) (x3 : Int) (x4 : Int) (x5 : Int) (M : Mem) : Option (Int × Mem) := Option.bind (fX9_isTape x1 M) (fun q1 => (if q1.1 = 0 then some ((-1), q1.2) else Option.bind (fX9_isTape x3 q1.2) (fun q3 => (if q3.1 = 0 then some ((-1), q3.2) else if 0 ≤ x1 ∧ x1 < 6 then (if (q3.2 (x0 + 66) (Int.toNat x1)) < 0 then some ((-11), q3.2) else if 0 ≤ x3 ∧ x3 < 6 then (if 0 ≤ (q3.2 (x0 + 66) (Int.toNat x3)) then if 0 ≤ x1 ∧ x1 < 6 then if 0 ≤ x3 ∧ x3 < 6 then (if (q3.2 (x0 + 66) (Int.toNat x1)) = (q3.2 (x0 + 66) (Int.toNat x3)) then (if x5 < 0 then some ((-13), q3.2) else (if x2 < 0 then some ((-13), q3.2) else (if x4 < 0 then some ((-13), q3.2) else if 0 ≤ x1 ∧ x1 < 6 then if -2147483648 ≤ ((q3.2 (x0 + 67) (Int.toNat x1)) - x5) ∧ ((q3.2 (x0 + 67) (Int.toNat x1)) - x5) ≤ 2147483647 then (if ((q3.2 (x0 + 67) (Int.toNat x1)) - x5) < x2 then some ((-13), q3.2) else if 0 ≤ x3 ∧ x3 < 6 then if -2147483648 ≤ ((q3.2 (x0 + 67) (Int.toNat x3)) - x5) ∧ ((q3.2 (x0 + 67) (Int.toNat x3)) - x5) ≤ 2147483647 then (if x4 ≤ ((q3.2 (x0 + 67) (Int.toNat x3)) - x5) then if 0 ≤ x1 ∧ x1 < 6 then if 0 ≤ x2 ∧ 0 ≤ 0 ∧ 0 ≤ x5 ∧ x2 + x5 ≤ 60 ∧ 0 + x5 ≤ 60 then nm (cpM q3.2 ((x0 + 68) + 36 + 16 * Int.toNat x1) (Int.toNat x2) (x0 + 69) (Int.toNat 0) (Int.toNat x5)) (fun M23 => if 0 ≤ x3 ∧ x3 < 6 then if 0 ≤ 0 ∧ 0 ≤ x4 ∧ 0 ≤ x5 ∧ 0 + x5 ≤ 60 ∧ x4 + x5 ≤ 60 then nm (cpM M23 (x0 + 69) (Int.toNat 0) ((x0 + 68) + 36 + 16 * Int.toNat x3) (Int.toNat x4) (Int.toNat x5)) (fun M26 => some (x5, M26)) else none else none) else none else none else some ((-13), q3.2)) else none else none) else none else none))) else some ((-12), q3.2)) else none else none else some ((-11), q3.2)) else none) else none))))
set_option maxRecDepth 20000 in
theorem kX9_shift {X : XC} {d : Nat} {x0 : Nat} {x1 : Int} {x2 : Int} {x3 : Int} {x4 : Int} {x5 : Int} (hx0 : Sh x0 = (18, 69)) {M : Mem} {q : Int × Mem} (h : fX9_shift x0 x1 x2 x3 x4 x5 M = some q) : Ct X mX9_shift (d + 2) [XR x0, XI x1, XI x2, XI x3, XI x4, XI x5] M (pI q) := by
  unfold fX9_shift at h
  refine ct_go (by decide +kernel) (Nat.le_of_ble_eq_true rfl) (ls := [(0, XR x0), (1, XI x1), (2, XI x2), (3, XI x3), (4, XI x4), (5, XI x5)]) rfl ?_
  refine g_iload_n 1 dX9_shift_0 rfl ?_
  obtain ⟨q1, hq1, h⟩ := bnd_some h
  refine s_I (as := [XI x1]) dX9_shift_1 mlX9_428 mdX9_isTape msX9_isTape rfl (Nat.le_of_ble_eq_true rfl) (kX9_isTape  hq1) rfl ?_
  refine g_if_eq (tgt := 14) dX9_shift_4 (by decide) (fun b2 => ?_) (fun b2 => ?_)
  · replace h := ifp b2 h
    refine g_iconst (v := -1) dX9_shift_14 rfl (i32l rfl) ?_
    cases h
    exact g_ireturn dX9_shift_15 rfl ⟨rfl, rfl⟩
  · replace h := ifn b2 h
    refine g_pc (pc' := 7) rfl ?_
    refine g_iload_n 3 dX9_shift_7 rfl ?_
    obtain ⟨q3, hq3, h⟩ := bnd_some h
    refine s_I (as := [XI x3]) dX9_shift_8 mlX9_428 mdX9_isTape msX9_isTape rfl (Nat.le_of_ble_eq_true rfl) (kX9_isTape  hq3) rfl ?_
    refine g_if_ne (tgt := 16) dX9_shift_11 (by decide) (fun b4 => ?_) (fun b4 => ?_)
    · replace h := ifn b4 h
      refine g_aload_n 0 dX9_shift_16 rfl ?_
      refine g_getR dX9_shift_17 flX9_153 (by decide) rfl hx0 ?_
      refine g_iload_n 1 dX9_shift_20 rfl ?_
      obtain ⟨c5, h⟩ := chk_some h
      refine g_iald dX9_shift_21 (sf_8_65 hx0) c5.1 c5.2 ?_
      refine g_if_lt (tgt := 34) dX9_shift_22 (by decide) (fun b6 => ?_) (fun b6 => ?_)
      · replace h := ifp b6 h
        refine g_bip dX9_shift_34 rfl ?_
        cases h
        exact g_ireturn dX9_shift_36 rfl ⟨rfl, rfl⟩
      · replace h := ifn b6 h
        refine g_pc (pc' := 25) rfl ?_
        refine g_aload_n 0 dX9_shift_25 rfl ?_
        refine g_getR dX9_shift_26 flX9_153 (by decide) rfl hx0 ?_
        refine g_iload_n 3 dX9_shift_29 rfl ?_
        obtain ⟨c7, h⟩ := chk_some h
        refine g_iald dX9_shift_30 (sf_8_65 hx0) c7.1 c7.2 ?_
        refine g_if_ge (tgt := 37) dX9_shift_31 (by decide) (fun b8 => ?_) (fun b8 => ?_)
        · replace h := ifp b8 h
          refine g_aload_n 0 dX9_shift_37 rfl ?_
          refine g_getR dX9_shift_38 flX9_153 (by decide) rfl hx0 ?_
          refine g_iload_n 1 dX9_shift_41 rfl ?_
          obtain ⟨c9, h⟩ := chk_some h
          refine g_iald dX9_shift_42 (sf_8_65 hx0) c9.1 c9.2 ?_
          refine g_aload_n 0 dX9_shift_43 rfl ?_
          refine g_getR dX9_shift_44 flX9_153 (by decide) rfl hx0 ?_
          refine g_iload_n 3 dX9_shift_47 rfl ?_
          obtain ⟨c10, h⟩ := chk_some h
          refine g_iald dX9_shift_48 (sf_8_65 hx0) c10.1 c10.2 ?_
          refine g_pc (pc' := 49) rfl ?_
          refine g_icmp_eq (tgt := 55) dX9_shift_49 (by decide) (fun b11 => ?_) (fun b11 => ?_)
          · replace h := ifp b11 h
            refine g_iload 5 dX9_shift_55 rfl ?_
            refine g_if_lt (tgt := 96) dX9_shift_57 (by decide) (fun b12 => ?_) (fun b12 => ?_)
            · replace h := ifp b12 h
              refine g_bip dX9_shift_96 rfl ?_
              cases h
              exact g_ireturn dX9_shift_98 rfl ⟨rfl, rfl⟩
            · replace h := ifn b12 h
              refine g_pc (pc' := 60) rfl ?_
              refine g_iload_n 2 dX9_shift_60 rfl ?_
              refine g_if_lt (tgt := 96) dX9_shift_61 (by decide) (fun b13 => ?_) (fun b13 => ?_)
              · replace h := ifp b13 h
                refine g_bip dX9_shift_96 rfl ?_
                cases h
                exact g_ireturn dX9_shift_98 rfl ⟨rfl, rfl⟩
              · replace h := ifn b13 h
                refine g_pc (pc' := 64) rfl ?_
                refine g_iload 4 dX9_shift_64 rfl ?_
                refine g_if_lt (tgt := 96) dX9_shift_66 (by decide) (fun b14 => ?_) (fun b14 => ?_)
                · replace h := ifp b14 h
                  refine g_bip dX9_shift_96 rfl ?_
                  cases h
                  exact g_ireturn dX9_shift_98 rfl ⟨rfl, rfl⟩
                · replace h := ifn b14 h
                  refine g_pc (pc' := 69) rfl ?_
                  refine g_iload_n 2 dX9_shift_69 rfl ?_
                  refine g_aload_n 0 dX9_shift_70 rfl ?_
                  refine g_getR dX9_shift_71 flX9_156 (by decide) rfl hx0 ?_
                  refine g_iload_n 1 dX9_shift_74 rfl ?_
                  obtain ⟨c15, h⟩ := chk_some h
                  refine g_iald dX9_shift_75 (sf_8_66 hx0) c15.1 c15.2 ?_
                  refine g_iload 5 dX9_shift_76 rfl ?_
                  obtain ⟨c16, h⟩ := chk_some h
                  refine g_isub dX9_shift_78 rfl c16 ?_
                  refine g_icmp_gt (tgt := 96) dX9_shift_79 (by decide) (fun b17 => ?_) (fun b17 => ?_)
                  · replace h := ifp b17 h
                    refine g_bip dX9_shift_96 rfl ?_
                    cases h
                    exact g_ireturn dX9_shift_98 rfl ⟨rfl, rfl⟩
                  · replace h := ifn b17 h
                    refine g_pc (pc' := 82) rfl ?_
                    refine g_iload 4 dX9_shift_82 rfl ?_
                    refine g_aload_n 0 dX9_shift_84 rfl ?_
                    refine g_getR dX9_shift_85 flX9_156 (by decide) rfl hx0 ?_
                    refine g_iload_n 3 dX9_shift_88 rfl ?_
                    obtain ⟨c18, h⟩ := chk_some h
                    refine g_iald dX9_shift_89 (sf_8_66 hx0) c18.1 c18.2 ?_
                    refine g_iload 5 dX9_shift_90 rfl ?_
                    obtain ⟨c19, h⟩ := chk_some h
                    refine g_isub dX9_shift_92 rfl c19 ?_
                    refine g_icmp_le (tgt := 99) dX9_shift_93 (by decide) (fun b20 => ?_) (fun b20 => ?_)
                    · replace h := ifp b20 h
                      refine g_aload_n 0 dX9_shift_99 rfl ?_
                      refine g_getR dX9_shift_100 flX9_161 (by decide) rfl hx0 ?_
                      refine g_iload_n 1 dX9_shift_103 rfl ?_
                      obtain ⟨c21, h⟩ := chk_some h
                      refine g_aald dX9_shift_104 (sf_8_67 hx0) (by decide) c21.1 c21.2 ?_
                      refine g_iload_n 2 dX9_shift_105 rfl ?_
                      refine g_aload_n 0 dX9_shift_106 rfl ?_
                      refine g_getR dX9_shift_107 flX9_164 (by decide) rfl hx0 ?_
                      refine g_iconst (v := 0) dX9_shift_110 rfl (i32l rfl) ?_
                      refine g_pc (pc' := 111) rfl ?_
                      refine g_iload 5 dX9_shift_111 rfl ?_
                      obtain ⟨c22, h⟩ := chk_some h
                      refine g_copy dX9_shift_113 mlX9_332 (sr_6 (sf_8_67 hx0) (tn_lt c21.1 c21.2)) (sf_8_68 hx0) (by decide) c22.1 c22.2.1 c22.2.2.1 c22.2.2.2.1 c22.2.2.2.2 (Nat.le_of_ble_eq_true rfl) ?_
                      refine g_nmM (fun M23 eM23 => ?_)
                      replace h := nm_s eM23 h
                      refine g_aload_n 0 dX9_shift_116 rfl ?_
                      refine g_getR dX9_shift_117 flX9_164 (by decide) rfl hx0 ?_
                      refine g_iconst (v := 0) dX9_shift_120 rfl (i32l rfl) ?_
                      refine g_aload_n 0 dX9_shift_121 rfl ?_
                      refine g_getR dX9_shift_122 flX9_161 (by decide) rfl hx0 ?_
                      refine g_iload_n 3 dX9_shift_125 rfl ?_
                      obtain ⟨c24, h⟩ := chk_some h
                      refine g_aald dX9_shift_126 (sf_8_67 hx0) (by decide) c24.1 c24.2 ?_
                      refine g_pc (pc' := 127) rfl ?_
                      refine g_iload 4 dX9_shift_127 rfl ?_
                      refine g_iload 5 dX9_shift_129 rfl ?_
                      obtain ⟨c25, h⟩ := chk_some h
                      refine g_copy dX9_shift_131 mlX9_332 (sf_8_68 hx0) (sr_6 (sf_8_67 hx0) (tn_lt c24.1 c24.2)) (by decide) c25.1 c25.2.1 c25.2.2.1 c25.2.2.2.1 c25.2.2.2.2 (Nat.le_of_ble_eq_true rfl) ?_
                      refine g_nmM (fun M26 eM26 => ?_)
                      replace h := nm_s eM26 h
                      refine g_iload 5 dX9_shift_134 rfl ?_
                      cases h
                      exact g_ireturn dX9_shift_136 rfl ⟨rfl, rfl⟩
                    · replace h := ifn b20 h
                      refine g_pc (pc' := 96) rfl ?_
                      refine g_bip dX9_shift_96 rfl ?_
                      cases h
                      exact g_ireturn dX9_shift_98 rfl ⟨rfl, rfl⟩
          · replace h := ifn b11 h
            refine g_pc (pc' := 52) rfl ?_
            refine g_bip dX9_shift_52 rfl ?_
            cases h
            exact g_ireturn dX9_shift_54 rfl ⟨rfl, rfl⟩
        · replace h := ifn b8 h
          refine g_pc (pc' := 34) rfl ?_
          refine g_bip dX9_shift_34 rfl ?_
          cases h
          exact g_ireturn dX9_shift_36 rfl ⟨rfl, rfl⟩
    · replace h := ifp b4 h
      refine g_pc (pc' := 14) rfl ?_
      refine g_iconst (v := -1) dX9_shift_14 rfl (i32l rfl) ?_
      cases h
      exact g_ireturn dX9_shift_15 rfl ⟨rfl, rfl⟩
end
