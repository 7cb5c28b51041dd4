section
set_option maxHeartbeats 8000000 in
set_option maxRecDepth 20000 in
theorem lX9_tape_l72 {X : XC} {d : Nat} {Post : Option XV → Mem → Prop} {x0 : Nat} {x1 : Int} (hx0 : Sh x0 = (18, 69)) : ∀ (n : Nat) (x4 : Int) (M : Mem) (t0 : Int × Mem), fX9_tape_l72 x0 x1 n x4 M = some t0 → Go X mX9_tape (d + 2) 95 [] [] t0.2 Post → Go X mX9_tape (d + 2) 72 [(0, XR x0), (1, XI x1), (4, XI x4)] [] M Post := by
  intro n
  induction n with
  | zero => intro _ _ _ h; cases h
  | succ n ih =>
    intro x4 M t0 h K
    unfold fX9_tape_l72 at h
    refine g_iload 2 dX9_tape_72 rfl ?_
    refine g_bip dX9_tape_74 rfl ?_
    refine g_icmp_ge (tgt := 95) dX9_tape_76 (by decide) (fun b14 => ?_) (fun b14 => ?_)
    · replace h := ifp b14 h
      cases h
      exact g_sub [] rfl K
    · replace h := ifn b14 h
      refine g_pc (pc' := 79) rfl ?_
      refine g_aload_n 0 dX9_tape_79 rfl ?_
      refine g_getR dX9_tape_80 flX9_161 (by decide) rfl hx0 ?_
      refine g_iload_n 1 dX9_tape_83 rfl ?_
      obtain ⟨c15, h⟩ := chk_some h
      refine g_aald dX9_tape_84 (sf_8_67 hx0) (by decide) c15.1 c15.2 ?_
      refine g_iload 2 dX9_tape_85 rfl ?_
      refine g_lconst (v := 0) dX9_tape_87 rfl (i64l rfl) ?_
      obtain ⟨c16, h⟩ := chk_some h
      refine g_last dX9_tape_88 (sr_6 (sf_8_67 hx0) (tn_lt c15.1 c15.2)) c16.1 c16.2 ?_
      refine g_nmM (fun M17 eM17 => ?_)
      replace h := nm_s eM17 h
      obtain ⟨c18, h⟩ := chk_some h
      refine g_iinc (ls' := [(4, XI (x4 + 1)), (0, XR x0), (1, XI x1)]) 2 dX9_tape_89 rfl rfl c18 (by decide) rfl ?_
      refine g_pc (pc' := 92) rfl ?_
      refine g_goto (tgt := 72) dX9_tape_92 (by decide) ?_
      exact g_sub [1, 2, 0] rfl (ih _ _ _ h K)
set_option maxHeartbeats 8000000 in
set_option maxRecDepth 20000 in
theorem kX9_tape {X : XC} {d : Nat} {x0 : Nat} {x1 : Int} {x2 : Int} {x3 : Int} (hx0 : Sh x0 = (18, 69)) {M : Mem} {q : Int × Mem} (h : fX9_tape x0 x1 x2 x3 M = some q) : Ct X mX9_tape (d + 2) [XR x0, XI x1, XI x2, XI x3] M (pI q) := by
  unfold fX9_tape at h
  refine ct_go (by decide +kernel) (Nat.le_of_ble_eq_true rfl) (ls := [(0, XR x0), (1, XI x1), (2, XI x2), (3, XI x3)]) rfl ?_
  refine g_iload_n 1 dX9_tape_0 rfl ?_
  obtain ⟨q1, hq1, h⟩ := bnd_some h
  refine s_I (as := [XI x1]) dX9_tape_1 mlX9_428 mdX9_isTape msX9_isTape rfl (Nat.le_of_ble_eq_true rfl) (kX9_isTape  hq1) rfl ?_
  refine g_if_ne (tgt := 9) dX9_tape_4 (by decide) (fun b2 => ?_) (fun b2 => ?_)
  · replace h := ifn b2 h
    refine g_iload_n 2 dX9_tape_9 rfl ?_
    refine g_i2l dX9_tape_10 ?_
    refine g_ldc2 (v := -1) dX9_tape_11 csX9_436 (by decide +kernel) (i64l rfl) ?_
    refine g_ldc2 (v := 4) dX9_tape_14 csX9_438 (by decide +kernel) (i64l rfl) ?_
    obtain ⟨q3, hq3, h⟩ := bnd_some h
    refine s_I (as := [XL x2, XL (-1), XL 4]) dX9_tape_17 mlX9_170 mdX9_in msX9_in rfl (Nat.le_of_ble_eq_true rfl) (kX9_in  hq3) rfl ?_
    refine g_if_eq (tgt := 33) dX9_tape_20 (by decide) (fun b4 => ?_) (fun b4 => ?_)
    · replace h := ifp b4 h
      refine g_bip dX9_tape_33 rfl ?_
      cases h
      exact g_ireturn dX9_tape_35 rfl ⟨rfl, rfl⟩
    · replace h := ifn b4 h
      refine g_pc (pc' := 23) rfl ?_
      refine g_iload_n 2 dX9_tape_23 rfl ?_
      refine g_if_lt (tgt := 36) dX9_tape_24 (by decide) (fun b5 => ?_) (fun b5 => ?_)
      · replace h := ifp b5 h
        refine g_iload_n 2 dX9_tape_36 rfl ?_
        refine g_if_lt (tgt := 47) dX9_tape_37 (by decide) (fun b6 => ?_) (fun b6 => ?_)
        · replace h := ifp b6 h
          refine g_aload_n 0 dX9_tape_47 rfl ?_
          refine g_getR dX9_tape_48 flX9_153 (by decide) rfl hx0 ?_
          refine g_iload_n 1 dX9_tape_51 rfl ?_
          refine g_iload_n 2 dX9_tape_52 rfl ?_
          obtain ⟨c7, h⟩ := chk_some h
          refine g_iast dX9_tape_53 (sf_8_65 hx0) c7.1 c7.2 ?_
          refine g_nmM (fun M8 eM8 => ?_)
          replace h := nm_s eM8 h
          refine g_aload_n 0 dX9_tape_54 rfl ?_
          refine g_getR dX9_tape_55 flX9_156 (by decide) rfl hx0 ?_
          refine g_iload_n 1 dX9_tape_58 rfl ?_
          refine g_pc (pc' := 59) rfl ?_
          refine g_iload_n 2 dX9_tape_59 rfl ?_
          obtain ⟨t10, ht10, h⟩ := bnd_some h
          have Kt10 : Go X mX9_tape (d + 2) 68 [(0, XR x0), (1, XI x1)] [XI t10, XI x1, XR (x0 + 67)] M8 (pI q) := by
            obtain ⟨c12, h⟩ := chk_some h
            refine g_iast dX9_tape_68 (sf_8_66 hx0) c12.1 c12.2 ?_
            refine g_nmM (fun M13 eM13 => ?_)
            replace h := nm_s eM13 h
            refine g_iconst (v := 0) dX9_tape_69 rfl (i32l rfl) ?_
            refine g_istore (ls' := [(4, XI 0), (0, XR x0), (1, XI x1)]) dX9_tape_70 (by decide) rfl ?_
            obtain ⟨z19, hz19, h⟩ := bnd_some h
            refine g_sub (ls' := [(0, XR x0), (1, XI x1), (4, XI 0)]) [1, 2, 0] rfl ?_
            refine lX9_tape_l72 hx0 1000 _ _ _ hz19 ?_
            refine g_iconst (v := 1) dX9_tape_95 rfl (i32l rfl) ?_
            cases h
            exact g_ireturn dX9_tape_96 rfl ⟨rfl, rfl⟩
          refine g_if_ge (tgt := 67) dX9_tape_60 (by decide) (fun b11 => ?_) (fun b11 => ?_)
          · replace ht10 := ifp b11 ht10
            refine g_iload_n 3 dX9_tape_67 rfl ?_
            cases ht10
            exact g_sub [0, 1] rfl Kt10
          · replace ht10 := ifn b11 ht10
            refine g_pc (pc' := 63) rfl ?_
            refine g_iconst (v := 0) dX9_tape_63 rfl (i32l rfl) ?_
            refine g_goto (tgt := 68) dX9_tape_64 (by decide) ?_
            cases ht10
            exact g_sub [0, 1] rfl Kt10
        · replace h := ifn b6 h
          refine g_pc (pc' := 40) rfl ?_
          refine g_iload_n 3 dX9_tape_40 rfl ?_
          refine g_if_ge (tgt := 47) dX9_tape_41 (by decide) (fun b20 => ?_) (fun b20 => ?_)
          · replace h := ifp b20 h
            refine g_aload_n 0 dX9_tape_47 rfl ?_
            refine g_getR dX9_tape_48 flX9_153 (by decide) rfl hx0 ?_
            refine g_iload_n 1 dX9_tape_51 rfl ?_
            refine g_iload_n 2 dX9_tape_52 rfl ?_
            obtain ⟨c21, h⟩ := chk_some h
            refine g_iast dX9_tape_53 (sf_8_65 hx0) c21.1 c21.2 ?_
            refine g_nmM (fun M22 eM22 => ?_)
            replace h := nm_s eM22 h
            refine g_aload_n 0 dX9_tape_54 rfl ?_
            refine g_getR dX9_tape_55 flX9_156 (by decide) rfl hx0 ?_
            refine g_iload_n 1 dX9_tape_58 rfl ?_
            refine g_pc (pc' := 59) rfl ?_
            refine g_iload_n 2 dX9_tape_59 rfl ?_
            obtain ⟨t24, ht24, h⟩ := bnd_some h
            have Kt24 : Go X mX9_tape (d + 2) 68 [(0, XR x0), (1, XI x1)] [XI t24, XI x1, XR (x0 + 67)] M22 (pI q) := by
              obtain ⟨c26, h⟩ := chk_some h
              refine g_iast dX9_tape_68 (sf_8_66 hx0) c26.1 c26.2 ?_
              refine g_nmM (fun M27 eM27 => ?_)
              replace h := nm_s eM27 h
              refine g_iconst (v := 0) dX9_tape_69 rfl (i32l rfl) ?_
              refine g_istore (ls' := [(4, XI 0), (0, XR x0), (1, XI x1)]) dX9_tape_70 (by decide) rfl ?_
              obtain ⟨z28, hz28, h⟩ := bnd_some h
              refine g_sub (ls' := [(0, XR x0), (1, XI x1), (4, XI 0)]) [1, 2, 0] rfl ?_
              refine lX9_tape_l72 hx0 1000 _ _ _ hz28 ?_
              refine g_iconst (v := 1) dX9_tape_95 rfl (i32l rfl) ?_
              cases h
              exact g_ireturn dX9_tape_96 rfl ⟨rfl, rfl⟩
            refine g_if_ge (tgt := 67) dX9_tape_60 (by decide) (fun b25 => ?_) (fun b25 => ?_)
            · replace ht24 := ifp b25 ht24
              refine g_iload_n 3 dX9_tape_67 rfl ?_
              cases ht24
              exact g_sub [0, 1] rfl Kt24
            · replace ht24 := ifn b25 ht24
              refine g_pc (pc' := 63) rfl ?_
              refine g_iconst (v := 0) dX9_tape_63 rfl (i32l rfl) ?_
              refine g_goto (tgt := 68) dX9_tape_64 (by decide) ?_
              cases ht24
              exact g_sub [0, 1] rfl Kt24
          · replace h := ifn b20 h
            refine g_pc (pc' := 44) rfl ?_
            refine g_bip dX9_tape_44 rfl ?_
            cases h
            exact g_ireturn dX9_tape_46 rfl ⟨rfl, rfl⟩
      · replace h := ifn b5 h
        refine g_pc (pc' := 27) rfl ?_
        refine g_iload_n 3 dX9_tape_27 rfl ?_
        refine g_bip dX9_tape_28 rfl ?_
        refine g_icmp_le (tgt := 36) dX9_tape_30 (by decide) (fun b29 => ?_) (fun b29 => ?_)
        · replace h := ifp b29 h
          refine g_iload_n 2 dX9_tape_36 rfl ?_
          refine g_if_lt (tgt := 47) dX9_tape_37 (by decide) (fun b30 => ?_) (fun b30 => ?_)
          · replace h := ifp b30 h
            refine g_aload_n 0 dX9_tape_47 rfl ?_
            refine g_getR dX9_tape_48 flX9_153 (by decide) rfl hx0 ?_
            refine g_iload_n 1 dX9_tape_51 rfl ?_
            refine g_iload_n 2 dX9_tape_52 rfl ?_
            obtain ⟨c31, h⟩ := chk_some h
            refine g_iast dX9_tape_53 (sf_8_65 hx0) c31.1 c31.2 ?_
            refine g_nmM (fun M32 eM32 => ?_)
            replace h := nm_s eM32 h
            refine g_aload_n 0 dX9_tape_54 rfl ?_
            refine g_getR dX9_tape_55 flX9_156 (by decide) rfl hx0 ?_
            refine g_iload_n 1 dX9_tape_58 rfl ?_
            refine g_pc (pc' := 59) rfl ?_
            refine g_iload_n 2 dX9_tape_59 rfl ?_
            obtain ⟨t34, ht34, h⟩ := bnd_some h
            have Kt34 : Go X mX9_tape (d + 2) 68 [(0, XR x0), (1, XI x1)] [XI t34, XI x1, XR (x0 + 67)] M32 (pI q) := by
              obtain ⟨c36, h⟩ := chk_some h
              refine g_iast dX9_tape_68 (sf_8_66 hx0) c36.1 c36.2 ?_
              refine g_nmM (fun M37 eM37 => ?_)
              replace h := nm_s eM37 h
              refine g_iconst (v := 0) dX9_tape_69 rfl (i32l rfl) ?_
              refine g_istore (ls' := [(4, XI 0), (0, XR x0), (1, XI x1)]) dX9_tape_70 (by decide) rfl ?_
              obtain ⟨z38, hz38, h⟩ := bnd_some h
              refine g_sub (ls' := [(0, XR x0), (1, XI x1), (4, XI 0)]) [1, 2, 0] rfl ?_
              refine lX9_tape_l72 hx0 1000 _ _ _ hz38 ?_
              refine g_iconst (v := 1) dX9_tape_95 rfl (i32l rfl) ?_
              cases h
              exact g_ireturn dX9_tape_96 rfl ⟨rfl, rfl⟩
            refine g_if_ge (tgt := 67) dX9_tape_60 (by decide) (fun b35 => ?_) (fun b35 => ?_)
            · replace ht34 := ifp b35 ht34
              refine g_iload_n 3 dX9_tape_67 rfl ?_
              cases ht34
              exact g_sub [0, 1] rfl Kt34
            · replace ht34 := ifn b35 ht34
              refine g_pc (pc' := 63) rfl ?_
              refine g_iconst (v := 0) dX9_tape_63 rfl (i32l rfl) ?_
              refine g_goto (tgt := 68) dX9_tape_64 (by decide) ?_
              cases ht34
              exact g_sub [0, 1] rfl Kt34
          · replace h := ifn b30 h
            refine g_pc (pc' := 40) rfl ?_
            refine g_iload_n 3 dX9_tape_40 rfl ?_
            refine g_if_ge (tgt := 47) dX9_tape_41 (by decide) (fun b39 => ?_) (fun b39 => ?_)
            · replace h := ifp b39 h
              refine g_aload_n 0 dX9_tape_47 rfl ?_
              refine g_getR dX9_tape_48 flX9_153 (by decide) rfl hx0 ?_
              refine g_iload_n 1 dX9_tape_51 rfl ?_
              refine g_iload_n 2 dX9_tape_52 rfl ?_
              obtain ⟨c40, h⟩ := chk_some h
              refine g_iast dX9_tape_53 (sf_8_65 hx0) c40.1 c40.2 ?_
              refine g_nmM (fun M41 eM41 => ?_)
              replace h := nm_s eM41 h
              refine g_aload_n 0 dX9_tape_54 rfl ?_
              refine g_getR dX9_tape_55 flX9_156 (by decide) rfl hx0 ?_
              refine g_iload_n 1 dX9_tape_58 rfl ?_
              refine g_pc (pc' := 59) rfl ?_
              refine g_iload_n 2 dX9_tape_59 rfl ?_
              obtain ⟨t43, ht43, h⟩ := bnd_some h
              have Kt43 : Go X mX9_tape (d + 2) 68 [(0, XR x0), (1, XI x1)] [XI t43, XI x1, XR (x0 + 67)] M41 (pI q) := by
                obtain ⟨c45, h⟩ := chk_some h
                refine g_iast dX9_tape_68 (sf_8_66 hx0) c45.1 c45.2 ?_
                refine g_nmM (fun M46 eM46 => ?_)
                replace h := nm_s eM46 h
                refine g_iconst (v := 0) dX9_tape_69 rfl (i32l rfl) ?_
                refine g_istore (ls' := [(4, XI 0), (0, XR x0), (1, XI x1)]) dX9_tape_70 (by decide) rfl ?_
                obtain ⟨z47, hz47, h⟩ := bnd_some h
                refine g_sub (ls' := [(0, XR x0), (1, XI x1), (4, XI 0)]) [1, 2, 0] rfl ?_
                refine lX9_tape_l72 hx0 1000 _ _ _ hz47 ?_
                refine g_iconst (v := 1) dX9_tape_95 rfl (i32l rfl) ?_
                cases h
                exact g_ireturn dX9_tape_96 rfl ⟨rfl, rfl⟩
              refine g_if_ge (tgt := 67) dX9_tape_60 (by decide) (fun b44 => ?_) (fun b44 => ?_)
              · replace ht43 := ifp b44 ht43
                refine g_iload_n 3 dX9_tape_67 rfl ?_
                cases ht43
                exact g_sub [0, 1] rfl Kt43
              · replace ht43 := ifn b44 ht43
                refine g_pc (pc' := 63) rfl ?_
                refine g_iconst (v := 0) dX9_tape_63 rfl (i32l rfl) ?_
                refine g_goto (tgt := 68) dX9_tape_64 (by decide) ?_
                cases ht43
                exact g_sub [0, 1] rfl Kt43
            · replace h := ifn b39 h
              refine g_pc (pc' := 44) rfl ?_
              refine g_bip dX9_tape_44 rfl ?_
              cases h
              exact g_ireturn dX9_tape_46 rfl ⟨rfl, rfl⟩
        · replace h := ifn b29 h
          refine g_pc (pc' := 33) rfl ?_
          refine g_bip dX9_tape_33 rfl ?_
          cases h
          exact g_ireturn dX9_tape_35 rfl ⟨rfl, rfl⟩
  · replace h := ifp b2 h
    refine g_pc (pc' := 7) rfl ?_
    refine g_iconst (v := -1) dX9_tape_7 rfl (i32l rfl) ?_
    cases h
    exact g_ireturn dX9_tape_8 rfl ⟨rfl, rfl⟩
set_option maxHeartbeats 8000000 in
set_option maxRecDepth 20000 in
theorem kX9_refusal {X : XC} {d : Nat} {x0 : Nat} {x1 : Int} {x2 : Int} (hx0 : Sh x0 = (18, 69)) {M : Mem} {q : Int × Mem} (h : fX9_refusal x0 x1 x2 M = some q) : Ct X mX9_refusal (d + 2) [XR x0, XI x1, XI x2] M (pI q) := by
  unfold fX9_refusal at h
  refine ct_go (by decide +kernel) (Nat.le_of_ble_eq_true rfl) (ls := [(0, XR x0), (1, XI x1), (2, XI x2)]) rfl ?_
  refine g_iload_n 1 dX9_refusal_0 rfl ?_
  obtain ⟨q1, hq1, h⟩ := bnd_some h
  refine s_I (as := [XI x1]) dX9_refusal_1 mlX9_428 mdX9_isTape msX9_isTape rfl (Nat.le_of_ble_eq_true rfl) (kX9_isTape  hq1) rfl ?_
  obtain ⟨t9, ht9, h⟩ := bnd_some h
  have Kt9 : Go X mX9_refusal (d + 2) 49 [] [XI t9.1] t9.2 (pI q) := by
    cases h
    exact g_ireturn dX9_refusal_49 rfl ⟨rfl, rfl⟩
  refine g_if_ne (tgt := 11) dX9_refusal_4 (by decide) (fun b10 => ?_) (fun b10 => ?_)
  · replace ht9 := ifn b10 ht9
    refine g_aload_n 0 dX9_refusal_11 rfl ?_
    refine g_getR dX9_refusal_12 flX9_153 (by decide) rfl hx0 ?_
    refine g_iload_n 1 dX9_refusal_15 rfl ?_
    obtain ⟨c11, ht9⟩ := chk_some ht9
    refine g_iald dX9_refusal_16 (sf_8_65 hx0) c11.1 c11.2 ?_
    refine g_if_ge (tgt := 25) dX9_refusal_17 (by decide) (fun b12 => ?_) (fun b12 => ?_)
    · replace ht9 := ifp b12 ht9
      refine g_iload_n 2 dX9_refusal_25 rfl ?_
      refine g_i2l dX9_refusal_26 ?_
      refine g_lconst (v := 0) dX9_refusal_27 rfl (i64l rfl) ?_
      refine g_aload_n 0 dX9_refusal_28 rfl ?_
      refine g_getR dX9_refusal_29 flX9_156 (by decide) rfl hx0 ?_
      refine g_iload_n 1 dX9_refusal_32 rfl ?_
      obtain ⟨c13, ht9⟩ := chk_some ht9
      refine g_iald dX9_refusal_33 (sf_8_66 hx0) c13.1 c13.2 ?_
      refine g_iconst (v := 1) dX9_refusal_34 rfl (i32l rfl) ?_
      refine g_pc (pc' := 35) rfl ?_
      obtain ⟨c14, ht9⟩ := chk_some ht9
      refine g_isub dX9_refusal_35 rfl c14 ?_
      refine g_i2l dX9_refusal_36 ?_
      obtain ⟨q15, hq15, ht9⟩ := bnd_some ht9
      refine s_I (as := [XL x2, XL 0, XL ((q1.2 (x0 + 67) (Int.toNat x1)) - 1)]) dX9_refusal_37 mlX9_170 mdX9_in msX9_in rfl (Nat.le_of_ble_eq_true rfl) (kX9_in  hq15) rfl ?_
      refine g_if_eq (tgt := 47) dX9_refusal_40 (by decide) (fun b16 => ?_) (fun b16 => ?_)
      · replace ht9 := ifp b16 ht9
        refine g_bip dX9_refusal_47 rfl ?_
        cases ht9
        exact g_sub [] rfl Kt9
      · replace ht9 := ifn b16 ht9
        refine g_pc (pc' := 43) rfl ?_
        refine g_iconst (v := 0) dX9_refusal_43 rfl (i32l rfl) ?_
        refine g_goto (tgt := 49) dX9_refusal_44 (by decide) ?_
        cases ht9
        exact g_sub [] rfl Kt9
    · replace ht9 := ifn b12 ht9
      refine g_pc (pc' := 20) rfl ?_
      refine g_bip dX9_refusal_20 rfl ?_
      refine g_goto (tgt := 49) dX9_refusal_22 (by decide) ?_
      cases ht9
      exact g_sub [] rfl Kt9
  · replace ht9 := ifp b10 ht9
    refine g_pc (pc' := 7) rfl ?_
    refine g_iconst (v := -1) dX9_refusal_7 rfl (i32l rfl) ?_
    refine g_goto (tgt := 49) dX9_refusal_8 (by decide) ?_
    cases ht9
    exact g_sub [] rfl Kt9
set_option maxHeartbeats 8000000 in
set_option maxRecDepth 20000 in
theorem kX9_item {X : XC} {d : Nat} {x0 : Nat} {x1 : Int} {x2 : Int} {x3 : Int} (hx0 : Sh x0 = (18, 69)) {M : Mem} {q : Int × Mem} (h : fX9_item x0 x1 x2 x3 M = some q) : Ct X mX9_item (d + 3) [XR x0, XI x1, XI x2, XL x3] M (pI q) := by
  unfold fX9_item at h
  refine ct_go (by decide +kernel) (Nat.le_of_ble_eq_true rfl) (ls := [(0, XR x0), (1, XI x1), (2, XI x2), (3, XL x3)]) rfl ?_
  refine g_aload_n 0 dX9_item_0 rfl ?_
  refine g_iload_n 1 dX9_item_1 rfl ?_
  refine g_iload_n 2 dX9_item_2 rfl ?_
  obtain ⟨q1, hq1, h⟩ := bnd_some h
  refine v_I (ci := 8) (as := [XI x1, XI x2]) dX9_item_3 mlX9_440 mdX9_refusal mvX9_refusal rfl hx0 rfl (Nat.le_of_ble_eq_true rfl) (kX9_refusal hx0 hq1) rfl ?_
  refine g_nmI (fun v2 ev2 => ?_)
  replace h := nm_s ev2 h
  refine g_istore (ls' := [(5, XI v2), (0, XR x0), (1, XI x1), (2, XI x2), (3, XL x3)]) dX9_item_6 (by decide) rfl ?_
  refine g_iload 0 dX9_item_8 rfl ?_
  refine g_if_eq (tgt := 16) dX9_item_10 (by decide) (fun b3 => ?_) (fun b3 => ?_)
  · replace h := ifp b3 h
    refine g_aload_n 1 dX9_item_16 rfl ?_
    refine g_getR dX9_item_17 flX9_153 (by decide) rfl hx0 ?_
    refine g_iload_n 2 dX9_item_20 rfl ?_
    obtain ⟨c4, h⟩ := chk_some h
    refine g_iald dX9_item_21 (sf_8_65 hx0) c4.1 c4.2 ?_
    refine g_nmI (fun v5 ev5 => ?_)
    replace h := nm_s ev5 h
    refine g_istore (ls' := [(6, XI v5), (5, XI v2), (0, XR x0), (1, XI x1), (2, XI x2), (3, XL x3)]) dX9_item_22 (by decide) rfl ?_
    refine g_aload_n 2 dX9_item_24 rfl ?_
    refine g_getR dX9_item_25 flX9_161 (by decide) rfl hx0 ?_
    refine g_iload_n 3 dX9_item_28 rfl ?_
    refine g_pc (pc' := 29) rfl ?_
    obtain ⟨c6, h⟩ := chk_some h
    refine g_aald dX9_item_29 (sf_8_67 hx0) (by decide) c6.1 c6.2 ?_
    refine g_iload_n 4 dX9_item_30 rfl ?_
    refine g_iload 0 dX9_item_31 rfl ?_
    obtain ⟨t12, ht12, h⟩ := bnd_some h
    have Kt12 : Go X mX9_item (d + 3) 89 [] [XL t12, XI x2, XR ((x0 + 68) + 36 + 16 * Int.toNat x1)] q1.2 (pI q) := by
      obtain ⟨c18, h⟩ := chk_some h
      refine g_last dX9_item_89 (sr_6 (sf_8_67 hx0) (tn_lt c6.1 c6.2)) c18.1 c18.2 ?_
      refine g_nmM (fun M19 eM19 => ?_)
      replace h := nm_s eM19 h
      refine g_iconst (v := 1) dX9_item_90 rfl (i32l rfl) ?_
      cases h
      exact g_ireturn dX9_item_91 rfl ⟨rfl, rfl⟩
    refine g_if_ne (tgt := 43) dX9_item_33 (by decide) (fun b13 => ?_) (fun b13 => ?_)
    · replace ht12 := ifn b13 ht12
      refine g_iload 0 dX9_item_43 rfl ?_
      refine g_iconst (v := 1) dX9_item_45 rfl (i32l rfl) ?_
      refine g_icmp_ne (tgt := 56) dX9_item_46 (by decide) (fun b14 => ?_) (fun b14 => ?_)
      · replace ht12 := ifn b14 ht12
        refine g_iload 0 dX9_item_56 rfl ?_
        refine g_iconst (v := 2) dX9_item_58 rfl (i32l rfl) ?_
        refine g_icmp_ne (tgt := 68) dX9_item_59 (by decide) (fun b15 => ?_) (fun b15 => ?_)
        · replace ht12 := ifn b15 ht12
          refine g_iload 0 dX9_item_68 rfl ?_
          refine g_iconst (v := 3) dX9_item_70 rfl (i32l rfl) ?_
          refine g_icmp_ne (tgt := 78) dX9_item_71 (by decide) (fun b16 => ?_) (fun b16 => ?_)
          · replace ht12 := ifn b16 ht12
            refine g_lload_n 5 dX9_item_78 rfl ?_
            refine g_lconst (v := 0) dX9_item_79 rfl (i64l rfl) ?_
            refine g_lcmp_eq (tgt := 88) dX9_item_80 dX9_item_81 (by decide) (fun b17 => ?_) (fun b17 => ?_)
            · replace ht12 := ifp b17 ht12
              refine g_lconst (v := 0) dX9_item_88 rfl (i64l rfl) ?_
              cases ht12
              exact g_sub [] rfl Kt12
            · replace ht12 := ifn b17 ht12
              refine g_pc (pc' := 84) rfl ?_
              refine g_lconst (v := 1) dX9_item_84 rfl (i64l rfl) ?_
              refine g_goto (tgt := 89) dX9_item_85 (by decide) ?_
              cases ht12
              exact g_sub [] rfl Kt12
          · replace ht12 := ifp b16 ht12
            refine g_pc (pc' := 74) rfl ?_
            refine g_lload_n 5 dX9_item_74 rfl ?_
            refine g_goto (tgt := 89) dX9_item_75 (by decide) ?_
            cases ht12
            exact g_sub [] rfl Kt12
        · replace ht12 := ifp b15 ht12
          refine g_pc (pc' := 62) rfl ?_
          refine g_lload_n 5 dX9_item_62 rfl ?_
          refine g_l2i dX9_item_63 ?_
          refine g_i2l dX9_item_64 ?_
          refine g_goto (tgt := 89) dX9_item_65 (by decide) ?_
          cases ht12
          exact g_sub [] rfl Kt12
      · replace ht12 := ifp b14 ht12
        refine g_pc (pc' := 49) rfl ?_
        refine g_lload_n 5 dX9_item_49 rfl ?_
        refine g_l2i dX9_item_50 ?_
        refine g_i2s dX9_item_51 ?_
        refine g_i2l dX9_item_52 ?_
        refine g_goto (tgt := 89) dX9_item_53 (by decide) ?_
        cases ht12
        exact g_sub [] rfl Kt12
    · replace ht12 := ifp b13 ht12
      refine g_pc (pc' := 36) rfl ?_
      refine g_lload_n 5 dX9_item_36 rfl ?_
      refine g_l2i dX9_item_37 ?_
      refine g_i2b dX9_item_38 ?_
      refine g_i2l dX9_item_39 ?_
      refine g_goto (tgt := 89) dX9_item_40 (by decide) ?_
      cases ht12
      exact g_sub [] rfl Kt12
  · replace h := ifn b3 h
    refine g_pc (pc' := 13) rfl ?_
    refine g_iload 0 dX9_item_13 rfl ?_
    cases h
    exact g_ireturn dX9_item_15 rfl ⟨rfl, rfl⟩
set_option maxHeartbeats 8000000 in
set_option maxRecDepth 20000 in
theorem kX9_peek {X : XC} {d : Nat} {x0 : Nat} {x1 : Int} {x2 : Int} (hx0 : Sh x0 = (18, 69)) {M : Mem} {q : Int × Mem} (h : fX9_peek x0 x1 x2 M = some q) : Ct X mX9_peek (d + 3) [XR x0, XI x1, XI x2] M (pJ q) := by
  unfold fX9_peek at h
  refine ct_go (by decide +kernel) (Nat.le_of_ble_eq_true rfl) (ls := [(0, XR x0), (1, XI x1), (2, XI x2)]) rfl ?_
  refine g_aload_n 0 dX9_peek_0 rfl ?_
  refine g_iload_n 1 dX9_peek_1 rfl ?_
  refine g_iload_n 2 dX9_peek_2 rfl ?_
  obtain ⟨q1, hq1, h⟩ := bnd_some h
  refine v_I (ci := 8) (as := [XI x1, XI x2]) dX9_peek_3 mlX9_440 mdX9_refusal mvX9_refusal rfl hx0 rfl (Nat.le_of_ble_eq_true rfl) (kX9_refusal hx0 hq1) rfl ?_
  obtain ⟨t5, ht5, h⟩ := bnd_some h
  have Kt5 : Go X mX9_peek (d + 3) 23 [] [XL t5] q1.2 (pJ q) := by
    cases h
    exact g_lreturn dX9_peek_23 rfl ⟨rfl, rfl⟩
  refine g_if_eq (tgt := 15) dX9_peek_6 (by decide) (fun b6 => ?_) (fun b6 => ?_)
  · replace ht5 := ifp b6 ht5
    refine g_aload_n 0 dX9_peek_15 rfl ?_
    refine g_getR dX9_peek_16 flX9_161 (by decide) rfl hx0 ?_
    refine g_iload_n 1 dX9_peek_19 rfl ?_
    obtain ⟨c7, ht5⟩ := chk_some ht5
    refine g_aald dX9_peek_20 (sf_8_67 hx0) (by decide) c7.1 c7.2 ?_
    refine g_iload_n 2 dX9_peek_21 rfl ?_
    obtain ⟨c8, ht5⟩ := chk_some ht5
    refine g_lald dX9_peek_22 (sr_6 (sf_8_67 hx0) (tn_lt c7.1 c7.2)) c8.1 c8.2 ?_
    cases ht5
    exact g_sub [] rfl Kt5
  · replace ht5 := ifn b6 ht5
    refine g_pc (pc' := 9) rfl ?_
    refine g_ldc2 (v := -9223372036854775808) dX9_peek_9 csX9_326 (by decide +kernel) (i64l rfl) ?_
    refine g_goto (tgt := 23) dX9_peek_12 (by decide) ?_
    cases ht5
    exact g_sub [] rfl Kt5
set_option maxHeartbeats 8000000 in
set_option maxRecDepth 20000 in
theorem kX9_shift {X : XC} {d : Nat} {x0 : Nat} {x1 : Int} {x2 : Int} {x3 : Int} {x4 : Int} {x5 : Int} (hx0 : Sh x0 = (18, 69)) {M : Mem} {q : Int × Mem} (h : fX9_shift x0 x1 x2 x3 x4 x5 M = some q) : Ct X mX9_shift (d + 2) [XR x0, XI x1, XI x2, XI x3, XI x4, XI x5] M (pI q) := by
  unfold fX9_shift at h
  refine ct_go (by decide +kernel) (Nat.le_of_ble_eq_true rfl) (ls := [(0, XR x0), (1, XI x1), (2, XI x2), (3, XI x3), (4, XI x4), (5, XI x5)]) rfl ?_
  refine g_iload_n 1 dX9_shift_0 rfl ?_
  obtain ⟨q1, hq1, h⟩ := bnd_some h
  refine s_I (as := [XI x1]) dX9_shift_1 mlX9_428 mdX9_isTape msX9_isTape rfl (Nat.le_of_ble_eq_true rfl) (kX9_isTape  hq1) rfl ?_
  refine g_if_eq (tgt := 14) dX9_shift_4 (by decide) (fun b2 => ?_) (fun b2 => ?_)
  · replace h := ifp b2 h
    refine g_iconst (v := -1) dX9_shift_14 rfl (i32l rfl) ?_
    cases h
    exact g_ireturn dX9_shift_15 rfl ⟨rfl, rfl⟩
  · replace h := ifn b2 h
    refine g_pc (pc' := 7) rfl ?_
    refine g_iload_n 3 dX9_shift_7 rfl ?_
    obtain ⟨q3, hq3, h⟩ := bnd_some h
    refine s_I (as := [XI x3]) dX9_shift_8 mlX9_428 mdX9_isTape msX9_isTape rfl (Nat.le_of_ble_eq_true rfl) (kX9_isTape  hq3) rfl ?_
    refine g_if_ne (tgt := 16) dX9_shift_11 (by decide) (fun b4 => ?_) (fun b4 => ?_)
    · replace h := ifn b4 h
      refine g_aload_n 0 dX9_shift_16 rfl ?_
      refine g_getR dX9_shift_17 flX9_153 (by decide) rfl hx0 ?_
      refine g_iload_n 1 dX9_shift_20 rfl ?_
      obtain ⟨c5, h⟩ := chk_some h
      refine g_iald dX9_shift_21 (sf_8_65 hx0) c5.1 c5.2 ?_
      refine g_if_lt (tgt := 34) dX9_shift_22 (by decide) (fun b6 => ?_) (fun b6 => ?_)
      · replace h := ifp b6 h
        refine g_bip dX9_shift_34 rfl ?_
        cases h
        exact g_ireturn dX9_shift_36 rfl ⟨rfl, rfl⟩
      · replace h := ifn b6 h
        refine g_pc (pc' := 25) rfl ?_
        refine g_aload_n 0 dX9_shift_25 rfl ?_
        refine g_getR dX9_shift_26 flX9_153 (by decide) rfl hx0 ?_
        refine g_iload_n 3 dX9_shift_29 rfl ?_
        obtain ⟨c7, h⟩ := chk_some h
        refine g_iald dX9_shift_30 (sf_8_65 hx0) c7.1 c7.2 ?_
        refine g_if_ge (tgt := 37) dX9_shift_31 (by decide) (fun b8 => ?_) (fun b8 => ?_)
        · replace h := ifp b8 h
          refine g_aload_n 0 dX9_shift_37 rfl ?_
          refine g_getR dX9_shift_38 flX9_153 (by decide) rfl hx0 ?_
          refine g_iload_n 1 dX9_shift_41 rfl ?_
          obtain ⟨c9, h⟩ := chk_some h
          refine g_iald dX9_shift_42 (sf_8_65 hx0) c9.1 c9.2 ?_
          refine g_aload_n 0 dX9_shift_43 rfl ?_
          refine g_getR dX9_shift_44 flX9_153 (by decide) rfl hx0 ?_
          refine g_iload_n 3 dX9_shift_47 rfl ?_
          obtain ⟨c10, h⟩ := chk_some h
          refine g_iald dX9_shift_48 (sf_8_65 hx0) c10.1 c10.2 ?_
          refine g_pc (pc' := 49) rfl ?_
          refine g_icmp_eq (tgt := 55) dX9_shift_49 (by decide) (fun b11 => ?_) (fun b11 => ?_)
          · replace h := ifp b11 h
            refine g_iload 5 dX9_shift_55 rfl ?_
            refine g_if_lt (tgt := 96) dX9_shift_57 (by decide) (fun b12 => ?_) (fun b12 => ?_)
            · replace h := ifp b12 h
              refine g_bip dX9_shift_96 rfl ?_
              cases h
              exact g_ireturn dX9_shift_98 rfl ⟨rfl, rfl⟩
            · replace h := ifn b12 h
              refine g_pc (pc' := 60) rfl ?_
              refine g_iload_n 2 dX9_shift_60 rfl ?_
              refine g_if_lt (tgt := 96) dX9_shift_61 (by decide) (fun b13 => ?_) (fun b13 => ?_)
              · replace h := ifp b13 h
                refine g_bip dX9_shift_96 rfl ?_
                cases h
                exact g_ireturn dX9_shift_98 rfl ⟨rfl, rfl⟩
              · replace h := ifn b13 h
                refine g_pc (pc' := 64) rfl ?_
                refine g_iload 4 dX9_shift_64 rfl ?_
                refine g_if_lt (tgt := 96) dX9_shift_66 (by decide) (fun b14 => ?_) (fun b14 => ?_)
                · replace h := ifp b14 h
                  refine g_bip dX9_shift_96 rfl ?_
                  cases h
                  exact g_ireturn dX9_shift_98 rfl ⟨rfl, rfl⟩
                · replace h := ifn b14 h
                  refine g_pc (pc' := 69) rfl ?_
                  refine g_iload_n 2 dX9_shift_69 rfl ?_
                  refine g_aload_n 0 dX9_shift_70 rfl ?_
                  refine g_getR dX9_shift_71 flX9_156 (by decide) rfl hx0 ?_
                  refine g_iload_n 1 dX9_shift_74 rfl ?_
                  obtain ⟨c15, h⟩ := chk_some h
                  refine g_iald dX9_shift_75 (sf_8_66 hx0) c15.1 c15.2 ?_
                  refine g_iload 5 dX9_shift_76 rfl ?_
                  obtain ⟨c16, h⟩ := chk_some h
                  refine g_isub dX9_shift_78 rfl c16 ?_
                  refine g_icmp_gt (tgt := 96) dX9_shift_79 (by decide) (fun b17 => ?_) (fun b17 => ?_)
                  · replace h := ifp b17 h
                    refine g_bip dX9_shift_96 rfl ?_
                    cases h
                    exact g_ireturn dX9_shift_98 rfl ⟨rfl, rfl⟩
                  · replace h := ifn b17 h
                    refine g_pc (pc' := 82) rfl ?_
                    refine g_iload 4 dX9_shift_82 rfl ?_
                    refine g_aload_n 0 dX9_shift_84 rfl ?_
                    refine g_getR dX9_shift_85 flX9_156 (by decide) rfl hx0 ?_
                    refine g_iload_n 3 dX9_shift_88 rfl ?_
                    obtain ⟨c18, h⟩ := chk_some h
                    refine g_iald dX9_shift_89 (sf_8_66 hx0) c18.1 c18.2 ?_
                    refine g_iload 5 dX9_shift_90 rfl ?_
                    obtain ⟨c19, h⟩ := chk_some h
                    refine g_isub dX9_shift_92 rfl c19 ?_
                    refine g_icmp_le (tgt := 99) dX9_shift_93 (by decide) (fun b20 => ?_) (fun b20 => ?_)
                    · replace h := ifp b20 h
                      refine g_aload_n 0 dX9_shift_99 rfl ?_
                      refine g_getR dX9_shift_100 flX9_161 (by decide) rfl hx0 ?_
                      refine g_iload_n 1 dX9_shift_103 rfl ?_
                      obtain ⟨c21, h⟩ := chk_some h
                      refine g_aald dX9_shift_104 (sf_8_67 hx0) (by decide) c21.1 c21.2 ?_
                      refine g_iload_n 2 dX9_shift_105 rfl ?_
                      refine g_aload_n 0 dX9_shift_106 rfl ?_
                      refine g_getR dX9_shift_107 flX9_164 (by decide) rfl hx0 ?_
                      refine g_iconst (v := 0) dX9_shift_110 rfl (i32l rfl) ?_
                      refine g_pc (pc' := 111) rfl ?_
                      refine g_iload 5 dX9_shift_111 rfl ?_
                      obtain ⟨c22, h⟩ := chk_some h
                      refine g_copy dX9_shift_113 mlX9_332 (sr_6 (sf_8_67 hx0) (tn_lt c21.1 c21.2)) (sf_8_68 hx0) (by decide) c22.1 c22.2.1 c22.2.2.1 c22.2.2.2.1 c22.2.2.2.2 (Nat.le_of_ble_eq_true rfl) ?_
                      refine g_nmM (fun M23 eM23 => ?_)
                      replace h := nm_s eM23 h
                      refine g_aload_n 0 dX9_shift_116 rfl ?_
                      refine g_getR dX9_shift_117 flX9_164 (by decide) rfl hx0 ?_
                      refine g_iconst (v := 0) dX9_shift_120 rfl (i32l rfl) ?_
                      refine g_aload_n 0 dX9_shift_121 rfl ?_
                      refine g_getR dX9_shift_122 flX9_161 (by decide) rfl hx0 ?_
                      refine g_iload_n 3 dX9_shift_125 rfl ?_
                      obtain ⟨c24, h⟩ := chk_some h
                      refine g_aald dX9_shift_126 (sf_8_67 hx0) (by decide) c24.1 c24.2 ?_
                      refine g_pc (pc' := 127) rfl ?_
                      refine g_iload 4 dX9_shift_127 rfl ?_
                      refine g_iload 5 dX9_shift_129 rfl ?_
                      obtain ⟨c25, h⟩ := chk_some h
                      refine g_copy dX9_shift_131 mlX9_332 (sf_8_68 hx0) (sr_6 (sf_8_67 hx0) (tn_lt c24.1 c24.2)) (by decide) c25.1 c25.2.1 c25.2.2.1 c25.2.2.2.1 c25.2.2.2.2 (Nat.le_of_ble_eq_true rfl) ?_
                      refine g_nmM (fun M26 eM26 => ?_)
                      replace h := nm_s eM26 h
                      refine g_iload 5 dX9_shift_134 rfl ?_
                      cases h
                      exact g_ireturn dX9_shift_136 rfl ⟨rfl, rfl⟩
                    · replace h := ifn b20 h
                      refine g_pc (pc' := 96) rfl ?_
                      refine g_bip dX9_shift_96 rfl ?_
                      cases h
                      exact g_ireturn dX9_shift_98 rfl ⟨rfl, rfl⟩
          · replace h := ifn b11 h
            refine g_pc (pc' := 52) rfl ?_
            refine g_bip dX9_shift_52 rfl ?_
            cases h
            exact g_ireturn dX9_shift_54 rfl ⟨rfl, rfl⟩
        · replace h := ifn b8 h
          refine g_pc (pc' := 34) rfl ?_
          refine g_bip dX9_shift_34 rfl ?_
          cases h
          exact g_ireturn dX9_shift_36 rfl ⟨rfl, rfl⟩
    · replace h := ifp b4 h
      refine g_pc (pc' := 14) rfl ?_
      refine g_iconst (v := -1) dX9_shift_14 rfl (i32l rfl) ?_
      cases h
      exact g_ireturn dX9_shift_15 rfl ⟨rfl, rfl⟩
end
