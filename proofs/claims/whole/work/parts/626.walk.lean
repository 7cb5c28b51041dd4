section
set_option maxHeartbeats 8000000 in
set_option maxRecDepth 20000 in
theorem kX9_event {X : XC} {d : Nat} {x0 : Nat} {x1 : Int} {x2 : Int} (hx0 : Sh x0 = (18, 69)) {M : Mem} {q : Int × Mem} (h : fX9_event x0 x1 x2 M = some q) : Ct X mX9_event (d + 2) [XR x0, XI x1, XI x2] M (pI q) := by
  unfold fX9_event at h
  refine ct_go (by decide +kernel) (Nat.le_of_ble_eq_true rfl) (ls := [(0, XR x0), (1, XI x1), (2, XI x2)]) rfl ?_
  refine g_iload_n 1 dX9_event_0 rfl ?_
  refine g_iconst (v := -1) dX9_event_1 rfl (i32l rfl) ?_
  refine g_icmp_ne (tgt := 12) dX9_event_2 (by decide) (fun b1 => ?_) (fun b1 => ?_)
  · replace h := ifn b1 h
    refine g_iload_n 1 dX9_event_12 rfl ?_
    refine g_i2l dX9_event_13 ?_
    refine g_lconst (v := 0) dX9_event_14 rfl (i64l rfl) ?_
    refine g_ldc2 (v := 3) dX9_event_15 csX9_313 (by decide +kernel) (i64l rfl) ?_
    obtain ⟨q2, hq2, h⟩ := bnd_some h
    refine s_I (as := [XL x1, XL 0, XL 3]) dX9_event_18 mlX9_170 mdX9_in msX9_in rfl (Nat.le_of_ble_eq_true rfl) (kX9_in  hq2) rfl ?_
    refine g_if_eq (tgt := 37) dX9_event_21 (by decide) (fun b3 => ?_) (fun b3 => ?_)
    · replace h := ifp b3 h
      refine g_iconst (v := -1) dX9_event_37 rfl (i32l rfl) ?_
      cases h
      exact g_ireturn dX9_event_38 rfl ⟨rfl, rfl⟩
    · replace h := ifn b3 h
      refine g_pc (pc' := 24) rfl ?_
      refine g_iload_n 1 dX9_event_24 rfl ?_
      refine g_iconst (v := 2) dX9_event_25 rfl (i32l rfl) ?_
      refine g_icmp_eq (tgt := 39) dX9_event_26 (by decide) (fun b4 => ?_) (fun b4 => ?_)
      · replace h := ifp b4 h
        refine g_iload_n 1 dX9_event_39 rfl ?_
        refine g_iconst (v := 2) dX9_event_40 rfl (i32l rfl) ?_
        refine g_icmp_ne (tgt := 59) dX9_event_41 (by decide) (fun b5 => ?_) (fun b5 => ?_)
        · replace h := ifn b5 h
          refine g_aload_n 0 dX9_event_59 rfl ?_
          refine g_getI dX9_event_60 flX9_366 (by decide) rfl hx0 ?_
          refine g_bip dX9_event_63 rfl ?_
          refine g_icmp_ne (tgt := 71) dX9_event_65 (by decide) (fun b6 => ?_) (fun b6 => ?_)
          · replace h := ifn b6 h
            refine g_aload_n 0 dX9_event_71 rfl ?_
            refine g_getR dX9_event_72 flX9_38 (by decide) rfl hx0 ?_
            refine g_aload_n 0 dX9_event_75 rfl ?_
            refine g_getI dX9_event_76 flX9_366 (by decide) rfl hx0 ?_
            refine g_iload_n 1 dX9_event_79 rfl ?_
            obtain ⟨c7, h⟩ := chk_some h
            refine g_iast dX9_event_80 (sf_8_12 hx0) c7.1 c7.2 ?_
            refine g_nmM (fun M8 eM8 => ?_)
            replace h := nm_s eM8 h
            refine g_aload_n 0 dX9_event_81 rfl ?_
            refine g_getR dX9_event_82 flX9_41 (by decide) rfl hx0 ?_
            refine g_pc (pc' := 85) rfl ?_
            refine g_aload_n 0 dX9_event_85 rfl ?_
            refine g_getI dX9_event_86 flX9_366 (by decide) rfl hx0 ?_
            refine g_iload_n 2 dX9_event_89 rfl ?_
            obtain ⟨c9, h⟩ := chk_some h
            refine g_iast dX9_event_90 (sf_8_13 hx0) c9.1 c9.2 ?_
            refine g_nmM (fun M10 eM10 => ?_)
            replace h := nm_s eM10 h
            refine g_aload_n 0 dX9_event_91 rfl ?_
            refine g_dupR dX9_event_92 ?_
            refine g_getI dX9_event_93 flX9_366 (by decide) rfl hx0 ?_
            refine g_iconst (v := 1) dX9_event_96 rfl (i32l rfl) ?_
            obtain ⟨c11, h⟩ := chk_some h
            refine g_iadd dX9_event_97 rfl c11 ?_
            refine g_pc (pc' := 98) rfl ?_
            refine g_putI dX9_event_98 flX9_366 (by decide) rfl hx0 ?_
            refine g_nmM (fun M12 eM12 => ?_)
            replace h := nm_s eM12 h
            refine g_aload_n 0 dX9_event_101 rfl ?_
            refine g_getI dX9_event_102 flX9_366 (by decide) rfl hx0 ?_
            cases h
            exact g_ireturn dX9_event_105 rfl ⟨rfl, rfl⟩
          · replace h := ifp b6 h
            refine g_pc (pc' := 68) rfl ?_
            refine g_bip dX9_event_68 rfl ?_
            cases h
            exact g_ireturn dX9_event_70 rfl ⟨rfl, rfl⟩
        · replace h := ifp b5 h
          refine g_pc (pc' := 44) rfl ?_
          refine g_iload_n 2 dX9_event_44 rfl ?_
          refine g_i2l dX9_event_45 ?_
          refine g_lconst (v := 1) dX9_event_46 rfl (i64l rfl) ?_
          refine g_ldc2 (v := 7) dX9_event_47 csX9_216 (by decide +kernel) (i64l rfl) ?_
          obtain ⟨q13, hq13, h⟩ := bnd_some h
          refine s_I (as := [XL x2, XL 1, XL 7]) dX9_event_50 mlX9_170 mdX9_in msX9_in rfl (Nat.le_of_ble_eq_true rfl) (kX9_in  hq13) rfl ?_
          refine g_if_ne (tgt := 59) dX9_event_53 (by decide) (fun b14 => ?_) (fun b14 => ?_)
          · replace h := ifn b14 h
            refine g_aload_n 0 dX9_event_59 rfl ?_
            refine g_getI dX9_event_60 flX9_366 (by decide) rfl hx0 ?_
            refine g_bip dX9_event_63 rfl ?_
            refine g_icmp_ne (tgt := 71) dX9_event_65 (by decide) (fun b15 => ?_) (fun b15 => ?_)
            · replace h := ifn b15 h
              refine g_aload_n 0 dX9_event_71 rfl ?_
              refine g_getR dX9_event_72 flX9_38 (by decide) rfl hx0 ?_
              refine g_aload_n 0 dX9_event_75 rfl ?_
              refine g_getI dX9_event_76 flX9_366 (by decide) rfl hx0 ?_
              refine g_iload_n 1 dX9_event_79 rfl ?_
              obtain ⟨c16, h⟩ := chk_some h
              refine g_iast dX9_event_80 (sf_8_12 hx0) c16.1 c16.2 ?_
              refine g_nmM (fun M17 eM17 => ?_)
              replace h := nm_s eM17 h
              refine g_aload_n 0 dX9_event_81 rfl ?_
              refine g_getR dX9_event_82 flX9_41 (by decide) rfl hx0 ?_
              refine g_pc (pc' := 85) rfl ?_
              refine g_aload_n 0 dX9_event_85 rfl ?_
              refine g_getI dX9_event_86 flX9_366 (by decide) rfl hx0 ?_
              refine g_iload_n 2 dX9_event_89 rfl ?_
              obtain ⟨c18, h⟩ := chk_some h
              refine g_iast dX9_event_90 (sf_8_13 hx0) c18.1 c18.2 ?_
              refine g_nmM (fun M19 eM19 => ?_)
              replace h := nm_s eM19 h
              refine g_aload_n 0 dX9_event_91 rfl ?_
              refine g_dupR dX9_event_92 ?_
              refine g_getI dX9_event_93 flX9_366 (by decide) rfl hx0 ?_
              refine g_iconst (v := 1) dX9_event_96 rfl (i32l rfl) ?_
              obtain ⟨c20, h⟩ := chk_some h
              refine g_iadd dX9_event_97 rfl c20 ?_
              refine g_pc (pc' := 98) rfl ?_
              refine g_putI dX9_event_98 flX9_366 (by decide) rfl hx0 ?_
              refine g_nmM (fun M21 eM21 => ?_)
              replace h := nm_s eM21 h
              refine g_aload_n 0 dX9_event_101 rfl ?_
              refine g_getI dX9_event_102 flX9_366 (by decide) rfl hx0 ?_
              cases h
              exact g_ireturn dX9_event_105 rfl ⟨rfl, rfl⟩
            · replace h := ifp b15 h
              refine g_pc (pc' := 68) rfl ?_
              refine g_bip dX9_event_68 rfl ?_
              cases h
              exact g_ireturn dX9_event_70 rfl ⟨rfl, rfl⟩
          · replace h := ifp b14 h
            refine g_pc (pc' := 56) rfl ?_
            refine g_bip dX9_event_56 rfl ?_
            cases h
            exact g_ireturn dX9_event_58 rfl ⟨rfl, rfl⟩
      · replace h := ifn b4 h
        refine g_pc (pc' := 29) rfl ?_
        refine g_aload_n 0 dX9_event_29 rfl ?_
        refine g_iload_n 2 dX9_event_30 rfl ?_
        obtain ⟨q22, hq22, h⟩ := bnd_some h
        refine v_I (ci := 8) (as := [XI x2]) dX9_event_31 mlX9_211 mdX9_isOne mvX9_isOne rfl hx0 rfl (Nat.le_of_ble_eq_true rfl) (kX9_isOne hx0 hq22) rfl ?_
        refine g_if_ne (tgt := 39) dX9_event_34 (by decide) (fun b23 => ?_) (fun b23 => ?_)
        · replace h := ifn b23 h
          refine g_iload_n 1 dX9_event_39 rfl ?_
          refine g_iconst (v := 2) dX9_event_40 rfl (i32l rfl) ?_
          refine g_icmp_ne (tgt := 59) dX9_event_41 (by decide) (fun b24 => ?_) (fun b24 => ?_)
          · replace h := ifn b24 h
            refine g_aload_n 0 dX9_event_59 rfl ?_
            refine g_getI dX9_event_60 flX9_366 (by decide) rfl hx0 ?_
            refine g_bip dX9_event_63 rfl ?_
            refine g_icmp_ne (tgt := 71) dX9_event_65 (by decide) (fun b25 => ?_) (fun b25 => ?_)
            · replace h := ifn b25 h
              refine g_aload_n 0 dX9_event_71 rfl ?_
              refine g_getR dX9_event_72 flX9_38 (by decide) rfl hx0 ?_
              refine g_aload_n 0 dX9_event_75 rfl ?_
              refine g_getI dX9_event_76 flX9_366 (by decide) rfl hx0 ?_
              refine g_iload_n 1 dX9_event_79 rfl ?_
              obtain ⟨c26, h⟩ := chk_some h
              refine g_iast dX9_event_80 (sf_8_12 hx0) c26.1 c26.2 ?_
              refine g_nmM (fun M27 eM27 => ?_)
              replace h := nm_s eM27 h
              refine g_aload_n 0 dX9_event_81 rfl ?_
              refine g_getR dX9_event_82 flX9_41 (by decide) rfl hx0 ?_
              refine g_pc (pc' := 85) rfl ?_
              refine g_aload_n 0 dX9_event_85 rfl ?_
              refine g_getI dX9_event_86 flX9_366 (by decide) rfl hx0 ?_
              refine g_iload_n 2 dX9_event_89 rfl ?_
              obtain ⟨c28, h⟩ := chk_some h
              refine g_iast dX9_event_90 (sf_8_13 hx0) c28.1 c28.2 ?_
              refine g_nmM (fun M29 eM29 => ?_)
              replace h := nm_s eM29 h
              refine g_aload_n 0 dX9_event_91 rfl ?_
              refine g_dupR dX9_event_92 ?_
              refine g_getI dX9_event_93 flX9_366 (by decide) rfl hx0 ?_
              refine g_iconst (v := 1) dX9_event_96 rfl (i32l rfl) ?_
              obtain ⟨c30, h⟩ := chk_some h
              refine g_iadd dX9_event_97 rfl c30 ?_
              refine g_pc (pc' := 98) rfl ?_
              refine g_putI dX9_event_98 flX9_366 (by decide) rfl hx0 ?_
              refine g_nmM (fun M31 eM31 => ?_)
              replace h := nm_s eM31 h
              refine g_aload_n 0 dX9_event_101 rfl ?_
              refine g_getI dX9_event_102 flX9_366 (by decide) rfl hx0 ?_
              cases h
              exact g_ireturn dX9_event_105 rfl ⟨rfl, rfl⟩
            · replace h := ifp b25 h
              refine g_pc (pc' := 68) rfl ?_
              refine g_bip dX9_event_68 rfl ?_
              cases h
              exact g_ireturn dX9_event_70 rfl ⟨rfl, rfl⟩
          · replace h := ifp b24 h
            refine g_pc (pc' := 44) rfl ?_
            refine g_iload_n 2 dX9_event_44 rfl ?_
            refine g_i2l dX9_event_45 ?_
            refine g_lconst (v := 1) dX9_event_46 rfl (i64l rfl) ?_
            refine g_ldc2 (v := 7) dX9_event_47 csX9_216 (by decide +kernel) (i64l rfl) ?_
            obtain ⟨q32, hq32, h⟩ := bnd_some h
            refine s_I (as := [XL x2, XL 1, XL 7]) dX9_event_50 mlX9_170 mdX9_in msX9_in rfl (Nat.le_of_ble_eq_true rfl) (kX9_in  hq32) rfl ?_
            refine g_if_ne (tgt := 59) dX9_event_53 (by decide) (fun b33 => ?_) (fun b33 => ?_)
            · replace h := ifn b33 h
              refine g_aload_n 0 dX9_event_59 rfl ?_
              refine g_getI dX9_event_60 flX9_366 (by decide) rfl hx0 ?_
              refine g_bip dX9_event_63 rfl ?_
              refine g_icmp_ne (tgt := 71) dX9_event_65 (by decide) (fun b34 => ?_) (fun b34 => ?_)
              · replace h := ifn b34 h
                refine g_aload_n 0 dX9_event_71 rfl ?_
                refine g_getR dX9_event_72 flX9_38 (by decide) rfl hx0 ?_
                refine g_aload_n 0 dX9_event_75 rfl ?_
                refine g_getI dX9_event_76 flX9_366 (by decide) rfl hx0 ?_
                refine g_iload_n 1 dX9_event_79 rfl ?_
                obtain ⟨c35, h⟩ := chk_some h
                refine g_iast dX9_event_80 (sf_8_12 hx0) c35.1 c35.2 ?_
                refine g_nmM (fun M36 eM36 => ?_)
                replace h := nm_s eM36 h
                refine g_aload_n 0 dX9_event_81 rfl ?_
                refine g_getR dX9_event_82 flX9_41 (by decide) rfl hx0 ?_
                refine g_pc (pc' := 85) rfl ?_
                refine g_aload_n 0 dX9_event_85 rfl ?_
                refine g_getI dX9_event_86 flX9_366 (by decide) rfl hx0 ?_
                refine g_iload_n 2 dX9_event_89 rfl ?_
                obtain ⟨c37, h⟩ := chk_some h
                refine g_iast dX9_event_90 (sf_8_13 hx0) c37.1 c37.2 ?_
                refine g_nmM (fun M38 eM38 => ?_)
                replace h := nm_s eM38 h
                refine g_aload_n 0 dX9_event_91 rfl ?_
                refine g_dupR dX9_event_92 ?_
                refine g_getI dX9_event_93 flX9_366 (by decide) rfl hx0 ?_
                refine g_iconst (v := 1) dX9_event_96 rfl (i32l rfl) ?_
                obtain ⟨c39, h⟩ := chk_some h
                refine g_iadd dX9_event_97 rfl c39 ?_
                refine g_pc (pc' := 98) rfl ?_
                refine g_putI dX9_event_98 flX9_366 (by decide) rfl hx0 ?_
                refine g_nmM (fun M40 eM40 => ?_)
                replace h := nm_s eM40 h
                refine g_aload_n 0 dX9_event_101 rfl ?_
                refine g_getI dX9_event_102 flX9_366 (by decide) rfl hx0 ?_
                cases h
                exact g_ireturn dX9_event_105 rfl ⟨rfl, rfl⟩
              · replace h := ifp b34 h
                refine g_pc (pc' := 68) rfl ?_
                refine g_bip dX9_event_68 rfl ?_
                cases h
                exact g_ireturn dX9_event_70 rfl ⟨rfl, rfl⟩
            · replace h := ifp b33 h
              refine g_pc (pc' := 56) rfl ?_
              refine g_bip dX9_event_56 rfl ?_
              cases h
              exact g_ireturn dX9_event_58 rfl ⟨rfl, rfl⟩
        · replace h := ifp b23 h
          refine g_pc (pc' := 37) rfl ?_
          refine g_iconst (v := -1) dX9_event_37 rfl (i32l rfl) ?_
          cases h
          exact g_ireturn dX9_event_38 rfl ⟨rfl, rfl⟩
  · replace h := ifp b1 h
    refine g_pc (pc' := 5) rfl ?_
    refine g_aload_n 0 dX9_event_5 rfl ?_
    refine g_iconst (v := 0) dX9_event_6 rfl (i32l rfl) ?_
    refine g_putI dX9_event_7 flX9_366 (by decide) rfl hx0 ?_
    refine g_nmM (fun M41 eM41 => ?_)
    replace h := nm_s eM41 h
    refine g_iconst (v := 0) dX9_event_10 rfl (i32l rfl) ?_
    cases h
    exact g_ireturn dX9_event_11 rfl ⟨rfl, rfl⟩
set_option maxHeartbeats 8000000 in
set_option maxRecDepth 20000 in
theorem lX9_happens_l32 {X : XC} {d : Nat} {Post : Option XV → Mem → Prop} {x0 : Nat} {x1 : Int} {x2 : Int} (hx0 : Sh x0 = (18, 69)) : ∀ (n : Nat) (x3 : Int) (M : Mem) (t0 : Int × Mem), fX9_happens_l32 x0 x1 x2 n x3 M = some t0 → Go X mX9_happens (d + 3) 87 [] [] t0.2 Post → Go X mX9_happens (d + 3) 32 [(0, XR x0), (1, XI x1), (2, XI x2), (3, XI x3)] [] M Post := by
  intro n
  induction n with
  | zero => intro _ _ _ h; cases h
  | succ n ih =>
    intro x3 M t0 h K
    unfold fX9_happens_l32 at h
    refine g_iload_n 1 dX9_happens_32 rfl ?_
    refine g_iconst (v := 3) dX9_happens_33 rfl (i32l rfl) ?_
    refine g_icmp_ne (tgt := 87) dX9_happens_34 (by decide) (fun b21 => ?_) (fun b21 => ?_)
    · replace h := ifn b21 h
      cases h
      exact g_sub [] rfl K
    · replace h := ifp b21 h
      refine g_pc (pc' := 37) rfl ?_
      refine g_iload_n 3 dX9_happens_37 rfl ?_
      refine g_aload_n 0 dX9_happens_38 rfl ?_
      refine g_getI dX9_happens_39 flX9_174 (by decide) rfl hx0 ?_
      refine g_icmp_ge (tgt := 87) dX9_happens_42 (by decide) (fun b22 => ?_) (fun b22 => ?_)
      · replace h := ifp b22 h
        cases h
        exact g_sub [] rfl K
      · replace h := ifn b22 h
        refine g_pc (pc' := 45) rfl ?_
        refine g_aload_n 0 dX9_happens_45 rfl ?_
        refine g_aload_n 0 dX9_happens_46 rfl ?_
        refine g_getR dX9_happens_47 flX9_19 (by decide) rfl hx0 ?_
        refine g_iload_n 3 dX9_happens_50 rfl ?_
        obtain ⟨c23, h⟩ := chk_some h
        refine g_iald dX9_happens_51 (sf_8_4 hx0) c23.1 c23.2 ?_
        obtain ⟨q24, hq24, h⟩ := bnd_some h
        refine v_I (ci := 8) (as := [XI (M (x0 + 5) (Int.toNat x3))]) dX9_happens_52 mlX9_228 mdX9_left mvX9_left rfl hx0 rfl (Nat.le_of_ble_eq_true rfl) (kX9_left hx0 hq24) rfl ?_
        refine g_nmI (fun v25 ev25 => ?_)
        replace h := nm_s ev25 h
        refine g_istore (ls' := [(4, XI v25), (0, XR x0), (1, XI x1), (2, XI x2), (3, XI x3)]) dX9_happens_55 (by decide) rfl ?_
        refine g_iload 0 dX9_happens_57 rfl ?_
        refine g_pc (pc' := 59) rfl ?_
        obtain ⟨t32, ht32, h⟩ := bnd_some h
        have Kt32 : Go X mX9_happens (d + 3) 81 [(0, XR x0), (1, XI x1), (2, XI x2), (3, XI x3)] [] t32 Post := by
          obtain ⟨c39, h⟩ := chk_some h
          refine g_iinc (ls' := [(3, XI (x3 + 1)), (0, XR x0), (1, XI x1), (2, XI x2)]) 3 dX9_happens_81 rfl rfl c39 (by decide) rfl ?_
          refine g_goto (tgt := 32) dX9_happens_84 (by decide) ?_
          exact g_sub [1, 2, 3, 0] rfl (ih _ _ _ h K)
        refine g_if_le (tgt := 81) dX9_happens_59 (by decide) (fun b33 => ?_) (fun b33 => ?_)
        · replace ht32 := ifp b33 ht32
          cases ht32
          exact g_sub [1, 2, 3, 4] rfl Kt32
        · replace ht32 := ifn b33 ht32
          refine g_pc (pc' := 62) rfl ?_
          refine g_iload 0 dX9_happens_62 rfl ?_
          refine g_iconst (v := 0) dX9_happens_64 rfl (i32l rfl) ?_
          obtain ⟨q34, hq34, ht32⟩ := bnd_some ht32
          refine s_I (as := [XI v25, XI 0]) dX9_happens_65 mlX9_181 mdX9_digitAt msX9_digitAt rfl (Nat.le_of_ble_eq_true rfl) (kX9_digitAt  hq34) rfl ?_
          refine g_iload_n 3 dX9_happens_68 rfl ?_
          refine g_iconst (v := 1) dX9_happens_69 rfl (i32l rfl) ?_
          obtain ⟨c35, ht32⟩ := chk_some ht32
          refine g_iadd dX9_happens_70 rfl c35 ?_
          refine g_icmp_ne (tgt := 81) dX9_happens_71 (by decide) (fun b36 => ?_) (fun b36 => ?_)
          · replace ht32 := ifn b36 ht32
            cases ht32
            exact g_sub [1, 2, 3, 4] rfl Kt32
          · replace ht32 := ifp b36 ht32
            refine g_pc (pc' := 74) rfl ?_
            refine g_aload_n 1 dX9_happens_74 rfl ?_
            refine g_getR dX9_happens_75 flX9_22 (by decide) rfl hx0 ?_
            refine g_iload_n 4 dX9_happens_78 rfl ?_
            refine g_iconst (v := 0) dX9_happens_79 rfl (i32l rfl) ?_
            obtain ⟨c37, ht32⟩ := chk_some ht32
            refine g_iast dX9_happens_80 (sf_8_5 hx0) c37.1 c37.2 ?_
            refine g_nmM (fun M38 eM38 => ?_)
            replace ht32 := nm_s eM38 ht32
            cases ht32
            exact g_sub [1, 2, 3, 4] rfl Kt32
set_option maxHeartbeats 8000000 in
set_option maxRecDepth 20000 in
theorem kX9_happens {X : XC} {d : Nat} {x0 : Nat} {x1 : Int} {x2 : Int} (hx0 : Sh x0 = (18, 69)) {M : Mem} {q : Int × Mem} (h : fX9_happens x0 x1 x2 M = some q) : Ct X mX9_happens (d + 3) [XR x0, XI x1, XI x2] M (pV q) := by
  unfold fX9_happens at h
  refine ct_go (by decide +kernel) (Nat.le_of_ble_eq_true rfl) (ls := [(0, XR x0), (1, XI x1), (2, XI x2)]) rfl ?_
  refine g_iload_n 1 dX9_happens_0 rfl ?_
  refine g_iconst (v := 2) dX9_happens_1 rfl (i32l rfl) ?_
  obtain ⟨t8, ht8, h⟩ := bnd_some h
  have Kt8 : Go X mX9_happens (d + 3) 20 [(0, XR x0), (1, XI x1), (2, XI x2)] [] t8 (pV q) := by
    refine g_iload_n 1 dX9_happens_20 rfl ?_
    refine g_iconst (v := 2) dX9_happens_21 rfl (i32l rfl) ?_
    obtain ⟨t18, ht18, h⟩ := bnd_some h
    have Kt18 : Go X mX9_happens (d + 3) 30 [(0, XR x0), (1, XI x1), (2, XI x2)] [] t18 (pV q) := by
      refine g_iconst (v := 0) dX9_happens_30 rfl (i32l rfl) ?_
      refine g_istore_n (ls' := [(3, XI 0), (0, XR x0), (1, XI x1), (2, XI x2)]) dX9_happens_31 (by decide) rfl ?_
      obtain ⟨z40, hz40, h⟩ := bnd_some h
      refine g_sub (ls' := [(0, XR x0), (1, XI x1), (2, XI x2), (3, XI 0)]) [1, 2, 3, 0] rfl ?_
      refine lX9_happens_l32 hx0 1000 _ _ _ hz40 ?_
      cases h
      exact g_return dX9_happens_87 rfl ⟨rfl, rfl⟩
    refine g_icmp_ne (tgt := 30) dX9_happens_22 (by decide) (fun b19 => ?_) (fun b19 => ?_)
    · replace ht18 := ifn b19 ht18
      cases ht18
      exact g_sub [0, 1, 2] rfl Kt18
    · replace ht18 := ifp b19 ht18
      refine g_pc (pc' := 25) rfl ?_
      refine g_aload_n 0 dX9_happens_25 rfl ?_
      refine g_iload_n 2 dX9_happens_26 rfl ?_
      refine g_putI dX9_happens_27 flX9_25 (by decide) rfl hx0 ?_
      refine g_nmM (fun M20 eM20 => ?_)
      replace ht18 := nm_s eM20 ht18
      cases ht18
      exact g_sub [0, 1, 2] rfl Kt18
  refine g_icmp_ge (tgt := 20) dX9_happens_2 (by decide) (fun b9 => ?_) (fun b9 => ?_)
  · replace ht8 := ifp b9 ht8
    cases ht8
    exact g_sub [0, 1, 2] rfl Kt8
  · replace ht8 := ifn b9 ht8
    refine g_pc (pc' := 5) rfl ?_
    refine g_aload_n 0 dX9_happens_5 rfl ?_
    refine g_getR dX9_happens_6 flX9_11 (by decide) rfl hx0 ?_
    refine g_iload_n 2 dX9_happens_9 rfl ?_
    refine g_iload_n 1 dX9_happens_10 rfl ?_
    obtain ⟨t11, ht11, ht8⟩ := bnd_some ht8
    have Kt11 : Go X mX9_happens (d + 3) 19 [(0, XR x0), (1, XI x1), (2, XI x2)] [XI t11, XI x2, XR (x0 + 3)] M (pV q) := by
      obtain ⟨c13, ht8⟩ := chk_some ht8
      obtain ⟨c14, ht8⟩ := chk_some ht8
      refine g_zast dX9_happens_19 (sf_8_2 hx0) c13.1 c13.2 c14 ?_
      refine g_nmM (fun M15 eM15 => ?_)
      replace ht8 := nm_s eM15 ht8
      cases ht8
      exact g_sub [0, 1, 2] rfl Kt8
    refine g_if_ne (tgt := 18) dX9_happens_11 (by decide) (fun b12 => ?_) (fun b12 => ?_)
    · replace ht11 := ifn b12 ht11
      refine g_iconst (v := 0) dX9_happens_18 rfl (i32l rfl) ?_
      cases ht11
      exact g_sub [0, 1, 2] rfl Kt11
    · replace ht11 := ifp b12 ht11
      refine g_pc (pc' := 14) rfl ?_
      refine g_iconst (v := 1) dX9_happens_14 rfl (i32l rfl) ?_
      refine g_goto (tgt := 19) dX9_happens_15 (by decide) ?_
      cases ht11
      exact g_sub [0, 1, 2] rfl Kt11
set_option maxHeartbeats 8000000 in
set_option maxRecDepth 20000 in
theorem lX9_after_l37 {X : XC} {d : Nat} {Post : Option XV → Mem → Prop} {x0 : Nat} {x1 : Int} (hx0 : Sh x0 = (18, 69)) : ∀ (n : Nat) (x2 : Int) (M : Mem) (t0 : Int × Mem), fX9_after_l37 x0 x1 n x2 M = some t0 → Go X mX9_after (d + 7) 67 [(0, XR x0), (1, XI x1)] [] t0.2 Post → Go X mX9_after (d + 7) 37 [(0, XR x0), (1, XI x1), (2, XI x2)] [] M Post := by
  intro n
  induction n with
  | zero => intro _ _ _ h; cases h
  | succ n ih =>
    intro x2 M t0 h K
    unfold fX9_after_l37 at h
    refine g_iload_n 2 dX9_after_37 rfl ?_
    refine g_aload_n 0 dX9_after_38 rfl ?_
    refine g_getI dX9_after_39 flX9_366 (by decide) rfl hx0 ?_
    refine g_icmp_ge (tgt := 67) dX9_after_42 (by decide) (fun b6 => ?_) (fun b6 => ?_)
    · replace h := ifp b6 h
      cases h
      exact g_sub [0, 1] rfl K
    · replace h := ifn b6 h
      refine g_pc (pc' := 45) rfl ?_
      refine g_aload_n 0 dX9_after_45 rfl ?_
      refine g_aload_n 0 dX9_after_46 rfl ?_
      refine g_getR dX9_after_47 flX9_38 (by decide) rfl hx0 ?_
      refine g_iload_n 2 dX9_after_50 rfl ?_
      obtain ⟨c7, h⟩ := chk_some h
      refine g_iald dX9_after_51 (sf_8_12 hx0) c7.1 c7.2 ?_
      refine g_aload_n 0 dX9_after_52 rfl ?_
      refine g_getR dX9_after_53 flX9_41 (by decide) rfl hx0 ?_
      refine g_iload_n 2 dX9_after_56 rfl ?_
      refine g_pc (pc' := 57) rfl ?_
      obtain ⟨c8, h⟩ := chk_some h
      refine g_iald dX9_after_57 (sf_8_13 hx0) c8.1 c8.2 ?_
      obtain ⟨q9, hq9, h⟩ := bnd_some h
      refine v_V (ci := 8) (as := [XI (M (x0 + 13) (Int.toNat x2)), XI (M (x0 + 14) (Int.toNat x2))]) dX9_after_58 mlX9_369 mdX9_happens mvX9_happens rfl hx0 rfl (Nat.le_of_ble_eq_true rfl) (kX9_happens hx0 hq9) rfl ?_
      obtain ⟨c10, h⟩ := chk_some h
      refine g_iinc (ls' := [(2, XI (x2 + 1)), (0, XR x0), (1, XI x1)]) 2 dX9_after_61 rfl rfl c10 (by decide) rfl ?_
      refine g_goto (tgt := 37) dX9_after_64 (by decide) ?_
      exact g_sub [1, 2, 0] rfl (ih _ _ _ h K)
set_option maxHeartbeats 8000000 in
set_option maxRecDepth 20000 in
theorem kX9_after {X : XC} {d : Nat} {x0 : Nat} (hx0 : Sh x0 = (18, 69)) {M : Mem} {q : Int × Mem} (h : fX9_after x0 M = some q) : Ct X mX9_after (d + 7) [XR x0] M (pI q) := by
  unfold fX9_after at h
  refine ct_go (by decide +kernel) (Nat.le_of_ble_eq_true rfl) (ls := [(0, XR x0)]) rfl ?_
  refine g_aload_n 0 dX9_after_0 rfl ?_
  refine g_getI dX9_after_1 flX9_25 (by decide) rfl hx0 ?_
  refine g_nmI (fun v1 ev1 => ?_)
  replace h := nm_s ev1 h
  refine g_istore_n (ls' := [(1, XI v1), (0, XR x0)]) dX9_after_4 (by decide) rfl ?_
  refine g_aload_n 1 dX9_after_5 rfl ?_
  refine g_getR dX9_after_6 flX9_11 (by decide) rfl hx0 ?_
  refine g_iconst (v := 0) dX9_after_9 rfl (i32l rfl) ?_
  refine g_aload_n 1 dX9_after_10 rfl ?_
  refine g_getR dX9_after_11 flX9_108 (by decide) rfl hx0 ?_
  refine g_pc (pc' := 14) rfl ?_
  refine g_iconst (v := 0) dX9_after_14 rfl (i32l rfl) ?_
  refine g_bip dX9_after_15 rfl ?_
  obtain ⟨c2, h⟩ := chk_some h
  refine g_copy dX9_after_17 mlX9_332 (sf_8_2 hx0) (sf_8_43 hx0) (by decide) c2.1 c2.2.1 c2.2.2.1 c2.2.2.2.1 c2.2.2.2.2 (Nat.le_of_ble_eq_true rfl) ?_
  refine g_nmM (fun M3 eM3 => ?_)
  replace h := nm_s eM3 h
  refine g_aload_n 1 dX9_after_20 rfl ?_
  refine g_getR dX9_after_21 flX9_22 (by decide) rfl hx0 ?_
  refine g_iconst (v := 0) dX9_after_24 rfl (i32l rfl) ?_
  refine g_aload_n 1 dX9_after_25 rfl ?_
  refine g_getR dX9_after_26 flX9_111 (by decide) rfl hx0 ?_
  refine g_iconst (v := 0) dX9_after_29 rfl (i32l rfl) ?_
  refine g_pc (pc' := 30) rfl ?_
  refine g_bip dX9_after_30 rfl ?_
  obtain ⟨c4, h⟩ := chk_some h
  refine g_copy dX9_after_32 mlX9_332 (sf_8_5 hx0) (sf_8_44 hx0) (by decide) c4.1 c4.2.1 c4.2.2.1 c4.2.2.2.1 c4.2.2.2.2 (Nat.le_of_ble_eq_true rfl) ?_
  refine g_nmM (fun M5 eM5 => ?_)
  replace h := nm_s eM5 h
  refine g_iconst (v := 0) dX9_after_35 rfl (i32l rfl) ?_
  refine g_istore_n (ls' := [(2, XI 0), (1, XI v1), (0, XR x0)]) dX9_after_36 (by decide) rfl ?_
  obtain ⟨z11, hz11, h⟩ := bnd_some h
  refine g_sub (ls' := [(0, XR x0), (1, XI v1), (2, XI 0)]) [2, 1, 0] rfl ?_
  refine lX9_after_l37 hx0 1000 _ _ _ hz11 ?_
  refine g_aload_n 0 dX9_after_67 rfl ?_
  obtain ⟨q12, hq12, h⟩ := bnd_some h
  refine v_I (ci := 8) (as := []) dX9_after_68 mlX9_320 mdX9_electedSet mvX9_electedSet rfl hx0 rfl (Nat.le_of_ble_eq_true rfl) (kX9_electedSet hx0 hq12) rfl ?_
  refine g_nmI (fun v13 ev13 => ?_)
  replace h := nm_s ev13 h
  refine g_istore_n (ls' := [(2, XI v13), (0, XR x0), (1, XI v1)]) dX9_after_71 (by decide) rfl ?_
  refine g_aload_n 1 dX9_after_72 rfl ?_
  refine g_iload_n 2 dX9_after_73 rfl ?_
  refine g_putI dX9_after_74 flX9_25 (by decide) rfl hx0 ?_
  refine g_nmM (fun M14 eM14 => ?_)
  replace h := nm_s eM14 h
  refine g_aload_n 1 dX9_after_77 rfl ?_
  refine g_getR dX9_after_78 flX9_108 (by decide) rfl hx0 ?_
  refine g_pc (pc' := 81) rfl ?_
  refine g_iconst (v := 0) dX9_after_81 rfl (i32l rfl) ?_
  refine g_aload_n 1 dX9_after_82 rfl ?_
  refine g_getR dX9_after_83 flX9_11 (by decide) rfl hx0 ?_
  refine g_iconst (v := 0) dX9_after_86 rfl (i32l rfl) ?_
  refine g_bip dX9_after_87 rfl ?_
  obtain ⟨c15, h⟩ := chk_some h
  refine g_copy dX9_after_89 mlX9_332 (sf_8_43 hx0) (sf_8_2 hx0) (by decide) c15.1 c15.2.1 c15.2.2.1 c15.2.2.2.1 c15.2.2.2.2 (Nat.le_of_ble_eq_true rfl) ?_
  refine g_nmM (fun M16 eM16 => ?_)
  replace h := nm_s eM16 h
  refine g_aload_n 1 dX9_after_92 rfl ?_
  refine g_getR dX9_after_93 flX9_111 (by decide) rfl hx0 ?_
  refine g_iconst (v := 0) dX9_after_96 rfl (i32l rfl) ?_
  refine g_pc (pc' := 97) rfl ?_
  refine g_aload_n 1 dX9_after_97 rfl ?_
  refine g_getR dX9_after_98 flX9_22 (by decide) rfl hx0 ?_
  refine g_iconst (v := 0) dX9_after_101 rfl (i32l rfl) ?_
  refine g_bip dX9_after_102 rfl ?_
  obtain ⟨c17, h⟩ := chk_some h
  refine g_copy dX9_after_104 mlX9_332 (sf_8_44 hx0) (sf_8_5 hx0) (by decide) c17.1 c17.2.1 c17.2.2.1 c17.2.2.2.1 c17.2.2.2.2 (Nat.le_of_ble_eq_true rfl) ?_
  refine g_nmM (fun M18 eM18 => ?_)
  replace h := nm_s eM18 h
  refine g_iload_n 0 dX9_after_107 rfl ?_
  cases h
  exact g_ireturn dX9_after_108 rfl ⟨rfl, rfl⟩
set_option maxHeartbeats 8000000 in
set_option maxRecDepth 20000 in
theorem kX9_feed {X : XC} {d : Nat} {x0 : Nat} {x1 : Int} (hx0 : Sh x0 = (18, 69)) {M : Mem} {q : Int × Mem} (h : fX9_feed x0 x1 M = some q) : Ct X mX9_feed (d + 1) [XR x0, XI x1] M (pI q) := by
  unfold fX9_feed at h
  refine ct_go (by decide +kernel) (Nat.le_of_ble_eq_true rfl) (ls := [(0, XR x0), (1, XI x1)]) rfl ?_
  refine g_iload_n 1 dX9_feed_0 rfl ?_
  refine g_i2l dX9_feed_1 ?_
  refine g_lconst (v := 0) dX9_feed_2 rfl (i64l rfl) ?_
  refine g_ldc2 (v := 127) dX9_feed_3 csX9_372 (by decide +kernel) (i64l rfl) ?_
  obtain ⟨q1, hq1, h⟩ := bnd_some h
  refine s_I (as := [XL x1, XL 0, XL 127]) dX9_feed_6 mlX9_170 mdX9_in msX9_in rfl (Nat.le_of_ble_eq_true rfl) (kX9_in  hq1) rfl ?_
  refine g_if_ne (tgt := 15) dX9_feed_9 (by decide) (fun b2 => ?_) (fun b2 => ?_)
  · replace h := ifn b2 h
    refine g_aload_n 0 dX9_feed_15 rfl ?_
    refine g_getI dX9_feed_16 flX9_374 (by decide) rfl hx0 ?_
    refine g_bip dX9_feed_19 rfl ?_
    refine g_icmp_ne (tgt := 27) dX9_feed_21 (by decide) (fun b3 => ?_) (fun b3 => ?_)
    · replace h := ifn b3 h
      refine g_aload_n 0 dX9_feed_27 rfl ?_
      refine g_getR dX9_feed_28 flX9_114 (by decide) rfl hx0 ?_
      refine g_aload_n 0 dX9_feed_31 rfl ?_
      refine g_getI dX9_feed_32 flX9_374 (by decide) rfl hx0 ?_
      refine g_iload_n 1 dX9_feed_35 rfl ?_
      obtain ⟨c4, h⟩ := chk_some h
      refine g_iast dX9_feed_36 (sf_8_45 hx0) c4.1 c4.2 ?_
      refine g_nmM (fun M5 eM5 => ?_)
      replace h := nm_s eM5 h
      refine g_aload_n 0 dX9_feed_37 rfl ?_
      refine g_dupR dX9_feed_38 ?_
      refine g_pc (pc' := 39) rfl ?_
      refine g_getI dX9_feed_39 flX9_374 (by decide) rfl hx0 ?_
      refine g_iconst (v := 1) dX9_feed_42 rfl (i32l rfl) ?_
      obtain ⟨c6, h⟩ := chk_some h
      refine g_iadd dX9_feed_43 rfl c6 ?_
      refine g_putI dX9_feed_44 flX9_374 (by decide) rfl hx0 ?_
      refine g_nmM (fun M7 eM7 => ?_)
      replace h := nm_s eM7 h
      refine g_aload_n 0 dX9_feed_47 rfl ?_
      refine g_getI dX9_feed_48 flX9_374 (by decide) rfl hx0 ?_
      cases h
      exact g_ireturn dX9_feed_51 rfl ⟨rfl, rfl⟩
    · replace h := ifp b3 h
      refine g_pc (pc' := 24) rfl ?_
      refine g_bip dX9_feed_24 rfl ?_
      cases h
      exact g_ireturn dX9_feed_26 rfl ⟨rfl, rfl⟩
  · replace h := ifp b2 h
    refine g_pc (pc' := 12) rfl ?_
    refine g_bip dX9_feed_12 rfl ?_
    cases h
    exact g_ireturn dX9_feed_14 rfl ⟨rfl, rfl⟩
set_option maxHeartbeats 8000000 in
set_option maxRecDepth 20000 in
theorem kX9_signAt {X : XC} {d : Nat} {x0 : Nat} {x1 : Int} (hx0 : Sh x0 = (18, 69)) {M : Mem} {q : Int × Mem} (h : fX9_signAt x0 x1 M = some q) : Ct X mX9_signAt d [XR x0, XI x1] M (pI q) := by
  unfold fX9_signAt at h
  refine ct_go (by decide +kernel) (Nat.le_of_ble_eq_true rfl) (ls := [(0, XR x0), (1, XI x1)]) rfl ?_
  refine g_iload_n 1 dX9_signAt_0 rfl ?_
  refine g_aload_n 0 dX9_signAt_1 rfl ?_
  refine g_getI dX9_signAt_2 flX9_374 (by decide) rfl hx0 ?_
  obtain ⟨t3, ht3, h⟩ := bnd_some h
  have Kt3 : Go X mX9_signAt d 18 [] [XI t3] M (pI q) := by
    cases h
    exact g_ireturn dX9_signAt_18 rfl ⟨rfl, rfl⟩
  refine g_icmp_ge (tgt := 17) dX9_signAt_5 (by decide) (fun b4 => ?_) (fun b4 => ?_)
  · replace ht3 := ifp b4 ht3
    refine g_iconst (v := -1) dX9_signAt_17 rfl (i32l rfl) ?_
    cases ht3
    exact g_sub [] rfl Kt3
  · replace ht3 := ifn b4 ht3
    refine g_pc (pc' := 8) rfl ?_
    refine g_aload_n 0 dX9_signAt_8 rfl ?_
    refine g_getR dX9_signAt_9 flX9_114 (by decide) rfl hx0 ?_
    refine g_iload_n 1 dX9_signAt_12 rfl ?_
    obtain ⟨c5, ht3⟩ := chk_some ht3
    refine g_iald dX9_signAt_13 (sf_8_45 hx0) c5.1 c5.2 ?_
    refine g_goto (tgt := 18) dX9_signAt_14 (by decide) ?_
    cases ht3
    exact g_sub [] rfl Kt3
set_option maxHeartbeats 8000000 in
set_option maxRecDepth 20000 in
theorem kX9_fails {X : XC} {d : Nat} {x0 : Nat} {x1 : Int} (hx0 : Sh x0 = (18, 69)) {M : Mem} {q : Int × Mem} (h : fX9_fails x0 x1 M = some q) : Ct X mX9_fails d [XR x0, XI x1] M (pV q) := by
  unfold fX9_fails at h
  refine ct_go (by decide +kernel) (Nat.le_of_ble_eq_true rfl) (ls := [(0, XR x0), (1, XI x1)]) rfl ?_
  refine g_aload_n 0 dX9_fails_0 rfl ?_
  refine g_getI dX9_fails_1 flX9_377 (by decide) rfl hx0 ?_
  refine g_if_lt (tgt := 8) dX9_fails_4 (by decide) (fun b1 => ?_) (fun b1 => ?_)
  · replace h := ifp b1 h
    refine g_aload_n 0 dX9_fails_8 rfl ?_
    refine g_aload_n 0 dX9_fails_9 rfl ?_
    refine g_getI dX9_fails_10 flX9_380 (by decide) rfl hx0 ?_
    refine g_putI dX9_fails_13 flX9_377 (by decide) rfl hx0 ?_
    refine g_nmM (fun M2 eM2 => ?_)
    replace h := nm_s eM2 h
    refine g_aload_n 0 dX9_fails_16 rfl ?_
    refine g_iload_n 1 dX9_fails_17 rfl ?_
    obtain ⟨c3, h⟩ := chk_some h
    refine g_putZ dX9_fails_18 flX9_383 (by decide) rfl hx0 c3 ?_
    refine g_nmM (fun M4 eM4 => ?_)
    replace h := nm_s eM4 h
    cases h
    exact g_return dX9_fails_21 rfl ⟨rfl, rfl⟩
  · replace h := ifn b1 h
    refine g_pc (pc' := 7) rfl ?_
    cases h
    exact g_return dX9_fails_7 rfl ⟨rfl, rfl⟩
end
