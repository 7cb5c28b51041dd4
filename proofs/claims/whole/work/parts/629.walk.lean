section
set_option maxHeartbeats 8000000 in
set_option maxRecDepth 20000 in
theorem kX9_done {X : XC} {d : Nat} {x0 : Nat} {x1 : Int} (hx0 : Sh x0 = (18, 69)) {M : Mem} {q : Int × Mem} (h : fX9_done x0 x1 M = some q) : Ct X mX9_done (d + 3) [XR x0, XI x1] M (pI q) := by
  unfold fX9_done at h
  refine ct_go (by decide +kernel) (Nat.le_of_ble_eq_true rfl) (ls := [(0, XR x0), (1, XI x1)]) rfl ?_
  refine g_aload_n 0 dX9_done_0 rfl ?_
  refine g_getR dX9_done_1 flX9_117 (by decide) rfl hx0 ?_
  refine g_iload_n 1 dX9_done_4 rfl ?_
  obtain ⟨c1, h⟩ := chk_some h
  refine g_iald dX9_done_5 (sf_8_52 hx0) c1.1 c1.2 ?_
  by_cases b2 : (M (x0 + 53) (Int.toNat x1)) = 98
  · replace h := ifp b2 h
    refine g_lsw (off := 47) (tgt := 53) dX9_done_6 (by decide) (by rw [b2]; rfl) (by decide) ?_
    refine g_aload_n 0 dX9_done_53 rfl ?_
    refine g_aload_n 0 dX9_done_54 rfl ?_
    refine g_getR dX9_done_55 flX9_120 (by decide) rfl hx0 ?_
    refine g_iload_n 1 dX9_done_58 rfl ?_
    obtain ⟨c3, h⟩ := chk_some h
    refine g_iald dX9_done_59 (sf_8_53 hx0) c3.1 c3.2 ?_
    refine g_aload_n 0 dX9_done_60 rfl ?_
    refine g_getR dX9_done_61 flX9_123 (by decide) rfl hx0 ?_
    refine g_iload_n 1 dX9_done_64 rfl ?_
    refine g_pc (pc' := 65) rfl ?_
    obtain ⟨c4, h⟩ := chk_some h
    refine g_iald dX9_done_65 (sf_8_54 hx0) c4.1 c4.2 ?_
    obtain ⟨q5, hq5, h⟩ := bnd_some h
    refine v_I (ci := 8) (as := [XI (M (x0 + 54) (Int.toNat x1)), XI (M (x0 + 55) (Int.toNat x1))]) dX9_done_66 mlX9_409 mdX9_ballot mvX9_ballot rfl hx0 rfl (Nat.le_of_ble_eq_true rfl) (kX9_ballot hx0 hq5) rfl ?_
    cases h
    exact g_ireturn dX9_done_69 rfl ⟨rfl, rfl⟩
  · replace h := ifn b2 h
    by_cases b6 : (M (x0 + 53) (Int.toNat x1)) = 99
    · replace h := ifp b6 h
      refine g_lsw (off := 42) (tgt := 48) dX9_done_6 (by decide) (by rw [b6]; rfl) (by decide) ?_
      refine g_aload_n 0 dX9_done_48 rfl ?_
      obtain ⟨q7, hq7, h⟩ := bnd_some h
      refine v_I (ci := 8) (as := []) dX9_done_49 mlX9_406 mdX9_candidate mvX9_candidate rfl hx0 rfl (Nat.le_of_ble_eq_true rfl) (kX9_candidate hx0 hq7) rfl ?_
      cases h
      exact g_ireturn dX9_done_52 rfl ⟨rfl, rfl⟩
    · replace h := ifn b6 h
      by_cases b8 : (M (x0 + 53) (Int.toNat x1)) = 108
      · replace h := ifp b8 h
        refine g_lsw (off := 76) (tgt := 82) dX9_done_6 (by decide) (by rw [b8]; rfl) (by decide) ?_
        refine g_aload_n 0 dX9_done_82 rfl ?_
        refine g_iconst (v := 1) dX9_done_83 rfl (i32l rfl) ?_
        refine g_aload_n 0 dX9_done_84 rfl ?_
        refine g_getR dX9_done_85 flX9_120 (by decide) rfl hx0 ?_
        refine g_iload_n 1 dX9_done_88 rfl ?_
        obtain ⟨c9, h⟩ := chk_some h
        refine g_iald dX9_done_89 (sf_8_53 hx0) c9.1 c9.2 ?_
        obtain ⟨q10, hq10, h⟩ := bnd_some h
        refine v_I (ci := 8) (as := [XI 1, XI (M (x0 + 54) (Int.toNat x1))]) dX9_done_90 mlX9_412 mdX9_set mvX9_set rfl hx0 rfl (Nat.le_of_ble_eq_true rfl) (kX9_set hx0 hq10) rfl ?_
        cases h
        exact g_ireturn dX9_done_93 rfl ⟨rfl, rfl⟩
      · replace h := ifn b8 h
        by_cases b11 : (M (x0 + 53) (Int.toNat x1)) = 115
        · replace h := ifp b11 h
          refine g_lsw (off := 64) (tgt := 70) dX9_done_6 (by decide) (by rw [b11]; rfl) (by decide) ?_
          refine g_aload_n 0 dX9_done_70 rfl ?_
          refine g_iconst (v := 0) dX9_done_71 rfl (i32l rfl) ?_
          refine g_aload_n 0 dX9_done_72 rfl ?_
          refine g_getR dX9_done_73 flX9_120 (by decide) rfl hx0 ?_
          refine g_iload_n 1 dX9_done_76 rfl ?_
          obtain ⟨c12, h⟩ := chk_some h
          refine g_iald dX9_done_77 (sf_8_53 hx0) c12.1 c12.2 ?_
          obtain ⟨q13, hq13, h⟩ := bnd_some h
          refine v_I (ci := 8) (as := [XI 0, XI (M (x0 + 54) (Int.toNat x1))]) dX9_done_78 mlX9_412 mdX9_set mvX9_set rfl hx0 rfl (Nat.le_of_ble_eq_true rfl) (kX9_set hx0 hq13) rfl ?_
          cases h
          exact g_ireturn dX9_done_81 rfl ⟨rfl, rfl⟩
        · replace h := ifn b11 h
          refine g_lsw (off := 88) (tgt := 94) dX9_done_6 (by decide) (by simp [Op.lookupswitch.offset, Ne.symm b2, b2, Ne.symm b6, b6, Ne.symm b8, b8, Ne.symm b11, b11]) (by decide) ?_
          refine g_aload_n 0 dX9_done_94 rfl ?_
          refine g_aload_n 0 dX9_done_95 rfl ?_
          refine g_getR dX9_done_96 flX9_120 (by decide) rfl hx0 ?_
          refine g_iload_n 1 dX9_done_99 rfl ?_
          obtain ⟨c14, h⟩ := chk_some h
          refine g_iald dX9_done_100 (sf_8_53 hx0) c14.1 c14.2 ?_
          refine g_iconst (v := 1) dX9_done_101 rfl (i32l rfl) ?_
          obtain ⟨q15, hq15, h⟩ := bnd_some h
          refine v_I (ci := 8) (as := [XI (M (x0 + 54) (Int.toNat x1)), XI 1]) dX9_done_102 mlX9_415 mdX9_gone mvX9_gone rfl hx0 rfl (Nat.le_of_ble_eq_true rfl) (kX9_gone hx0 hq15) rfl ?_
          cases h
          exact g_ireturn dX9_done_105 rfl ⟨rfl, rfl⟩
set_option maxHeartbeats 8000000 in
set_option maxRecDepth 20000 in
theorem kX9_faulty {X : XC} {d : Nat} {x0 : Nat} (hx0 : Sh x0 = (18, 69)) {M : Mem} {q : Int × Mem} (h : fX9_faulty x0 M = some q) : Ct X mX9_faulty (d + 1) [XR x0] M (pI q) := by
  unfold fX9_faulty at h
  refine ct_go (by decide +kernel) (Nat.le_of_ble_eq_true rfl) (ls := [(0, XR x0)]) rfl ?_
  refine g_aload_n 0 dX9_faulty_0 rfl ?_
  refine g_getI dX9_faulty_1 flX9_397 (by decide) rfl hx0 ?_
  refine g_iconst (v := -1) dX9_faulty_4 rfl (i32l rfl) ?_
  obtain ⟨t2, ht2, h⟩ := bnd_some h
  have Kt2 : Go X mX9_faulty (d + 1) 13 [(0, XR x0)] [XI t2] M (pI q) := by
    refine g_istore_n (ls' := [(1, XI t2), (0, XR x0)]) dX9_faulty_13 (by decide) rfl ?_
    refine g_aload_n 1 dX9_faulty_14 rfl ?_
    refine g_iload_n 0 dX9_faulty_15 rfl ?_
    refine g_iconst (v := 1) dX9_faulty_16 rfl (i32l rfl) ?_
    obtain ⟨c4, h⟩ := chk_some h
    refine g_iadd dX9_faulty_17 rfl c4 ?_
    refine g_putI dX9_faulty_18 flX9_187 (by decide) rfl hx0 ?_
    refine g_nmM (fun M5 eM5 => ?_)
    replace h := nm_s eM5 h
    refine g_aload_n 1 dX9_faulty_21 rfl ?_
    refine g_getR dX9_faulty_22 flX9_47 (by decide) rfl hx0 ?_
    refine g_pc (pc' := 25) rfl ?_
    refine g_iconst (v := 0) dX9_faulty_25 rfl (i32l rfl) ?_
    refine g_iconst (v := 1) dX9_faulty_26 rfl (i32l rfl) ?_
    refine g_iast dX9_faulty_27 (sf_8_16 hx0) (by decide) (by decide) ?_
    refine g_nmM (fun M6 eM6 => ?_)
    replace h := nm_s eM6 h
    refine g_aload_n 1 dX9_faulty_28 rfl ?_
    refine g_getR dX9_faulty_29 flX9_50 (by decide) rfl hx0 ?_
    refine g_iconst (v := 0) dX9_faulty_32 rfl (i32l rfl) ?_
    refine g_aload_n 1 dX9_faulty_33 rfl ?_
    refine g_getI dX9_faulty_34 flX9_400 (by decide) rfl hx0 ?_
    refine g_iast dX9_faulty_37 (sf_8_17 hx0) (by decide) (by decide) ?_
    refine g_nmM (fun M7 eM7 => ?_)
    replace h := nm_s eM7 h
    refine g_pc (pc' := 38) rfl ?_
    refine g_aload_n 1 dX9_faulty_38 rfl ?_
    refine g_getR dX9_faulty_39 flX9_47 (by decide) rfl hx0 ?_
    refine g_iconst (v := 1) dX9_faulty_42 rfl (i32l rfl) ?_
    refine g_iconst (v := 2) dX9_faulty_43 rfl (i32l rfl) ?_
    refine g_iast dX9_faulty_44 (sf_8_16 hx0) (by decide) (by decide) ?_
    refine g_nmM (fun M8 eM8 => ?_)
    replace h := nm_s eM8 h
    refine g_aload_n 1 dX9_faulty_45 rfl ?_
    refine g_getR dX9_faulty_46 flX9_50 (by decide) rfl hx0 ?_
    refine g_iconst (v := 1) dX9_faulty_49 rfl (i32l rfl) ?_
    refine g_aload_n 1 dX9_faulty_50 rfl ?_
    refine g_pc (pc' := 51) rfl ?_
    refine g_getI dX9_faulty_51 flX9_397 (by decide) rfl hx0 ?_
    refine g_iast dX9_faulty_54 (sf_8_17 hx0) (by decide) (by decide) ?_
    refine g_nmM (fun M9 eM9 => ?_)
    replace h := nm_s eM9 h
    refine g_aload_n 1 dX9_faulty_55 rfl ?_
    refine g_getR dX9_faulty_56 flX9_47 (by decide) rfl hx0 ?_
    refine g_iload_n 0 dX9_faulty_59 rfl ?_
    refine g_aload_n 1 dX9_faulty_60 rfl ?_
    refine g_getZ dX9_faulty_61 flX9_383 (by decide) rfl hx0 ?_
    obtain ⟨t11, ht11, h⟩ := bnd_some h
    have Kt11 : Go X mX9_faulty (d + 1) 72 [(0, XR x0), (1, XI t2)] [XI t11, XI t2, XR (x0 + 17)] M9 (pI q) := by
      obtain ⟨c13, h⟩ := chk_some h
      refine g_iast dX9_faulty_72 (sf_8_16 hx0) c13.1 c13.2 ?_
      refine g_nmM (fun M14 eM14 => ?_)
      replace h := nm_s eM14 h
      refine g_aload_n 0 dX9_faulty_73 rfl ?_
      refine g_getR dX9_faulty_74 flX9_50 (by decide) rfl hx0 ?_
      refine g_iload_n 1 dX9_faulty_77 rfl ?_
      refine g_aload_n 0 dX9_faulty_78 rfl ?_
      refine g_getZ dX9_faulty_79 flX9_383 (by decide) rfl hx0 ?_
      obtain ⟨t17, ht17, h⟩ := bnd_some h
      have Kt17 : Go X mX9_faulty (d + 1) 100 [(0, XR x0)] [XI t17.1, XI t2, XR (x0 + 18)] t17.2 (pI q) := by
        obtain ⟨c20, h⟩ := chk_some h
        refine g_iast dX9_faulty_100 (sf_8_17 hx0) c20.1 c20.2 ?_
        refine g_nmM (fun M21 eM21 => ?_)
        replace h := nm_s eM21 h
        refine g_bip dX9_faulty_101 rfl ?_
        refine g_aload_n 0 dX9_faulty_103 rfl ?_
        refine g_getI dX9_faulty_104 flX9_377 (by decide) rfl hx0 ?_
        obtain ⟨c22, h⟩ := chk_some h
        refine g_isub dX9_faulty_107 rfl c22 ?_
        cases h
        exact g_ireturn dX9_faulty_108 rfl ⟨rfl, rfl⟩
      refine g_if_eq (tgt := 92) dX9_faulty_82 (by decide) (fun b18 => ?_) (fun b18 => ?_)
      · replace ht17 := ifp b18 ht17
        refine g_aload_n 0 dX9_faulty_92 rfl ?_
        refine g_aload_n 0 dX9_faulty_93 rfl ?_
        refine g_getI dX9_faulty_94 flX9_377 (by decide) rfl hx0 ?_
        obtain ⟨q19, hq19, ht17⟩ := bnd_some ht17
        refine v_I (ci := 8) (as := [XI (M14 x0 48)]) dX9_faulty_97 mlX9_387 mdX9_signAt mvX9_signAt rfl hx0 rfl (Nat.le_of_ble_eq_true rfl) (kX9_signAt hx0 hq19) rfl ?_
        cases ht17
        exact g_sub [0] rfl Kt17
      · replace ht17 := ifn b18 ht17
        refine g_pc (pc' := 85) rfl ?_
        refine g_aload_n 0 dX9_faulty_85 rfl ?_
        refine g_getI dX9_faulty_86 flX9_377 (by decide) rfl hx0 ?_
        refine g_goto (tgt := 100) dX9_faulty_89 (by decide) ?_
        cases ht17
        exact g_sub [0] rfl Kt17
    refine g_if_eq (tgt := 71) dX9_faulty_64 (by decide) (fun b12 => ?_) (fun b12 => ?_)
    · replace ht11 := ifp b12 ht11
      refine g_iconst (v := 4) dX9_faulty_71 rfl (i32l rfl) ?_
      cases ht11
      exact g_sub [1, 0] rfl Kt11
    · replace ht11 := ifn b12 ht11
      refine g_pc (pc' := 67) rfl ?_
      refine g_iconst (v := 3) dX9_faulty_67 rfl (i32l rfl) ?_
      refine g_goto (tgt := 72) dX9_faulty_68 (by decide) ?_
      cases ht11
      exact g_sub [1, 0] rfl Kt11
  refine g_icmp_ne (tgt := 12) dX9_faulty_5 (by decide) (fun b3 => ?_) (fun b3 => ?_)
  · replace ht2 := ifn b3 ht2
    refine g_iconst (v := 2) dX9_faulty_12 rfl (i32l rfl) ?_
    cases ht2
    exact g_sub [0] rfl Kt2
  · replace ht2 := ifp b3 ht2
    refine g_pc (pc' := 8) rfl ?_
    refine g_iconst (v := 1) dX9_faulty_8 rfl (i32l rfl) ?_
    refine g_goto (tgt := 13) dX9_faulty_9 (by decide) ?_
    cases ht2
    exact g_sub [0] rfl Kt2
set_option maxHeartbeats 8000000 in
set_option maxRecDepth 20000 in
theorem lX9_read_l19 {X : XC} {d : Nat} {Post : Option XV → Mem → Prop} {x0 : Nat} (hx0 : Sh x0 = (18, 69)) : ∀ (n : Nat)  (M : Mem) (t0 : Mem), fX9_read_l19 x0 n  M = some t0 → Go X mX9_read (d + 4) 90 [(0, XR x0)] [] t0 Post → Go X mX9_read (d + 4) 19 [(0, XR x0)] [] M Post := by
  intro n
  induction n with
  | zero => intro _ _ h; cases h
  | succ n ih =>
    intro  M t0 h K
    unfold fX9_read_l19 at h
    refine g_aload_n 0 dX9_read_19 rfl ?_
    refine g_getI dX9_read_20 flX9_377 (by decide) rfl hx0 ?_
    refine g_if_ge (tgt := 90) dX9_read_23 (by decide) (fun b5 => ?_) (fun b5 => ?_)
    · replace h := ifp b5 h
      cases h
      exact g_sub [0] rfl K
    · replace h := ifn b5 h
      refine g_pc (pc' := 26) rfl ?_
      refine g_aload_n 0 dX9_read_26 rfl ?_
      refine g_getI dX9_read_27 flX9_380 (by decide) rfl hx0 ?_
      refine g_aload_n 0 dX9_read_30 rfl ?_
      refine g_getI dX9_read_31 flX9_374 (by decide) rfl hx0 ?_
      refine g_icmp_ge (tgt := 90) dX9_read_34 (by decide) (fun b6 => ?_) (fun b6 => ?_)
      · replace h := ifp b6 h
        cases h
        exact g_sub [0] rfl K
      · replace h := ifn b6 h
        refine g_pc (pc' := 37) rfl ?_
        refine g_aload_n 0 dX9_read_37 rfl ?_
        refine g_getR dX9_read_38 flX9_114 (by decide) rfl hx0 ?_
        refine g_aload_n 0 dX9_read_41 rfl ?_
        refine g_getI dX9_read_42 flX9_380 (by decide) rfl hx0 ?_
        obtain ⟨c7, h⟩ := chk_some h
        refine g_iald dX9_read_45 (sf_8_45 hx0) c7.1 c7.2 ?_
        refine g_bip dX9_read_46 rfl ?_
        refine g_icmp_ne (tgt := 60) dX9_read_48 (by decide) (fun b8 => ?_) (fun b8 => ?_)
        · replace h := ifn b8 h
          refine g_aload_n 0 dX9_read_60 rfl ?_
          refine g_iconst (v := -1) dX9_read_61 rfl (i32l rfl) ?_
          refine g_putI dX9_read_62 flX9_397 (by decide) rfl hx0 ?_
          refine g_nmM (fun M9 eM9 => ?_)
          replace h := nm_s eM9 h
          refine g_aload_n 0 dX9_read_65 rfl ?_
          refine g_iconst (v := 0) dX9_read_66 rfl (i32l rfl) ?_
          obtain ⟨q10, hq10, h⟩ := bnd_some h
          refine v_V (ci := 8) (as := [XI 0]) dX9_read_67 mlX9_394 mdX9_fails mvX9_fails rfl hx0 rfl (Nat.le_of_ble_eq_true rfl) (kX9_fails hx0 hq10) rfl ?_
          refine g_goto (tgt := 19) dX9_read_70 (by decide) ?_
          exact g_sub [0] rfl (ih  _ _ h K)
        · replace h := ifp b8 h
          refine g_pc (pc' := 51) rfl ?_
          refine g_aload_n 0 dX9_read_51 rfl ?_
          refine g_getI dX9_read_52 flX9_400 (by decide) rfl hx0 ?_
          refine g_bip dX9_read_55 rfl ?_
          refine g_icmp_ne (tgt := 73) dX9_read_57 (by decide) (fun b11 => ?_) (fun b11 => ?_)
          · replace h := ifn b11 h
            refine g_aload_n 0 dX9_read_73 rfl ?_
            refine g_dupR dX9_read_74 ?_
            refine g_getI dX9_read_75 flX9_380 (by decide) rfl hx0 ?_
            refine g_iconst (v := 1) dX9_read_78 rfl (i32l rfl) ?_
            obtain ⟨c12, h⟩ := chk_some h
            refine g_iadd dX9_read_79 rfl c12 ?_
            refine g_putI dX9_read_80 flX9_380 (by decide) rfl hx0 ?_
            refine g_nmM (fun M13 eM13 => ?_)
            replace h := nm_s eM13 h
            refine g_aload_n 0 dX9_read_83 rfl ?_
            obtain ⟨q14, hq14, h⟩ := bnd_some h
            refine v_V (ci := 8) (as := []) dX9_read_84 mlX9_419 mdX9_clauseRead mvX9_clauseRead rfl hx0 rfl (Nat.le_of_ble_eq_true rfl) (kX9_clauseRead hx0 hq14) rfl ?_
            refine g_pc (pc' := 87) rfl ?_
            refine g_goto (tgt := 19) dX9_read_87 (by decide) ?_
            exact g_sub [0] rfl (ih  _ _ h K)
          · replace h := ifp b11 h
            refine g_pc (pc' := 60) rfl ?_
            refine g_aload_n 0 dX9_read_60 rfl ?_
            refine g_iconst (v := -1) dX9_read_61 rfl (i32l rfl) ?_
            refine g_putI dX9_read_62 flX9_397 (by decide) rfl hx0 ?_
            refine g_nmM (fun M15 eM15 => ?_)
            replace h := nm_s eM15 h
            refine g_aload_n 0 dX9_read_65 rfl ?_
            refine g_iconst (v := 0) dX9_read_66 rfl (i32l rfl) ?_
            obtain ⟨q16, hq16, h⟩ := bnd_some h
            refine v_V (ci := 8) (as := [XI 0]) dX9_read_67 mlX9_394 mdX9_fails mvX9_fails rfl hx0 rfl (Nat.le_of_ble_eq_true rfl) (kX9_fails hx0 hq16) rfl ?_
            refine g_goto (tgt := 19) dX9_read_70 (by decide) ?_
            exact g_sub [0] rfl (ih  _ _ h K)
set_option maxHeartbeats 8000000 in
set_option maxRecDepth 20000 in
theorem lX9_read_l121 {X : XC} {d : Nat} {Post : Option XV → Mem → Prop} {x0 : Nat} (hx0 : Sh x0 = (18, 69)) : ∀ (n : Nat) (x2 x3 : Int) (M : Mem) (t0 : Int × Int × Mem), fX9_read_l121 x0 n x2 x3 M = some t0 → Go X mX9_read (d + 4) 146 [(2, XI t0.1)] [] t0.2.2 Post → Go X mX9_read (d + 4) 121 [(0, XR x0), (2, XI x2), (3, XI x3)] [] M Post := by
  intro n
  induction n with
  | zero => intro _ _ _ _ h; cases h
  | succ n ih =>
    intro x2 x3 M t0 h K
    unfold fX9_read_l121 at h
    refine g_iload_n 2 dX9_read_121 rfl ?_
    refine g_aload_n 0 dX9_read_122 rfl ?_
    refine g_getI dX9_read_123 flX9_400 (by decide) rfl hx0 ?_
    refine g_icmp_ge (tgt := 146) dX9_read_126 (by decide) (fun b26 => ?_) (fun b26 => ?_)
    · replace h := ifp b26 h
      cases h
      exact g_sub [1] rfl K
    · replace h := ifn b26 h
      refine g_pc (pc' := 129) rfl ?_
      refine g_aload_n 0 dX9_read_129 rfl ?_
      refine g_iload_n 2 dX9_read_130 rfl ?_
      obtain ⟨q27, hq27, h⟩ := bnd_some h
      refine v_I (ci := 8) (as := [XI x3]) dX9_read_131 mlX9_425 mdX9_done mvX9_done rfl hx0 rfl (Nat.le_of_ble_eq_true rfl) (kX9_done hx0 hq27) rfl ?_
      obtain ⟨t30, ht30, h⟩ := bnd_some h
      have Kt30 : Go X mX9_read (d + 4) 140 [(0, XR x0), (2, XI t30), (3, XI x3)] [] q27.2 Post := by
        obtain ⟨c33, h⟩ := chk_some h
        refine g_iinc (ls' := [(3, XI (x3 + 1)), (0, XR x0), (2, XI t30)]) 2 dX9_read_140 rfl rfl c33 (by decide) rfl ?_
        refine g_goto (tgt := 121) dX9_read_143 (by decide) ?_
        exact g_sub [1, 2, 0] rfl (ih _ _ _ _ h K)
      refine g_if_lt (tgt := 140) dX9_read_134 (by decide) (fun b31 => ?_) (fun b31 => ?_)
      · replace ht30 := ifp b31 ht30
        cases ht30
        exact g_sub [0, 1, 2] rfl Kt30
      · replace ht30 := ifn b31 ht30
        refine g_pc (pc' := 137) rfl ?_
        obtain ⟨c32, ht30⟩ := chk_some ht30
        refine g_iinc (ls' := [(2, XI (x2 + 1)), (0, XR x0), (3, XI x3)]) 1 dX9_read_137 rfl rfl c32 (by decide) rfl ?_
        cases ht30
        exact g_sub [1, 0, 2] rfl Kt30
set_option maxHeartbeats 8000000 in
set_option maxRecDepth 20000 in
theorem kX9_read {X : XC} {d : Nat} {x0 : Nat} (hx0 : Sh x0 = (18, 69)) {M : Mem} {q : Int × Mem} (h : fX9_read x0 M = some q) : Ct X mX9_read (d + 4) [XR x0] M (pI q) := by
  unfold fX9_read at h
  refine ct_go (by decide +kernel) (Nat.le_of_ble_eq_true rfl) (ls := [(0, XR x0)]) rfl ?_
  refine g_aload_n 0 dX9_read_0 rfl ?_
  refine g_iconst (v := 0) dX9_read_1 rfl (i32l rfl) ?_
  refine g_putI dX9_read_2 flX9_380 (by decide) rfl hx0 ?_
  refine g_nmM (fun M1 eM1 => ?_)
  replace h := nm_s eM1 h
  refine g_aload_n 0 dX9_read_5 rfl ?_
  refine g_iconst (v := -1) dX9_read_6 rfl (i32l rfl) ?_
  refine g_putI dX9_read_7 flX9_377 (by decide) rfl hx0 ?_
  refine g_nmM (fun M2 eM2 => ?_)
  replace h := nm_s eM2 h
  refine g_aload_n 0 dX9_read_10 rfl ?_
  refine g_iconst (v := 0) dX9_read_11 rfl (i32l rfl) ?_
  refine g_pc (pc' := 12) rfl ?_
  refine g_putI dX9_read_12 flX9_400 (by decide) rfl hx0 ?_
  refine g_nmM (fun M3 eM3 => ?_)
  replace h := nm_s eM3 h
  refine g_aload_n 0 dX9_read_15 rfl ?_
  obtain ⟨q4, hq4, h⟩ := bnd_some h
  refine v_V (ci := 8) (as := []) dX9_read_16 mlX9_419 mdX9_clauseRead mvX9_clauseRead rfl hx0 rfl (Nat.le_of_ble_eq_true rfl) (kX9_clauseRead hx0 hq4) rfl ?_
  obtain ⟨z17, hz17, h⟩ := bnd_some h
  refine g_sub (ls' := [(0, XR x0)]) [0] rfl ?_
  refine lX9_read_l19 hx0 1000  _ _ hz17 ?_
  refine g_aload_n 0 dX9_read_90 rfl ?_
  refine g_getI dX9_read_91 flX9_377 (by decide) rfl hx0 ?_
  obtain ⟨t20, ht20, h⟩ := bnd_some h
  have Kt20 : Go X mX9_read (d + 4) 105 [(0, XR x0)] [XI t20.1] t20.2 (pI q) := by
    refine g_nmI (fun v23 ev23 => ?_)
    replace h := nm_s ev23 h
    refine g_istore_n (ls' := [(1, XI v23), (0, XR x0)]) dX9_read_105 (by decide) rfl ?_
    refine g_aload_n 1 dX9_read_106 rfl ?_
    refine g_iconst (v := 0) dX9_read_107 rfl (i32l rfl) ?_
    refine g_putI dX9_read_108 flX9_374 (by decide) rfl hx0 ?_
    refine g_nmM (fun M24 eM24 => ?_)
    replace h := nm_s eM24 h
    refine g_iload_n 0 dX9_read_111 rfl ?_
    refine g_if_eq (tgt := 117) dX9_read_112 (by decide) (fun b25 => ?_) (fun b25 => ?_)
    · replace h := ifp b25 h
      refine g_iconst (v := 0) dX9_read_117 rfl (i32l rfl) ?_
      refine g_istore_n (ls' := [(2, XI 0), (1, XI v23), (0, XR x0)]) dX9_read_118 (by decide) rfl ?_
      refine g_iconst (v := 0) dX9_read_119 rfl (i32l rfl) ?_
      refine g_istore_n (ls' := [(3, XI 0), (2, XI 0), (1, XI v23), (0, XR x0)]) dX9_read_120 (by decide) rfl ?_
      obtain ⟨z34, hz34, h⟩ := bnd_some h
      refine g_sub (ls' := [(0, XR x0), (2, XI 0), (3, XI 0)]) [3, 1, 0] rfl ?_
      refine lX9_read_l121 hx0 1000 _ _ _ _ hz34 ?_
      refine g_iload_n 0 dX9_read_146 rfl ?_
      cases h
      exact g_ireturn dX9_read_147 rfl ⟨rfl, rfl⟩
    · replace h := ifn b25 h
      refine g_pc (pc' := 115) rfl ?_
      refine g_iload_n 0 dX9_read_115 rfl ?_
      cases h
      exact g_ireturn dX9_read_116 rfl ⟨rfl, rfl⟩
  refine g_if_ge (tgt := 101) dX9_read_94 (by decide) (fun b21 => ?_) (fun b21 => ?_)
  · replace ht20 := ifp b21 ht20
    refine g_aload_n 0 dX9_read_101 rfl ?_
    obtain ⟨q22, hq22, ht20⟩ := bnd_some ht20
    refine v_I (ci := 8) (as := []) dX9_read_102 mlX9_422 mdX9_faulty mvX9_faulty rfl hx0 rfl (Nat.le_of_ble_eq_true rfl) (kX9_faulty hx0 hq22) rfl ?_
    cases ht20
    exact g_sub [0] rfl Kt20
  · replace ht20 := ifn b21 ht20
    refine g_pc (pc' := 97) rfl ?_
    refine g_iconst (v := 0) dX9_read_97 rfl (i32l rfl) ?_
    refine g_goto (tgt := 105) dX9_read_98 (by decide) ?_
    cases ht20
    exact g_sub [0] rfl Kt20
set_option maxHeartbeats 8000000 in
set_option maxRecDepth 20000 in
theorem kX9_cause {X : XC} {d : Nat} {x0 : Nat} {x1 : Int} {x2 : Int} (hx0 : Sh x0 = (18, 69)) {M : Mem} {q : Int × Mem} (h : fX9_cause x0 x1 x2 M = some q) : Ct X mX9_cause (d + 1) [XR x0, XI x1, XI x2] M (pI q) := by
  unfold fX9_cause at h
  refine ct_go (by decide +kernel) (Nat.le_of_ble_eq_true rfl) (ls := [(0, XR x0), (1, XI x1), (2, XI x2)]) rfl ?_
  refine g_iload_n 1 dX9_cause_0 rfl ?_
  refine g_if_lt (tgt := 14) dX9_cause_1 (by decide) (fun b1 => ?_) (fun b1 => ?_)
  · replace h := ifp b1 h
    refine g_iconst (v := -1) dX9_cause_14 rfl (i32l rfl) ?_
    cases h
    exact g_ireturn dX9_cause_15 rfl ⟨rfl, rfl⟩
  · replace h := ifn b1 h
    refine g_pc (pc' := 4) rfl ?_
    refine g_iload_n 2 dX9_cause_4 rfl ?_
    refine g_i2l dX9_cause_5 ?_
    refine g_lconst (v := 0) dX9_cause_6 rfl (i64l rfl) ?_
    refine g_lconst (v := 1) dX9_cause_7 rfl (i64l rfl) ?_
    obtain ⟨q2, hq2, h⟩ := bnd_some h
    refine s_I (as := [XL x2, XL 0, XL 1]) dX9_cause_8 mlX9_170 mdX9_in msX9_in rfl (Nat.le_of_ble_eq_true rfl) (kX9_in  hq2) rfl ?_
    refine g_if_ne (tgt := 16) dX9_cause_11 (by decide) (fun b3 => ?_) (fun b3 => ?_)
    · replace h := ifn b3 h
      refine g_iload_n 1 dX9_cause_16 rfl ?_
      refine g_aload_n 0 dX9_cause_17 rfl ?_
      refine g_getI dX9_cause_18 flX9_187 (by decide) rfl hx0 ?_
      refine g_icmp_lt (tgt := 27) dX9_cause_21 (by decide) (fun b4 => ?_) (fun b4 => ?_)
      · replace h := ifp b4 h
        refine g_iload_n 2 dX9_cause_27 rfl ?_
        obtain ⟨t8, ht8, h⟩ := bnd_some h
        have Kt8 : Go X mX9_cause (d + 1) 46 [] [XI t8] q2.2 (pI q) := by
          cases h
          exact g_ireturn dX9_cause_46 rfl ⟨rfl, rfl⟩
        refine g_if_ne (tgt := 40) dX9_cause_28 (by decide) (fun b9 => ?_) (fun b9 => ?_)
        · replace ht8 := ifn b9 ht8
          refine g_aload_n 0 dX9_cause_40 rfl ?_
          refine g_getR dX9_cause_41 flX9_50 (by decide) rfl hx0 ?_
          refine g_iload_n 1 dX9_cause_44 rfl ?_
          obtain ⟨c10, ht8⟩ := chk_some ht8
          refine g_iald dX9_cause_45 (sf_8_17 hx0) c10.1 c10.2 ?_
          cases ht8
          exact g_sub [] rfl Kt8
        · replace ht8 := ifp b9 ht8
          refine g_pc (pc' := 31) rfl ?_
          refine g_aload_n 0 dX9_cause_31 rfl ?_
          refine g_getR dX9_cause_32 flX9_47 (by decide) rfl hx0 ?_
          refine g_iload_n 1 dX9_cause_35 rfl ?_
          obtain ⟨c11, ht8⟩ := chk_some ht8
          refine g_iald dX9_cause_36 (sf_8_16 hx0) c11.1 c11.2 ?_
          refine g_goto (tgt := 46) dX9_cause_37 (by decide) ?_
          cases ht8
          exact g_sub [] rfl Kt8
      · replace h := ifn b4 h
        refine g_pc (pc' := 24) rfl ?_
        refine g_bip dX9_cause_24 rfl ?_
        cases h
        exact g_ireturn dX9_cause_26 rfl ⟨rfl, rfl⟩
    · replace h := ifp b3 h
      refine g_pc (pc' := 14) rfl ?_
      refine g_iconst (v := -1) dX9_cause_14 rfl (i32l rfl) ?_
      cases h
      exact g_ireturn dX9_cause_15 rfl ⟨rfl, rfl⟩
set_option maxHeartbeats 8000000 in
set_option maxRecDepth 20000 in
theorem kX9_isTape {X : XC} {d : Nat} {x0 : Int}  {M : Mem} {q : Int × Mem} (h : fX9_isTape x0 M = some q) : Ct X mX9_isTape (d + 1) [XI x0] M (pI q) := by
  unfold fX9_isTape at h
  refine ct_go (by decide +kernel) (Nat.le_of_ble_eq_true rfl) (ls := [(0, XI x0)]) rfl ?_
  refine g_iload_n 0 dX9_isTape_0 rfl ?_
  refine g_i2l dX9_isTape_1 ?_
  refine g_lconst (v := 0) dX9_isTape_2 rfl (i64l rfl) ?_
  refine g_ldc2 (v := 5) dX9_isTape_3 csX9_434 (by decide +kernel) (i64l rfl) ?_
  obtain ⟨q1, hq1, h⟩ := bnd_some h
  refine s_I (as := [XL x0, XL 0, XL 5]) dX9_isTape_6 mlX9_170 mdX9_in msX9_in rfl (Nat.le_of_ble_eq_true rfl) (kX9_in  hq1) rfl ?_
  obtain ⟨cz, h⟩ := chk_some h
  cases h
  exact g_zreturn dX9_isTape_9 rfl cz ⟨rfl, rfl⟩
end
