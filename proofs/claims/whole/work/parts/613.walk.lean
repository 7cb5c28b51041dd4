section
set_option maxHeartbeats 8000000 in
set_option maxRecDepth 20000 in
theorem kX8_feed {X : XC} {d : Nat} {x0 : Nat} {x1 : Int} (hx0 : Sh x0 = (17, 10)) {M : Mem} {q : Int × Mem} (h : fX8_feed x0 x1 M = some q) : Ct X mX8_feed d [XR x0, XI x1] M (pI q) := by
  unfold fX8_feed at h
  refine ct_go (by decide +kernel) (Nat.le_of_ble_eq_true rfl) (ls := [(0, XR x0), (1, XI x1)]) rfl ?_
  refine g_iload_n 1 dX8_feed_0 rfl ?_
  refine g_if_lt (tgt := 10) dX8_feed_1 (by decide) (fun b1 => ?_) (fun b1 => ?_)
  · replace h := ifp b1 h
    refine g_bip dX8_feed_10 rfl ?_
    cases h
    exact g_ireturn dX8_feed_12 rfl ⟨rfl, rfl⟩
  · replace h := ifn b1 h
    refine g_pc (pc' := 4) rfl ?_
    refine g_iload_n 1 dX8_feed_4 rfl ?_
    refine g_bip dX8_feed_5 rfl ?_
    refine g_icmp_le (tgt := 13) dX8_feed_7 (by decide) (fun b2 => ?_) (fun b2 => ?_)
    · replace h := ifp b2 h
      refine g_aload_n 0 dX8_feed_13 rfl ?_
      refine g_getR dX8_feed_14 flX8_46 (by decide) rfl hx0 ?_
      refine g_getI dX8_feed_17 flX8_290 (by decide) rfl (sf_7_7 hx0) ?_
      refine g_bip dX8_feed_20 rfl ?_
      refine g_icmp_lt (tgt := 28) dX8_feed_22 (by decide) (fun b3 => ?_) (fun b3 => ?_)
      · replace h := ifp b3 h
        refine g_aload_n 0 dX8_feed_28 rfl ?_
        refine g_getR dX8_feed_29 flX8_46 (by decide) rfl hx0 ?_
        refine g_getR dX8_feed_32 flX8_291 (by decide) rfl (sf_7_7 hx0) ?_
        refine g_aload_n 0 dX8_feed_35 rfl ?_
        refine g_getR dX8_feed_36 flX8_46 (by decide) rfl hx0 ?_
        refine g_getI dX8_feed_39 flX8_290 (by decide) rfl (sf_7_7 hx0) ?_
        refine g_iload_n 1 dX8_feed_42 rfl ?_
        obtain ⟨c4, h⟩ := chk_some h
        refine g_iast dX8_feed_43 (sf_5_1 (sf_7_7 hx0)) c4.1 c4.2 ?_
        refine g_nmM (fun M5 eM5 => ?_)
        replace h := nm_s eM5 h
        refine g_pc (pc' := 44) rfl ?_
        refine g_aload_n 0 dX8_feed_44 rfl ?_
        refine g_getR dX8_feed_45 flX8_46 (by decide) rfl hx0 ?_
        refine g_dupR dX8_feed_48 ?_
        refine g_getI dX8_feed_49 flX8_290 (by decide) rfl (sf_7_7 hx0) ?_
        refine g_iconst (v := 1) dX8_feed_52 rfl (i32l rfl) ?_
        obtain ⟨c6, h⟩ := chk_some h
        refine g_iadd dX8_feed_53 rfl c6 ?_
        refine g_putI dX8_feed_54 flX8_290 (by decide) rfl (sf_7_7 hx0) ?_
        refine g_nmM (fun M7 eM7 => ?_)
        replace h := nm_s eM7 h
        refine g_aload_n 0 dX8_feed_57 rfl ?_
        refine g_getR dX8_feed_58 flX8_46 (by decide) rfl hx0 ?_
        refine g_pc (pc' := 61) rfl ?_
        refine g_getI dX8_feed_61 flX8_290 (by decide) rfl (sf_7_7 hx0) ?_
        cases h
        exact g_ireturn dX8_feed_64 rfl ⟨rfl, rfl⟩
      · replace h := ifn b3 h
        refine g_pc (pc' := 25) rfl ?_
        refine g_bip dX8_feed_25 rfl ?_
        cases h
        exact g_ireturn dX8_feed_27 rfl ⟨rfl, rfl⟩
    · replace h := ifn b2 h
      refine g_pc (pc' := 10) rfl ?_
      refine g_bip dX8_feed_10 rfl ?_
      cases h
      exact g_ireturn dX8_feed_12 rfl ⟨rfl, rfl⟩
set_option maxHeartbeats 8000000 in
set_option maxRecDepth 20000 in
theorem kX8_isDone {X : XC} {d : Nat} {x0 : Nat} {x1 : Int} {x2 : Int} {x3 : Int} (hx0 : Sh x0 = (17, 10)) {M : Mem} {q : Int × Mem} (h : fX8_isDone x0 x1 x2 x3 M = some q) : Ct X mX8_isDone (d + 4) [XR x0, XI x1, XI x2, XI x3] M (pI q) := by
  unfold fX8_isDone at h
  refine ct_go (by decide +kernel) (Nat.le_of_ble_eq_true rfl) (ls := [(0, XR x0), (1, XI x1), (2, XI x2), (3, XI x3)]) rfl ?_
  refine g_iload_n 1 dX8_isDone_0 rfl ?_
  by_cases b1 : x1 = 98
  · replace h := ifp b1 h
    refine g_lsw (off := 64) (tgt := 65) dX8_isDone_1 (by decide) (by rw [b1]; rfl) (by decide) ?_
    refine g_aload_n 0 dX8_isDone_65 rfl ?_
    refine g_iload_n 2 dX8_isDone_66 rfl ?_
    refine g_iload_n 3 dX8_isDone_67 rfl ?_
    obtain ⟨q2, hq2, h⟩ := bnd_some h
    refine v_I (ci := 7) (as := [XI x2, XI x3]) dX8_isDone_68 mlX8_317 mdX8_ballot mvX8_ballot rfl hx0 rfl (Nat.le_of_ble_eq_true rfl) (kX8_ballot hx0 hq2) rfl ?_
    obtain ⟨t4, ht4, h⟩ := bnd_some h
    have Kt4 : Go X mX8_isDone (d + 4) 79 [] [XI t4] q2.2 (pI q) := by
      obtain ⟨cz, h⟩ := chk_some h
      cases h
      exact g_zreturn dX8_isDone_79 rfl cz ⟨rfl, rfl⟩
    refine g_if_lt (tgt := 78) dX8_isDone_71 (by decide) (fun b5 => ?_) (fun b5 => ?_)
    · replace ht4 := ifp b5 ht4
      refine g_iconst (v := 0) dX8_isDone_78 rfl (i32l rfl) ?_
      cases ht4
      exact g_sub [] rfl Kt4
    · replace ht4 := ifn b5 ht4
      refine g_pc (pc' := 74) rfl ?_
      refine g_iconst (v := 1) dX8_isDone_74 rfl (i32l rfl) ?_
      refine g_goto (tgt := 79) dX8_isDone_75 (by decide) ?_
      cases ht4
      exact g_sub [] rfl Kt4
  · replace h := ifn b1 h
    by_cases b6 : x1 = 99
    · replace h := ifp b6 h
      refine g_lsw (off := 51) (tgt := 52) dX8_isDone_1 (by decide) (by rw [b6]; rfl) (by decide) ?_
      refine g_aload_n 0 dX8_isDone_52 rfl ?_
      obtain ⟨q7, hq7, h⟩ := bnd_some h
      refine v_I (ci := 7) (as := []) dX8_isDone_53 mlX8_314 mdX8_candidate mvX8_candidate rfl hx0 rfl (Nat.le_of_ble_eq_true rfl) (kX8_candidate hx0 hq7) rfl ?_
      obtain ⟨t9, ht9, h⟩ := bnd_some h
      have Kt9 : Go X mX8_isDone (d + 4) 64 [] [XI t9] q7.2 (pI q) := by
        obtain ⟨cz, h⟩ := chk_some h
        cases h
        exact g_zreturn dX8_isDone_64 rfl cz ⟨rfl, rfl⟩
      refine g_if_lt (tgt := 63) dX8_isDone_56 (by decide) (fun b10 => ?_) (fun b10 => ?_)
      · replace ht9 := ifp b10 ht9
        refine g_iconst (v := 0) dX8_isDone_63 rfl (i32l rfl) ?_
        cases ht9
        exact g_sub [] rfl Kt9
      · replace ht9 := ifn b10 ht9
        refine g_pc (pc' := 59) rfl ?_
        refine g_iconst (v := 1) dX8_isDone_59 rfl (i32l rfl) ?_
        refine g_goto (tgt := 64) dX8_isDone_60 (by decide) ?_
        cases ht9
        exact g_sub [] rfl Kt9
    · replace h := ifn b6 h
      by_cases b11 : x1 = 103
      · replace h := ifp b11 h
        refine g_lsw (off := 109) (tgt := 110) dX8_isDone_1 (by decide) (by rw [b11]; rfl) (by decide) ?_
        refine g_aload_n 0 dX8_isDone_110 rfl ?_
        refine g_iload_n 2 dX8_isDone_111 rfl ?_
        refine g_iconst (v := 1) dX8_isDone_112 rfl (i32l rfl) ?_
        obtain ⟨q12, hq12, h⟩ := bnd_some h
        refine v_I (ci := 7) (as := [XI x2, XI 1]) dX8_isDone_113 mlX8_323 mdX8_gone mvX8_gone rfl hx0 rfl (Nat.le_of_ble_eq_true rfl) (kX8_gone hx0 hq12) rfl ?_
        obtain ⟨t14, ht14, h⟩ := bnd_some h
        have Kt14 : Go X mX8_isDone (d + 4) 124 [] [XI t14] q12.2 (pI q) := by
          obtain ⟨cz, h⟩ := chk_some h
          cases h
          exact g_zreturn dX8_isDone_124 rfl cz ⟨rfl, rfl⟩
        refine g_if_lt (tgt := 123) dX8_isDone_116 (by decide) (fun b15 => ?_) (fun b15 => ?_)
        · replace ht14 := ifp b15 ht14
          refine g_iconst (v := 0) dX8_isDone_123 rfl (i32l rfl) ?_
          cases ht14
          exact g_sub [] rfl Kt14
        · replace ht14 := ifn b15 ht14
          refine g_pc (pc' := 119) rfl ?_
          refine g_iconst (v := 1) dX8_isDone_119 rfl (i32l rfl) ?_
          refine g_goto (tgt := 124) dX8_isDone_120 (by decide) ?_
          cases ht14
          exact g_sub [] rfl Kt14
      · replace h := ifn b11 h
        by_cases b16 : x1 = 108
        · replace h := ifp b16 h
          refine g_lsw (off := 94) (tgt := 95) dX8_isDone_1 (by decide) (by rw [b16]; rfl) (by decide) ?_
          refine g_aload_n 0 dX8_isDone_95 rfl ?_
          refine g_iconst (v := 1) dX8_isDone_96 rfl (i32l rfl) ?_
          refine g_iload_n 2 dX8_isDone_97 rfl ?_
          obtain ⟨q17, hq17, h⟩ := bnd_some h
          refine v_I (ci := 7) (as := [XI 1, XI x2]) dX8_isDone_98 mlX8_320 mdX8_set mvX8_set rfl hx0 rfl (Nat.le_of_ble_eq_true rfl) (kX8_set hx0 hq17) rfl ?_
          obtain ⟨t19, ht19, h⟩ := bnd_some h
          have Kt19 : Go X mX8_isDone (d + 4) 109 [] [XI t19] q17.2 (pI q) := by
            obtain ⟨cz, h⟩ := chk_some h
            cases h
            exact g_zreturn dX8_isDone_109 rfl cz ⟨rfl, rfl⟩
          refine g_if_lt (tgt := 108) dX8_isDone_101 (by decide) (fun b20 => ?_) (fun b20 => ?_)
          · replace ht19 := ifp b20 ht19
            refine g_iconst (v := 0) dX8_isDone_108 rfl (i32l rfl) ?_
            cases ht19
            exact g_sub [] rfl Kt19
          · replace ht19 := ifn b20 ht19
            refine g_pc (pc' := 104) rfl ?_
            refine g_iconst (v := 1) dX8_isDone_104 rfl (i32l rfl) ?_
            refine g_goto (tgt := 109) dX8_isDone_105 (by decide) ?_
            cases ht19
            exact g_sub [] rfl Kt19
        · replace h := ifn b16 h
          by_cases b21 : x1 = 115
          · replace h := ifp b21 h
            refine g_lsw (off := 79) (tgt := 80) dX8_isDone_1 (by decide) (by rw [b21]; rfl) (by decide) ?_
            refine g_aload_n 0 dX8_isDone_80 rfl ?_
            refine g_iconst (v := 0) dX8_isDone_81 rfl (i32l rfl) ?_
            refine g_iload_n 2 dX8_isDone_82 rfl ?_
            obtain ⟨q22, hq22, h⟩ := bnd_some h
            refine v_I (ci := 7) (as := [XI 0, XI x2]) dX8_isDone_83 mlX8_320 mdX8_set mvX8_set rfl hx0 rfl (Nat.le_of_ble_eq_true rfl) (kX8_set hx0 hq22) rfl ?_
            obtain ⟨t24, ht24, h⟩ := bnd_some h
            have Kt24 : Go X mX8_isDone (d + 4) 94 [] [XI t24] q22.2 (pI q) := by
              obtain ⟨cz, h⟩ := chk_some h
              cases h
              exact g_zreturn dX8_isDone_94 rfl cz ⟨rfl, rfl⟩
            refine g_if_lt (tgt := 93) dX8_isDone_86 (by decide) (fun b25 => ?_) (fun b25 => ?_)
            · replace ht24 := ifp b25 ht24
              refine g_iconst (v := 0) dX8_isDone_93 rfl (i32l rfl) ?_
              cases ht24
              exact g_sub [] rfl Kt24
            · replace ht24 := ifn b25 ht24
              refine g_pc (pc' := 89) rfl ?_
              refine g_iconst (v := 1) dX8_isDone_89 rfl (i32l rfl) ?_
              refine g_goto (tgt := 94) dX8_isDone_90 (by decide) ?_
              cases ht24
              exact g_sub [] rfl Kt24
          · replace h := ifn b21 h
            refine g_lsw (off := 124) (tgt := 125) dX8_isDone_1 (by decide) (by simp [Op.lookupswitch.offset, Ne.symm b1, b1, Ne.symm b6, b6, Ne.symm b11, b11, Ne.symm b16, b16, Ne.symm b21, b21]) (by decide) ?_
            refine g_iconst (v := 0) dX8_isDone_125 rfl (i32l rfl) ?_
            cases h
            exact g_zreturn dX8_isDone_126 rfl (by decide) ⟨rfl, rfl⟩
set_option maxHeartbeats 8000000 in
set_option maxRecDepth 20000 in
theorem lX8_read_l35 {X : XC} {d : Nat} {Post : Option XV → Mem → Prop} {x0 : Nat} (hx0 : Sh x0 = (17, 10)) : ∀ (n : Nat) (x2 x3 : Int) (M : Mem) (t0 : Int × Int × Mem), fX8_read_l35 x0 n x2 x3 M = some t0 → Go X mX8_read (d + 5) 89 [(2, XI t0.1)] [] t0.2.2 Post → Go X mX8_read (d + 5) 35 [(0, XR x0), (2, XI x2), (3, XI x3)] [] M Post := by
  intro n
  induction n with
  | zero => intro _ _ _ _ h; cases h
  | succ n ih =>
    intro x2 x3 M t0 h K
    unfold fX8_read_l35 at h
    refine g_iload_n 2 dX8_read_35 rfl ?_
    refine g_aload_n 0 dX8_read_36 rfl ?_
    refine g_getR dX8_read_37 flX8_46 (by decide) rfl hx0 ?_
    refine g_getI dX8_read_40 flX8_298 (by decide) rfl (sf_7_7 hx0) ?_
    refine g_icmp_ge (tgt := 89) dX8_read_43 (by decide) (fun b5 => ?_) (fun b5 => ?_)
    · replace h := ifp b5 h
      cases h
      exact g_sub [1] rfl K
    · replace h := ifn b5 h
      refine g_pc (pc' := 46) rfl ?_
      refine g_aload_n 0 dX8_read_46 rfl ?_
      refine g_aload_n 0 dX8_read_47 rfl ?_
      refine g_getR dX8_read_48 flX8_46 (by decide) rfl hx0 ?_
      refine g_getR dX8_read_51 flX8_301 (by decide) rfl (sf_7_7 hx0) ?_
      refine g_iload_n 2 dX8_read_54 rfl ?_
      obtain ⟨c6, h⟩ := chk_some h
      refine g_iald dX8_read_55 (sf_5_3 (sf_7_7 hx0)) c6.1 c6.2 ?_
      refine g_aload_n 0 dX8_read_56 rfl ?_
      refine g_getR dX8_read_57 flX8_46 (by decide) rfl hx0 ?_
      refine g_pc (pc' := 60) rfl ?_
      refine g_getR dX8_read_60 flX8_304 (by decide) rfl (sf_7_7 hx0) ?_
      refine g_iload_n 2 dX8_read_63 rfl ?_
      obtain ⟨c7, h⟩ := chk_some h
      refine g_iald dX8_read_64 (sf_5_4 (sf_7_7 hx0)) c7.1 c7.2 ?_
      refine g_aload_n 0 dX8_read_65 rfl ?_
      refine g_getR dX8_read_66 flX8_46 (by decide) rfl hx0 ?_
      refine g_getR dX8_read_69 flX8_307 (by decide) rfl (sf_7_7 hx0) ?_
      refine g_iload_n 2 dX8_read_72 rfl ?_
      obtain ⟨c8, h⟩ := chk_some h
      refine g_iald dX8_read_73 (sf_5_5 (sf_7_7 hx0)) c8.1 c8.2 ?_
      obtain ⟨q9, hq9, h⟩ := bnd_some h
      refine v_I (ci := 7) (as := [XI (M ((x0 + 200) + 4) (Int.toNat x3)), XI (M ((x0 + 200) + 5) (Int.toNat x3)), XI (M ((x0 + 200) + 6) (Int.toNat x3))]) dX8_read_74 mlX8_310 mdX8_isDone mvX8_isDone rfl hx0 rfl (Nat.le_of_ble_eq_true rfl) (kX8_isDone hx0 hq9) rfl ?_
      refine g_pc (pc' := 77) rfl ?_
      obtain ⟨t12, ht12, h⟩ := bnd_some h
      have Kt12 : Go X mX8_read (d + 5) 83 [(0, XR x0), (2, XI t12), (3, XI x3)] [] q9.2 Post := by
        obtain ⟨c15, h⟩ := chk_some h
        refine g_iinc (ls' := [(3, XI (x3 + 1)), (0, XR x0), (2, XI t12)]) 2 dX8_read_83 rfl rfl c15 (by decide) rfl ?_
        refine g_goto (tgt := 35) dX8_read_86 (by decide) ?_
        exact g_sub [1, 2, 0] rfl (ih _ _ _ _ h K)
      refine g_if_eq (tgt := 83) dX8_read_77 (by decide) (fun b13 => ?_) (fun b13 => ?_)
      · replace ht12 := ifp b13 ht12
        cases ht12
        exact g_sub [0, 1, 2] rfl Kt12
      · replace ht12 := ifn b13 ht12
        refine g_pc (pc' := 80) rfl ?_
        obtain ⟨c14, ht12⟩ := chk_some ht12
        refine g_iinc (ls' := [(2, XI (x2 + 1)), (0, XR x0), (3, XI x3)]) 1 dX8_read_80 rfl rfl c14 (by decide) rfl ?_
        cases ht12
        exact g_sub [1, 0, 2] rfl Kt12
set_option maxHeartbeats 8000000 in
set_option maxRecDepth 20000 in
theorem kX8_read {X : XC} {d : Nat} {x0 : Nat} (hx0 : Sh x0 = (17, 10)) {M : Mem} {q : Int × Mem} (h : fX8_read x0 M = some q) : Ct X mX8_read (d + 5) [XR x0] M (pI q) := by
  unfold fX8_read at h
  refine ct_go (by decide +kernel) (Nat.le_of_ble_eq_true rfl) (ls := [(0, XR x0)]) rfl ?_
  refine g_aload_n 0 dX8_read_0 rfl ?_
  refine g_getR dX8_read_1 flX8_46 (by decide) rfl hx0 ?_
  refine g_aload_n 0 dX8_read_4 rfl ?_
  refine g_getR dX8_read_5 flX8_53 (by decide) rfl hx0 ?_
  obtain ⟨q1, hq1, h⟩ := bnd_some h
  refine v_I (ci := 5) (as := [XR (x0 + 300)]) dX8_read_8 mlX8_294 mdX6_faultToldTo mvX6_faultToldTo rfl (sf_7_7 hx0) rfl (Nat.le_of_ble_eq_true rfl) (kX6_faultToldTo (sf_7_7 hx0) (sf_7_8 hx0) hq1) rfl ?_
  refine g_nmI (fun v2 ev2 => ?_)
  replace h := nm_s ev2 h
  refine g_istore_n (ls' := [(1, XI v2), (0, XR x0)]) dX8_read_11 (by decide) rfl ?_
  refine g_aload_n 1 dX8_read_12 rfl ?_
  refine g_getR dX8_read_13 flX8_46 (by decide) rfl hx0 ?_
  refine g_pc (pc' := 16) rfl ?_
  refine g_iconst (v := 0) dX8_read_16 rfl (i32l rfl) ?_
  refine g_putI dX8_read_17 flX8_290 (by decide) rfl (sf_7_7 hx0) ?_
  refine g_nmM (fun M3 eM3 => ?_)
  replace h := nm_s eM3 h
  refine g_iload_n 0 dX8_read_20 rfl ?_
  refine g_bip dX8_read_21 rfl ?_
  refine g_icmp_eq (tgt := 31) dX8_read_23 (by decide) (fun b4 => ?_) (fun b4 => ?_)
  · replace h := ifp b4 h
    refine g_iconst (v := 0) dX8_read_31 rfl (i32l rfl) ?_
    refine g_istore_n (ls' := [(2, XI 0), (1, XI v2), (0, XR x0)]) dX8_read_32 (by decide) rfl ?_
    refine g_iconst (v := 0) dX8_read_33 rfl (i32l rfl) ?_
    refine g_istore_n (ls' := [(3, XI 0), (2, XI 0), (1, XI v2), (0, XR x0)]) dX8_read_34 (by decide) rfl ?_
    obtain ⟨z16, hz16, h⟩ := bnd_some h
    refine g_sub (ls' := [(0, XR x0), (2, XI 0), (3, XI 0)]) [3, 1, 0] rfl ?_
    refine lX8_read_l35 hx0 1000 _ _ _ _ hz16 ?_
    refine g_iload_n 0 dX8_read_89 rfl ?_
    cases h
    exact g_ireturn dX8_read_90 rfl ⟨rfl, rfl⟩
  · replace h := ifn b4 h
    refine g_pc (pc' := 26) rfl ?_
    refine g_bip dX8_read_26 rfl ?_
    refine g_iload_n 0 dX8_read_28 rfl ?_
    obtain ⟨c17, h⟩ := chk_some h
    refine g_isub dX8_read_29 rfl c17 ?_
    cases h
    exact g_ireturn dX8_read_30 rfl ⟨rfl, rfl⟩
set_option maxHeartbeats 8000000 in
set_option maxRecDepth 20000 in
theorem kX8_cause {X : XC} {d : Nat} {x0 : Nat} {x1 : Int} {x2 : Int} (hx0 : Sh x0 = (17, 10)) {M : Mem} {q : Int × Mem} (h : fX8_cause x0 x1 x2 M = some q) : Ct X mX8_cause d [XR x0, XI x1, XI x2] M (pI q) := by
  unfold fX8_cause at h
  refine ct_go (by decide +kernel) (Nat.le_of_ble_eq_true rfl) (ls := [(0, XR x0), (1, XI x1), (2, XI x2)]) rfl ?_
  refine g_iload_n 1 dX8_cause_0 rfl ?_
  refine g_if_lt (tgt := 13) dX8_cause_1 (by decide) (fun b1 => ?_) (fun b1 => ?_)
  · replace h := ifp b1 h
    refine g_iconst (v := -1) dX8_cause_13 rfl (i32l rfl) ?_
    cases h
    exact g_ireturn dX8_cause_14 rfl ⟨rfl, rfl⟩
  · replace h := ifn b1 h
    refine g_pc (pc' := 4) rfl ?_
    refine g_iload_n 2 dX8_cause_4 rfl ?_
    refine g_if_lt (tgt := 13) dX8_cause_5 (by decide) (fun b2 => ?_) (fun b2 => ?_)
    · replace h := ifp b2 h
      refine g_iconst (v := -1) dX8_cause_13 rfl (i32l rfl) ?_
      cases h
      exact g_ireturn dX8_cause_14 rfl ⟨rfl, rfl⟩
    · replace h := ifn b2 h
      refine g_pc (pc' := 8) rfl ?_
      refine g_iload_n 2 dX8_cause_8 rfl ?_
      refine g_iconst (v := 1) dX8_cause_9 rfl (i32l rfl) ?_
      refine g_icmp_le (tgt := 15) dX8_cause_10 (by decide) (fun b3 => ?_) (fun b3 => ?_)
      · replace h := ifp b3 h
        refine g_iload_n 1 dX8_cause_15 rfl ?_
        refine g_aload_n 0 dX8_cause_16 rfl ?_
        refine g_getR dX8_cause_17 flX8_53 (by decide) rfl hx0 ?_
        refine g_getI dX8_cause_20 flX8_327 (by decide) rfl (sf_7_8 hx0) ?_
        refine g_icmp_lt (tgt := 29) dX8_cause_23 (by decide) (fun b4 => ?_) (fun b4 => ?_)
        · replace h := ifp b4 h
          refine g_iload_n 2 dX8_cause_29 rfl ?_
          obtain ⟨t8, ht8, h⟩ := bnd_some h
          have Kt8 : Go X mX8_cause d 54 [] [XI t8] M (pI q) := by
            cases h
            exact g_ireturn dX8_cause_54 rfl ⟨rfl, rfl⟩
          refine g_if_ne (tgt := 45) dX8_cause_30 (by decide) (fun b9 => ?_) (fun b9 => ?_)
          · replace ht8 := ifn b9 ht8
            refine g_aload_n 0 dX8_cause_45 rfl ?_
            refine g_getR dX8_cause_46 flX8_53 (by decide) rfl hx0 ?_
            refine g_getR dX8_cause_49 flX8_331 (by decide) rfl (sf_7_8 hx0) ?_
            refine g_iload_n 1 dX8_cause_52 rfl ?_
            obtain ⟨c10, ht8⟩ := chk_some ht8
            refine g_iald dX8_cause_53 (sf_6_2 (sf_7_8 hx0)) c10.1 c10.2 ?_
            cases ht8
            exact g_sub [] rfl Kt8
          · replace ht8 := ifp b9 ht8
            refine g_pc (pc' := 33) rfl ?_
            refine g_aload_n 0 dX8_cause_33 rfl ?_
            refine g_getR dX8_cause_34 flX8_53 (by decide) rfl hx0 ?_
            refine g_getR dX8_cause_37 flX8_328 (by decide) rfl (sf_7_8 hx0) ?_
            refine g_iload_n 1 dX8_cause_40 rfl ?_
            obtain ⟨c11, ht8⟩ := chk_some ht8
            refine g_iald dX8_cause_41 (sf_6_1 (sf_7_8 hx0)) c11.1 c11.2 ?_
            refine g_goto (tgt := 54) dX8_cause_42 (by decide) ?_
            cases ht8
            exact g_sub [] rfl Kt8
        · replace h := ifn b4 h
          refine g_pc (pc' := 26) rfl ?_
          refine g_bip dX8_cause_26 rfl ?_
          cases h
          exact g_ireturn dX8_cause_28 rfl ⟨rfl, rfl⟩
      · replace h := ifn b3 h
        refine g_pc (pc' := 13) rfl ?_
        refine g_iconst (v := -1) dX8_cause_13 rfl (i32l rfl) ?_
        cases h
        exact g_ireturn dX8_cause_14 rfl ⟨rfl, rfl⟩
set_option maxHeartbeats 8000000 in
set_option maxRecDepth 20000 in
theorem kX8_tapeAt {X : XC} {d : Nat} {x0 : Nat} {x1 : Int} (hx0 : Sh x0 = (17, 10)) {M : Mem} {q : Option Nat × Mem} (h : fX8_tapeAt x0 x1 M = some q) : Ct X mX8_tapeAt d [XR x0, XI x1] M (pR q) := by
  unfold fX8_tapeAt at h
  refine ct_go (by decide +kernel) (Nat.le_of_ble_eq_true rfl) (ls := [(0, XR x0), (1, XI x1)]) rfl ?_
  refine g_iload_n 1 dX8_tapeAt_0 rfl ?_
  refine g_if_lt (tgt := 13) dX8_tapeAt_1 (by decide) (fun b4 => ?_) (fun b4 => ?_)
  · replace h := ifp b4 h
    refine g_null dX8_tapeAt_13 ?_
    refine g_goto (tgt := 23) dX8_tapeAt_14 (by decide) ?_
    cases h
    exact g_areturnN dX8_tapeAt_23 rfl ⟨rfl, rfl⟩
  · replace h := ifn b4 h
    refine g_pc (pc' := 4) rfl ?_
    refine g_iload_n 1 dX8_tapeAt_4 rfl ?_
    refine g_aload_n 0 dX8_tapeAt_5 rfl ?_
    refine g_getR dX8_tapeAt_6 flX8_59 (by decide) rfl hx0 ?_
    refine g_alenV 6 dX8_tapeAt_9 (sf_7_9 hx0) rfl rfl rfl ?_
    refine g_icmp_lt (tgt := 17) dX8_tapeAt_10 (by decide) (fun b7 => ?_) (fun b7 => ?_)
    · replace h := ifp b7 h
      refine g_aload_n 0 dX8_tapeAt_17 rfl ?_
      refine g_getR dX8_tapeAt_18 flX8_59 (by decide) rfl hx0 ?_
      refine g_iload_n 1 dX8_tapeAt_21 rfl ?_
      obtain ⟨c8, h⟩ := chk_some h
      refine g_aald dX8_tapeAt_22 (sf_7_9 hx0) (by decide) c8.1 c8.2 ?_
      cases h
      exact g_areturn dX8_tapeAt_23 rfl ⟨rfl, rfl⟩
    · replace h := ifn b7 h
      refine g_pc (pc' := 13) rfl ?_
      refine g_null dX8_tapeAt_13 ?_
      refine g_goto (tgt := 23) dX8_tapeAt_14 (by decide) ?_
      cases h
      exact g_areturnN dX8_tapeAt_23 rfl ⟨rfl, rfl⟩
set_option maxHeartbeats 8000000 in
set_option maxRecDepth 20000 in
theorem lX8_judge_l60 {X : XC} {d : Nat} {Post : Option XV → Mem → Prop} {x0 : Nat} {x3 : Int} {x4 : Nat} {x5 : Nat} (hx0 : Sh x0 = (17, 10)) (hx4 : Sh x4 = (12, 9)) (hx5 : Sh x5 = (14, 3)) : ∀ (n : Nat) (x6 : Int) (M : Mem) (z : (Int × Mem) ⊕ (Int × Mem)), fX8_judge_l60 x0 x3 x4 x5 n x6 M = some z → (∀ r, z = .inl r → Post (some (XI r.1)) r.2) → Go X mX8_judge (d + 6) 60 [(0, XR x0), (3, XI x3), (4, XR x4), (5, XR x5), (6, XI x6)] [] M Post := by
  intro n
  induction n with
  | zero => intro _ _ _ h; cases h
  | succ n ih =>
    intro x6 M z h K1
    unfold fX8_judge_l60 at h
    refine g_iload 4 dX8_judge_60 rfl ?_
    refine g_aload_n 0 dX8_judge_62 rfl ?_
    refine g_getR dX8_judge_63 flX8_14 (by decide) rfl hx0 ?_
    refine g_getI dX8_judge_66 flX8_64 (by decide) rfl (sf_7_0 hx0) ?_
    refine g_icmp_ge (tgt := 121) dX8_judge_69 (by decide) (fun b15 => ?_) (fun b15 => ?_)
    · replace h := ifp b15 h
      refine g_bip dX8_judge_121 rfl ?_
      cases h
      exact g_ireturn dX8_judge_123 rfl (K1 ((-5), M) rfl)
    · replace h := ifn b15 h
      refine g_pc (pc' := 72) rfl ?_
      refine g_iload_n 1 dX8_judge_72 rfl ?_
      refine g_aload 3 dX8_judge_73 rfl ?_
      refine g_getI dX8_judge_75 flX8_340 (by decide) rfl hx5 ?_
      refine g_iload 4 dX8_judge_78 rfl ?_
      obtain ⟨c16, h⟩ := chk_some h
      refine g_isub dX8_judge_80 rfl c16 ?_
      refine g_icmp_lt (tgt := 90) dX8_judge_81 (by decide) (fun b17 => ?_) (fun b17 => ?_)
      · replace h := ifp b17 h
        refine g_aload 3 dX8_judge_90 rfl ?_
        refine g_getR dX8_judge_92 flX8_341 (by decide) rfl hx5 ?_
        refine g_iload_n 1 dX8_judge_95 rfl ?_
        refine g_iload 4 dX8_judge_96 rfl ?_
        obtain ⟨c18, h⟩ := chk_some h
        refine g_iadd dX8_judge_98 rfl c18 ?_
        obtain ⟨c19, h⟩ := chk_some h
        refine g_lald dX8_judge_99 (sf_4_2 hx5) c19.1 c19.2 ?_
        refine g_aload 2 dX8_judge_100 rfl ?_
        refine g_getR dX8_judge_102 flX8_214 (by decide) rfl hx4 ?_
        refine g_pc (pc' := 105) rfl ?_
        refine g_iload 4 dX8_judge_105 rfl ?_
        obtain ⟨c20, h⟩ := chk_some h
        refine g_lald dX8_judge_107 (sf_2_7 hx4) c20.1 c20.2 ?_
        refine g_lcmp_eq (tgt := 115) dX8_judge_108 dX8_judge_109 (by decide) (fun b21 => ?_) (fun b21 => ?_)
        · replace h := ifp b21 h
          obtain ⟨c22, h⟩ := chk_some h
          refine g_iinc (ls' := [(6, XI (x6 + 1)), (0, XR x0), (3, XI x3), (4, XR x4), (5, XR x5)]) 4 dX8_judge_115 rfl rfl c22 (by decide) rfl ?_
          refine g_goto (tgt := 60) dX8_judge_118 (by decide) ?_
          exact g_sub [1, 2, 3, 4, 0] rfl (ih _ _ _ h K1)
        · replace h := ifn b21 h
          refine g_pc (pc' := 112) rfl ?_
          refine g_iload 4 dX8_judge_112 rfl ?_
          cases h
          exact g_ireturn dX8_judge_114 rfl (K1 (x6, M) rfl)
      · replace h := ifn b17 h
        refine g_pc (pc' := 84) rfl ?_
        refine g_bip dX8_judge_84 rfl ?_
        refine g_iload 4 dX8_judge_86 rfl ?_
        obtain ⟨c23, h⟩ := chk_some h
        refine g_iadd dX8_judge_88 rfl c23 ?_
        cases h
        exact g_ireturn dX8_judge_89 rfl (K1 ((100 + x6), M) rfl)
set_option maxHeartbeats 8000000 in
set_option maxRecDepth 20000 in
theorem kX8_judge {X : XC} {d : Nat} {x0 : Nat} {x1 : Int} {x2 : Int} {x3 : Int} (hx0 : Sh x0 = (17, 10)) {M : Mem} {q : Int × Mem} (h : fX8_judge x0 x1 x2 x3 M = some q) : Ct X mX8_judge (d + 6) [XR x0, XI x1, XI x2, XI x3] M (pI q) := by
  unfold fX8_judge at h
  refine ct_go (by decide +kernel) (Nat.le_of_ble_eq_true rfl) (ls := [(0, XR x0), (1, XI x1), (2, XI x2), (3, XI x3)]) rfl ?_
  refine g_aload_n 0 dX8_judge_0 rfl ?_
  obtain ⟨q1, hq1, h⟩ := bnd_some h
  refine v_R (ci := 7) (as := []) dX8_judge_1 mlX8_143 mdX8_tallied mvX8_tallied rfl hx0 rfl (Nat.le_of_ble_eq_true rfl) (kX8_tallied hx0 hq1) rfl (fun ea2 => ?_) (fun a2 ea2 => ?_)
  · replace h := oc_n ea2 h
    refine g_iload_n 1 dX8_judge_4 rfl ?_
    cases h
  · replace h := oc_s ea2 h
    obtain ⟨c3, h⟩ := chk_some h
    refine g_iload_n 1 dX8_judge_4 rfl ?_
    obtain ⟨q4, hq4, h⟩ := bnd_some h
    refine v_R (ci := 3) (as := [XI x1]) dX8_judge_5 mlX8_186 mdX4_stageAt mvX4_stageAt rfl c3 rfl (Nat.le_of_ble_eq_true rfl) (kX4_stageAt c3 hq4) rfl (fun ea5 => ?_) (fun a5 ea5 => ?_)
    · replace h := oc_n ea5 h
      refine g_astoreN (ls' := [(4, XN), (0, XR x0), (1, XI x1), (2, XI x2), (3, XI x3)]) dX8_judge_8 (by decide) rfl ?_
      refine g_aload_n 1 dX8_judge_10 rfl ?_
      refine g_iload_n 3 dX8_judge_11 rfl ?_
      obtain ⟨q7, hq7, h⟩ := bnd_some h
      refine v_R (ci := 7) (as := [XI x2]) dX8_judge_12 mlX8_334 mdX8_tapeAt mvX8_tapeAt rfl hx0 rfl (Nat.le_of_ble_eq_true rfl) (kX8_tapeAt hx0 hq7) rfl (fun ea8 => ?_) (fun a8 ea8 => ?_)
      · replace h := oc_n ea8 h
        refine g_astoreN (ls' := [(5, XN), (4, XN), (0, XR x0), (1, XI x1), (2, XI x2), (3, XI x3)]) dX8_judge_15 (by decide) rfl ?_
        refine g_aloadN 1 dX8_judge_17 rfl ?_
        refine g_ifnullN (tgt := 27) dX8_judge_19 (by decide) ?_
        refine g_iconst (v := -1) dX8_judge_27 rfl (i32l rfl) ?_
        cases h
        exact g_ireturn dX8_judge_28 rfl ⟨rfl, rfl⟩
      · replace h := oc_s ea8 h
        obtain ⟨c9, h⟩ := chk_some h
        refine g_astore (ls' := [(5, XR a8), (4, XN), (0, XR x0), (1, XI x1), (2, XI x2), (3, XI x3)]) dX8_judge_15 (by decide) rfl ?_
        refine g_aloadN 1 dX8_judge_17 rfl ?_
        refine g_ifnullN (tgt := 27) dX8_judge_19 (by decide) ?_
        refine g_iconst (v := -1) dX8_judge_27 rfl (i32l rfl) ?_
        cases h
        exact g_ireturn dX8_judge_28 rfl ⟨rfl, rfl⟩
    · replace h := oc_s ea5 h
      obtain ⟨c6, h⟩ := chk_some h
      refine g_astore (ls' := [(4, XR a5), (0, XR x0), (1, XI x1), (2, XI x2), (3, XI x3)]) dX8_judge_8 (by decide) rfl ?_
      refine g_aload_n 1 dX8_judge_10 rfl ?_
      refine g_iload_n 3 dX8_judge_11 rfl ?_
      obtain ⟨q10, hq10, h⟩ := bnd_some h
      refine v_R (ci := 7) (as := [XI x2]) dX8_judge_12 mlX8_334 mdX8_tapeAt mvX8_tapeAt rfl hx0 rfl (Nat.le_of_ble_eq_true rfl) (kX8_tapeAt hx0 hq10) rfl (fun ea11 => ?_) (fun a11 ea11 => ?_)
      · replace h := oc_n ea11 h
        refine g_astoreN (ls' := [(5, XN), (4, XR a5), (0, XR x0), (1, XI x1), (2, XI x2), (3, XI x3)]) dX8_judge_15 (by decide) rfl ?_
        refine g_aload 1 dX8_judge_17 rfl ?_
        refine g_ifnullR dX8_judge_19 ?_
        refine g_aloadN 0 dX8_judge_22 rfl ?_
        refine g_ifnonnullN dX8_judge_24 ?_
        refine g_iconst (v := -1) dX8_judge_27 rfl (i32l rfl) ?_
        cases h
        exact g_ireturn dX8_judge_28 rfl ⟨rfl, rfl⟩
      · replace h := oc_s ea11 h
        obtain ⟨c12, h⟩ := chk_some h
        refine g_astore (ls' := [(5, XR a11), (4, XR a5), (0, XR x0), (1, XI x1), (2, XI x2), (3, XI x3)]) dX8_judge_15 (by decide) rfl ?_
        refine g_aload 1 dX8_judge_17 rfl ?_
        refine g_ifnullR dX8_judge_19 ?_
        refine g_aload 0 dX8_judge_22 rfl ?_
        refine g_ifnonnullR (tgt := 29) dX8_judge_24 (by decide) ?_
        refine g_aload 0 dX8_judge_29 rfl ?_
        refine g_getI dX8_judge_31 flX8_338 (by decide) rfl c12 ?_
        refine g_iconst (v := 3) dX8_judge_34 rfl (i32l rfl) ?_
        refine g_icmp_eq (tgt := 50) dX8_judge_35 (by decide) (fun b13 => ?_) (fun b13 => ?_)
        · replace h := ifp b13 h
          refine g_iload_n 5 dX8_judge_50 rfl ?_
          refine g_if_ge (tgt := 57) dX8_judge_51 (by decide) (fun b14 => ?_) (fun b14 => ?_)
          · replace h := ifp b14 h
            refine g_iconst (v := 0) dX8_judge_57 rfl (i32l rfl) ?_
            refine g_istore (ls' := [(6, XI 0), (5, XR a11), (4, XR a5), (0, XR x0), (1, XI x1), (2, XI x2), (3, XI x3)]) dX8_judge_58 (by decide) rfl ?_
            obtain ⟨z24, hz24, rz24, h⟩ := lr_some h
            refine g_sub (ls' := [(0, XR x0), (3, XI x3), (4, XR a5), (5, XR a11), (6, XI 0)]) [3, 6, 2, 1, 0] rfl ?_
            refine lX8_judge_l60 hx0 c6 c12 1000 _ _ _ hz24 (fun r e => ?_)
            have rz24 := rz24 r e
            subst rz24
            exact ⟨rfl, rfl⟩
          · replace h := ifn b14 h
            refine g_pc (pc' := 54) rfl ?_
            refine g_bip dX8_judge_54 rfl ?_
            cases h
            exact g_ireturn dX8_judge_56 rfl ⟨rfl, rfl⟩
        · replace h := ifn b13 h
          refine g_pc (pc' := 38) rfl ?_
          refine g_aload 0 dX8_judge_38 rfl ?_
          refine g_getI dX8_judge_40 flX8_338 (by decide) rfl c12 ?_
          refine g_iconst (v := -1) dX8_judge_43 rfl (i32l rfl) ?_
          refine g_icmp_eq (tgt := 50) dX8_judge_44 (by decide) (fun b25 => ?_) (fun b25 => ?_)
          · replace h := ifp b25 h
            refine g_iload_n 5 dX8_judge_50 rfl ?_
            refine g_if_ge (tgt := 57) dX8_judge_51 (by decide) (fun b26 => ?_) (fun b26 => ?_)
            · replace h := ifp b26 h
              refine g_iconst (v := 0) dX8_judge_57 rfl (i32l rfl) ?_
              refine g_istore (ls' := [(6, XI 0), (5, XR a11), (4, XR a5), (0, XR x0), (1, XI x1), (2, XI x2), (3, XI x3)]) dX8_judge_58 (by decide) rfl ?_
              obtain ⟨z27, hz27, rz27, h⟩ := lr_some h
              refine g_sub (ls' := [(0, XR x0), (3, XI x3), (4, XR a5), (5, XR a11), (6, XI 0)]) [3, 6, 2, 1, 0] rfl ?_
              refine lX8_judge_l60 hx0 c6 c12 1000 _ _ _ hz27 (fun r e => ?_)
              have rz27 := rz27 r e
              subst rz27
              exact ⟨rfl, rfl⟩
            · replace h := ifn b26 h
              refine g_pc (pc' := 54) rfl ?_
              refine g_bip dX8_judge_54 rfl ?_
              cases h
              exact g_ireturn dX8_judge_56 rfl ⟨rfl, rfl⟩
          · replace h := ifn b25 h
            refine g_pc (pc' := 47) rfl ?_
            refine g_bip dX8_judge_47 rfl ?_
            cases h
            exact g_ireturn dX8_judge_49 rfl ⟨rfl, rfl⟩
set_option maxHeartbeats 8000000 in
set_option maxRecDepth 20000 in
theorem kX8_image {X : XC} {d : Nat} {x0 : Nat} (hx0 : Sh x0 = (17, 10)) {M : Mem} {q : Int × Mem} (h : fX8_image x0 M = some q) : Ct X mX8_image (d + 1) [XR x0] M (pI q) := by
  unfold fX8_image at h
  refine ct_go (by decide +kernel) (Nat.le_of_ble_eq_true rfl) (ls := [(0, XR x0)]) rfl ?_
  refine g_aload_n 0 dX8_image_0 rfl ?_
  refine g_getR dX8_image_1 flX8_21 (by decide) rfl hx0 ?_
  refine g_aload_n 0 dX8_image_4 rfl ?_
  refine g_getR dX8_image_5 flX8_14 (by decide) rfl hx0 ?_
  obtain ⟨q1, hq1, h⟩ := bnd_some h
  refine v_V (ci := 1) (as := [XR (x0 + 10990)]) dX8_image_8 mlX8_253 mdX1_copyFrom mvX1_copyFrom rfl (sf_7_2 hx0) rfl (Nat.le_of_ble_eq_true rfl) (kX1_copyFrom (sf_7_2 hx0) (sf_7_0 hx0) hq1) rfl ?_
  refine g_aload_n 0 dX8_image_11 rfl ?_
  refine g_iconst (v := 1) dX8_image_12 rfl (i32l rfl) ?_
  refine g_putZ dX8_image_13 flX8_24 (by decide) rfl hx0 (by decide) ?_
  refine g_nmM (fun M2 eM2 => ?_)
  replace h := nm_s eM2 h
  refine g_pc (pc' := 16) rfl ?_
  refine g_aload_n 0 dX8_image_16 rfl ?_
  refine g_getR dX8_image_17 flX8_14 (by decide) rfl hx0 ?_
  refine g_getI dX8_image_20 flX8_83 (by decide) rfl (sf_7_0 hx0) ?_
  cases h
  exact g_ireturn dX8_image_23 rfl ⟨rfl, rfl⟩
set_option maxHeartbeats 8000000 in
set_option maxRecDepth 20000 in
theorem kX8_undo {X : XC} {d : Nat} {x0 : Nat} (hx0 : Sh x0 = (17, 10)) {M : Mem} {q : Int × Mem} (h : fX8_undo x0 M = some q) : Ct X mX8_undo (d + 1) [XR x0] M (pI q) := by
  unfold fX8_undo at h
  refine ct_go (by decide +kernel) (Nat.le_of_ble_eq_true rfl) (ls := [(0, XR x0)]) rfl ?_
  refine g_aload_n 0 dX8_undo_0 rfl ?_
  refine g_getZ dX8_undo_1 flX8_24 (by decide) rfl hx0 ?_
  refine g_if_ne (tgt := 10) dX8_undo_4 (by decide) (fun b1 => ?_) (fun b1 => ?_)
  · replace h := ifn b1 h
    refine g_aload_n 0 dX8_undo_10 rfl ?_
    refine g_getR dX8_undo_11 flX8_14 (by decide) rfl hx0 ?_
    refine g_aload_n 0 dX8_undo_14 rfl ?_
    refine g_getR dX8_undo_15 flX8_21 (by decide) rfl hx0 ?_
    obtain ⟨q2, hq2, h⟩ := bnd_some h
    refine v_V (ci := 1) (as := [XR (x0 + 12990)]) dX8_undo_18 mlX8_253 mdX1_copyFrom mvX1_copyFrom rfl (sf_7_0 hx0) rfl (Nat.le_of_ble_eq_true rfl) (kX1_copyFrom (sf_7_0 hx0) (sf_7_2 hx0) hq2) rfl ?_
    refine g_aload_n 0 dX8_undo_21 rfl ?_
    refine g_iconst (v := 0) dX8_undo_22 rfl (i32l rfl) ?_
    refine g_putZ dX8_undo_23 flX8_40 (by decide) rfl hx0 (by decide) ?_
    refine g_nmM (fun M3 eM3 => ?_)
    replace h := nm_s eM3 h
    refine g_pc (pc' := 26) rfl ?_
    refine g_aload_n 0 dX8_undo_26 rfl ?_
    refine g_getR dX8_undo_27 flX8_14 (by decide) rfl hx0 ?_
    refine g_getI dX8_undo_30 flX8_83 (by decide) rfl (sf_7_0 hx0) ?_
    cases h
    exact g_ireturn dX8_undo_33 rfl ⟨rfl, rfl⟩
  · replace h := ifp b1 h
    refine g_pc (pc' := 7) rfl ?_
    refine g_bip dX8_undo_7 rfl ?_
    cases h
    exact g_ireturn dX8_undo_9 rfl ⟨rfl, rfl⟩
end
