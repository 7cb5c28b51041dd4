section
set_option maxHeartbeats 8000000 in
set_option maxRecDepth 20000 in
theorem kX8_drop {X : XC} {d : Nat} {x0 : Nat} (hx0 : Sh x0 = (17, 10)) {M : Mem} {q : Int × Mem} (h : fX8_drop x0 M = some q) : Ct X mX8_drop d [XR x0] M (pI q) := by
  unfold fX8_drop at h
  refine ct_go (by decide +kernel) (Nat.le_of_ble_eq_true rfl) (ls := [(0, XR x0)]) rfl ?_
  refine g_aload_n 0 dX8_drop_0 rfl ?_
  refine g_getR dX8_drop_1 flX8_14 (by decide) rfl hx0 ?_
  refine g_getI dX8_drop_4 flX8_83 (by decide) rfl (sf_7_0 hx0) ?_
  refine g_if_gt (tgt := 13) dX8_drop_7 (by decide) (fun b1 => ?_) (fun b1 => ?_)
  · replace h := ifp b1 h
    refine g_aload_n 0 dX8_drop_13 rfl ?_
    refine g_getR dX8_drop_14 flX8_14 (by decide) rfl hx0 ?_
    refine g_dupR dX8_drop_17 ?_
    refine g_getI dX8_drop_18 flX8_83 (by decide) rfl (sf_7_0 hx0) ?_
    refine g_iconst (v := 1) dX8_drop_21 rfl (i32l rfl) ?_
    obtain ⟨c2, h⟩ := chk_some h
    refine g_isub dX8_drop_22 rfl c2 ?_
    refine g_putI dX8_drop_23 flX8_83 (by decide) rfl (sf_7_0 hx0) ?_
    refine g_nmM (fun M3 eM3 => ?_)
    replace h := nm_s eM3 h
    refine g_aload_n 0 dX8_drop_26 rfl ?_
    refine g_pc (pc' := 27) rfl ?_
    refine g_iconst (v := 0) dX8_drop_27 rfl (i32l rfl) ?_
    refine g_putZ dX8_drop_28 flX8_40 (by decide) rfl hx0 (by decide) ?_
    refine g_nmM (fun M4 eM4 => ?_)
    replace h := nm_s eM4 h
    refine g_aload_n 0 dX8_drop_31 rfl ?_
    refine g_getR dX8_drop_32 flX8_14 (by decide) rfl hx0 ?_
    refine g_getI dX8_drop_35 flX8_83 (by decide) rfl (sf_7_0 hx0) ?_
    cases h
    exact g_ireturn dX8_drop_38 rfl ⟨rfl, rfl⟩
  · replace h := ifn b1 h
    refine g_pc (pc' := 10) rfl ?_
    refine g_bip dX8_drop_10 rfl ?_
    cases h
    exact g_ireturn dX8_drop_12 rfl ⟨rfl, rfl⟩
set_option maxHeartbeats 8000000 in
set_option maxRecDepth 20000 in
theorem kX8_gone {X : XC} {d : Nat} {x0 : Nat} {x1 : Int} {x2 : Int} (hx0 : Sh x0 = (17, 10)) {M : Mem} {q : Int × Mem} (h : fX8_gone x0 x1 x2 M = some q) : Ct X mX8_gone (d + 1) [XR x0, XI x1, XI x2] M (pI q) := by
  unfold fX8_gone at h
  refine ct_go (by decide +kernel) (Nat.le_of_ble_eq_true rfl) (ls := [(0, XR x0), (1, XI x1), (2, XI x2)]) rfl ?_
  refine g_aload_n 0 dX8_gone_0 rfl ?_
  refine g_getR dX8_gone_1 flX8_14 (by decide) rfl hx0 ?_
  refine g_iload_n 1 dX8_gone_4 rfl ?_
  obtain ⟨q1, hq1, h⟩ := bnd_some h
  refine v_I (ci := 1) (as := [XI x1]) dX8_gone_5 mlX8_103 mdX1_hasCandidate mvX1_hasCandidate rfl (sf_7_0 hx0) rfl (Nat.le_of_ble_eq_true rfl) (kX1_hasCandidate (sf_7_0 hx0) hq1) rfl ?_
  refine g_if_ne (tgt := 13) dX8_gone_8 (by decide) (fun b2 => ?_) (fun b2 => ?_)
  · replace h := ifn b2 h
    refine g_aload_n 0 dX8_gone_13 rfl ?_
    refine g_getR dX8_gone_14 flX8_14 (by decide) rfl hx0 ?_
    refine g_getR dX8_gone_17 flX8_72 (by decide) rfl (sf_7_0 hx0) ?_
    refine g_iload_n 1 dX8_gone_20 rfl ?_
    obtain ⟨c3, h⟩ := chk_some h
    refine g_zald dX8_gone_21 (sf_1_2 (sf_7_0 hx0)) c3.1 c3.2 ?_
    obtain ⟨t5, ht5, h⟩ := bnd_some h
    have Kt5 : Go X mX8_gone (d + 1) 30 [(0, XR x0), (1, XI x1), (2, XI x2)] [XI t5] q1.2 (pI q) := by
      refine g_istore_n (ls' := [(3, XI t5), (0, XR x0), (1, XI x1), (2, XI x2)]) dX8_gone_30 (by decide) rfl ?_
      refine g_aload_n 1 dX8_gone_31 rfl ?_
      refine g_getR dX8_gone_32 flX8_14 (by decide) rfl hx0 ?_
      refine g_getR dX8_gone_35 flX8_72 (by decide) rfl (sf_7_0 hx0) ?_
      refine g_iload_n 2 dX8_gone_38 rfl ?_
      refine g_iload_n 3 dX8_gone_39 rfl ?_
      obtain ⟨c7, h⟩ := chk_some h
      obtain ⟨c8, h⟩ := chk_some h
      refine g_zast dX8_gone_40 (sf_1_2 (sf_7_0 hx0)) c7.1 c7.2 c8 ?_
      refine g_nmM (fun M9 eM9 => ?_)
      replace h := nm_s eM9 h
      refine g_aload_n 1 dX8_gone_41 rfl ?_
      refine g_pc (pc' := 42) rfl ?_
      refine g_iconst (v := 0) dX8_gone_42 rfl (i32l rfl) ?_
      refine g_putZ dX8_gone_43 flX8_40 (by decide) rfl hx0 (by decide) ?_
      refine g_nmM (fun M10 eM10 => ?_)
      replace h := nm_s eM10 h
      refine g_iload_n 0 dX8_gone_46 rfl ?_
      cases h
      exact g_ireturn dX8_gone_47 rfl ⟨rfl, rfl⟩
    refine g_if_eq (tgt := 29) dX8_gone_22 (by decide) (fun b6 => ?_) (fun b6 => ?_)
    · replace ht5 := ifp b6 ht5
      refine g_iconst (v := 0) dX8_gone_29 rfl (i32l rfl) ?_
      cases ht5
      exact g_sub [0, 1, 2] rfl Kt5
    · replace ht5 := ifn b6 ht5
      refine g_pc (pc' := 25) rfl ?_
      refine g_iconst (v := 1) dX8_gone_25 rfl (i32l rfl) ?_
      refine g_goto (tgt := 30) dX8_gone_26 (by decide) ?_
      cases ht5
      exact g_sub [0, 1, 2] rfl Kt5
  · replace h := ifp b2 h
    refine g_pc (pc' := 11) rfl ?_
    refine g_iconst (v := -1) dX8_gone_11 rfl (i32l rfl) ?_
    cases h
    exact g_ireturn dX8_gone_12 rfl ⟨rfl, rfl⟩
set_option maxHeartbeats 8000000 in
set_option maxRecDepth 20000 in
theorem kX8_putSeats {X : XC} {d : Nat} {x0 : Nat} {x1 : Int} (hx0 : Sh x0 = (17, 10)) {M : Mem} {q : Int × Mem} (h : fX8_putSeats x0 x1 M = some q) : Ct X mX8_putSeats d [XR x0, XI x1] M (pI q) := by
  unfold fX8_putSeats at h
  refine ct_go (by decide +kernel) (Nat.le_of_ble_eq_true rfl) (ls := [(0, XR x0), (1, XI x1)]) rfl ?_
  refine g_aload_n 0 dX8_putSeats_0 rfl ?_
  refine g_getR dX8_putSeats_1 flX8_14 (by decide) rfl hx0 ?_
  refine g_getI dX8_putSeats_4 flX8_116 (by decide) rfl (sf_7_0 hx0) ?_
  refine g_nmI (fun v1 ev1 => ?_)
  replace h := nm_s ev1 h
  refine g_istore_n (ls' := [(2, XI v1), (0, XR x0), (1, XI x1)]) dX8_putSeats_7 (by decide) rfl ?_
  refine g_aload_n 1 dX8_putSeats_8 rfl ?_
  refine g_getR dX8_putSeats_9 flX8_14 (by decide) rfl hx0 ?_
  refine g_iload_n 2 dX8_putSeats_12 rfl ?_
  refine g_putI dX8_putSeats_13 flX8_116 (by decide) rfl (sf_7_0 hx0) ?_
  refine g_nmM (fun M2 eM2 => ?_)
  replace h := nm_s eM2 h
  refine g_pc (pc' := 16) rfl ?_
  refine g_aload_n 1 dX8_putSeats_16 rfl ?_
  refine g_iconst (v := 0) dX8_putSeats_17 rfl (i32l rfl) ?_
  refine g_putZ dX8_putSeats_18 flX8_40 (by decide) rfl hx0 (by decide) ?_
  refine g_nmM (fun M3 eM3 => ?_)
  replace h := nm_s eM3 h
  refine g_iload_n 0 dX8_putSeats_21 rfl ?_
  cases h
  exact g_ireturn dX8_putSeats_22 rfl ⟨rfl, rfl⟩
set_option maxHeartbeats 8000000 in
set_option maxRecDepth 20000 in
theorem kX8_putLimit {X : XC} {d : Nat} {x0 : Nat} {x1 : Int} (hx0 : Sh x0 = (17, 10)) {M : Mem} {q : Int × Mem} (h : fX8_putLimit x0 x1 M = some q) : Ct X mX8_putLimit d [XR x0, XI x1] M (pI q) := by
  unfold fX8_putLimit at h
  refine ct_go (by decide +kernel) (Nat.le_of_ble_eq_true rfl) (ls := [(0, XR x0), (1, XI x1)]) rfl ?_
  refine g_aload_n 0 dX8_putLimit_0 rfl ?_
  refine g_getR dX8_putLimit_1 flX8_14 (by decide) rfl hx0 ?_
  refine g_getI dX8_putLimit_4 flX8_119 (by decide) rfl (sf_7_0 hx0) ?_
  refine g_nmI (fun v1 ev1 => ?_)
  replace h := nm_s ev1 h
  refine g_istore_n (ls' := [(2, XI v1), (0, XR x0), (1, XI x1)]) dX8_putLimit_7 (by decide) rfl ?_
  refine g_aload_n 1 dX8_putLimit_8 rfl ?_
  refine g_getR dX8_putLimit_9 flX8_14 (by decide) rfl hx0 ?_
  refine g_iload_n 2 dX8_putLimit_12 rfl ?_
  refine g_putI dX8_putLimit_13 flX8_119 (by decide) rfl (sf_7_0 hx0) ?_
  refine g_nmM (fun M2 eM2 => ?_)
  replace h := nm_s eM2 h
  refine g_pc (pc' := 16) rfl ?_
  refine g_aload_n 1 dX8_putLimit_16 rfl ?_
  refine g_iconst (v := 0) dX8_putLimit_17 rfl (i32l rfl) ?_
  refine g_putZ dX8_putLimit_18 flX8_40 (by decide) rfl hx0 (by decide) ?_
  refine g_nmM (fun M3 eM3 => ?_)
  replace h := nm_s eM3 h
  refine g_iload_n 0 dX8_putLimit_21 rfl ?_
  cases h
  exact g_ireturn dX8_putLimit_22 rfl ⟨rfl, rfl⟩
set_option maxHeartbeats 8000000 in
set_option maxRecDepth 20000 in
theorem kX8_putRounds {X : XC} {d : Nat} {x0 : Nat} {x1 : Int} (hx0 : Sh x0 = (17, 10)) {M : Mem} {q : Int × Mem} (h : fX8_putRounds x0 x1 M = some q) : Ct X mX8_putRounds d [XR x0, XI x1] M (pI q) := by
  unfold fX8_putRounds at h
  refine ct_go (by decide +kernel) (Nat.le_of_ble_eq_true rfl) (ls := [(0, XR x0), (1, XI x1)]) rfl ?_
  refine g_aload_n 0 dX8_putRounds_0 rfl ?_
  refine g_getR dX8_putRounds_1 flX8_14 (by decide) rfl hx0 ?_
  refine g_getI dX8_putRounds_4 flX8_122 (by decide) rfl (sf_7_0 hx0) ?_
  refine g_nmI (fun v1 ev1 => ?_)
  replace h := nm_s ev1 h
  refine g_istore_n (ls' := [(2, XI v1), (0, XR x0), (1, XI x1)]) dX8_putRounds_7 (by decide) rfl ?_
  refine g_aload_n 1 dX8_putRounds_8 rfl ?_
  refine g_getR dX8_putRounds_9 flX8_14 (by decide) rfl hx0 ?_
  refine g_iload_n 2 dX8_putRounds_12 rfl ?_
  refine g_putI dX8_putRounds_13 flX8_122 (by decide) rfl (sf_7_0 hx0) ?_
  refine g_nmM (fun M2 eM2 => ?_)
  replace h := nm_s eM2 h
  refine g_pc (pc' := 16) rfl ?_
  refine g_aload_n 1 dX8_putRounds_16 rfl ?_
  refine g_iconst (v := 0) dX8_putRounds_17 rfl (i32l rfl) ?_
  refine g_putZ dX8_putRounds_18 flX8_40 (by decide) rfl hx0 (by decide) ?_
  refine g_nmM (fun M3 eM3 => ?_)
  replace h := nm_s eM3 h
  refine g_iload_n 0 dX8_putRounds_21 rfl ?_
  cases h
  exact g_ireturn dX8_putRounds_22 rfl ⟨rfl, rfl⟩
set_option maxHeartbeats 8000000 in
set_option maxRecDepth 20000 in
theorem kX8_set {X : XC} {d : Nat} {x0 : Nat} {x1 : Int} {x2 : Int} (hx0 : Sh x0 = (17, 10)) {M : Mem} {q : Int × Mem} (h : fX8_set x0 x1 x2 M = some q) : Ct X mX8_set (d + 1) [XR x0, XI x1, XI x2] M (pI q) := by
  unfold fX8_set at h
  refine ct_go (by decide +kernel) (Nat.le_of_ble_eq_true rfl) (ls := [(0, XR x0), (1, XI x1), (2, XI x2)]) rfl ?_
  refine g_iload_n 1 dX8_set_0 rfl ?_
  by_cases b1 : x1 = 0
  · replace h := ifp b1 h
    refine g_tswIn (off := 27) (tgt := 28) dX8_set_1 (by rw [b1]; decide) (by rw [b1]; decide) (by rw [b1]; rfl) (by decide) ?_
    refine g_iload_n 2 dX8_set_28 rfl ?_
    refine g_iconst (v := 1) dX8_set_29 rfl (i32l rfl) ?_
    obtain ⟨t5, ht5, h⟩ := bnd_some h
    have Kt5 : Go X mX8_set (d + 1) 49 [] [XI t5.1] t5.2 (pI q) := by
      cases h
      exact g_ireturn dX8_set_49 rfl ⟨rfl, rfl⟩
    refine g_icmp_lt (tgt := 39) dX8_set_30 (by decide) (fun b6 => ?_) (fun b6 => ?_)
    · replace ht5 := ifp b6 ht5
      refine g_bip dX8_set_39 rfl ?_
      refine g_goto (tgt := 49) dX8_set_41 (by decide) ?_
      cases ht5
      exact g_sub [] rfl Kt5
    · replace ht5 := ifn b6 ht5
      refine g_pc (pc' := 33) rfl ?_
      refine g_iload_n 2 dX8_set_33 rfl ?_
      refine g_bip dX8_set_34 rfl ?_
      refine g_icmp_le (tgt := 44) dX8_set_36 (by decide) (fun b7 => ?_) (fun b7 => ?_)
      · replace ht5 := ifp b7 ht5
        refine g_aload_n 0 dX8_set_44 rfl ?_
        refine g_iload_n 2 dX8_set_45 rfl ?_
        obtain ⟨q8, hq8, ht5⟩ := bnd_some ht5
        refine v_I (ci := 7) (as := [XI x2]) dX8_set_46 mlX8_106 mdX8_putSeats mvX8_putSeats rfl hx0 rfl (Nat.le_of_ble_eq_true rfl) (kX8_putSeats hx0 hq8) rfl ?_
        cases ht5
        exact g_sub [] rfl Kt5
      · replace ht5 := ifn b7 ht5
        refine g_pc (pc' := 39) rfl ?_
        refine g_bip dX8_set_39 rfl ?_
        refine g_goto (tgt := 49) dX8_set_41 (by decide) ?_
        cases ht5
        exact g_sub [] rfl Kt5
  · replace h := ifn b1 h
    by_cases b9 : x1 = 1
    · replace h := ifp b9 h
      refine g_tswIn (off := 49) (tgt := 50) dX8_set_1 (by rw [b9]; decide) (by rw [b9]; decide) (by rw [b9]; rfl) (by decide) ?_
      refine g_iload_n 2 dX8_set_50 rfl ?_
      obtain ⟨t13, ht13, h⟩ := bnd_some h
      have Kt13 : Go X mX8_set (d + 1) 70 [] [XI t13.1] t13.2 (pI q) := by
        cases h
        exact g_ireturn dX8_set_70 rfl ⟨rfl, rfl⟩
      refine g_if_lt (tgt := 60) dX8_set_51 (by decide) (fun b14 => ?_) (fun b14 => ?_)
      · replace ht13 := ifp b14 ht13
        refine g_bip dX8_set_60 rfl ?_
        refine g_goto (tgt := 70) dX8_set_62 (by decide) ?_
        cases ht13
        exact g_sub [] rfl Kt13
      · replace ht13 := ifn b14 ht13
        refine g_pc (pc' := 54) rfl ?_
        refine g_iload_n 2 dX8_set_54 rfl ?_
        refine g_ldc (v := 1000000000) dX8_set_55 csX8_109 (by decide +kernel) (i32l rfl) ?_
        refine g_icmp_le (tgt := 65) dX8_set_57 (by decide) (fun b15 => ?_) (fun b15 => ?_)
        · replace ht13 := ifp b15 ht13
          refine g_aload_n 0 dX8_set_65 rfl ?_
          refine g_iload_n 2 dX8_set_66 rfl ?_
          obtain ⟨q16, hq16, ht13⟩ := bnd_some ht13
          refine v_I (ci := 7) (as := [XI x2]) dX8_set_67 mlX8_110 mdX8_putLimit mvX8_putLimit rfl hx0 rfl (Nat.le_of_ble_eq_true rfl) (kX8_putLimit hx0 hq16) rfl ?_
          cases ht13
          exact g_sub [] rfl Kt13
        · replace ht13 := ifn b15 ht13
          refine g_pc (pc' := 60) rfl ?_
          refine g_bip dX8_set_60 rfl ?_
          refine g_goto (tgt := 70) dX8_set_62 (by decide) ?_
          cases ht13
          exact g_sub [] rfl Kt13
    · replace h := ifn b9 h
      by_cases b17 : x1 = 2
      · replace h := ifp b17 h
        refine g_tswIn (off := 70) (tgt := 71) dX8_set_1 (by rw [b17]; decide) (by rw [b17]; decide) (by rw [b17]; rfl) (by decide) ?_
        refine g_iload_n 2 dX8_set_71 rfl ?_
        refine g_iconst (v := 1) dX8_set_72 rfl (i32l rfl) ?_
        obtain ⟨t21, ht21, h⟩ := bnd_some h
        have Kt21 : Go X mX8_set (d + 1) 92 [] [XI t21.1] t21.2 (pI q) := by
          cases h
          exact g_ireturn dX8_set_92 rfl ⟨rfl, rfl⟩
        refine g_icmp_lt (tgt := 82) dX8_set_73 (by decide) (fun b22 => ?_) (fun b22 => ?_)
        · replace ht21 := ifp b22 ht21
          refine g_bip dX8_set_82 rfl ?_
          refine g_goto (tgt := 92) dX8_set_84 (by decide) ?_
          cases ht21
          exact g_sub [] rfl Kt21
        · replace ht21 := ifn b22 ht21
          refine g_pc (pc' := 76) rfl ?_
          refine g_iload_n 2 dX8_set_76 rfl ?_
          refine g_bip dX8_set_77 rfl ?_
          refine g_icmp_le (tgt := 87) dX8_set_79 (by decide) (fun b23 => ?_) (fun b23 => ?_)
          · replace ht21 := ifp b23 ht21
            refine g_aload_n 0 dX8_set_87 rfl ?_
            refine g_iload_n 2 dX8_set_88 rfl ?_
            obtain ⟨q24, hq24, ht21⟩ := bnd_some ht21
            refine v_I (ci := 7) (as := [XI x2]) dX8_set_89 mlX8_113 mdX8_putRounds mvX8_putRounds rfl hx0 rfl (Nat.le_of_ble_eq_true rfl) (kX8_putRounds hx0 hq24) rfl ?_
            cases ht21
            exact g_sub [] rfl Kt21
          · replace ht21 := ifn b23 ht21
            refine g_pc (pc' := 82) rfl ?_
            refine g_bip dX8_set_82 rfl ?_
            refine g_goto (tgt := 92) dX8_set_84 (by decide) ?_
            cases ht21
            exact g_sub [] rfl Kt21
      · replace h := ifn b17 h
        refine g_tswOut (tgt := 93) dX8_set_1 (by omega) (by decide) ?_
        refine g_iconst (v := -1) dX8_set_93 rfl (i32l rfl) ?_
        cases h
        exact g_ireturn dX8_set_94 rfl ⟨rfl, rfl⟩
set_option maxHeartbeats 8000000 in
set_option maxRecDepth 20000 in
theorem kX8_swap {X : XC} {d : Nat} {x0 : Nat} {x1 : Int} {x2 : Int} (hx0 : Sh x0 = (17, 10)) {M : Mem} {q : Int × Mem} (h : fX8_swap x0 x1 x2 M = some q) : Ct X mX8_swap (d + 1) [XR x0, XI x1, XI x2] M (pI q) := by
  unfold fX8_swap at h
  refine ct_go (by decide +kernel) (Nat.le_of_ble_eq_true rfl) (ls := [(0, XR x0), (1, XI x1), (2, XI x2)]) rfl ?_
  refine g_aload_n 0 dX8_swap_0 rfl ?_
  refine g_getR dX8_swap_1 flX8_14 (by decide) rfl hx0 ?_
  refine g_iload_n 1 dX8_swap_4 rfl ?_
  obtain ⟨q1, hq1, h⟩ := bnd_some h
  refine v_I (ci := 1) (as := [XI x1]) dX8_swap_5 mlX8_103 mdX1_hasCandidate mvX1_hasCandidate rfl (sf_7_0 hx0) rfl (Nat.le_of_ble_eq_true rfl) (kX1_hasCandidate (sf_7_0 hx0) hq1) rfl ?_
  refine g_if_eq (tgt := 27) dX8_swap_8 (by decide) (fun b2 => ?_) (fun b2 => ?_)
  · replace h := ifp b2 h
    refine g_iconst (v := -1) dX8_swap_27 rfl (i32l rfl) ?_
    cases h
    exact g_ireturn dX8_swap_28 rfl ⟨rfl, rfl⟩
  · replace h := ifn b2 h
    refine g_pc (pc' := 11) rfl ?_
    refine g_aload_n 0 dX8_swap_11 rfl ?_
    refine g_getR dX8_swap_12 flX8_14 (by decide) rfl hx0 ?_
    refine g_iload_n 2 dX8_swap_15 rfl ?_
    obtain ⟨q3, hq3, h⟩ := bnd_some h
    refine v_I (ci := 1) (as := [XI x2]) dX8_swap_16 mlX8_103 mdX1_hasCandidate mvX1_hasCandidate rfl (sf_7_0 hx0) rfl (Nat.le_of_ble_eq_true rfl) (kX1_hasCandidate (sf_7_0 hx0) hq3) rfl ?_
    refine g_if_eq (tgt := 27) dX8_swap_19 (by decide) (fun b4 => ?_) (fun b4 => ?_)
    · replace h := ifp b4 h
      refine g_iconst (v := -1) dX8_swap_27 rfl (i32l rfl) ?_
      cases h
      exact g_ireturn dX8_swap_28 rfl ⟨rfl, rfl⟩
    · replace h := ifn b4 h
      refine g_pc (pc' := 22) rfl ?_
      refine g_iload_n 1 dX8_swap_22 rfl ?_
      refine g_iload_n 2 dX8_swap_23 rfl ?_
      refine g_icmp_ne (tgt := 29) dX8_swap_24 (by decide) (fun b5 => ?_) (fun b5 => ?_)
      · replace h := ifn b5 h
        refine g_aload_n 0 dX8_swap_29 rfl ?_
        refine g_getR dX8_swap_30 flX8_14 (by decide) rfl hx0 ?_
        refine g_getR dX8_swap_33 flX8_68 (by decide) rfl (sf_7_0 hx0) ?_
        refine g_iload_n 1 dX8_swap_36 rfl ?_
        obtain ⟨c6, h⟩ := chk_some h
        refine g_iald dX8_swap_37 (sf_1_1 (sf_7_0 hx0)) c6.1 c6.2 ?_
        refine g_nmI (fun v7 ev7 => ?_)
        replace h := nm_s ev7 h
        refine g_istore_n (ls' := [(3, XI v7), (0, XR x0), (1, XI x1), (2, XI x2)]) dX8_swap_38 (by decide) rfl ?_
        refine g_aload_n 1 dX8_swap_39 rfl ?_
        refine g_getR dX8_swap_40 flX8_14 (by decide) rfl hx0 ?_
        refine g_pc (pc' := 43) rfl ?_
        refine g_getR dX8_swap_43 flX8_68 (by decide) rfl (sf_7_0 hx0) ?_
        refine g_iload_n 2 dX8_swap_46 rfl ?_
        refine g_aload_n 1 dX8_swap_47 rfl ?_
        refine g_getR dX8_swap_48 flX8_14 (by decide) rfl hx0 ?_
        refine g_getR dX8_swap_51 flX8_68 (by decide) rfl (sf_7_0 hx0) ?_
        refine g_iload_n 3 dX8_swap_54 rfl ?_
        obtain ⟨c8, h⟩ := chk_some h
        refine g_iald dX8_swap_55 (sf_1_1 (sf_7_0 hx0)) c8.1 c8.2 ?_
        obtain ⟨c9, h⟩ := chk_some h
        refine g_iast dX8_swap_56 (sf_1_1 (sf_7_0 hx0)) c9.1 c9.2 ?_
        refine g_nmM (fun M10 eM10 => ?_)
        replace h := nm_s eM10 h
        refine g_aload_n 1 dX8_swap_57 rfl ?_
        refine g_pc (pc' := 58) rfl ?_
        refine g_getR dX8_swap_58 flX8_14 (by decide) rfl hx0 ?_
        refine g_getR dX8_swap_61 flX8_68 (by decide) rfl (sf_7_0 hx0) ?_
        refine g_iload_n 3 dX8_swap_64 rfl ?_
        refine g_iload_n 0 dX8_swap_65 rfl ?_
        obtain ⟨c11, h⟩ := chk_some h
        refine g_iast dX8_swap_66 (sf_1_1 (sf_7_0 hx0)) c11.1 c11.2 ?_
        refine g_nmM (fun M12 eM12 => ?_)
        replace h := nm_s eM12 h
        refine g_aload_n 1 dX8_swap_67 rfl ?_
        refine g_iconst (v := 0) dX8_swap_68 rfl (i32l rfl) ?_
        refine g_putZ dX8_swap_69 flX8_40 (by decide) rfl hx0 (by decide) ?_
        refine g_nmM (fun M13 eM13 => ?_)
        replace h := nm_s eM13 h
        refine g_aload_n 1 dX8_swap_72 rfl ?_
        refine g_pc (pc' := 73) rfl ?_
        refine g_getR dX8_swap_73 flX8_14 (by decide) rfl hx0 ?_
        refine g_getR dX8_swap_76 flX8_68 (by decide) rfl (sf_7_0 hx0) ?_
        refine g_iload_n 2 dX8_swap_79 rfl ?_
        obtain ⟨c14, h⟩ := chk_some h
        refine g_iald dX8_swap_80 (sf_1_1 (sf_7_0 hx0)) c14.1 c14.2 ?_
        cases h
        exact g_ireturn dX8_swap_81 rfl ⟨rfl, rfl⟩
      · replace h := ifp b5 h
        refine g_pc (pc' := 27) rfl ?_
        refine g_iconst (v := -1) dX8_swap_27 rfl (i32l rfl) ?_
        cases h
        exact g_ireturn dX8_swap_28 rfl ⟨rfl, rfl⟩
set_option maxHeartbeats 8000000 in
set_option maxRecDepth 20000 in
theorem kX8_tallied {X : XC} {d : Nat} {x0 : Nat} (hx0 : Sh x0 = (17, 10)) {M : Mem} {q : Option Nat × Mem} (h : fX8_tallied x0 M = some q) : Ct X mX8_tallied (d + 5) [XR x0] M (pR q) := by
  unfold fX8_tallied at h
  refine ct_go (by decide +kernel) (Nat.le_of_ble_eq_true rfl) (ls := [(0, XR x0)]) rfl ?_
  refine g_aload_n 0 dX8_tallied_0 rfl ?_
  refine g_getZ dX8_tallied_1 flX8_40 (by decide) rfl hx0 ?_
  obtain ⟨t4, ht4, h⟩ := bnd_some h
  have Kt4 : Go X mX8_tallied (d + 5) 19 [(0, XR x0)] [] t4 (pR q) := by
    refine g_aload_n 0 dX8_tallied_19 rfl ?_
    refine g_getR dX8_tallied_20 flX8_33 (by decide) rfl hx0 ?_
    cases h
    exact g_areturn dX8_tallied_23 rfl ⟨rfl, rfl⟩
  refine g_if_ne (tgt := 19) dX8_tallied_4 (by decide) (fun b5 => ?_) (fun b5 => ?_)
  · replace ht4 := ifn b5 ht4
    cases ht4
    exact g_sub [0] rfl Kt4
  · replace ht4 := ifp b5 ht4
    refine g_pc (pc' := 7) rfl ?_
    refine g_aload_n 0 dX8_tallied_7 rfl ?_
    refine g_getR dX8_tallied_8 flX8_33 (by decide) rfl hx0 ?_
    obtain ⟨q6, hq6, ht4⟩ := bnd_some ht4
    refine v_V (ci := 3) (as := []) dX8_tallied_11 mlX8_140 mdX4_work mvX4_work rfl (sf_7_4 hx0) rfl (Nat.le_of_ble_eq_true rfl) (kX4_work (sf_7_4 hx0) hq6) rfl ?_
    refine g_aload_n 0 dX8_tallied_14 rfl ?_
    refine g_iconst (v := 1) dX8_tallied_15 rfl (i32l rfl) ?_
    refine g_putZ dX8_tallied_16 flX8_40 (by decide) rfl hx0 (by decide) ?_
    refine g_nmM (fun M7 eM7 => ?_)
    replace ht4 := nm_s eM7 ht4
    cases ht4
    exact g_sub [0] rfl Kt4
set_option maxHeartbeats 8000000 in
set_option maxRecDepth 20000 in
theorem kX8_of {X : XC} {d : Nat} {x0 : Nat} {x1 : Int} {x2 : Int} (hx0 : Sh x0 = (17, 10)) {M : Mem} {q : Int × Mem} (h : fX8_of x0 x1 x2 M = some q) : Ct X mX8_of (d + 6) [XR x0, XI x1, XI x2] M (pI q) := by
  unfold fX8_of at h
  refine ct_go (by decide +kernel) (Nat.le_of_ble_eq_true rfl) (ls := [(0, XR x0), (1, XI x1), (2, XI x2)]) rfl ?_
  refine g_aload_n 0 dX8_of_0 rfl ?_
  refine g_getR dX8_of_1 flX8_14 (by decide) rfl hx0 ?_
  refine g_iload_n 1 dX8_of_4 rfl ?_
  obtain ⟨q1, hq1, h⟩ := bnd_some h
  refine v_I (ci := 1) (as := [XI x1]) dX8_of_5 mlX8_103 mdX1_hasCandidate mvX1_hasCandidate rfl (sf_7_0 hx0) rfl (Nat.le_of_ble_eq_true rfl) (kX1_hasCandidate (sf_7_0 hx0) hq1) rfl ?_
  refine g_if_ne (tgt := 13) dX8_of_8 (by decide) (fun b2 => ?_) (fun b2 => ?_)
  · replace h := ifn b2 h
    refine g_iload_n 2 dX8_of_13 rfl ?_
    by_cases b3 : x2 = 0
    · replace h := ifp b3 h
      refine g_tswIn (off := 30) (tgt := 44) dX8_of_14 (by rw [b3]; decide) (by rw [b3]; decide) (by rw [b3]; rfl) (by decide) ?_
      refine g_aload_n 0 dX8_of_44 rfl ?_
      obtain ⟨q4, hq4, h⟩ := bnd_some h
      refine v_R (ci := 7) (as := []) dX8_of_45 mlX8_143 mdX8_tallied mvX8_tallied rfl hx0 rfl (Nat.le_of_ble_eq_true rfl) (kX8_tallied hx0 hq4) rfl (fun ea5 => ?_) (fun a5 ea5 => ?_)
      · replace h := oc_n ea5 h
        cases h
      · replace h := oc_s ea5 h
        obtain ⟨c6, h⟩ := chk_some h
        refine g_getR dX8_of_48 flX8_147 (by decide) rfl c6 ?_
        refine g_iload_n 1 dX8_of_51 rfl ?_
        obtain ⟨c7, h⟩ := chk_some h
        refine g_iald dX8_of_52 (sf_3_2 c6) c7.1 c7.2 ?_
        cases h
        exact g_ireturn dX8_of_53 rfl ⟨rfl, rfl⟩
    · replace h := ifn b3 h
      by_cases b8 : x2 = 1
      · replace h := ifp b8 h
        refine g_tswIn (off := 40) (tgt := 54) dX8_of_14 (by rw [b8]; decide) (by rw [b8]; decide) (by rw [b8]; rfl) (by decide) ?_
        refine g_aload_n 0 dX8_of_54 rfl ?_
        obtain ⟨q9, hq9, h⟩ := bnd_some h
        refine v_R (ci := 7) (as := []) dX8_of_55 mlX8_143 mdX8_tallied mvX8_tallied rfl hx0 rfl (Nat.le_of_ble_eq_true rfl) (kX8_tallied hx0 hq9) rfl (fun ea10 => ?_) (fun a10 ea10 => ?_)
        · replace h := oc_n ea10 h
          cases h
        · replace h := oc_s ea10 h
          obtain ⟨c11, h⟩ := chk_some h
          refine g_getR dX8_of_58 flX8_150 (by decide) rfl c11 ?_
          refine g_iload_n 1 dX8_of_61 rfl ?_
          obtain ⟨c12, h⟩ := chk_some h
          refine g_iald dX8_of_62 (sf_3_3 c11) c12.1 c12.2 ?_
          cases h
          exact g_ireturn dX8_of_63 rfl ⟨rfl, rfl⟩
      · replace h := ifn b8 h
        by_cases b13 : x2 = 2
        · replace h := ifp b13 h
          refine g_tswIn (off := 50) (tgt := 64) dX8_of_14 (by rw [b13]; decide) (by rw [b13]; decide) (by rw [b13]; rfl) (by decide) ?_
          refine g_aload_n 0 dX8_of_64 rfl ?_
          refine g_getR dX8_of_65 flX8_14 (by decide) rfl hx0 ?_
          refine g_iload_n 1 dX8_of_68 rfl ?_
          obtain ⟨q14, hq14, h⟩ := bnd_some h
          refine v_I (ci := 1) (as := [XI x1]) dX8_of_69 mlX8_153 mdX1_placeInLot mvX1_placeInLot rfl (sf_7_0 hx0) rfl (Nat.le_of_ble_eq_true rfl) (kX1_placeInLot (sf_7_0 hx0) hq14) rfl ?_
          cases h
          exact g_ireturn dX8_of_72 rfl ⟨rfl, rfl⟩
        · replace h := ifn b13 h
          by_cases b15 : x2 = 3
          · replace h := ifp b15 h
            refine g_tswIn (off := 59) (tgt := 73) dX8_of_14 (by rw [b15]; decide) (by rw [b15]; decide) (by rw [b15]; rfl) (by decide) ?_
            refine g_aload_n 0 dX8_of_73 rfl ?_
            refine g_getR dX8_of_74 flX8_14 (by decide) rfl hx0 ?_
            refine g_iload_n 1 dX8_of_77 rfl ?_
            obtain ⟨q16, hq16, h⟩ := bnd_some h
            refine v_I (ci := 1) (as := [XI x1]) dX8_of_78 mlX8_156 mdX1_manyFirst mvX1_manyFirst rfl (sf_7_0 hx0) rfl (Nat.le_of_ble_eq_true rfl) (kX1_manyFirst (sf_7_0 hx0) hq16) rfl ?_
            cases h
            exact g_ireturn dX8_of_81 rfl ⟨rfl, rfl⟩
          · replace h := ifn b15 h
            refine g_tswOut (tgt := 82) dX8_of_14 (by omega) (by decide) ?_
            refine g_iconst (v := -1) dX8_of_82 rfl (i32l rfl) ?_
            cases h
            exact g_ireturn dX8_of_83 rfl ⟨rfl, rfl⟩
  · replace h := ifp b2 h
    refine g_pc (pc' := 11) rfl ?_
    refine g_iconst (v := -1) dX8_of_11 rfl (i32l rfl) ?_
    cases h
    exact g_ireturn dX8_of_12 rfl ⟨rfl, rfl⟩
set_option maxHeartbeats 8000000 in
set_option maxRecDepth 20000 in
theorem kX8_ballotOf {X : XC} {d : Nat} {x0 : Nat} {x1 : Int} {x2 : Int} (hx0 : Sh x0 = (17, 10)) {M : Mem} {q : Int × Mem} (h : fX8_ballotOf x0 x1 x2 M = some q) : Ct X mX8_ballotOf (d + 3) [XR x0, XI x1, XI x2] M (pI q) := by
  unfold fX8_ballotOf at h
  refine ct_go (by decide +kernel) (Nat.le_of_ble_eq_true rfl) (ls := [(0, XR x0), (1, XI x1), (2, XI x2)]) rfl ?_
  refine g_aload_n 0 dX8_ballotOf_0 rfl ?_
  refine g_getR dX8_ballotOf_1 flX8_14 (by decide) rfl hx0 ?_
  refine g_iload_n 1 dX8_ballotOf_4 rfl ?_
  obtain ⟨q1, hq1, h⟩ := bnd_some h
  refine v_I (ci := 1) (as := [XI x1]) dX8_ballotOf_5 mlX8_99 mdX1_hasBallot mvX1_hasBallot rfl (sf_7_0 hx0) rfl (Nat.le_of_ble_eq_true rfl) (kX1_hasBallot (sf_7_0 hx0) hq1) rfl ?_
  refine g_if_ne (tgt := 13) dX8_ballotOf_8 (by decide) (fun b2 => ?_) (fun b2 => ?_)
  · replace h := ifn b2 h
    refine g_iload_n 2 dX8_ballotOf_13 rfl ?_
    by_cases b3 : x2 = 0
    · replace h := ifp b3 h
      refine g_tswIn (off := 26) (tgt := 40) dX8_ballotOf_14 (by rw [b3]; decide) (by rw [b3]; decide) (by rw [b3]; rfl) (by decide) ?_
      refine g_aload_n 0 dX8_ballotOf_40 rfl ?_
      refine g_getR dX8_ballotOf_41 flX8_14 (by decide) rfl hx0 ?_
      refine g_getR dX8_ballotOf_44 flX8_96 (by decide) rfl (sf_7_0 hx0) ?_
      refine g_iload_n 1 dX8_ballotOf_47 rfl ?_
      obtain ⟨c4, h⟩ := chk_some h
      refine g_iald dX8_ballotOf_48 (sf_1_5 (sf_7_0 hx0)) c4.1 c4.2 ?_
      cases h
      exact g_ireturn dX8_ballotOf_49 rfl ⟨rfl, rfl⟩
    · replace h := ifn b3 h
      by_cases b5 : x2 = 1
      · replace h := ifp b5 h
        refine g_tswIn (off := 36) (tgt := 50) dX8_ballotOf_14 (by rw [b5]; decide) (by rw [b5]; decide) (by rw [b5]; rfl) (by decide) ?_
        refine g_aload_n 0 dX8_ballotOf_50 rfl ?_
        refine g_getR dX8_ballotOf_51 flX8_14 (by decide) rfl hx0 ?_
        refine g_getR dX8_ballotOf_54 flX8_89 (by decide) rfl (sf_7_0 hx0) ?_
        refine g_iload_n 1 dX8_ballotOf_57 rfl ?_
        obtain ⟨c6, h⟩ := chk_some h
        refine g_iald dX8_ballotOf_58 (sf_1_4 (sf_7_0 hx0)) c6.1 c6.2 ?_
        obtain ⟨q7, hq7, h⟩ := bnd_some h
        refine s_I (as := [XI (q1.2 ((x0 + 10990) + 5) (Int.toNat x1))]) dX8_ballotOf_59 mlX8_159 mdX2_length msX2_length rfl (Nat.le_of_ble_eq_true rfl) (kX2_length  hq7) rfl ?_
        cases h
        exact g_ireturn dX8_ballotOf_62 rfl ⟨rfl, rfl⟩
      · replace h := ifn b5 h
        by_cases b8 : x2 = 2
        · replace h := ifp b8 h
          refine g_tswIn (off := 49) (tgt := 63) dX8_ballotOf_14 (by rw [b8]; decide) (by rw [b8]; decide) (by rw [b8]; rfl) (by decide) ?_
          refine g_aload_n 0 dX8_ballotOf_63 rfl ?_
          refine g_getR dX8_ballotOf_64 flX8_14 (by decide) rfl hx0 ?_
          refine g_iload_n 1 dX8_ballotOf_67 rfl ?_
          obtain ⟨q9, hq9, h⟩ := bnd_some h
          refine v_I (ci := 1) (as := [XI x1]) dX8_ballotOf_68 mlX8_162 mdX1_firstHere mvX1_firstHere rfl (sf_7_0 hx0) rfl (Nat.le_of_ble_eq_true rfl) (kX1_firstHere (sf_7_0 hx0) hq9) rfl ?_
          cases h
          exact g_ireturn dX8_ballotOf_71 rfl ⟨rfl, rfl⟩
        · replace h := ifn b8 h
          refine g_tswOut (tgt := 72) dX8_ballotOf_14 (by omega) (by decide) ?_
          refine g_iconst (v := -1) dX8_ballotOf_72 rfl (i32l rfl) ?_
          cases h
          exact g_ireturn dX8_ballotOf_73 rfl ⟨rfl, rfl⟩
  · replace h := ifp b2 h
    refine g_pc (pc' := 11) rfl ?_
    refine g_iconst (v := -1) dX8_ballotOf_11 rfl (i32l rfl) ?_
    cases h
    exact g_ireturn dX8_ballotOf_12 rfl ⟨rfl, rfl⟩
set_option maxHeartbeats 8000000 in
set_option maxRecDepth 20000 in
theorem kX8_rowOf {X : XC} {d : Nat} {x0 : Nat} {x1 : Int} {x2 : Int} (hx0 : Sh x0 = (17, 10)) {M : Mem} {q : Int × Mem} (h : fX8_rowOf x0 x1 x2 M = some q) : Ct X mX8_rowOf (d + 2) [XR x0, XI x1, XI x2] M (pI q) := by
  unfold fX8_rowOf at h
  refine ct_go (by decide +kernel) (Nat.le_of_ble_eq_true rfl) (ls := [(0, XR x0), (1, XI x1), (2, XI x2)]) rfl ?_
  refine g_aload_n 0 dX8_rowOf_0 rfl ?_
  refine g_getR dX8_rowOf_1 flX8_14 (by decide) rfl hx0 ?_
  refine g_iload_n 1 dX8_rowOf_4 rfl ?_
  obtain ⟨q1, hq1, h⟩ := bnd_some h
  refine v_I (ci := 1) (as := [XI x1]) dX8_rowOf_5 mlX8_99 mdX1_hasBallot mvX1_hasBallot rfl (sf_7_0 hx0) rfl (Nat.le_of_ble_eq_true rfl) (kX1_hasBallot (sf_7_0 hx0) hq1) rfl ?_
  refine g_if_ne (tgt := 13) dX8_rowOf_8 (by decide) (fun b2 => ?_) (fun b2 => ?_)
  · replace h := ifn b2 h
    refine g_aload_n 0 dX8_rowOf_13 rfl ?_
    refine g_getR dX8_rowOf_14 flX8_14 (by decide) rfl hx0 ?_
    refine g_getR dX8_rowOf_17 flX8_89 (by decide) rfl (sf_7_0 hx0) ?_
    refine g_iload_n 1 dX8_rowOf_20 rfl ?_
    obtain ⟨c3, h⟩ := chk_some h
    refine g_iald dX8_rowOf_21 (sf_1_4 (sf_7_0 hx0)) c3.1 c3.2 ?_
    refine g_nmI (fun v4 ev4 => ?_)
    replace h := nm_s ev4 h
    refine g_istore_n (ls' := [(3, XI v4), (0, XR x0), (1, XI x1), (2, XI x2)]) dX8_rowOf_22 (by decide) rfl ?_
    refine g_iload_n 3 dX8_rowOf_23 rfl ?_
    obtain ⟨t9, ht9, h⟩ := bnd_some h
    have Kt9 : Go X mX8_rowOf (d + 2) 44 [] [XI t9.1] t9.2 (pI q) := by
      cases h
      exact g_ireturn dX8_rowOf_44 rfl ⟨rfl, rfl⟩
    refine g_if_lt (tgt := 35) dX8_rowOf_24 (by decide) (fun b10 => ?_) (fun b10 => ?_)
    · replace ht9 := ifp b10 ht9
      refine g_iconst (v := -1) dX8_rowOf_35 rfl (i32l rfl) ?_
      refine g_goto (tgt := 44) dX8_rowOf_36 (by decide) ?_
      cases ht9
      exact g_sub [] rfl Kt9
    · replace ht9 := ifn b10 ht9
      refine g_pc (pc' := 27) rfl ?_
      refine g_iload_n 3 dX8_rowOf_27 rfl ?_
      refine g_iload_n 0 dX8_rowOf_28 rfl ?_
      obtain ⟨q11, hq11, ht9⟩ := bnd_some ht9
      refine s_I (as := [XI v4]) dX8_rowOf_29 mlX8_159 mdX2_length msX2_length rfl (Nat.le_of_ble_eq_true rfl) (kX2_length  hq11) rfl ?_
      refine g_icmp_lt (tgt := 39) dX8_rowOf_32 (by decide) (fun b12 => ?_) (fun b12 => ?_)
      · replace ht9 := ifp b12 ht9
        refine g_iload_n 0 dX8_rowOf_39 rfl ?_
        refine g_iload_n 3 dX8_rowOf_40 rfl ?_
        obtain ⟨q13, hq13, ht9⟩ := bnd_some ht9
        refine s_I (as := [XI v4, XI x2]) dX8_rowOf_41 mlX8_165 mdX2_at msX2_at rfl (Nat.le_of_ble_eq_true rfl) (kX2_at  hq13) rfl ?_
        cases ht9
        exact g_sub [] rfl Kt9
      · replace ht9 := ifn b12 ht9
        refine g_pc (pc' := 35) rfl ?_
        refine g_iconst (v := -1) dX8_rowOf_35 rfl (i32l rfl) ?_
        refine g_goto (tgt := 44) dX8_rowOf_36 (by decide) ?_
        cases ht9
        exact g_sub [] rfl Kt9
  · replace h := ifp b2 h
    refine g_pc (pc' := 11) rfl ?_
    refine g_iconst (v := -1) dX8_rowOf_11 rfl (i32l rfl) ?_
    cases h
    exact g_ireturn dX8_rowOf_12 rfl ⟨rfl, rfl⟩
end
