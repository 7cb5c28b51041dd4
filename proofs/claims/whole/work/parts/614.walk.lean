section
set_option maxHeartbeats 8000000 in
set_option maxRecDepth 20000 in
theorem kX8_count {X : XC} {d : Nat} {x0 : Nat} {x1 : Int} (hx0 : Sh x0 = (17, 10)) {M : Mem} {q : Int × Mem} (h : fX8_count x0 x1 M = some q) : Ct X mX8_count d [XR x0, XI x1] M (pI q) := by
  unfold fX8_count at h
  refine ct_go (by decide +kernel) (Nat.le_of_ble_eq_true rfl) (ls := [(0, XR x0), (1, XI x1)]) rfl ?_
  refine g_iload_n 1 dX8_count_0 rfl ?_
  by_cases b1 : x1 = 0
  · replace h := ifp b1 h
    refine g_tswIn (off := 27) (tgt := 28) dX8_count_1 (by rw [b1]; decide) (by rw [b1]; decide) (by rw [b1]; rfl) (by decide) ?_
    refine g_aload_n 0 dX8_count_28 rfl ?_
    refine g_getR dX8_count_29 flX8_14 (by decide) rfl hx0 ?_
    refine g_getI dX8_count_32 flX8_266 (by decide) rfl (sf_7_0 hx0) ?_
    cases h
    exact g_ireturn dX8_count_35 rfl ⟨rfl, rfl⟩
  · replace h := ifn b1 h
    by_cases b2 : x1 = 1
    · replace h := ifp b2 h
      refine g_tswIn (off := 35) (tgt := 36) dX8_count_1 (by rw [b2]; decide) (by rw [b2]; decide) (by rw [b2]; rfl) (by decide) ?_
      refine g_aload_n 0 dX8_count_36 rfl ?_
      refine g_getR dX8_count_37 flX8_14 (by decide) rfl hx0 ?_
      refine g_getI dX8_count_40 flX8_278 (by decide) rfl (sf_7_0 hx0) ?_
      cases h
      exact g_ireturn dX8_count_43 rfl ⟨rfl, rfl⟩
    · replace h := ifn b2 h
      by_cases b3 : x1 = 2
      · replace h := ifp b3 h
        refine g_tswIn (off := 43) (tgt := 44) dX8_count_1 (by rw [b3]; decide) (by rw [b3]; decide) (by rw [b3]; rfl) (by decide) ?_
        refine g_aload_n 0 dX8_count_44 rfl ?_
        refine g_getR dX8_count_45 flX8_46 (by decide) rfl hx0 ?_
        refine g_getI dX8_count_48 flX8_290 (by decide) rfl (sf_7_7 hx0) ?_
        cases h
        exact g_ireturn dX8_count_51 rfl ⟨rfl, rfl⟩
      · replace h := ifn b3 h
        refine g_tswOut (tgt := 52) dX8_count_1 (by omega) (by decide) ?_
        refine g_bip dX8_count_52 rfl ?_
        cases h
        exact g_ireturn dX8_count_54 rfl ⟨rfl, rfl⟩
set_option maxHeartbeats 8000000 in
set_option maxRecDepth 20000 in
theorem kX8_tape {X : XC} {d : Nat} {x0 : Nat} {x1 : Int} {x2 : Int} {x3 : Int} (hx0 : Sh x0 = (17, 10)) {M : Mem} {q : Int × Mem} (h : fX8_tape x0 x1 x2 x3 M = some q) : Ct X mX8_tape (d + 2) [XR x0, XI x1, XI x2, XI x3] M (pI q) := by
  unfold fX8_tape at h
  refine ct_go (by decide +kernel) (Nat.le_of_ble_eq_true rfl) (ls := [(0, XR x0), (1, XI x1), (2, XI x2), (3, XI x3)]) rfl ?_
  refine g_aload_n 0 dX8_tape_0 rfl ?_
  refine g_iload_n 1 dX8_tape_1 rfl ?_
  obtain ⟨q1, hq1, h⟩ := bnd_some h
  refine v_R (ci := 7) (as := [XI x1]) dX8_tape_2 mlX8_334 mdX8_tapeAt mvX8_tapeAt rfl hx0 rfl (Nat.le_of_ble_eq_true rfl) (kX8_tapeAt hx0 hq1) rfl (fun ea2 => ?_) (fun a2 ea2 => ?_)
  · replace h := oc_n ea2 h
    refine g_astoreN (ls' := [(4, XN), (0, XR x0), (1, XI x1), (2, XI x2), (3, XI x3)]) dX8_tape_5 (by decide) rfl ?_
    refine g_aloadN 0 dX8_tape_7 rfl ?_
    refine g_ifnonnullN dX8_tape_9 ?_
    refine g_iconst (v := -1) dX8_tape_12 rfl (i32l rfl) ?_
    cases h
    exact g_ireturn dX8_tape_13 rfl ⟨rfl, rfl⟩
  · replace h := oc_s ea2 h
    obtain ⟨c3, h⟩ := chk_some h
    refine g_astore (ls' := [(4, XR a2), (0, XR x0), (1, XI x1), (2, XI x2), (3, XI x3)]) dX8_tape_5 (by decide) rfl ?_
    refine g_aload 0 dX8_tape_7 rfl ?_
    refine g_ifnonnullR (tgt := 14) dX8_tape_9 (by decide) ?_
    refine g_iload_n 3 dX8_tape_14 rfl ?_
    refine g_iconst (v := -1) dX8_tape_15 rfl (i32l rfl) ?_
    refine g_icmp_ne (tgt := 28) dX8_tape_16 (by decide) (fun b4 => ?_) (fun b4 => ?_)
    · replace h := ifn b4 h
      refine g_iload_n 3 dX8_tape_28 rfl ?_
      refine g_if_lt (tgt := 43) dX8_tape_29 (by decide) (fun b5 => ?_) (fun b5 => ?_)
      · replace h := ifp b5 h
        refine g_bip dX8_tape_43 rfl ?_
        cases h
        exact g_ireturn dX8_tape_45 rfl ⟨rfl, rfl⟩
      · replace h := ifn b5 h
        refine g_pc (pc' := 32) rfl ?_
        refine g_iload_n 3 dX8_tape_32 rfl ?_
        refine g_iconst (v := 4) dX8_tape_33 rfl (i32l rfl) ?_
        refine g_icmp_gt (tgt := 43) dX8_tape_34 (by decide) (fun b6 => ?_) (fun b6 => ?_)
        · replace h := ifp b6 h
          refine g_bip dX8_tape_43 rfl ?_
          cases h
          exact g_ireturn dX8_tape_45 rfl ⟨rfl, rfl⟩
        · replace h := ifn b6 h
          refine g_pc (pc' := 37) rfl ?_
          refine g_iload_n 4 dX8_tape_37 rfl ?_
          refine g_bip dX8_tape_38 rfl ?_
          refine g_icmp_le (tgt := 46) dX8_tape_40 (by decide) (fun b7 => ?_) (fun b7 => ?_)
          · replace h := ifp b7 h
            refine g_iload_n 4 dX8_tape_46 rfl ?_
            refine g_if_ge (tgt := 53) dX8_tape_47 (by decide) (fun b8 => ?_) (fun b8 => ?_)
            · replace h := ifp b8 h
              refine g_aload 0 dX8_tape_53 rfl ?_
              refine g_iload_n 3 dX8_tape_55 rfl ?_
              refine g_iload_n 4 dX8_tape_56 rfl ?_
              obtain ⟨q9, hq9, h⟩ := bnd_some h
              refine v_V (ci := 4) (as := [XI x2, XI x3]) dX8_tape_57 mlX8_344 mdX5_become mvX5_become rfl c3 rfl (Nat.le_of_ble_eq_true rfl) (kX5_become c3 hq9) rfl ?_
              refine g_iconst (v := 1) dX8_tape_60 rfl (i32l rfl) ?_
              cases h
              exact g_ireturn dX8_tape_61 rfl ⟨rfl, rfl⟩
            · replace h := ifn b8 h
              refine g_pc (pc' := 50) rfl ?_
              refine g_bip dX8_tape_50 rfl ?_
              cases h
              exact g_ireturn dX8_tape_52 rfl ⟨rfl, rfl⟩
          · replace h := ifn b7 h
            refine g_pc (pc' := 43) rfl ?_
            refine g_bip dX8_tape_43 rfl ?_
            cases h
            exact g_ireturn dX8_tape_45 rfl ⟨rfl, rfl⟩
    · replace h := ifp b4 h
      refine g_pc (pc' := 19) rfl ?_
      refine g_aload 0 dX8_tape_19 rfl ?_
      refine g_iconst (v := -1) dX8_tape_21 rfl (i32l rfl) ?_
      refine g_iconst (v := 0) dX8_tape_22 rfl (i32l rfl) ?_
      obtain ⟨q10, hq10, h⟩ := bnd_some h
      refine v_V (ci := 4) (as := [XI (-1), XI 0]) dX8_tape_23 mlX8_344 mdX5_become mvX5_become rfl c3 rfl (Nat.le_of_ble_eq_true rfl) (kX5_become c3 hq10) rfl ?_
      refine g_iconst (v := 1) dX8_tape_26 rfl (i32l rfl) ?_
      cases h
      exact g_ireturn dX8_tape_27 rfl ⟨rfl, rfl⟩
set_option maxHeartbeats 8000000 in
set_option maxRecDepth 20000 in
theorem kX8_item {X : XC} {d : Nat} {x0 : Nat} {x1 : Int} {x2 : Int} {x3 : Int} (hx0 : Sh x0 = (17, 10)) {M : Mem} {q : Int × Mem} (h : fX8_item x0 x1 x2 x3 M = some q) : Ct X mX8_item (d + 1) [XR x0, XI x1, XI x2, XL x3] M (pI q) := by
  unfold fX8_item at h
  refine ct_go (by decide +kernel) (Nat.le_of_ble_eq_true rfl) (ls := [(0, XR x0), (1, XI x1), (2, XI x2), (3, XL x3)]) rfl ?_
  refine g_aload_n 0 dX8_item_0 rfl ?_
  refine g_iload_n 1 dX8_item_1 rfl ?_
  obtain ⟨q1, hq1, h⟩ := bnd_some h
  refine v_R (ci := 7) (as := [XI x1]) dX8_item_2 mlX8_334 mdX8_tapeAt mvX8_tapeAt rfl hx0 rfl (Nat.le_of_ble_eq_true rfl) (kX8_tapeAt hx0 hq1) rfl (fun ea2 => ?_) (fun a2 ea2 => ?_)
  · replace h := oc_n ea2 h
    refine g_astoreN (ls' := [(5, XN), (0, XR x0), (1, XI x1), (2, XI x2), (3, XL x3)]) dX8_item_5 (by decide) rfl ?_
    refine g_aloadN 0 dX8_item_7 rfl ?_
    refine g_ifnonnullN dX8_item_9 ?_
    refine g_iconst (v := -1) dX8_item_12 rfl (i32l rfl) ?_
    cases h
    exact g_ireturn dX8_item_13 rfl ⟨rfl, rfl⟩
  · replace h := oc_s ea2 h
    obtain ⟨c3, h⟩ := chk_some h
    refine g_astore (ls' := [(5, XR a2), (0, XR x0), (1, XI x1), (2, XI x2), (3, XL x3)]) dX8_item_5 (by decide) rfl ?_
    refine g_aload 0 dX8_item_7 rfl ?_
    refine g_ifnonnullR (tgt := 14) dX8_item_9 (by decide) ?_
    refine g_aload 0 dX8_item_14 rfl ?_
    refine g_getI dX8_item_16 flX8_338 (by decide) rfl c3 ?_
    refine g_iconst (v := -1) dX8_item_19 rfl (i32l rfl) ?_
    refine g_icmp_ne (tgt := 26) dX8_item_20 (by decide) (fun b4 => ?_) (fun b4 => ?_)
    · replace h := ifn b4 h
      refine g_iload_n 3 dX8_item_26 rfl ?_
      refine g_if_lt (tgt := 39) dX8_item_27 (by decide) (fun b5 => ?_) (fun b5 => ?_)
      · replace h := ifp b5 h
        refine g_bip dX8_item_39 rfl ?_
        cases h
        exact g_ireturn dX8_item_41 rfl ⟨rfl, rfl⟩
      · replace h := ifn b5 h
        refine g_pc (pc' := 30) rfl ?_
        refine g_iload_n 3 dX8_item_30 rfl ?_
        refine g_aload 0 dX8_item_31 rfl ?_
        refine g_getI dX8_item_33 flX8_340 (by decide) rfl c3 ?_
        refine g_icmp_lt (tgt := 42) dX8_item_36 (by decide) (fun b6 => ?_) (fun b6 => ?_)
        · replace h := ifp b6 h
          refine g_aload 0 dX8_item_42 rfl ?_
          refine g_getR dX8_item_44 flX8_341 (by decide) rfl c3 ?_
          refine g_iload_n 3 dX8_item_47 rfl ?_
          refine g_aload 0 dX8_item_48 rfl ?_
          refine g_lload_n 4 dX8_item_50 rfl ?_
          obtain ⟨q7, hq7, h⟩ := bnd_some h
          refine v_J (ci := 4) (as := [XL x3]) dX8_item_51 mlX8_347 mdX5_fitted mvX5_fitted rfl c3 rfl (Nat.le_of_ble_eq_true rfl) (kX5_fitted c3 hq7) rfl ?_
          obtain ⟨c8, h⟩ := chk_some h
          refine g_last dX8_item_54 (sf_4_2 c3) c8.1 c8.2 ?_
          refine g_nmM (fun M9 eM9 => ?_)
          replace h := nm_s eM9 h
          refine g_iconst (v := 1) dX8_item_55 rfl (i32l rfl) ?_
          refine g_pc (pc' := 56) rfl ?_
          cases h
          exact g_ireturn dX8_item_56 rfl ⟨rfl, rfl⟩
        · replace h := ifn b6 h
          refine g_pc (pc' := 39) rfl ?_
          refine g_bip dX8_item_39 rfl ?_
          cases h
          exact g_ireturn dX8_item_41 rfl ⟨rfl, rfl⟩
    · replace h := ifp b4 h
      refine g_pc (pc' := 23) rfl ?_
      refine g_bip dX8_item_23 rfl ?_
      cases h
      exact g_ireturn dX8_item_25 rfl ⟨rfl, rfl⟩
set_option maxHeartbeats 8000000 in
set_option maxRecDepth 20000 in
theorem kX8_peek {X : XC} {d : Nat} {x0 : Nat} {x1 : Int} {x2 : Int} (hx0 : Sh x0 = (17, 10)) {M : Mem} {q : Int × Mem} (h : fX8_peek x0 x1 x2 M = some q) : Ct X mX8_peek (d + 1) [XR x0, XI x1, XI x2] M (pJ q) := by
  unfold fX8_peek at h
  refine ct_go (by decide +kernel) (Nat.le_of_ble_eq_true rfl) (ls := [(0, XR x0), (1, XI x1), (2, XI x2)]) rfl ?_
  refine g_aload_n 0 dX8_peek_0 rfl ?_
  refine g_iload_n 1 dX8_peek_1 rfl ?_
  obtain ⟨q1, hq1, h⟩ := bnd_some h
  refine v_R (ci := 7) (as := [XI x1]) dX8_peek_2 mlX8_334 mdX8_tapeAt mvX8_tapeAt rfl hx0 rfl (Nat.le_of_ble_eq_true rfl) (kX8_tapeAt hx0 hq1) rfl (fun ea2 => ?_) (fun a2 ea2 => ?_)
  · replace h := oc_n ea2 h
    refine g_astore_nN (ls' := [(3, XN), (0, XR x0), (1, XI x1), (2, XI x2)]) dX8_peek_5 (by decide) rfl ?_
    refine g_aload_nN 0 dX8_peek_6 rfl ?_
    refine g_ifnullN (tgt := 22) dX8_peek_7 (by decide) ?_
    refine g_ldc2 (v := -9223372036854775808) dX8_peek_22 csX8_199 (by decide +kernel) (i64l rfl) ?_
    cases h
    exact g_lreturn dX8_peek_25 rfl ⟨rfl, rfl⟩
  · replace h := oc_s ea2 h
    obtain ⟨c3, h⟩ := chk_some h
    refine g_astore_n (ls' := [(3, XR a2), (0, XR x0), (1, XI x1), (2, XI x2)]) dX8_peek_5 (by decide) rfl ?_
    refine g_aload_n 0 dX8_peek_6 rfl ?_
    refine g_ifnullR dX8_peek_7 ?_
    refine g_iload_n 3 dX8_peek_10 rfl ?_
    refine g_if_lt (tgt := 22) dX8_peek_11 (by decide) (fun b4 => ?_) (fun b4 => ?_)
    · replace h := ifp b4 h
      refine g_ldc2 (v := -9223372036854775808) dX8_peek_22 csX8_199 (by decide +kernel) (i64l rfl) ?_
      cases h
      exact g_lreturn dX8_peek_25 rfl ⟨rfl, rfl⟩
    · replace h := ifn b4 h
      refine g_pc (pc' := 14) rfl ?_
      refine g_iload_n 3 dX8_peek_14 rfl ?_
      refine g_aload_n 0 dX8_peek_15 rfl ?_
      refine g_getI dX8_peek_16 flX8_340 (by decide) rfl c3 ?_
      refine g_icmp_lt (tgt := 26) dX8_peek_19 (by decide) (fun b5 => ?_) (fun b5 => ?_)
      · replace h := ifp b5 h
        refine g_aload_n 0 dX8_peek_26 rfl ?_
        refine g_getR dX8_peek_27 flX8_341 (by decide) rfl c3 ?_
        refine g_iload_n 3 dX8_peek_30 rfl ?_
        obtain ⟨c6, h⟩ := chk_some h
        refine g_lald dX8_peek_31 (sf_4_2 c3) c6.1 c6.2 ?_
        cases h
        exact g_lreturn dX8_peek_32 rfl ⟨rfl, rfl⟩
      · replace h := ifn b5 h
        refine g_pc (pc' := 22) rfl ?_
        refine g_ldc2 (v := -9223372036854775808) dX8_peek_22 csX8_199 (by decide +kernel) (i64l rfl) ?_
        cases h
        exact g_lreturn dX8_peek_25 rfl ⟨rfl, rfl⟩
set_option maxHeartbeats 8000000 in
set_option maxRecDepth 20000 in
theorem kX8_shift {X : XC} {d : Nat} {x0 : Nat} {x1 : Int} {x2 : Int} {x3 : Int} {x4 : Int} {x5 : Int} (hx0 : Sh x0 = (17, 10)) {M : Mem} {q : Int × Mem} (h : fX8_shift x0 x1 x2 x3 x4 x5 M = some q) : Ct X mX8_shift (d + 1) [XR x0, XI x1, XI x2, XI x3, XI x4, XI x5] M (pI q) := by
  unfold fX8_shift at h
  refine ct_go (by decide +kernel) (Nat.le_of_ble_eq_true rfl) (ls := [(0, XR x0), (1, XI x1), (2, XI x2), (3, XI x3), (4, XI x4), (5, XI x5)]) rfl ?_
  refine g_aload_n 0 dX8_shift_0 rfl ?_
  refine g_iload_n 1 dX8_shift_1 rfl ?_
  obtain ⟨q1, hq1, h⟩ := bnd_some h
  refine v_R (ci := 7) (as := [XI x1]) dX8_shift_2 mlX8_334 mdX8_tapeAt mvX8_tapeAt rfl hx0 rfl (Nat.le_of_ble_eq_true rfl) (kX8_tapeAt hx0 hq1) rfl (fun ea2 => ?_) (fun a2 ea2 => ?_)
  · replace h := oc_n ea2 h
    refine g_astoreN (ls' := [(6, XN), (0, XR x0), (1, XI x1), (2, XI x2), (3, XI x3), (4, XI x4), (5, XI x5)]) dX8_shift_5 (by decide) rfl ?_
    refine g_aload_n 1 dX8_shift_7 rfl ?_
    refine g_iload_n 4 dX8_shift_8 rfl ?_
    obtain ⟨q4, hq4, h⟩ := bnd_some h
    refine v_R (ci := 7) (as := [XI x3]) dX8_shift_9 mlX8_334 mdX8_tapeAt mvX8_tapeAt rfl hx0 rfl (Nat.le_of_ble_eq_true rfl) (kX8_tapeAt hx0 hq4) rfl (fun ea5 => ?_) (fun a5 ea5 => ?_)
    · replace h := oc_n ea5 h
      refine g_astoreN (ls' := [(7, XN), (6, XN), (0, XR x0), (1, XI x1), (2, XI x2), (3, XI x3), (4, XI x4), (5, XI x5)]) dX8_shift_12 (by decide) rfl ?_
      refine g_aloadN 1 dX8_shift_14 rfl ?_
      refine g_ifnullN (tgt := 24) dX8_shift_16 (by decide) ?_
      refine g_iconst (v := -1) dX8_shift_24 rfl (i32l rfl) ?_
      cases h
      exact g_ireturn dX8_shift_25 rfl ⟨rfl, rfl⟩
    · replace h := oc_s ea5 h
      obtain ⟨c6, h⟩ := chk_some h
      refine g_astore (ls' := [(7, XR a5), (6, XN), (0, XR x0), (1, XI x1), (2, XI x2), (3, XI x3), (4, XI x4), (5, XI x5)]) dX8_shift_12 (by decide) rfl ?_
      refine g_aloadN 1 dX8_shift_14 rfl ?_
      refine g_ifnullN (tgt := 24) dX8_shift_16 (by decide) ?_
      refine g_iconst (v := -1) dX8_shift_24 rfl (i32l rfl) ?_
      cases h
      exact g_ireturn dX8_shift_25 rfl ⟨rfl, rfl⟩
  · replace h := oc_s ea2 h
    obtain ⟨c3, h⟩ := chk_some h
    refine g_astore (ls' := [(6, XR a2), (0, XR x0), (1, XI x1), (2, XI x2), (3, XI x3), (4, XI x4), (5, XI x5)]) dX8_shift_5 (by decide) rfl ?_
    refine g_aload_n 1 dX8_shift_7 rfl ?_
    refine g_iload_n 4 dX8_shift_8 rfl ?_
    obtain ⟨q7, hq7, h⟩ := bnd_some h
    refine v_R (ci := 7) (as := [XI x3]) dX8_shift_9 mlX8_334 mdX8_tapeAt mvX8_tapeAt rfl hx0 rfl (Nat.le_of_ble_eq_true rfl) (kX8_tapeAt hx0 hq7) rfl (fun ea8 => ?_) (fun a8 ea8 => ?_)
    · replace h := oc_n ea8 h
      refine g_astoreN (ls' := [(7, XN), (6, XR a2), (0, XR x0), (1, XI x1), (2, XI x2), (3, XI x3), (4, XI x4), (5, XI x5)]) dX8_shift_12 (by decide) rfl ?_
      refine g_aload 1 dX8_shift_14 rfl ?_
      refine g_ifnullR dX8_shift_16 ?_
      refine g_aloadN 0 dX8_shift_19 rfl ?_
      refine g_ifnonnullN dX8_shift_21 ?_
      refine g_iconst (v := -1) dX8_shift_24 rfl (i32l rfl) ?_
      cases h
      exact g_ireturn dX8_shift_25 rfl ⟨rfl, rfl⟩
    · replace h := oc_s ea8 h
      obtain ⟨c9, h⟩ := chk_some h
      refine g_astore (ls' := [(7, XR a8), (6, XR a2), (0, XR x0), (1, XI x1), (2, XI x2), (3, XI x3), (4, XI x4), (5, XI x5)]) dX8_shift_12 (by decide) rfl ?_
      refine g_aload 1 dX8_shift_14 rfl ?_
      refine g_ifnullR dX8_shift_16 ?_
      refine g_aload 0 dX8_shift_19 rfl ?_
      refine g_ifnonnullR (tgt := 26) dX8_shift_21 (by decide) ?_
      refine g_aload 1 dX8_shift_26 rfl ?_
      refine g_getI dX8_shift_28 flX8_338 (by decide) rfl c3 ?_
      refine g_iconst (v := -1) dX8_shift_31 rfl (i32l rfl) ?_
      refine g_icmp_eq (tgt := 44) dX8_shift_32 (by decide) (fun b10 => ?_) (fun b10 => ?_)
      · replace h := ifp b10 h
        refine g_bip dX8_shift_44 rfl ?_
        cases h
        exact g_ireturn dX8_shift_46 rfl ⟨rfl, rfl⟩
      · replace h := ifn b10 h
        refine g_pc (pc' := 35) rfl ?_
        refine g_aload 0 dX8_shift_35 rfl ?_
        refine g_getI dX8_shift_37 flX8_338 (by decide) rfl c9 ?_
        refine g_iconst (v := -1) dX8_shift_40 rfl (i32l rfl) ?_
        refine g_icmp_ne (tgt := 47) dX8_shift_41 (by decide) (fun b11 => ?_) (fun b11 => ?_)
        · replace h := ifn b11 h
          refine g_aload 1 dX8_shift_47 rfl ?_
          refine g_getI dX8_shift_49 flX8_338 (by decide) rfl c3 ?_
          refine g_aload 0 dX8_shift_52 rfl ?_
          refine g_getI dX8_shift_54 flX8_338 (by decide) rfl c9 ?_
          refine g_icmp_eq (tgt := 63) dX8_shift_57 (by decide) (fun b12 => ?_) (fun b12 => ?_)
          · replace h := ifp b12 h
            refine g_iload 7 dX8_shift_63 rfl ?_
            refine g_if_lt (tgt := 91) dX8_shift_65 (by decide) (fun b13 => ?_) (fun b13 => ?_)
            · replace h := ifp b13 h
              refine g_bip dX8_shift_91 rfl ?_
              cases h
              exact g_ireturn dX8_shift_93 rfl ⟨rfl, rfl⟩
            · replace h := ifn b13 h
              refine g_pc (pc' := 68) rfl ?_
              refine g_aload 1 dX8_shift_68 rfl ?_
              refine g_iload_n 4 dX8_shift_70 rfl ?_
              refine g_iload 7 dX8_shift_71 rfl ?_
              obtain ⟨q14, hq14, h⟩ := bnd_some h
              refine v_I (ci := 4) (as := [XI x2, XI x5]) dX8_shift_73 mlX8_351 mdX5_hasRoom mvX5_hasRoom rfl c3 rfl (Nat.le_of_ble_eq_true rfl) (kX5_hasRoom c3 hq14) rfl ?_
              refine g_if_eq (tgt := 91) dX8_shift_76 (by decide) (fun b15 => ?_) (fun b15 => ?_)
              · replace h := ifp b15 h
                refine g_bip dX8_shift_91 rfl ?_
                cases h
                exact g_ireturn dX8_shift_93 rfl ⟨rfl, rfl⟩
              · replace h := ifn b15 h
                refine g_pc (pc' := 79) rfl ?_
                refine g_aload 0 dX8_shift_79 rfl ?_
                refine g_iload 6 dX8_shift_81 rfl ?_
                refine g_iload 7 dX8_shift_83 rfl ?_
                obtain ⟨q16, hq16, h⟩ := bnd_some h
                refine v_I (ci := 4) (as := [XI x4, XI x5]) dX8_shift_85 mlX8_351 mdX5_hasRoom mvX5_hasRoom rfl c9 rfl (Nat.le_of_ble_eq_true rfl) (kX5_hasRoom c9 hq16) rfl ?_
                refine g_if_ne (tgt := 94) dX8_shift_88 (by decide) (fun b17 => ?_) (fun b17 => ?_)
                · replace h := ifn b17 h
                  refine g_aload 1 dX8_shift_94 rfl ?_
                  refine g_getR dX8_shift_96 flX8_341 (by decide) rfl c3 ?_
                  refine g_iload_n 4 dX8_shift_99 rfl ?_
                  refine g_aload 0 dX8_shift_100 rfl ?_
                  refine g_getR dX8_shift_102 flX8_341 (by decide) rfl c9 ?_
                  refine g_iload 6 dX8_shift_105 rfl ?_
                  refine g_iload 7 dX8_shift_107 rfl ?_
                  obtain ⟨c18, h⟩ := chk_some h
                  refine g_copy dX8_shift_109 mlX8_354 (sf_4_2 c3) (sf_4_2 c9) (by decide) c18.1 c18.2.1 c18.2.2.1 c18.2.2.2.1 c18.2.2.2.2 (Nat.le_of_ble_eq_true rfl) ?_
                  refine g_nmM (fun M19 eM19 => ?_)
                  replace h := nm_s eM19 h
                  refine g_pc (pc' := 112) rfl ?_
                  refine g_iload 7 dX8_shift_112 rfl ?_
                  cases h
                  exact g_ireturn dX8_shift_114 rfl ⟨rfl, rfl⟩
                · replace h := ifp b17 h
                  refine g_pc (pc' := 91) rfl ?_
                  refine g_bip dX8_shift_91 rfl ?_
                  cases h
                  exact g_ireturn dX8_shift_93 rfl ⟨rfl, rfl⟩
          · replace h := ifn b12 h
            refine g_pc (pc' := 60) rfl ?_
            refine g_bip dX8_shift_60 rfl ?_
            cases h
            exact g_ireturn dX8_shift_62 rfl ⟨rfl, rfl⟩
        · replace h := ifp b11 h
          refine g_pc (pc' := 44) rfl ?_
          refine g_bip dX8_shift_44 rfl ?_
          cases h
          exact g_ireturn dX8_shift_46 rfl ⟨rfl, rfl⟩
set_option maxHeartbeats 8000000 in
set_option maxRecDepth 20000 in
theorem kX9_in {X : XC} {d : Nat} {x0 : Int} {x2 : Int} {x4 : Int}  {M : Mem} {q : Int × Mem} (h : fX9_in x0 x2 x4 M = some q) : Ct X mX9_in d [XL x0, XL x2, XL x4] M (pI q) := by
  unfold fX9_in at h
  refine ct_go (by decide +kernel) (Nat.le_of_ble_eq_true rfl) (ls := [(0, XL x0), (2, XL x2), (4, XL x4)]) rfl ?_
  refine g_lload_n 0 dX9_in_0 rfl ?_
  refine g_lload_n 1 dX9_in_1 rfl ?_
  obtain ⟨t3, ht3, h⟩ := bnd_some h
  have Kt3 : Go X mX9_in d 18 [] [XI t3] M (pI q) := by
    obtain ⟨cz, h⟩ := chk_some h
    cases h
    exact g_zreturn dX9_in_18 rfl cz ⟨rfl, rfl⟩
  refine g_lcmp_lt (tgt := 17) dX9_in_2 dX9_in_3 (by decide) (fun b4 => ?_) (fun b4 => ?_)
  · replace ht3 := ifp b4 ht3
    refine g_iconst (v := 0) dX9_in_17 rfl (i32l rfl) ?_
    cases ht3
    exact g_sub [] rfl Kt3
  · replace ht3 := ifn b4 ht3
    refine g_pc (pc' := 6) rfl ?_
    refine g_lload_n 0 dX9_in_6 rfl ?_
    refine g_lload 2 dX9_in_7 rfl ?_
    refine g_lcmp_gt (tgt := 17) dX9_in_9 dX9_in_10 (by decide) (fun b5 => ?_) (fun b5 => ?_)
    · replace ht3 := ifp b5 ht3
      refine g_iconst (v := 0) dX9_in_17 rfl (i32l rfl) ?_
      cases ht3
      exact g_sub [] rfl Kt3
    · replace ht3 := ifn b5 ht3
      refine g_pc (pc' := 13) rfl ?_
      refine g_iconst (v := 1) dX9_in_13 rfl (i32l rfl) ?_
      refine g_goto (tgt := 18) dX9_in_14 (by decide) ?_
      cases ht3
      exact g_sub [] rfl Kt3
set_option maxHeartbeats 8000000 in
set_option maxRecDepth 20000 in
theorem kX9_isOne {X : XC} {d : Nat} {x0 : Nat} {x1 : Int} (hx0 : Sh x0 = (18, 69)) {M : Mem} {q : Int × Mem} (h : fX9_isOne x0 x1 M = some q) : Ct X mX9_isOne (d + 1) [XR x0, XI x1] M (pI q) := by
  unfold fX9_isOne at h
  refine ct_go (by decide +kernel) (Nat.le_of_ble_eq_true rfl) (ls := [(0, XR x0), (1, XI x1)]) rfl ?_
  refine g_iload_n 1 dX9_isOne_0 rfl ?_
  refine g_i2l dX9_isOne_1 ?_
  refine g_lconst (v := 0) dX9_isOne_2 rfl (i64l rfl) ?_
  refine g_aload_n 0 dX9_isOne_3 rfl ?_
  refine g_getI dX9_isOne_4 flX9_167 (by decide) rfl hx0 ?_
  refine g_iconst (v := 1) dX9_isOne_7 rfl (i32l rfl) ?_
  obtain ⟨c1, h⟩ := chk_some h
  refine g_isub dX9_isOne_8 rfl c1 ?_
  refine g_i2l dX9_isOne_9 ?_
  refine g_pc (pc' := 10) rfl ?_
  obtain ⟨q2, hq2, h⟩ := bnd_some h
  refine s_I (as := [XL x1, XL 0, XL ((M x0 0) - 1)]) dX9_isOne_10 mlX9_170 mdX9_in msX9_in rfl (Nat.le_of_ble_eq_true rfl) (kX9_in  hq2) rfl ?_
  obtain ⟨cz, h⟩ := chk_some h
  cases h
  exact g_zreturn dX9_isOne_13 rfl cz ⟨rfl, rfl⟩
set_option maxHeartbeats 8000000 in
set_option maxRecDepth 20000 in
theorem kX9_isBallot {X : XC} {d : Nat} {x0 : Nat} {x1 : Int} (hx0 : Sh x0 = (18, 69)) {M : Mem} {q : Int × Mem} (h : fX9_isBallot x0 x1 M = some q) : Ct X mX9_isBallot (d + 1) [XR x0, XI x1] M (pI q) := by
  unfold fX9_isBallot at h
  refine ct_go (by decide +kernel) (Nat.le_of_ble_eq_true rfl) (ls := [(0, XR x0), (1, XI x1)]) rfl ?_
  refine g_iload_n 1 dX9_isBallot_0 rfl ?_
  refine g_i2l dX9_isBallot_1 ?_
  refine g_lconst (v := 0) dX9_isBallot_2 rfl (i64l rfl) ?_
  refine g_aload_n 0 dX9_isBallot_3 rfl ?_
  refine g_getI dX9_isBallot_4 flX9_174 (by decide) rfl hx0 ?_
  refine g_iconst (v := 1) dX9_isBallot_7 rfl (i32l rfl) ?_
  obtain ⟨c1, h⟩ := chk_some h
  refine g_isub dX9_isBallot_8 rfl c1 ?_
  refine g_i2l dX9_isBallot_9 ?_
  refine g_pc (pc' := 10) rfl ?_
  obtain ⟨q2, hq2, h⟩ := bnd_some h
  refine s_I (as := [XL x1, XL 0, XL ((M x0 1) - 1)]) dX9_isBallot_10 mlX9_170 mdX9_in msX9_in rfl (Nat.le_of_ble_eq_true rfl) (kX9_in  hq2) rfl ?_
  obtain ⟨cz, h⟩ := chk_some h
  cases h
  exact g_zreturn dX9_isBallot_13 rfl cz ⟨rfl, rfl⟩
set_option maxHeartbeats 8000000 in
set_option maxRecDepth 20000 in
theorem kX9_has {X : XC} {d : Nat} {x0 : Int} {x1 : Int}  {M : Mem} {q : Int × Mem} (h : fX9_has x0 x1 M = some q) : Ct X mX9_has d [XI x0, XI x1] M (pI q) := by
  unfold fX9_has at h
  refine ct_go (by decide +kernel) (Nat.le_of_ble_eq_true rfl) (ls := [(0, XI x0), (1, XI x1)]) rfl ?_
  refine g_iload_n 0 dX9_has_0 rfl ?_
  refine g_iload_n 1 dX9_has_1 rfl ?_
  refine g_ishr dX9_has_2 ?_
  refine g_iconst (v := 1) dX9_has_3 rfl (i32l rfl) ?_
  refine g_iand dX9_has_4 ?_
  refine g_iconst (v := 1) dX9_has_5 rfl (i32l rfl) ?_
  obtain ⟨t2, ht2, h⟩ := bnd_some h
  have Kt2 : Go X mX9_has d 14 [] [XI t2] M (pI q) := by
    obtain ⟨cz, h⟩ := chk_some h
    cases h
    exact g_zreturn dX9_has_14 rfl cz ⟨rfl, rfl⟩
  refine g_icmp_ne (tgt := 13) dX9_has_6 (by decide) (fun b3 => ?_) (fun b3 => ?_)
  · replace ht2 := ifn b3 ht2
    refine g_iconst (v := 0) dX9_has_13 rfl (i32l rfl) ?_
    cases ht2
    exact g_sub [] rfl Kt2
  · replace ht2 := ifp b3 ht2
    refine g_pc (pc' := 9) rfl ?_
    refine g_iconst (v := 1) dX9_has_9 rfl (i32l rfl) ?_
    refine g_goto (tgt := 14) dX9_has_10 (by decide) ?_
    cases ht2
    exact g_sub [] rfl Kt2
set_option maxHeartbeats 8000000 in
set_option maxRecDepth 20000 in
theorem lX9_lengthOf_l4 {X : XC} {d : Nat} {Post : Option XV → Mem → Prop}   : ∀ (n : Nat) (x1 x2 : Int) (M : Mem) (t0 : Int × Int × Mem), fX9_lengthOf_l4  n x1 x2 M = some t0 → Go X mX9_lengthOf d 19 [(1, XI t0.1)] [] t0.2.2 Post → Go X mX9_lengthOf d 4 [(1, XI x1), (2, XI x2)] [] M Post := by
  intro n
  induction n with
  | zero => intro _ _ _ _ h; cases h
  | succ n ih =>
    intro x1 x2 M t0 h K
    unfold fX9_lengthOf_l4 at h
    refine g_iload_n 1 dX9_lengthOf_4 rfl ?_
    refine g_if_le (tgt := 19) dX9_lengthOf_5 (by decide) (fun b1 => ?_) (fun b1 => ?_)
    · replace h := ifp b1 h
      cases h
      exact g_sub [0] rfl K
    · replace h := ifn b1 h
      refine g_pc (pc' := 8) rfl ?_
      obtain ⟨c2, h⟩ := chk_some h
      refine g_iinc (ls' := [(1, XI (x1 + 1)), (2, XI x2)]) 0 dX9_lengthOf_8 rfl rfl c2 (by decide) rfl ?_
      refine g_iload_n 1 dX9_lengthOf_11 rfl ?_
      refine g_bip dX9_lengthOf_12 rfl ?_
      obtain ⟨c3, h⟩ := chk_some h
      refine g_idiv dX9_lengthOf_14 c3 (by decide) rfl ?_
      refine g_nmI (fun v4 ev4 => ?_)
      replace h := nm_s ev4 h
      refine g_istore_n (ls' := [(2, XI v4), (1, XI (x1 + 1))]) dX9_lengthOf_15 (by decide) rfl ?_
      refine g_goto (tgt := 4) dX9_lengthOf_16 (by decide) ?_
      exact g_sub [1, 0] rfl (ih _ _ _ _ h K)
set_option maxHeartbeats 8000000 in
set_option maxRecDepth 20000 in
theorem kX9_lengthOf {X : XC} {d : Nat} {x0 : Int}  {M : Mem} {q : Int × Mem} (h : fX9_lengthOf x0 M = some q) : Ct X mX9_lengthOf d [XI x0] M (pI q) := by
  unfold fX9_lengthOf at h
  refine ct_go (by decide +kernel) (Nat.le_of_ble_eq_true rfl) (ls := [(0, XI x0)]) rfl ?_
  refine g_iconst (v := 0) dX9_lengthOf_0 rfl (i32l rfl) ?_
  refine g_istore_n (ls' := [(1, XI 0), (0, XI x0)]) dX9_lengthOf_1 (by decide) rfl ?_
  refine g_iload_n 1 dX9_lengthOf_2 rfl ?_
  refine g_istore_n (ls' := [(2, XI x0), (1, XI 0), (0, XI x0)]) dX9_lengthOf_3 (by decide) rfl ?_
  obtain ⟨z5, hz5, h⟩ := bnd_some h
  refine g_sub (ls' := [(1, XI 0), (2, XI x0)]) [1, 0] rfl ?_
  refine lX9_lengthOf_l4  1000 _ _ _ _ hz5 ?_
  refine g_iload_n 0 dX9_lengthOf_19 rfl ?_
  cases h
  exact g_ireturn dX9_lengthOf_20 rfl ⟨rfl, rfl⟩
set_option maxHeartbeats 8000000 in
set_option maxRecDepth 20000 in
theorem lX9_digitAt_l9 {X : XC} {d : Nat} {Post : Option XV → Mem → Prop} {x1 : Int}  : ∀ (n : Nat) (x2 x3 : Int) (M : Mem) (t0 : Int × Int × Mem), fX9_digitAt_l9 x1 n x2 x3 M = some t0 → Go X mX9_digitAt (d + 1) 25 [(2, XI t0.1)] [] t0.2.2 Post → Go X mX9_digitAt (d + 1) 9 [(1, XI x1), (2, XI x2), (3, XI x3)] [] M Post := by
  intro n
  induction n with
  | zero => intro _ _ _ _ h; cases h
  | succ n ih =>
    intro x2 x3 M t0 h K
    unfold fX9_digitAt_l9 at h
    refine g_iload_n 2 dX9_digitAt_9 rfl ?_
    refine g_iload_n 0 dX9_digitAt_10 rfl ?_
    refine g_icmp_le (tgt := 25) dX9_digitAt_11 (by decide) (fun b4 => ?_) (fun b4 => ?_)
    · replace h := ifp b4 h
      cases h
      exact g_sub [1] rfl K
    · replace h := ifn b4 h
      refine g_pc (pc' := 14) rfl ?_
      refine g_iload_n 1 dX9_digitAt_14 rfl ?_
      refine g_bip dX9_digitAt_15 rfl ?_
      obtain ⟨c5, h⟩ := chk_some h
      refine g_idiv dX9_digitAt_17 c5 (by decide) rfl ?_
      refine g_nmI (fun v6 ev6 => ?_)
      replace h := nm_s ev6 h
      refine g_istore_n (ls' := [(2, XI v6), (1, XI x1), (3, XI x3)]) dX9_digitAt_18 (by decide) rfl ?_
      obtain ⟨c7, h⟩ := chk_some h
      refine g_iinc (ls' := [(3, XI (x3 + (-1))), (2, XI v6), (1, XI x1)]) 2 dX9_digitAt_19 rfl rfl c7 (by decide) rfl ?_
      refine g_goto (tgt := 9) dX9_digitAt_22 (by decide) ?_
      exact g_sub [2, 1, 0] rfl (ih _ _ _ _ h K)
set_option maxHeartbeats 8000000 in
set_option maxRecDepth 20000 in
theorem kX9_digitAt {X : XC} {d : Nat} {x0 : Int} {x1 : Int}  {M : Mem} {q : Int × Mem} (h : fX9_digitAt x0 x1 M = some q) : Ct X mX9_digitAt (d + 1) [XI x0, XI x1] M (pI q) := by
  unfold fX9_digitAt at h
  refine ct_go (by decide +kernel) (Nat.le_of_ble_eq_true rfl) (ls := [(0, XI x0), (1, XI x1)]) rfl ?_
  refine g_iload_n 0 dX9_digitAt_0 rfl ?_
  refine g_istore_n (ls' := [(2, XI x0), (0, XI x0), (1, XI x1)]) dX9_digitAt_1 (by decide) rfl ?_
  refine g_iload_n 1 dX9_digitAt_2 rfl ?_
  obtain ⟨q1, hq1, h⟩ := bnd_some h
  refine s_I (as := [XI x0]) dX9_digitAt_3 mlX9_177 mdX9_lengthOf msX9_lengthOf rfl (Nat.le_of_ble_eq_true rfl) (kX9_lengthOf  hq1) rfl ?_
  refine g_iconst (v := 1) dX9_digitAt_6 rfl (i32l rfl) ?_
  obtain ⟨c2, h⟩ := chk_some h
  refine g_isub dX9_digitAt_7 rfl c2 ?_
  refine g_nmI (fun v3 ev3 => ?_)
  replace h := nm_s ev3 h
  refine g_istore_n (ls' := [(3, XI v3), (2, XI x0), (0, XI x0), (1, XI x1)]) dX9_digitAt_8 (by decide) rfl ?_
  obtain ⟨z8, hz8, h⟩ := bnd_some h
  refine g_sub (ls' := [(1, XI x1), (2, XI x0), (3, XI v3)]) [3, 1, 0] rfl ?_
  refine lX9_digitAt_l9  1000 _ _ _ _ hz8 ?_
  refine g_iload_n 0 dX9_digitAt_25 rfl ?_
  refine g_bip dX9_digitAt_26 rfl ?_
  obtain ⟨c9, h⟩ := chk_some h
  refine g_irem dX9_digitAt_28 c9 (by decide) rfl ?_
  cases h
  exact g_ireturn dX9_digitAt_29 rfl ⟨rfl, rfl⟩
end
