section
set_option maxHeartbeats 8000000 in
set_option maxRecDepth 20000 in
theorem kX5_hasRoom {X : XC} {d : Nat} {x0 : Nat} {x1 : Int} {x2 : Int} (hx0 : Sh x0 = (14, 3)) {M : Mem} {q : Int × Mem} (h : fX5_hasRoom x0 x1 x2 M = some q) : Ct X mX5_hasRoom d [XR x0, XI x1, XI x2] M (pI q) := by
  unfold fX5_hasRoom at h
  refine ct_go (by decide +kernel) (Nat.le_of_ble_eq_true rfl) (ls := [(0, XR x0), (1, XI x1), (2, XI x2)]) rfl ?_
  refine g_iload_n 1 dX5_hasRoom_0 rfl ?_
  obtain ⟨t5, ht5, h⟩ := bnd_some h
  have Kt5 : Go X mX5_hasRoom d 27 [] [XI t5] M (pI q) := by
    obtain ⟨cz, h⟩ := chk_some h
    cases h
    exact g_zreturn dX5_hasRoom_27 rfl cz ⟨rfl, rfl⟩
  refine g_if_lt (tgt := 26) dX5_hasRoom_1 (by decide) (fun b6 => ?_) (fun b6 => ?_)
  · replace ht5 := ifp b6 ht5
    refine g_iconst (v := 0) dX5_hasRoom_26 rfl (i32l rfl) ?_
    cases ht5
    exact g_sub [] rfl Kt5
  · replace ht5 := ifn b6 ht5
    refine g_pc (pc' := 4) rfl ?_
    refine g_iload_n 1 dX5_hasRoom_4 rfl ?_
    refine g_aload_n 0 dX5_hasRoom_5 rfl ?_
    refine g_getI dX5_hasRoom_6 flX5_15 (by decide) rfl hx0 ?_
    refine g_icmp_gt (tgt := 26) dX5_hasRoom_9 (by decide) (fun b7 => ?_) (fun b7 => ?_)
    · replace ht5 := ifp b7 ht5
      refine g_iconst (v := 0) dX5_hasRoom_26 rfl (i32l rfl) ?_
      cases ht5
      exact g_sub [] rfl Kt5
    · replace ht5 := ifn b7 ht5
      refine g_pc (pc' := 12) rfl ?_
      refine g_iload_n 2 dX5_hasRoom_12 rfl ?_
      refine g_aload_n 0 dX5_hasRoom_13 rfl ?_
      refine g_getI dX5_hasRoom_14 flX5_15 (by decide) rfl hx0 ?_
      refine g_iload_n 1 dX5_hasRoom_17 rfl ?_
      obtain ⟨c8, ht5⟩ := chk_some ht5
      refine g_isub dX5_hasRoom_18 rfl c8 ?_
      refine g_icmp_gt (tgt := 26) dX5_hasRoom_19 (by decide) (fun b9 => ?_) (fun b9 => ?_)
      · replace ht5 := ifp b9 ht5
        refine g_iconst (v := 0) dX5_hasRoom_26 rfl (i32l rfl) ?_
        cases ht5
        exact g_sub [] rfl Kt5
      · replace ht5 := ifn b9 ht5
        refine g_pc (pc' := 22) rfl ?_
        refine g_iconst (v := 1) dX5_hasRoom_22 rfl (i32l rfl) ?_
        refine g_goto (tgt := 27) dX5_hasRoom_23 (by decide) ?_
        cases ht5
        exact g_sub [] rfl Kt5
set_option maxHeartbeats 8000000 in
set_option maxRecDepth 20000 in
theorem kX6_sign {X : XC} {d : Nat} {x0 : Nat} (hx0 : Sh x0 = (15, 8)) {M : Mem} {q : Int × Mem} (h : fX6_sign x0 M = some q) : Ct X mX6_sign d [XR x0] M (pI q) := by
  unfold fX6_sign at h
  refine ct_go (by decide +kernel) (Nat.le_of_ble_eq_true rfl) (ls := [(0, XR x0)]) rfl ?_
  refine g_aload_n 0 dX6_sign_0 rfl ?_
  refine g_getI dX6_sign_1 flX6_31 (by decide) rfl hx0 ?_
  obtain ⟨t4, ht4, h⟩ := bnd_some h
  have Kt4 : Go X mX6_sign d 31 [] [XI t4] M (pI q) := by
    cases h
    exact g_ireturn dX6_sign_31 rfl ⟨rfl, rfl⟩
  refine g_if_lt (tgt := 30) dX6_sign_4 (by decide) (fun b5 => ?_) (fun b5 => ?_)
  · replace ht4 := ifp b5 ht4
    refine g_iconst (v := -1) dX6_sign_30 rfl (i32l rfl) ?_
    cases ht4
    exact g_sub [] rfl Kt4
  · replace ht4 := ifn b5 ht4
    refine g_pc (pc' := 7) rfl ?_
    refine g_aload_n 0 dX6_sign_7 rfl ?_
    refine g_getI dX6_sign_8 flX6_31 (by decide) rfl hx0 ?_
    refine g_aload_n 0 dX6_sign_11 rfl ?_
    refine g_getI dX6_sign_12 flX6_9 (by decide) rfl hx0 ?_
    refine g_icmp_ge (tgt := 30) dX6_sign_15 (by decide) (fun b6 => ?_) (fun b6 => ?_)
    · replace ht4 := ifp b6 ht4
      refine g_iconst (v := -1) dX6_sign_30 rfl (i32l rfl) ?_
      cases ht4
      exact g_sub [] rfl Kt4
    · replace ht4 := ifn b6 ht4
      refine g_pc (pc' := 18) rfl ?_
      refine g_aload_n 0 dX6_sign_18 rfl ?_
      refine g_getR dX6_sign_19 flX6_15 (by decide) rfl hx0 ?_
      refine g_aload_n 0 dX6_sign_22 rfl ?_
      refine g_getI dX6_sign_23 flX6_31 (by decide) rfl hx0 ?_
      obtain ⟨c7, ht4⟩ := chk_some ht4
      refine g_iald dX6_sign_26 (sf_5_1 hx0) c7.1 c7.2 ?_
      refine g_goto (tgt := 31) dX6_sign_27 (by decide) ?_
      cases ht4
      exact g_sub [] rfl Kt4
set_option maxHeartbeats 8000000 in
set_option maxRecDepth 20000 in
theorem lX6_number_l4 {X : XC} {d : Nat} {Post : Option XV → Mem → Prop} {x0 : Nat} {x1 : Int} (hx0 : Sh x0 = (15, 8)) : ∀ (n : Nat) (x2 x3 : Int) (M : Mem) (t0 : Int × Int × Mem), fX6_number_l4 x0 x1 n x2 x3 M = some t0 → Go X mX6_number (d + 1) 56 [(0, XR x0), (2, XI t0.1), (3, XI t0.2.1)] [] t0.2.2 Post → Go X mX6_number (d + 1) 4 [(0, XR x0), (1, XI x1), (2, XI x2), (3, XI x3)] [] M Post := by
  intro n
  induction n with
  | zero => intro _ _ _ _ h; cases h
  | succ n ih =>
    intro x2 x3 M t0 h K
    unfold fX6_number_l4 at h
    refine g_iload_n 3 dX6_number_4 rfl ?_
    refine g_iload_n 1 dX6_number_5 rfl ?_
    refine g_icmp_ge (tgt := 56) dX6_number_6 (by decide) (fun b1 => ?_) (fun b1 => ?_)
    · replace h := ifp b1 h
      cases h
      exact g_sub [0, 2, 3] rfl K
    · replace h := ifn b1 h
      refine g_pc (pc' := 9) rfl ?_
      refine g_aload_n 0 dX6_number_9 rfl ?_
      obtain ⟨q2, hq2, h⟩ := bnd_some h
      refine v_I (ci := 5) (as := []) dX6_number_10 mlX6_51 mdX6_sign mvX6_sign rfl hx0 rfl (Nat.le_of_ble_eq_true rfl) (kX6_sign hx0 hq2) rfl ?_
      refine g_bip dX6_number_13 rfl ?_
      refine g_icmp_lt (tgt := 56) dX6_number_15 (by decide) (fun b3 => ?_) (fun b3 => ?_)
      · replace h := ifp b3 h
        cases h
        exact g_sub [0, 2, 3] rfl K
      · replace h := ifn b3 h
        refine g_pc (pc' := 18) rfl ?_
        refine g_aload_n 0 dX6_number_18 rfl ?_
        obtain ⟨q4, hq4, h⟩ := bnd_some h
        refine v_I (ci := 5) (as := []) dX6_number_19 mlX6_51 mdX6_sign mvX6_sign rfl hx0 rfl (Nat.le_of_ble_eq_true rfl) (kX6_sign hx0 hq4) rfl ?_
        refine g_bip dX6_number_22 rfl ?_
        refine g_icmp_gt (tgt := 56) dX6_number_24 (by decide) (fun b5 => ?_) (fun b5 => ?_)
        · replace h := ifp b5 h
          cases h
          exact g_sub [0, 2, 3] rfl K
        · replace h := ifn b5 h
          refine g_pc (pc' := 27) rfl ?_
          refine g_iload_n 2 dX6_number_27 rfl ?_
          refine g_bip dX6_number_28 rfl ?_
          obtain ⟨c6, h⟩ := chk_some h
          refine g_imul dX6_number_30 rfl c6 ?_
          refine g_aload_n 0 dX6_number_31 rfl ?_
          obtain ⟨q7, hq7, h⟩ := bnd_some h
          refine v_I (ci := 5) (as := []) dX6_number_32 mlX6_51 mdX6_sign mvX6_sign rfl hx0 rfl (Nat.le_of_ble_eq_true rfl) (kX6_sign hx0 hq7) rfl ?_
          obtain ⟨c8, h⟩ := chk_some h
          refine g_iadd dX6_number_35 rfl c8 ?_
          refine g_bip dX6_number_36 rfl ?_
          obtain ⟨c9, h⟩ := chk_some h
          refine g_isub dX6_number_38 rfl c9 ?_
          refine g_pc (pc' := 39) rfl ?_
          refine g_nmI (fun v10 ev10 => ?_)
          replace h := nm_s ev10 h
          refine g_istore_n (ls' := [(2, XI v10), (0, XR x0), (1, XI x1), (3, XI x3)]) dX6_number_39 (by decide) rfl ?_
          refine g_aload_n 1 dX6_number_40 rfl ?_
          refine g_dupR dX6_number_41 ?_
          refine g_getI dX6_number_42 flX6_31 (by decide) rfl hx0 ?_
          refine g_iconst (v := 1) dX6_number_45 rfl (i32l rfl) ?_
          obtain ⟨c11, h⟩ := chk_some h
          refine g_iadd dX6_number_46 rfl c11 ?_
          refine g_putI dX6_number_47 flX6_31 (by decide) rfl hx0 ?_
          refine g_nmM (fun M12 eM12 => ?_)
          replace h := nm_s eM12 h
          obtain ⟨c13, h⟩ := chk_some h
          refine g_iinc (ls' := [(3, XI (x3 + 1)), (2, XI v10), (0, XR x0), (1, XI x1)]) 3 dX6_number_50 rfl rfl c13 (by decide) rfl ?_
          refine g_goto (tgt := 4) dX6_number_53 (by decide) ?_
          exact g_sub [2, 3, 1, 0] rfl (ih _ _ _ _ h K)
set_option maxHeartbeats 8000000 in
set_option maxRecDepth 20000 in
theorem kX6_number {X : XC} {d : Nat} {x0 : Nat} {x1 : Int} (hx0 : Sh x0 = (15, 8)) {M : Mem} {q : Int × Mem} (h : fX6_number x0 x1 M = some q) : Ct X mX6_number (d + 1) [XR x0, XI x1] M (pI q) := by
  unfold fX6_number at h
  refine ct_go (by decide +kernel) (Nat.le_of_ble_eq_true rfl) (ls := [(0, XR x0), (1, XI x1)]) rfl ?_
  refine g_iconst (v := 0) dX6_number_0 rfl (i32l rfl) ?_
  refine g_istore_n (ls' := [(2, XI 0), (0, XR x0), (1, XI x1)]) dX6_number_1 (by decide) rfl ?_
  refine g_iconst (v := 0) dX6_number_2 rfl (i32l rfl) ?_
  refine g_istore_n (ls' := [(3, XI 0), (2, XI 0), (0, XR x0), (1, XI x1)]) dX6_number_3 (by decide) rfl ?_
  obtain ⟨z14, hz14, h⟩ := bnd_some h
  refine g_sub (ls' := [(0, XR x0), (1, XI x1), (2, XI 0), (3, XI 0)]) [2, 3, 1, 0] rfl ?_
  refine lX6_number_l4 hx0 1000 _ _ _ _ hz14 ?_
  refine g_aload_n 0 dX6_number_56 rfl ?_
  refine g_iload_n 2 dX6_number_57 rfl ?_
  obtain ⟨t16, ht16, h⟩ := bnd_some h
  have Kt16 : Go X mX6_number (d + 1) 66 [(2, XI z14.1)] [XI t16, XR x0] z14.2.2 (pI q) := by
    obtain ⟨c18, h⟩ := chk_some h
    refine g_putZ dX6_number_66 flX6_34 (by decide) rfl hx0 c18 ?_
    refine g_nmM (fun M19 eM19 => ?_)
    replace h := nm_s eM19 h
    refine g_iload_n 0 dX6_number_69 rfl ?_
    cases h
    exact g_ireturn dX6_number_70 rfl ⟨rfl, rfl⟩
  refine g_if_ne (tgt := 65) dX6_number_58 (by decide) (fun b17 => ?_) (fun b17 => ?_)
  · replace ht16 := ifn b17 ht16
    refine g_iconst (v := 0) dX6_number_65 rfl (i32l rfl) ?_
    cases ht16
    exact g_sub [1] rfl Kt16
  · replace ht16 := ifp b17 ht16
    refine g_pc (pc' := 61) rfl ?_
    refine g_iconst (v := 1) dX6_number_61 rfl (i32l rfl) ?_
    refine g_goto (tgt := 66) dX6_number_62 (by decide) ?_
    cases ht16
    exact g_sub [1] rfl Kt16
set_option maxHeartbeats 8000000 in
set_option maxRecDepth 20000 in
theorem kX6_readsBallot {X : XC} {d : Nat} {x0 : Nat} {x1 : Int} (hx0 : Sh x0 = (15, 8)) {M : Mem} {q : Int × Mem} (h : fX6_readsBallot x0 x1 M = some q) : Ct X mX6_readsBallot (d + 2) [XR x0, XI x1] M (pI q) := by
  unfold fX6_readsBallot at h
  refine ct_go (by decide +kernel) (Nat.le_of_ble_eq_true rfl) (ls := [(0, XR x0), (1, XI x1)]) rfl ?_
  refine g_aload_n 0 dX6_readsBallot_0 rfl ?_
  refine g_getR dX6_readsBallot_1 flX6_25 (by decide) rfl hx0 ?_
  refine g_iload_n 1 dX6_readsBallot_4 rfl ?_
  refine g_aload_n 0 dX6_readsBallot_5 rfl ?_
  refine g_bip dX6_readsBallot_6 rfl ?_
  obtain ⟨q1, hq1, h⟩ := bnd_some h
  refine v_I (ci := 5) (as := [XI 8]) dX6_readsBallot_8 mlX6_58 mdX6_number mvX6_number rfl hx0 rfl (Nat.le_of_ble_eq_true rfl) (kX6_number hx0 hq1) rfl ?_
  obtain ⟨c2, h⟩ := chk_some h
  refine g_iast dX6_readsBallot_11 (sf_5_4 hx0) c2.1 c2.2 ?_
  refine g_nmM (fun M3 eM3 => ?_)
  replace h := nm_s eM3 h
  refine g_aload_n 0 dX6_readsBallot_12 rfl ?_
  refine g_pc (pc' := 13) rfl ?_
  refine g_getZ dX6_readsBallot_13 flX6_34 (by decide) rfl hx0 ?_
  refine g_if_ne (tgt := 28) dX6_readsBallot_16 (by decide) (fun b4 => ?_) (fun b4 => ?_)
  · replace h := ifn b4 h
    refine g_iconst (v := 0) dX6_readsBallot_28 rfl (i32l rfl) ?_
    cases h
    exact g_zreturn dX6_readsBallot_29 rfl (by decide) ⟨rfl, rfl⟩
  · replace h := ifp b4 h
    refine g_pc (pc' := 19) rfl ?_
    refine g_aload_n 0 dX6_readsBallot_19 rfl ?_
    obtain ⟨q5, hq5, h⟩ := bnd_some h
    refine v_I (ci := 5) (as := []) dX6_readsBallot_20 mlX6_51 mdX6_sign mvX6_sign rfl hx0 rfl (Nat.le_of_ble_eq_true rfl) (kX6_sign hx0 hq5) rfl ?_
    refine g_bip dX6_readsBallot_23 rfl ?_
    refine g_icmp_eq (tgt := 30) dX6_readsBallot_25 (by decide) (fun b6 => ?_) (fun b6 => ?_)
    · replace h := ifp b6 h
      refine g_aload_n 0 dX6_readsBallot_30 rfl ?_
      refine g_dupR dX6_readsBallot_31 ?_
      refine g_getI dX6_readsBallot_32 flX6_31 (by decide) rfl hx0 ?_
      refine g_iconst (v := 1) dX6_readsBallot_35 rfl (i32l rfl) ?_
      obtain ⟨c7, h⟩ := chk_some h
      refine g_iadd dX6_readsBallot_36 rfl c7 ?_
      refine g_putI dX6_readsBallot_37 flX6_31 (by decide) rfl hx0 ?_
      refine g_nmM (fun M8 eM8 => ?_)
      replace h := nm_s eM8 h
      refine g_aload_n 0 dX6_readsBallot_40 rfl ?_
      refine g_getR dX6_readsBallot_41 flX6_28 (by decide) rfl hx0 ?_
      refine g_pc (pc' := 44) rfl ?_
      refine g_iload_n 1 dX6_readsBallot_44 rfl ?_
      refine g_aload_n 0 dX6_readsBallot_45 rfl ?_
      refine g_bip dX6_readsBallot_46 rfl ?_
      obtain ⟨q9, hq9, h⟩ := bnd_some h
      refine v_I (ci := 5) (as := [XI 7]) dX6_readsBallot_48 mlX6_58 mdX6_number mvX6_number rfl hx0 rfl (Nat.le_of_ble_eq_true rfl) (kX6_number hx0 hq9) rfl ?_
      obtain ⟨c10, h⟩ := chk_some h
      refine g_iast dX6_readsBallot_51 (sf_5_5 hx0) c10.1 c10.2 ?_
      refine g_nmM (fun M11 eM11 => ?_)
      replace h := nm_s eM11 h
      refine g_aload_n 0 dX6_readsBallot_52 rfl ?_
      refine g_getZ dX6_readsBallot_53 flX6_34 (by decide) rfl hx0 ?_
      obtain ⟨t13, ht13, h⟩ := bnd_some h
      have Kt13 : Go X mX6_readsBallot (d + 2) 64 [] [XI t13] M11 (pI q) := by
        obtain ⟨cz, h⟩ := chk_some h
        cases h
        exact g_zreturn dX6_readsBallot_64 rfl cz ⟨rfl, rfl⟩
      refine g_if_ne (tgt := 63) dX6_readsBallot_56 (by decide) (fun b14 => ?_) (fun b14 => ?_)
      · replace ht13 := ifn b14 ht13
        refine g_iconst (v := 0) dX6_readsBallot_63 rfl (i32l rfl) ?_
        cases ht13
        exact g_sub [] rfl Kt13
      · replace ht13 := ifp b14 ht13
        refine g_pc (pc' := 59) rfl ?_
        refine g_iconst (v := 1) dX6_readsBallot_59 rfl (i32l rfl) ?_
        refine g_goto (tgt := 64) dX6_readsBallot_60 (by decide) ?_
        cases ht13
        exact g_sub [] rfl Kt13
    · replace h := ifn b6 h
      refine g_pc (pc' := 28) rfl ?_
      refine g_iconst (v := 0) dX6_readsBallot_28 rfl (i32l rfl) ?_
      cases h
      exact g_zreturn dX6_readsBallot_29 rfl (by decide) ⟨rfl, rfl⟩
set_option maxHeartbeats 8000000 in
set_option maxRecDepth 20000 in
theorem kX6_readsClause {X : XC} {d : Nat} {x0 : Nat} {x1 : Int} (hx0 : Sh x0 = (15, 8)) {M : Mem} {q : Int × Mem} (h : fX6_readsClause x0 x1 M = some q) : Ct X mX6_readsClause (d + 3) [XR x0, XI x1] M (pI q) := by
  unfold fX6_readsClause at h
  refine ct_go (by decide +kernel) (Nat.le_of_ble_eq_true rfl) (ls := [(0, XR x0), (1, XI x1)]) rfl ?_
  refine g_aload_n 0 dX6_readsClause_0 rfl ?_
  refine g_iconst (v := 0) dX6_readsClause_1 rfl (i32l rfl) ?_
  refine g_putZ dX6_readsClause_2 flX6_34 (by decide) rfl hx0 (by decide) ?_
  refine g_nmM (fun M1 eM1 => ?_)
  replace h := nm_s eM1 h
  refine g_aload_n 0 dX6_readsClause_5 rfl ?_
  refine g_getR dX6_readsClause_6 flX6_22 (by decide) rfl hx0 ?_
  refine g_iload_n 1 dX6_readsClause_9 rfl ?_
  refine g_aload_n 0 dX6_readsClause_10 rfl ?_
  obtain ⟨q2, hq2, h⟩ := bnd_some h
  refine v_I (ci := 5) (as := []) dX6_readsClause_11 mlX6_51 mdX6_sign mvX6_sign rfl hx0 rfl (Nat.le_of_ble_eq_true rfl) (kX6_sign hx0 hq2) rfl ?_
  refine g_pc (pc' := 14) rfl ?_
  obtain ⟨c3, h⟩ := chk_some h
  refine g_iast dX6_readsClause_14 (sf_5_3 hx0) c3.1 c3.2 ?_
  refine g_nmM (fun M4 eM4 => ?_)
  replace h := nm_s eM4 h
  refine g_aload_n 0 dX6_readsClause_15 rfl ?_
  obtain ⟨q5, hq5, h⟩ := bnd_some h
  refine v_I (ci := 5) (as := []) dX6_readsClause_16 mlX6_51 mdX6_sign mvX6_sign rfl hx0 rfl (Nat.le_of_ble_eq_true rfl) (kX6_sign hx0 hq5) rfl ?_
  by_cases b6 : q5.1 = 98
  · replace h := ifp b6 h
    refine g_lsw (off := 61) (tgt := 80) dX6_readsClause_19 (by decide) (by rw [b6]; rfl) (by decide) ?_
    refine g_aload_n 0 dX6_readsClause_80 rfl ?_
    refine g_dupR dX6_readsClause_81 ?_
    refine g_getI dX6_readsClause_82 flX6_31 (by decide) rfl hx0 ?_
    refine g_iconst (v := 1) dX6_readsClause_85 rfl (i32l rfl) ?_
    obtain ⟨c7, h⟩ := chk_some h
    refine g_iadd dX6_readsClause_86 rfl c7 ?_
    refine g_putI dX6_readsClause_87 flX6_31 (by decide) rfl hx0 ?_
    refine g_nmM (fun M8 eM8 => ?_)
    replace h := nm_s eM8 h
    refine g_aload_n 0 dX6_readsClause_90 rfl ?_
    refine g_iload_n 1 dX6_readsClause_91 rfl ?_
    refine g_pc (pc' := 92) rfl ?_
    obtain ⟨q9, hq9, h⟩ := bnd_some h
    refine v_I (ci := 5) (as := [XI x1]) dX6_readsClause_92 mlX6_55 mdX6_readsBallot mvX6_readsBallot rfl hx0 rfl (Nat.le_of_ble_eq_true rfl) (kX6_readsBallot hx0 hq9) rfl ?_
    obtain ⟨cz, h⟩ := chk_some h
    cases h
    exact g_zreturn dX6_readsClause_95 rfl cz ⟨rfl, rfl⟩
  · replace h := ifn b6 h
    by_cases b10 : q5.1 = 99
    · replace h := ifp b10 h
      refine g_lsw (off := 49) (tgt := 68) dX6_readsClause_19 (by decide) (by rw [b10]; rfl) (by decide) ?_
      refine g_aload_n 0 dX6_readsClause_68 rfl ?_
      refine g_dupR dX6_readsClause_69 ?_
      refine g_getI dX6_readsClause_70 flX6_31 (by decide) rfl hx0 ?_
      refine g_iconst (v := 1) dX6_readsClause_73 rfl (i32l rfl) ?_
      obtain ⟨c11, h⟩ := chk_some h
      refine g_iadd dX6_readsClause_74 rfl c11 ?_
      refine g_putI dX6_readsClause_75 flX6_31 (by decide) rfl hx0 ?_
      refine g_nmM (fun M12 eM12 => ?_)
      replace h := nm_s eM12 h
      refine g_iconst (v := 1) dX6_readsClause_78 rfl (i32l rfl) ?_
      cases h
      exact g_zreturn dX6_readsClause_79 rfl (by decide) ⟨rfl, rfl⟩
    · replace h := ifn b10 h
      by_cases b13 : q5.1 = 103
      · replace h := ifp b13 h
        refine g_lsw (off := 77) (tgt := 96) dX6_readsClause_19 (by decide) (by rw [b13]; rfl) (by decide) ?_
        refine g_aload_n 0 dX6_readsClause_96 rfl ?_
        refine g_dupR dX6_readsClause_97 ?_
        refine g_getI dX6_readsClause_98 flX6_31 (by decide) rfl hx0 ?_
        refine g_iconst (v := 1) dX6_readsClause_101 rfl (i32l rfl) ?_
        obtain ⟨c14, h⟩ := chk_some h
        refine g_iadd dX6_readsClause_102 rfl c14 ?_
        refine g_putI dX6_readsClause_103 flX6_31 (by decide) rfl hx0 ?_
        refine g_nmM (fun M15 eM15 => ?_)
        replace h := nm_s eM15 h
        refine g_aload_n 0 dX6_readsClause_106 rfl ?_
        refine g_getR dX6_readsClause_107 flX6_25 (by decide) rfl hx0 ?_
        refine g_pc (pc' := 110) rfl ?_
        refine g_iload_n 1 dX6_readsClause_110 rfl ?_
        refine g_aload_n 0 dX6_readsClause_111 rfl ?_
        refine g_iconst (v := 1) dX6_readsClause_112 rfl (i32l rfl) ?_
        obtain ⟨q16, hq16, h⟩ := bnd_some h
        refine v_I (ci := 5) (as := [XI 1]) dX6_readsClause_113 mlX6_58 mdX6_number mvX6_number rfl hx0 rfl (Nat.le_of_ble_eq_true rfl) (kX6_number hx0 hq16) rfl ?_
        obtain ⟨c17, h⟩ := chk_some h
        refine g_iast dX6_readsClause_116 (sf_5_4 hx0) c17.1 c17.2 ?_
        refine g_nmM (fun M18 eM18 => ?_)
        replace h := nm_s eM18 h
        refine g_aload_n 0 dX6_readsClause_117 rfl ?_
        refine g_getZ dX6_readsClause_118 flX6_34 (by decide) rfl hx0 ?_
        obtain ⟨t20, ht20, h⟩ := bnd_some h
        have Kt20 : Go X mX6_readsClause (d + 3) 129 [] [XI t20] M18 (pI q) := by
          obtain ⟨cz, h⟩ := chk_some h
          cases h
          exact g_zreturn dX6_readsClause_129 rfl cz ⟨rfl, rfl⟩
        refine g_if_ne (tgt := 128) dX6_readsClause_121 (by decide) (fun b21 => ?_) (fun b21 => ?_)
        · replace ht20 := ifn b21 ht20
          refine g_iconst (v := 0) dX6_readsClause_128 rfl (i32l rfl) ?_
          cases ht20
          exact g_sub [] rfl Kt20
        · replace ht20 := ifp b21 ht20
          refine g_pc (pc' := 124) rfl ?_
          refine g_iconst (v := 1) dX6_readsClause_124 rfl (i32l rfl) ?_
          refine g_goto (tgt := 129) dX6_readsClause_125 (by decide) ?_
          cases ht20
          exact g_sub [] rfl Kt20
      · replace h := ifn b13 h
        by_cases b22 : q5.1 = 108
        · replace h := ifp b22 h
          refine g_lsw (off := 111) (tgt := 130) dX6_readsClause_19 (by decide) (by rw [b22]; rfl) (by decide) ?_
          refine g_aload_n 0 dX6_readsClause_130 rfl ?_
          refine g_dupR dX6_readsClause_131 ?_
          refine g_getI dX6_readsClause_132 flX6_31 (by decide) rfl hx0 ?_
          refine g_iconst (v := 1) dX6_readsClause_135 rfl (i32l rfl) ?_
          obtain ⟨c23, h⟩ := chk_some h
          refine g_iadd dX6_readsClause_136 rfl c23 ?_
          refine g_putI dX6_readsClause_137 flX6_31 (by decide) rfl hx0 ?_
          refine g_nmM (fun M24 eM24 => ?_)
          replace h := nm_s eM24 h
          refine g_aload_n 0 dX6_readsClause_140 rfl ?_
          refine g_getR dX6_readsClause_141 flX6_25 (by decide) rfl hx0 ?_
          refine g_pc (pc' := 144) rfl ?_
          refine g_iload_n 1 dX6_readsClause_144 rfl ?_
          refine g_aload_n 0 dX6_readsClause_145 rfl ?_
          refine g_bip dX6_readsClause_146 rfl ?_
          obtain ⟨q25, hq25, h⟩ := bnd_some h
          refine v_I (ci := 5) (as := [XI 9]) dX6_readsClause_148 mlX6_58 mdX6_number mvX6_number rfl hx0 rfl (Nat.le_of_ble_eq_true rfl) (kX6_number hx0 hq25) rfl ?_
          obtain ⟨c26, h⟩ := chk_some h
          refine g_iast dX6_readsClause_151 (sf_5_4 hx0) c26.1 c26.2 ?_
          refine g_nmM (fun M27 eM27 => ?_)
          replace h := nm_s eM27 h
          refine g_aload_n 0 dX6_readsClause_152 rfl ?_
          refine g_getZ dX6_readsClause_153 flX6_34 (by decide) rfl hx0 ?_
          obtain ⟨t29, ht29, h⟩ := bnd_some h
          have Kt29 : Go X mX6_readsClause (d + 3) 164 [] [XI t29] M27 (pI q) := by
            obtain ⟨cz, h⟩ := chk_some h
            cases h
            exact g_zreturn dX6_readsClause_164 rfl cz ⟨rfl, rfl⟩
          refine g_if_ne (tgt := 163) dX6_readsClause_156 (by decide) (fun b30 => ?_) (fun b30 => ?_)
          · replace ht29 := ifn b30 ht29
            refine g_iconst (v := 0) dX6_readsClause_163 rfl (i32l rfl) ?_
            cases ht29
            exact g_sub [] rfl Kt29
          · replace ht29 := ifp b30 ht29
            refine g_pc (pc' := 159) rfl ?_
            refine g_iconst (v := 1) dX6_readsClause_159 rfl (i32l rfl) ?_
            refine g_goto (tgt := 164) dX6_readsClause_160 (by decide) ?_
            cases ht29
            exact g_sub [] rfl Kt29
        · replace h := ifn b22 h
          by_cases b31 : q5.1 = 115
          · replace h := ifp b31 h
            refine g_lsw (off := 77) (tgt := 96) dX6_readsClause_19 (by decide) (by rw [b31]; rfl) (by decide) ?_
            refine g_aload_n 0 dX6_readsClause_96 rfl ?_
            refine g_dupR dX6_readsClause_97 ?_
            refine g_getI dX6_readsClause_98 flX6_31 (by decide) rfl hx0 ?_
            refine g_iconst (v := 1) dX6_readsClause_101 rfl (i32l rfl) ?_
            obtain ⟨c32, h⟩ := chk_some h
            refine g_iadd dX6_readsClause_102 rfl c32 ?_
            refine g_putI dX6_readsClause_103 flX6_31 (by decide) rfl hx0 ?_
            refine g_nmM (fun M33 eM33 => ?_)
            replace h := nm_s eM33 h
            refine g_aload_n 0 dX6_readsClause_106 rfl ?_
            refine g_getR dX6_readsClause_107 flX6_25 (by decide) rfl hx0 ?_
            refine g_pc (pc' := 110) rfl ?_
            refine g_iload_n 1 dX6_readsClause_110 rfl ?_
            refine g_aload_n 0 dX6_readsClause_111 rfl ?_
            refine g_iconst (v := 1) dX6_readsClause_112 rfl (i32l rfl) ?_
            obtain ⟨q34, hq34, h⟩ := bnd_some h
            refine v_I (ci := 5) (as := [XI 1]) dX6_readsClause_113 mlX6_58 mdX6_number mvX6_number rfl hx0 rfl (Nat.le_of_ble_eq_true rfl) (kX6_number hx0 hq34) rfl ?_
            obtain ⟨c35, h⟩ := chk_some h
            refine g_iast dX6_readsClause_116 (sf_5_4 hx0) c35.1 c35.2 ?_
            refine g_nmM (fun M36 eM36 => ?_)
            replace h := nm_s eM36 h
            refine g_aload_n 0 dX6_readsClause_117 rfl ?_
            refine g_getZ dX6_readsClause_118 flX6_34 (by decide) rfl hx0 ?_
            obtain ⟨t38, ht38, h⟩ := bnd_some h
            have Kt38 : Go X mX6_readsClause (d + 3) 129 [] [XI t38] M36 (pI q) := by
              obtain ⟨cz, h⟩ := chk_some h
              cases h
              exact g_zreturn dX6_readsClause_129 rfl cz ⟨rfl, rfl⟩
            refine g_if_ne (tgt := 128) dX6_readsClause_121 (by decide) (fun b39 => ?_) (fun b39 => ?_)
            · replace ht38 := ifn b39 ht38
              refine g_iconst (v := 0) dX6_readsClause_128 rfl (i32l rfl) ?_
              cases ht38
              exact g_sub [] rfl Kt38
            · replace ht38 := ifp b39 ht38
              refine g_pc (pc' := 124) rfl ?_
              refine g_iconst (v := 1) dX6_readsClause_124 rfl (i32l rfl) ?_
              refine g_goto (tgt := 129) dX6_readsClause_125 (by decide) ?_
              cases ht38
              exact g_sub [] rfl Kt38
          · replace h := ifn b31 h
            refine g_lsw (off := 146) (tgt := 165) dX6_readsClause_19 (by decide) (by simp [Op.lookupswitch.offset, Ne.symm b6, b6, Ne.symm b10, b10, Ne.symm b13, b13, Ne.symm b22, b22, Ne.symm b31, b31]) (by decide) ?_
            refine g_iconst (v := 0) dX6_readsClause_165 rfl (i32l rfl) ?_
            cases h
            exact g_zreturn dX6_readsClause_166 rfl (by decide) ⟨rfl, rfl⟩
set_option maxHeartbeats 8000000 in
set_option maxRecDepth 20000 in
theorem kX7_addCause {X : XC} {d : Nat} {x0 : Nat} {x1 : Int} {x2 : Int} (hx0 : Sh x0 = (16, 3)) {M : Mem} {q : Int × Mem} (h : fX7_addCause x0 x1 x2 M = some q) : Ct X mX7_addCause d [XR x0, XI x1, XI x2] M (pV q) := by
  unfold fX7_addCause at h
  refine ct_go (by decide +kernel) (Nat.le_of_ble_eq_true rfl) (ls := [(0, XR x0), (1, XI x1), (2, XI x2)]) rfl ?_
  refine g_aload_n 0 dX7_addCause_0 rfl ?_
  refine g_getI dX7_addCause_1 flX7_7 (by decide) rfl hx0 ?_
  refine g_aload_n 0 dX7_addCause_4 rfl ?_
  refine g_getR dX7_addCause_5 flX7_13 (by decide) rfl hx0 ?_
  refine g_alenV 3 dX7_addCause_8 (sf_6_1 hx0) rfl rfl rfl ?_
  obtain ⟨t8, ht8, h⟩ := bnd_some h
  have Kt8 : Go X mX7_addCause d 42 [] [] t8 (pV q) := by
    cases h
    exact g_return dX7_addCause_42 rfl ⟨rfl, rfl⟩
  refine g_icmp_ge (tgt := 42) dX7_addCause_9 (by decide) (fun b9 => ?_) (fun b9 => ?_)
  · replace ht8 := ifp b9 ht8
    cases ht8
    exact g_sub [] rfl Kt8
  · replace ht8 := ifn b9 ht8
    refine g_pc (pc' := 12) rfl ?_
    refine g_aload_n 0 dX7_addCause_12 rfl ?_
    refine g_getR dX7_addCause_13 flX7_13 (by decide) rfl hx0 ?_
    refine g_aload_n 0 dX7_addCause_16 rfl ?_
    refine g_getI dX7_addCause_17 flX7_7 (by decide) rfl hx0 ?_
    refine g_iload_n 1 dX7_addCause_20 rfl ?_
    obtain ⟨c10, ht8⟩ := chk_some ht8
    refine g_iast dX7_addCause_21 (sf_6_1 hx0) c10.1 c10.2 ?_
    refine g_nmM (fun M11 eM11 => ?_)
    replace ht8 := nm_s eM11 ht8
    refine g_aload_n 0 dX7_addCause_22 rfl ?_
    refine g_getR dX7_addCause_23 flX7_17 (by decide) rfl hx0 ?_
    refine g_pc (pc' := 26) rfl ?_
    refine g_aload_n 0 dX7_addCause_26 rfl ?_
    refine g_getI dX7_addCause_27 flX7_7 (by decide) rfl hx0 ?_
    refine g_iload_n 2 dX7_addCause_30 rfl ?_
    obtain ⟨c12, ht8⟩ := chk_some ht8
    refine g_iast dX7_addCause_31 (sf_6_2 hx0) c12.1 c12.2 ?_
    refine g_nmM (fun M13 eM13 => ?_)
    replace ht8 := nm_s eM13 ht8
    refine g_aload_n 0 dX7_addCause_32 rfl ?_
    refine g_dupR dX7_addCause_33 ?_
    refine g_getI dX7_addCause_34 flX7_7 (by decide) rfl hx0 ?_
    refine g_iconst (v := 1) dX7_addCause_37 rfl (i32l rfl) ?_
    obtain ⟨c14, ht8⟩ := chk_some ht8
    refine g_iadd dX7_addCause_38 rfl c14 ?_
    refine g_pc (pc' := 39) rfl ?_
    refine g_putI dX7_addCause_39 flX7_7 (by decide) rfl hx0 ?_
    refine g_nmM (fun M15 eM15 => ?_)
    replace ht8 := nm_s eM15 ht8
    cases ht8
    exact g_sub [] rfl Kt8
set_option maxHeartbeats 8000000 in
set_option maxRecDepth 20000 in
theorem kX7_begin {X : XC} {d : Nat} {x0 : Nat} {x1 : Int} {x2 : Int} (hx0 : Sh x0 = (16, 3)) {M : Mem} {q : Int × Mem} (h : fX7_begin x0 x1 x2 M = some q) : Ct X mX7_begin (d + 1) [XR x0, XI x1, XI x2] M (pV q) := by
  unfold fX7_begin at h
  refine ct_go (by decide +kernel) (Nat.le_of_ble_eq_true rfl) (ls := [(0, XR x0), (1, XI x1), (2, XI x2)]) rfl ?_
  refine g_aload_n 0 dX7_begin_0 rfl ?_
  refine g_iconst (v := 0) dX7_begin_1 rfl (i32l rfl) ?_
  refine g_putI dX7_begin_2 flX7_7 (by decide) rfl hx0 ?_
  refine g_nmM (fun M1 eM1 => ?_)
  replace h := nm_s eM1 h
  refine g_aload_n 0 dX7_begin_5 rfl ?_
  refine g_iload_n 1 dX7_begin_6 rfl ?_
  refine g_iload_n 2 dX7_begin_7 rfl ?_
  obtain ⟨q2, hq2, h⟩ := bnd_some h
  refine v_V (ci := 6) (as := [XI x1, XI x2]) dX7_begin_8 mlX7_20 mdX7_addCause mvX7_addCause rfl hx0 rfl (Nat.le_of_ble_eq_true rfl) (kX7_addCause hx0 hq2) rfl ?_
  cases h
  exact g_return dX7_begin_11 rfl ⟨rfl, rfl⟩
end
