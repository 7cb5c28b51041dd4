section
set_option maxHeartbeats 8000000 in
set_option maxRecDepth 20000 in
theorem lX9_preferredTo_l35 {X : XC} {d : Nat} {Post : Option XV → Mem → Prop} {x0 : Nat} {x1 : Int} {x2 : Int} {x3 : Int} {x4 : Int} {x5 : Int} (hx0 : Sh x0 = (18, 69)) : ∀ (n : Nat) (x6 x7 : Int) (M : Mem) (t0 : Int × Int × Mem), fX9_preferredTo_l35 x0 x1 x2 x3 x4 x5 n x6 x7 M = some t0 → Go X mX9_preferredTo (d + 2) 73 [(0, XR x0), (1, XI x1), (2, XI x2), (3, XI x3), (4, XI x4), (6, XI t0.1)] [] t0.2.2 Post → Go X mX9_preferredTo (d + 2) 35 [(0, XR x0), (1, XI x1), (2, XI x2), (3, XI x3), (4, XI x4), (5, XI x5), (6, XI x6), (7, XI x7)] [] M Post := by
  intro n
  induction n with
  | zero => intro _ _ _ _ h; cases h
  | succ n ih =>
    intro x6 x7 M t0 h K
    unfold fX9_preferredTo_l35 at h
    refine g_iload 7 dX9_preferredTo_35 rfl ?_
    refine g_if_lt (tgt := 73) dX9_preferredTo_37 (by decide) (fun b7 => ?_) (fun b7 => ?_)
    · replace h := ifp b7 h
      cases h
      exact g_sub [0, 1, 2, 3, 4, 6] rfl K
    · replace h := ifn b7 h
      refine g_pc (pc' := 40) rfl ?_
      refine g_iload 5 dX9_preferredTo_40 rfl ?_
      refine g_iload 7 dX9_preferredTo_42 rfl ?_
      obtain ⟨q8, hq8, h⟩ := bnd_some h
      refine s_I (as := [XI x5, XI x7]) dX9_preferredTo_44 mlX9_181 mdX9_digitAt msX9_digitAt rfl (Nat.le_of_ble_eq_true rfl) (kX9_digitAt  hq8) rfl ?_
      refine g_iconst (v := 1) dX9_preferredTo_47 rfl (i32l rfl) ?_
      obtain ⟨c9, h⟩ := chk_some h
      refine g_isub dX9_preferredTo_48 rfl c9 ?_
      refine g_nmI (fun v10 ev10 => ?_)
      replace h := nm_s ev10 h
      refine g_istore (ls' := [(8, XI v10), (0, XR x0), (1, XI x1), (2, XI x2), (3, XI x3), (4, XI x4), (5, XI x5), (6, XI x6), (7, XI x7)]) dX9_preferredTo_49 (by decide) rfl ?_
      refine g_iload 0 dX9_preferredTo_51 rfl ?_
      refine g_iload_n 2 dX9_preferredTo_53 rfl ?_
      refine g_pc (pc' := 54) rfl ?_
      obtain ⟨t13, ht13, h⟩ := bnd_some h
      have Kt13 : Go X mX9_preferredTo (d + 2) 67 [(0, XR x0), (1, XI x1), (2, XI x2), (3, XI x3), (4, XI x4), (5, XI x5), (6, XI t13), (7, XI x7)] [] q8.2 Post := by
        obtain ⟨c16, h⟩ := chk_some h
        refine g_iinc (ls' := [(7, XI (x7 + (-1))), (0, XR x0), (1, XI x1), (2, XI x2), (3, XI x3), (4, XI x4), (5, XI x5), (6, XI t13)]) 7 dX9_preferredTo_67 rfl rfl c16 (by decide) rfl ?_
        refine g_goto (tgt := 35) dX9_preferredTo_70 (by decide) ?_
        exact g_sub [1, 2, 3, 4, 5, 6, 7, 0] rfl (ih _ _ _ _ h K)
      refine g_icmp_eq (tgt := 63) dX9_preferredTo_54 (by decide) (fun b14 => ?_) (fun b14 => ?_)
      · replace ht13 := ifp b14 ht13
        refine g_iload 0 dX9_preferredTo_63 rfl ?_
        refine g_istore (ls' := [(6, XI v10), (8, XI v10), (0, XR x0), (1, XI x1), (2, XI x2), (3, XI x3), (4, XI x4), (5, XI x5), (7, XI x7)]) dX9_preferredTo_65 (by decide) rfl ?_
        cases ht13
        exact g_sub [2, 3, 4, 5, 6, 7, 0, 8] rfl Kt13
      · replace ht13 := ifn b14 ht13
        refine g_pc (pc' := 57) rfl ?_
        refine g_iload 0 dX9_preferredTo_57 rfl ?_
        refine g_iload_n 3 dX9_preferredTo_59 rfl ?_
        refine g_icmp_ne (tgt := 67) dX9_preferredTo_60 (by decide) (fun b15 => ?_) (fun b15 => ?_)
        · replace ht13 := ifn b15 ht13
          cases ht13
          exact g_sub [1, 2, 3, 4, 5, 6, 7, 8] rfl Kt13
        · replace ht13 := ifp b15 ht13
          refine g_pc (pc' := 63) rfl ?_
          refine g_iload 0 dX9_preferredTo_63 rfl ?_
          refine g_istore (ls' := [(6, XI v10), (8, XI v10), (0, XR x0), (1, XI x1), (2, XI x2), (3, XI x3), (4, XI x4), (5, XI x5), (7, XI x7)]) dX9_preferredTo_65 (by decide) rfl ?_
          cases ht13
          exact g_sub [2, 3, 4, 5, 6, 7, 0, 8] rfl Kt13
set_option maxHeartbeats 8000000 in
set_option maxRecDepth 20000 in
theorem lX9_preferredTo_l5 {X : XC} {d : Nat} {Post : Option XV → Mem → Prop} {x0 : Nat} {x1 : Int} {x2 : Int} (hx0 : Sh x0 = (18, 69)) : ∀ (n : Nat) (x3 x4 : Int) (M : Mem) (t0 : Int × Int × Mem), fX9_preferredTo_l5 x0 x1 x2 n x3 x4 M = some t0 → Go X mX9_preferredTo (d + 2) 95 [(3, XI t0.1)] [] t0.2.2 Post → Go X mX9_preferredTo (d + 2) 5 [(0, XR x0), (1, XI x1), (2, XI x2), (3, XI x3), (4, XI x4)] [] M Post := by
  intro n
  induction n with
  | zero => intro _ _ _ _ h; cases h
  | succ n ih =>
    intro x3 x4 M t0 h K
    unfold fX9_preferredTo_l5 at h
    refine g_iload 4 dX9_preferredTo_5 rfl ?_
    refine g_aload_n 0 dX9_preferredTo_7 rfl ?_
    refine g_getI dX9_preferredTo_8 flX9_174 (by decide) rfl hx0 ?_
    refine g_icmp_ge (tgt := 95) dX9_preferredTo_11 (by decide) (fun b1 => ?_) (fun b1 => ?_)
    · replace h := ifp b1 h
      cases h
      exact g_sub [3] rfl K
    · replace h := ifn b1 h
      refine g_pc (pc' := 14) rfl ?_
      refine g_aload_n 0 dX9_preferredTo_14 rfl ?_
      refine g_getR dX9_preferredTo_15 flX9_19 (by decide) rfl hx0 ?_
      refine g_iload 4 dX9_preferredTo_18 rfl ?_
      obtain ⟨c2, h⟩ := chk_some h
      refine g_iald dX9_preferredTo_20 (sf_8_4 hx0) c2.1 c2.2 ?_
      refine g_nmI (fun v3 ev3 => ?_)
      replace h := nm_s ev3 h
      refine g_istore (ls' := [(5, XI v3), (0, XR x0), (1, XI x1), (2, XI x2), (3, XI x3), (4, XI x4)]) dX9_preferredTo_21 (by decide) rfl ?_
      refine g_iconst (v := -1) dX9_preferredTo_23 rfl (i32l rfl) ?_
      refine g_istore (ls' := [(6, XI (-1)), (5, XI v3), (0, XR x0), (1, XI x1), (2, XI x2), (3, XI x3), (4, XI x4)]) dX9_preferredTo_24 (by decide) rfl ?_
      refine g_iload 1 dX9_preferredTo_26 rfl ?_
      refine g_pc (pc' := 28) rfl ?_
      obtain ⟨q4, hq4, h⟩ := bnd_some h
      refine s_I (as := [XI v3]) dX9_preferredTo_28 mlX9_177 mdX9_lengthOf msX9_lengthOf rfl (Nat.le_of_ble_eq_true rfl) (kX9_lengthOf  hq4) rfl ?_
      refine g_iconst (v := 1) dX9_preferredTo_31 rfl (i32l rfl) ?_
      obtain ⟨c5, h⟩ := chk_some h
      refine g_isub dX9_preferredTo_32 rfl c5 ?_
      refine g_nmI (fun v6 ev6 => ?_)
      replace h := nm_s ev6 h
      refine g_istore (ls' := [(7, XI v6), (6, XI (-1)), (5, XI v3), (0, XR x0), (1, XI x1), (2, XI x2), (3, XI x3), (4, XI x4)]) dX9_preferredTo_33 (by decide) rfl ?_
      obtain ⟨z17, hz17, h⟩ := bnd_some h
      refine g_sub (ls' := [(0, XR x0), (1, XI x1), (2, XI x2), (3, XI x3), (4, XI x4), (5, XI v3), (6, XI (-1)), (7, XI v6)]) [3, 4, 5, 6, 7, 2, 1, 0] rfl ?_
      refine lX9_preferredTo_l35 hx0 1000 _ _ _ _ hz17 ?_
      refine g_iload 5 dX9_preferredTo_73 rfl ?_
      refine g_iload_n 1 dX9_preferredTo_75 rfl ?_
      obtain ⟨t22, ht22, h⟩ := bnd_some h
      have Kt22 : Go X mX9_preferredTo (d + 2) 89 [(0, XR x0), (1, XI x1), (2, XI x2), (3, XI t22), (4, XI x4)] [] z17.2.2 Post := by
        obtain ⟨c27, h⟩ := chk_some h
        refine g_iinc (ls' := [(4, XI (x4 + 1)), (0, XR x0), (1, XI x1), (2, XI x2), (3, XI t22)]) 4 dX9_preferredTo_89 rfl rfl c27 (by decide) rfl ?_
        refine g_goto (tgt := 5) dX9_preferredTo_92 (by decide) ?_
        exact g_sub [1, 2, 3, 4, 0] rfl (ih _ _ _ _ h K)
      refine g_icmp_ne (tgt := 89) dX9_preferredTo_76 (by decide) (fun b23 => ?_) (fun b23 => ?_)
      · replace ht22 := ifn b23 ht22
        cases ht22
        exact g_sub [0, 1, 2, 3, 4] rfl Kt22
      · replace ht22 := ifp b23 ht22
        refine g_pc (pc' := 79) rfl ?_
        refine g_iload_n 3 dX9_preferredTo_79 rfl ?_
        refine g_aload_n 0 dX9_preferredTo_80 rfl ?_
        refine g_getR dX9_preferredTo_81 flX9_22 (by decide) rfl hx0 ?_
        refine g_iload 4 dX9_preferredTo_84 rfl ?_
        obtain ⟨c24, ht22⟩ := chk_some ht22
        refine g_iald dX9_preferredTo_86 (sf_8_5 hx0) c24.1 c24.2 ?_
        obtain ⟨c25, ht22⟩ := chk_some ht22
        refine g_iadd dX9_preferredTo_87 rfl c25 ?_
        refine g_nmI (fun v26 ev26 => ?_)
        replace ht22 := nm_s ev26 ht22
        refine g_istore_n (ls' := [(3, XI v26), (0, XR x0), (1, XI x1), (2, XI x2), (4, XI x4), (6, XI z17.1)]) dX9_preferredTo_88 (by decide) rfl ?_
        cases ht22
        exact g_sub [1, 2, 3, 0, 4] rfl Kt22
set_option maxHeartbeats 8000000 in
set_option maxRecDepth 20000 in
theorem kX9_preferredTo {X : XC} {d : Nat} {x0 : Nat} {x1 : Int} {x2 : Int} (hx0 : Sh x0 = (18, 69)) {M : Mem} {q : Int × Mem} (h : fX9_preferredTo x0 x1 x2 M = some q) : Ct X mX9_preferredTo (d + 2) [XR x0, XI x1, XI x2] M (pI q) := by
  unfold fX9_preferredTo at h
  refine ct_go (by decide +kernel) (Nat.le_of_ble_eq_true rfl) (ls := [(0, XR x0), (1, XI x1), (2, XI x2)]) rfl ?_
  refine g_iconst (v := 0) dX9_preferredTo_0 rfl (i32l rfl) ?_
  refine g_istore_n (ls' := [(3, XI 0), (0, XR x0), (1, XI x1), (2, XI x2)]) dX9_preferredTo_1 (by decide) rfl ?_
  refine g_iconst (v := 0) dX9_preferredTo_2 rfl (i32l rfl) ?_
  refine g_istore (ls' := [(4, XI 0), (3, XI 0), (0, XR x0), (1, XI x1), (2, XI x2)]) dX9_preferredTo_3 (by decide) rfl ?_
  obtain ⟨z28, hz28, h⟩ := bnd_some h
  refine g_sub (ls' := [(0, XR x0), (1, XI x1), (2, XI x2), (3, XI 0), (4, XI 0)]) [2, 3, 4, 1, 0] rfl ?_
  refine lX9_preferredTo_l5 hx0 1000 _ _ _ _ hz28 ?_
  refine g_iload_n 0 dX9_preferredTo_95 rfl ?_
  cases h
  exact g_ireturn dX9_preferredTo_96 rfl ⟨rfl, rfl⟩
set_option maxHeartbeats 8000000 in
set_option maxRecDepth 20000 in
theorem kX9_preferred {X : XC} {d : Nat} {x0 : Nat} {x1 : Int} {x2 : Int} (hx0 : Sh x0 = (18, 69)) {M : Mem} {q : Int × Mem} (h : fX9_preferred x0 x1 x2 M = some q) : Ct X mX9_preferred (d + 3) [XR x0, XI x1, XI x2] M (pI q) := by
  unfold fX9_preferred at h
  refine ct_go (by decide +kernel) (Nat.le_of_ble_eq_true rfl) (ls := [(0, XR x0), (1, XI x1), (2, XI x2)]) rfl ?_
  refine g_aload_n 0 dX9_preferred_0 rfl ?_
  refine g_iload_n 1 dX9_preferred_1 rfl ?_
  refine g_iload_n 2 dX9_preferred_2 rfl ?_
  obtain ⟨q1, hq1, h⟩ := bnd_some h
  refine v_I (ci := 8) (as := [XI x1, XI x2]) dX9_preferred_3 mlX9_345 mdX9_isTwo mvX9_isTwo rfl hx0 rfl (Nat.le_of_ble_eq_true rfl) (kX9_isTwo hx0 hq1) rfl ?_
  obtain ⟨t4, ht4, h⟩ := bnd_some h
  have Kt4 : Go X mX9_preferred (d + 3) 19 [] [XI t4.1] t4.2 (pI q) := by
    cases h
    exact g_ireturn dX9_preferred_19 rfl ⟨rfl, rfl⟩
  refine g_if_eq (tgt := 18) dX9_preferred_6 (by decide) (fun b5 => ?_) (fun b5 => ?_)
  · replace ht4 := ifp b5 ht4
    refine g_iconst (v := -1) dX9_preferred_18 rfl (i32l rfl) ?_
    cases ht4
    exact g_sub [] rfl Kt4
  · replace ht4 := ifn b5 ht4
    refine g_pc (pc' := 9) rfl ?_
    refine g_aload_n 0 dX9_preferred_9 rfl ?_
    refine g_iload_n 1 dX9_preferred_10 rfl ?_
    refine g_iload_n 2 dX9_preferred_11 rfl ?_
    obtain ⟨q6, hq6, ht4⟩ := bnd_some ht4
    refine v_I (ci := 8) (as := [XI x1, XI x2]) dX9_preferred_12 mlX9_348 mdX9_preferredTo mvX9_preferredTo rfl hx0 rfl (Nat.le_of_ble_eq_true rfl) (kX9_preferredTo hx0 hq6) rfl ?_
    refine g_goto (tgt := 19) dX9_preferred_15 (by decide) ?_
    cases ht4
    exact g_sub [] rfl Kt4
set_option maxHeartbeats 8000000 in
set_option maxRecDepth 20000 in
theorem lX9_isBest_l17 {X : XC} {d : Nat} {Post : Option XV → Mem → Prop} {x0 : Nat} {x1 : Int} (hx0 : Sh x0 = (18, 69)) : ∀ (n : Nat) (x2 x3 : Int) (M : Mem) (t0 : Int × Int × Mem), fX9_isBest_l17 x0 x1 n x2 x3 M = some t0 → Go X mX9_isBest (d + 3) 70 [(2, XI t0.1)] [] t0.2.2 Post → Go X mX9_isBest (d + 3) 17 [(0, XR x0), (1, XI x1), (2, XI x2), (3, XI x3)] [] M Post := by
  intro n
  induction n with
  | zero => intro _ _ _ _ h; cases h
  | succ n ih =>
    intro x2 x3 M t0 h K
    unfold fX9_isBest_l17 at h
    refine g_iload_n 3 dX9_isBest_17 rfl ?_
    refine g_aload_n 0 dX9_isBest_18 rfl ?_
    refine g_getI dX9_isBest_19 flX9_167 (by decide) rfl hx0 ?_
    refine g_icmp_ge (tgt := 70) dX9_isBest_22 (by decide) (fun b5 => ?_) (fun b5 => ?_)
    · replace h := ifp b5 h
      cases h
      exact g_sub [2] rfl K
    · replace h := ifn b5 h
      refine g_pc (pc' := 25) rfl ?_
      refine g_iload_n 3 dX9_isBest_25 rfl ?_
      refine g_iload_n 1 dX9_isBest_26 rfl ?_
      obtain ⟨t19, ht19, h⟩ := bnd_some h
      have Kt19 : Go X mX9_isBest (d + 3) 64 [(0, XR x0), (1, XI x1), (2, XI t19.1), (3, XI x3)] [] t19.2 Post := by
        obtain ⟨c33, h⟩ := chk_some h
        refine g_iinc (ls' := [(3, XI (x3 + 1)), (0, XR x0), (1, XI x1), (2, XI t19.1)]) 3 dX9_isBest_64 rfl rfl c33 (by decide) rfl ?_
        refine g_goto (tgt := 17) dX9_isBest_67 (by decide) ?_
        exact g_sub [1, 2, 3, 0] rfl (ih _ _ _ _ h K)
      refine g_icmp_eq (tgt := 64) dX9_isBest_27 (by decide) (fun b20 => ?_) (fun b20 => ?_)
      · replace ht19 := ifp b20 ht19
        cases ht19
        exact g_sub [0, 1, 2, 3] rfl Kt19
      · replace ht19 := ifn b20 ht19
        refine g_pc (pc' := 30) rfl ?_
        refine g_aload_n 0 dX9_isBest_30 rfl ?_
        refine g_getR dX9_isBest_31 flX9_11 (by decide) rfl hx0 ?_
        refine g_iload_n 3 dX9_isBest_34 rfl ?_
        obtain ⟨c21, ht19⟩ := chk_some ht19
        refine g_zald dX9_isBest_35 (sf_8_2 hx0) c21.1 c21.2 ?_
        refine g_if_ne (tgt := 64) dX9_isBest_36 (by decide) (fun b22 => ?_) (fun b22 => ?_)
        · replace ht19 := ifn b22 ht19
          cases ht19
          exact g_sub [0, 1, 2, 3] rfl Kt19
        · replace ht19 := ifp b22 ht19
          refine g_pc (pc' := 39) rfl ?_
          refine g_iload_n 2 dX9_isBest_39 rfl ?_
          obtain ⟨t27, ht27, ht19⟩ := bnd_some ht19
          have Kt27 : Go X mX9_isBest (d + 3) 63 [(0, XR x0), (1, XI x1), (3, XI x3)] [XI t27.1] t27.2 Post := by
            refine g_nmI (fun v32 ev32 => ?_)
            replace ht19 := nm_s ev32 ht19
            refine g_istore_n (ls' := [(2, XI v32), (0, XR x0), (1, XI x1), (3, XI x3)]) dX9_isBest_63 (by decide) rfl ?_
            cases ht19
            exact g_sub [1, 2, 0, 3] rfl Kt19
          refine g_if_eq (tgt := 62) dX9_isBest_40 (by decide) (fun b28 => ?_) (fun b28 => ?_)
          · replace ht27 := ifp b28 ht27
            refine g_iconst (v := 0) dX9_isBest_62 rfl (i32l rfl) ?_
            cases ht27
            exact g_sub [0, 1, 3] rfl Kt27
          · replace ht27 := ifn b28 ht27
            refine g_pc (pc' := 43) rfl ?_
            refine g_aload_n 0 dX9_isBest_43 rfl ?_
            refine g_iload_n 1 dX9_isBest_44 rfl ?_
            refine g_iload_n 3 dX9_isBest_45 rfl ?_
            obtain ⟨q29, hq29, ht27⟩ := bnd_some ht27
            refine v_I (ci := 8) (as := [XI x1, XI x3]) dX9_isBest_46 mlX9_348 mdX9_preferredTo mvX9_preferredTo rfl hx0 rfl (Nat.le_of_ble_eq_true rfl) (kX9_preferredTo hx0 hq29) rfl ?_
            refine g_aload_n 0 dX9_isBest_49 rfl ?_
            refine g_iload_n 3 dX9_isBest_50 rfl ?_
            refine g_iload_n 1 dX9_isBest_51 rfl ?_
            obtain ⟨q30, hq30, ht27⟩ := bnd_some ht27
            refine v_I (ci := 8) (as := [XI x3, XI x1]) dX9_isBest_52 mlX9_348 mdX9_preferredTo mvX9_preferredTo rfl hx0 rfl (Nat.le_of_ble_eq_true rfl) (kX9_preferredTo hx0 hq30) rfl ?_
            refine g_pc (pc' := 55) rfl ?_
            refine g_icmp_le (tgt := 62) dX9_isBest_55 (by decide) (fun b31 => ?_) (fun b31 => ?_)
            · replace ht27 := ifp b31 ht27
              refine g_iconst (v := 0) dX9_isBest_62 rfl (i32l rfl) ?_
              cases ht27
              exact g_sub [0, 1, 3] rfl Kt27
            · replace ht27 := ifn b31 ht27
              refine g_pc (pc' := 58) rfl ?_
              refine g_iconst (v := 1) dX9_isBest_58 rfl (i32l rfl) ?_
              refine g_goto (tgt := 63) dX9_isBest_59 (by decide) ?_
              cases ht27
              exact g_sub [0, 1, 3] rfl Kt27
set_option maxHeartbeats 8000000 in
set_option maxRecDepth 20000 in
theorem kX9_isBest {X : XC} {d : Nat} {x0 : Nat} {x1 : Int} (hx0 : Sh x0 = (18, 69)) {M : Mem} {q : Int × Mem} (h : fX9_isBest x0 x1 M = some q) : Ct X mX9_isBest (d + 3) [XR x0, XI x1] M (pI q) := by
  unfold fX9_isBest at h
  refine ct_go (by decide +kernel) (Nat.le_of_ble_eq_true rfl) (ls := [(0, XR x0), (1, XI x1)]) rfl ?_
  refine g_aload_n 0 dX9_isBest_0 rfl ?_
  refine g_getR dX9_isBest_1 flX9_11 (by decide) rfl hx0 ?_
  refine g_iload_n 1 dX9_isBest_4 rfl ?_
  obtain ⟨c1, h⟩ := chk_some h
  refine g_zald dX9_isBest_5 (sf_8_2 hx0) c1.1 c1.2 ?_
  obtain ⟨t3, ht3, h⟩ := bnd_some h
  have Kt3 : Go X mX9_isBest (d + 3) 14 [(0, XR x0), (1, XI x1)] [XI t3] M (pI q) := by
    refine g_istore_n (ls' := [(2, XI t3), (0, XR x0), (1, XI x1)]) dX9_isBest_14 (by decide) rfl ?_
    refine g_iconst (v := 0) dX9_isBest_15 rfl (i32l rfl) ?_
    refine g_istore_n (ls' := [(3, XI 0), (2, XI t3), (0, XR x0), (1, XI x1)]) dX9_isBest_16 (by decide) rfl ?_
    obtain ⟨z34, hz34, h⟩ := bnd_some h
    refine g_sub (ls' := [(0, XR x0), (1, XI x1), (2, XI t3), (3, XI 0)]) [2, 3, 1, 0] rfl ?_
    refine lX9_isBest_l17 hx0 1000 _ _ _ _ hz34 ?_
    refine g_iload_n 0 dX9_isBest_70 rfl ?_
    obtain ⟨cz, h⟩ := chk_some h
    cases h
    exact g_zreturn dX9_isBest_71 rfl cz ⟨rfl, rfl⟩
  refine g_if_ne (tgt := 13) dX9_isBest_6 (by decide) (fun b4 => ?_) (fun b4 => ?_)
  · replace ht3 := ifn b4 ht3
    refine g_iconst (v := 0) dX9_isBest_13 rfl (i32l rfl) ?_
    cases ht3
    exact g_sub [0, 1] rfl Kt3
  · replace ht3 := ifp b4 ht3
    refine g_pc (pc' := 9) rfl ?_
    refine g_iconst (v := 1) dX9_isBest_9 rfl (i32l rfl) ?_
    refine g_goto (tgt := 14) dX9_isBest_10 (by decide) ?_
    cases ht3
    exact g_sub [0, 1] rfl Kt3
set_option maxHeartbeats 8000000 in
set_option maxRecDepth 20000 in
theorem lX9_best_l2 {X : XC} {d : Nat} {Post : Option XV → Mem → Prop} {x0 : Nat} (hx0 : Sh x0 = (18, 69)) : ∀ (n : Nat) (x1 : Int) (M : Mem) (z : (Int × Mem) ⊕ (Int × Mem)), fX9_best_l2 x0 n x1 M = some z → (∀ r, z = .inl r → Post (some (XI r.1)) r.2) → Go X mX9_best (d + 4) 2 [(0, XR x0), (1, XI x1)] [] M Post := by
  intro n
  induction n with
  | zero => intro _ _ _ h; cases h
  | succ n ih =>
    intro x1 M z h K1
    unfold fX9_best_l2 at h
    refine g_iload_n 1 dX9_best_2 rfl ?_
    refine g_aload_n 0 dX9_best_3 rfl ?_
    refine g_getI dX9_best_4 flX9_167 (by decide) rfl hx0 ?_
    refine g_icmp_ge (tgt := 26) dX9_best_7 (by decide) (fun b1 => ?_) (fun b1 => ?_)
    · replace h := ifp b1 h
      refine g_bip dX9_best_26 rfl ?_
      cases h
      exact g_ireturn dX9_best_28 rfl (K1 ((-5), M) rfl)
    · replace h := ifn b1 h
      refine g_pc (pc' := 10) rfl ?_
      refine g_aload_n 0 dX9_best_10 rfl ?_
      refine g_iload_n 1 dX9_best_11 rfl ?_
      obtain ⟨q2, hq2, h⟩ := bnd_some h
      refine v_I (ci := 8) (as := [XI x1]) dX9_best_12 mlX9_351 mdX9_isBest mvX9_isBest rfl hx0 rfl (Nat.le_of_ble_eq_true rfl) (kX9_isBest hx0 hq2) rfl ?_
      refine g_if_eq (tgt := 20) dX9_best_15 (by decide) (fun b3 => ?_) (fun b3 => ?_)
      · replace h := ifp b3 h
        obtain ⟨c4, h⟩ := chk_some h
        refine g_iinc (ls' := [(1, XI (x1 + 1)), (0, XR x0)]) 1 dX9_best_20 rfl rfl c4 (by decide) rfl ?_
        refine g_goto (tgt := 2) dX9_best_23 (by decide) ?_
        exact g_sub [1, 0] rfl (ih _ _ _ h K1)
      · replace h := ifn b3 h
        refine g_pc (pc' := 18) rfl ?_
        refine g_iload_n 1 dX9_best_18 rfl ?_
        cases h
        exact g_ireturn dX9_best_19 rfl (K1 (x1, q2.2) rfl)
set_option maxHeartbeats 8000000 in
set_option maxRecDepth 20000 in
theorem kX9_best {X : XC} {d : Nat} {x0 : Nat} (hx0 : Sh x0 = (18, 69)) {M : Mem} {q : Int × Mem} (h : fX9_best x0 M = some q) : Ct X mX9_best (d + 4) [XR x0] M (pI q) := by
  unfold fX9_best at h
  refine ct_go (by decide +kernel) (Nat.le_of_ble_eq_true rfl) (ls := [(0, XR x0)]) rfl ?_
  refine g_iconst (v := 0) dX9_best_0 rfl (i32l rfl) ?_
  refine g_istore_n (ls' := [(1, XI 0), (0, XR x0)]) dX9_best_1 (by decide) rfl ?_
  obtain ⟨z5, hz5, rz5, h⟩ := lr_some h
  refine g_sub (ls' := [(0, XR x0), (1, XI 0)]) [1, 0] rfl ?_
  refine lX9_best_l2 hx0 1000 _ _ _ hz5 (fun r e => ?_)
  have rz5 := rz5 r e
  subst rz5
  exact ⟨rfl, rfl⟩
set_option maxHeartbeats 8000000 in
set_option maxRecDepth 20000 in
theorem lX9_lowest_l6 {X : XC} {d : Nat} {Post : Option XV → Mem → Prop} {x0 : Int} {x2 : Int} {x4 : Int}  : ∀ (n : Nat) (x5 x7 : Int) (M : Mem) (t0 : Int × Int × Mem), fX9_lowest_l6 x0 x2 x4 n x5 x7 M = some t0 → Go X mX9_lowest d 31 [(0, XL x0), (2, XL x2), (4, XI x4), (5, XL t0.1)] [] t0.2.2 Post → Go X mX9_lowest d 6 [(0, XL x0), (2, XL x2), (4, XI x4), (5, XL x5), (7, XL x7)] [] M Post := by
  intro n
  induction n with
  | zero => intro _ _ _ _ h; cases h
  | succ n ih =>
    intro x5 x7 M t0 h K
    unfold fX9_lowest_l6 at h
    refine g_lload 4 dX9_lowest_6 rfl ?_
    refine g_lconst (v := 0) dX9_lowest_8 rfl (i64l rfl) ?_
    refine g_lcmp_eq (tgt := 31) dX9_lowest_9 dX9_lowest_10 (by decide) (fun b1 => ?_) (fun b1 => ?_)
    · replace h := ifp b1 h
      cases h
      exact g_sub [0, 1, 2, 3] rfl K
    · replace h := ifn b1 h
      refine g_pc (pc' := 13) rfl ?_
      refine g_lload 3 dX9_lowest_13 rfl ?_
      refine g_lload 4 dX9_lowest_15 rfl ?_
      obtain ⟨c2, h⟩ := chk_some h
      refine g_lrem dX9_lowest_17 c2.1 c2.2 rfl ?_
      refine g_nmL (fun v3 ev3 => ?_)
      replace h := nm_s ev3 h
      refine g_lstore (ls' := [(9, XL v3), (0, XL x0), (2, XL x2), (4, XI x4), (5, XL x5), (7, XL x7)]) dX9_lowest_18 (by decide) rfl ?_
      refine g_lload 5 dX9_lowest_20 rfl ?_
      refine g_lstore (ls' := [(5, XL x7), (9, XL v3), (0, XL x0), (2, XL x2), (4, XI x4), (7, XL x7)]) dX9_lowest_22 (by decide) rfl ?_
      refine g_lload 1 dX9_lowest_24 rfl ?_
      refine g_lstore (ls' := [(7, XL v3), (5, XL x7), (9, XL v3), (0, XL x0), (2, XL x2), (4, XI x4)]) dX9_lowest_26 (by decide) rfl ?_
      refine g_pc (pc' := 28) rfl ?_
      refine g_goto (tgt := 6) dX9_lowest_28 (by decide) ?_
      exact g_sub [3, 4, 5, 1, 0] rfl (ih _ _ _ _ h K)
set_option maxHeartbeats 8000000 in
set_option maxRecDepth 20000 in
theorem kX9_lowest {X : XC} {d : Nat} {x0 : Int} {x2 : Int} {x4 : Int}  {M : Mem} {q : Int × Mem} (h : fX9_lowest x0 x2 x4 M = some q) : Ct X mX9_lowest d [XL x0, XL x2, XI x4] M (pJ q) := by
  unfold fX9_lowest at h
  refine ct_go (by decide +kernel) (Nat.le_of_ble_eq_true rfl) (ls := [(0, XL x0), (2, XL x2), (4, XI x4)]) rfl ?_
  refine g_lload_n 0 dX9_lowest_0 rfl ?_
  refine g_lstore (ls' := [(5, XL x0), (0, XL x0), (2, XL x2), (4, XI x4)]) dX9_lowest_1 (by decide) rfl ?_
  refine g_lload_n 2 dX9_lowest_3 rfl ?_
  refine g_lstore (ls' := [(7, XL x2), (5, XL x0), (0, XL x0), (2, XL x2), (4, XI x4)]) dX9_lowest_4 (by decide) rfl ?_
  obtain ⟨z4, hz4, h⟩ := bnd_some h
  refine g_sub (ls' := [(0, XL x0), (2, XL x2), (4, XI x4), (5, XL x0), (7, XL x2)]) [2, 3, 4, 1, 0] rfl ?_
  refine lX9_lowest_l6  1000 _ _ _ _ hz4 ?_
  refine g_iload 2 dX9_lowest_31 rfl ?_
  obtain ⟨t6, ht6, h⟩ := bnd_some h
  have Kt6 : Go X mX9_lowest d 41 [(5, XL z4.1)] [XL t6] z4.2.2 (pJ q) := by
    refine g_lload 0 dX9_lowest_41 rfl ?_
    obtain ⟨c8, h⟩ := chk_some h
    refine g_ldiv dX9_lowest_43 c8.1 c8.2 rfl ?_
    cases h
    exact g_lreturn dX9_lowest_44 rfl ⟨rfl, rfl⟩
  refine g_if_ne (tgt := 40) dX9_lowest_33 (by decide) (fun b7 => ?_) (fun b7 => ?_)
  · replace ht6 := ifn b7 ht6
    refine g_lload_n 1 dX9_lowest_40 rfl ?_
    cases ht6
    exact g_sub [3] rfl Kt6
  · replace ht6 := ifp b7 ht6
    refine g_pc (pc' := 36) rfl ?_
    refine g_lload_n 0 dX9_lowest_36 rfl ?_
    refine g_goto (tgt := 41) dX9_lowest_37 (by decide) ?_
    cases ht6
    exact g_sub [3] rfl Kt6
set_option maxHeartbeats 8000000 in
set_option maxRecDepth 20000 in
theorem kX9_share {X : XC} {d : Nat} {x0 : Nat} {x1 : Int} {x2 : Int} {x3 : Int} (hx0 : Sh x0 = (18, 69)) {M : Mem} {q : Int × Mem} (h : fX9_share x0 x1 x2 x3 M = some q) : Ct X mX9_share (d + 7) [XR x0, XI x1, XI x2, XI x3] M (pJ q) := by
  unfold fX9_share at h
  refine ct_go (by decide +kernel) (Nat.le_of_ble_eq_true rfl) (ls := [(0, XR x0), (1, XI x1), (2, XI x2), (3, XI x3)]) rfl ?_
  refine g_aload_n 0 dX9_share_0 rfl ?_
  refine g_iload_n 1 dX9_share_1 rfl ?_
  obtain ⟨q1, hq1, h⟩ := bnd_some h
  refine v_I (ci := 8) (as := [XI x1]) dX9_share_2 mlX9_323 mdX9_isStage mvX9_isStage rfl hx0 rfl (Nat.le_of_ble_eq_true rfl) (kX9_isStage hx0 hq1) rfl ?_
  refine g_if_eq (tgt := 26) dX9_share_5 (by decide) (fun b2 => ?_) (fun b2 => ?_)
  · replace h := ifp b2 h
    refine g_ldc2 (v := -9223372036854775808) dX9_share_26 csX9_326 (by decide +kernel) (i64l rfl) ?_
    cases h
    exact g_lreturn dX9_share_29 rfl ⟨rfl, rfl⟩
  · replace h := ifn b2 h
    refine g_pc (pc' := 8) rfl ?_
    refine g_aload_n 0 dX9_share_8 rfl ?_
    refine g_iload_n 2 dX9_share_9 rfl ?_
    obtain ⟨q3, hq3, h⟩ := bnd_some h
    refine v_I (ci := 8) (as := [XI x2]) dX9_share_10 mlX9_211 mdX9_isOne mvX9_isOne rfl hx0 rfl (Nat.le_of_ble_eq_true rfl) (kX9_isOne hx0 hq3) rfl ?_
    refine g_if_eq (tgt := 26) dX9_share_13 (by decide) (fun b4 => ?_) (fun b4 => ?_)
    · replace h := ifp b4 h
      refine g_ldc2 (v := -9223372036854775808) dX9_share_26 csX9_326 (by decide +kernel) (i64l rfl) ?_
      cases h
      exact g_lreturn dX9_share_29 rfl ⟨rfl, rfl⟩
    · replace h := ifn b4 h
      refine g_pc (pc' := 16) rfl ?_
      refine g_iload_n 3 dX9_share_16 rfl ?_
      refine g_i2l dX9_share_17 ?_
      refine g_lconst (v := 0) dX9_share_18 rfl (i64l rfl) ?_
      refine g_lconst (v := 1) dX9_share_19 rfl (i64l rfl) ?_
      obtain ⟨q5, hq5, h⟩ := bnd_some h
      refine s_I (as := [XL x3, XL 0, XL 1]) dX9_share_20 mlX9_170 mdX9_in msX9_in rfl (Nat.le_of_ble_eq_true rfl) (kX9_in  hq5) rfl ?_
      refine g_if_ne (tgt := 30) dX9_share_23 (by decide) (fun b6 => ?_) (fun b6 => ?_)
      · replace h := ifn b6 h
        refine g_aload_n 0 dX9_share_30 rfl ?_
        refine g_getR dX9_share_31 flX9_90 (by decide) rfl hx0 ?_
        refine g_iload_n 1 dX9_share_34 rfl ?_
        obtain ⟨c7, h⟩ := chk_some h
        refine g_lald dX9_share_35 (sf_8_37 hx0) c7.1 c7.2 ?_
        refine g_lconst (v := 0) dX9_share_36 rfl (i64l rfl) ?_
        refine g_lcmp_ne (tgt := 44) dX9_share_37 dX9_share_38 (by decide) (fun b8 => ?_) (fun b8 => ?_)
        · replace h := ifn b8 h
          refine g_aload_n 0 dX9_share_44 rfl ?_
          refine g_getR dX9_share_45 flX9_78 (by decide) rfl hx0 ?_
          refine g_bip dX9_share_48 rfl ?_
          refine g_iload_n 1 dX9_share_50 rfl ?_
          obtain ⟨c9, h⟩ := chk_some h
          refine g_imul dX9_share_51 rfl c9 ?_
          refine g_iload_n 2 dX9_share_52 rfl ?_
          obtain ⟨c10, h⟩ := chk_some h
          refine g_iadd dX9_share_53 rfl c10 ?_
          obtain ⟨c11, h⟩ := chk_some h
          refine g_lald dX9_share_54 (sf_8_33 hx0) c11.1 c11.2 ?_
          refine g_pc (pc' := 55) rfl ?_
          refine g_aload_n 0 dX9_share_55 rfl ?_
          refine g_getR dX9_share_56 flX9_90 (by decide) rfl hx0 ?_
          refine g_iload_n 1 dX9_share_59 rfl ?_
          obtain ⟨c12, h⟩ := chk_some h
          refine g_lald dX9_share_60 (sf_8_37 hx0) c12.1 c12.2 ?_
          refine g_iload_n 3 dX9_share_61 rfl ?_
          obtain ⟨q13, hq13, h⟩ := bnd_some h
          refine s_J (as := [XL (q5.2 (x0 + 34) (Int.toNat ((8 * x1) + x2))), XL (q5.2 (x0 + 38) (Int.toNat x1)), XI x3]) dX9_share_62 mlX9_354 mdX9_lowest msX9_lowest rfl (Nat.le_of_ble_eq_true rfl) (kX9_lowest  hq13) rfl ?_
          cases h
          exact g_lreturn dX9_share_65 rfl ⟨rfl, rfl⟩
        · replace h := ifp b8 h
          refine g_pc (pc' := 41) rfl ?_
          refine g_iload_n 3 dX9_share_41 rfl ?_
          refine g_i2l dX9_share_42 ?_
          cases h
          exact g_lreturn dX9_share_43 rfl ⟨rfl, rfl⟩
      · replace h := ifp b6 h
        refine g_pc (pc' := 26) rfl ?_
        refine g_ldc2 (v := -9223372036854775808) dX9_share_26 csX9_326 (by decide +kernel) (i64l rfl) ?_
        cases h
        exact g_lreturn dX9_share_29 rfl ⟨rfl, rfl⟩
set_option maxHeartbeats 8000000 in
set_option maxRecDepth 20000 in
theorem kX9_without {X : XC} {d : Nat} {x0 : Nat} {x1 : Int} (hx0 : Sh x0 = (18, 69)) {M : Mem} {q : Int × Mem} (h : fX9_without x0 x1 M = some q) : Ct X mX9_without (d + 7) [XR x0, XI x1] M (pI q) := by
  unfold fX9_without at h
  refine ct_go (by decide +kernel) (Nat.le_of_ble_eq_true rfl) (ls := [(0, XR x0), (1, XI x1)]) rfl ?_
  refine g_aload_n 0 dX9_without_0 rfl ?_
  refine g_iload_n 1 dX9_without_1 rfl ?_
  obtain ⟨q1, hq1, h⟩ := bnd_some h
  refine v_I (ci := 8) (as := [XI x1]) dX9_without_2 mlX9_211 mdX9_isOne mvX9_isOne rfl hx0 rfl (Nat.le_of_ble_eq_true rfl) (kX9_isOne hx0 hq1) rfl ?_
  refine g_if_ne (tgt := 10) dX9_without_5 (by decide) (fun b2 => ?_) (fun b2 => ?_)
  · replace h := ifn b2 h
    refine g_aload_n 0 dX9_without_10 rfl ?_
    refine g_getR dX9_without_11 flX9_11 (by decide) rfl hx0 ?_
    refine g_iload_n 1 dX9_without_14 rfl ?_
    obtain ⟨c3, h⟩ := chk_some h
    refine g_zald dX9_without_15 (sf_8_2 hx0) c3.1 c3.2 ?_
    refine g_nmI (fun v4 ev4 => ?_)
    replace h := nm_s ev4 h
    refine g_istore_n (ls' := [(2, XI v4), (0, XR x0), (1, XI x1)]) dX9_without_16 (by decide) rfl ?_
    refine g_aload_n 1 dX9_without_17 rfl ?_
    refine g_getR dX9_without_18 flX9_11 (by decide) rfl hx0 ?_
    refine g_iload_n 2 dX9_without_21 rfl ?_
    refine g_pc (pc' := 22) rfl ?_
    refine g_iconst (v := 1) dX9_without_22 rfl (i32l rfl) ?_
    obtain ⟨c5, h⟩ := chk_some h
    refine g_zast dX9_without_23 (sf_8_2 hx0) c5.1 c5.2 (by decide) ?_
    refine g_nmM (fun M6 eM6 => ?_)
    replace h := nm_s eM6 h
    refine g_aload_n 1 dX9_without_24 rfl ?_
    obtain ⟨q7, hq7, h⟩ := bnd_some h
    refine v_I (ci := 8) (as := []) dX9_without_25 mlX9_320 mdX9_electedSet mvX9_electedSet rfl hx0 rfl (Nat.le_of_ble_eq_true rfl) (kX9_electedSet hx0 hq7) rfl ?_
    refine g_nmI (fun v8 ev8 => ?_)
    replace h := nm_s ev8 h
    refine g_istore_n (ls' := [(3, XI v8), (2, XI v4), (0, XR x0), (1, XI x1)]) dX9_without_28 (by decide) rfl ?_
    refine g_aload_n 2 dX9_without_29 rfl ?_
    refine g_getR dX9_without_30 flX9_11 (by decide) rfl hx0 ?_
    refine g_iload_n 3 dX9_without_33 rfl ?_
    refine g_iload_n 1 dX9_without_34 rfl ?_
    refine g_pc (pc' := 35) rfl ?_
    obtain ⟨c9, h⟩ := chk_some h
    obtain ⟨c10, h⟩ := chk_some h
    refine g_zast dX9_without_35 (sf_8_2 hx0) c9.1 c9.2 c10 ?_
    refine g_nmM (fun M11 eM11 => ?_)
    replace h := nm_s eM11 h
    refine g_iload_n 0 dX9_without_36 rfl ?_
    cases h
    exact g_ireturn dX9_without_37 rfl ⟨rfl, rfl⟩
  · replace h := ifp b2 h
    refine g_pc (pc' := 8) rfl ?_
    refine g_iconst (v := -1) dX9_without_8 rfl (i32l rfl) ?_
    cases h
    exact g_ireturn dX9_without_9 rfl ⟨rfl, rfl⟩
end
