section
set_option maxHeartbeats 8000000 in
set_option maxRecDepth 20000 in
theorem lX6_faultToldTo_l12 {X : XC} {d : Nat} {Post : Option XV → Mem → Prop} {x0 : Nat} {x1 : Nat} (hx0 : Sh x0 = (15, 8)) (hx1 : Sh x1 = (16, 3)) : ∀ (n : Nat) (x2 : Int) (M : Mem) (z : (Int × Mem) ⊕ (Int × Mem)), fX6_faultToldTo_l12 x0 x1 n x2 M = some z → (∀ r, z = .inl r → Post (some (XI r.1)) r.2) → Go X mX6_faultToldTo (d + 4) 12 [(0, XR x0), (1, XR x1), (2, XI x2)] [] M Post := by
  intro n
  induction n with
  | zero => intro _ _ _ h; cases h
  | succ n ih =>
    intro x2 M z h K1
    unfold fX6_faultToldTo_l12 at h
    refine g_iload_n 2 dX6_faultToldTo_12 rfl ?_
    refine g_bip dX6_faultToldTo_13 rfl ?_
    refine g_icmp_ge (tgt := 140) dX6_faultToldTo_15 (by decide) (fun b3 => ?_) (fun b3 => ?_)
    · replace h := ifp b3 h
      refine g_aload_n 1 dX6_faultToldTo_140 rfl ?_
      refine g_iconst (v := 1) dX6_faultToldTo_141 rfl (i32l rfl) ?_
      refine g_aload_n 0 dX6_faultToldTo_142 rfl ?_
      refine g_getI dX6_faultToldTo_143 flX6_19 (by decide) rfl hx0 ?_
      obtain ⟨q4, hq4, h⟩ := bnd_some h
      refine v_V (ci := 6) (as := [XI 1, XI (M x0 2)]) dX6_faultToldTo_146 mlX6_42 mdX7_begin mvX7_begin rfl hx1 rfl (Nat.le_of_ble_eq_true rfl) (kX7_begin hx1 hq4) rfl ?_
      refine g_aload_n 1 dX6_faultToldTo_149 rfl ?_
      refine g_iconst (v := 4) dX6_faultToldTo_150 rfl (i32l rfl) ?_
      refine g_aload_n 0 dX6_faultToldTo_151 rfl ?_
      refine g_pc (pc' := 152) rfl ?_
      obtain ⟨q5, hq5, h⟩ := bnd_some h
      refine v_I (ci := 5) (as := []) dX6_faultToldTo_152 mlX6_51 mdX6_sign mvX6_sign rfl hx0 rfl (Nat.le_of_ble_eq_true rfl) (kX6_sign hx0 hq5) rfl ?_
      obtain ⟨q6, hq6, h⟩ := bnd_some h
      refine v_V (ci := 6) (as := [XI 4, XI q5.1]) dX6_faultToldTo_155 mlX6_48 mdX7_addCause mvX7_addCause rfl hx1 rfl (Nat.le_of_ble_eq_true rfl) (kX7_addCause hx1 hq6) rfl ?_
      refine g_aload_n 0 dX6_faultToldTo_158 rfl ?_
      refine g_getI dX6_faultToldTo_159 flX6_31 (by decide) rfl hx0 ?_
      cases h
      exact g_ireturn dX6_faultToldTo_162 rfl (K1 ((q6.2 x0 6), q6.2) rfl)
    · replace h := ifn b3 h
      refine g_pc (pc' := 18) rfl ?_
      refine g_aload_n 0 dX6_faultToldTo_18 rfl ?_
      refine g_getI dX6_faultToldTo_19 flX6_31 (by decide) rfl hx0 ?_
      refine g_nmI (fun v7 ev7 => ?_)
      replace h := nm_s ev7 h
      refine g_istore_n (ls' := [(3, XI v7), (0, XR x0), (1, XR x1), (2, XI x2)]) dX6_faultToldTo_22 (by decide) rfl ?_
      refine g_aload_n 1 dX6_faultToldTo_23 rfl ?_
      refine g_iload_n 3 dX6_faultToldTo_24 rfl ?_
      obtain ⟨q8, hq8, h⟩ := bnd_some h
      refine v_I (ci := 5) (as := [XI x2]) dX6_faultToldTo_25 mlX6_38 mdX6_readsClause mvX6_readsClause rfl hx0 rfl (Nat.le_of_ble_eq_true rfl) (kX6_readsClause hx0 hq8) rfl ?_
      refine g_if_ne (tgt := 79) dX6_faultToldTo_28 (by decide) (fun b9 => ?_) (fun b9 => ?_)
      · replace h := ifn b9 h
        refine g_aload_n 1 dX6_faultToldTo_79 rfl ?_
        refine g_dupR dX6_faultToldTo_80 ?_
        refine g_getI dX6_faultToldTo_81 flX6_19 (by decide) rfl hx0 ?_
        refine g_iconst (v := 1) dX6_faultToldTo_84 rfl (i32l rfl) ?_
        obtain ⟨c10, h⟩ := chk_some h
        refine g_iadd dX6_faultToldTo_85 rfl c10 ?_
        refine g_putI dX6_faultToldTo_86 flX6_19 (by decide) rfl hx0 ?_
        refine g_nmM (fun M11 eM11 => ?_)
        replace h := nm_s eM11 h
        refine g_aload_n 1 dX6_faultToldTo_89 rfl ?_
        refine g_getI dX6_faultToldTo_90 flX6_31 (by decide) rfl hx0 ?_
        refine g_pc (pc' := 93) rfl ?_
        refine g_aload_n 1 dX6_faultToldTo_93 rfl ?_
        refine g_getI dX6_faultToldTo_94 flX6_9 (by decide) rfl hx0 ?_
        refine g_icmp_lt (tgt := 103) dX6_faultToldTo_97 (by decide) (fun b12 => ?_) (fun b12 => ?_)
        · replace h := ifp b12 h
          refine g_aload_n 1 dX6_faultToldTo_103 rfl ?_
          obtain ⟨q13, hq13, h⟩ := bnd_some h
          refine v_I (ci := 5) (as := []) dX6_faultToldTo_104 mlX6_51 mdX6_sign mvX6_sign rfl hx0 rfl (Nat.le_of_ble_eq_true rfl) (kX6_sign hx0 hq13) rfl ?_
          refine g_bip dX6_faultToldTo_107 rfl ?_
          refine g_icmp_ne (tgt := 140) dX6_faultToldTo_109 (by decide) (fun b14 => ?_) (fun b14 => ?_)
          · replace h := ifn b14 h
            refine g_aload_n 2 dX6_faultToldTo_140 rfl ?_
            refine g_iconst (v := 1) dX6_faultToldTo_141 rfl (i32l rfl) ?_
            refine g_aload_n 1 dX6_faultToldTo_142 rfl ?_
            refine g_getI dX6_faultToldTo_143 flX6_19 (by decide) rfl hx0 ?_
            obtain ⟨q15, hq15, h⟩ := bnd_some h
            refine v_V (ci := 6) (as := [XI 1, XI (q13.2 x0 2)]) dX6_faultToldTo_146 mlX6_42 mdX7_begin mvX7_begin rfl hx1 rfl (Nat.le_of_ble_eq_true rfl) (kX7_begin hx1 hq15) rfl ?_
            refine g_aload_n 2 dX6_faultToldTo_149 rfl ?_
            refine g_iconst (v := 4) dX6_faultToldTo_150 rfl (i32l rfl) ?_
            refine g_aload_n 1 dX6_faultToldTo_151 rfl ?_
            refine g_pc (pc' := 152) rfl ?_
            obtain ⟨q16, hq16, h⟩ := bnd_some h
            refine v_I (ci := 5) (as := []) dX6_faultToldTo_152 mlX6_51 mdX6_sign mvX6_sign rfl hx0 rfl (Nat.le_of_ble_eq_true rfl) (kX6_sign hx0 hq16) rfl ?_
            obtain ⟨q17, hq17, h⟩ := bnd_some h
            refine v_V (ci := 6) (as := [XI 4, XI q16.1]) dX6_faultToldTo_155 mlX6_48 mdX7_addCause mvX7_addCause rfl hx1 rfl (Nat.le_of_ble_eq_true rfl) (kX7_addCause hx1 hq17) rfl ?_
            refine g_aload_n 1 dX6_faultToldTo_158 rfl ?_
            refine g_getI dX6_faultToldTo_159 flX6_31 (by decide) rfl hx0 ?_
            cases h
            exact g_ireturn dX6_faultToldTo_162 rfl (K1 ((q17.2 x0 6), q17.2) rfl)
          · replace h := ifp b14 h
            refine g_pc (pc' := 112) rfl ?_
            refine g_aload_n 1 dX6_faultToldTo_112 rfl ?_
            refine g_getI dX6_faultToldTo_113 flX6_19 (by decide) rfl hx0 ?_
            refine g_bip dX6_faultToldTo_116 rfl ?_
            refine g_icmp_ne (tgt := 124) dX6_faultToldTo_118 (by decide) (fun b18 => ?_) (fun b18 => ?_)
            · replace h := ifn b18 h
              refine g_aload_n 1 dX6_faultToldTo_124 rfl ?_
              refine g_dupR dX6_faultToldTo_125 ?_
              refine g_getI dX6_faultToldTo_126 flX6_31 (by decide) rfl hx0 ?_
              refine g_iconst (v := 1) dX6_faultToldTo_129 rfl (i32l rfl) ?_
              obtain ⟨c19, h⟩ := chk_some h
              refine g_iadd dX6_faultToldTo_130 rfl c19 ?_
              refine g_putI dX6_faultToldTo_131 flX6_31 (by decide) rfl hx0 ?_
              refine g_nmM (fun M20 eM20 => ?_)
              replace h := nm_s eM20 h
              obtain ⟨c21, h⟩ := chk_some h
              refine g_iinc (ls' := [(2, XI (x2 + 1)), (3, XI v7), (0, XR x0), (1, XR x1)]) 3 dX6_faultToldTo_134 rfl rfl c21 (by decide) rfl ?_
              refine g_goto (tgt := 12) dX6_faultToldTo_137 (by decide) ?_
              exact g_sub [2, 3, 0] rfl (ih _ _ _ h K1)
            · replace h := ifp b18 h
              refine g_pc (pc' := 121) rfl ?_
              refine g_goto (tgt := 140) dX6_faultToldTo_121 (by decide) ?_
              refine g_aload_n 2 dX6_faultToldTo_140 rfl ?_
              refine g_iconst (v := 1) dX6_faultToldTo_141 rfl (i32l rfl) ?_
              refine g_aload_n 1 dX6_faultToldTo_142 rfl ?_
              refine g_getI dX6_faultToldTo_143 flX6_19 (by decide) rfl hx0 ?_
              obtain ⟨q22, hq22, h⟩ := bnd_some h
              refine v_V (ci := 6) (as := [XI 1, XI (q13.2 x0 2)]) dX6_faultToldTo_146 mlX6_42 mdX7_begin mvX7_begin rfl hx1 rfl (Nat.le_of_ble_eq_true rfl) (kX7_begin hx1 hq22) rfl ?_
              refine g_aload_n 2 dX6_faultToldTo_149 rfl ?_
              refine g_iconst (v := 4) dX6_faultToldTo_150 rfl (i32l rfl) ?_
              refine g_aload_n 1 dX6_faultToldTo_151 rfl ?_
              refine g_pc (pc' := 152) rfl ?_
              obtain ⟨q23, hq23, h⟩ := bnd_some h
              refine v_I (ci := 5) (as := []) dX6_faultToldTo_152 mlX6_51 mdX6_sign mvX6_sign rfl hx0 rfl (Nat.le_of_ble_eq_true rfl) (kX6_sign hx0 hq23) rfl ?_
              obtain ⟨q24, hq24, h⟩ := bnd_some h
              refine v_V (ci := 6) (as := [XI 4, XI q23.1]) dX6_faultToldTo_155 mlX6_48 mdX7_addCause mvX7_addCause rfl hx1 rfl (Nat.le_of_ble_eq_true rfl) (kX7_addCause hx1 hq24) rfl ?_
              refine g_aload_n 1 dX6_faultToldTo_158 rfl ?_
              refine g_getI dX6_faultToldTo_159 flX6_31 (by decide) rfl hx0 ?_
              cases h
              exact g_ireturn dX6_faultToldTo_162 rfl (K1 ((q24.2 x0 6), q24.2) rfl)
        · replace h := ifn b12 h
          refine g_pc (pc' := 100) rfl ?_
          refine g_bip dX6_faultToldTo_100 rfl ?_
          cases h
          exact g_ireturn dX6_faultToldTo_102 rfl (K1 ((-5), M11) rfl)
      · replace h := ifp b9 h
        refine g_pc (pc' := 31) rfl ?_
        refine g_aload_n 2 dX6_faultToldTo_31 rfl ?_
        refine g_iconst (v := 1) dX6_faultToldTo_32 rfl (i32l rfl) ?_
        refine g_aload_n 1 dX6_faultToldTo_33 rfl ?_
        refine g_getI dX6_faultToldTo_34 flX6_19 (by decide) rfl hx0 ?_
        obtain ⟨q25, hq25, h⟩ := bnd_some h
        refine v_V (ci := 6) (as := [XI 1, XI (q8.2 x0 2)]) dX6_faultToldTo_37 mlX6_42 mdX7_begin mvX7_begin rfl hx1 rfl (Nat.le_of_ble_eq_true rfl) (kX7_begin hx1 hq25) rfl ?_
        refine g_aload_n 2 dX6_faultToldTo_40 rfl ?_
        refine g_iconst (v := 2) dX6_faultToldTo_41 rfl (i32l rfl) ?_
        refine g_iload_n 0 dX6_faultToldTo_42 rfl ?_
        refine g_pc (pc' := 43) rfl ?_
        obtain ⟨q26, hq26, h⟩ := bnd_some h
        refine v_V (ci := 6) (as := [XI 2, XI v7]) dX6_faultToldTo_43 mlX6_48 mdX7_addCause mvX7_addCause rfl hx1 rfl (Nat.le_of_ble_eq_true rfl) (kX7_addCause hx1 hq26) rfl ?_
        refine g_aload_n 1 dX6_faultToldTo_46 rfl ?_
        refine g_getZ dX6_faultToldTo_47 flX6_34 (by decide) rfl hx0 ?_
        obtain ⟨t31, ht31, h⟩ := bnd_some h
        have Kt31 : Go X mX6_faultToldTo (d + 4) 74 [(0, XR x0)] [] t31 Post := by
          refine g_aload_n 0 dX6_faultToldTo_74 rfl ?_
          refine g_getI dX6_faultToldTo_75 flX6_31 (by decide) rfl hx0 ?_
          cases h
          exact g_ireturn dX6_faultToldTo_78 rfl (K1 ((t31 x0 6), t31) rfl)
        refine g_if_eq (tgt := 65) dX6_faultToldTo_50 (by decide) (fun b32 => ?_) (fun b32 => ?_)
        · replace ht31 := ifp b32 ht31
          refine g_aload_n 2 dX6_faultToldTo_65 rfl ?_
          refine g_iconst (v := 4) dX6_faultToldTo_66 rfl (i32l rfl) ?_
          refine g_aload_n 1 dX6_faultToldTo_67 rfl ?_
          obtain ⟨q33, hq33, ht31⟩ := bnd_some ht31
          refine v_I (ci := 5) (as := []) dX6_faultToldTo_68 mlX6_51 mdX6_sign mvX6_sign rfl hx0 rfl (Nat.le_of_ble_eq_true rfl) (kX6_sign hx0 hq33) rfl ?_
          obtain ⟨q34, hq34, ht31⟩ := bnd_some ht31
          refine v_V (ci := 6) (as := [XI 4, XI q33.1]) dX6_faultToldTo_71 mlX6_48 mdX7_addCause mvX7_addCause rfl hx1 rfl (Nat.le_of_ble_eq_true rfl) (kX7_addCause hx1 hq34) rfl ?_
          cases ht31
          exact g_sub [1] rfl Kt31
        · replace ht31 := ifn b32 ht31
          refine g_pc (pc' := 53) rfl ?_
          refine g_aload_n 2 dX6_faultToldTo_53 rfl ?_
          refine g_iconst (v := 3) dX6_faultToldTo_54 rfl (i32l rfl) ?_
          refine g_aload_n 1 dX6_faultToldTo_55 rfl ?_
          refine g_getI dX6_faultToldTo_56 flX6_31 (by decide) rfl hx0 ?_
          obtain ⟨q35, hq35, ht31⟩ := bnd_some ht31
          refine v_V (ci := 6) (as := [XI 3, XI (q26.2 x0 6)]) dX6_faultToldTo_59 mlX6_48 mdX7_addCause mvX7_addCause rfl hx1 rfl (Nat.le_of_ble_eq_true rfl) (kX7_addCause hx1 hq35) rfl ?_
          refine g_goto (tgt := 74) dX6_faultToldTo_62 (by decide) ?_
          cases ht31
          exact g_sub [1] rfl Kt31
set_option maxHeartbeats 8000000 in
set_option maxRecDepth 20000 in
theorem kX6_faultToldTo {X : XC} {d : Nat} {x0 : Nat} {x1 : Nat} (hx0 : Sh x0 = (15, 8)) (hx1 : Sh x1 = (16, 3)) {M : Mem} {q : Int × Mem} (h : fX6_faultToldTo x0 x1 M = some q) : Ct X mX6_faultToldTo (d + 4) [XR x0, XR x1] M (pI q) := by
  unfold fX6_faultToldTo at h
  refine ct_go (by decide +kernel) (Nat.le_of_ble_eq_true rfl) (ls := [(0, XR x0), (1, XR x1)]) rfl ?_
  refine g_aload_n 0 dX6_faultToldTo_0 rfl ?_
  refine g_iconst (v := 0) dX6_faultToldTo_1 rfl (i32l rfl) ?_
  refine g_putI dX6_faultToldTo_2 flX6_19 (by decide) rfl hx0 ?_
  refine g_nmM (fun M1 eM1 => ?_)
  replace h := nm_s eM1 h
  refine g_aload_n 0 dX6_faultToldTo_5 rfl ?_
  refine g_iconst (v := 0) dX6_faultToldTo_6 rfl (i32l rfl) ?_
  refine g_putI dX6_faultToldTo_7 flX6_31 (by decide) rfl hx0 ?_
  refine g_nmM (fun M2 eM2 => ?_)
  replace h := nm_s eM2 h
  refine g_iconst (v := 0) dX6_faultToldTo_10 rfl (i32l rfl) ?_
  refine g_istore_n (ls' := [(2, XI 0), (0, XR x0), (1, XR x1)]) dX6_faultToldTo_11 (by decide) rfl ?_
  refine g_pc (pc' := 12) rfl ?_
  obtain ⟨z36, hz36, rz36, h⟩ := lr_some h
  refine g_sub (ls' := [(0, XR x0), (1, XR x1), (2, XI 0)]) [1, 2, 0] rfl ?_
  refine lX6_faultToldTo_l12 hx0 hx1 1000 _ _ _ hz36 (fun r e => ?_)
  have rz36 := rz36 r e
  subst rz36
  exact ⟨rfl, rfl⟩
set_option maxHeartbeats 8000000 in
set_option maxRecDepth 20000 in
theorem kX8_candidate {X : XC} {d : Nat} {x0 : Nat} (hx0 : Sh x0 = (17, 10)) {M : Mem} {q : Int × Mem} (h : fX8_candidate x0 M = some q) : Ct X mX8_candidate d [XR x0] M (pI q) := by
  unfold fX8_candidate at h
  refine ct_go (by decide +kernel) (Nat.le_of_ble_eq_true rfl) (ls := [(0, XR x0)]) rfl ?_
  refine g_aload_n 0 dX8_candidate_0 rfl ?_
  refine g_getR dX8_candidate_1 flX8_14 (by decide) rfl hx0 ?_
  refine g_getI dX8_candidate_4 flX8_64 (by decide) rfl (sf_7_0 hx0) ?_
  refine g_bip dX8_candidate_7 rfl ?_
  refine g_icmp_lt (tgt := 15) dX8_candidate_9 (by decide) (fun b1 => ?_) (fun b1 => ?_)
  · replace h := ifp b1 h
    refine g_aload_n 0 dX8_candidate_15 rfl ?_
    refine g_getR dX8_candidate_16 flX8_14 (by decide) rfl hx0 ?_
    refine g_getI dX8_candidate_19 flX8_64 (by decide) rfl (sf_7_0 hx0) ?_
    refine g_nmI (fun v2 ev2 => ?_)
    replace h := nm_s ev2 h
    refine g_istore_n (ls' := [(1, XI v2), (0, XR x0)]) dX8_candidate_22 (by decide) rfl ?_
    refine g_aload_n 1 dX8_candidate_23 rfl ?_
    refine g_getR dX8_candidate_24 flX8_14 (by decide) rfl hx0 ?_
    refine g_getR dX8_candidate_27 flX8_68 (by decide) rfl (sf_7_0 hx0) ?_
    refine g_iload_n 0 dX8_candidate_30 rfl ?_
    refine g_pc (pc' := 31) rfl ?_
    refine g_iload_n 0 dX8_candidate_31 rfl ?_
    obtain ⟨c3, h⟩ := chk_some h
    refine g_iast dX8_candidate_32 (sf_1_1 (sf_7_0 hx0)) c3.1 c3.2 ?_
    refine g_nmM (fun M4 eM4 => ?_)
    replace h := nm_s eM4 h
    refine g_aload_n 1 dX8_candidate_33 rfl ?_
    refine g_getR dX8_candidate_34 flX8_14 (by decide) rfl hx0 ?_
    refine g_getR dX8_candidate_37 flX8_72 (by decide) rfl (sf_7_0 hx0) ?_
    refine g_iload_n 0 dX8_candidate_40 rfl ?_
    refine g_iconst (v := 0) dX8_candidate_41 rfl (i32l rfl) ?_
    obtain ⟨c5, h⟩ := chk_some h
    refine g_zast dX8_candidate_42 (sf_1_2 (sf_7_0 hx0)) c5.1 c5.2 (by decide) ?_
    refine g_nmM (fun M6 eM6 => ?_)
    replace h := nm_s eM6 h
    refine g_aload_n 1 dX8_candidate_43 rfl ?_
    refine g_pc (pc' := 44) rfl ?_
    refine g_getR dX8_candidate_44 flX8_14 (by decide) rfl hx0 ?_
    refine g_iload_n 0 dX8_candidate_47 rfl ?_
    refine g_iconst (v := 1) dX8_candidate_48 rfl (i32l rfl) ?_
    obtain ⟨c7, h⟩ := chk_some h
    refine g_iadd dX8_candidate_49 rfl c7 ?_
    refine g_putI dX8_candidate_50 flX8_64 (by decide) rfl (sf_7_0 hx0) ?_
    refine g_nmM (fun M8 eM8 => ?_)
    replace h := nm_s eM8 h
    refine g_aload_n 1 dX8_candidate_53 rfl ?_
    refine g_iconst (v := 0) dX8_candidate_54 rfl (i32l rfl) ?_
    refine g_putZ dX8_candidate_55 flX8_40 (by decide) rfl hx0 (by decide) ?_
    refine g_nmM (fun M9 eM9 => ?_)
    replace h := nm_s eM9 h
    refine g_iload_n 0 dX8_candidate_58 rfl ?_
    refine g_pc (pc' := 59) rfl ?_
    cases h
    exact g_ireturn dX8_candidate_59 rfl ⟨rfl, rfl⟩
  · replace h := ifn b1 h
    refine g_pc (pc' := 12) rfl ?_
    refine g_bip dX8_candidate_12 rfl ?_
    cases h
    exact g_ireturn dX8_candidate_14 rfl ⟨rfl, rfl⟩
set_option maxHeartbeats 8000000 in
set_option maxRecDepth 20000 in
theorem lX8_isOver_l20 {X : XC} {d : Nat} {Post : Option XV → Mem → Prop} {x0 : Nat} {x1 : Int} {x2 : Int} {x3 : Int} (hx0 : Sh x0 = (17, 10)) : ∀ (n : Nat) (x4 x6 : Int) (M : Mem) (z : (Int × Mem) ⊕ (Int × Int × Mem)), fX8_isOver_l20 x0 x1 x2 x3 n x4 x6 M = some z → (∀ r, z = .inl r → Post (some (XI r.1)) r.2) → Go X mX8_isOver (d + 2) 20 [(0, XR x0), (1, XI x1), (2, XI x2), (3, XI x3), (4, XL x4), (6, XI x6)] [] M Post := by
  intro n
  induction n with
  | zero => intro _ _ _ _ h; cases h
  | succ n ih =>
    intro x4 x6 M z h K1
    unfold fX8_isOver_l20 at h
    refine g_iload 5 dX8_isOver_20 rfl ?_
    refine g_iload_n 3 dX8_isOver_22 rfl ?_
    refine g_icmp_gt (tgt := 113) dX8_isOver_23 (by decide) (fun b3 => ?_) (fun b3 => ?_)
    · replace h := ifp b3 h
      refine g_iconst (v := 0) dX8_isOver_113 rfl (i32l rfl) ?_
      cases h
      exact g_zreturn dX8_isOver_114 rfl (by decide) (K1 (0, M) rfl)
    · replace h := ifn b3 h
      refine g_pc (pc' := 26) rfl ?_
      refine g_iload 5 dX8_isOver_26 rfl ?_
      refine g_bip dX8_isOver_28 rfl ?_
      refine g_icmp_ge (tgt := 113) dX8_isOver_30 (by decide) (fun b4 => ?_) (fun b4 => ?_)
      · replace h := ifp b4 h
        refine g_iconst (v := 0) dX8_isOver_113 rfl (i32l rfl) ?_
        cases h
        exact g_zreturn dX8_isOver_114 rfl (by decide) (K1 (0, M) rfl)
      · replace h := ifn b4 h
        refine g_pc (pc' := 33) rfl ?_
        refine g_lload 4 dX8_isOver_33 rfl ?_
        refine g_iload 5 dX8_isOver_35 rfl ?_
        refine g_iload_n 1 dX8_isOver_37 rfl ?_
        obtain ⟨t7, ht7, h⟩ := bnd_some h
        have Kt7 : Go X mX8_isOver (d + 2) 57 [(0, XR x0), (1, XI x1), (2, XI x2), (3, XI x3), (6, XI x6)] [XL t7, XL x4] M Post := by
          obtain ⟨c10, h⟩ := chk_some h
          refine g_ladd dX8_isOver_57 rfl c10 ?_
          refine g_nmL (fun v11 ev11 => ?_)
          replace h := nm_s ev11 h
          refine g_lstore (ls' := [(4, XL v11), (0, XR x0), (1, XI x1), (2, XI x2), (3, XI x3), (6, XI x6)]) dX8_isOver_58 (by decide) rfl ?_
          refine g_lload 0 dX8_isOver_60 rfl ?_
          refine g_ldc2 (v := 4611686) dX8_isOver_62 csX8_131 (by decide +kernel) (i64l rfl) ?_
          refine g_lcmp_le (tgt := 107) dX8_isOver_65 dX8_isOver_66 (by decide) (fun b12 => ?_) (fun b12 => ?_)
          · replace h := ifp b12 h
            obtain ⟨c13, h⟩ := chk_some h
            refine g_iinc (ls' := [(6, XI (x6 + 1)), (4, XL v11), (0, XR x0), (1, XI x1), (2, XI x2), (3, XI x3)]) 5 dX8_isOver_107 rfl rfl c13 (by decide) rfl ?_
            refine g_goto (tgt := 20) dX8_isOver_110 (by decide) ?_
            exact g_sub [2, 3, 4, 5, 1, 0] rfl (ih _ _ _ _ h K1)
          · replace h := ifn b12 h
            refine g_pc (pc' := 69) rfl ?_
            refine g_aload_n 1 dX8_isOver_69 rfl ?_
            refine g_getR dX8_isOver_70 flX8_53 (by decide) rfl hx0 ?_
            refine g_iconst (v := 5) dX8_isOver_73 rfl (i32l rfl) ?_
            refine g_aload_n 1 dX8_isOver_74 rfl ?_
            refine g_getR dX8_isOver_75 flX8_14 (by decide) rfl hx0 ?_
            refine g_getI dX8_isOver_78 flX8_83 (by decide) rfl (sf_7_0 hx0) ?_
            obtain ⟨q14, hq14, h⟩ := bnd_some h
            refine v_V (ci := 6) (as := [XI 5, XI (M (x0 + 10990) 3)]) dX8_isOver_81 mlX8_133 mdX7_begin mvX7_begin rfl (sf_7_8 hx0) rfl (Nat.le_of_ble_eq_true rfl) (kX7_begin (sf_7_8 hx0) hq14) rfl ?_
            refine g_aload_n 1 dX8_isOver_84 rfl ?_
            refine g_pc (pc' := 85) rfl ?_
            refine g_getR dX8_isOver_85 flX8_53 (by decide) rfl hx0 ?_
            refine g_bip dX8_isOver_88 rfl ?_
            refine g_iload 5 dX8_isOver_90 rfl ?_
            obtain ⟨q15, hq15, h⟩ := bnd_some h
            refine v_V (ci := 6) (as := [XI 6, XI x6]) dX8_isOver_92 mlX8_137 mdX7_addCause mvX7_addCause rfl (sf_7_8 hx0) rfl (Nat.le_of_ble_eq_true rfl) (kX7_addCause (sf_7_8 hx0) hq15) rfl ?_
            refine g_aload_n 1 dX8_isOver_95 rfl ?_
            refine g_getR dX8_isOver_96 flX8_53 (by decide) rfl hx0 ?_
            refine g_bip dX8_isOver_99 rfl ?_
            refine g_iconst (v := 0) dX8_isOver_101 rfl (i32l rfl) ?_
            obtain ⟨q16, hq16, h⟩ := bnd_some h
            refine v_V (ci := 6) (as := [XI 7, XI 0]) dX8_isOver_102 mlX8_137 mdX7_addCause mvX7_addCause rfl (sf_7_8 hx0) rfl (Nat.le_of_ble_eq_true rfl) (kX7_addCause (sf_7_8 hx0) hq16) rfl ?_
            refine g_pc (pc' := 105) rfl ?_
            refine g_iconst (v := 1) dX8_isOver_105 rfl (i32l rfl) ?_
            cases h
            exact g_zreturn dX8_isOver_106 rfl (by decide) (K1 (1, q16.2) rfl)
        refine g_icmp_ne (tgt := 46) dX8_isOver_38 (by decide) (fun b8 => ?_) (fun b8 => ?_)
        · replace ht7 := ifn b8 ht7
          refine g_aload_n 0 dX8_isOver_46 rfl ?_
          refine g_getR dX8_isOver_47 flX8_14 (by decide) rfl hx0 ?_
          refine g_getR dX8_isOver_50 flX8_96 (by decide) rfl (sf_7_0 hx0) ?_
          refine g_iload 5 dX8_isOver_53 rfl ?_
          obtain ⟨c9, ht7⟩ := chk_some ht7
          refine g_iald dX8_isOver_55 (sf_1_5 (sf_7_0 hx0)) c9.1 c9.2 ?_
          refine g_i2l dX8_isOver_56 ?_
          cases ht7
          exact g_sub [0, 1, 2, 3, 5] rfl Kt7
        · replace ht7 := ifp b8 ht7
          refine g_pc (pc' := 41) rfl ?_
          refine g_iload_n 2 dX8_isOver_41 rfl ?_
          refine g_i2l dX8_isOver_42 ?_
          refine g_goto (tgt := 57) dX8_isOver_43 (by decide) ?_
          cases ht7
          exact g_sub [0, 1, 2, 3, 5] rfl Kt7
set_option maxHeartbeats 8000000 in
set_option maxRecDepth 20000 in
theorem kX8_isOver {X : XC} {d : Nat} {x0 : Nat} {x1 : Int} {x2 : Int} (hx0 : Sh x0 = (17, 10)) {M : Mem} {q : Int × Mem} (h : fX8_isOver x0 x1 x2 M = some q) : Ct X mX8_isOver (d + 2) [XR x0, XI x1, XI x2] M (pI q) := by
  unfold fX8_isOver at h
  refine ct_go (by decide +kernel) (Nat.le_of_ble_eq_true rfl) (ls := [(0, XR x0), (1, XI x1), (2, XI x2)]) rfl ?_
  refine g_aload_n 0 dX8_isOver_0 rfl ?_
  refine g_getR dX8_isOver_1 flX8_14 (by decide) rfl hx0 ?_
  refine g_getI dX8_isOver_4 flX8_83 (by decide) rfl (sf_7_0 hx0) ?_
  refine g_iconst (v := 1) dX8_isOver_7 rfl (i32l rfl) ?_
  obtain ⟨c1, h⟩ := chk_some h
  refine g_isub dX8_isOver_8 rfl c1 ?_
  refine g_iload_n 1 dX8_isOver_9 rfl ?_
  refine g_maxI dX8_isOver_10 mlX8_125 (Nat.le_of_ble_eq_true rfl) ?_
  refine g_nmI (fun v2 ev2 => ?_)
  replace h := nm_s ev2 h
  refine g_istore_n (ls' := [(3, XI v2), (0, XR x0), (1, XI x1), (2, XI x2)]) dX8_isOver_13 (by decide) rfl ?_
  refine g_pc (pc' := 14) rfl ?_
  refine g_lconst (v := 0) dX8_isOver_14 rfl (i64l rfl) ?_
  refine g_lstore (ls' := [(4, XL 0), (3, XI v2), (0, XR x0), (1, XI x1), (2, XI x2)]) dX8_isOver_15 (by decide) rfl ?_
  refine g_iconst (v := 0) dX8_isOver_17 rfl (i32l rfl) ?_
  refine g_istore (ls' := [(6, XI 0), (4, XL 0), (3, XI v2), (0, XR x0), (1, XI x1), (2, XI x2)]) dX8_isOver_18 (by decide) rfl ?_
  obtain ⟨z17, hz17, rz17, h⟩ := lr_some h
  refine g_sub (ls' := [(0, XR x0), (1, XI x1), (2, XI x2), (3, XI v2), (4, XL 0), (6, XI 0)]) [3, 4, 5, 2, 1, 0] rfl ?_
  refine lX8_isOver_l20 hx0 1000 _ _ _ _ hz17 (fun r e => ?_)
  have rz17 := rz17 r e
  subst rz17
  exact ⟨rfl, rfl⟩
set_option maxHeartbeats 8000000 in
set_option maxRecDepth 20000 in
theorem kX8_ballot {X : XC} {d : Nat} {x0 : Nat} {x1 : Int} {x2 : Int} (hx0 : Sh x0 = (17, 10)) {M : Mem} {q : Int × Mem} (h : fX8_ballot x0 x1 x2 M = some q) : Ct X mX8_ballot (d + 3) [XR x0, XI x1, XI x2] M (pI q) := by
  unfold fX8_ballot at h
  refine ct_go (by decide +kernel) (Nat.le_of_ble_eq_true rfl) (ls := [(0, XR x0), (1, XI x1), (2, XI x2)]) rfl ?_
  refine g_iload_n 1 dX8_ballot_0 rfl ?_
  refine g_aload_n 0 dX8_ballot_1 rfl ?_
  refine g_getR dX8_ballot_2 flX8_14 (by decide) rfl hx0 ?_
  refine g_getI dX8_ballot_5 flX8_64 (by decide) rfl (sf_7_0 hx0) ?_
  obtain ⟨q1, hq1, h⟩ := bnd_some h
  refine s_I (as := [XI x1, XI (M (x0 + 10990) 0)]) dX8_ballot_8 mlX8_76 mdX2_isRow msX2_isRow rfl (Nat.le_of_ble_eq_true rfl) (kX2_isRow  hq1) rfl ?_
  refine g_if_eq (tgt := 24) dX8_ballot_11 (by decide) (fun b2 => ?_) (fun b2 => ?_)
  · replace h := ifp b2 h
    refine g_bip dX8_ballot_24 rfl ?_
    cases h
    exact g_ireturn dX8_ballot_26 rfl ⟨rfl, rfl⟩
  · replace h := ifn b2 h
    refine g_pc (pc' := 14) rfl ?_
    refine g_iload_n 2 dX8_ballot_14 rfl ?_
    refine g_if_lt (tgt := 24) dX8_ballot_15 (by decide) (fun b3 => ?_) (fun b3 => ?_)
    · replace h := ifp b3 h
      refine g_bip dX8_ballot_24 rfl ?_
      cases h
      exact g_ireturn dX8_ballot_26 rfl ⟨rfl, rfl⟩
    · replace h := ifn b3 h
      refine g_pc (pc' := 18) rfl ?_
      refine g_iload_n 2 dX8_ballot_18 rfl ?_
      refine g_ldc (v := 1000000) dX8_ballot_19 csX8_82 (by decide +kernel) (i32l rfl) ?_
      refine g_icmp_le (tgt := 27) dX8_ballot_21 (by decide) (fun b4 => ?_) (fun b4 => ?_)
      · replace h := ifp b4 h
        refine g_aload_n 0 dX8_ballot_27 rfl ?_
        refine g_getR dX8_ballot_28 flX8_14 (by decide) rfl hx0 ?_
        refine g_getI dX8_ballot_31 flX8_83 (by decide) rfl (sf_7_0 hx0) ?_
        refine g_bip dX8_ballot_34 rfl ?_
        refine g_icmp_lt (tgt := 42) dX8_ballot_36 (by decide) (fun b5 => ?_) (fun b5 => ?_)
        · replace h := ifp b5 h
          refine g_aload_n 0 dX8_ballot_42 rfl ?_
          refine g_getR dX8_ballot_43 flX8_14 (by decide) rfl hx0 ?_
          refine g_getI dX8_ballot_46 flX8_83 (by decide) rfl (sf_7_0 hx0) ?_
          refine g_nmI (fun v6 ev6 => ?_)
          replace h := nm_s ev6 h
          refine g_istore_n (ls' := [(3, XI v6), (0, XR x0), (1, XI x1), (2, XI x2)]) dX8_ballot_49 (by decide) rfl ?_
          refine g_aload_n 1 dX8_ballot_50 rfl ?_
          refine g_iload_n 0 dX8_ballot_51 rfl ?_
          refine g_iload_n 3 dX8_ballot_52 rfl ?_
          obtain ⟨q7, hq7, h⟩ := bnd_some h
          refine v_I (ci := 7) (as := [XI v6, XI x2]) dX8_ballot_53 mlX8_86 mdX8_isOver mvX8_isOver rfl hx0 rfl (Nat.le_of_ble_eq_true rfl) (kX8_isOver hx0 hq7) rfl ?_
          refine g_pc (pc' := 56) rfl ?_
          refine g_if_eq (tgt := 62) dX8_ballot_56 (by decide) (fun b8 => ?_) (fun b8 => ?_)
          · replace h := ifp b8 h
            refine g_aload_n 1 dX8_ballot_62 rfl ?_
            refine g_getR dX8_ballot_63 flX8_14 (by decide) rfl hx0 ?_
            refine g_getR dX8_ballot_66 flX8_89 (by decide) rfl (sf_7_0 hx0) ?_
            refine g_iload_n 0 dX8_ballot_69 rfl ?_
            refine g_iload_n 2 dX8_ballot_70 rfl ?_
            obtain ⟨q9, hq9, h⟩ := bnd_some h
            refine s_I (as := [XI x1]) dX8_ballot_71 mlX8_92 mdX2_filledUp msX2_filledUp rfl (Nat.le_of_ble_eq_true rfl) (kX2_filledUp  hq9) rfl ?_
            obtain ⟨c10, h⟩ := chk_some h
            refine g_iast dX8_ballot_74 (sf_1_4 (sf_7_0 hx0)) c10.1 c10.2 ?_
            refine g_nmM (fun M11 eM11 => ?_)
            replace h := nm_s eM11 h
            refine g_aload_n 1 dX8_ballot_75 rfl ?_
            refine g_pc (pc' := 76) rfl ?_
            refine g_getR dX8_ballot_76 flX8_14 (by decide) rfl hx0 ?_
            refine g_getR dX8_ballot_79 flX8_96 (by decide) rfl (sf_7_0 hx0) ?_
            refine g_iload_n 0 dX8_ballot_82 rfl ?_
            refine g_iload_n 3 dX8_ballot_83 rfl ?_
            obtain ⟨c12, h⟩ := chk_some h
            refine g_iast dX8_ballot_84 (sf_1_5 (sf_7_0 hx0)) c12.1 c12.2 ?_
            refine g_nmM (fun M13 eM13 => ?_)
            replace h := nm_s eM13 h
            refine g_aload_n 1 dX8_ballot_85 rfl ?_
            refine g_getR dX8_ballot_86 flX8_14 (by decide) rfl hx0 ?_
            refine g_iload_n 0 dX8_ballot_89 rfl ?_
            refine g_iconst (v := 1) dX8_ballot_90 rfl (i32l rfl) ?_
            refine g_pc (pc' := 91) rfl ?_
            obtain ⟨c14, h⟩ := chk_some h
            refine g_iadd dX8_ballot_91 rfl c14 ?_
            refine g_putI dX8_ballot_92 flX8_83 (by decide) rfl (sf_7_0 hx0) ?_
            refine g_nmM (fun M15 eM15 => ?_)
            replace h := nm_s eM15 h
            refine g_aload_n 1 dX8_ballot_95 rfl ?_
            refine g_iconst (v := 0) dX8_ballot_96 rfl (i32l rfl) ?_
            refine g_putZ dX8_ballot_97 flX8_40 (by decide) rfl hx0 (by decide) ?_
            refine g_nmM (fun M16 eM16 => ?_)
            replace h := nm_s eM16 h
            refine g_iload_n 0 dX8_ballot_100 rfl ?_
            cases h
            exact g_ireturn dX8_ballot_101 rfl ⟨rfl, rfl⟩
          · replace h := ifn b8 h
            refine g_pc (pc' := 59) rfl ?_
            refine g_bip dX8_ballot_59 rfl ?_
            cases h
            exact g_ireturn dX8_ballot_61 rfl ⟨rfl, rfl⟩
        · replace h := ifn b5 h
          refine g_pc (pc' := 39) rfl ?_
          refine g_bip dX8_ballot_39 rfl ?_
          cases h
          exact g_ireturn dX8_ballot_41 rfl ⟨rfl, rfl⟩
      · replace h := ifn b4 h
        refine g_pc (pc' := 24) rfl ?_
        refine g_bip dX8_ballot_24 rfl ?_
        cases h
        exact g_ireturn dX8_ballot_26 rfl ⟨rfl, rfl⟩
set_option maxHeartbeats 8000000 in
set_option maxRecDepth 20000 in
theorem kX8_many {X : XC} {d : Nat} {x0 : Nat} {x1 : Int} {x2 : Int} (hx0 : Sh x0 = (17, 10)) {M : Mem} {q : Int × Mem} (h : fX8_many x0 x1 x2 M = some q) : Ct X mX8_many (d + 3) [XR x0, XI x1, XI x2] M (pI q) := by
  unfold fX8_many at h
  refine ct_go (by decide +kernel) (Nat.le_of_ble_eq_true rfl) (ls := [(0, XR x0), (1, XI x1), (2, XI x2)]) rfl ?_
  refine g_aload_n 0 dX8_many_0 rfl ?_
  refine g_getR dX8_many_1 flX8_14 (by decide) rfl hx0 ?_
  refine g_iload_n 1 dX8_many_4 rfl ?_
  obtain ⟨q1, hq1, h⟩ := bnd_some h
  refine v_I (ci := 1) (as := [XI x1]) dX8_many_5 mlX8_99 mdX1_hasBallot mvX1_hasBallot rfl (sf_7_0 hx0) rfl (Nat.le_of_ble_eq_true rfl) (kX1_hasBallot (sf_7_0 hx0) hq1) rfl ?_
  refine g_if_ne (tgt := 13) dX8_many_8 (by decide) (fun b2 => ?_) (fun b2 => ?_)
  · replace h := ifn b2 h
    refine g_iload_n 2 dX8_many_13 rfl ?_
    refine g_if_lt (tgt := 23) dX8_many_14 (by decide) (fun b3 => ?_) (fun b3 => ?_)
    · replace h := ifp b3 h
      refine g_bip dX8_many_23 rfl ?_
      cases h
      exact g_ireturn dX8_many_25 rfl ⟨rfl, rfl⟩
    · replace h := ifn b3 h
      refine g_pc (pc' := 17) rfl ?_
      refine g_iload_n 2 dX8_many_17 rfl ?_
      refine g_ldc (v := 1000000) dX8_many_18 csX8_82 (by decide +kernel) (i32l rfl) ?_
      refine g_icmp_le (tgt := 26) dX8_many_20 (by decide) (fun b4 => ?_) (fun b4 => ?_)
      · replace h := ifp b4 h
        refine g_aload_n 0 dX8_many_26 rfl ?_
        refine g_iload_n 1 dX8_many_27 rfl ?_
        refine g_iload_n 2 dX8_many_28 rfl ?_
        obtain ⟨q5, hq5, h⟩ := bnd_some h
        refine v_I (ci := 7) (as := [XI x1, XI x2]) dX8_many_29 mlX8_86 mdX8_isOver mvX8_isOver rfl hx0 rfl (Nat.le_of_ble_eq_true rfl) (kX8_isOver hx0 hq5) rfl ?_
        refine g_if_eq (tgt := 38) dX8_many_32 (by decide) (fun b6 => ?_) (fun b6 => ?_)
        · replace h := ifp b6 h
          refine g_aload_n 0 dX8_many_38 rfl ?_
          refine g_getR dX8_many_39 flX8_14 (by decide) rfl hx0 ?_
          refine g_getR dX8_many_42 flX8_96 (by decide) rfl (sf_7_0 hx0) ?_
          refine g_iload_n 1 dX8_many_45 rfl ?_
          obtain ⟨c7, h⟩ := chk_some h
          refine g_iald dX8_many_46 (sf_1_5 (sf_7_0 hx0)) c7.1 c7.2 ?_
          refine g_nmI (fun v8 ev8 => ?_)
          replace h := nm_s ev8 h
          refine g_istore_n (ls' := [(3, XI v8), (0, XR x0), (1, XI x1), (2, XI x2)]) dX8_many_47 (by decide) rfl ?_
          refine g_aload_n 1 dX8_many_48 rfl ?_
          refine g_getR dX8_many_49 flX8_14 (by decide) rfl hx0 ?_
          refine g_pc (pc' := 52) rfl ?_
          refine g_getR dX8_many_52 flX8_96 (by decide) rfl (sf_7_0 hx0) ?_
          refine g_iload_n 2 dX8_many_55 rfl ?_
          refine g_iload_n 3 dX8_many_56 rfl ?_
          obtain ⟨c9, h⟩ := chk_some h
          refine g_iast dX8_many_57 (sf_1_5 (sf_7_0 hx0)) c9.1 c9.2 ?_
          refine g_nmM (fun M10 eM10 => ?_)
          replace h := nm_s eM10 h
          refine g_aload_n 1 dX8_many_58 rfl ?_
          refine g_iconst (v := 0) dX8_many_59 rfl (i32l rfl) ?_
          refine g_putZ dX8_many_60 flX8_40 (by decide) rfl hx0 (by decide) ?_
          refine g_nmM (fun M11 eM11 => ?_)
          replace h := nm_s eM11 h
          refine g_iload_n 0 dX8_many_63 rfl ?_
          cases h
          exact g_ireturn dX8_many_64 rfl ⟨rfl, rfl⟩
        · replace h := ifn b6 h
          refine g_pc (pc' := 35) rfl ?_
          refine g_bip dX8_many_35 rfl ?_
          cases h
          exact g_ireturn dX8_many_37 rfl ⟨rfl, rfl⟩
      · replace h := ifn b4 h
        refine g_pc (pc' := 23) rfl ?_
        refine g_bip dX8_many_23 rfl ?_
        cases h
        exact g_ireturn dX8_many_25 rfl ⟨rfl, rfl⟩
  · replace h := ifp b2 h
    refine g_pc (pc' := 11) rfl ?_
    refine g_iconst (v := -1) dX8_many_11 rfl (i32l rfl) ?_
    cases h
    exact g_ireturn dX8_many_12 rfl ⟨rfl, rfl⟩
end
