section
def fX6_faultToldTo_l12 (x0 : Nat) (x1 : Nat) : Nat → Int → Mem → Option ((Int × Mem) ⊕ (Int × Mem))
  | 0, _, _ => none
  | n + 1, x2, M => (if 12 ≤ x2 then Option.bind (fX7_begin x1 1 (M x0 2) M) (fun q4 => Option.bind (fX6_sign x0 q4.2) (fun q5 => Option.bind (fX7_addCause x1 4 q5.1 q5.2) (fun q6 => some (.inl ((q6.2 x0 6), q6.2))))) else nm ((M x0 6)) (fun v7 => Option.bind (fX6_readsClause x0 x2 M) (fun q8 => (if q8.1 = 0 then Option.bind (fX7_begin x1 1 (q8.2 x0 2) q8.2) (fun q25 => Option.bind (fX7_addCause x1 2 v7 q25.2) (fun q26 => Option.bind ((if (q26.2 x0 7) = 0 then Option.bind (fX6_sign x0 q26.2) (fun q33 => Option.bind (fX7_addCause x1 4 q33.1 q33.2) (fun q34 => some (q34.2))) else Option.bind (fX7_addCause x1 3 (q26.2 x0 6) q26.2) (fun q35 => some (q35.2))) : Option (Mem)) (fun t31 => some (.inl ((t31 x0 6), t31))))) else if -2147483648 ≤ ((q8.2 x0 2) + 1) ∧ ((q8.2 x0 2) + 1) ≤ 2147483647 then nm (wr q8.2 x0 2 ((q8.2 x0 2) + 1)) (fun M11 => (if (M11 x0 6) < (M11 x0 0) then Option.bind (fX6_sign x0 M11) (fun q13 => (if q13.1 = 59 then (if (q13.2 x0 2) = 12 then Option.bind (fX7_begin x1 1 (q13.2 x0 2) q13.2) (fun q22 => Option.bind (fX6_sign x0 q22.2) (fun q23 => Option.bind (fX7_addCause x1 4 q23.1 q23.2) (fun q24 => some (.inl ((q24.2 x0 6), q24.2))))) else if -2147483648 ≤ ((q13.2 x0 6) + 1) ∧ ((q13.2 x0 6) + 1) ≤ 2147483647 then nm (wr q13.2 x0 6 ((q13.2 x0 6) + 1)) (fun M20 => if -2147483648 ≤ (x2 + 1) ∧ (x2 + 1) ≤ 2147483647 then fX6_faultToldTo_l12 x0 x1 n (x2 + 1) M20 else none) else none) else Option.bind (fX7_begin x1 1 (q13.2 x0 2) q13.2) (fun q15 => Option.bind (fX6_sign x0 q15.2) (fun q16 => Option.bind (fX7_addCause x1 4 q16.1 q16.2) (fun q17 => some (.inl ((q17.2 x0 6), q17.2))))))) else some (.inl ((-5), M11)))) else none))))
def fX6_faultToldTo (x0 : Nat) (x1 : Nat) (M : Mem) : Option (Int × Mem) := nm (wr M x0 2 0) (fun M1 => nm (wr M1 x0 6 0) (fun M2 => lr (fX6_faultToldTo_l12 x0 x1 1000 0 M2) (fun r => r) (fun _ => none)))
set_option maxRecDepth 20000 in
theorem lX6_faultToldTo_l12 {X : XC} {d : Nat} {Post : Option XV → Mem → Prop} {x0 : Nat} {x1 : Nat} (hx0 : Sh x0 = (15, 8)) (hx1 : Sh x1 = (16, 3)) : ∀ (n : Nat) (x2 : Int) (M : Mem) (z : (Int × Mem) ⊕ (Int × Mem)), fX6_faultToldTo_l12 x0 x1 n x2 M = some z → (∀ r, z = .inl r → Post (some (XI r.1)) r.2) → Go X mX6_faultToldTo (d + 4) 12 [(0, XR x0), (1, XR x1), (2, XI x2)] [] M Post := by
  intro n
  induction n with
  | zero => intro _ _ _ h; cases h
  | succ n ih =>
    intro x2 M z h K1
    unfold fX6_faultToldTo_l12 at h
    refine g_iload_n 2 dX6_faultToldTo_12 rfl ?_
    refine g_bip dX6_faultToldTo_13 rfl ?_
    refine g_icmp_ge (tgt := 140) dX6_faultToldTo_15 (by decide) (fun b3 => ?_) (fun b3 => ?_)
    · replace h := ifp b3 h
      refine g_aload_n 1 dX6_faultToldTo_140 rfl ?_
      refine g_iconst (v := 1) dX6_faultToldTo_141 rfl (i32l rfl) ?_
      refine g_aload_n 0 dX6_faultToldTo_142 rfl ?_
      refine g_getI dX6_faultToldTo_143 flX6_19 (by decide) rfl hx0 ?_
      obtain ⟨q4, hq4, h⟩ := bnd_some h
      refine v_V (ci := 6) (as := [XI 1, XI (M x0 2)]) dX6_faultToldTo_146 mlX6_42 mdX7_begin mvX7_begin rfl hx1 rfl (Nat.le_of_ble_eq_true rfl) (kX7_begin hx1 hq4) rfl ?_
      refine g_aload_n 1 dX6_faultToldTo_149 rfl ?_
      refine g_iconst (v := 4) dX6_faultToldTo_150 rfl (i32l rfl) ?_
      refine g_aload_n 0 dX6_faultToldTo_151 rfl ?_
      refine g_pc (pc' := 152) rfl ?_
      obtain ⟨q5, hq5, h⟩ := bnd_some h
      refine v_I (ci := 5) (as := []) dX6_faultToldTo_152 mlX6_51 mdX6_sign mvX6_sign rfl hx0 rfl (Nat.le_of_ble_eq_true rfl) (kX6_sign hx0 hq5) rfl ?_
      obtain ⟨q6, hq6, h⟩ := bnd_some h
      refine v_V (ci := 6) (as := [XI 4, XI q5.1]) dX6_faultToldTo_155 mlX6_48 mdX7_addCause mvX7_addCause rfl hx1 rfl (Nat.le_of_ble_eq_true rfl) (kX7_addCause hx1 hq6) rfl ?_
      refine g_aload_n 0 dX6_faultToldTo_158 rfl ?_
      refine g_getI dX6_faultToldTo_159 flX6_31 (by decide) rfl hx0 ?_
      cases h
      exact g_ireturn dX6_faultToldTo_162 rfl (K1 ((q6.2 x0 6), q6.2) rfl)
    · replace h := ifn b3 h
      refine g_pc (pc' := 18) rfl ?_
      refine g_aload_n 0 dX6_faultToldTo_18 rfl ?_
      refine g_getI dX6_faultToldTo_19 flX6_31 (by decide) rfl hx0 ?_
      refine g_nmI (fun v7 ev7 => ?_)
      replace h := nm_s ev7 h
      refine g_istore_n (ls' := [(3, XI v7), (0, XR x0), (1, XR x1), (2, XI x2)]) dX6_faultToldTo_22 (by decide) rfl ?_
      refine g_aload_n 1 dX6_faultToldTo_23 rfl ?_
      refine g_iload_n 3 dX6_faultToldTo_24 rfl ?_
      obtain ⟨q8, hq8, h⟩ := bnd_some h
      refine v_I (ci := 5) (as := [XI x2]) dX6_faultToldTo_25 mlX6_38 mdX6_readsClause mvX6_readsClause rfl hx0 rfl (Nat.le_of_ble_eq_true rfl) (kX6_readsClause hx0 hq8) rfl ?_
      refine g_if_ne (tgt := 79) dX6_faultToldTo_28 (by decide) (fun b9 => ?_) (fun b9 => ?_)
      · replace h := ifn b9 h
        refine g_aload_n 1 dX6_faultToldTo_79 rfl ?_
        refine g_dupR dX6_faultToldTo_80 ?_
        refine g_getI dX6_faultToldTo_81 flX6_19 (by decide) rfl hx0 ?_
        refine g_iconst (v := 1) dX6_faultToldTo_84 rfl (i32l rfl) ?_
        obtain ⟨c10, h⟩ := chk_some h
        refine g_iadd dX6_faultToldTo_85 rfl c10 ?_
        refine g_putI dX6_faultToldTo_86 flX6_19 (by decide) rfl hx0 ?_
        refine g_nmM (fun M11 eM11 => ?_)
        replace h := nm_s eM11 h
        refine g_aload_n 1 dX6_faultToldTo_89 rfl ?_
        refine g_getI dX6_faultToldTo_90 flX6_31 (by decide) rfl hx0 ?_
        refine g_pc (pc' := 93) rfl ?_
        refine g_aload_n 1 dX6_faultToldTo_93 rfl ?_
        refine g_getI dX6_faultToldTo_94 flX6_9 (by decide) rfl hx0 ?_
        refine g_icmp_lt (tgt := 103) dX6_faultToldTo_97 (by decide) (fun b12 => ?_) (fun b12 => ?_)
        · replace h := ifp b12 h
          refine g_aload_n 1 dX6_faultToldTo_103 rfl ?_
          obtain ⟨q13, hq13, h⟩ := bnd_some h
          refine v_I (ci := 5) (as := []) dX6_faultToldTo_104 mlX6_51 mdX6_sign mvX6_sign rfl hx0 rfl (Nat.le_of_ble_eq_true rfl) (kX6_sign hx0 hq13) rfl ?_
          refine g_bip dX6_faultToldTo_107 rfl ?_
          refine g_icmp_ne (tgt := 140) dX6_faultToldTo_109 (by decide) (fun b14 => ?_) (fun b14 => ?_)
          · replace h := ifn b14 h
            refine g_aload_n 2 dX6_faultToldTo_140 rfl ?_
            refine g_iconst (v := 1) dX6_faultToldTo_141 rfl (i32l rfl) ?_
            refine g_aload_n 1 dX6_faultToldTo_142 rfl ?_
            refine g_getI dX6_faultToldTo_143 flX6_19 (by decide) rfl hx0 ?_
            obtain ⟨q15, hq15, h⟩ := bnd_some h
            refine v_V (ci := 6) (as := [XI 1, XI (q13.2 x0 2)]) dX6_faultToldTo_146 mlX6_42 mdX7_begin mvX7_begin rfl hx1 rfl (Nat.le_of_ble_eq_true rfl) (kX7_begin hx1 hq15) rfl ?_
            refine g_aload_n 2 dX6_faultToldTo_149 rfl ?_
            refine g_iconst (v := 4) dX6_faultToldTo_150 rfl (i32l rfl) ?_
            refine g_aload_n 1 dX6_faultToldTo_151 rfl ?_
            refine g_pc (pc' := 152) rfl ?_
            obtain ⟨q16, hq16, h⟩ := bnd_some h
            refine v_I (ci := 5) (as := []) dX6_faultToldTo_152 mlX6_51 mdX6_sign mvX6_sign rfl hx0 rfl (Nat.le_of_ble_eq_true rfl) (kX6_sign hx0 hq16) rfl ?_
            obtain ⟨q17, hq17, h⟩ := bnd_some h
            refine v_V (ci := 6) (as := [XI 4, XI q16.1]) dX6_faultToldTo_155 mlX6_48 mdX7_addCause mvX7_addCause rfl hx1 rfl (Nat.le_of_ble_eq_true rfl) (kX7_addCause hx1 hq17) rfl ?_
            refine g_aload_n 1 dX6_faultToldTo_158 rfl ?_
            refine g_getI dX6_faultToldTo_159 flX6_31 (by decide) rfl hx0 ?_
            cases h
            exact g_ireturn dX6_faultToldTo_162 rfl (K1 ((q17.2 x0 6), q17.2) rfl)
          · replace h := ifp b14 h
            refine g_pc (pc' := 112) rfl ?_
            refine g_aload_n 1 dX6_faultToldTo_112 rfl ?_
            refine g_getI dX6_faultToldTo_113 flX6_19 (by decide) rfl hx0 ?_
            refine g_bip dX6_faultToldTo_116 rfl ?_
            refine g_icmp_ne (tgt := 124) dX6_faultToldTo_118 (by decide) (fun b18 => ?_) (fun b18 => ?_)
            · replace h := ifn b18 h
              refine g_aload_n 1 dX6_faultToldTo_124 rfl ?_
              refine g_dupR dX6_faultToldTo_125 ?_
              refine g_getI dX6_faultToldTo_126 flX6_31 (by decide) rfl hx0 ?_
              refine g_iconst (v := 1) dX6_faultToldTo_129 rfl (i32l rfl) ?_
              obtain ⟨c19, h⟩ := chk_some h
              refine g_iadd dX6_faultToldTo_130 rfl c19 ?_
              refine g_putI dX6_faultToldTo_131 flX6_31 (by decide) rfl hx0 ?_
              refine g_nmM (fun M20 eM20 => ?_)
              replace h := nm_s eM20 h
              obtain ⟨c21, h⟩ := chk_some h
              refine g_iinc (ls' := [(2, XI (x2 + 1)), (3, XI v7), (0, XR x0), (1, XR x1)]) 3 dX6_faultToldTo_134 rfl rfl c21 (by decide) rfl ?_
              refine g_goto (tgt := 12) dX6_faultToldTo_137 (by decide) ?_
              exact g_sub [2, 3, 0] rfl (ih _ _ _ h K1)
            · replace h := ifp b18 h
              refine g_pc (pc' := 121) rfl ?_
              refine g_goto (tgt := 140) dX6_faultToldTo_121 (by decide) ?_
              refine g_aload_n 2 dX6_faultToldTo_140 rfl ?_
              refine g_iconst (v := 1) dX6_faultToldTo_141 rfl (i32l rfl) ?_
              refine g_aload_n 1 dX6_faultToldTo_142 rfl ?_
              refine g_getI dX6_faultToldTo_143 flX6_19 (by decide) rfl hx0 ?_
              obtain ⟨q22, hq22, h⟩ := bnd_some h
              refine v_V (ci := 6) (as := [XI 1, XI (q13.2 x0 2)]) dX6_faultToldTo_146 mlX6_42 mdX7_begin mvX7_begin rfl hx1 rfl (Nat.le_of_ble_eq_true rfl) (kX7_begin hx1 hq22) rfl ?_
              refine g_aload_n 2 dX6_faultToldTo_149 rfl ?_
              refine g_iconst (v := 4) dX6_faultToldTo_150 rfl (i32l rfl) ?_
              refine g_aload_n 1 dX6_faultToldTo_151 rfl ?_
              refine g_pc (pc' := 152) rfl ?_
              obtain ⟨q23, hq23, h⟩ := bnd_some h
              refine v_I (ci := 5) (as := []) dX6_faultToldTo_152 mlX6_51 mdX6_sign mvX6_sign rfl hx0 rfl (Nat.le_of_ble_eq_true rfl) (kX6_sign hx0 hq23) rfl ?_
              obtain ⟨q24, hq24, h⟩ := bnd_some h
              refine v_V (ci := 6) (as := [XI 4, XI q23.1]) dX6_faultToldTo_155 mlX6_48 mdX7_addCause mvX7_addCause rfl hx1 rfl (Nat.le_of_ble_eq_true rfl) (kX7_addCause hx1 hq24) rfl ?_
              refine g_aload_n 1 dX6_faultToldTo_158 rfl ?_
              refine g_getI dX6_faultToldTo_159 flX6_31 (by decide) rfl hx0 ?_
              cases h
              exact g_ireturn dX6_faultToldTo_162 rfl (K1 ((q24.2 x0 6), q24.2) rfl)
        · replace h := ifn b12 h
          refine g_pc (pc' := 100) rfl ?_
          refine g_bip dX6_faultToldTo_100 rfl ?_
          cases h
          exact g_ireturn dX6_faultToldTo_102 rfl (K1 ((-5), M11) rfl)
      · replace h := ifp b9 h
        refine g_pc (pc' := 31) rfl ?_
        refine g_aload_n 2 dX6_faultToldTo_31 rfl ?_
        refine g_iconst (v := 1) dX6_faultToldTo_32 rfl (i32l rfl) ?_
        refine g_aload_n 1 dX6_faultToldTo_33 rfl ?_
        refine g_getI dX6_faultToldTo_34 flX6_19 (by decide) rfl hx0 ?_
        obtain ⟨q25, hq25, h⟩ := bnd_some h
        refine v_V (ci := 6) (as := [XI 1, XI (q8.2 x0 2)]) dX6_faultToldTo_37 mlX6_42 mdX7_begin mvX7_begin rfl hx1 rfl (Nat.le_of_ble_eq_true rfl) (kX7_begin hx1 hq25) rfl ?_
        refine g_aload_n 2 dX6_faultToldTo_40 rfl ?_
        refine g_iconst (v := 2) dX6_faultToldTo_41 rfl (i32l rfl) ?_
        refine g_iload_n 0 dX6_faultToldTo_42 rfl ?_
        refine g_pc (pc' := 43) rfl ?_
        obtain ⟨q26, hq26, h⟩ := bnd_some h
        refine v_V (ci := 6) (as := [XI 2, XI v7]) dX6_faultToldTo_43 mlX6_48 mdX7_addCause mvX7_addCause rfl hx1 rfl (Nat.le_of_ble_eq_true rfl) (kX7_addCause hx1 hq26) rfl ?_
        refine g_aload_n 1 dX6_faultToldTo_46 rfl ?_
        refine g_getZ dX6_faultToldTo_47 flX6_34 (by decide) rfl hx0 ?_
        obtain ⟨t31, ht31, h⟩ := bnd_some h
        have Kt31 : Go X mX6_faultToldTo (d + 4) 74 [(0, XR x0)] [] t31 Post := by
          refine g_aload_n 0 dX6_faultToldTo_74 rfl ?_
          refine g_getI dX6_faultToldTo_75 flX6_31 (by decide) rfl hx0 ?_
          cases h
          exact g_ireturn dX6_faultToldTo_78 rfl (K1 ((t31 x0 6), t31) rfl)
        refine g_if_eq (tgt := 65) dX6_faultToldTo_50 (by decide) (fun b32 => ?_) (fun b32 => ?_)
        · replace ht31 := ifp b32 ht31
          refine g_aload_n 2 dX6_faultToldTo_65 rfl ?_
          refine g_iconst (v := 4) dX6_faultToldTo_66 rfl (i32l rfl) ?_
          refine g_aload_n 1 dX6_faultToldTo_67 rfl ?_
          obtain ⟨q33, hq33, ht31⟩ := bnd_some ht31
          refine v_I (ci := 5) (as := []) dX6_faultToldTo_68 mlX6_51 mdX6_sign mvX6_sign rfl hx0 rfl (Nat.le_of_ble_eq_true rfl) (kX6_sign hx0 hq33) rfl ?_
          obtain ⟨q34, hq34, ht31⟩ := bnd_some ht31
          refine v_V (ci := 6) (as := [XI 4, XI q33.1]) dX6_faultToldTo_71 mlX6_48 mdX7_addCause mvX7_addCause rfl hx1 rfl (Nat.le_of_ble_eq_true rfl) (kX7_addCause hx1 hq34) rfl ?_
          cases ht31
          exact g_sub [1] rfl Kt31
        · replace ht31 := ifn b32 ht31
          refine g_pc (pc' := 53) rfl ?_
          refine g_aload_n 2 dX6_faultToldTo_53 rfl ?_
          refine g_iconst (v := 3) dX6_faultToldTo_54 rfl (i32l rfl) ?_
          refine g_aload_n 1 dX6_faultToldTo_55 rfl ?_
          refine g_getI dX6_faultToldTo_56 flX6_31 (by decide) rfl hx0 ?_
          obtain ⟨q35, hq35, ht31⟩ := bnd_some ht31
          refine v_V (ci := 6) (as := [XI 3, XI (q26.2 x0 6)]) dX6_faultToldTo_59 mlX6_48 mdX7_addCause mvX7_addCause rfl hx1 rfl (Nat.le_of_ble_eq_true rfl) (kX7_addCause hx1 hq35) rfl ?_
          refine g_goto (tgt := 74) dX6_faultToldTo_62 (by decide) ?_
          cases ht31
          exact g_sub [1] rfl Kt31
set_option maxRecDepth 20000 in
theorem kX6_faultToldTo {X : XC} {d : Nat} {x0 : Nat} {x1 : Nat} (hx0 : Sh x0 = (15, 8)) (hx1 : Sh x1 = (16, 3)) {M : Mem} {q : Int × Mem} (h : fX6_faultToldTo x0 x1 M = some q) : Ct X mX6_faultToldTo (d + 4) [XR x0, XR x1] M (pI q) := by
  unfold fX6_faultToldTo at h
  refine ct_go (by decide +kernel) (Nat.le_of_ble_eq_true rfl) (ls := [(0, XR x0), (1, XR x1)]) rfl ?_
  refine g_aload_n 0 dX6_faultToldTo_0 rfl ?_
  refine g_iconst (v := 0) dX6_faultToldTo_1 rfl (i32l rfl) ?_
  refine g_putI dX6_faultToldTo_2 flX6_19 (by decide) rfl hx0 ?_
  refine g_nmM (fun M1 eM1 => ?_)
  replace h := nm_s eM1 h
  refine g_aload_n 0 dX6_faultToldTo_5 rfl ?_
  refine g_iconst (v := 0) dX6_faultToldTo_6 rfl (i32l rfl) ?_
  refine g_putI dX6_faultToldTo_7 flX6_31 (by decide) rfl hx0 ?_
  refine g_nmM (fun M2 eM2 => ?_)
  replace h := nm_s eM2 h
  refine g_iconst (v := 0) dX6_faultToldTo_10 rfl (i32l rfl) ?_
  refine g_istore_n (ls' := [(2, XI 0), (0, XR x0), (1, XR x1)]) dX6_faultToldTo_11 (by decide) rfl ?_
  refine g_pc (pc' := 12) rfl ?_
  obtain ⟨z36, hz36, rz36, h⟩ := lr_some h
  refine g_sub (ls' := [(0, XR x0), (1, XR x1), (2, XI 0)]) [1, 2, 0] rfl ?_
  refine lX6_faultToldTo_l12 hx0 hx1 1000 _ _ _ hz36 (fun r e => ?_)
  have rz36 := rz36 r e
  subst rz36
  exact ⟨rfl, rfl⟩
def fX8_candidate (x0 : Nat) (M : Mem) : Option (Int × Mem) := (if (M (x0 + 10990) 0) < 8 then nm ((M (x0 + 10990) 0)) (fun v2 => if 0 ≤ v2 ∧ v2 < 8 then nm (wr M ((x0 + 10990) + 2) (Int.toNat v2) v2) (fun M4 => if 0 ≤ v2 ∧ v2 < 8 then nm (wr M4 ((x0 + 10990) + 3) (Int.toNat v2) 0) (fun M6 => if -2147483648 ≤ (v2 + 1) ∧ (v2 + 1) ≤ 2147483647 then nm (wr M6 (x0 + 10990) 0 (v2 + 1)) (fun M8 => nm (wr M8 x0 6 0) (fun M9 => some (v2, M9))) else none) else none) else none) else some ((-4), M))
set_option maxRecDepth 20000 in
theorem kX8_candidate {X : XC} {d : Nat} {x0 : Nat} (hx0 : Sh x0 = (17, 10)) {M : Mem} {q : Int × Mem} (h : fX8_candidate x0 M = some q) : Ct X mX8_candidate d [XR x0] M (pI q) := by
  unfold fX8_candidate at h
  refine ct_go (by decide +kernel) (Nat.le_of_ble_eq_true rfl) (ls := [(0, XR x0)]) rfl ?_
  refine g_aload_n 0 dX8_candidate_0 rfl ?_
  refine g_getR dX8_candidate_1 flX8_14 (by decide) rfl hx0 ?_
  refine g_getI dX8_candidate_4 flX8_64 (by decide) rfl (sf_7_0 hx0) ?_
  refine g_bip dX8_candidate_7 rfl ?_
  refine g_icmp_lt (tgt := 15) dX8_candidate_9 (by decide) (fun b1 => ?_) (fun b1 => ?_)
  · replace h := ifp b1 h
    refine g_aload_n 0 dX8_candidate_15 rfl ?_
    refine g_getR dX8_candidate_16 flX8_14 (by decide) rfl hx0 ?_
    refine g_getI dX8_candidate_19 flX8_64 (by decide) rfl (sf_7_0 hx0) ?_
    refine g_nmI (fun v2 ev2 => ?_)
    replace h := nm_s ev2 h
    refine g_istore_n (ls' := [(1, XI v2), (0, XR x0)]) dX8_candidate_22 (by decide) rfl ?_
    refine g_aload_n 1 dX8_candidate_23 rfl ?_
    refine g_getR dX8_candidate_24 flX8_14 (by decide) rfl hx0 ?_
    refine g_getR dX8_candidate_27 flX8_68 (by decide) rfl (sf_7_0 hx0) ?_
    refine g_iload_n 0 dX8_candidate_30 rfl ?_
    refine g_pc (pc' := 31) rfl ?_
    refine g_iload_n 0 dX8_candidate_31 rfl ?_
    obtain ⟨c3, h⟩ := chk_some h
    refine g_iast dX8_candidate_32 (sf_1_1 (sf_7_0 hx0)) c3.1 c3.2 ?_
    refine g_nmM (fun M4 eM4 => ?_)
    replace h := nm_s eM4 h
    refine g_aload_n 1 dX8_candidate_33 rfl ?_
    refine g_getR dX8_candidate_34 flX8_14 (by decide) rfl hx0 ?_
    refine g_getR dX8_candidate_37 flX8_72 (by decide) rfl (sf_7_0 hx0) ?_
    refine g_iload_n 0 dX8_candidate_40 rfl ?_
    refine g_iconst (v := 0) dX8_candidate_41 rfl (i32l rfl) ?_
    obtain ⟨c5, h⟩ := chk_some h
    refine g_zast dX8_candidate_42 (sf_1_2 (sf_7_0 hx0)) c5.1 c5.2 (by decide) ?_
    refine g_nmM (fun M6 eM6 => ?_)
    replace h := nm_s eM6 h
    refine g_aload_n 1 dX8_candidate_43 rfl ?_
    refine g_pc (pc' := 44) rfl ?_
    refine g_getR dX8_candidate_44 flX8_14 (by decide) rfl hx0 ?_
    refine g_iload_n 0 dX8_candidate_47 rfl ?_
    refine g_iconst (v := 1) dX8_candidate_48 rfl (i32l rfl) ?_
    obtain ⟨c7, h⟩ := chk_some h
    refine g_iadd dX8_candidate_49 rfl c7 ?_
    refine g_putI dX8_candidate_50 flX8_64 (by decide) rfl (sf_7_0 hx0) ?_
    refine g_nmM (fun M8 eM8 => ?_)
    replace h := nm_s eM8 h
    refine g_aload_n 1 dX8_candidate_53 rfl ?_
    refine g_iconst (v := 0) dX8_candidate_54 rfl (i32l rfl) ?_
    refine g_putZ dX8_candidate_55 flX8_40 (by decide) rfl hx0 (by decide) ?_
    refine g_nmM (fun M9 eM9 => ?_)
    replace h := nm_s eM9 h
    refine g_iload_n 0 dX8_candidate_58 rfl ?_
    refine g_pc (pc' := 59) rfl ?_
    cases h
    exact g_ireturn dX8_candidate_59 rfl ⟨rfl, rfl⟩
  · replace h := ifn b1 h
    refine g_pc (pc' := 12) rfl ?_
    refine g_bip dX8_candidate_12 rfl ?_
    cases h
    exact g_ireturn dX8_candidate_14 rfl ⟨rfl, rfl⟩
def fX8_isOver_l20 (x0 : Nat) (x1 : Int) (x2 : Int) (x3 : Int) : Nat → Int → Int → Mem → Option ((Int × Mem) ⊕ (Int × Int × Mem))
  | 0, _, _, _ => none
  | n + 1, x4, x6, M => (if x3 < x6 then some (.inl (0, M)) else (if 24 ≤ x6 then some (.inl (0, M)) else Option.bind ((if x6 = x1 then some (x2) else if 0 ≤ x6 ∧ x6 < 25 then some ((M ((x0 + 10990) + 6) (Int.toNat x6))) else none) : Option (Int)) (fun t7 => if -9223372036854775808 ≤ (x4 + t7) ∧ (x4 + t7) ≤ 9223372036854775807 then nm ((x4 + t7)) (fun v11 => (if v11 ≤ 4611686 then if -2147483648 ≤ (x6 + 1) ∧ (x6 + 1) ≤ 2147483647 then fX8_isOver_l20 x0 x1 x2 x3 n v11 (x6 + 1) M else none else Option.bind (fX7_begin (x0 + 300) 5 (M (x0 + 10990) 3) M) (fun q14 => Option.bind (fX7_addCause (x0 + 300) 6 x6 q14.2) (fun q15 => Option.bind (fX7_addCause (x0 + 300) 7 0 q15.2) (fun q16 => some (.inl (1, q16.2))))))) else none)))
def fX8_isOver (x0 : Nat) (x1 : Int) (x2 : Int) (M : Mem) : Option (Int × Mem) := if -2147483648 ≤ ((M (x0 + 10990) 3) - 1) ∧ ((M (x0 + 10990) 3) - 1) ≤ 2147483647 then nm ((if ((M (x0 + 10990) 3) - 1) < x1 then x1 else ((M (x0 + 10990) 3) - 1))) (fun v2 => lr (fX8_isOver_l20 x0 x1 x2 v2 1000 0 0 M) (fun r => r) (fun _ => none)) else none
set_option maxRecDepth 20000 in
theorem lX8_isOver_l20 {X : XC} {d : Nat} {Post : Option XV → Mem → Prop} {x0 : Nat} {x1 : Int} {x2 : Int} {x3 : Int} (hx0 : Sh x0 = (17, 10)) : ∀ (n : Nat) (x4 x6 : Int) (M : Mem) (z : (Int × Mem) ⊕ (Int × Int × Mem)), fX8_isOver_l20 x0 x1 x2 x3 n x4 x6 M = some z → (∀ r, z = .inl r → Post (some (XI r.1)) r.2) → Go X mX8_isOver (d + 2) 20 [(0, XR x0), (1, XI x1), (2, XI x2), (3, XI x3), (4, XL x4), (6, XI x6)] [] M Post := by
  intro n
  induction n with
  | zero => intro _ _ _ _ h; cases h
  | succ n ih =>
    intro x4 x6 M z h K1
    unfold fX8_isOver_l20 at h
    refine g_iload 5 dX8_isOver_20 rfl ?_
    refine g_iload_n 3 dX8_isOver_22 rfl ?_
    refine g_icmp_gt (tgt := 113) dX8_isOver_23 (by decide) (fun b3 => ?_) (fun b3 => ?_)
    · replace h := ifp b3 h
      refine g_iconst (v := 0) dX8_isOver_113 rfl (i32l rfl) ?_
      cases h
      exact g_zreturn dX8_isOver_114 rfl (by decide) (K1 (0, M) rfl)
    · replace h := ifn b3 h
      refine g_pc (pc' := 26) rfl ?_
      refine g_iload 5 dX8_isOver_26 rfl ?_
      refine g_bip dX8_isOver_28 rfl ?_
      refine g_icmp_ge (tgt := 113) dX8_isOver_30 (by decide) (fun b4 => ?_) (fun b4 => ?_)
      · replace h := ifp b4 h
        refine g_iconst (v := 0) dX8_isOver_113 rfl (i32l rfl) ?_
        cases h
        exact g_zreturn dX8_isOver_114 rfl (by decide) (K1 (0, M) rfl)
      · replace h := ifn b4 h
        refine g_pc (pc' := 33) rfl ?_
        refine g_lload 4 dX8_isOver_33 rfl ?_
        refine g_iload 5 dX8_isOver_35 rfl ?_
        refine g_iload_n 1 dX8_isOver_37 rfl ?_
        obtain ⟨t7, ht7, h⟩ := bnd_some h
        have Kt7 : Go X mX8_isOver (d + 2) 57 [(0, XR x0), (1, XI x1), (2, XI x2), (3, XI x3), (6, XI x6)] [XL t7, XL x4] M Post := by
          obtain ⟨c10, h⟩ := chk_some h
          refine g_ladd dX8_isOver_57 rfl c10 ?_
          refine g_nmL (fun v11 ev11 => ?_)
          replace h := nm_s ev11 h
          refine g_lstore (ls' := [(4, XL v11), (0, XR x0), (1, XI x1), (2, XI x2), (3, XI x3), (6, XI x6)]) dX8_isOver_58 (by decide) rfl ?_
          refine g_lload 0 dX8_isOver_60 rfl ?_
          refine g_ldc2 (v := 4611686) dX8_isOver_62 csX8_131 (by decide +kernel) (i64l rfl) ?_
          refine g_lcmp_le (tgt := 107) dX8_isOver_65 dX8_isOver_66 (by decide) (fun b12 => ?_) (fun b12 => ?_)
          · replace h := ifp b12 h
            obtain ⟨c13, h⟩ := chk_some h
            refine g_iinc (ls' := [(6, XI (x6 + 1)), (4, XL v11), (0, XR x0), (1, XI x1), (2, XI x2), (3, XI x3)]) 5 dX8_isOver_107 rfl rfl c13 (by decide) rfl ?_
            refine g_goto (tgt := 20) dX8_isOver_110 (by decide) ?_
            exact g_sub [2, 3, 4, 5, 1, 0] rfl (ih _ _ _ _ h K1)
          · replace h := ifn b12 h
            refine g_pc (pc' := 69) rfl ?_
            refine g_aload_n 1 dX8_isOver_69 rfl ?_
            refine g_getR dX8_isOver_70 flX8_53 (by decide) rfl hx0 ?_
            refine g_iconst (v := 5) dX8_isOver_73 rfl (i32l rfl) ?_
            refine g_aload_n 1 dX8_isOver_74 rfl ?_
            refine g_getR dX8_isOver_75 flX8_14 (by decide) rfl hx0 ?_
            refine g_getI dX8_isOver_78 flX8_83 (by decide) rfl (sf_7_0 hx0) ?_
            obtain ⟨q14, hq14, h⟩ := bnd_some h
            refine v_V (ci := 6) (as := [XI 5, XI (M (x0 + 10990) 3)]) dX8_isOver_81 mlX8_133 mdX7_begin mvX7_begin rfl (sf_7_8 hx0) rfl (Nat.le_of_ble_eq_true rfl) (kX7_begin (sf_7_8 hx0) hq14) rfl ?_
            refine g_aload_n 1 dX8_isOver_84 rfl ?_
            refine g_pc (pc' := 85) rfl ?_
            refine g_getR dX8_isOver_85 flX8_53 (by decide) rfl hx0 ?_
            refine g_bip dX8_isOver_88 rfl ?_
            refine g_iload 5 dX8_isOver_90 rfl ?_
            obtain ⟨q15, hq15, h⟩ := bnd_some h
            refine v_V (ci := 6) (as := [XI 6, XI x6]) dX8_isOver_92 mlX8_137 mdX7_addCause mvX7_addCause rfl (sf_7_8 hx0) rfl (Nat.le_of_ble_eq_true rfl) (kX7_addCause (sf_7_8 hx0) hq15) rfl ?_
            refine g_aload_n 1 dX8_isOver_95 rfl ?_
            refine g_getR dX8_isOver_96 flX8_53 (by decide) rfl hx0 ?_
            refine g_bip dX8_isOver_99 rfl ?_
            refine g_iconst (v := 0) dX8_isOver_101 rfl (i32l rfl) ?_
            obtain ⟨q16, hq16, h⟩ := bnd_some h
            refine v_V (ci := 6) (as := [XI 7, XI 0]) dX8_isOver_102 mlX8_137 mdX7_addCause mvX7_addCause rfl (sf_7_8 hx0) rfl (Nat.le_of_ble_eq_true rfl) (kX7_addCause (sf_7_8 hx0) hq16) rfl ?_
            refine g_pc (pc' := 105) rfl ?_
            refine g_iconst (v := 1) dX8_isOver_105 rfl (i32l rfl) ?_
            cases h
            exact g_zreturn dX8_isOver_106 rfl (by decide) (K1 (1, q16.2) rfl)
        refine g_icmp_ne (tgt := 46) dX8_isOver_38 (by decide) (fun b8 => ?_) (fun b8 => ?_)
        · replace ht7 := ifn b8 ht7
          refine g_aload_n 0 dX8_isOver_46 rfl ?_
          refine g_getR dX8_isOver_47 flX8_14 (by decide) rfl hx0 ?_
          refine g_getR dX8_isOver_50 flX8_96 (by decide) rfl (sf_7_0 hx0) ?_
          refine g_iload 5 dX8_isOver_53 rfl ?_
          obtain ⟨c9, ht7⟩ := chk_some ht7
          refine g_iald dX8_isOver_55 (sf_1_5 (sf_7_0 hx0)) c9.1 c9.2 ?_
          refine g_i2l dX8_isOver_56 ?_
          cases ht7
          exact g_sub [0, 1, 2, 3, 5] rfl Kt7
        · replace ht7 := ifp b8 ht7
          refine g_pc (pc' := 41) rfl ?_
          refine g_iload_n 2 dX8_isOver_41 rfl ?_
          refine g_i2l dX8_isOver_42 ?_
          refine g_goto (tgt := 57) dX8_isOver_43 (by decide) ?_
          cases ht7
          exact g_sub [0, 1, 2, 3, 5] rfl Kt7
set_option maxRecDepth 20000 in
theorem kX8_isOver {X : XC} {d : Nat} {x0 : Nat} {x1 : Int} {x2 : Int} (hx0 : Sh x0 = (17, 10)) {M : Mem} {q : Int × Mem} (h : fX8_isOver x0 x1 x2 M = some q) : Ct X mX8_isOver (d + 2) [XR x0, XI x1, XI x2] M (pI q) := by
  unfold fX8_isOver at h
  refine ct_go (by decide +kernel) (Nat.le_of_ble_eq_true rfl) (ls := [(0, XR x0), (1, XI x1), (2, XI x2)]) rfl ?_
  refine g_aload_n 0 dX8_isOver_0 rfl ?_
  refine g_getR dX8_isOver_1 flX8_14 (by decide) rfl hx0 ?_
  refine g_getI dX8_isOver_4 flX8_83 (by decide) rfl (sf_7_0 hx0) ?_
  refine g_iconst (v := 1) dX8_isOver_7 rfl (i32l rfl) ?_
  obtain ⟨c1, h⟩ := chk_some h
  refine g_isub dX8_isOver_8 rfl c1 ?_
  refine g_iload_n 1 dX8_isOver_9 rfl ?_
  refine g_maxI dX8_isOver_10 mlX8_125 (Nat.le_of_ble_eq_true rfl) ?_
  refine g_nmI (fun v2 ev2 => ?_)
  replace h := nm_s ev2 h
  refine g_istore_n (ls' := [(3, XI v2), (0, XR x0), (1, XI x1), (2, XI x2)]) dX8_isOver_13 (by decide) rfl ?_
  refine g_pc (pc' := 14) rfl ?_
  refine g_lconst (v := 0) dX8_isOver_14 rfl (i64l rfl) ?_
  refine g_lstore (ls' := [(4, XL 0), (3, XI v2), (0, XR x0), (1, XI x1), (2, XI x2)]) dX8_isOver_15 (by decide) rfl ?_
  refine g_iconst (v := 0) dX8_isOver_17 rfl (i32l rfl) ?_
  refine g_istore (ls' := [(6, XI 0), (4, XL 0), (3, XI v2), (0, XR x0), (1, XI x1), (2, XI x2)]) dX8_isOver_18 (by decide) rfl ?_
  obtain ⟨z17, hz17, rz17, h⟩ := lr_some h
  refine g_sub (ls' := [(0, XR x0), (1, XI x1), (2, XI x2), (3, XI v2), (4, XL 0), (6, XI 0)]) [3, 4, 5, 2, 1, 0] rfl ?_
  refine lX8_isOver_l20 hx0 1000 _ _ _ _ hz17 (fun r e => ?_)
  have rz17 := rz17 r e
  subst rz17
  exact ⟨rfl, rfl⟩
def fX8_ballot (x0 : Nat) (x1 : Int) (x2 : Int) (M : Mem) : Option (Int × Mem) := Option.bind (fX2_isRow x1 (M (x0 + 10990) 0) M) (fun q1 => (if q1.1 = 0 then some ((-2), q1.2) else (if x2 < 0 then some ((-2), q1.2) else (if x2 ≤ 1000000 then (if (q1.2 (x0 + 10990) 3) < 24 then nm ((q1.2 (x0 + 10990) 3)) (fun v6 => Option.bind (fX8_isOver x0 v6 x2 q1.2) (fun q7 => (if q7.1 = 0 then Option.bind (fX2_filledUp x1 q7.2) (fun q9 => if 0 ≤ v6 ∧ v6 < 25 then nm (wr q9.2 ((x0 + 10990) + 5) (Int.toNat v6) q9.1) (fun M11 => if 0 ≤ v6 ∧ v6 < 25 then nm (wr M11 ((x0 + 10990) + 6) (Int.toNat v6) x2) (fun M13 => if -2147483648 ≤ (v6 + 1) ∧ (v6 + 1) ≤ 2147483647 then nm (wr M13 (x0 + 10990) 3 (v6 + 1)) (fun M15 => nm (wr M15 x0 6 0) (fun M16 => some (v6, M16))) else none) else none) else none) else some ((-15), q7.2)))) else some ((-4), q1.2)) else some ((-2), q1.2)))))
set_option maxRecDepth 20000 in
theorem kX8_ballot {X : XC} {d : Nat} {x0 : Nat} {x1 : Int} {x2 : Int} (hx0 : Sh x0 = (17, 10)) {M : Mem} {q : Int × Mem} (h : fX8_ballot x0 x1 x2 M = some q) : Ct X mX8_ballot (d + 3) [XR x0, XI x1, XI x2] M (pI q) := by
  unfold fX8_ballot at h
  refine ct_go (by decide +kernel) (Nat.le_of_ble_eq_true rfl) (ls := [(0, XR x0), (1, XI x1), (2, XI x2)]) rfl ?_
  refine g_iload_n 1 dX8_ballot_0 rfl ?_
  refine g_aload_n 0 dX8_ballot_1 rfl ?_
  refine g_getR dX8_ballot_2 flX8_14 (by decide) rfl hx0 ?_
  refine g_getI dX8_ballot_5 flX8_64 (by decide) rfl (sf_7_0 hx0) ?_
  obtain ⟨q1, hq1, h⟩ := bnd_some h
  refine s_I (as := [XI x1, XI (M (x0 + 10990) 0)]) dX8_ballot_8 mlX8_76 mdX2_isRow msX2_isRow rfl (Nat.le_of_ble_eq_true rfl) (kX2_isRow  hq1) rfl ?_
  refine g_if_eq (tgt := 24) dX8_ballot_11 (by decide) (fun b2 => ?_) (fun b2 => ?_)
  · replace h := ifp b2 h
    refine g_bip dX8_ballot_24 rfl ?_
    cases h
    exact g_ireturn dX8_ballot_26 rfl ⟨rfl, rfl⟩
  · replace h := ifn b2 h
    refine g_pc (pc' := 14) rfl ?_
    refine g_iload_n 2 dX8_ballot_14 rfl ?_
    refine g_if_lt (tgt := 24) dX8_ballot_15 (by decide) (fun b3 => ?_) (fun b3 => ?_)
    · replace h := ifp b3 h
      refine g_bip dX8_ballot_24 rfl ?_
      cases h
      exact g_ireturn dX8_ballot_26 rfl ⟨rfl, rfl⟩
    · replace h := ifn b3 h
      refine g_pc (pc' := 18) rfl ?_
      refine g_iload_n 2 dX8_ballot_18 rfl ?_
      refine g_ldc (v := 1000000) dX8_ballot_19 csX8_82 (by decide +kernel) (i32l rfl) ?_
      refine g_icmp_le (tgt := 27) dX8_ballot_21 (by decide) (fun b4 => ?_) (fun b4 => ?_)
      · replace h := ifp b4 h
        refine g_aload_n 0 dX8_ballot_27 rfl ?_
        refine g_getR dX8_ballot_28 flX8_14 (by decide) rfl hx0 ?_
        refine g_getI dX8_ballot_31 flX8_83 (by decide) rfl (sf_7_0 hx0) ?_
        refine g_bip dX8_ballot_34 rfl ?_
        refine g_icmp_lt (tgt := 42) dX8_ballot_36 (by decide) (fun b5 => ?_) (fun b5 => ?_)
        · replace h := ifp b5 h
          refine g_aload_n 0 dX8_ballot_42 rfl ?_
          refine g_getR dX8_ballot_43 flX8_14 (by decide) rfl hx0 ?_
          refine g_getI dX8_ballot_46 flX8_83 (by decide) rfl (sf_7_0 hx0) ?_
          refine g_nmI (fun v6 ev6 => ?_)
          replace h := nm_s ev6 h
          refine g_istore_n (ls' := [(3, XI v6), (0, XR x0), (1, XI x1), (2, XI x2)]) dX8_ballot_49 (by decide) rfl ?_
          refine g_aload_n 1 dX8_ballot_50 rfl ?_
          refine g_iload_n 0 dX8_ballot_51 rfl ?_
          refine g_iload_n 3 dX8_ballot_52 rfl ?_
          obtain ⟨q7, hq7, h⟩ := bnd_some h
          refine v_I (ci := 7) (as := [XI v6, XI x2]) dX8_ballot_53 mlX8_86 mdX8_isOver mvX8_isOver rfl hx0 rfl (Nat.le_of_ble_eq_true rfl) (kX8_isOver hx0 hq7) rfl ?_
          refine g_pc (pc' := 56) rfl ?_
          refine g_if_eq (tgt := 62) dX8_ballot_56 (by decide) (fun b8 => ?_) (fun b8 => ?_)
          · replace h := ifp b8 h
            refine g_aload_n 1 dX8_ballot_62 rfl ?_
            refine g_getR dX8_ballot_63 flX8_14 (by decide) rfl hx0 ?_
            refine g_getR dX8_ballot_66 flX8_89 (by decide) rfl (sf_7_0 hx0) ?_
            refine g_iload_n 0 dX8_ballot_69 rfl ?_
            refine g_iload_n 2 dX8_ballot_70 rfl ?_
            obtain ⟨q9, hq9, h⟩ := bnd_some h
            refine s_I (as := [XI x1]) dX8_ballot_71 mlX8_92 mdX2_filledUp msX2_filledUp rfl (Nat.le_of_ble_eq_true rfl) (kX2_filledUp  hq9) rfl ?_
            obtain ⟨c10, h⟩ := chk_some h
            refine g_iast dX8_ballot_74 (sf_1_4 (sf_7_0 hx0)) c10.1 c10.2 ?_
            refine g_nmM (fun M11 eM11 => ?_)
            replace h := nm_s eM11 h
            refine g_aload_n 1 dX8_ballot_75 rfl ?_
            refine g_pc (pc' := 76) rfl ?_
            refine g_getR dX8_ballot_76 flX8_14 (by decide) rfl hx0 ?_
            refine g_getR dX8_ballot_79 flX8_96 (by decide) rfl (sf_7_0 hx0) ?_
            refine g_iload_n 0 dX8_ballot_82 rfl ?_
            refine g_iload_n 3 dX8_ballot_83 rfl ?_
            obtain ⟨c12, h⟩ := chk_some h
            refine g_iast dX8_ballot_84 (sf_1_5 (sf_7_0 hx0)) c12.1 c12.2 ?_
            refine g_nmM (fun M13 eM13 => ?_)
            replace h := nm_s eM13 h
            refine g_aload_n 1 dX8_ballot_85 rfl ?_
            refine g_getR dX8_ballot_86 flX8_14 (by decide) rfl hx0 ?_
            refine g_iload_n 0 dX8_ballot_89 rfl ?_
            refine g_iconst (v := 1) dX8_ballot_90 rfl (i32l rfl) ?_
            refine g_pc (pc' := 91) rfl ?_
            obtain ⟨c14, h⟩ := chk_some h
            refine g_iadd dX8_ballot_91 rfl c14 ?_
            refine g_putI dX8_ballot_92 flX8_83 (by decide) rfl (sf_7_0 hx0) ?_
            refine g_nmM (fun M15 eM15 => ?_)
            replace h := nm_s eM15 h
            refine g_aload_n 1 dX8_ballot_95 rfl ?_
            refine g_iconst (v := 0) dX8_ballot_96 rfl (i32l rfl) ?_
            refine g_putZ dX8_ballot_97 flX8_40 (by decide) rfl hx0 (by decide) ?_
            refine g_nmM (fun M16 eM16 => ?_)
            replace h := nm_s eM16 h
            refine g_iload_n 0 dX8_ballot_100 rfl ?_
            cases h
            exact g_ireturn dX8_ballot_101 rfl ⟨rfl, rfl⟩
          · replace h := ifn b8 h
            refine g_pc (pc' := 59) rfl ?_
            refine g_bip dX8_ballot_59 rfl ?_
            cases h
            exact g_ireturn dX8_ballot_61 rfl ⟨rfl, rfl⟩
        · replace h := ifn b5 h
          refine g_pc (pc' := 39) rfl ?_
          refine g_bip dX8_ballot_39 rfl ?_
          cases h
          exact g_ireturn dX8_ballot_41 rfl ⟨rfl, rfl⟩
      · replace h := ifn b4 h
        refine g_pc (pc' := 24) rfl ?_
        refine g_bip dX8_ballot_24 rfl ?_
        cases h
        exact g_ireturn dX8_ballot_26 rfl ⟨rfl, rfl⟩
def fX8_many (x0 : Nat) (x1 : Int) (x2 : Int) (M : Mem) : Option (Int × Mem) := Option.bind (fX1_hasBallot (x0 + 10990) x1 M) (fun q1 => (if q1.1 = 0 then some ((-1), q1.2) else (if x2 < 0 then some ((-2), q1.2) else (if x2 ≤ 1000000 then Option.bind (fX8_isOver x0 x1 x2 q1.2) (fun q5 => (if q5.1 = 0 then if 0 ≤ x1 ∧ x1 < 25 then nm ((q5.2 ((x0 + 10990) + 6) (Int.toNat x1))) (fun v8 => if 0 ≤ x1 ∧ x1 < 25 then nm (wr q5.2 ((x0 + 10990) + 6) (Int.toNat x1) x2) (fun M10 => nm (wr M10 x0 6 0) (fun M11 => some (v8, M11))) else none) else none else some ((-15), q5.2))) else some ((-2), q1.2)))))
set_option maxRecDepth 20000 in
theorem kX8_many {X : XC} {d : Nat} {x0 : Nat} {x1 : Int} {x2 : Int} (hx0 : Sh x0 = (17, 10)) {M : Mem} {q : Int × Mem} (h : fX8_many x0 x1 x2 M = some q) : Ct X mX8_many (d + 3) [XR x0, XI x1, XI x2] M (pI q) := by
  unfold fX8_many at h
  refine ct_go (by decide +kernel) (Nat.le_of_ble_eq_true rfl) (ls := [(0, XR x0), (1, XI x1), (2, XI x2)]) rfl ?_
  refine g_aload_n 0 dX8_many_0 rfl ?_
  refine g_getR dX8_many_1 flX8_14 (by decide) rfl hx0 ?_
  refine g_iload_n 1 dX8_many_4 rfl ?_
  obtain ⟨q1, hq1, h⟩ := bnd_some h
  refine v_I (ci := 1) (as := [XI x1]) dX8_many_5 mlX8_99 mdX1_hasBallot mvX1_hasBallot rfl (sf_7_0 hx0) rfl (Nat.le_of_ble_eq_true rfl) (kX1_hasBallot (sf_7_0 hx0) hq1) rfl ?_
  refine g_if_ne (tgt := 13) dX8_many_8 (by decide) (fun b2 => ?_) (fun b2 => ?_)
  · replace h := ifn b2 h
    refine g_iload_n 2 dX8_many_13 rfl ?_
    refine g_if_lt (tgt := 23) dX8_many_14 (by decide) (fun b3 => ?_) (fun b3 => ?_)
    · replace h := ifp b3 h
      refine g_bip dX8_many_23 rfl ?_
      cases h
      exact g_ireturn dX8_many_25 rfl ⟨rfl, rfl⟩
    · replace h := ifn b3 h
      refine g_pc (pc' := 17) rfl ?_
      refine g_iload_n 2 dX8_many_17 rfl ?_
      refine g_ldc (v := 1000000) dX8_many_18 csX8_82 (by decide +kernel) (i32l rfl) ?_
      refine g_icmp_le (tgt := 26) dX8_many_20 (by decide) (fun b4 => ?_) (fun b4 => ?_)
      · replace h := ifp b4 h
        refine g_aload_n 0 dX8_many_26 rfl ?_
        refine g_iload_n 1 dX8_many_27 rfl ?_
        refine g_iload_n 2 dX8_many_28 rfl ?_
        obtain ⟨q5, hq5, h⟩ := bnd_some h
        refine v_I (ci := 7) (as := [XI x1, XI x2]) dX8_many_29 mlX8_86 mdX8_isOver mvX8_isOver rfl hx0 rfl (Nat.le_of_ble_eq_true rfl) (kX8_isOver hx0 hq5) rfl ?_
        refine g_if_eq (tgt := 38) dX8_many_32 (by decide) (fun b6 => ?_) (fun b6 => ?_)
        · replace h := ifp b6 h
          refine g_aload_n 0 dX8_many_38 rfl ?_
          refine g_getR dX8_many_39 flX8_14 (by decide) rfl hx0 ?_
          refine g_getR dX8_many_42 flX8_96 (by decide) rfl (sf_7_0 hx0) ?_
          refine g_iload_n 1 dX8_many_45 rfl ?_
          obtain ⟨c7, h⟩ := chk_some h
          refine g_iald dX8_many_46 (sf_1_5 (sf_7_0 hx0)) c7.1 c7.2 ?_
          refine g_nmI (fun v8 ev8 => ?_)
          replace h := nm_s ev8 h
          refine g_istore_n (ls' := [(3, XI v8), (0, XR x0), (1, XI x1), (2, XI x2)]) dX8_many_47 (by decide) rfl ?_
          refine g_aload_n 1 dX8_many_48 rfl ?_
          refine g_getR dX8_many_49 flX8_14 (by decide) rfl hx0 ?_
          refine g_pc (pc' := 52) rfl ?_
          refine g_getR dX8_many_52 flX8_96 (by decide) rfl (sf_7_0 hx0) ?_
          refine g_iload_n 2 dX8_many_55 rfl ?_
          refine g_iload_n 3 dX8_many_56 rfl ?_
          obtain ⟨c9, h⟩ := chk_some h
          refine g_iast dX8_many_57 (sf_1_5 (sf_7_0 hx0)) c9.1 c9.2 ?_
          refine g_nmM (fun M10 eM10 => ?_)
          replace h := nm_s eM10 h
          refine g_aload_n 1 dX8_many_58 rfl ?_
          refine g_iconst (v := 0) dX8_many_59 rfl (i32l rfl) ?_
          refine g_putZ dX8_many_60 flX8_40 (by decide) rfl hx0 (by decide) ?_
          refine g_nmM (fun M11 eM11 => ?_)
          replace h := nm_s eM11 h
          refine g_iload_n 0 dX8_many_63 rfl ?_
          cases h
          exact g_ireturn dX8_many_64 rfl ⟨rfl, rfl⟩
        · replace h := ifn b6 h
          refine g_pc (pc' := 35) rfl ?_
          refine g_bip dX8_many_35 rfl ?_
          cases h
          exact g_ireturn dX8_many_37 rfl ⟨rfl, rfl⟩
      · replace h := ifn b4 h
        refine g_pc (pc' := 23) rfl ?_
        refine g_bip dX8_many_23 rfl ?_
        cases h
        exact g_ireturn dX8_many_25 rfl ⟨rfl, rfl⟩
  · replace h := ifp b2 h
    refine g_pc (pc' := 11) rfl ?_
    refine g_iconst (v := -1) dX8_many_11 rfl (i32l rfl) ?_
    cases h
    exact g_ireturn dX8_many_12 rfl ⟨rfl, rfl⟩
def fX8_drop (x0 : Nat) (M : Mem) : Option (Int × Mem) := (if 0 < (M (x0 + 10990) 3) then if -2147483648 ≤ ((M (x0 + 10990) 3) - 1) ∧ ((M (x0 + 10990) 3) - 1) ≤ 2147483647 then nm (wr M (x0 + 10990) 3 ((M (x0 + 10990) 3) - 1)) (fun M3 => nm (wr M3 x0 6 0) (fun M4 => some ((M4 (x0 + 10990) 3), M4))) else none else some ((-3), M))
set_option maxRecDepth 20000 in
theorem kX8_drop {X : XC} {d : Nat} {x0 : Nat} (hx0 : Sh x0 = (17, 10)) {M : Mem} {q : Int × Mem} (h : fX8_drop x0 M = some q) : Ct X mX8_drop d [XR x0] M (pI q) := by
  unfold fX8_drop at h
  refine ct_go (by decide +kernel) (Nat.le_of_ble_eq_true rfl) (ls := [(0, XR x0)]) rfl ?_
  refine g_aload_n 0 dX8_drop_0 rfl ?_
  refine g_getR dX8_drop_1 flX8_14 (by decide) rfl hx0 ?_
  refine g_getI dX8_drop_4 flX8_83 (by decide) rfl (sf_7_0 hx0) ?_
  refine g_if_gt (tgt := 13) dX8_drop_7 (by decide) (fun b1 => ?_) (fun b1 => ?_)
  · replace h := ifp b1 h
    refine g_aload_n 0 dX8_drop_13 rfl ?_
    refine g_getR dX8_drop_14 flX8_14 (by decide) rfl hx0 ?_
    refine g_dupR dX8_drop_17 ?_
    refine g_getI dX8_drop_18 flX8_83 (by decide) rfl (sf_7_0 hx0) ?_
    refine g_iconst (v := 1) dX8_drop_21 rfl (i32l rfl) ?_
    obtain ⟨c2, h⟩ := chk_some h
    refine g_isub dX8_drop_22 rfl c2 ?_
    refine g_putI dX8_drop_23 flX8_83 (by decide) rfl (sf_7_0 hx0) ?_
    refine g_nmM (fun M3 eM3 => ?_)
    replace h := nm_s eM3 h
    refine g_aload_n 0 dX8_drop_26 rfl ?_
    refine g_pc (pc' := 27) rfl ?_
    refine g_iconst (v := 0) dX8_drop_27 rfl (i32l rfl) ?_
    refine g_putZ dX8_drop_28 flX8_40 (by decide) rfl hx0 (by decide) ?_
    refine g_nmM (fun M4 eM4 => ?_)
    replace h := nm_s eM4 h
    refine g_aload_n 0 dX8_drop_31 rfl ?_
    refine g_getR dX8_drop_32 flX8_14 (by decide) rfl hx0 ?_
    refine g_getI dX8_drop_35 flX8_83 (by decide) rfl (sf_7_0 hx0) ?_
    cases h
    exact g_ireturn dX8_drop_38 rfl ⟨rfl, rfl⟩
  · replace h := ifn b1 h
    refine g_pc (pc' := 10) rfl ?_
    refine g_bip dX8_drop_10 rfl ?_
    cases h
    exact g_ireturn dX8_drop_12 rfl ⟨rfl, rfl⟩
def fX8_gone (x0 : Nat) (x1 : Int) (x2 : Int) (M : Mem) : Option (Int × Mem) := Option.bind (fX1_hasCandidate (x0 + 10990) x1 M) (fun q1 => (if q1.1 = 0 then some ((-1), q1.2) else if 0 ≤ x1 ∧ x1 < 8 then Option.bind ((if (q1.2 ((x0 + 10990) + 3) (Int.toNat x1)) = 0 then some (0) else some (1)) : Option (Int)) (fun t5 => if 0 ≤ x1 ∧ x1 < 8 then if x2 = 0 ∨ x2 = 1 then nm (wr q1.2 ((x0 + 10990) + 3) (Int.toNat x1) x2) (fun M9 => nm (wr M9 x0 6 0) (fun M10 => some (t5, M10))) else none else none) else none))
set_option maxRecDepth 20000 in
theorem kX8_gone {X : XC} {d : Nat} {x0 : Nat} {x1 : Int} {x2 : Int} (hx0 : Sh x0 = (17, 10)) {M : Mem} {q : Int × Mem} (h : fX8_gone x0 x1 x2 M = some q) : Ct X mX8_gone (d + 1) [XR x0, XI x1, XI x2] M (pI q) := by
  unfold fX8_gone at h
  refine ct_go (by decide +kernel) (Nat.le_of_ble_eq_true rfl) (ls := [(0, XR x0), (1, XI x1), (2, XI x2)]) rfl ?_
  refine g_aload_n 0 dX8_gone_0 rfl ?_
  refine g_getR dX8_gone_1 flX8_14 (by decide) rfl hx0 ?_
  refine g_iload_n 1 dX8_gone_4 rfl ?_
  obtain ⟨q1, hq1, h⟩ := bnd_some h
  refine v_I (ci := 1) (as := [XI x1]) dX8_gone_5 mlX8_103 mdX1_hasCandidate mvX1_hasCandidate rfl (sf_7_0 hx0) rfl (Nat.le_of_ble_eq_true rfl) (kX1_hasCandidate (sf_7_0 hx0) hq1) rfl ?_
  refine g_if_ne (tgt := 13) dX8_gone_8 (by decide) (fun b2 => ?_) (fun b2 => ?_)
  · replace h := ifn b2 h
    refine g_aload_n 0 dX8_gone_13 rfl ?_
    refine g_getR dX8_gone_14 flX8_14 (by decide) rfl hx0 ?_
    refine g_getR dX8_gone_17 flX8_72 (by decide) rfl (sf_7_0 hx0) ?_
    refine g_iload_n 1 dX8_gone_20 rfl ?_
    obtain ⟨c3, h⟩ := chk_some h
    refine g_zald dX8_gone_21 (sf_1_2 (sf_7_0 hx0)) c3.1 c3.2 ?_
    obtain ⟨t5, ht5, h⟩ := bnd_some h
    have Kt5 : Go X mX8_gone (d + 1) 30 [(0, XR x0), (1, XI x1), (2, XI x2)] [XI t5] q1.2 (pI q) := by
      refine g_istore_n (ls' := [(3, XI t5), (0, XR x0), (1, XI x1), (2, XI x2)]) dX8_gone_30 (by decide) rfl ?_
      refine g_aload_n 1 dX8_gone_31 rfl ?_
      refine g_getR dX8_gone_32 flX8_14 (by decide) rfl hx0 ?_
      refine g_getR dX8_gone_35 flX8_72 (by decide) rfl (sf_7_0 hx0) ?_
      refine g_iload_n 2 dX8_gone_38 rfl ?_
      refine g_iload_n 3 dX8_gone_39 rfl ?_
      obtain ⟨c7, h⟩ := chk_some h
      obtain ⟨c8, h⟩ := chk_some h
      refine g_zast dX8_gone_40 (sf_1_2 (sf_7_0 hx0)) c7.1 c7.2 c8 ?_
      refine g_nmM (fun M9 eM9 => ?_)
      replace h := nm_s eM9 h
      refine g_aload_n 1 dX8_gone_41 rfl ?_
      refine g_pc (pc' := 42) rfl ?_
      refine g_iconst (v := 0) dX8_gone_42 rfl (i32l rfl) ?_
      refine g_putZ dX8_gone_43 flX8_40 (by decide) rfl hx0 (by decide) ?_
      refine g_nmM (fun M10 eM10 => ?_)
      replace h := nm_s eM10 h
      refine g_iload_n 0 dX8_gone_46 rfl ?_
      cases h
      exact g_ireturn dX8_gone_47 rfl ⟨rfl, rfl⟩
    refine g_if_eq (tgt := 29) dX8_gone_22 (by decide) (fun b6 => ?_) (fun b6 => ?_)
    · replace ht5 := ifp b6 ht5
      refine g_iconst (v := 0) dX8_gone_29 rfl (i32l rfl) ?_
      cases ht5
      exact g_sub [0, 1, 2] rfl Kt5
    · replace ht5 := ifn b6 ht5
      refine g_pc (pc' := 25) rfl ?_
      refine g_iconst (v := 1) dX8_gone_25 rfl (i32l rfl) ?_
      refine g_goto (tgt := 30) dX8_gone_26 (by decide) ?_
      cases ht5
      exact g_sub [0, 1, 2] rfl Kt5
  · replace h := ifp b2 h
    refine g_pc (pc' := 11) rfl ?_
    refine g_iconst (v := -1) dX8_gone_11 rfl (i32l rfl) ?_
    cases h
    exact g_ireturn dX8_gone_12 rfl ⟨rfl, rfl⟩
def fX8_putSeats (x0 : Nat) (x1 : Int) (M : Mem) : Option (Int × Mem) := nm ((M (x0 + 10990) 6)) (fun v1 => nm (wr M (x0 + 10990) 6 x1) (fun M2 => nm (wr M2 x0 6 0) (fun M3 => some (v1, M3))))
set_option maxRecDepth 20000 in
theorem kX8_putSeats {X : XC} {d : Nat} {x0 : Nat} {x1 : Int} (hx0 : Sh x0 = (17, 10)) {M : Mem} {q : Int × Mem} (h : fX8_putSeats x0 x1 M = some q) : Ct X mX8_putSeats d [XR x0, XI x1] M (pI q) := by
  unfold fX8_putSeats at h
  refine ct_go (by decide +kernel) (Nat.le_of_ble_eq_true rfl) (ls := [(0, XR x0), (1, XI x1)]) rfl ?_
  refine g_aload_n 0 dX8_putSeats_0 rfl ?_
  refine g_getR dX8_putSeats_1 flX8_14 (by decide) rfl hx0 ?_
  refine g_getI dX8_putSeats_4 flX8_116 (by decide) rfl (sf_7_0 hx0) ?_
  refine g_nmI (fun v1 ev1 => ?_)
  replace h := nm_s ev1 h
  refine g_istore_n (ls' := [(2, XI v1), (0, XR x0), (1, XI x1)]) dX8_putSeats_7 (by decide) rfl ?_
  refine g_aload_n 1 dX8_putSeats_8 rfl ?_
  refine g_getR dX8_putSeats_9 flX8_14 (by decide) rfl hx0 ?_
  refine g_iload_n 2 dX8_putSeats_12 rfl ?_
  refine g_putI dX8_putSeats_13 flX8_116 (by decide) rfl (sf_7_0 hx0) ?_
  refine g_nmM (fun M2 eM2 => ?_)
  replace h := nm_s eM2 h
  refine g_pc (pc' := 16) rfl ?_
  refine g_aload_n 1 dX8_putSeats_16 rfl ?_
  refine g_iconst (v := 0) dX8_putSeats_17 rfl (i32l rfl) ?_
  refine g_putZ dX8_putSeats_18 flX8_40 (by decide) rfl hx0 (by decide) ?_
  refine g_nmM (fun M3 eM3 => ?_)
  replace h := nm_s eM3 h
  refine g_iload_n 0 dX8_putSeats_21 rfl ?_
  cases h
  exact g_ireturn dX8_putSeats_22 rfl ⟨rfl, rfl⟩
def fX8_putLimit (x0 : Nat) (x1 : Int) (M : Mem) : Option (Int × Mem) := nm ((M (x0 + 10990) 7)) (fun v1 => nm (wr M (x0 + 10990) 7 x1) (fun M2 => nm (wr M2 x0 6 0) (fun M3 => some (v1, M3))))
set_option maxRecDepth 20000 in
theorem kX8_putLimit {X : XC} {d : Nat} {x0 : Nat} {x1 : Int} (hx0 : Sh x0 = (17, 10)) {M : Mem} {q : Int × Mem} (h : fX8_putLimit x0 x1 M = some q) : Ct X mX8_putLimit d [XR x0, XI x1] M (pI q) := by
  unfold fX8_putLimit at h
  refine ct_go (by decide +kernel) (Nat.le_of_ble_eq_true rfl) (ls := [(0, XR x0), (1, XI x1)]) rfl ?_
  refine g_aload_n 0 dX8_putLimit_0 rfl ?_
  refine g_getR dX8_putLimit_1 flX8_14 (by decide) rfl hx0 ?_
  refine g_getI dX8_putLimit_4 flX8_119 (by decide) rfl (sf_7_0 hx0) ?_
  refine g_nmI (fun v1 ev1 => ?_)
  replace h := nm_s ev1 h
  refine g_istore_n (ls' := [(2, XI v1), (0, XR x0), (1, XI x1)]) dX8_putLimit_7 (by decide) rfl ?_
  refine g_aload_n 1 dX8_putLimit_8 rfl ?_
  refine g_getR dX8_putLimit_9 flX8_14 (by decide) rfl hx0 ?_
  refine g_iload_n 2 dX8_putLimit_12 rfl ?_
  refine g_putI dX8_putLimit_13 flX8_119 (by decide) rfl (sf_7_0 hx0) ?_
  refine g_nmM (fun M2 eM2 => ?_)
  replace h := nm_s eM2 h
  refine g_pc (pc' := 16) rfl ?_
  refine g_aload_n 1 dX8_putLimit_16 rfl ?_
  refine g_iconst (v := 0) dX8_putLimit_17 rfl (i32l rfl) ?_
  refine g_putZ dX8_putLimit_18 flX8_40 (by decide) rfl hx0 (by decide) ?_
  refine g_nmM (fun M3 eM3 => ?_)
  replace h := nm_s eM3 h
  refine g_iload_n 0 dX8_putLimit_21 rfl ?_
  cases h
  exact g_ireturn dX8_putLimit_22 rfl ⟨rfl, rfl⟩
def fX8_putRounds (x0 : Nat) (x1 : Int) (M : Mem) : Option (Int × Mem) := nm ((M (x0 + 10990) 8)) (fun v1 => nm (wr M (x0 + 10990) 8 x1) (fun M2 => nm (wr M2 x0 6 0) (fun M3 => some (v1, M3))))
set_option maxRecDepth 20000 in
theorem kX8_putRounds {X : XC} {d : Nat} {x0 : Nat} {x1 : Int} (hx0 : Sh x0 = (17, 10)) {M : Mem} {q : Int × Mem} (h : fX8_putRounds x0 x1 M = some q) : Ct X mX8_putRounds d [XR x0, XI x1] M (pI q) := by
  unfold fX8_putRounds at h
  refine ct_go (by decide +kernel) (Nat.le_of_ble_eq_true rfl) (ls := [(0, XR x0), (1, XI x1)]) rfl ?_
  refine g_aload_n 0 dX8_putRounds_0 rfl ?_
  refine g_getR dX8_putRounds_1 flX8_14 (by decide) rfl hx0 ?_
  refine g_getI dX8_putRounds_4 flX8_122 (by decide) rfl (sf_7_0 hx0) ?_
  refine g_nmI (fun v1 ev1 => ?_)
  replace h := nm_s ev1 h
  refine g_istore_n (ls' := [(2, XI v1), (0, XR x0), (1, XI x1)]) dX8_putRounds_7 (by decide) rfl ?_
  refine g_aload_n 1 dX8_putRounds_8 rfl ?_
  refine g_getR dX8_putRounds_9 flX8_14 (by decide) rfl hx0 ?_
  refine g_iload_n 2 dX8_putRounds_12 rfl ?_
  refine g_putI dX8_putRounds_13 flX8_122 (by decide) rfl (sf_7_0 hx0) ?_
  refine g_nmM (fun M2 eM2 => ?_)
  replace h := nm_s eM2 h
  refine g_pc (pc' := 16) rfl ?_
  refine g_aload_n 1 dX8_putRounds_16 rfl ?_
  refine g_iconst (v := 0) dX8_putRounds_17 rfl (i32l rfl) ?_
  refine g_putZ dX8_putRounds_18 flX8_40 (by decide) rfl hx0 (by decide) ?_
  refine g_nmM (fun M3 eM3 => ?_)
  replace h := nm_s eM3 h
  refine g_iload_n 0 dX8_putRounds_21 rfl ?_
  cases h
  exact g_ireturn dX8_putRounds_22 rfl ⟨rfl, rfl⟩
def fX8_set (x0 : Nat) (x1 : Int) (x2 : Int) (M : Mem) : Option (Int × Mem) := (if x1 = 0 then Option.bind ((if x2 < 1 then some ((-2), M) else (if x2 ≤ 7 then Option.bind (fX8_putSeats x0 x2 M) (fun q8 => some (q8.1, q8.2)) else some ((-2), M))) : Option (Int × Mem)) (fun t5 => some (t5.1, t5.2)) else if x1 = 1 then Option.bind ((if x2 < 0 then some ((-2), M) else (if x2 ≤ 1000000000 then Option.bind (fX8_putLimit x0 x2 M) (fun q16 => some (q16.1, q16.2)) else some ((-2), M))) : Option (Int × Mem)) (fun t13 => some (t13.1, t13.2)) else if x1 = 2 then Option.bind ((if x2 < 1 then some ((-2), M) else (if x2 ≤ 20 then Option.bind (fX8_putRounds x0 x2 M) (fun q24 => some (q24.1, q24.2)) else some ((-2), M))) : Option (Int × Mem)) (fun t21 => some (t21.1, t21.2)) else some ((-1), M))
set_option maxRecDepth 20000 in
theorem kX8_set {X : XC} {d : Nat} {x0 : Nat} {x1 : Int} {x2 : Int} (hx0 : Sh x0 = (17, 10)) {M : Mem} {q : Int × Mem} (h : fX8_set x0 x1 x2 M = some q) : Ct X mX8_set (d + 1) [XR x0, XI x1, XI x2] M (pI q) := by
  unfold fX8_set at h
  refine ct_go (by decide +kernel) (Nat.le_of_ble_eq_true rfl) (ls := [(0, XR x0), (1, XI x1), (2, XI x2)]) rfl ?_
  refine g_iload_n 1 dX8_set_0 rfl ?_
  by_cases b1 : x1 = 0
  · replace h := ifp b1 h
    refine g_tswIn (off := 27) (tgt := 28) dX8_set_1 (by rw [b1]; decide) (by rw [b1]; decide) (by rw [b1]; rfl) (by decide) ?_
    refine g_iload_n 2 dX8_set_28 rfl ?_
    refine g_iconst (v := 1) dX8_set_29 rfl (i32l rfl) ?_
    obtain ⟨t5, ht5, h⟩ := bnd_some h
    have Kt5 : Go X mX8_set (d + 1) 49 [] [XI t5.1] t5.2 (pI q) := by
      cases h
      exact g_ireturn dX8_set_49 rfl ⟨rfl, rfl⟩
    refine g_icmp_lt (tgt := 39) dX8_set_30 (by decide) (fun b6 => ?_) (fun b6 => ?_)
    · replace ht5 := ifp b6 ht5
      refine g_bip dX8_set_39 rfl ?_
      refine g_goto (tgt := 49) dX8_set_41 (by decide) ?_
      cases ht5
      exact g_sub [] rfl Kt5
    · replace ht5 := ifn b6 ht5
      refine g_pc (pc' := 33) rfl ?_
      refine g_iload_n 2 dX8_set_33 rfl ?_
      refine g_bip dX8_set_34 rfl ?_
      refine g_icmp_le (tgt := 44) dX8_set_36 (by decide) (fun b7 => ?_) (fun b7 => ?_)
      · replace ht5 := ifp b7 ht5
        refine g_aload_n 0 dX8_set_44 rfl ?_
        refine g_iload_n 2 dX8_set_45 rfl ?_
        obtain ⟨q8, hq8, ht5⟩ := bnd_some ht5
        refine v_I (ci := 7) (as := [XI x2]) dX8_set_46 mlX8_106 mdX8_putSeats mvX8_putSeats rfl hx0 rfl (Nat.le_of_ble_eq_true rfl) (kX8_putSeats hx0 hq8) rfl ?_
        cases ht5
        exact g_sub [] rfl Kt5
      · replace ht5 := ifn b7 ht5
        refine g_pc (pc' := 39) rfl ?_
        refine g_bip dX8_set_39 rfl ?_
        refine g_goto (tgt := 49) dX8_set_41 (by decide) ?_
        cases ht5
        exact g_sub [] rfl Kt5
  · replace h := ifn b1 h
    by_cases b9 : x1 = 1
    · replace h := ifp b9 h
      refine g_tswIn (off := 49) (tgt := 50) dX8_set_1 (by rw [b9]; decide) (by rw [b9]; decide) (by rw [b9]; rfl) (by decide) ?_
      refine g_iload_n 2 dX8_set_50 rfl ?_
      obtain ⟨t13, ht13, h⟩ := bnd_some h
      have Kt13 : Go X mX8_set (d + 1) 70 [] [XI t13.1] t13.2 (pI q) := by
        cases h
        exact g_ireturn dX8_set_70 rfl ⟨rfl, rfl⟩
      refine g_if_lt (tgt := 60) dX8_set_51 (by decide) (fun b14 => ?_) (fun b14 => ?_)
      · replace ht13 := ifp b14 ht13
        refine g_bip dX8_set_60 rfl ?_
        refine g_goto (tgt := 70) dX8_set_62 (by decide) ?_
        cases ht13
        exact g_sub [] rfl Kt13
      · replace ht13 := ifn b14 ht13
        refine g_pc (pc' := 54) rfl ?_
        refine g_iload_n 2 dX8_set_54 rfl ?_
        refine g_ldc (v := 1000000000) dX8_set_55 csX8_109 (by decide +kernel) (i32l rfl) ?_
        refine g_icmp_le (tgt := 65) dX8_set_57 (by decide) (fun b15 => ?_) (fun b15 => ?_)
        · replace ht13 := ifp b15 ht13
          refine g_aload_n 0 dX8_set_65 rfl ?_
          refine g_iload_n 2 dX8_set_66 rfl ?_
          obtain ⟨q16, hq16, ht13⟩ := bnd_some ht13
          refine v_I (ci := 7) (as := [XI x2]) dX8_set_67 mlX8_110 mdX8_putLimit mvX8_putLimit rfl hx0 rfl (Nat.le_of_ble_eq_true rfl) (kX8_putLimit hx0 hq16) rfl ?_
          cases ht13
          exact g_sub [] rfl Kt13
        · replace ht13 := ifn b15 ht13
          refine g_pc (pc' := 60) rfl ?_
          refine g_bip dX8_set_60 rfl ?_
          refine g_goto (tgt := 70) dX8_set_62 (by decide) ?_
          cases ht13
          exact g_sub [] rfl Kt13
    · replace h := ifn b9 h
      by_cases b17 : x1 = 2
      · replace h := ifp b17 h
        refine g_tswIn (off := 70) (tgt := 71) dX8_set_1 (by rw [b17]; decide) (by rw [b17]; decide) (by rw [b17]; rfl) (by decide) ?_
        refine g_iload_n 2 dX8_set_71 rfl ?_
        refine g_iconst (v := 1) dX8_set_72 rfl (i32l rfl) ?_
        obtain ⟨t21, ht21, h⟩ := bnd_some h
        have Kt21 : Go X mX8_set (d + 1) 92 [] [XI t21.1] t21.2 (pI q) := by
          cases h
          exact g_ireturn dX8_set_92 rfl ⟨rfl, rfl⟩
        refine g_icmp_lt (tgt := 82) dX8_set_73 (by decide) (fun b22 => ?_) (fun b22 => ?_)
        · replace ht21 := ifp b22 ht21
          refine g_bip dX8_set_82 rfl ?_
          refine g_goto (tgt := 92) dX8_set_84 (by decide) ?_
          cases ht21
          exact g_sub [] rfl Kt21
        · replace ht21 := ifn b22 ht21
          refine g_pc (pc' := 76) rfl ?_
          refine g_iload_n 2 dX8_set_76 rfl ?_
          refine g_bip dX8_set_77 rfl ?_
          refine g_icmp_le (tgt := 87) dX8_set_79 (by decide) (fun b23 => ?_) (fun b23 => ?_)
          · replace ht21 := ifp b23 ht21
            refine g_aload_n 0 dX8_set_87 rfl ?_
            refine g_iload_n 2 dX8_set_88 rfl ?_
            obtain ⟨q24, hq24, ht21⟩ := bnd_some ht21
            refine v_I (ci := 7) (as := [XI x2]) dX8_set_89 mlX8_113 mdX8_putRounds mvX8_putRounds rfl hx0 rfl (Nat.le_of_ble_eq_true rfl) (kX8_putRounds hx0 hq24) rfl ?_
            cases ht21
            exact g_sub [] rfl Kt21
          · replace ht21 := ifn b23 ht21
            refine g_pc (pc' := 82) rfl ?_
            refine g_bip dX8_set_82 rfl ?_
            refine g_goto (tgt := 92) dX8_set_84 (by decide) ?_
            cases ht21
            exact g_sub [] rfl Kt21
      · replace h := ifn b17 h
        refine g_tswOut (tgt := 93) dX8_set_1 (by omega) (by decide) ?_
        refine g_iconst (v := -1) dX8_set_93 rfl (i32l rfl) ?_
        cases h
        exact g_ireturn dX8_set_94 rfl ⟨rfl, rfl⟩
def fX8_swap (x0 : Nat) (x1 : Int) (x2 : Int) (M : Mem) : Option (Int × Mem) := Option.bind (fX1_hasCandidate (x0 + 10990) x1 M) (fun q1 => (if q1.1 = 0 then some ((-1), q1.2) else Option.bind (fX1_hasCandidate (x0 + 10990) x2 q1.2) (fun q3 => (if q3.1 = 0 then some ((-1), q3.2) else (if x1 = x2 then some ((-1), q3.2) else if 0 ≤ x1 ∧ x1 < 8 then nm ((q3.2 ((x0 + 10990) + 2) (Int.toNat x1))) (fun v7 => if 0 ≤ x2 ∧ x2 < 8 then if 0 ≤ x1 ∧ x1 < 8 then nm (wr q3.2 ((x0 + 10990) + 2) (Int.toNat x1) (q3.2 ((x0 + 10990) + 2) (Int.toNat x2))) (fun M10 => if 0 ≤ x2 ∧ x2 < 8 then nm (wr M10 ((x0 + 10990) + 2) (Int.toNat x2) v7) (fun M12 => nm (wr M12 x0 6 0) (fun M13 => if 0 ≤ x1 ∧ x1 < 8 then some ((M13 ((x0 + 10990) + 2) (Int.toNat x1)), M13) else none)) else none) else none else none) else none)))))
set_option maxRecDepth 20000 in
theorem kX8_swap {X : XC} {d : Nat} {x0 : Nat} {x1 : Int} {x2 : Int} (hx0 : Sh x0 = (17, 10)) {M : Mem} {q : Int × Mem} (h : fX8_swap x0 x1 x2 M = some q) : Ct X mX8_swap (d + 1) [XR x0, XI x1, XI x2] M (pI q) := by
  unfold fX8_swap at h
  refine ct_go (by decide +kernel) (Nat.le_of_ble_eq_true rfl) (ls := [(0, XR x0), (1, XI x1), (2, XI x2)]) rfl ?_
  refine g_aload_n 0 dX8_swap_0 rfl ?_
  refine g_getR dX8_swap_1 flX8_14 (by decide) rfl hx0 ?_
  refine g_iload_n 1 dX8_swap_4 rfl ?_
  obtain ⟨q1, hq1, h⟩ := bnd_some h
  refine v_I (ci := 1) (as := [XI x1]) dX8_swap_5 mlX8_103 mdX1_hasCandidate mvX1_hasCandidate rfl (sf_7_0 hx0) rfl (Nat.le_of_ble_eq_true rfl) (kX1_hasCandidate (sf_7_0 hx0) hq1) rfl ?_
  refine g_if_eq (tgt := 27) dX8_swap_8 (by decide) (fun b2 => ?_) (fun b2 => ?_)
  · replace h := ifp b2 h
    refine g_iconst (v := -1) dX8_swap_27 rfl (i32l rfl) ?_
    cases h
    exact g_ireturn dX8_swap_28 rfl ⟨rfl, rfl⟩
  · replace h := ifn b2 h
    refine g_pc (pc' := 11) rfl ?_
    refine g_aload_n 0 dX8_swap_11 rfl ?_
    refine g_getR dX8_swap_12 flX8_14 (by decide) rfl hx0 ?_
    refine g_iload_n 2 dX8_swap_15 rfl ?_
    obtain ⟨q3, hq3, h⟩ := bnd_some h
    refine v_I (ci := 1) (as := [XI x2]) dX8_swap_16 mlX8_103 mdX1_hasCandidate mvX1_hasCandidate rfl (sf_7_0 hx0) rfl (Nat.le_of_ble_eq_true rfl) (kX1_hasCandidate (sf_7_0 hx0) hq3) rfl ?_
    refine g_if_eq (tgt := 27) dX8_swap_19 (by decide) (fun b4 => ?_) (fun b4 => ?_)
    · replace h := ifp b4 h
      refine g_iconst (v := -1) dX8_swap_27 rfl (i32l rfl) ?_
      cases h
      exact g_ireturn dX8_swap_28 rfl ⟨rfl, rfl⟩
    · replace h := ifn b4 h
      refine g_pc (pc' := 22) rfl ?_
      refine g_iload_n 1 dX8_swap_22 rfl ?_
      refine g_iload_n 2 dX8_swap_23 rfl ?_
      refine g_icmp_ne (tgt := 29) dX8_swap_24 (by decide) (fun b5 => ?_) (fun b5 => ?_)
      · replace h := ifn b5 h
        refine g_aload_n 0 dX8_swap_29 rfl ?_
        refine g_getR dX8_swap_30 flX8_14 (by decide) rfl hx0 ?_
        refine g_getR dX8_swap_33 flX8_68 (by decide) rfl (sf_7_0 hx0) ?_
        refine g_iload_n 1 dX8_swap_36 rfl ?_
        obtain ⟨c6, h⟩ := chk_some h
        refine g_iald dX8_swap_37 (sf_1_1 (sf_7_0 hx0)) c6.1 c6.2 ?_
        refine g_nmI (fun v7 ev7 => ?_)
        replace h := nm_s ev7 h
        refine g_istore_n (ls' := [(3, XI v7), (0, XR x0), (1, XI x1), (2, XI x2)]) dX8_swap_38 (by decide) rfl ?_
        refine g_aload_n 1 dX8_swap_39 rfl ?_
        refine g_getR dX8_swap_40 flX8_14 (by decide) rfl hx0 ?_
        refine g_pc (pc' := 43) rfl ?_
        refine g_getR dX8_swap_43 flX8_68 (by decide) rfl (sf_7_0 hx0) ?_
        refine g_iload_n 2 dX8_swap_46 rfl ?_
        refine g_aload_n 1 dX8_swap_47 rfl ?_
        refine g_getR dX8_swap_48 flX8_14 (by decide) rfl hx0 ?_
        refine g_getR dX8_swap_51 flX8_68 (by decide) rfl (sf_7_0 hx0) ?_
        refine g_iload_n 3 dX8_swap_54 rfl ?_
        obtain ⟨c8, h⟩ := chk_some h
        refine g_iald dX8_swap_55 (sf_1_1 (sf_7_0 hx0)) c8.1 c8.2 ?_
        obtain ⟨c9, h⟩ := chk_some h
        refine g_iast dX8_swap_56 (sf_1_1 (sf_7_0 hx0)) c9.1 c9.2 ?_
        refine g_nmM (fun M10 eM10 => ?_)
        replace h := nm_s eM10 h
        refine g_aload_n 1 dX8_swap_57 rfl ?_
        refine g_pc (pc' := 58) rfl ?_
        refine g_getR dX8_swap_58 flX8_14 (by decide) rfl hx0 ?_
        refine g_getR dX8_swap_61 flX8_68 (by decide) rfl (sf_7_0 hx0) ?_
        refine g_iload_n 3 dX8_swap_64 rfl ?_
        refine g_iload_n 0 dX8_swap_65 rfl ?_
        obtain ⟨c11, h⟩ := chk_some h
        refine g_iast dX8_swap_66 (sf_1_1 (sf_7_0 hx0)) c11.1 c11.2 ?_
        refine g_nmM (fun M12 eM12 => ?_)
        replace h := nm_s eM12 h
        refine g_aload_n 1 dX8_swap_67 rfl ?_
        refine g_iconst (v := 0) dX8_swap_68 rfl (i32l rfl) ?_
        refine g_putZ dX8_swap_69 flX8_40 (by decide) rfl hx0 (by decide) ?_
        refine g_nmM (fun M13 eM13 => ?_)
        replace h := nm_s eM13 h
        refine g_aload_n 1 dX8_swap_72 rfl ?_
        refine g_pc (pc' := 73) rfl ?_
        refine g_getR dX8_swap_73 flX8_14 (by decide) rfl hx0 ?_
        refine g_getR dX8_swap_76 flX8_68 (by decide) rfl (sf_7_0 hx0) ?_
        refine g_iload_n 2 dX8_swap_79 rfl ?_
        obtain ⟨c14, h⟩ := chk_some h
        refine g_iald dX8_swap_80 (sf_1_1 (sf_7_0 hx0)) c14.1 c14.2 ?_
        cases h
        exact g_ireturn dX8_swap_81 rfl ⟨rfl, rfl⟩
      · replace h := ifp b5 h
        refine g_pc (pc' := 27) rfl ?_
        refine g_iconst (v := -1) dX8_swap_27 rfl (i32l rfl) ?_
        cases h
        exact g_ireturn dX8_swap_28 rfl ⟨rfl, rfl⟩
def fX8_tallied (x0 : Nat) (M : Mem) : Option (Option Nat × Mem) := Option.bind ((if (M x0 6) = 0 then Option.bind (fX4_work (x0 + 990) M) (fun q6 => nm (wr q6.2 x0 6 1) (fun M7 => some (M7))) else some (M)) : Option (Mem)) (fun t4 => some (some (x0 + 990), t4))
set_option maxRecDepth 20000 in
theorem kX8_tallied {X : XC} {d : Nat} {x0 : Nat} (hx0 : Sh x0 = (17, 10)) {M : Mem} {q : Option Nat × Mem} (h : fX8_tallied x0 M = some q) : Ct X mX8_tallied (d + 5) [XR x0] M (pR q) := by
  unfold fX8_tallied at h
  refine ct_go (by decide +kernel) (Nat.le_of_ble_eq_true rfl) (ls := [(0, XR x0)]) rfl ?_
  refine g_aload_n 0 dX8_tallied_0 rfl ?_
  refine g_getZ dX8_tallied_1 flX8_40 (by decide) rfl hx0 ?_
  obtain ⟨t4, ht4, h⟩ := bnd_some h
  have Kt4 : Go X mX8_tallied (d + 5) 19 [(0, XR x0)] [] t4 (pR q) := by
    refine g_aload_n 0 dX8_tallied_19 rfl ?_
    refine g_getR dX8_tallied_20 flX8_33 (by decide) rfl hx0 ?_
    cases h
    exact g_areturn dX8_tallied_23 rfl ⟨rfl, rfl⟩
  refine g_if_ne (tgt := 19) dX8_tallied_4 (by decide) (fun b5 => ?_) (fun b5 => ?_)
  · replace ht4 := ifn b5 ht4
    cases ht4
    exact g_sub [0] rfl Kt4
  · replace ht4 := ifp b5 ht4
    refine g_pc (pc' := 7) rfl ?_
    refine g_aload_n 0 dX8_tallied_7 rfl ?_
    refine g_getR dX8_tallied_8 flX8_33 (by decide) rfl hx0 ?_
    obtain ⟨q6, hq6, ht4⟩ := bnd_some ht4
    refine v_V (ci := 3) (as := []) dX8_tallied_11 mlX8_140 mdX4_work mvX4_work rfl (sf_7_4 hx0) rfl (Nat.le_of_ble_eq_true rfl) (kX4_work (sf_7_4 hx0) hq6) rfl ?_
    refine g_aload_n 0 dX8_tallied_14 rfl ?_
    refine g_iconst (v := 1) dX8_tallied_15 rfl (i32l rfl) ?_
    refine g_putZ dX8_tallied_16 flX8_40 (by decide) rfl hx0 (by decide) ?_
    refine g_nmM (fun M7 eM7 => ?_)
    replace ht4 := nm_s eM7 ht4
    cases ht4
    exact g_sub [0] rfl Kt4
def fX8_of (x0 : Nat) (x1 : Int) (x2 : Int) (M : Mem) : Option (Int × Mem) := Option.bind (fX1_hasCandidate (x0 + 10990) x1 M) (fun q1 => (if q1.1 = 0 then some ((-1), q1.2) else (if x2 = 0 then Option.bind (fX8_tallied x0 q1.2) (fun q4 => oc q4.1 (none) (fun a5 => if Sh a5 = (13, 14) then if 0 ≤ x1 ∧ x1 < 8 then some ((q4.2 (a5 + 3) (Int.toNat x1)), q4.2) else none else none)) else if x2 = 1 then Option.bind (fX8_tallied x0 q1.2) (fun q9 => oc q9.1 (none) (fun a10 => if Sh a10 = (13, 14) then if 0 ≤ x1 ∧ x1 < 8 then some ((q9.2 (a10 + 4) (Int.toNat x1)), q9.2) else none else none)) else if x2 = 2 then Option.bind (fX1_placeInLot (x0 + 10990) x1 q1.2) (fun q14 => some (q14.1, q14.2)) else if x2 = 3 then Option.bind (fX1_manyFirst (x0 + 10990) x1 q1.2) (fun q16 => some (q16.1, q16.2)) else some ((-1), q1.2))))
set_option maxRecDepth 20000 in
theorem kX8_of {X : XC} {d : Nat} {x0 : Nat} {x1 : Int} {x2 : Int} (hx0 : Sh x0 = (17, 10)) {M : Mem} {q : Int × Mem} (h : fX8_of x0 x1 x2 M = some q) : Ct X mX8_of (d + 6) [XR x0, XI x1, XI x2] M (pI q) := by
  unfold fX8_of at h
  refine ct_go (by decide +kernel) (Nat.le_of_ble_eq_true rfl) (ls := [(0, XR x0), (1, XI x1), (2, XI x2)]) rfl ?_
  refine g_aload_n 0 dX8_of_0 rfl ?_
  refine g_getR dX8_of_1 flX8_14 (by decide) rfl hx0 ?_
  refine g_iload_n 1 dX8_of_4 rfl ?_
  obtain ⟨q1, hq1, h⟩ := bnd_some h
  refine v_I (ci := 1) (as := [XI x1]) dX8_of_5 mlX8_103 mdX1_hasCandidate mvX1_hasCandidate rfl (sf_7_0 hx0) rfl (Nat.le_of_ble_eq_true rfl) (kX1_hasCandidate (sf_7_0 hx0) hq1) rfl ?_
  refine g_if_ne (tgt := 13) dX8_of_8 (by decide) (fun b2 => ?_) (fun b2 => ?_)
  · replace h := ifn b2 h
    refine g_iload_n 2 dX8_of_13 rfl ?_
    by_cases b3 : x2 = 0
    · replace h := ifp b3 h
      refine g_tswIn (off := 30) (tgt := 44) dX8_of_14 (by rw [b3]; decide) (by rw [b3]; decide) (by rw [b3]; rfl) (by decide) ?_
      refine g_aload_n 0 dX8_of_44 rfl ?_
      obtain ⟨q4, hq4, h⟩ := bnd_some h
      refine v_R (ci := 7) (as := []) dX8_of_45 mlX8_143 mdX8_tallied mvX8_tallied rfl hx0 rfl (Nat.le_of_ble_eq_true rfl) (kX8_tallied hx0 hq4) rfl (fun ea5 => ?_) (fun a5 ea5 => ?_)
      · replace h := oc_n ea5 h
        cases h
      · replace h := oc_s ea5 h
        obtain ⟨c6, h⟩ := chk_some h
        refine g_getR dX8_of_48 flX8_147 (by decide) rfl c6 ?_
        refine g_iload_n 1 dX8_of_51 rfl ?_
        obtain ⟨c7, h⟩ := chk_some h
        refine g_iald dX8_of_52 (sf_3_2 c6) c7.1 c7.2 ?_
        cases h
        exact g_ireturn dX8_of_53 rfl ⟨rfl, rfl⟩
    · replace h := ifn b3 h
      by_cases b8 : x2 = 1
      · replace h := ifp b8 h
        refine g_tswIn (off := 40) (tgt := 54) dX8_of_14 (by rw [b8]; decide) (by rw [b8]; decide) (by rw [b8]; rfl) (by decide) ?_
        refine g_aload_n 0 dX8_of_54 rfl ?_
        obtain ⟨q9, hq9, h⟩ := bnd_some h
        refine v_R (ci := 7) (as := []) dX8_of_55 mlX8_143 mdX8_tallied mvX8_tallied rfl hx0 rfl (Nat.le_of_ble_eq_true rfl) (kX8_tallied hx0 hq9) rfl (fun ea10 => ?_) (fun a10 ea10 => ?_)
        · replace h := oc_n ea10 h
          cases h
        · replace h := oc_s ea10 h
          obtain ⟨c11, h⟩ := chk_some h
          refine g_getR dX8_of_58 flX8_150 (by decide) rfl c11 ?_
          refine g_iload_n 1 dX8_of_61 rfl ?_
          obtain ⟨c12, h⟩ := chk_some h
          refine g_iald dX8_of_62 (sf_3_3 c11) c12.1 c12.2 ?_
          cases h
          exact g_ireturn dX8_of_63 rfl ⟨rfl, rfl⟩
      · replace h := ifn b8 h
        by_cases b13 : x2 = 2
        · replace h := ifp b13 h
          refine g_tswIn (off := 50) (tgt := 64) dX8_of_14 (by rw [b13]; decide) (by rw [b13]; decide) (by rw [b13]; rfl) (by decide) ?_
          refine g_aload_n 0 dX8_of_64 rfl ?_
          refine g_getR dX8_of_65 flX8_14 (by decide) rfl hx0 ?_
          refine g_iload_n 1 dX8_of_68 rfl ?_
          obtain ⟨q14, hq14, h⟩ := bnd_some h
          refine v_I (ci := 1) (as := [XI x1]) dX8_of_69 mlX8_153 mdX1_placeInLot mvX1_placeInLot rfl (sf_7_0 hx0) rfl (Nat.le_of_ble_eq_true rfl) (kX1_placeInLot (sf_7_0 hx0) hq14) rfl ?_
          cases h
          exact g_ireturn dX8_of_72 rfl ⟨rfl, rfl⟩
        · replace h := ifn b13 h
          by_cases b15 : x2 = 3
          · replace h := ifp b15 h
            refine g_tswIn (off := 59) (tgt := 73) dX8_of_14 (by rw [b15]; decide) (by rw [b15]; decide) (by rw [b15]; rfl) (by decide) ?_
            refine g_aload_n 0 dX8_of_73 rfl ?_
            refine g_getR dX8_of_74 flX8_14 (by decide) rfl hx0 ?_
            refine g_iload_n 1 dX8_of_77 rfl ?_
            obtain ⟨q16, hq16, h⟩ := bnd_some h
            refine v_I (ci := 1) (as := [XI x1]) dX8_of_78 mlX8_156 mdX1_manyFirst mvX1_manyFirst rfl (sf_7_0 hx0) rfl (Nat.le_of_ble_eq_true rfl) (kX1_manyFirst (sf_7_0 hx0) hq16) rfl ?_
            cases h
            exact g_ireturn dX8_of_81 rfl ⟨rfl, rfl⟩
          · replace h := ifn b15 h
            refine g_tswOut (tgt := 82) dX8_of_14 (by omega) (by decide) ?_
            refine g_iconst (v := -1) dX8_of_82 rfl (i32l rfl) ?_
            cases h
            exact g_ireturn dX8_of_83 rfl ⟨rfl, rfl⟩
  · replace h := ifp b2 h
    refine g_pc (pc' := 11) rfl ?_
    refine g_iconst (v := -1) dX8_of_11 rfl (i32l rfl) ?_
    cases h
    exact g_ireturn dX8_of_12 rfl ⟨rfl, rfl⟩
def fX8_ballotOf (x0 : Nat) (x1 : Int) (x2 : Int) (M : Mem) : Option (Int × Mem) := Option.bind (fX1_hasBallot (x0 + 10990) x1 M) (fun q1 => (if q1.1 = 0 then some ((-1), q1.2) else (if x2 = 0 then if 0 ≤ x1 ∧ x1 < 25 then some ((q1.2 ((x0 + 10990) + 6) (Int.toNat x1)), q1.2) else none else if x2 = 1 then if 0 ≤ x1 ∧ x1 < 25 then Option.bind (fX2_length (q1.2 ((x0 + 10990) + 5) (Int.toNat x1)) q1.2) (fun q7 => some (q7.1, q7.2)) else none else if x2 = 2 then Option.bind (fX1_firstHere (x0 + 10990) x1 q1.2) (fun q9 => some (q9.1, q9.2)) else some ((-1), q1.2))))
set_option maxRecDepth 20000 in
theorem kX8_ballotOf {X : XC} {d : Nat} {x0 : Nat} {x1 : Int} {x2 : Int} (hx0 : Sh x0 = (17, 10)) {M : Mem} {q : Int × Mem} (h : fX8_ballotOf x0 x1 x2 M = some q) : Ct X mX8_ballotOf (d + 3) [XR x0, XI x1, XI x2] M (pI q) := by
  unfold fX8_ballotOf at h
  refine ct_go (by decide +kernel) (Nat.le_of_ble_eq_true rfl) (ls := [(0, XR x0), (1, XI x1), (2, XI x2)]) rfl ?_
  refine g_aload_n 0 dX8_ballotOf_0 rfl ?_
  refine g_getR dX8_ballotOf_1 flX8_14 (by decide) rfl hx0 ?_
  refine g_iload_n 1 dX8_ballotOf_4 rfl ?_
  obtain ⟨q1, hq1, h⟩ := bnd_some h
  refine v_I (ci := 1) (as := [XI x1]) dX8_ballotOf_5 mlX8_99 mdX1_hasBallot mvX1_hasBallot rfl (sf_7_0 hx0) rfl (Nat.le_of_ble_eq_true rfl) (kX1_hasBallot (sf_7_0 hx0) hq1) rfl ?_
  refine g_if_ne (tgt := 13) dX8_ballotOf_8 (by decide) (fun b2 => ?_) (fun b2 => ?_)
  · replace h := ifn b2 h
    refine g_iload_n 2 dX8_ballotOf_13 rfl ?_
    by_cases b3 : x2 = 0
    · replace h := ifp b3 h
      refine g_tswIn (off := 26) (tgt := 40) dX8_ballotOf_14 (by rw [b3]; decide) (by rw [b3]; decide) (by rw [b3]; rfl) (by decide) ?_
      refine g_aload_n 0 dX8_ballotOf_40 rfl ?_
      refine g_getR dX8_ballotOf_41 flX8_14 (by decide) rfl hx0 ?_
      refine g_getR dX8_ballotOf_44 flX8_96 (by decide) rfl (sf_7_0 hx0) ?_
      refine g_iload_n 1 dX8_ballotOf_47 rfl ?_
      obtain ⟨c4, h⟩ := chk_some h
      refine g_iald dX8_ballotOf_48 (sf_1_5 (sf_7_0 hx0)) c4.1 c4.2 ?_
      cases h
      exact g_ireturn dX8_ballotOf_49 rfl ⟨rfl, rfl⟩
    · replace h := ifn b3 h
      by_cases b5 : x2 = 1
      · replace h := ifp b5 h
        refine g_tswIn (off := 36) (tgt := 50) dX8_ballotOf_14 (by rw [b5]; decide) (by rw [b5]; decide) (by rw [b5]; rfl) (by decide) ?_
        refine g_aload_n 0 dX8_ballotOf_50 rfl ?_
        refine g_getR dX8_ballotOf_51 flX8_14 (by decide) rfl hx0 ?_
        refine g_getR dX8_ballotOf_54 flX8_89 (by decide) rfl (sf_7_0 hx0) ?_
        refine g_iload_n 1 dX8_ballotOf_57 rfl ?_
        obtain ⟨c6, h⟩ := chk_some h
        refine g_iald dX8_ballotOf_58 (sf_1_4 (sf_7_0 hx0)) c6.1 c6.2 ?_
        obtain ⟨q7, hq7, h⟩ := bnd_some h
        refine s_I (as := [XI (q1.2 ((x0 + 10990) + 5) (Int.toNat x1))]) dX8_ballotOf_59 mlX8_159 mdX2_length msX2_length rfl (Nat.le_of_ble_eq_true rfl) (kX2_length  hq7) rfl ?_
        cases h
        exact g_ireturn dX8_ballotOf_62 rfl ⟨rfl, rfl⟩
      · replace h := ifn b5 h
        by_cases b8 : x2 = 2
        · replace h := ifp b8 h
          refine g_tswIn (off := 49) (tgt := 63) dX8_ballotOf_14 (by rw [b8]; decide) (by rw [b8]; decide) (by rw [b8]; rfl) (by decide) ?_
          refine g_aload_n 0 dX8_ballotOf_63 rfl ?_
          refine g_getR dX8_ballotOf_64 flX8_14 (by decide) rfl hx0 ?_
          refine g_iload_n 1 dX8_ballotOf_67 rfl ?_
          obtain ⟨q9, hq9, h⟩ := bnd_some h
          refine v_I (ci := 1) (as := [XI x1]) dX8_ballotOf_68 mlX8_162 mdX1_firstHere mvX1_firstHere rfl (sf_7_0 hx0) rfl (Nat.le_of_ble_eq_true rfl) (kX1_firstHere (sf_7_0 hx0) hq9) rfl ?_
          cases h
          exact g_ireturn dX8_ballotOf_71 rfl ⟨rfl, rfl⟩
        · replace h := ifn b8 h
          refine g_tswOut (tgt := 72) dX8_ballotOf_14 (by omega) (by decide) ?_
          refine g_iconst (v := -1) dX8_ballotOf_72 rfl (i32l rfl) ?_
          cases h
          exact g_ireturn dX8_ballotOf_73 rfl ⟨rfl, rfl⟩
  · replace h := ifp b2 h
    refine g_pc (pc' := 11) rfl ?_
    refine g_iconst (v := -1) dX8_ballotOf_11 rfl (i32l rfl) ?_
    cases h
    exact g_ireturn dX8_ballotOf_12 rfl ⟨rfl, rfl⟩
def fX8_rowOf (x0 : Nat) (x1 : Int) (x2 : Int) (M : Mem) : Option (Int × Mem) := Option.bind (fX1_hasBallot (x0 + 10990) x1 M) (fun q1 => (if q1.1 = 0 then some ((-1), q1.2) else if 0 ≤ x1 ∧ x1 < 25 then nm ((q1.2 ((x0 + 10990) + 5) (Int.toNat x1))) (fun v4 => Option.bind ((if x2 < 0 then some ((-1), q1.2) else Option.bind (fX2_length v4 q1.2) (fun q11 => (if x2 < q11.1 then Option.bind (fX2_at v4 x2 q11.2) (fun q13 => some (q13.1, q13.2)) else some ((-1), q11.2)))) : Option (Int × Mem)) (fun t9 => some (t9.1, t9.2))) else none))
set_option maxRecDepth 20000 in
theorem kX8_rowOf {X : XC} {d : Nat} {x0 : Nat} {x1 : Int} {x2 : Int} (hx0 : Sh x0 = (17, 10)) {M : Mem} {q : Int × Mem} (h : fX8_rowOf x0 x1 x2 M = some q) : Ct X mX8_rowOf (d + 2) [XR x0, XI x1, XI x2] M (pI q) := by
  unfold fX8_rowOf at h
  refine ct_go (by decide +kernel) (Nat.le_of_ble_eq_true rfl) (ls := [(0, XR x0), (1, XI x1), (2, XI x2)]) rfl ?_
  refine g_aload_n 0 dX8_rowOf_0 rfl ?_
  refine g_getR dX8_rowOf_1 flX8_14 (by decide) rfl hx0 ?_
  refine g_iload_n 1 dX8_rowOf_4 rfl ?_
  obtain ⟨q1, hq1, h⟩ := bnd_some h
  refine v_I (ci := 1) (as := [XI x1]) dX8_rowOf_5 mlX8_99 mdX1_hasBallot mvX1_hasBallot rfl (sf_7_0 hx0) rfl (Nat.le_of_ble_eq_true rfl) (kX1_hasBallot (sf_7_0 hx0) hq1) rfl ?_
  refine g_if_ne (tgt := 13) dX8_rowOf_8 (by decide) (fun b2 => ?_) (fun b2 => ?_)
  · replace h := ifn b2 h
    refine g_aload_n 0 dX8_rowOf_13 rfl ?_
    refine g_getR dX8_rowOf_14 flX8_14 (by decide) rfl hx0 ?_
    refine g_getR dX8_rowOf_17 flX8_89 (by decide) rfl (sf_7_0 hx0) ?_
    refine g_iload_n 1 dX8_rowOf_20 rfl ?_
    obtain ⟨c3, h⟩ := chk_some h
    refine g_iald dX8_rowOf_21 (sf_1_4 (sf_7_0 hx0)) c3.1 c3.2 ?_
    refine g_nmI (fun v4 ev4 => ?_)
    replace h := nm_s ev4 h
    refine g_istore_n (ls' := [(3, XI v4), (0, XR x0), (1, XI x1), (2, XI x2)]) dX8_rowOf_22 (by decide) rfl ?_
    refine g_iload_n 3 dX8_rowOf_23 rfl ?_
    obtain ⟨t9, ht9, h⟩ := bnd_some h
    have Kt9 : Go X mX8_rowOf (d + 2) 44 [] [XI t9.1] t9.2 (pI q) := by
      cases h
      exact g_ireturn dX8_rowOf_44 rfl ⟨rfl, rfl⟩
    refine g_if_lt (tgt := 35) dX8_rowOf_24 (by decide) (fun b10 => ?_) (fun b10 => ?_)
    · replace ht9 := ifp b10 ht9
      refine g_iconst (v := -1) dX8_rowOf_35 rfl (i32l rfl) ?_
      refine g_goto (tgt := 44) dX8_rowOf_36 (by decide) ?_
      cases ht9
      exact g_sub [] rfl Kt9
    · replace ht9 := ifn b10 ht9
      refine g_pc (pc' := 27) rfl ?_
      refine g_iload_n 3 dX8_rowOf_27 rfl ?_
      refine g_iload_n 0 dX8_rowOf_28 rfl ?_
      obtain ⟨q11, hq11, ht9⟩ := bnd_some ht9
      refine s_I (as := [XI v4]) dX8_rowOf_29 mlX8_159 mdX2_length msX2_length rfl (Nat.le_of_ble_eq_true rfl) (kX2_length  hq11) rfl ?_
      refine g_icmp_lt (tgt := 39) dX8_rowOf_32 (by decide) (fun b12 => ?_) (fun b12 => ?_)
      · replace ht9 := ifp b12 ht9
        refine g_iload_n 0 dX8_rowOf_39 rfl ?_
        refine g_iload_n 3 dX8_rowOf_40 rfl ?_
        obtain ⟨q13, hq13, ht9⟩ := bnd_some ht9
        refine s_I (as := [XI v4, XI x2]) dX8_rowOf_41 mlX8_165 mdX2_at msX2_at rfl (Nat.le_of_ble_eq_true rfl) (kX2_at  hq13) rfl ?_
        cases ht9
        exact g_sub [] rfl Kt9
      · replace ht9 := ifn b12 ht9
        refine g_pc (pc' := 35) rfl ?_
        refine g_iconst (v := -1) dX8_rowOf_35 rfl (i32l rfl) ?_
        refine g_goto (tgt := 44) dX8_rowOf_36 (by decide) ?_
        cases ht9
        exact g_sub [] rfl Kt9
  · replace h := ifp b2 h
    refine g_pc (pc' := 11) rfl ?_
    refine g_iconst (v := -1) dX8_rowOf_11 rfl (i32l rfl) ?_
    cases h
    exact g_ireturn dX8_rowOf_12 rfl ⟨rfl, rfl⟩
def fX8_told (x0 : Nat) (x1 : Int) (M : Mem) : Option (Int × Mem) := (if x1 = 0 then some ((M (x0 + 10990) 0), M) else if x1 = 1 then some ((M (x0 + 10990) 3), M) else if x1 = 2 then Option.bind (fX8_tallied x0 M) (fun q4 => oc q4.1 (none) (fun a5 => if Sh a5 = (13, 14) then some ((q4.2 a5 7), q4.2) else none)) else if x1 = 3 then some ((M (x0 + 10990) 6), M) else if x1 = 4 then some ((M (x0 + 10990) 7), M) else if x1 = 5 then some ((M (x0 + 10990) 8), M) else if x1 = 6 then Option.bind (fX8_tallied x0 M) (fun q11 => oc q11.1 (none) (fun a12 => if Sh a12 = (13, 14) then some ((q11.2 a12 5), q11.2) else none)) else if x1 = 7 then Option.bind (fX8_tallied x0 M) (fun q15 => oc q15.1 (none) (fun a16 => if Sh a16 = (13, 14) then Option.bind (fX4_whoIs a16 2 q15.2) (fun q18 => some (q18.1, q18.2)) else none)) else if x1 = 8 then Option.bind (fX8_tallied x0 M) (fun q20 => oc q20.1 (none) (fun a21 => if Sh a21 = (13, 14) then some ((q20.2 (a21 + 20) 0), q20.2) else none)) else some ((-1), M))
set_option maxRecDepth 20000 in
theorem kX8_told {X : XC} {d : Nat} {x0 : Nat} {x1 : Int} (hx0 : Sh x0 = (17, 10)) {M : Mem} {q : Int × Mem} (h : fX8_told x0 x1 M = some q) : Ct X mX8_told (d + 6) [XR x0, XI x1] M (pI q) := by
  unfold fX8_told at h
  refine ct_go (by decide +kernel) (Nat.le_of_ble_eq_true rfl) (ls := [(0, XR x0), (1, XI x1)]) rfl ?_
  refine g_iload_n 1 dX8_told_0 rfl ?_
  by_cases b1 : x1 = 0
  · replace h := ifp b1 h
    refine g_tswIn (off := 51) (tgt := 52) dX8_told_1 (by rw [b1]; decide) (by rw [b1]; decide) (by rw [b1]; rfl) (by decide) ?_
    refine g_aload_n 0 dX8_told_52 rfl ?_
    refine g_getR dX8_told_53 flX8_14 (by decide) rfl hx0 ?_
    refine g_getI dX8_told_56 flX8_64 (by decide) rfl (sf_7_0 hx0) ?_
    cases h
    exact g_ireturn dX8_told_59 rfl ⟨rfl, rfl⟩
  · replace h := ifn b1 h
    by_cases b2 : x1 = 1
    · replace h := ifp b2 h
      refine g_tswIn (off := 59) (tgt := 60) dX8_told_1 (by rw [b2]; decide) (by rw [b2]; decide) (by rw [b2]; rfl) (by decide) ?_
      refine g_aload_n 0 dX8_told_60 rfl ?_
      refine g_getR dX8_told_61 flX8_14 (by decide) rfl hx0 ?_
      refine g_getI dX8_told_64 flX8_83 (by decide) rfl (sf_7_0 hx0) ?_
      cases h
      exact g_ireturn dX8_told_67 rfl ⟨rfl, rfl⟩
    · replace h := ifn b2 h
      by_cases b3 : x1 = 2
      · replace h := ifp b3 h
        refine g_tswIn (off := 67) (tgt := 68) dX8_told_1 (by rw [b3]; decide) (by rw [b3]; decide) (by rw [b3]; rfl) (by decide) ?_
        refine g_aload_n 0 dX8_told_68 rfl ?_
        obtain ⟨q4, hq4, h⟩ := bnd_some h
        refine v_R (ci := 7) (as := []) dX8_told_69 mlX8_143 mdX8_tallied mvX8_tallied rfl hx0 rfl (Nat.le_of_ble_eq_true rfl) (kX8_tallied hx0 hq4) rfl (fun ea5 => ?_) (fun a5 ea5 => ?_)
        · replace h := oc_n ea5 h
          cases h
        · replace h := oc_s ea5 h
          obtain ⟨c6, h⟩ := chk_some h
          refine g_getI dX8_told_72 flX8_168 (by decide) rfl c6 ?_
          cases h
          exact g_ireturn dX8_told_75 rfl ⟨rfl, rfl⟩
      · replace h := ifn b3 h
        by_cases b7 : x1 = 3
        · replace h := ifp b7 h
          refine g_tswIn (off := 75) (tgt := 76) dX8_told_1 (by rw [b7]; decide) (by rw [b7]; decide) (by rw [b7]; rfl) (by decide) ?_
          refine g_aload_n 0 dX8_told_76 rfl ?_
          refine g_getR dX8_told_77 flX8_14 (by decide) rfl hx0 ?_
          refine g_getI dX8_told_80 flX8_116 (by decide) rfl (sf_7_0 hx0) ?_
          cases h
          exact g_ireturn dX8_told_83 rfl ⟨rfl, rfl⟩
        · replace h := ifn b7 h
          by_cases b8 : x1 = 4
          · replace h := ifp b8 h
            refine g_tswIn (off := 83) (tgt := 84) dX8_told_1 (by rw [b8]; decide) (by rw [b8]; decide) (by rw [b8]; rfl) (by decide) ?_
            refine g_aload_n 0 dX8_told_84 rfl ?_
            refine g_getR dX8_told_85 flX8_14 (by decide) rfl hx0 ?_
            refine g_getI dX8_told_88 flX8_119 (by decide) rfl (sf_7_0 hx0) ?_
            cases h
            exact g_ireturn dX8_told_91 rfl ⟨rfl, rfl⟩
          · replace h := ifn b8 h
            by_cases b9 : x1 = 5
            · replace h := ifp b9 h
              refine g_tswIn (off := 91) (tgt := 92) dX8_told_1 (by rw [b9]; decide) (by rw [b9]; decide) (by rw [b9]; rfl) (by decide) ?_
              refine g_aload_n 0 dX8_told_92 rfl ?_
              refine g_getR dX8_told_93 flX8_14 (by decide) rfl hx0 ?_
              refine g_getI dX8_told_96 flX8_122 (by decide) rfl (sf_7_0 hx0) ?_
              cases h
              exact g_ireturn dX8_told_99 rfl ⟨rfl, rfl⟩
            · replace h := ifn b9 h
              by_cases b10 : x1 = 6
              · replace h := ifp b10 h
                refine g_tswIn (off := 99) (tgt := 100) dX8_told_1 (by rw [b10]; decide) (by rw [b10]; decide) (by rw [b10]; rfl) (by decide) ?_
                refine g_aload_n 0 dX8_told_100 rfl ?_
                obtain ⟨q11, hq11, h⟩ := bnd_some h
                refine v_R (ci := 7) (as := []) dX8_told_101 mlX8_143 mdX8_tallied mvX8_tallied rfl hx0 rfl (Nat.le_of_ble_eq_true rfl) (kX8_tallied hx0 hq11) rfl (fun ea12 => ?_) (fun a12 ea12 => ?_)
                · replace h := oc_n ea12 h
                  cases h
                · replace h := oc_s ea12 h
                  obtain ⟨c13, h⟩ := chk_some h
                  refine g_getI dX8_told_104 flX8_171 (by decide) rfl c13 ?_
                  cases h
                  exact g_ireturn dX8_told_107 rfl ⟨rfl, rfl⟩
              · replace h := ifn b10 h
                by_cases b14 : x1 = 7
                · replace h := ifp b14 h
                  refine g_tswIn (off := 107) (tgt := 108) dX8_told_1 (by rw [b14]; decide) (by rw [b14]; decide) (by rw [b14]; rfl) (by decide) ?_
                  refine g_aload_n 0 dX8_told_108 rfl ?_
                  obtain ⟨q15, hq15, h⟩ := bnd_some h
                  refine v_R (ci := 7) (as := []) dX8_told_109 mlX8_143 mdX8_tallied mvX8_tallied rfl hx0 rfl (Nat.le_of_ble_eq_true rfl) (kX8_tallied hx0 hq15) rfl (fun ea16 => ?_) (fun a16 ea16 => ?_)
                  · replace h := oc_n ea16 h
                    refine g_iconst (v := 2) dX8_told_112 rfl (i32l rfl) ?_
                    cases h
                  · replace h := oc_s ea16 h
                    obtain ⟨c17, h⟩ := chk_some h
                    refine g_iconst (v := 2) dX8_told_112 rfl (i32l rfl) ?_
                    obtain ⟨q18, hq18, h⟩ := bnd_some h
                    refine v_I (ci := 3) (as := [XI 2]) dX8_told_113 mlX8_174 mdX4_whoIs mvX4_whoIs rfl c17 rfl (Nat.le_of_ble_eq_true rfl) (kX4_whoIs c17 hq18) rfl ?_
                    cases h
                    exact g_ireturn dX8_told_116 rfl ⟨rfl, rfl⟩
                · replace h := ifn b14 h
                  by_cases b19 : x1 = 8
                  · replace h := ifp b19 h
                    refine g_tswIn (off := 116) (tgt := 117) dX8_told_1 (by rw [b19]; decide) (by rw [b19]; decide) (by rw [b19]; rfl) (by decide) ?_
                    refine g_aload_n 0 dX8_told_117 rfl ?_
                    obtain ⟨q20, hq20, h⟩ := bnd_some h
                    refine v_R (ci := 7) (as := []) dX8_told_118 mlX8_143 mdX8_tallied mvX8_tallied rfl hx0 rfl (Nat.le_of_ble_eq_true rfl) (kX8_tallied hx0 hq20) rfl (fun ea21 => ?_) (fun a21 ea21 => ?_)
                    · replace h := oc_n ea21 h
                      cases h
                    · replace h := oc_s ea21 h
                      obtain ⟨c22, h⟩ := chk_some h
                      refine g_getR dX8_told_121 flX8_177 (by decide) rfl c22 ?_
                      refine g_getI dX8_told_124 flX8_181 (by decide) rfl (sf_3_1 c22) ?_
                      cases h
                      exact g_ireturn dX8_told_127 rfl ⟨rfl, rfl⟩
                  · replace h := ifn b19 h
                    refine g_tswOut (tgt := 128) dX8_told_1 (by omega) (by decide) ?_
                    refine g_iconst (v := -1) dX8_told_128 rfl (i32l rfl) ?_
                    cases h
                    exact g_ireturn dX8_told_129 rfl ⟨rfl, rfl⟩
def fX8_stageOf (x0 : Nat) (x1 : Int) (x2 : Int) (M : Mem) : Option (Int × Mem) := Option.bind (fX8_tallied x0 M) (fun q1 => oc q1.1 (none) (fun a2 => if Sh a2 = (13, 14) then Option.bind (fX4_stageAt a2 x1 q1.2) (fun q4 => oc q4.1 (some ((-1), q4.2)) (fun a5 => if Sh a5 = (12, 9) then (if x2 = 0 then some ((q4.2 a5 0), q4.2) else if x2 = 1 then some ((q4.2 a5 1), q4.2) else if x2 = 2 then some ((q4.2 a5 2), q4.2) else some ((-1), q4.2)) else none)) else none))
set_option maxRecDepth 20000 in
theorem kX8_stageOf {X : XC} {d : Nat} {x0 : Nat} {x1 : Int} {x2 : Int} (hx0 : Sh x0 = (17, 10)) {M : Mem} {q : Int × Mem} (h : fX8_stageOf x0 x1 x2 M = some q) : Ct X mX8_stageOf (d + 6) [XR x0, XI x1, XI x2] M (pI q) := by
  unfold fX8_stageOf at h
  refine ct_go (by decide +kernel) (Nat.le_of_ble_eq_true rfl) (ls := [(0, XR x0), (1, XI x1), (2, XI x2)]) rfl ?_
  refine g_aload_n 0 dX8_stageOf_0 rfl ?_
  obtain ⟨q1, hq1, h⟩ := bnd_some h
  refine v_R (ci := 7) (as := []) dX8_stageOf_1 mlX8_143 mdX8_tallied mvX8_tallied rfl hx0 rfl (Nat.le_of_ble_eq_true rfl) (kX8_tallied hx0 hq1) rfl (fun ea2 => ?_) (fun a2 ea2 => ?_)
  · replace h := oc_n ea2 h
    refine g_iload_n 1 dX8_stageOf_4 rfl ?_
    cases h
  · replace h := oc_s ea2 h
    obtain ⟨c3, h⟩ := chk_some h
    refine g_iload_n 1 dX8_stageOf_4 rfl ?_
    obtain ⟨q4, hq4, h⟩ := bnd_some h
    refine v_R (ci := 3) (as := [XI x1]) dX8_stageOf_5 mlX8_186 mdX4_stageAt mvX4_stageAt rfl c3 rfl (Nat.le_of_ble_eq_true rfl) (kX4_stageAt c3 hq4) rfl (fun ea5 => ?_) (fun a5 ea5 => ?_)
    · replace h := oc_n ea5 h
      refine g_astore_nN (ls' := [(3, XN), (0, XR x0), (1, XI x1), (2, XI x2)]) dX8_stageOf_8 (by decide) rfl ?_
      refine g_aload_nN 0 dX8_stageOf_9 rfl ?_
      refine g_ifnonnullN dX8_stageOf_10 ?_
      refine g_iconst (v := -1) dX8_stageOf_13 rfl (i32l rfl) ?_
      cases h
      exact g_ireturn dX8_stageOf_14 rfl ⟨rfl, rfl⟩
    · replace h := oc_s ea5 h
      obtain ⟨c6, h⟩ := chk_some h
      refine g_astore_n (ls' := [(3, XR a5), (0, XR x0), (1, XI x1), (2, XI x2)]) dX8_stageOf_8 (by decide) rfl ?_
      refine g_aload_n 0 dX8_stageOf_9 rfl ?_
      refine g_ifnonnullR (tgt := 15) dX8_stageOf_10 (by decide) ?_
      refine g_iload_n 3 dX8_stageOf_15 rfl ?_
      by_cases b7 : x2 = 0
      · replace h := ifp b7 h
        refine g_tswIn (off := 28) (tgt := 44) dX8_stageOf_16 (by rw [b7]; decide) (by rw [b7]; decide) (by rw [b7]; rfl) (by decide) ?_
        refine g_aload_n 0 dX8_stageOf_44 rfl ?_
        refine g_getI dX8_stageOf_45 flX8_190 (by decide) rfl c6 ?_
        cases h
        exact g_ireturn dX8_stageOf_48 rfl ⟨rfl, rfl⟩
      · replace h := ifn b7 h
        by_cases b8 : x2 = 1
        · replace h := ifp b8 h
          refine g_tswIn (off := 33) (tgt := 49) dX8_stageOf_16 (by rw [b8]; decide) (by rw [b8]; decide) (by rw [b8]; rfl) (by decide) ?_
          refine g_aload_n 0 dX8_stageOf_49 rfl ?_
          refine g_getI dX8_stageOf_50 flX8_193 (by decide) rfl c6 ?_
          cases h
          exact g_ireturn dX8_stageOf_53 rfl ⟨rfl, rfl⟩
        · replace h := ifn b8 h
          by_cases b9 : x2 = 2
          · replace h := ifp b9 h
            refine g_tswIn (off := 38) (tgt := 54) dX8_stageOf_16 (by rw [b9]; decide) (by rw [b9]; decide) (by rw [b9]; rfl) (by decide) ?_
            refine g_aload_n 0 dX8_stageOf_54 rfl ?_
            refine g_getI dX8_stageOf_55 flX8_196 (by decide) rfl c6 ?_
            cases h
            exact g_ireturn dX8_stageOf_58 rfl ⟨rfl, rfl⟩
          · replace h := ifn b9 h
            refine g_tswOut (tgt := 59) dX8_stageOf_16 (by omega) (by decide) ?_
            refine g_iconst (v := -1) dX8_stageOf_59 rfl (i32l rfl) ?_
            cases h
            exact g_ireturn dX8_stageOf_60 rfl ⟨rfl, rfl⟩
def fX8_amount (x0 : Nat) (x1 : Int) (x2 : Int) (M : Mem) : Option (Int × Mem) := Option.bind (fX8_tallied x0 M) (fun q1 => oc q1.1 (none) (fun a2 => if Sh a2 = (13, 14) then Option.bind (fX4_stageAt a2 x1 q1.2) (fun q4 => oc q4.1 (some ((-9223372036854775808), q4.2)) (fun a5 => if Sh a5 = (12, 9) then (if x2 = 0 then some ((q4.2 a5 3), q4.2) else if x2 = 1 then some ((q4.2 a5 4), q4.2) else if x2 = 2 then some ((q4.2 a5 5), q4.2) else if x2 = 3 then some ((q4.2 a5 6), q4.2) else some ((-9223372036854775808), q4.2)) else none)) else none))
set_option maxRecDepth 20000 in
theorem kX8_amount {X : XC} {d : Nat} {x0 : Nat} {x1 : Int} {x2 : Int} (hx0 : Sh x0 = (17, 10)) {M : Mem} {q : Int × Mem} (h : fX8_amount x0 x1 x2 M = some q) : Ct X mX8_amount (d + 6) [XR x0, XI x1, XI x2] M (pJ q) := by
  unfold fX8_amount at h
  refine ct_go (by decide +kernel) (Nat.le_of_ble_eq_true rfl) (ls := [(0, XR x0), (1, XI x1), (2, XI x2)]) rfl ?_
  refine g_aload_n 0 dX8_amount_0 rfl ?_
  obtain ⟨q1, hq1, h⟩ := bnd_some h
  refine v_R (ci := 7) (as := []) dX8_amount_1 mlX8_143 mdX8_tallied mvX8_tallied rfl hx0 rfl (Nat.le_of_ble_eq_true rfl) (kX8_tallied hx0 hq1) rfl (fun ea2 => ?_) (fun a2 ea2 => ?_)
  · replace h := oc_n ea2 h
    refine g_iload_n 1 dX8_amount_4 rfl ?_
    cases h
  · replace h := oc_s ea2 h
    obtain ⟨c3, h⟩ := chk_some h
    refine g_iload_n 1 dX8_amount_4 rfl ?_
    obtain ⟨q4, hq4, h⟩ := bnd_some h
    refine v_R (ci := 3) (as := [XI x1]) dX8_amount_5 mlX8_186 mdX4_stageAt mvX4_stageAt rfl c3 rfl (Nat.le_of_ble_eq_true rfl) (kX4_stageAt c3 hq4) rfl (fun ea5 => ?_) (fun a5 ea5 => ?_)
    · replace h := oc_n ea5 h
      refine g_astore_nN (ls' := [(3, XN), (0, XR x0), (1, XI x1), (2, XI x2)]) dX8_amount_8 (by decide) rfl ?_
      refine g_aload_nN 0 dX8_amount_9 rfl ?_
      refine g_ifnonnullN dX8_amount_10 ?_
      refine g_ldc2 (v := -9223372036854775808) dX8_amount_13 csX8_199 (by decide +kernel) (i64l rfl) ?_
      cases h
      exact g_lreturn dX8_amount_16 rfl ⟨rfl, rfl⟩
    · replace h := oc_s ea5 h
      obtain ⟨c6, h⟩ := chk_some h
      refine g_astore_n (ls' := [(3, XR a5), (0, XR x0), (1, XI x1), (2, XI x2)]) dX8_amount_8 (by decide) rfl ?_
      refine g_aload_n 0 dX8_amount_9 rfl ?_
      refine g_ifnonnullR (tgt := 17) dX8_amount_10 (by decide) ?_
      refine g_iload_n 3 dX8_amount_17 rfl ?_
      by_cases b7 : x2 = 0
      · replace h := ifp b7 h
        refine g_tswIn (off := 30) (tgt := 48) dX8_amount_18 (by rw [b7]; decide) (by rw [b7]; decide) (by rw [b7]; rfl) (by decide) ?_
        refine g_aload_n 0 dX8_amount_48 rfl ?_
        refine g_getJ dX8_amount_49 flX8_201 (by decide) rfl c6 ?_
        cases h
        exact g_lreturn dX8_amount_52 rfl ⟨rfl, rfl⟩
      · replace h := ifn b7 h
        by_cases b8 : x2 = 1
        · replace h := ifp b8 h
          refine g_tswIn (off := 35) (tgt := 53) dX8_amount_18 (by rw [b8]; decide) (by rw [b8]; decide) (by rw [b8]; rfl) (by decide) ?_
          refine g_aload_n 0 dX8_amount_53 rfl ?_
          refine g_getJ dX8_amount_54 flX8_205 (by decide) rfl c6 ?_
          cases h
          exact g_lreturn dX8_amount_57 rfl ⟨rfl, rfl⟩
        · replace h := ifn b8 h
          by_cases b9 : x2 = 2
          · replace h := ifp b9 h
            refine g_tswIn (off := 40) (tgt := 58) dX8_amount_18 (by rw [b9]; decide) (by rw [b9]; decide) (by rw [b9]; rfl) (by decide) ?_
            refine g_aload_n 0 dX8_amount_58 rfl ?_
            refine g_getJ dX8_amount_59 flX8_208 (by decide) rfl c6 ?_
            cases h
            exact g_lreturn dX8_amount_62 rfl ⟨rfl, rfl⟩
          · replace h := ifn b9 h
            by_cases b10 : x2 = 3
            · replace h := ifp b10 h
              refine g_tswIn (off := 45) (tgt := 63) dX8_amount_18 (by rw [b10]; decide) (by rw [b10]; decide) (by rw [b10]; rfl) (by decide) ?_
              refine g_aload_n 0 dX8_amount_63 rfl ?_
              refine g_getJ dX8_amount_64 flX8_211 (by decide) rfl c6 ?_
              cases h
              exact g_lreturn dX8_amount_67 rfl ⟨rfl, rfl⟩
            · replace h := ifn b10 h
              refine g_tswOut (tgt := 68) dX8_amount_18 (by omega) (by decide) ?_
              refine g_ldc2 (v := -9223372036854775808) dX8_amount_68 csX8_199 (by decide +kernel) (i64l rfl) ?_
              cases h
              exact g_lreturn dX8_amount_71 rfl ⟨rfl, rfl⟩
def fX8_votes (x0 : Nat) (x1 : Int) (x2 : Int) (x3 : Int) (M : Mem) : Option (Int × Mem) := Option.bind (fX8_tallied x0 M) (fun q1 => oc q1.1 (none) (fun a2 => if Sh a2 = (13, 14) then Option.bind (fX4_stageAt a2 x1 q1.2) (fun q4 => oc q4.1 (some ((-9223372036854775808), q4.2)) (fun a5 => if Sh a5 = (12, 9) then Option.bind (fX1_hasCandidate (x0 + 10990) x2 q4.2) (fun q7 => (if q7.1 = 0 then some ((-9223372036854775808), q7.2) else (if x3 = 0 then if 0 ≤ x2 ∧ x2 < 8 then some ((q7.2 (a5 + 8) (Int.toNat x2)), q7.2) else none else if x3 = 1 then if 0 ≤ x2 ∧ x2 < 8 then some ((q7.2 (a5 + 9) (Int.toNat x2)), q7.2) else none else some ((-9223372036854775808), q7.2)))) else none)) else none))
set_option maxRecDepth 20000 in
theorem kX8_votes {X : XC} {d : Nat} {x0 : Nat} {x1 : Int} {x2 : Int} {x3 : Int} (hx0 : Sh x0 = (17, 10)) {M : Mem} {q : Int × Mem} (h : fX8_votes x0 x1 x2 x3 M = some q) : Ct X mX8_votes (d + 6) [XR x0, XI x1, XI x2, XI x3] M (pJ q) := by
  unfold fX8_votes at h
  refine ct_go (by decide +kernel) (Nat.le_of_ble_eq_true rfl) (ls := [(0, XR x0), (1, XI x1), (2, XI x2), (3, XI x3)]) rfl ?_
  refine g_aload_n 0 dX8_votes_0 rfl ?_
  obtain ⟨q1, hq1, h⟩ := bnd_some h
  refine v_R (ci := 7) (as := []) dX8_votes_1 mlX8_143 mdX8_tallied mvX8_tallied rfl hx0 rfl (Nat.le_of_ble_eq_true rfl) (kX8_tallied hx0 hq1) rfl (fun ea2 => ?_) (fun a2 ea2 => ?_)
  · replace h := oc_n ea2 h
    refine g_iload_n 1 dX8_votes_4 rfl ?_
    cases h
  · replace h := oc_s ea2 h
    obtain ⟨c3, h⟩ := chk_some h
    refine g_iload_n 1 dX8_votes_4 rfl ?_
    obtain ⟨q4, hq4, h⟩ := bnd_some h
    refine v_R (ci := 3) (as := [XI x1]) dX8_votes_5 mlX8_186 mdX4_stageAt mvX4_stageAt rfl c3 rfl (Nat.le_of_ble_eq_true rfl) (kX4_stageAt c3 hq4) rfl (fun ea5 => ?_) (fun a5 ea5 => ?_)
    · replace h := oc_n ea5 h
      refine g_astoreN (ls' := [(4, XN), (0, XR x0), (1, XI x1), (2, XI x2), (3, XI x3)]) dX8_votes_8 (by decide) rfl ?_
      refine g_aloadN 0 dX8_votes_10 rfl ?_
      refine g_ifnullN (tgt := 26) dX8_votes_12 (by decide) ?_
      refine g_ldc2 (v := -9223372036854775808) dX8_votes_26 csX8_199 (by decide +kernel) (i64l rfl) ?_
      cases h
      exact g_lreturn dX8_votes_29 rfl ⟨rfl, rfl⟩
    · replace h := oc_s ea5 h
      obtain ⟨c6, h⟩ := chk_some h
      refine g_astore (ls' := [(4, XR a5), (0, XR x0), (1, XI x1), (2, XI x2), (3, XI x3)]) dX8_votes_8 (by decide) rfl ?_
      refine g_aload 0 dX8_votes_10 rfl ?_
      refine g_ifnullR dX8_votes_12 ?_
      refine g_aload_n 1 dX8_votes_15 rfl ?_
      refine g_getR dX8_votes_16 flX8_14 (by decide) rfl hx0 ?_
      refine g_iload_n 3 dX8_votes_19 rfl ?_
      obtain ⟨q7, hq7, h⟩ := bnd_some h
      refine v_I (ci := 1) (as := [XI x2]) dX8_votes_20 mlX8_103 mdX1_hasCandidate mvX1_hasCandidate rfl (sf_7_0 hx0) rfl (Nat.le_of_ble_eq_true rfl) (kX1_hasCandidate (sf_7_0 hx0) hq7) rfl ?_
      refine g_if_ne (tgt := 30) dX8_votes_23 (by decide) (fun b8 => ?_) (fun b8 => ?_)
      · replace h := ifn b8 h
        refine g_iload_n 4 dX8_votes_30 rfl ?_
        by_cases b9 : x3 = 0
        · replace h := ifp b9 h
          refine g_lsw (off := 25) (tgt := 56) dX8_votes_31 (by decide) (by rw [b9]; rfl) (by decide) ?_
          refine g_aload 0 dX8_votes_56 rfl ?_
          refine g_getR dX8_votes_58 flX8_214 (by decide) rfl c6 ?_
          refine g_iload_n 3 dX8_votes_61 rfl ?_
          obtain ⟨c10, h⟩ := chk_some h
          refine g_lald dX8_votes_62 (sf_2_7 c6) c10.1 c10.2 ?_
          cases h
          exact g_lreturn dX8_votes_63 rfl ⟨rfl, rfl⟩
        · replace h := ifn b9 h
          by_cases b11 : x3 = 1
          · replace h := ifp b11 h
            refine g_lsw (off := 33) (tgt := 64) dX8_votes_31 (by decide) (by rw [b11]; rfl) (by decide) ?_
            refine g_aload 0 dX8_votes_64 rfl ?_
            refine g_getR dX8_votes_66 flX8_218 (by decide) rfl c6 ?_
            refine g_iload_n 3 dX8_votes_69 rfl ?_
            obtain ⟨c12, h⟩ := chk_some h
            refine g_lald dX8_votes_70 (sf_2_8 c6) c12.1 c12.2 ?_
            cases h
            exact g_lreturn dX8_votes_71 rfl ⟨rfl, rfl⟩
          · replace h := ifn b11 h
            refine g_lsw (off := 41) (tgt := 72) dX8_votes_31 (by decide) (by simp [Op.lookupswitch.offset, Ne.symm b9, b9, Ne.symm b11, b11]) (by decide) ?_
            refine g_ldc2 (v := -9223372036854775808) dX8_votes_72 csX8_199 (by decide +kernel) (i64l rfl) ?_
            cases h
            exact g_lreturn dX8_votes_75 rfl ⟨rfl, rfl⟩
      · replace h := ifp b8 h
        refine g_pc (pc' := 26) rfl ?_
        refine g_ldc2 (v := -9223372036854775808) dX8_votes_26 csX8_199 (by decide +kernel) (i64l rfl) ?_
        cases h
        exact g_lreturn dX8_votes_29 rfl ⟨rfl, rfl⟩
def fX8_elected (x0 : Nat) (x1 : Int) (M : Mem) : Option (Int × Mem) := Option.bind (fX8_tallied x0 M) (fun q1 => oc q1.1 ((if x1 < 0 then some ((-5), q1.2) else none)) (fun a2 => if Sh a2 = (13, 14) then Option.bind ((if x1 < 0 then some ((-5)) else (if x1 < (q1.2 a2 5) then if 0 ≤ x1 ∧ x1 < 8 then some ((q1.2 (a2 + 5) (Int.toNat x1))) else none else some ((-5)))) : Option (Int)) (fun t9 => some (t9, q1.2)) else none))
set_option maxRecDepth 20000 in
theorem kX8_elected {X : XC} {d : Nat} {x0 : Nat} {x1 : Int} (hx0 : Sh x0 = (17, 10)) {M : Mem} {q : Int × Mem} (h : fX8_elected x0 x1 M = some q) : Ct X mX8_elected (d + 6) [XR x0, XI x1] M (pI q) := by
  unfold fX8_elected at h
  refine ct_go (by decide +kernel) (Nat.le_of_ble_eq_true rfl) (ls := [(0, XR x0), (1, XI x1)]) rfl ?_
  refine g_aload_n 0 dX8_elected_0 rfl ?_
  obtain ⟨q1, hq1, h⟩ := bnd_some h
  refine v_R (ci := 7) (as := []) dX8_elected_1 mlX8_143 mdX8_tallied mvX8_tallied rfl hx0 rfl (Nat.le_of_ble_eq_true rfl) (kX8_tallied hx0 hq1) rfl (fun ea2 => ?_) (fun a2 ea2 => ?_)
  · replace h := oc_n ea2 h
    refine g_astore_nN (ls' := [(2, XN), (0, XR x0), (1, XI x1)]) dX8_elected_4 (by decide) rfl ?_
    refine g_iload_n 2 dX8_elected_5 rfl ?_
    refine g_if_lt (tgt := 17) dX8_elected_6 (by decide) (fun b5 => ?_) (fun b5 => ?_)
    · replace h := ifp b5 h
      refine g_bip dX8_elected_17 rfl ?_
      refine g_goto (tgt := 28) dX8_elected_19 (by decide) ?_
      cases h
      exact g_ireturn dX8_elected_28 rfl ⟨rfl, rfl⟩
    · replace h := ifn b5 h
      refine g_pc (pc' := 9) rfl ?_
      refine g_iload_n 2 dX8_elected_9 rfl ?_
      refine g_aload_nN 0 dX8_elected_10 rfl ?_
      cases h
  · replace h := oc_s ea2 h
    obtain ⟨c3, h⟩ := chk_some h
    refine g_astore_n (ls' := [(2, XR a2), (0, XR x0), (1, XI x1)]) dX8_elected_4 (by decide) rfl ?_
    refine g_iload_n 2 dX8_elected_5 rfl ?_
    obtain ⟨t9, ht9, h⟩ := bnd_some h
    have Kt9 : Go X mX8_elected (d + 6) 28 [] [XI t9] q1.2 (pI q) := by
      cases h
      exact g_ireturn dX8_elected_28 rfl ⟨rfl, rfl⟩
    refine g_if_lt (tgt := 17) dX8_elected_6 (by decide) (fun b10 => ?_) (fun b10 => ?_)
    · replace ht9 := ifp b10 ht9
      refine g_bip dX8_elected_17 rfl ?_
      refine g_goto (tgt := 28) dX8_elected_19 (by decide) ?_
      cases ht9
      exact g_sub [] rfl Kt9
    · replace ht9 := ifn b10 ht9
      refine g_pc (pc' := 9) rfl ?_
      refine g_iload_n 2 dX8_elected_9 rfl ?_
      refine g_aload_n 0 dX8_elected_10 rfl ?_
      refine g_getI dX8_elected_11 flX8_171 (by decide) rfl c3 ?_
      refine g_icmp_lt (tgt := 22) dX8_elected_14 (by decide) (fun b11 => ?_) (fun b11 => ?_)
      · replace ht9 := ifp b11 ht9
        refine g_aload_n 0 dX8_elected_22 rfl ?_
        refine g_getR dX8_elected_23 flX8_221 (by decide) rfl c3 ?_
        refine g_iload_n 2 dX8_elected_26 rfl ?_
        obtain ⟨c12, ht9⟩ := chk_some ht9
        refine g_iald dX8_elected_27 (sf_3_4 c3) c12.1 c12.2 ?_
        cases ht9
        exact g_sub [] rfl Kt9
      · replace ht9 := ifn b11 ht9
        refine g_pc (pc' := 17) rfl ?_
        refine g_bip dX8_elected_17 rfl ?_
        refine g_goto (tgt := 28) dX8_elected_19 (by decide) ?_
        cases ht9
        exact g_sub [] rfl Kt9
end
