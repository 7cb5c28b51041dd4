section
set_option maxHeartbeats 8000000 in
set_option maxRecDepth 20000 in
theorem lX4_work_l19 {X : XC} {d : Nat} {Post : Option XV → Mem → Prop} {x0 : Nat} (hx0 : Sh x0 = (13, 14)) : ∀ (n : Nat) (x1 x2 : Int) (M : Mem) (t0 : Int × Int × Mem), fX4_work_l19 x0 n x1 x2 M = some t0 → Go X mX4_work (d + 4) 125 [] [] t0.2.2 Post → Go X mX4_work (d + 4) 19 [(0, XR x0), (1, XI x1), (2, XI x2)] [] M Post := by
  intro n
  induction n with
  | zero => intro _ _ _ _ h; cases h
  | succ n ih =>
    intro x1 x2 M t0 h K
    unfold fX4_work_l19 at h
    refine g_iload_n 2 dX4_work_19 rfl ?_
    refine g_bip dX4_work_20 rfl ?_
    refine g_icmp_ge (tgt := 125) dX4_work_22 (by decide) (fun b3 => ?_) (fun b3 => ?_)
    · replace h := ifp b3 h
      cases h
      exact g_sub [] rfl K
    · replace h := ifn b3 h
      refine g_pc (pc' := 25) rfl ?_
      refine g_aload_n 0 dX4_work_25 rfl ?_
      refine g_getI dX4_work_26 flX4_32 (by decide) rfl hx0 ?_
      refine g_if_le (tgt := 125) dX4_work_29 (by decide) (fun b4 => ?_) (fun b4 => ?_)
      · replace h := ifp b4 h
        cases h
        exact g_sub [] rfl K
      · replace h := ifn b4 h
        refine g_pc (pc' := 32) rfl ?_
        refine g_aload_n 0 dX4_work_32 rfl ?_
        refine g_getI dX4_work_33 flX4_28 (by decide) rfl hx0 ?_
        refine g_aload_n 0 dX4_work_36 rfl ?_
        refine g_getR dX4_work_37 flX4_61 (by decide) rfl hx0 ?_
        refine g_getI dX4_work_40 flX4_73 (by decide) rfl (sf_3_0 hx0) ?_
        refine g_icmp_ge (tgt := 125) dX4_work_43 (by decide) (fun b5 => ?_) (fun b5 => ?_)
        · replace h := ifp b5 h
          cases h
          exact g_sub [] rfl K
        · replace h := ifn b5 h
          refine g_pc (pc' := 46) rfl ?_
          refine g_aload_n 0 dX4_work_46 rfl ?_
          refine g_iload_n 2 dX4_work_47 rfl ?_
          refine g_iconst (v := 1) dX4_work_48 rfl (i32l rfl) ?_
          obtain ⟨c6, h⟩ := chk_some h
          refine g_iadd dX4_work_49 rfl c6 ?_
          refine g_putI dX4_work_50 flX4_35 (by decide) rfl hx0 ?_
          refine g_nmM (fun M7 eM7 => ?_)
          replace h := nm_s eM7 h
          refine g_aload_n 0 dX4_work_53 rfl ?_
          refine g_getR dX4_work_54 flX4_40 (by decide) rfl hx0 ?_
          refine g_iload_n 2 dX4_work_57 rfl ?_
          refine g_pc (pc' := 58) rfl ?_
          obtain ⟨c8, h⟩ := chk_some h
          refine g_aald dX4_work_58 (sf_3_8 hx0) (by decide) c8.1 c8.2 ?_
          refine g_astore_n (ls' := [(3, XR ((x0 + 9) + 36 + 16 * Int.toNat x2)), (0, XR x0), (1, XI x1), (2, XI x2)]) dX4_work_59 (by decide) rfl ?_
          refine g_aload_n 0 dX4_work_60 rfl ?_
          refine g_iconst (v := 0) dX4_work_61 rfl (i32l rfl) ?_
          refine g_putI dX4_work_62 flX4_78 (by decide) rfl (sr_4 (sf_3_8 hx0) (tn_lt c8.1 c8.2)) ?_
          refine g_nmM (fun M9 eM9 => ?_)
          replace h := nm_s eM9 h
          refine g_aload_n 0 dX4_work_65 rfl ?_
          refine g_bip dX4_work_66 rfl ?_
          refine g_putI dX4_work_68 flX4_81 (by decide) rfl (sr_4 (sf_3_8 hx0) (tn_lt c8.1 c8.2)) ?_
          refine g_nmM (fun M10 eM10 => ?_)
          replace h := nm_s eM10 h
          refine g_aload_n 1 dX4_work_71 rfl ?_
          refine g_pc (pc' := 72) rfl ?_
          refine g_getI dX4_work_72 flX4_32 (by decide) rfl hx0 ?_
          refine g_aload_n 1 dX4_work_75 rfl ?_
          refine g_getI dX4_work_76 flX4_28 (by decide) rfl hx0 ?_
          obtain ⟨c11, h⟩ := chk_some h
          refine g_iadd dX4_work_79 rfl c11 ?_
          refine g_aload_n 1 dX4_work_80 rfl ?_
          refine g_getR dX4_work_81 flX4_61 (by decide) rfl hx0 ?_
          refine g_getI dX4_work_84 flX4_73 (by decide) rfl (sf_3_0 hx0) ?_
          obtain ⟨t15, ht15, h⟩ := bnd_some h
          have Kt15 : Go X mX4_work (d + 4) 104 [(0, XR x0), (2, XI x2), (3, XR ((x0 + 9) + 36 + 16 * Int.toNat x2))] [] t15 Post := by
            refine g_aload_n 2 dX4_work_104 rfl ?_
            refine g_getI dX4_work_105 flX4_81 (by decide) rfl (sr_4 (sf_3_8 hx0) (tn_lt c8.1 c8.2)) ?_
            refine g_bip dX4_work_108 rfl ?_
            obtain ⟨t20, ht20, h⟩ := bnd_some h
            have Kt20 : Go X mX4_work (d + 4) 118 [(0, XR x0), (2, XI x2)] [XI t20] t15 Post := by
              refine g_istore_n (ls' := [(1, XI t20), (0, XR x0), (2, XI x2)]) dX4_work_118 (by decide) rfl ?_
              obtain ⟨c22, h⟩ := chk_some h
              refine g_iinc (ls' := [(2, XI (x2 + 1)), (1, XI t20), (0, XR x0)]) 2 dX4_work_119 rfl rfl c22 (by decide) rfl ?_
              refine g_goto (tgt := 19) dX4_work_122 (by decide) ?_
              exact g_sub [2, 1, 0] rfl (ih _ _ _ _ h K)
            refine g_icmp_eq (tgt := 117) dX4_work_110 (by decide) (fun b21 => ?_) (fun b21 => ?_)
            · replace ht20 := ifp b21 ht20
              refine g_iconst (v := 0) dX4_work_117 rfl (i32l rfl) ?_
              cases ht20
              exact g_sub [0, 1] rfl Kt20
            · replace ht20 := ifn b21 ht20
              refine g_pc (pc' := 113) rfl ?_
              refine g_iconst (v := 1) dX4_work_113 rfl (i32l rfl) ?_
              refine g_goto (tgt := 118) dX4_work_114 (by decide) ?_
              cases ht20
              exact g_sub [0, 1] rfl Kt20
          refine g_icmp_gt (tgt := 98) dX4_work_87 (by decide) (fun b16 => ?_) (fun b16 => ?_)
          · replace ht15 := ifp b16 ht15
            refine g_aload_n 1 dX4_work_98 rfl ?_
            refine g_aload_n 0 dX4_work_99 rfl ?_
            refine g_iload_n 2 dX4_work_100 rfl ?_
            obtain ⟨q17, hq17, ht15⟩ := bnd_some ht15
            refine v_V (ci := 3) (as := [XR ((x0 + 9) + 36 + 16 * Int.toNat x2), XI x1]) dX4_work_101 mlX4_88 mdX4_goByRounds mvX4_goByRounds rfl hx0 rfl (Nat.le_of_ble_eq_true rfl) (kX4_goByRounds hx0 (sr_4 (sf_3_8 hx0) (tn_lt c8.1 c8.2)) hq17) rfl ?_
            cases ht15
            exact g_sub [1, 3, 0] rfl Kt15
          · replace ht15 := ifn b16 ht15
            refine g_pc (pc' := 90) rfl ?_
            refine g_aload_n 1 dX4_work_90 rfl ?_
            refine g_aload_n 0 dX4_work_91 rfl ?_
            obtain ⟨q18, hq18, ht15⟩ := bnd_some ht15
            refine v_V (ci := 3) (as := [XR ((x0 + 9) + 36 + 16 * Int.toNat x2)]) dX4_work_92 mlX4_84 mdX4_fill mvX4_fill rfl hx0 rfl (Nat.le_of_ble_eq_true rfl) (kX4_fill hx0 (sr_4 (sf_3_8 hx0) (tn_lt c8.1 c8.2)) hq18) rfl ?_
            refine g_goto (tgt := 104) dX4_work_95 (by decide) ?_
            cases ht15
            exact g_sub [1, 3, 0] rfl Kt15
set_option maxHeartbeats 8000000 in
set_option maxRecDepth 20000 in
theorem kX4_work {X : XC} {d : Nat} {x0 : Nat} (hx0 : Sh x0 = (13, 14)) {M : Mem} {q : Int × Mem} (h : fX4_work x0 M = some q) : Ct X mX4_work (d + 4) [XR x0] M (pV q) := by
  unfold fX4_work at h
  refine ct_go (by decide +kernel) (Nat.le_of_ble_eq_true rfl) (ls := [(0, XR x0)]) rfl ?_
  refine g_aload_n 0 dX4_work_0 rfl ?_
  refine g_getR dX4_work_1 flX4_12 (by decide) rfl hx0 ?_
  refine g_aload_n 0 dX4_work_4 rfl ?_
  refine g_getR dX4_work_5 flX4_61 (by decide) rfl hx0 ?_
  obtain ⟨q1, hq1, h⟩ := bnd_some h
  refine v_V (ci := 0) (as := [XR (x0 + 10000)]) dX4_work_8 mlX4_66 mdX0_gather mvX0_gather rfl (sf_3_1 hx0) rfl (Nat.le_of_ble_eq_true rfl) (kX0_gather (sf_3_1 hx0) (sf_3_0 hx0) hq1) rfl ?_
  refine g_aload_n 0 dX4_work_11 rfl ?_
  obtain ⟨q2, hq2, h⟩ := bnd_some h
  refine v_V (ci := 3) (as := []) dX4_work_12 mlX4_70 mdX4_begin mvX4_begin rfl hx0 rfl (Nat.le_of_ble_eq_true rfl) (kX4_begin hx0 hq2) rfl ?_
  refine g_iconst (v := 0) dX4_work_15 rfl (i32l rfl) ?_
  refine g_pc (pc' := 16) rfl ?_
  refine g_istore_n (ls' := [(1, XI 0), (0, XR x0)]) dX4_work_16 (by decide) rfl ?_
  refine g_iconst (v := 0) dX4_work_17 rfl (i32l rfl) ?_
  refine g_istore_n (ls' := [(2, XI 0), (1, XI 0), (0, XR x0)]) dX4_work_18 (by decide) rfl ?_
  obtain ⟨z23, hz23, h⟩ := bnd_some h
  refine g_sub (ls' := [(0, XR x0), (1, XI 0), (2, XI 0)]) [2, 1, 0] rfl ?_
  refine lX4_work_l19 hx0 1000 _ _ _ _ hz23 ?_
  cases h
  exact g_return dX4_work_125 rfl ⟨rfl, rfl⟩
set_option maxHeartbeats 8000000 in
set_option maxRecDepth 20000 in
theorem kX4_whoIsHere {X : XC} {d : Nat} {x0 : Nat} (hx0 : Sh x0 = (13, 14)) {M : Mem} {q : Int × Mem} (h : fX4_whoIsHere x0 M = some q) : Ct X mX4_whoIsHere (d + 1) [XR x0] M (pI q) := by
  unfold fX4_whoIsHere at h
  refine ct_go (by decide +kernel) (Nat.le_of_ble_eq_true rfl) (ls := [(0, XR x0)]) rfl ?_
  refine g_aload_n 0 dX4_whoIsHere_0 rfl ?_
  refine g_iconst (v := 1) dX4_whoIsHere_1 rfl (i32l rfl) ?_
  obtain ⟨q1, hq1, h⟩ := bnd_some h
  refine v_I (ci := 3) (as := [XI 1]) dX4_whoIsHere_2 mlX4_108 mdX4_whoIs mvX4_whoIs rfl hx0 rfl (Nat.le_of_ble_eq_true rfl) (kX4_whoIs hx0 hq1) rfl ?_
  refine g_aload_n 0 dX4_whoIsHere_5 rfl ?_
  refine g_iconst (v := 2) dX4_whoIsHere_6 rfl (i32l rfl) ?_
  obtain ⟨q2, hq2, h⟩ := bnd_some h
  refine v_I (ci := 3) (as := [XI 2]) dX4_whoIsHere_7 mlX4_108 mdX4_whoIs mvX4_whoIs rfl hx0 rfl (Nat.le_of_ble_eq_true rfl) (kX4_whoIs hx0 hq2) rfl ?_
  refine g_ior dX4_whoIsHere_10 ?_
  refine g_aload_n 0 dX4_whoIsHere_11 rfl ?_
  refine g_pc (pc' := 12) rfl ?_
  refine g_iconst (v := 3) dX4_whoIsHere_12 rfl (i32l rfl) ?_
  obtain ⟨q3, hq3, h⟩ := bnd_some h
  refine v_I (ci := 3) (as := [XI 3]) dX4_whoIsHere_13 mlX4_108 mdX4_whoIs mvX4_whoIs rfl hx0 rfl (Nat.le_of_ble_eq_true rfl) (kX4_whoIs hx0 hq3) rfl ?_
  refine g_ior dX4_whoIsHere_16 ?_
  cases h
  exact g_ireturn dX4_whoIsHere_17 rfl ⟨rfl, rfl⟩
set_option maxHeartbeats 8000000 in
set_option maxRecDepth 20000 in
theorem lX4_rankAt_l79 {X : XC} {d : Nat} {Post : Option XV → Mem → Prop} {x0 : Nat} (hx0 : Sh x0 = (13, 14)) : ∀ (n : Nat) (x2 x4 : Int) (M : Mem) (z : (Int × Mem) ⊕ (Int × Int × Mem)), fX4_rankAt_l79 x0 n x2 x4 M = some z → (∀ r, z = .inl r → Post (some (XI r.1)) r.2) → (∀ t0, z = .inr t0 → Go X mX4_rankAt (d + 1) 123 [(0, XR x0), (2, XI t0.1)] [] t0.2.2 Post) → Go X mX4_rankAt (d + 1) 79 [(0, XR x0), (2, XI x2), (4, XI x4)] [] M Post := by
  intro n
  induction n with
  | zero => intro _ _ _ _ h; cases h
  | succ n ih =>
    intro x2 x4 M z h K1 K2
    unfold fX4_rankAt_l79 at h
    refine g_iload 2 dX4_rankAt_79 rfl ?_
    refine g_if_lt (tgt := 123) dX4_rankAt_81 (by decide) (fun b12 => ?_) (fun b12 => ?_)
    · replace h := ifp b12 h
      cases h
      exact g_sub [0, 1] rfl (K2 _ rfl)
    · replace h := ifn b12 h
      refine g_pc (pc' := 84) rfl ?_
      refine g_aload_n 0 dX4_rankAt_84 rfl ?_
      refine g_getR dX4_rankAt_85 flX4_40 (by decide) rfl hx0 ?_
      refine g_iload 2 dX4_rankAt_88 rfl ?_
      obtain ⟨c13, h⟩ := chk_some h
      refine g_aald dX4_rankAt_90 (sf_3_8 hx0) (by decide) c13.1 c13.2 ?_
      refine g_getI dX4_rankAt_91 flX4_81 (by decide) rfl (sr_4 (sf_3_8 hx0) (tn_lt c13.1 c13.2)) ?_
      refine g_bip dX4_rankAt_94 rfl ?_
      refine g_icmp_eq (tgt := 117) dX4_rankAt_96 (by decide) (fun b14 => ?_) (fun b14 => ?_)
      · replace h := ifp b14 h
        obtain ⟨c15, h⟩ := chk_some h
        refine g_iinc (ls' := [(4, XI (x4 + (-1))), (0, XR x0), (2, XI x2)]) 2 dX4_rankAt_117 rfl rfl c15 (by decide) rfl ?_
        refine g_goto (tgt := 79) dX4_rankAt_120 (by decide) ?_
        exact g_sub [1, 2, 0] rfl (ih _ _ _ _ h K1 K2)
      · replace h := ifn b14 h
        refine g_pc (pc' := 99) rfl ?_
        refine g_iload_n 1 dX4_rankAt_99 rfl ?_
        refine g_if_ne (tgt := 114) dX4_rankAt_100 (by decide) (fun b16 => ?_) (fun b16 => ?_)
        · replace h := ifn b16 h
          obtain ⟨c17, h⟩ := chk_some h
          refine g_iinc (ls' := [(2, XI (x2 + (-1))), (0, XR x0), (4, XI x4)]) 1 dX4_rankAt_114 rfl rfl c17 (by decide) rfl ?_
          obtain ⟨c18, h⟩ := chk_some h
          refine g_iinc (ls' := [(4, XI (x4 + (-1))), (2, XI (x2 + (-1))), (0, XR x0)]) 2 dX4_rankAt_117 rfl rfl c18 (by decide) rfl ?_
          refine g_goto (tgt := 79) dX4_rankAt_120 (by decide) ?_
          exact g_sub [2, 1, 0] rfl (ih _ _ _ _ h K1 K2)
        · replace h := ifp b16 h
          refine g_pc (pc' := 103) rfl ?_
          refine g_aload_n 0 dX4_rankAt_103 rfl ?_
          refine g_getR dX4_rankAt_104 flX4_40 (by decide) rfl hx0 ?_
          refine g_iload 2 dX4_rankAt_107 rfl ?_
          obtain ⟨c19, h⟩ := chk_some h
          refine g_aald dX4_rankAt_109 (sf_3_8 hx0) (by decide) c19.1 c19.2 ?_
          refine g_getI dX4_rankAt_110 flX4_81 (by decide) rfl (sr_4 (sf_3_8 hx0) (tn_lt c19.1 c19.2)) ?_
          cases h
          exact g_ireturn dX4_rankAt_113 rfl (K1 ((M ((x0 + 9) + 36 + 16 * Int.toNat x4) 1), M) rfl)
set_option maxHeartbeats 8000000 in
set_option maxRecDepth 20000 in
theorem lX4_rankAt_l126 {X : XC} {d : Nat} {Post : Option XV → Mem → Prop} {x0 : Nat} (hx0 : Sh x0 = (13, 14)) : ∀ (n : Nat) (x2 x4 : Int) (M : Mem) (z : (Int × Mem) ⊕ (Int × Int × Mem)), fX4_rankAt_l126 x0 n x2 x4 M = some z → (∀ r, z = .inl r → Post (some (XI r.1)) r.2) → Go X mX4_rankAt (d + 1) 126 [(0, XR x0), (2, XI x2), (4, XI x4)] [] M Post := by
  intro n
  induction n with
  | zero => intro _ _ _ _ h; cases h
  | succ n ih =>
    intro x2 x4 M z h K1
    unfold fX4_rankAt_l126 at h
    refine g_iload 2 dX4_rankAt_126 rfl ?_
    refine g_aload_n 0 dX4_rankAt_128 rfl ?_
    refine g_getR dX4_rankAt_129 flX4_61 (by decide) rfl hx0 ?_
    refine g_getI dX4_rankAt_132 flX4_92 (by decide) rfl (sf_3_0 hx0) ?_
    refine g_icmp_ge (tgt := 164) dX4_rankAt_135 (by decide) (fun b22 => ?_) (fun b22 => ?_)
    · replace h := ifp b22 h
      refine g_iconst (v := -1) dX4_rankAt_164 rfl (i32l rfl) ?_
      cases h
      exact g_ireturn dX4_rankAt_165 rfl (K1 ((-1), M) rfl)
    · replace h := ifn b22 h
      refine g_pc (pc' := 138) rfl ?_
      refine g_aload_n 0 dX4_rankAt_138 rfl ?_
      refine g_getR dX4_rankAt_139 flX4_18 (by decide) rfl hx0 ?_
      refine g_iload 2 dX4_rankAt_142 rfl ?_
      obtain ⟨c23, h⟩ := chk_some h
      refine g_iald dX4_rankAt_144 (sf_3_2 hx0) c23.1 c23.2 ?_
      refine g_if_ne (tgt := 158) dX4_rankAt_145 (by decide) (fun b24 => ?_) (fun b24 => ?_)
      · replace h := ifn b24 h
        obtain ⟨c25, h⟩ := chk_some h
        refine g_iinc (ls' := [(4, XI (x4 + 1)), (0, XR x0), (2, XI x2)]) 2 dX4_rankAt_158 rfl rfl c25 (by decide) rfl ?_
        refine g_goto (tgt := 126) dX4_rankAt_161 (by decide) ?_
        exact g_sub [1, 2, 0] rfl (ih _ _ _ _ h K1)
      · replace h := ifp b24 h
        refine g_pc (pc' := 148) rfl ?_
        refine g_iload_n 1 dX4_rankAt_148 rfl ?_
        refine g_if_ne (tgt := 155) dX4_rankAt_149 (by decide) (fun b26 => ?_) (fun b26 => ?_)
        · replace h := ifn b26 h
          obtain ⟨c27, h⟩ := chk_some h
          refine g_iinc (ls' := [(2, XI (x2 + (-1))), (0, XR x0), (4, XI x4)]) 1 dX4_rankAt_155 rfl rfl c27 (by decide) rfl ?_
          obtain ⟨c28, h⟩ := chk_some h
          refine g_iinc (ls' := [(4, XI (x4 + 1)), (2, XI (x2 + (-1))), (0, XR x0)]) 2 dX4_rankAt_158 rfl rfl c28 (by decide) rfl ?_
          refine g_goto (tgt := 126) dX4_rankAt_161 (by decide) ?_
          exact g_sub [2, 1, 0] rfl (ih _ _ _ _ h K1)
        · replace h := ifp b26 h
          refine g_pc (pc' := 152) rfl ?_
          refine g_iload 2 dX4_rankAt_152 rfl ?_
          cases h
          exact g_ireturn dX4_rankAt_154 rfl (K1 (x4, M) rfl)
set_option maxHeartbeats 8000000 in
set_option maxRecDepth 20000 in
theorem kX4_rankAt {X : XC} {d : Nat} {x0 : Nat} {x1 : Int} (hx0 : Sh x0 = (13, 14)) {M : Mem} {q : Int × Mem} (h : fX4_rankAt x0 x1 M = some q) : Ct X mX4_rankAt (d + 1) [XR x0, XI x1] M (pI q) := by
  unfold fX4_rankAt at h
  refine ct_go (by decide +kernel) (Nat.le_of_ble_eq_true rfl) (ls := [(0, XR x0), (1, XI x1)]) rfl ?_
  refine g_iload_n 1 dX4_rankAt_0 rfl ?_
  refine g_if_lt (tgt := 19) dX4_rankAt_1 (by decide) (fun b1 => ?_) (fun b1 => ?_)
  · replace h := ifp b1 h
    refine g_iload_n 1 dX4_rankAt_19 rfl ?_
    refine g_aload_n 0 dX4_rankAt_20 rfl ?_
    refine g_getI dX4_rankAt_21 flX4_28 (by decide) rfl hx0 ?_
    obtain ⟨c2, h⟩ := chk_some h
    refine g_isub dX4_rankAt_24 rfl c2 ?_
    refine g_nmI (fun v3 ev3 => ?_)
    replace h := nm_s ev3 h
    refine g_istore_n (ls' := [(2, XI v3), (0, XR x0), (1, XI x1)]) dX4_rankAt_25 (by decide) rfl ?_
    refine g_aload_n 1 dX4_rankAt_26 rfl ?_
    refine g_aload_n 1 dX4_rankAt_27 rfl ?_
    refine g_getI dX4_rankAt_28 flX4_35 (by decide) rfl hx0 ?_
    refine g_pc (pc' := 31) rfl ?_
    refine g_iconst (v := 1) dX4_rankAt_31 rfl (i32l rfl) ?_
    obtain ⟨c4, h⟩ := chk_some h
    refine g_isub dX4_rankAt_32 rfl c4 ?_
    obtain ⟨q5, hq5, h⟩ := bnd_some h
    refine v_R (ci := 3) (as := [XI ((M x0 7) - 1)]) dX4_rankAt_33 mlX4_198 mdX4_stageAt mvX4_stageAt rfl hx0 rfl (Nat.le_of_ble_eq_true rfl) (kX4_stageAt hx0 hq5) rfl (fun ea6 => ?_) (fun a6 ea6 => ?_)
    · replace h := oc_n ea6 h
      refine g_astore_nN (ls' := [(3, XN), (2, XI v3), (0, XR x0), (1, XI x1)]) dX4_rankAt_36 (by decide) rfl ?_
      refine g_aload_nN 0 dX4_rankAt_37 rfl ?_
      refine g_ifnullN (tgt := 64) dX4_rankAt_38 (by decide) ?_
      refine g_iload_n 1 dX4_rankAt_64 rfl ?_
      refine g_aload_n 2 dX4_rankAt_65 rfl ?_
      refine g_getI dX4_rankAt_66 flX4_32 (by decide) rfl hx0 ?_
      obtain ⟨c8, h⟩ := chk_some h
      refine g_isub dX4_rankAt_69 rfl c8 ?_
      refine g_nmI (fun v9 ev9 => ?_)
      replace h := nm_s ev9 h
      refine g_istore_n (ls' := [(2, XI v9), (3, XN), (0, XR x0), (1, XI x1)]) dX4_rankAt_70 (by decide) rfl ?_
      refine g_aload_n 2 dX4_rankAt_71 rfl ?_
      refine g_getI dX4_rankAt_72 flX4_35 (by decide) rfl hx0 ?_
      refine g_iconst (v := 1) dX4_rankAt_75 rfl (i32l rfl) ?_
      refine g_pc (pc' := 76) rfl ?_
      obtain ⟨c10, h⟩ := chk_some h
      refine g_isub dX4_rankAt_76 rfl c10 ?_
      refine g_nmI (fun v11 ev11 => ?_)
      replace h := nm_s ev11 h
      refine g_istore (ls' := [(4, XI v11), (2, XI v9), (3, XN), (0, XR x0), (1, XI x1)]) dX4_rankAt_77 (by decide) rfl ?_
      obtain ⟨z20, hz20, rz20, h⟩ := lr_some h
      refine g_sub (ls' := [(0, XR x0), (2, XI v9), (4, XI v11)]) [3, 1, 0] rfl ?_
      refine lX4_rankAt_l79 hx0 1000 _ _ _ _ hz20 (fun r e => ?_) (fun t21 et21 => ?_)
      · have rz20 := rz20 r e
        subst rz20
        exact ⟨rfl, rfl⟩
      · replace h := h t21 et21
        refine g_iconst (v := 0) dX4_rankAt_123 rfl (i32l rfl) ?_
        refine g_istore (ls' := [(4, XI 0), (0, XR x0), (2, XI t21.1)]) dX4_rankAt_124 (by decide) rfl ?_
        obtain ⟨z29, hz29, rz29, h⟩ := lr_some h
        refine g_sub (ls' := [(0, XR x0), (2, XI t21.1), (4, XI 0)]) [1, 2, 0] rfl ?_
        refine lX4_rankAt_l126 hx0 1000 _ _ _ _ hz29 (fun r e => ?_)
        have rz29 := rz29 r e
        subst rz29
        exact ⟨rfl, rfl⟩
    · replace h := oc_s ea6 h
      obtain ⟨c7, h⟩ := chk_some h
      refine g_astore_n (ls' := [(3, XR a6), (2, XI v3), (0, XR x0), (1, XI x1)]) dX4_rankAt_36 (by decide) rfl ?_
      refine g_aload_n 0 dX4_rankAt_37 rfl ?_
      refine g_ifnullR dX4_rankAt_38 ?_
      refine g_iload_n 1 dX4_rankAt_41 rfl ?_
      refine g_aload_n 2 dX4_rankAt_42 rfl ?_
      refine g_getI dX4_rankAt_43 flX4_32 (by decide) rfl hx0 ?_
      refine g_icmp_ge (tgt := 64) dX4_rankAt_46 (by decide) (fun b30 => ?_) (fun b30 => ?_)
      · replace h := ifp b30 h
        refine g_iload_n 1 dX4_rankAt_64 rfl ?_
        refine g_aload_n 2 dX4_rankAt_65 rfl ?_
        refine g_getI dX4_rankAt_66 flX4_32 (by decide) rfl hx0 ?_
        obtain ⟨c31, h⟩ := chk_some h
        refine g_isub dX4_rankAt_69 rfl c31 ?_
        refine g_nmI (fun v32 ev32 => ?_)
        replace h := nm_s ev32 h
        refine g_istore_n (ls' := [(2, XI v32), (3, XR a6), (0, XR x0), (1, XI x1)]) dX4_rankAt_70 (by decide) rfl ?_
        refine g_aload_n 2 dX4_rankAt_71 rfl ?_
        refine g_getI dX4_rankAt_72 flX4_35 (by decide) rfl hx0 ?_
        refine g_iconst (v := 1) dX4_rankAt_75 rfl (i32l rfl) ?_
        refine g_pc (pc' := 76) rfl ?_
        obtain ⟨c33, h⟩ := chk_some h
        refine g_isub dX4_rankAt_76 rfl c33 ?_
        refine g_nmI (fun v34 ev34 => ?_)
        replace h := nm_s ev34 h
        refine g_istore (ls' := [(4, XI v34), (2, XI v32), (3, XR a6), (0, XR x0), (1, XI x1)]) dX4_rankAt_77 (by decide) rfl ?_
        obtain ⟨z35, hz35, rz35, h⟩ := lr_some h
        refine g_sub (ls' := [(0, XR x0), (2, XI v32), (4, XI v34)]) [3, 1, 0] rfl ?_
        refine lX4_rankAt_l79 hx0 1000 _ _ _ _ hz35 (fun r e => ?_) (fun t36 et36 => ?_)
        · have rz35 := rz35 r e
          subst rz35
          exact ⟨rfl, rfl⟩
        · replace h := h t36 et36
          refine g_iconst (v := 0) dX4_rankAt_123 rfl (i32l rfl) ?_
          refine g_istore (ls' := [(4, XI 0), (0, XR x0), (2, XI t36.1)]) dX4_rankAt_124 (by decide) rfl ?_
          obtain ⟨z37, hz37, rz37, h⟩ := lr_some h
          refine g_sub (ls' := [(0, XR x0), (2, XI t36.1), (4, XI 0)]) [1, 2, 0] rfl ?_
          refine lX4_rankAt_l126 hx0 1000 _ _ _ _ hz37 (fun r e => ?_)
          have rz37 := rz37 r e
          subst rz37
          exact ⟨rfl, rfl⟩
      · replace h := ifn b30 h
        refine g_pc (pc' := 49) rfl ?_
        refine g_aload_n 2 dX4_rankAt_49 rfl ?_
        refine g_aload_n 0 dX4_rankAt_50 rfl ?_
        refine g_getR dX4_rankAt_51 flX4_178 (by decide) rfl c7 ?_
        refine g_aload_n 2 dX4_rankAt_54 rfl ?_
        refine g_iconst (v := 1) dX4_rankAt_55 rfl (i32l rfl) ?_
        obtain ⟨q38, hq38, h⟩ := bnd_some h
        refine v_I (ci := 3) (as := [XI 1]) dX4_rankAt_56 mlX4_108 mdX4_whoIs mvX4_whoIs rfl hx0 rfl (Nat.le_of_ble_eq_true rfl) (kX4_whoIs hx0 hq38) rfl ?_
        refine g_iload_n 1 dX4_rankAt_59 rfl ?_
        obtain ⟨q39, hq39, h⟩ := bnd_some h
        refine v_I (ci := 3) (as := [XR (a6 + 8), XI q38.1, XI v3]) dX4_rankAt_60 mlX4_180 mdX4_leader mvX4_leader rfl hx0 rfl (Nat.le_of_ble_eq_true rfl) (kX4_leader hx0 (sf_2_7 c7) hq39) rfl ?_
        refine g_pc (pc' := 63) rfl ?_
        cases h
        exact g_ireturn dX4_rankAt_63 rfl ⟨rfl, rfl⟩
  · replace h := ifn b1 h
    refine g_pc (pc' := 4) rfl ?_
    refine g_iload_n 1 dX4_rankAt_4 rfl ?_
    refine g_aload_n 0 dX4_rankAt_5 rfl ?_
    refine g_getI dX4_rankAt_6 flX4_28 (by decide) rfl hx0 ?_
    refine g_icmp_ge (tgt := 19) dX4_rankAt_9 (by decide) (fun b40 => ?_) (fun b40 => ?_)
    · replace h := ifp b40 h
      refine g_iload_n 1 dX4_rankAt_19 rfl ?_
      refine g_aload_n 0 dX4_rankAt_20 rfl ?_
      refine g_getI dX4_rankAt_21 flX4_28 (by decide) rfl hx0 ?_
      obtain ⟨c41, h⟩ := chk_some h
      refine g_isub dX4_rankAt_24 rfl c41 ?_
      refine g_nmI (fun v42 ev42 => ?_)
      replace h := nm_s ev42 h
      refine g_istore_n (ls' := [(2, XI v42), (0, XR x0), (1, XI x1)]) dX4_rankAt_25 (by decide) rfl ?_
      refine g_aload_n 1 dX4_rankAt_26 rfl ?_
      refine g_aload_n 1 dX4_rankAt_27 rfl ?_
      refine g_getI dX4_rankAt_28 flX4_35 (by decide) rfl hx0 ?_
      refine g_pc (pc' := 31) rfl ?_
      refine g_iconst (v := 1) dX4_rankAt_31 rfl (i32l rfl) ?_
      obtain ⟨c43, h⟩ := chk_some h
      refine g_isub dX4_rankAt_32 rfl c43 ?_
      obtain ⟨q44, hq44, h⟩ := bnd_some h
      refine v_R (ci := 3) (as := [XI ((M x0 7) - 1)]) dX4_rankAt_33 mlX4_198 mdX4_stageAt mvX4_stageAt rfl hx0 rfl (Nat.le_of_ble_eq_true rfl) (kX4_stageAt hx0 hq44) rfl (fun ea45 => ?_) (fun a45 ea45 => ?_)
      · replace h := oc_n ea45 h
        refine g_astore_nN (ls' := [(3, XN), (2, XI v42), (0, XR x0), (1, XI x1)]) dX4_rankAt_36 (by decide) rfl ?_
        refine g_aload_nN 0 dX4_rankAt_37 rfl ?_
        refine g_ifnullN (tgt := 64) dX4_rankAt_38 (by decide) ?_
        refine g_iload_n 1 dX4_rankAt_64 rfl ?_
        refine g_aload_n 2 dX4_rankAt_65 rfl ?_
        refine g_getI dX4_rankAt_66 flX4_32 (by decide) rfl hx0 ?_
        obtain ⟨c47, h⟩ := chk_some h
        refine g_isub dX4_rankAt_69 rfl c47 ?_
        refine g_nmI (fun v48 ev48 => ?_)
        replace h := nm_s ev48 h
        refine g_istore_n (ls' := [(2, XI v48), (3, XN), (0, XR x0), (1, XI x1)]) dX4_rankAt_70 (by decide) rfl ?_
        refine g_aload_n 2 dX4_rankAt_71 rfl ?_
        refine g_getI dX4_rankAt_72 flX4_35 (by decide) rfl hx0 ?_
        refine g_iconst (v := 1) dX4_rankAt_75 rfl (i32l rfl) ?_
        refine g_pc (pc' := 76) rfl ?_
        obtain ⟨c49, h⟩ := chk_some h
        refine g_isub dX4_rankAt_76 rfl c49 ?_
        refine g_nmI (fun v50 ev50 => ?_)
        replace h := nm_s ev50 h
        refine g_istore (ls' := [(4, XI v50), (2, XI v48), (3, XN), (0, XR x0), (1, XI x1)]) dX4_rankAt_77 (by decide) rfl ?_
        obtain ⟨z51, hz51, rz51, h⟩ := lr_some h
        refine g_sub (ls' := [(0, XR x0), (2, XI v48), (4, XI v50)]) [3, 1, 0] rfl ?_
        refine lX4_rankAt_l79 hx0 1000 _ _ _ _ hz51 (fun r e => ?_) (fun t52 et52 => ?_)
        · have rz51 := rz51 r e
          subst rz51
          exact ⟨rfl, rfl⟩
        · replace h := h t52 et52
          refine g_iconst (v := 0) dX4_rankAt_123 rfl (i32l rfl) ?_
          refine g_istore (ls' := [(4, XI 0), (0, XR x0), (2, XI t52.1)]) dX4_rankAt_124 (by decide) rfl ?_
          obtain ⟨z53, hz53, rz53, h⟩ := lr_some h
          refine g_sub (ls' := [(0, XR x0), (2, XI t52.1), (4, XI 0)]) [1, 2, 0] rfl ?_
          refine lX4_rankAt_l126 hx0 1000 _ _ _ _ hz53 (fun r e => ?_)
          have rz53 := rz53 r e
          subst rz53
          exact ⟨rfl, rfl⟩
      · replace h := oc_s ea45 h
        obtain ⟨c46, h⟩ := chk_some h
        refine g_astore_n (ls' := [(3, XR a45), (2, XI v42), (0, XR x0), (1, XI x1)]) dX4_rankAt_36 (by decide) rfl ?_
        refine g_aload_n 0 dX4_rankAt_37 rfl ?_
        refine g_ifnullR dX4_rankAt_38 ?_
        refine g_iload_n 1 dX4_rankAt_41 rfl ?_
        refine g_aload_n 2 dX4_rankAt_42 rfl ?_
        refine g_getI dX4_rankAt_43 flX4_32 (by decide) rfl hx0 ?_
        refine g_icmp_ge (tgt := 64) dX4_rankAt_46 (by decide) (fun b54 => ?_) (fun b54 => ?_)
        · replace h := ifp b54 h
          refine g_iload_n 1 dX4_rankAt_64 rfl ?_
          refine g_aload_n 2 dX4_rankAt_65 rfl ?_
          refine g_getI dX4_rankAt_66 flX4_32 (by decide) rfl hx0 ?_
          obtain ⟨c55, h⟩ := chk_some h
          refine g_isub dX4_rankAt_69 rfl c55 ?_
          refine g_nmI (fun v56 ev56 => ?_)
          replace h := nm_s ev56 h
          refine g_istore_n (ls' := [(2, XI v56), (3, XR a45), (0, XR x0), (1, XI x1)]) dX4_rankAt_70 (by decide) rfl ?_
          refine g_aload_n 2 dX4_rankAt_71 rfl ?_
          refine g_getI dX4_rankAt_72 flX4_35 (by decide) rfl hx0 ?_
          refine g_iconst (v := 1) dX4_rankAt_75 rfl (i32l rfl) ?_
          refine g_pc (pc' := 76) rfl ?_
          obtain ⟨c57, h⟩ := chk_some h
          refine g_isub dX4_rankAt_76 rfl c57 ?_
          refine g_nmI (fun v58 ev58 => ?_)
          replace h := nm_s ev58 h
          refine g_istore (ls' := [(4, XI v58), (2, XI v56), (3, XR a45), (0, XR x0), (1, XI x1)]) dX4_rankAt_77 (by decide) rfl ?_
          obtain ⟨z59, hz59, rz59, h⟩ := lr_some h
          refine g_sub (ls' := [(0, XR x0), (2, XI v56), (4, XI v58)]) [3, 1, 0] rfl ?_
          refine lX4_rankAt_l79 hx0 1000 _ _ _ _ hz59 (fun r e => ?_) (fun t60 et60 => ?_)
          · have rz59 := rz59 r e
            subst rz59
            exact ⟨rfl, rfl⟩
          · replace h := h t60 et60
            refine g_iconst (v := 0) dX4_rankAt_123 rfl (i32l rfl) ?_
            refine g_istore (ls' := [(4, XI 0), (0, XR x0), (2, XI t60.1)]) dX4_rankAt_124 (by decide) rfl ?_
            obtain ⟨z61, hz61, rz61, h⟩ := lr_some h
            refine g_sub (ls' := [(0, XR x0), (2, XI t60.1), (4, XI 0)]) [1, 2, 0] rfl ?_
            refine lX4_rankAt_l126 hx0 1000 _ _ _ _ hz61 (fun r e => ?_)
            have rz61 := rz61 r e
            subst rz61
            exact ⟨rfl, rfl⟩
        · replace h := ifn b54 h
          refine g_pc (pc' := 49) rfl ?_
          refine g_aload_n 2 dX4_rankAt_49 rfl ?_
          refine g_aload_n 0 dX4_rankAt_50 rfl ?_
          refine g_getR dX4_rankAt_51 flX4_178 (by decide) rfl c46 ?_
          refine g_aload_n 2 dX4_rankAt_54 rfl ?_
          refine g_iconst (v := 1) dX4_rankAt_55 rfl (i32l rfl) ?_
          obtain ⟨q62, hq62, h⟩ := bnd_some h
          refine v_I (ci := 3) (as := [XI 1]) dX4_rankAt_56 mlX4_108 mdX4_whoIs mvX4_whoIs rfl hx0 rfl (Nat.le_of_ble_eq_true rfl) (kX4_whoIs hx0 hq62) rfl ?_
          refine g_iload_n 1 dX4_rankAt_59 rfl ?_
          obtain ⟨q63, hq63, h⟩ := bnd_some h
          refine v_I (ci := 3) (as := [XR (a45 + 8), XI q62.1, XI v42]) dX4_rankAt_60 mlX4_180 mdX4_leader mvX4_leader rfl hx0 rfl (Nat.le_of_ble_eq_true rfl) (kX4_leader hx0 (sf_2_7 c46) hq63) rfl ?_
          refine g_pc (pc' := 63) rfl ?_
          cases h
          exact g_ireturn dX4_rankAt_63 rfl ⟨rfl, rfl⟩
    · replace h := ifn b40 h
      refine g_pc (pc' := 12) rfl ?_
      refine g_aload_n 0 dX4_rankAt_12 rfl ?_
      refine g_getR dX4_rankAt_13 flX4_25 (by decide) rfl hx0 ?_
      refine g_iload_n 1 dX4_rankAt_16 rfl ?_
      obtain ⟨c64, h⟩ := chk_some h
      refine g_iald dX4_rankAt_17 (sf_3_4 hx0) c64.1 c64.2 ?_
      cases h
      exact g_ireturn dX4_rankAt_18 rfl ⟨rfl, rfl⟩
set_option maxHeartbeats 8000000 in
set_option maxRecDepth 20000 in
theorem kX5_become {X : XC} {d : Nat} {x0 : Nat} {x1 : Int} {x2 : Int} (hx0 : Sh x0 = (14, 3)) {M : Mem} {q : Int × Mem} (h : fX5_become x0 x1 x2 M = some q) : Ct X mX5_become (d + 1) [XR x0, XI x1, XI x2] M (pV q) := by
  unfold fX5_become at h
  refine ct_go (by decide +kernel) (Nat.le_of_ble_eq_true rfl) (ls := [(0, XR x0), (1, XI x1), (2, XI x2)]) rfl ?_
  refine g_aload_n 0 dX5_become_0 rfl ?_
  refine g_iload_n 1 dX5_become_1 rfl ?_
  refine g_putI dX5_become_2 flX5_9 (by decide) rfl hx0 ?_
  refine g_nmM (fun M1 eM1 => ?_)
  replace h := nm_s eM1 h
  refine g_aload_n 0 dX5_become_5 rfl ?_
  refine g_iload_n 2 dX5_become_6 rfl ?_
  refine g_putI dX5_become_7 flX5_15 (by decide) rfl hx0 ?_
  refine g_nmM (fun M2 eM2 => ?_)
  replace h := nm_s eM2 h
  refine g_aload_n 0 dX5_become_10 rfl ?_
  refine g_getR dX5_become_11 flX5_18 (by decide) rfl hx0 ?_
  refine g_pc (pc' := 14) rfl ?_
  refine g_lconst (v := 0) dX5_become_14 rfl (i64l rfl) ?_
  obtain ⟨q3, hq3, h⟩ := bnd_some h
  refine s_V (as := [XR (x0 + 3), XL 0]) dX5_become_15 mlX5_22 mdJ7_fill_d0a16 msJ7_fill_d0a16 rfl (Nat.le_of_ble_eq_true rfl) (kJ7_fill_d0a16_60 (sf_4_2 hx0) hq3) rfl ?_
  cases h
  exact g_return dX5_become_18 rfl ⟨rfl, rfl⟩
set_option maxHeartbeats 8000000 in
set_option maxRecDepth 20000 in
theorem kX5_fitted {X : XC} {d : Nat} {x0 : Nat} {x1 : Int} (hx0 : Sh x0 = (14, 3)) {M : Mem} {q : Int × Mem} (h : fX5_fitted x0 x1 M = some q) : Ct X mX5_fitted d [XR x0, XL x1] M (pJ q) := by
  unfold fX5_fitted at h
  refine ct_go (by decide +kernel) (Nat.le_of_ble_eq_true rfl) (ls := [(0, XR x0), (1, XL x1)]) rfl ?_
  refine g_aload_n 0 dX5_fitted_0 rfl ?_
  refine g_getI dX5_fitted_1 flX5_9 (by decide) rfl hx0 ?_
  by_cases b1 : (M x0 0) = 0
  · replace h := ifp b1 h
    refine g_tswIn (off := 36) (tgt := 40) dX5_fitted_4 (by rw [b1]; decide) (by rw [b1]; decide) (by rw [b1]; rfl) (by decide) ?_
    refine g_lload_n 1 dX5_fitted_40 rfl ?_
    refine g_l2i dX5_fitted_41 ?_
    refine g_i2b dX5_fitted_42 ?_
    refine g_i2l dX5_fitted_43 ?_
    cases h
    exact g_lreturn dX5_fitted_44 rfl ⟨rfl, rfl⟩
  · replace h := ifn b1 h
    by_cases b2 : (M x0 0) = 1
    · replace h := ifp b2 h
      refine g_tswIn (off := 41) (tgt := 45) dX5_fitted_4 (by rw [b2]; decide) (by rw [b2]; decide) (by rw [b2]; rfl) (by decide) ?_
      refine g_lload_n 1 dX5_fitted_45 rfl ?_
      refine g_l2i dX5_fitted_46 ?_
      refine g_i2s dX5_fitted_47 ?_
      refine g_i2l dX5_fitted_48 ?_
      cases h
      exact g_lreturn dX5_fitted_49 rfl ⟨rfl, rfl⟩
    · replace h := ifn b2 h
      by_cases b3 : (M x0 0) = 2
      · replace h := ifp b3 h
        refine g_tswIn (off := 46) (tgt := 50) dX5_fitted_4 (by rw [b3]; decide) (by rw [b3]; decide) (by rw [b3]; rfl) (by decide) ?_
        refine g_lload_n 1 dX5_fitted_50 rfl ?_
        refine g_l2i dX5_fitted_51 ?_
        refine g_i2l dX5_fitted_52 ?_
        cases h
        exact g_lreturn dX5_fitted_53 rfl ⟨rfl, rfl⟩
      · replace h := ifn b3 h
        by_cases b4 : (M x0 0) = 3
        · replace h := ifp b4 h
          refine g_tswIn (off := 62) (tgt := 66) dX5_fitted_4 (by rw [b4]; decide) (by rw [b4]; decide) (by rw [b4]; rfl) (by decide) ?_
          refine g_lload_n 1 dX5_fitted_66 rfl ?_
          cases h
          exact g_lreturn dX5_fitted_67 rfl ⟨rfl, rfl⟩
        · replace h := ifn b4 h
          by_cases b5 : (M x0 0) = 4
          · replace h := ifp b5 h
            refine g_tswIn (off := 50) (tgt := 54) dX5_fitted_4 (by rw [b5]; decide) (by rw [b5]; decide) (by rw [b5]; rfl) (by decide) ?_
            refine g_lload_n 1 dX5_fitted_54 rfl ?_
            refine g_lconst (v := 0) dX5_fitted_55 rfl (i64l rfl) ?_
            obtain ⟨t7, ht7, h⟩ := bnd_some h
            have Kt7 : Go X mX5_fitted d 65 [] [XL t7] M (pJ q) := by
              cases h
              exact g_lreturn dX5_fitted_65 rfl ⟨rfl, rfl⟩
            refine g_lcmp_eq (tgt := 64) dX5_fitted_56 dX5_fitted_57 (by decide) (fun b8 => ?_) (fun b8 => ?_)
            · replace ht7 := ifp b8 ht7
              refine g_lconst (v := 0) dX5_fitted_64 rfl (i64l rfl) ?_
              cases ht7
              exact g_sub [] rfl Kt7
            · replace ht7 := ifn b8 ht7
              refine g_pc (pc' := 60) rfl ?_
              refine g_lconst (v := 1) dX5_fitted_60 rfl (i64l rfl) ?_
              refine g_goto (tgt := 65) dX5_fitted_61 (by decide) ?_
              cases ht7
              exact g_sub [] rfl Kt7
          · replace h := ifn b5 h
            refine g_tswOut (tgt := 66) dX5_fitted_4 (by omega) (by decide) ?_
            refine g_lload_n 1 dX5_fitted_66 rfl ?_
            cases h
            exact g_lreturn dX5_fitted_67 rfl ⟨rfl, rfl⟩
end
