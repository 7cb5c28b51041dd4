section
def fX8_ranked (x0 : Nat) (x1 : Int) (M : Mem) : Option (Int × Mem) := Option.bind (fX1_hasCandidate (x0 + 10990) x1 M) (fun q1 => Option.bind ((if q1.1 = 0 then some ((-1), q1.2) else Option.bind (fX8_tallied x0 q1.2) (fun q9 => oc q9.1 (none) (fun a10 => if Sh a10 = (13, 14) then Option.bind (fX4_rankAt a10 x1 q9.2) (fun q12 => some (q12.1, q12.2)) else none))) : Option (Int × Mem)) (fun t7 => some (t7.1, t7.2)))
set_option maxRecDepth 20000 in
theorem kX8_ranked {X : XC} {d : Nat} {x0 : Nat} {x1 : Int} (hx0 : Sh x0 = (17, 10)) {M : Mem} {q : Int × Mem} (h : fX8_ranked x0 x1 M = some q) : Ct X mX8_ranked (d + 6) [XR x0, XI x1] M (pI q) := by
  unfold fX8_ranked at h
  refine ct_go (by decide +kernel) (Nat.le_of_ble_eq_true rfl) (ls := [(0, XR x0), (1, XI x1)]) rfl ?_
  refine g_aload_n 0 dX8_ranked_0 rfl ?_
  refine g_getR dX8_ranked_1 flX8_14 (by decide) rfl hx0 ?_
  refine g_iload_n 1 dX8_ranked_4 rfl ?_
  obtain ⟨q1, hq1, h⟩ := bnd_some h
  refine v_I (ci := 1) (as := [XI x1]) dX8_ranked_5 mlX8_103 mdX1_hasCandidate mvX1_hasCandidate rfl (sf_7_0 hx0) rfl (Nat.le_of_ble_eq_true rfl) (kX1_hasCandidate (sf_7_0 hx0) hq1) rfl ?_
  obtain ⟨t7, ht7, h⟩ := bnd_some h
  have Kt7 : Go X mX8_ranked (d + 6) 23 [] [XI t7.1] t7.2 (pI q) := by
    cases h
    exact g_ireturn dX8_ranked_23 rfl ⟨rfl, rfl⟩
  refine g_if_eq (tgt := 22) dX8_ranked_8 (by decide) (fun b8 => ?_) (fun b8 => ?_)
  · replace ht7 := ifp b8 ht7
    refine g_iconst (v := -1) dX8_ranked_22 rfl (i32l rfl) ?_
    cases ht7
    exact g_sub [] rfl Kt7
  · replace ht7 := ifn b8 ht7
    refine g_pc (pc' := 11) rfl ?_
    refine g_aload_n 0 dX8_ranked_11 rfl ?_
    obtain ⟨q9, hq9, ht7⟩ := bnd_some ht7
    refine v_R (ci := 7) (as := []) dX8_ranked_12 mlX8_143 mdX8_tallied mvX8_tallied rfl hx0 rfl (Nat.le_of_ble_eq_true rfl) (kX8_tallied hx0 hq9) rfl (fun ea10 => ?_) (fun a10 ea10 => ?_)
    · replace ht7 := oc_n ea10 ht7
      refine g_iload_n 1 dX8_ranked_15 rfl ?_
      cases ht7
    · replace ht7 := oc_s ea10 ht7
      obtain ⟨c11, ht7⟩ := chk_some ht7
      refine g_iload_n 1 dX8_ranked_15 rfl ?_
      obtain ⟨q12, hq12, ht7⟩ := bnd_some ht7
      refine v_I (ci := 3) (as := [XI x1]) dX8_ranked_16 mlX8_224 mdX4_rankAt mvX4_rankAt rfl c11 rfl (Nat.le_of_ble_eq_true rfl) (kX4_rankAt c11 hq12) rfl ?_
      refine g_goto (tgt := 23) dX8_ranked_19 (by decide) ?_
      cases ht7
      exact g_sub [] rfl Kt7
def fX8_standing (x0 : Nat) (x1 : Int) (x2 : Int) (M : Mem) : Option (Int × Mem) := Option.bind (fX8_tallied x0 M) (fun q1 => oc q1.1 (none) (fun a2 => if Sh a2 = (13, 14) then Option.bind (fX4_stageAt a2 x1 q1.2) (fun q4 => oc q4.1 (some ((-1), q4.2)) (fun a5 => if Sh a5 = (12, 9) then Option.bind (fX1_hasCandidate (x0 + 10990) x2 q4.2) (fun q7 => (if q7.1 = 0 then some ((-1), q7.2) else Option.bind (fX4_whoIsHere a2 q7.2) (fun q9 => Option.bind (fX4_leader a2 (a5 + 8) q9.1 x2 q9.2) (fun q10 => some (q10.1, q10.2))))) else none)) else none))
set_option maxRecDepth 20000 in
theorem kX8_standing {X : XC} {d : Nat} {x0 : Nat} {x1 : Int} {x2 : Int} (hx0 : Sh x0 = (17, 10)) {M : Mem} {q : Int × Mem} (h : fX8_standing x0 x1 x2 M = some q) : Ct X mX8_standing (d + 6) [XR x0, XI x1, XI x2] M (pI q) := by
  unfold fX8_standing at h
  refine ct_go (by decide +kernel) (Nat.le_of_ble_eq_true rfl) (ls := [(0, XR x0), (1, XI x1), (2, XI x2)]) rfl ?_
  refine g_aload_n 0 dX8_standing_0 rfl ?_
  obtain ⟨q1, hq1, h⟩ := bnd_some h
  refine v_R (ci := 7) (as := []) dX8_standing_1 mlX8_143 mdX8_tallied mvX8_tallied rfl hx0 rfl (Nat.le_of_ble_eq_true rfl) (kX8_tallied hx0 hq1) rfl (fun ea2 => ?_) (fun a2 ea2 => ?_)
  · replace h := oc_n ea2 h
    refine g_astore_nN (ls' := [(3, XN), (0, XR x0), (1, XI x1), (2, XI x2)]) dX8_standing_4 (by decide) rfl ?_
    refine g_aload_nN 0 dX8_standing_5 rfl ?_
    refine g_iload_n 2 dX8_standing_6 rfl ?_
    cases h
  · replace h := oc_s ea2 h
    obtain ⟨c3, h⟩ := chk_some h
    refine g_astore_n (ls' := [(3, XR a2), (0, XR x0), (1, XI x1), (2, XI x2)]) dX8_standing_4 (by decide) rfl ?_
    refine g_aload_n 0 dX8_standing_5 rfl ?_
    refine g_iload_n 2 dX8_standing_6 rfl ?_
    obtain ⟨q4, hq4, h⟩ := bnd_some h
    refine v_R (ci := 3) (as := [XI x1]) dX8_standing_7 mlX8_186 mdX4_stageAt mvX4_stageAt rfl c3 rfl (Nat.le_of_ble_eq_true rfl) (kX4_stageAt c3 hq4) rfl (fun ea5 => ?_) (fun a5 ea5 => ?_)
    · replace h := oc_n ea5 h
      refine g_astoreN (ls' := [(4, XN), (3, XR a2), (0, XR x0), (1, XI x1), (2, XI x2)]) dX8_standing_10 (by decide) rfl ?_
      refine g_aloadN 0 dX8_standing_12 rfl ?_
      refine g_ifnullN (tgt := 28) dX8_standing_14 (by decide) ?_
      refine g_iconst (v := -1) dX8_standing_28 rfl (i32l rfl) ?_
      cases h
      exact g_ireturn dX8_standing_29 rfl ⟨rfl, rfl⟩
    · replace h := oc_s ea5 h
      obtain ⟨c6, h⟩ := chk_some h
      refine g_astore (ls' := [(4, XR a5), (3, XR a2), (0, XR x0), (1, XI x1), (2, XI x2)]) dX8_standing_10 (by decide) rfl ?_
      refine g_aload 0 dX8_standing_12 rfl ?_
      refine g_ifnullR dX8_standing_14 ?_
      refine g_aload_n 2 dX8_standing_17 rfl ?_
      refine g_getR dX8_standing_18 flX8_14 (by decide) rfl hx0 ?_
      refine g_iload_n 4 dX8_standing_21 rfl ?_
      obtain ⟨q7, hq7, h⟩ := bnd_some h
      refine v_I (ci := 1) (as := [XI x2]) dX8_standing_22 mlX8_103 mdX1_hasCandidate mvX1_hasCandidate rfl (sf_7_0 hx0) rfl (Nat.le_of_ble_eq_true rfl) (kX1_hasCandidate (sf_7_0 hx0) hq7) rfl ?_
      refine g_if_ne (tgt := 30) dX8_standing_25 (by decide) (fun b8 => ?_) (fun b8 => ?_)
      · replace h := ifn b8 h
        refine g_aload_n 1 dX8_standing_30 rfl ?_
        refine g_aload 0 dX8_standing_31 rfl ?_
        refine g_getR dX8_standing_33 flX8_214 (by decide) rfl c6 ?_
        refine g_aload_n 1 dX8_standing_36 rfl ?_
        obtain ⟨q9, hq9, h⟩ := bnd_some h
        refine v_I (ci := 3) (as := []) dX8_standing_37 mlX8_227 mdX4_whoIsHere mvX4_whoIsHere rfl c3 rfl (Nat.le_of_ble_eq_true rfl) (kX4_whoIsHere c3 hq9) rfl ?_
        refine g_iload_n 4 dX8_standing_40 rfl ?_
        obtain ⟨q10, hq10, h⟩ := bnd_some h
        refine v_I (ci := 3) (as := [XR (a5 + 8), XI q9.1, XI x2]) dX8_standing_41 mlX8_231 mdX4_leader mvX4_leader rfl c3 rfl (Nat.le_of_ble_eq_true rfl) (kX4_leader c3 (sf_2_7 c6) hq10) rfl ?_
        cases h
        exact g_ireturn dX8_standing_44 rfl ⟨rfl, rfl⟩
      · replace h := ifp b8 h
        refine g_pc (pc' := 28) rfl ?_
        refine g_iconst (v := -1) dX8_standing_28 rfl (i32l rfl) ?_
        cases h
        exact g_ireturn dX8_standing_29 rfl ⟨rfl, rfl⟩
def fX8_pile (x0 : Nat) (x1 : Int) (x2 : Int) (M : Mem) : Option (Int × Mem) := Option.bind (fX8_tallied x0 M) (fun q1 => oc q1.1 (none) (fun a2 => if Sh a2 = (13, 14) then (if x1 < 0 then some ((-1), q1.2) else (if x1 < (q1.2 (a2 + 20) 0) then (if x2 = 0 then if 0 ≤ x1 ∧ x1 < 25 then Option.bind (fX2_asTold (q1.2 ((a2 + 20) + 2) (Int.toNat x1)) q1.2) (fun q8 => some (q8.1, q8.2)) else none else if x2 = 1 then if 0 ≤ x1 ∧ x1 < 25 then some ((q1.2 ((a2 + 20) + 3) (Int.toNat x1)), q1.2) else none else some ((-1), q1.2)) else some ((-1), q1.2))) else none))
set_option maxRecDepth 20000 in
theorem kX8_pile {X : XC} {d : Nat} {x0 : Nat} {x1 : Int} {x2 : Int} (hx0 : Sh x0 = (17, 10)) {M : Mem} {q : Int × Mem} (h : fX8_pile x0 x1 x2 M = some q) : Ct X mX8_pile (d + 6) [XR x0, XI x1, XI x2] M (pI q) := by
  unfold fX8_pile at h
  refine ct_go (by decide +kernel) (Nat.le_of_ble_eq_true rfl) (ls := [(0, XR x0), (1, XI x1), (2, XI x2)]) rfl ?_
  refine g_aload_n 0 dX8_pile_0 rfl ?_
  obtain ⟨q1, hq1, h⟩ := bnd_some h
  refine v_R (ci := 7) (as := []) dX8_pile_1 mlX8_143 mdX8_tallied mvX8_tallied rfl hx0 rfl (Nat.le_of_ble_eq_true rfl) (kX8_tallied hx0 hq1) rfl (fun ea2 => ?_) (fun a2 ea2 => ?_)
  · replace h := oc_n ea2 h
    cases h
  · replace h := oc_s ea2 h
    obtain ⟨c3, h⟩ := chk_some h
    refine g_getR dX8_pile_4 flX8_177 (by decide) rfl c3 ?_
    refine g_astore_n (ls' := [(3, XR (a2 + 20)), (0, XR x0), (1, XI x1), (2, XI x2)]) dX8_pile_7 (by decide) rfl ?_
    refine g_iload_n 2 dX8_pile_8 rfl ?_
    refine g_if_lt (tgt := 20) dX8_pile_9 (by decide) (fun b4 => ?_) (fun b4 => ?_)
    · replace h := ifp b4 h
      refine g_iconst (v := -1) dX8_pile_20 rfl (i32l rfl) ?_
      cases h
      exact g_ireturn dX8_pile_21 rfl ⟨rfl, rfl⟩
    · replace h := ifn b4 h
      refine g_pc (pc' := 12) rfl ?_
      refine g_iload_n 2 dX8_pile_12 rfl ?_
      refine g_aload_n 0 dX8_pile_13 rfl ?_
      refine g_getI dX8_pile_14 flX8_181 (by decide) rfl (sf_3_1 c3) ?_
      refine g_icmp_lt (tgt := 22) dX8_pile_17 (by decide) (fun b5 => ?_) (fun b5 => ?_)
      · replace h := ifp b5 h
        refine g_iload_n 3 dX8_pile_22 rfl ?_
        by_cases b6 : x2 = 0
        · replace h := ifp b6 h
          refine g_lsw (off := 25) (tgt := 48) dX8_pile_23 (by decide) (by rw [b6]; rfl) (by decide) ?_
          refine g_aload_n 0 dX8_pile_48 rfl ?_
          refine g_getR dX8_pile_49 flX8_235 (by decide) rfl (sf_3_1 c3) ?_
          refine g_iload_n 2 dX8_pile_52 rfl ?_
          obtain ⟨c7, h⟩ := chk_some h
          refine g_iald dX8_pile_53 (sf_0_1 (sf_3_1 c3)) c7.1 c7.2 ?_
          obtain ⟨q8, hq8, h⟩ := bnd_some h
          refine s_I (as := [XI (q1.2 ((a2 + 20) + 2) (Int.toNat x1))]) dX8_pile_54 mlX8_236 mdX2_asTold msX2_asTold rfl (Nat.le_of_ble_eq_true rfl) (kX2_asTold  hq8) rfl ?_
          cases h
          exact g_ireturn dX8_pile_57 rfl ⟨rfl, rfl⟩
        · replace h := ifn b6 h
          by_cases b9 : x2 = 1
          · replace h := ifp b9 h
            refine g_lsw (off := 35) (tgt := 58) dX8_pile_23 (by decide) (by rw [b9]; rfl) (by decide) ?_
            refine g_aload_n 0 dX8_pile_58 rfl ?_
            refine g_getR dX8_pile_59 flX8_239 (by decide) rfl (sf_3_1 c3) ?_
            refine g_iload_n 2 dX8_pile_62 rfl ?_
            obtain ⟨c10, h⟩ := chk_some h
            refine g_iald dX8_pile_63 (sf_0_2 (sf_3_1 c3)) c10.1 c10.2 ?_
            cases h
            exact g_ireturn dX8_pile_64 rfl ⟨rfl, rfl⟩
          · replace h := ifn b9 h
            refine g_lsw (off := 42) (tgt := 65) dX8_pile_23 (by decide) (by simp [Op.lookupswitch.offset, Ne.symm b6, b6, Ne.symm b9, b9]) (by decide) ?_
            refine g_iconst (v := -1) dX8_pile_65 rfl (i32l rfl) ?_
            cases h
            exact g_ireturn dX8_pile_66 rfl ⟨rfl, rfl⟩
      · replace h := ifn b5 h
        refine g_pc (pc' := 20) rfl ?_
        refine g_iconst (v := -1) dX8_pile_20 rfl (i32l rfl) ?_
        cases h
        exact g_ireturn dX8_pile_21 rfl ⟨rfl, rfl⟩
def fX8_preferred (x0 : Nat) (x1 : Int) (x2 : Int) (M : Mem) : Option (Int × Mem) := Option.bind (fX1_hasCandidate (x0 + 10990) x1 M) (fun q1 => (if q1.1 = 0 then some ((-1), q1.2) else Option.bind (fX1_hasCandidate (x0 + 10990) x2 q1.2) (fun q3 => (if q3.1 = 0 then some ((-1), q3.2) else (if x1 = x2 then some ((-1), q3.2) else Option.bind (fX1_manyAhead (x0 + 10990) x1 x2 q3.2) (fun q6 => some (q6.1, q6.2)))))))
set_option maxRecDepth 20000 in
theorem kX8_preferred {X : XC} {d : Nat} {x0 : Nat} {x1 : Int} {x2 : Int} (hx0 : Sh x0 = (17, 10)) {M : Mem} {q : Int × Mem} (h : fX8_preferred x0 x1 x2 M = some q) : Ct X mX8_preferred (d + 3) [XR x0, XI x1, XI x2] M (pI q) := by
  unfold fX8_preferred at h
  refine ct_go (by decide +kernel) (Nat.le_of_ble_eq_true rfl) (ls := [(0, XR x0), (1, XI x1), (2, XI x2)]) rfl ?_
  refine g_aload_n 0 dX8_preferred_0 rfl ?_
  refine g_getR dX8_preferred_1 flX8_14 (by decide) rfl hx0 ?_
  refine g_iload_n 1 dX8_preferred_4 rfl ?_
  obtain ⟨q1, hq1, h⟩ := bnd_some h
  refine v_I (ci := 1) (as := [XI x1]) dX8_preferred_5 mlX8_103 mdX1_hasCandidate mvX1_hasCandidate rfl (sf_7_0 hx0) rfl (Nat.le_of_ble_eq_true rfl) (kX1_hasCandidate (sf_7_0 hx0) hq1) rfl ?_
  refine g_if_eq (tgt := 27) dX8_preferred_8 (by decide) (fun b2 => ?_) (fun b2 => ?_)
  · replace h := ifp b2 h
    refine g_iconst (v := -1) dX8_preferred_27 rfl (i32l rfl) ?_
    cases h
    exact g_ireturn dX8_preferred_28 rfl ⟨rfl, rfl⟩
  · replace h := ifn b2 h
    refine g_pc (pc' := 11) rfl ?_
    refine g_aload_n 0 dX8_preferred_11 rfl ?_
    refine g_getR dX8_preferred_12 flX8_14 (by decide) rfl hx0 ?_
    refine g_iload_n 2 dX8_preferred_15 rfl ?_
    obtain ⟨q3, hq3, h⟩ := bnd_some h
    refine v_I (ci := 1) (as := [XI x2]) dX8_preferred_16 mlX8_103 mdX1_hasCandidate mvX1_hasCandidate rfl (sf_7_0 hx0) rfl (Nat.le_of_ble_eq_true rfl) (kX1_hasCandidate (sf_7_0 hx0) hq3) rfl ?_
    refine g_if_eq (tgt := 27) dX8_preferred_19 (by decide) (fun b4 => ?_) (fun b4 => ?_)
    · replace h := ifp b4 h
      refine g_iconst (v := -1) dX8_preferred_27 rfl (i32l rfl) ?_
      cases h
      exact g_ireturn dX8_preferred_28 rfl ⟨rfl, rfl⟩
    · replace h := ifn b4 h
      refine g_pc (pc' := 22) rfl ?_
      refine g_iload_n 1 dX8_preferred_22 rfl ?_
      refine g_iload_n 2 dX8_preferred_23 rfl ?_
      refine g_icmp_ne (tgt := 29) dX8_preferred_24 (by decide) (fun b5 => ?_) (fun b5 => ?_)
      · replace h := ifn b5 h
        refine g_aload_n 0 dX8_preferred_29 rfl ?_
        refine g_getR dX8_preferred_30 flX8_14 (by decide) rfl hx0 ?_
        refine g_iload_n 1 dX8_preferred_33 rfl ?_
        refine g_iload_n 2 dX8_preferred_34 rfl ?_
        obtain ⟨q6, hq6, h⟩ := bnd_some h
        refine v_I (ci := 1) (as := [XI x1, XI x2]) dX8_preferred_35 mlX8_240 mdX1_manyAhead mvX1_manyAhead rfl (sf_7_0 hx0) rfl (Nat.le_of_ble_eq_true rfl) (kX1_manyAhead (sf_7_0 hx0) hq6) rfl ?_
        cases h
        exact g_ireturn dX8_preferred_38 rfl ⟨rfl, rfl⟩
      · replace h := ifp b5 h
        refine g_pc (pc' := 27) rfl ?_
        refine g_iconst (v := -1) dX8_preferred_27 rfl (i32l rfl) ?_
        cases h
        exact g_ireturn dX8_preferred_28 rfl ⟨rfl, rfl⟩
def fX8_beatsAll_l2 (x0 : Nat) (x1 : Int) : Nat → Int → Mem → Option ((Int × Mem) ⊕ (Int × Mem))
  | 0, _, _ => none
  | n + 1, x2, M => (if (M (x0 + 10990) 0) ≤ x2 then some (.inl (1, M)) else Option.bind ((if x2 = x1 then some (0) else if 0 ≤ x2 ∧ x2 < 8 then (if (M ((x0 + 10990) + 3) (Int.toNat x2)) = 0 then some (1) else some (0)) else none) : Option (Int)) (fun t5 => (if t5 = 0 then if -2147483648 ≤ (x2 + 1) ∧ (x2 + 1) ≤ 2147483647 then fX8_beatsAll_l2 x0 x1 n (x2 + 1) M else none else Option.bind (fX1_manyAhead (x0 + 10990) x1 x2 M) (fun q11 => Option.bind (fX1_manyAhead (x0 + 10990) x2 x1 q11.2) (fun q12 => (if q12.1 < q11.1 then if -2147483648 ≤ (x2 + 1) ∧ (x2 + 1) ≤ 2147483647 then fX8_beatsAll_l2 x0 x1 n (x2 + 1) q12.2 else none else some (.inl (0, q12.2))))))))
def fX8_beatsAll (x0 : Nat) (x1 : Int) (M : Mem) : Option (Int × Mem) := lr (fX8_beatsAll_l2 x0 x1 1000 0 M) (fun r => r) (fun _ => none)
set_option maxRecDepth 20000 in
theorem lX8_beatsAll_l2 {X : XC} {d : Nat} {Post : Option XV → Mem → Prop} {x0 : Nat} {x1 : Int} (hx0 : Sh x0 = (17, 10)) : ∀ (n : Nat) (x2 : Int) (M : Mem) (z : (Int × Mem) ⊕ (Int × Mem)), fX8_beatsAll_l2 x0 x1 n x2 M = some z → (∀ r, z = .inl r → Post (some (XI r.1)) r.2) → Go X mX8_beatsAll (d + 3) 2 [(0, XR x0), (1, XI x1), (2, XI x2)] [] M Post := by
  intro n
  induction n with
  | zero => intro _ _ _ h; cases h
  | succ n ih =>
    intro x2 M z h K1
    unfold fX8_beatsAll_l2 at h
    refine g_iload_n 2 dX8_beatsAll_2 rfl ?_
    refine g_aload_n 0 dX8_beatsAll_3 rfl ?_
    refine g_getR dX8_beatsAll_4 flX8_14 (by decide) rfl hx0 ?_
    refine g_getI dX8_beatsAll_7 flX8_64 (by decide) rfl (sf_7_0 hx0) ?_
    refine g_icmp_ge (tgt := 69) dX8_beatsAll_10 (by decide) (fun b1 => ?_) (fun b1 => ?_)
    · replace h := ifp b1 h
      refine g_iconst (v := 1) dX8_beatsAll_69 rfl (i32l rfl) ?_
      cases h
      exact g_zreturn dX8_beatsAll_70 rfl (by decide) (K1 (1, M) rfl)
    · replace h := ifn b1 h
      refine g_pc (pc' := 13) rfl ?_
      refine g_iload_n 2 dX8_beatsAll_13 rfl ?_
      refine g_iload_n 1 dX8_beatsAll_14 rfl ?_
      obtain ⟨t5, ht5, h⟩ := bnd_some h
      have Kt5 : Go X mX8_beatsAll (d + 3) 35 [(0, XR x0), (1, XI x1), (2, XI x2)] [XI t5] M Post := by
        refine g_istore_n (ls' := [(3, XI t5), (0, XR x0), (1, XI x1), (2, XI x2)]) dX8_beatsAll_35 (by decide) rfl ?_
        refine g_iload_n 0 dX8_beatsAll_36 rfl ?_
        refine g_if_eq (tgt := 63) dX8_beatsAll_37 (by decide) (fun b9 => ?_) (fun b9 => ?_)
        · replace h := ifp b9 h
          obtain ⟨c10, h⟩ := chk_some h
          refine g_iinc (ls' := [(2, XI (x2 + 1)), (3, XI t5), (0, XR x0), (1, XI x1)]) 3 dX8_beatsAll_63 rfl rfl c10 (by decide) rfl ?_
          refine g_goto (tgt := 2) dX8_beatsAll_66 (by decide) ?_
          exact g_sub [2, 3, 0] rfl (ih _ _ _ h K1)
        · replace h := ifn b9 h
          refine g_pc (pc' := 40) rfl ?_
          refine g_aload_n 1 dX8_beatsAll_40 rfl ?_
          refine g_getR dX8_beatsAll_41 flX8_14 (by decide) rfl hx0 ?_
          refine g_iload_n 2 dX8_beatsAll_44 rfl ?_
          refine g_iload_n 3 dX8_beatsAll_45 rfl ?_
          obtain ⟨q11, hq11, h⟩ := bnd_some h
          refine v_I (ci := 1) (as := [XI x1, XI x2]) dX8_beatsAll_46 mlX8_240 mdX1_manyAhead mvX1_manyAhead rfl (sf_7_0 hx0) rfl (Nat.le_of_ble_eq_true rfl) (kX1_manyAhead (sf_7_0 hx0) hq11) rfl ?_
          refine g_aload_n 1 dX8_beatsAll_49 rfl ?_
          refine g_getR dX8_beatsAll_50 flX8_14 (by decide) rfl hx0 ?_
          refine g_iload_n 3 dX8_beatsAll_53 rfl ?_
          refine g_pc (pc' := 54) rfl ?_
          refine g_iload_n 2 dX8_beatsAll_54 rfl ?_
          obtain ⟨q12, hq12, h⟩ := bnd_some h
          refine v_I (ci := 1) (as := [XI x2, XI x1]) dX8_beatsAll_55 mlX8_240 mdX1_manyAhead mvX1_manyAhead rfl (sf_7_0 hx0) rfl (Nat.le_of_ble_eq_true rfl) (kX1_manyAhead (sf_7_0 hx0) hq12) rfl ?_
          refine g_icmp_gt (tgt := 63) dX8_beatsAll_58 (by decide) (fun b13 => ?_) (fun b13 => ?_)
          · replace h := ifp b13 h
            obtain ⟨c14, h⟩ := chk_some h
            refine g_iinc (ls' := [(2, XI (x2 + 1)), (3, XI t5), (0, XR x0), (1, XI x1)]) 3 dX8_beatsAll_63 rfl rfl c14 (by decide) rfl ?_
            refine g_goto (tgt := 2) dX8_beatsAll_66 (by decide) ?_
            exact g_sub [2, 3, 0] rfl (ih _ _ _ h K1)
          · replace h := ifn b13 h
            refine g_pc (pc' := 61) rfl ?_
            refine g_iconst (v := 0) dX8_beatsAll_61 rfl (i32l rfl) ?_
            cases h
            exact g_zreturn dX8_beatsAll_62 rfl (by decide) (K1 (0, q12.2) rfl)
      refine g_icmp_eq (tgt := 34) dX8_beatsAll_15 (by decide) (fun b6 => ?_) (fun b6 => ?_)
      · replace ht5 := ifp b6 ht5
        refine g_iconst (v := 0) dX8_beatsAll_34 rfl (i32l rfl) ?_
        cases ht5
        exact g_sub [0, 1, 2] rfl Kt5
      · replace ht5 := ifn b6 ht5
        refine g_pc (pc' := 18) rfl ?_
        refine g_aload_n 0 dX8_beatsAll_18 rfl ?_
        refine g_getR dX8_beatsAll_19 flX8_14 (by decide) rfl hx0 ?_
        refine g_getR dX8_beatsAll_22 flX8_72 (by decide) rfl (sf_7_0 hx0) ?_
        refine g_iload_n 2 dX8_beatsAll_25 rfl ?_
        obtain ⟨c7, ht5⟩ := chk_some ht5
        refine g_zald dX8_beatsAll_26 (sf_1_2 (sf_7_0 hx0)) c7.1 c7.2 ?_
        refine g_if_ne (tgt := 34) dX8_beatsAll_27 (by decide) (fun b8 => ?_) (fun b8 => ?_)
        · replace ht5 := ifn b8 ht5
          refine g_iconst (v := 0) dX8_beatsAll_34 rfl (i32l rfl) ?_
          cases ht5
          exact g_sub [0, 1, 2] rfl Kt5
        · replace ht5 := ifp b8 ht5
          refine g_pc (pc' := 30) rfl ?_
          refine g_iconst (v := 1) dX8_beatsAll_30 rfl (i32l rfl) ?_
          refine g_goto (tgt := 35) dX8_beatsAll_31 (by decide) ?_
          cases ht5
          exact g_sub [0, 1, 2] rfl Kt5
set_option maxRecDepth 20000 in
theorem kX8_beatsAll {X : XC} {d : Nat} {x0 : Nat} {x1 : Int} (hx0 : Sh x0 = (17, 10)) {M : Mem} {q : Int × Mem} (h : fX8_beatsAll x0 x1 M = some q) : Ct X mX8_beatsAll (d + 3) [XR x0, XI x1] M (pI q) := by
  unfold fX8_beatsAll at h
  refine ct_go (by decide +kernel) (Nat.le_of_ble_eq_true rfl) (ls := [(0, XR x0), (1, XI x1)]) rfl ?_
  refine g_iconst (v := 0) dX8_beatsAll_0 rfl (i32l rfl) ?_
  refine g_istore_n (ls' := [(2, XI 0), (0, XR x0), (1, XI x1)]) dX8_beatsAll_1 (by decide) rfl ?_
  obtain ⟨z15, hz15, rz15, h⟩ := lr_some h
  refine g_sub (ls' := [(0, XR x0), (1, XI x1), (2, XI 0)]) [1, 2, 0] rfl ?_
  refine lX8_beatsAll_l2 hx0 1000 _ _ _ hz15 (fun r e => ?_)
  have rz15 := rz15 r e
  subst rz15
  exact ⟨rfl, rfl⟩
def fX8_best_l2 (x0 : Nat) : Nat → Int → Mem → Option ((Int × Mem) ⊕ (Int × Mem))
  | 0, _, _ => none
  | n + 1, x1, M => (if (M (x0 + 10990) 0) ≤ x1 then some (.inl ((-5), M)) else if 0 ≤ x1 ∧ x1 < 8 then (if (M ((x0 + 10990) + 3) (Int.toNat x1)) = 0 then Option.bind (fX8_beatsAll x0 x1 M) (fun q5 => (if q5.1 = 0 then if -2147483648 ≤ (x1 + 1) ∧ (x1 + 1) ≤ 2147483647 then fX8_best_l2 x0 n (x1 + 1) q5.2 else none else some (.inl (x1, q5.2)))) else if -2147483648 ≤ (x1 + 1) ∧ (x1 + 1) ≤ 2147483647 then fX8_best_l2 x0 n (x1 + 1) M else none) else none)
def fX8_best (x0 : Nat) (M : Mem) : Option (Int × Mem) := lr (fX8_best_l2 x0 1000 0 M) (fun r => r) (fun _ => none)
set_option maxRecDepth 20000 in
theorem lX8_best_l2 {X : XC} {d : Nat} {Post : Option XV → Mem → Prop} {x0 : Nat} (hx0 : Sh x0 = (17, 10)) : ∀ (n : Nat) (x1 : Int) (M : Mem) (z : (Int × Mem) ⊕ (Int × Mem)), fX8_best_l2 x0 n x1 M = some z → (∀ r, z = .inl r → Post (some (XI r.1)) r.2) → Go X mX8_best (d + 4) 2 [(0, XR x0), (1, XI x1)] [] M Post := by
  intro n
  induction n with
  | zero => intro _ _ _ h; cases h
  | succ n ih =>
    intro x1 M z h K1
    unfold fX8_best_l2 at h
    refine g_iload_n 1 dX8_best_2 rfl ?_
    refine g_aload_n 0 dX8_best_3 rfl ?_
    refine g_getR dX8_best_4 flX8_14 (by decide) rfl hx0 ?_
    refine g_getI dX8_best_7 flX8_64 (by decide) rfl (sf_7_0 hx0) ?_
    refine g_icmp_ge (tgt := 41) dX8_best_10 (by decide) (fun b1 => ?_) (fun b1 => ?_)
    · replace h := ifp b1 h
      refine g_bip dX8_best_41 rfl ?_
      cases h
      exact g_ireturn dX8_best_43 rfl (K1 ((-5), M) rfl)
    · replace h := ifn b1 h
      refine g_pc (pc' := 13) rfl ?_
      refine g_aload_n 0 dX8_best_13 rfl ?_
      refine g_getR dX8_best_14 flX8_14 (by decide) rfl hx0 ?_
      refine g_getR dX8_best_17 flX8_72 (by decide) rfl (sf_7_0 hx0) ?_
      refine g_iload_n 1 dX8_best_20 rfl ?_
      obtain ⟨c2, h⟩ := chk_some h
      refine g_zald dX8_best_21 (sf_1_2 (sf_7_0 hx0)) c2.1 c2.2 ?_
      refine g_if_ne (tgt := 35) dX8_best_22 (by decide) (fun b3 => ?_) (fun b3 => ?_)
      · replace h := ifn b3 h
        obtain ⟨c4, h⟩ := chk_some h
        refine g_iinc (ls' := [(1, XI (x1 + 1)), (0, XR x0)]) 1 dX8_best_35 rfl rfl c4 (by decide) rfl ?_
        refine g_goto (tgt := 2) dX8_best_38 (by decide) ?_
        exact g_sub [1, 0] rfl (ih _ _ _ h K1)
      · replace h := ifp b3 h
        refine g_pc (pc' := 25) rfl ?_
        refine g_aload_n 0 dX8_best_25 rfl ?_
        refine g_iload_n 1 dX8_best_26 rfl ?_
        obtain ⟨q5, hq5, h⟩ := bnd_some h
        refine v_I (ci := 7) (as := [XI x1]) dX8_best_27 mlX8_243 mdX8_beatsAll mvX8_beatsAll rfl hx0 rfl (Nat.le_of_ble_eq_true rfl) (kX8_beatsAll hx0 hq5) rfl ?_
        refine g_if_eq (tgt := 35) dX8_best_30 (by decide) (fun b6 => ?_) (fun b6 => ?_)
        · replace h := ifp b6 h
          obtain ⟨c7, h⟩ := chk_some h
          refine g_iinc (ls' := [(1, XI (x1 + 1)), (0, XR x0)]) 1 dX8_best_35 rfl rfl c7 (by decide) rfl ?_
          refine g_goto (tgt := 2) dX8_best_38 (by decide) ?_
          exact g_sub [1, 0] rfl (ih _ _ _ h K1)
        · replace h := ifn b6 h
          refine g_pc (pc' := 33) rfl ?_
          refine g_iload_n 1 dX8_best_33 rfl ?_
          cases h
          exact g_ireturn dX8_best_34 rfl (K1 (x1, q5.2) rfl)
set_option maxRecDepth 20000 in
theorem kX8_best {X : XC} {d : Nat} {x0 : Nat} (hx0 : Sh x0 = (17, 10)) {M : Mem} {q : Int × Mem} (h : fX8_best x0 M = some q) : Ct X mX8_best (d + 4) [XR x0] M (pI q) := by
  unfold fX8_best at h
  refine ct_go (by decide +kernel) (Nat.le_of_ble_eq_true rfl) (ls := [(0, XR x0)]) rfl ?_
  refine g_iconst (v := 0) dX8_best_0 rfl (i32l rfl) ?_
  refine g_istore_n (ls' := [(1, XI 0), (0, XR x0)]) dX8_best_1 (by decide) rfl ?_
  obtain ⟨z8, hz8, rz8, h⟩ := lr_some h
  refine g_sub (ls' := [(0, XR x0), (1, XI 0)]) [1, 0] rfl ?_
  refine lX8_best_l2 hx0 1000 _ _ _ hz8 (fun r e => ?_)
  have rz8 := rz8 r e
  subst rz8
  exact ⟨rfl, rfl⟩
def fX8_commonDivisor_l9  : Nat → Int → Int → Int → Mem → Option (Int × Int × Int × Mem)
  | 0, _, _, _, _ => none
  | n + 1, x4, x6, x8, M => (if 1000 ≤ x8 then some (x4, x6, x8, M) else (if x6 ≤ 0 then some (x4, x6, x8, M) else if 0 ≤ x4 ∧ 0 < x6 then nm ((x4 % x6)) (fun v4 => if -2147483648 ≤ (x8 + 1) ∧ (x8 + 1) ≤ 2147483647 then fX8_commonDivisor_l9  n x6 v4 (x8 + 1) M else none) else none))
def fX8_commonDivisor (x0 : Int) (x2 : Int) (M : Mem) : Option (Int × Mem) := Option.bind (fX8_commonDivisor_l9  1000 x0 x2 0 M) (fun z6 => some (z6.1, z6.2.2.2))
set_option maxRecDepth 20000 in
theorem lX8_commonDivisor_l9 {X : XC} {d : Nat} {Post : Option XV → Mem → Prop}   : ∀ (n : Nat) (x4 x6 x8 : Int) (M : Mem) (t0 : Int × Int × Int × Mem), fX8_commonDivisor_l9  n x4 x6 x8 M = some t0 → Go X mX8_commonDivisor d 45 [(4, XL t0.1)] [] t0.2.2.2 Post → Go X mX8_commonDivisor d 9 [(4, XL x4), (6, XL x6), (8, XI x8)] [] M Post := by
  intro n
  induction n with
  | zero => intro _ _ _ _ _ h; cases h
  | succ n ih =>
    intro x4 x6 x8 M t0 h K
    unfold fX8_commonDivisor_l9 at h
    refine g_iload 2 dX8_commonDivisor_9 rfl ?_
    refine g_sip dX8_commonDivisor_11 rfl ?_
    refine g_icmp_ge (tgt := 45) dX8_commonDivisor_14 (by decide) (fun b1 => ?_) (fun b1 => ?_)
    · replace h := ifp b1 h
      cases h
      exact g_sub [0] rfl K
    · replace h := ifn b1 h
      refine g_pc (pc' := 17) rfl ?_
      refine g_lload 1 dX8_commonDivisor_17 rfl ?_
      refine g_lconst (v := 0) dX8_commonDivisor_19 rfl (i64l rfl) ?_
      refine g_lcmp_le (tgt := 45) dX8_commonDivisor_20 dX8_commonDivisor_21 (by decide) (fun b2 => ?_) (fun b2 => ?_)
      · replace h := ifp b2 h
        cases h
        exact g_sub [0] rfl K
      · replace h := ifn b2 h
        refine g_pc (pc' := 24) rfl ?_
        refine g_lload 0 dX8_commonDivisor_24 rfl ?_
        refine g_lload 1 dX8_commonDivisor_26 rfl ?_
        obtain ⟨c3, h⟩ := chk_some h
        refine g_lrem dX8_commonDivisor_28 c3.1 c3.2 rfl ?_
        refine g_nmL (fun v4 ev4 => ?_)
        replace h := nm_s ev4 h
        refine g_lstore (ls' := [(9, XL v4), (4, XL x4), (6, XL x6), (8, XI x8)]) dX8_commonDivisor_29 (by decide) rfl ?_
        refine g_lload 2 dX8_commonDivisor_31 rfl ?_
        refine g_lstore (ls' := [(4, XL x6), (9, XL v4), (6, XL x6), (8, XI x8)]) dX8_commonDivisor_33 (by decide) rfl ?_
        refine g_lload 1 dX8_commonDivisor_35 rfl ?_
        refine g_lstore (ls' := [(6, XL v4), (4, XL x6), (9, XL v4), (8, XI x8)]) dX8_commonDivisor_37 (by decide) rfl ?_
        refine g_pc (pc' := 39) rfl ?_
        obtain ⟨c5, h⟩ := chk_some h
        refine g_iinc (ls' := [(8, XI (x8 + 1)), (6, XL v4), (4, XL x6), (9, XL v4)]) 3 dX8_commonDivisor_39 rfl rfl c5 (by decide) rfl ?_
        refine g_goto (tgt := 9) dX8_commonDivisor_42 (by decide) ?_
        exact g_sub [2, 1, 0] rfl (ih _ _ _ _ _ h K)
set_option maxRecDepth 20000 in
theorem kX8_commonDivisor {X : XC} {d : Nat} {x0 : Int} {x2 : Int}  {M : Mem} {q : Int × Mem} (h : fX8_commonDivisor x0 x2 M = some q) : Ct X mX8_commonDivisor d [XL x0, XL x2] M (pJ q) := by
  unfold fX8_commonDivisor at h
  refine ct_go (by decide +kernel) (Nat.le_of_ble_eq_true rfl) (ls := [(0, XL x0), (2, XL x2)]) rfl ?_
  refine g_lload_n 0 dX8_commonDivisor_0 rfl ?_
  refine g_lstore (ls' := [(4, XL x0), (0, XL x0), (2, XL x2)]) dX8_commonDivisor_1 (by decide) rfl ?_
  refine g_lload_n 2 dX8_commonDivisor_3 rfl ?_
  refine g_lstore (ls' := [(6, XL x2), (4, XL x0), (0, XL x0), (2, XL x2)]) dX8_commonDivisor_4 (by decide) rfl ?_
  refine g_iconst (v := 0) dX8_commonDivisor_6 rfl (i32l rfl) ?_
  refine g_istore (ls' := [(8, XI 0), (6, XL x2), (4, XL x0), (0, XL x0), (2, XL x2)]) dX8_commonDivisor_7 (by decide) rfl ?_
  obtain ⟨z6, hz6, h⟩ := bnd_some h
  refine g_sub (ls' := [(4, XL x0), (6, XL x2), (8, XI 0)]) [2, 1, 0] rfl ?_
  refine lX8_commonDivisor_l9  1000 _ _ _ _ _ hz6 ?_
  refine g_lload 0 dX8_commonDivisor_45 rfl ?_
  cases h
  exact g_lreturn dX8_commonDivisor_47 rfl ⟨rfl, rfl⟩
def fX8_share (x0 : Nat) (x1 : Int) (x2 : Int) (x3 : Int) (M : Mem) : Option (Int × Mem) := Option.bind (fX8_tallied x0 M) (fun q1 => oc q1.1 (none) (fun a2 => if Sh a2 = (13, 14) then Option.bind (fX4_stageAt a2 x1 q1.2) (fun q4 => oc q4.1 (some ((-9223372036854775808), q4.2)) (fun a5 => if Sh a5 = (12, 9) then Option.bind (fX1_hasCandidate (x0 + 10990) x2 q4.2) (fun q7 => (if q7.1 = 0 then some ((-9223372036854775808), q7.2) else (if x3 < 0 then some ((-9223372036854775808), q7.2) else (if x3 ≤ 1 then if 0 ≤ x2 ∧ x2 < 8 then nm ((q7.2 (a5 + 8) (Int.toNat x2))) (fun v12 => (if v12 = 0 then some (x3, q7.2) else Option.bind (fX8_commonDivisor v12 (q7.2 a5 6) q7.2) (fun q14 => nm (q14.1) (fun v15 => Option.bind ((if x3 = 0 then some (v12) else some ((q14.2 a5 6))) : Option (Int)) (fun t17 => Option.bind (fX8_cut t17 v15 q14.2) (fun q19 => some (q19.1, q19.2))))))) else none else some ((-9223372036854775808), q7.2))))) else none)) else none))
set_option maxRecDepth 20000 in
theorem kX8_share {X : XC} {d : Nat} {x0 : Nat} {x1 : Int} {x2 : Int} {x3 : Int} (hx0 : Sh x0 = (17, 10)) {M : Mem} {q : Int × Mem} (h : fX8_share x0 x1 x2 x3 M = some q) : Ct X mX8_share (d + 6) [XR x0, XI x1, XI x2, XI x3] M (pJ q) := by
  unfold fX8_share at h
  refine ct_go (by decide +kernel) (Nat.le_of_ble_eq_true rfl) (ls := [(0, XR x0), (1, XI x1), (2, XI x2), (3, XI x3)]) rfl ?_
  refine g_aload_n 0 dX8_share_0 rfl ?_
  obtain ⟨q1, hq1, h⟩ := bnd_some h
  refine v_R (ci := 7) (as := []) dX8_share_1 mlX8_143 mdX8_tallied mvX8_tallied rfl hx0 rfl (Nat.le_of_ble_eq_true rfl) (kX8_tallied hx0 hq1) rfl (fun ea2 => ?_) (fun a2 ea2 => ?_)
  · replace h := oc_n ea2 h
    refine g_iload_n 1 dX8_share_4 rfl ?_
    cases h
  · replace h := oc_s ea2 h
    obtain ⟨c3, h⟩ := chk_some h
    refine g_iload_n 1 dX8_share_4 rfl ?_
    obtain ⟨q4, hq4, h⟩ := bnd_some h
    refine v_R (ci := 3) (as := [XI x1]) dX8_share_5 mlX8_186 mdX4_stageAt mvX4_stageAt rfl c3 rfl (Nat.le_of_ble_eq_true rfl) (kX4_stageAt c3 hq4) rfl (fun ea5 => ?_) (fun a5 ea5 => ?_)
    · replace h := oc_n ea5 h
      refine g_astoreN (ls' := [(4, XN), (0, XR x0), (1, XI x1), (2, XI x2), (3, XI x3)]) dX8_share_8 (by decide) rfl ?_
      refine g_aloadN 0 dX8_share_10 rfl ?_
      refine g_ifnullN (tgt := 35) dX8_share_12 (by decide) ?_
      refine g_ldc2 (v := -9223372036854775808) dX8_share_35 csX8_199 (by decide +kernel) (i64l rfl) ?_
      cases h
      exact g_lreturn dX8_share_38 rfl ⟨rfl, rfl⟩
    · replace h := oc_s ea5 h
      obtain ⟨c6, h⟩ := chk_some h
      refine g_astore (ls' := [(4, XR a5), (0, XR x0), (1, XI x1), (2, XI x2), (3, XI x3)]) dX8_share_8 (by decide) rfl ?_
      refine g_aload 0 dX8_share_10 rfl ?_
      refine g_ifnullR dX8_share_12 ?_
      refine g_aload_n 1 dX8_share_15 rfl ?_
      refine g_getR dX8_share_16 flX8_14 (by decide) rfl hx0 ?_
      refine g_iload_n 3 dX8_share_19 rfl ?_
      obtain ⟨q7, hq7, h⟩ := bnd_some h
      refine v_I (ci := 1) (as := [XI x2]) dX8_share_20 mlX8_103 mdX1_hasCandidate mvX1_hasCandidate rfl (sf_7_0 hx0) rfl (Nat.le_of_ble_eq_true rfl) (kX1_hasCandidate (sf_7_0 hx0) hq7) rfl ?_
      refine g_if_eq (tgt := 35) dX8_share_23 (by decide) (fun b8 => ?_) (fun b8 => ?_)
      · replace h := ifp b8 h
        refine g_ldc2 (v := -9223372036854775808) dX8_share_35 csX8_199 (by decide +kernel) (i64l rfl) ?_
        cases h
        exact g_lreturn dX8_share_38 rfl ⟨rfl, rfl⟩
      · replace h := ifn b8 h
        refine g_pc (pc' := 26) rfl ?_
        refine g_iload_n 4 dX8_share_26 rfl ?_
        refine g_if_lt (tgt := 35) dX8_share_27 (by decide) (fun b9 => ?_) (fun b9 => ?_)
        · replace h := ifp b9 h
          refine g_ldc2 (v := -9223372036854775808) dX8_share_35 csX8_199 (by decide +kernel) (i64l rfl) ?_
          cases h
          exact g_lreturn dX8_share_38 rfl ⟨rfl, rfl⟩
        · replace h := ifn b9 h
          refine g_pc (pc' := 30) rfl ?_
          refine g_iload_n 4 dX8_share_30 rfl ?_
          refine g_iconst (v := 1) dX8_share_31 rfl (i32l rfl) ?_
          refine g_icmp_le (tgt := 39) dX8_share_32 (by decide) (fun b10 => ?_) (fun b10 => ?_)
          · replace h := ifp b10 h
            refine g_aload 0 dX8_share_39 rfl ?_
            refine g_getR dX8_share_41 flX8_214 (by decide) rfl c6 ?_
            refine g_iload_n 3 dX8_share_44 rfl ?_
            obtain ⟨c11, h⟩ := chk_some h
            refine g_lald dX8_share_45 (sf_2_7 c6) c11.1 c11.2 ?_
            refine g_nmL (fun v12 ev12 => ?_)
            replace h := nm_s ev12 h
            refine g_lstore (ls' := [(5, XL v12), (4, XR a5), (0, XR x0), (1, XI x1), (2, XI x2), (3, XI x3)]) dX8_share_46 (by decide) rfl ?_
            refine g_lload 0 dX8_share_48 rfl ?_
            refine g_lconst (v := 0) dX8_share_50 rfl (i64l rfl) ?_
            refine g_lcmp_ne (tgt := 58) dX8_share_51 dX8_share_52 (by decide) (fun b13 => ?_) (fun b13 => ?_)
            · replace h := ifn b13 h
              refine g_lload 0 dX8_share_58 rfl ?_
              refine g_aload 1 dX8_share_60 rfl ?_
              refine g_getJ dX8_share_62 flX8_211 (by decide) rfl c6 ?_
              obtain ⟨q14, hq14, h⟩ := bnd_some h
              refine s_J (as := [XL v12, XL (q7.2 a5 6)]) dX8_share_65 mlX8_246 mdX8_commonDivisor msX8_commonDivisor rfl (Nat.le_of_ble_eq_true rfl) (kX8_commonDivisor  hq14) rfl ?_
              refine g_nmL (fun v15 ev15 => ?_)
              replace h := nm_s ev15 h
              refine g_lstore (ls' := [(7, XL v15), (5, XL v12), (4, XR a5), (0, XR x0), (1, XI x1), (2, XI x2), (3, XI x3)]) dX8_share_68 (by decide) rfl ?_
              refine g_iload_n 6 dX8_share_70 rfl ?_
              obtain ⟨t17, ht17, h⟩ := bnd_some h
              have Kt17 : Go X mX8_share (d + 6) 84 [(7, XL v15)] [XL t17] q14.2 (pJ q) := by
                refine g_lload 0 dX8_share_84 rfl ?_
                obtain ⟨q19, hq19, h⟩ := bnd_some h
                refine s_J (as := [XL t17, XL v15]) dX8_share_86 mlX8_250 mdX8_cut msX8_cut rfl (Nat.le_of_ble_eq_true rfl) (kX8_cut  hq19) rfl ?_
                cases h
                exact g_lreturn dX8_share_89 rfl ⟨rfl, rfl⟩
              refine g_if_ne (tgt := 79) dX8_share_71 (by decide) (fun b18 => ?_) (fun b18 => ?_)
              · replace ht17 := ifn b18 ht17
                refine g_aload 2 dX8_share_79 rfl ?_
                refine g_getJ dX8_share_81 flX8_211 (by decide) rfl c6 ?_
                cases ht17
                exact g_sub [0] rfl Kt17
              · replace ht17 := ifp b18 ht17
                refine g_pc (pc' := 74) rfl ?_
                refine g_lload 1 dX8_share_74 rfl ?_
                refine g_goto (tgt := 84) dX8_share_76 (by decide) ?_
                cases ht17
                exact g_sub [0] rfl Kt17
            · replace h := ifp b13 h
              refine g_pc (pc' := 55) rfl ?_
              refine g_iload_n 5 dX8_share_55 rfl ?_
              refine g_i2l dX8_share_56 ?_
              cases h
              exact g_lreturn dX8_share_57 rfl ⟨rfl, rfl⟩
          · replace h := ifn b10 h
            refine g_pc (pc' := 35) rfl ?_
            refine g_ldc2 (v := -9223372036854775808) dX8_share_35 csX8_199 (by decide +kernel) (i64l rfl) ?_
            cases h
            exact g_lreturn dX8_share_38 rfl ⟨rfl, rfl⟩
def fX8_electedInThought (x0 : Nat) (M : Mem) : Option (Int × Mem) := Option.bind (fX4_work (x0 + 1990) M) (fun q1 => Option.bind (fX4_whoIs (x0 + 1990) 2 q1.2) (fun q2 => some (q2.1, q2.2)))
set_option maxRecDepth 20000 in
theorem kX8_electedInThought {X : XC} {d : Nat} {x0 : Nat} (hx0 : Sh x0 = (17, 10)) {M : Mem} {q : Int × Mem} (h : fX8_electedInThought x0 M = some q) : Ct X mX8_electedInThought (d + 5) [XR x0] M (pI q) := by
  unfold fX8_electedInThought at h
  refine ct_go (by decide +kernel) (Nat.le_of_ble_eq_true rfl) (ls := [(0, XR x0)]) rfl ?_
  refine g_aload_n 0 dX8_electedInThought_0 rfl ?_
  refine g_getR dX8_electedInThought_1 flX8_37 (by decide) rfl hx0 ?_
  obtain ⟨q1, hq1, h⟩ := bnd_some h
  refine v_V (ci := 3) (as := []) dX8_electedInThought_4 mlX8_140 mdX4_work mvX4_work rfl (sf_7_5 hx0) rfl (Nat.le_of_ble_eq_true rfl) (kX4_work (sf_7_5 hx0) hq1) rfl ?_
  refine g_aload_n 0 dX8_electedInThought_7 rfl ?_
  refine g_getR dX8_electedInThought_8 flX8_37 (by decide) rfl hx0 ?_
  refine g_iconst (v := 2) dX8_electedInThought_11 rfl (i32l rfl) ?_
  obtain ⟨q2, hq2, h⟩ := bnd_some h
  refine v_I (ci := 3) (as := [XI 2]) dX8_electedInThought_12 mlX8_174 mdX4_whoIs mvX4_whoIs rfl (sf_7_5 hx0) rfl (Nat.le_of_ble_eq_true rfl) (kX4_whoIs (sf_7_5 hx0) hq2) rfl ?_
  cases h
  exact g_ireturn dX8_electedInThought_15 rfl ⟨rfl, rfl⟩
def fX8_without (x0 : Nat) (x1 : Int) (M : Mem) : Option (Int × Mem) := Option.bind (fX1_hasCandidate (x0 + 10990) x1 M) (fun q1 => (if q1.1 = 0 then some ((-1), q1.2) else Option.bind (fX1_copyFrom (x0 + 11990) (x0 + 10990) q1.2) (fun q3 => if 0 ≤ x1 ∧ x1 < 8 then nm (wr q3.2 ((x0 + 11990) + 3) (Int.toNat x1) 1) (fun M5 => Option.bind (fX8_electedInThought x0 M5) (fun q6 => some (q6.1, q6.2))) else none)))
set_option maxRecDepth 20000 in
theorem kX8_without {X : XC} {d : Nat} {x0 : Nat} {x1 : Int} (hx0 : Sh x0 = (17, 10)) {M : Mem} {q : Int × Mem} (h : fX8_without x0 x1 M = some q) : Ct X mX8_without (d + 6) [XR x0, XI x1] M (pI q) := by
  unfold fX8_without at h
  refine ct_go (by decide +kernel) (Nat.le_of_ble_eq_true rfl) (ls := [(0, XR x0), (1, XI x1)]) rfl ?_
  refine g_aload_n 0 dX8_without_0 rfl ?_
  refine g_getR dX8_without_1 flX8_14 (by decide) rfl hx0 ?_
  refine g_iload_n 1 dX8_without_4 rfl ?_
  obtain ⟨q1, hq1, h⟩ := bnd_some h
  refine v_I (ci := 1) (as := [XI x1]) dX8_without_5 mlX8_103 mdX1_hasCandidate mvX1_hasCandidate rfl (sf_7_0 hx0) rfl (Nat.le_of_ble_eq_true rfl) (kX1_hasCandidate (sf_7_0 hx0) hq1) rfl ?_
  refine g_if_ne (tgt := 13) dX8_without_8 (by decide) (fun b2 => ?_) (fun b2 => ?_)
  · replace h := ifn b2 h
    refine g_aload_n 0 dX8_without_13 rfl ?_
    refine g_getR dX8_without_14 flX8_18 (by decide) rfl hx0 ?_
    refine g_aload_n 0 dX8_without_17 rfl ?_
    refine g_getR dX8_without_18 flX8_14 (by decide) rfl hx0 ?_
    obtain ⟨q3, hq3, h⟩ := bnd_some h
    refine v_V (ci := 1) (as := [XR (x0 + 10990)]) dX8_without_21 mlX8_253 mdX1_copyFrom mvX1_copyFrom rfl (sf_7_1 hx0) rfl (Nat.le_of_ble_eq_true rfl) (kX1_copyFrom (sf_7_1 hx0) (sf_7_0 hx0) hq3) rfl ?_
    refine g_aload_n 0 dX8_without_24 rfl ?_
    refine g_getR dX8_without_25 flX8_18 (by decide) rfl hx0 ?_
    refine g_getR dX8_without_28 flX8_72 (by decide) rfl (sf_7_1 hx0) ?_
    refine g_pc (pc' := 31) rfl ?_
    refine g_iload_n 1 dX8_without_31 rfl ?_
    refine g_iconst (v := 1) dX8_without_32 rfl (i32l rfl) ?_
    obtain ⟨c4, h⟩ := chk_some h
    refine g_zast dX8_without_33 (sf_1_2 (sf_7_1 hx0)) c4.1 c4.2 (by decide) ?_
    refine g_nmM (fun M5 eM5 => ?_)
    replace h := nm_s eM5 h
    refine g_aload_n 0 dX8_without_34 rfl ?_
    obtain ⟨q6, hq6, h⟩ := bnd_some h
    refine v_I (ci := 7) (as := []) dX8_without_35 mlX8_256 mdX8_electedInThought mvX8_electedInThought rfl hx0 rfl (Nat.le_of_ble_eq_true rfl) (kX8_electedInThought hx0 hq6) rfl ?_
    cases h
    exact g_ireturn dX8_without_38 rfl ⟨rfl, rfl⟩
  · replace h := ifp b2 h
    refine g_pc (pc' := 11) rfl ?_
    refine g_iconst (v := -1) dX8_without_11 rfl (i32l rfl) ?_
    cases h
    exact g_ireturn dX8_without_12 rfl ⟨rfl, rfl⟩
def fX8_raised (x0 : Nat) (x1 : Int) (x2 : Int) (M : Mem) : Option (Int × Mem) := Option.bind (fX1_hasBallot (x0 + 10990) x1 M) (fun q1 => (if q1.1 = 0 then some ((-1), q1.2) else Option.bind (fX1_hasCandidate (x0 + 10990) x2 q1.2) (fun q3 => (if q3.1 = 0 then some ((-1), q3.2) else Option.bind (fX1_copyFrom (x0 + 11990) (x0 + 10990) q3.2) (fun q5 => if 0 ≤ x1 ∧ x1 < 25 then Option.bind (fX2_ledBy x2 (q5.2 ((x0 + 10990) + 5) (Int.toNat x1)) q5.2) (fun q7 => if 0 ≤ x1 ∧ x1 < 25 then nm (wr q7.2 ((x0 + 11990) + 5) (Int.toNat x1) q7.1) (fun M9 => Option.bind (fX8_electedInThought x0 M9) (fun q10 => some (q10.1, q10.2))) else none) else none)))))
set_option maxRecDepth 20000 in
theorem kX8_raised {X : XC} {d : Nat} {x0 : Nat} {x1 : Int} {x2 : Int} (hx0 : Sh x0 = (17, 10)) {M : Mem} {q : Int × Mem} (h : fX8_raised x0 x1 x2 M = some q) : Ct X mX8_raised (d + 6) [XR x0, XI x1, XI x2] M (pI q) := by
  unfold fX8_raised at h
  refine ct_go (by decide +kernel) (Nat.le_of_ble_eq_true rfl) (ls := [(0, XR x0), (1, XI x1), (2, XI x2)]) rfl ?_
  refine g_aload_n 0 dX8_raised_0 rfl ?_
  refine g_getR dX8_raised_1 flX8_14 (by decide) rfl hx0 ?_
  refine g_iload_n 1 dX8_raised_4 rfl ?_
  obtain ⟨q1, hq1, h⟩ := bnd_some h
  refine v_I (ci := 1) (as := [XI x1]) dX8_raised_5 mlX8_99 mdX1_hasBallot mvX1_hasBallot rfl (sf_7_0 hx0) rfl (Nat.le_of_ble_eq_true rfl) (kX1_hasBallot (sf_7_0 hx0) hq1) rfl ?_
  refine g_if_eq (tgt := 22) dX8_raised_8 (by decide) (fun b2 => ?_) (fun b2 => ?_)
  · replace h := ifp b2 h
    refine g_iconst (v := -1) dX8_raised_22 rfl (i32l rfl) ?_
    cases h
    exact g_ireturn dX8_raised_23 rfl ⟨rfl, rfl⟩
  · replace h := ifn b2 h
    refine g_pc (pc' := 11) rfl ?_
    refine g_aload_n 0 dX8_raised_11 rfl ?_
    refine g_getR dX8_raised_12 flX8_14 (by decide) rfl hx0 ?_
    refine g_iload_n 2 dX8_raised_15 rfl ?_
    obtain ⟨q3, hq3, h⟩ := bnd_some h
    refine v_I (ci := 1) (as := [XI x2]) dX8_raised_16 mlX8_103 mdX1_hasCandidate mvX1_hasCandidate rfl (sf_7_0 hx0) rfl (Nat.le_of_ble_eq_true rfl) (kX1_hasCandidate (sf_7_0 hx0) hq3) rfl ?_
    refine g_if_ne (tgt := 24) dX8_raised_19 (by decide) (fun b4 => ?_) (fun b4 => ?_)
    · replace h := ifn b4 h
      refine g_aload_n 0 dX8_raised_24 rfl ?_
      refine g_getR dX8_raised_25 flX8_18 (by decide) rfl hx0 ?_
      refine g_aload_n 0 dX8_raised_28 rfl ?_
      refine g_getR dX8_raised_29 flX8_14 (by decide) rfl hx0 ?_
      obtain ⟨q5, hq5, h⟩ := bnd_some h
      refine v_V (ci := 1) (as := [XR (x0 + 10990)]) dX8_raised_32 mlX8_253 mdX1_copyFrom mvX1_copyFrom rfl (sf_7_1 hx0) rfl (Nat.le_of_ble_eq_true rfl) (kX1_copyFrom (sf_7_1 hx0) (sf_7_0 hx0) hq5) rfl ?_
      refine g_aload_n 0 dX8_raised_35 rfl ?_
      refine g_getR dX8_raised_36 flX8_18 (by decide) rfl hx0 ?_
      refine g_getR dX8_raised_39 flX8_89 (by decide) rfl (sf_7_1 hx0) ?_
      refine g_pc (pc' := 42) rfl ?_
      refine g_iload_n 1 dX8_raised_42 rfl ?_
      refine g_iload_n 2 dX8_raised_43 rfl ?_
      refine g_aload_n 0 dX8_raised_44 rfl ?_
      refine g_getR dX8_raised_45 flX8_14 (by decide) rfl hx0 ?_
      refine g_getR dX8_raised_48 flX8_89 (by decide) rfl (sf_7_0 hx0) ?_
      refine g_iload_n 1 dX8_raised_51 rfl ?_
      obtain ⟨c6, h⟩ := chk_some h
      refine g_iald dX8_raised_52 (sf_1_4 (sf_7_0 hx0)) c6.1 c6.2 ?_
      obtain ⟨q7, hq7, h⟩ := bnd_some h
      refine s_I (as := [XI x2, XI (q5.2 ((x0 + 10990) + 5) (Int.toNat x1))]) dX8_raised_53 mlX8_259 mdX2_ledBy msX2_ledBy rfl (Nat.le_of_ble_eq_true rfl) (kX2_ledBy  hq7) rfl ?_
      obtain ⟨c8, h⟩ := chk_some h
      refine g_iast dX8_raised_56 (sf_1_4 (sf_7_1 hx0)) c8.1 c8.2 ?_
      refine g_nmM (fun M9 eM9 => ?_)
      replace h := nm_s eM9 h
      refine g_pc (pc' := 57) rfl ?_
      refine g_aload_n 0 dX8_raised_57 rfl ?_
      obtain ⟨q10, hq10, h⟩ := bnd_some h
      refine v_I (ci := 7) (as := []) dX8_raised_58 mlX8_256 mdX8_electedInThought mvX8_electedInThought rfl hx0 rfl (Nat.le_of_ble_eq_true rfl) (kX8_electedInThought hx0 hq10) rfl ?_
      cases h
      exact g_ireturn dX8_raised_61 rfl ⟨rfl, rfl⟩
    · replace h := ifp b4 h
      refine g_pc (pc' := 22) rfl ?_
      refine g_iconst (v := -1) dX8_raised_22 rfl (i32l rfl) ?_
      cases h
      exact g_ireturn dX8_raised_23 rfl ⟨rfl, rfl⟩
def fX8_needs_l98 (x0 : Nat) (x1 : Int) (x2 : Int) (x3 : Int) (x4 : Int) : Nat → Int → Mem → Option ((Int × Mem) ⊕ (Int × Mem))
  | 0, _, _ => none
  | n + 1, x6, M => (if 30 < x6 then some (.inl ((-5), M)) else if -2147483648 ≤ (x6 * x2) ∧ (x6 * x2) ≤ 2147483647 then if -9223372036854775808 ≤ (x4 + (x6 * x2)) ∧ (x4 + (x6 * x2)) ≤ 9223372036854775807 then (if 4611686 < (x4 + (x6 * x2)) then some (.inl ((-5), M)) else if -2147483648 ≤ (x6 * x2) ∧ (x6 * x2) ≤ 2147483647 then if 0 ≤ x3 ∧ x3 < 25 then nm (wr M ((x0 + 11990) + 6) (Int.toNat x3) (x6 * x2)) (fun M22 => Option.bind (fX8_electedInThought x0 M22) (fun q23 => (if (bAnd (bShr q23.1 x1) 1) = 0 then if -2147483648 ≤ (x6 + 1) ∧ (x6 + 1) ≤ 2147483647 then fX8_needs_l98 x0 x1 x2 x3 x4 n (x6 + 1) q23.2 else none else some (.inl (x6, q23.2))))) else none else none) else none else none)
def fX8_needs (x0 : Nat) (x1 : Int) (x2 : Int) (M : Mem) : Option (Int × Mem) := Option.bind (fX1_hasCandidate (x0 + 10990) x1 M) (fun q1 => (if q1.1 = 0 then some ((-1), q1.2) else (if x2 < 1 then some ((-2), q1.2) else (if x2 ≤ 10000 then if 0 ≤ x1 ∧ x1 < 8 then (if (q1.2 ((x0 + 10990) + 3) (Int.toNat x1)) = 0 then Option.bind (fX1_copyFrom (x0 + 11990) (x0 + 10990) q1.2) (fun q7 => nm ((q7.2 (x0 + 10990) 3)) (fun v8 => Option.bind (fX2_ledBy x1 0 q7.2) (fun q9 => if 0 ≤ v8 ∧ v8 < 25 then nm (wr q9.2 ((x0 + 11990) + 5) (Int.toNat v8) q9.1) (fun M11 => if -2147483648 ≤ (v8 + 1) ∧ (v8 + 1) ≤ 2147483647 then nm (wr M11 (x0 + 11990) 3 (v8 + 1)) (fun M13 => Option.bind (fX1_together (x0 + 10990) M13) (fun q14 => nm (q14.1) (fun v15 => lr (fX8_needs_l98 x0 x1 x2 v8 v15 1000 0 q14.2) (fun r => r) (fun _ => none)))) else none) else none))) else some ((-5), q1.2)) else none else some ((-2), q1.2)))))
set_option maxRecDepth 20000 in
theorem lX8_needs_l98 {X : XC} {d : Nat} {Post : Option XV → Mem → Prop} {x0 : Nat} {x1 : Int} {x2 : Int} {x3 : Int} {x4 : Int} (hx0 : Sh x0 = (17, 10)) : ∀ (n : Nat) (x6 : Int) (M : Mem) (z : (Int × Mem) ⊕ (Int × Mem)), fX8_needs_l98 x0 x1 x2 x3 x4 n x6 M = some z → (∀ r, z = .inl r → Post (some (XI r.1)) r.2) → Go X mX8_needs (d + 6) 98 [(0, XR x0), (1, XI x1), (2, XI x2), (3, XI x3), (4, XL x4), (6, XI x6)] [] M Post := by
  intro n
  induction n with
  | zero => intro _ _ _ h; cases h
  | succ n ih =>
    intro x6 M z h K1
    unfold fX8_needs_l98 at h
    refine g_iload 5 dX8_needs_98 rfl ?_
    refine g_bip dX8_needs_100 rfl ?_
    refine g_icmp_gt (tgt := 153) dX8_needs_102 (by decide) (fun b16 => ?_) (fun b16 => ?_)
    · replace h := ifp b16 h
      refine g_bip dX8_needs_153 rfl ?_
      cases h
      exact g_ireturn dX8_needs_155 rfl (K1 ((-5), M) rfl)
    · replace h := ifn b16 h
      refine g_pc (pc' := 105) rfl ?_
      refine g_lload 4 dX8_needs_105 rfl ?_
      refine g_iload 5 dX8_needs_107 rfl ?_
      refine g_iload_n 2 dX8_needs_109 rfl ?_
      obtain ⟨c17, h⟩ := chk_some h
      refine g_imul dX8_needs_110 rfl c17 ?_
      refine g_i2l dX8_needs_111 ?_
      obtain ⟨c18, h⟩ := chk_some h
      refine g_ladd dX8_needs_112 rfl c18 ?_
      refine g_ldc2 (v := 4611686) dX8_needs_113 csX8_131 (by decide +kernel) (i64l rfl) ?_
      refine g_lcmp_gt (tgt := 153) dX8_needs_116 dX8_needs_117 (by decide) (fun b19 => ?_) (fun b19 => ?_)
      · replace h := ifp b19 h
        refine g_bip dX8_needs_153 rfl ?_
        cases h
        exact g_ireturn dX8_needs_155 rfl (K1 ((-5), M) rfl)
      · replace h := ifn b19 h
        refine g_pc (pc' := 120) rfl ?_
        refine g_aload_n 0 dX8_needs_120 rfl ?_
        refine g_getR dX8_needs_121 flX8_18 (by decide) rfl hx0 ?_
        refine g_getR dX8_needs_124 flX8_96 (by decide) rfl (sf_7_1 hx0) ?_
        refine g_iload_n 3 dX8_needs_127 rfl ?_
        refine g_iload 5 dX8_needs_128 rfl ?_
        refine g_iload_n 2 dX8_needs_130 rfl ?_
        obtain ⟨c20, h⟩ := chk_some h
        refine g_imul dX8_needs_131 rfl c20 ?_
        obtain ⟨c21, h⟩ := chk_some h
        refine g_iast dX8_needs_132 (sf_1_5 (sf_7_1 hx0)) c21.1 c21.2 ?_
        refine g_nmM (fun M22 eM22 => ?_)
        replace h := nm_s eM22 h
        refine g_pc (pc' := 133) rfl ?_
        refine g_aload_n 0 dX8_needs_133 rfl ?_
        obtain ⟨q23, hq23, h⟩ := bnd_some h
        refine v_I (ci := 7) (as := []) dX8_needs_134 mlX8_256 mdX8_electedInThought mvX8_electedInThought rfl hx0 rfl (Nat.le_of_ble_eq_true rfl) (kX8_electedInThought hx0 hq23) rfl ?_
        refine g_iload_n 1 dX8_needs_137 rfl ?_
        refine g_ishr dX8_needs_138 ?_
        refine g_iconst (v := 1) dX8_needs_139 rfl (i32l rfl) ?_
        refine g_iand dX8_needs_140 ?_
        refine g_if_eq (tgt := 147) dX8_needs_141 (by decide) (fun b24 => ?_) (fun b24 => ?_)
        · replace h := ifp b24 h
          obtain ⟨c25, h⟩ := chk_some h
          refine g_iinc (ls' := [(6, XI (x6 + 1)), (0, XR x0), (1, XI x1), (2, XI x2), (3, XI x3), (4, XL x4)]) 5 dX8_needs_147 rfl rfl c25 (by decide) rfl ?_
          refine g_goto (tgt := 98) dX8_needs_150 (by decide) ?_
          exact g_sub [1, 2, 3, 4, 5, 0] rfl (ih _ _ _ h K1)
        · replace h := ifn b24 h
          refine g_pc (pc' := 144) rfl ?_
          refine g_iload 5 dX8_needs_144 rfl ?_
          cases h
          exact g_ireturn dX8_needs_146 rfl (K1 (x6, q23.2) rfl)
set_option maxRecDepth 20000 in
theorem kX8_needs {X : XC} {d : Nat} {x0 : Nat} {x1 : Int} {x2 : Int} (hx0 : Sh x0 = (17, 10)) {M : Mem} {q : Int × Mem} (h : fX8_needs x0 x1 x2 M = some q) : Ct X mX8_needs (d + 6) [XR x0, XI x1, XI x2] M (pI q) := by
  unfold fX8_needs at h
  refine ct_go (by decide +kernel) (Nat.le_of_ble_eq_true rfl) (ls := [(0, XR x0), (1, XI x1), (2, XI x2)]) rfl ?_
  refine g_aload_n 0 dX8_needs_0 rfl ?_
  refine g_getR dX8_needs_1 flX8_14 (by decide) rfl hx0 ?_
  refine g_iload_n 1 dX8_needs_4 rfl ?_
  obtain ⟨q1, hq1, h⟩ := bnd_some h
  refine v_I (ci := 1) (as := [XI x1]) dX8_needs_5 mlX8_103 mdX1_hasCandidate mvX1_hasCandidate rfl (sf_7_0 hx0) rfl (Nat.le_of_ble_eq_true rfl) (kX1_hasCandidate (sf_7_0 hx0) hq1) rfl ?_
  refine g_if_ne (tgt := 13) dX8_needs_8 (by decide) (fun b2 => ?_) (fun b2 => ?_)
  · replace h := ifn b2 h
    refine g_iload_n 2 dX8_needs_13 rfl ?_
    refine g_iconst (v := 1) dX8_needs_14 rfl (i32l rfl) ?_
    refine g_icmp_lt (tgt := 25) dX8_needs_15 (by decide) (fun b3 => ?_) (fun b3 => ?_)
    · replace h := ifp b3 h
      refine g_bip dX8_needs_25 rfl ?_
      cases h
      exact g_ireturn dX8_needs_27 rfl ⟨rfl, rfl⟩
    · replace h := ifn b3 h
      refine g_pc (pc' := 18) rfl ?_
      refine g_iload_n 2 dX8_needs_18 rfl ?_
      refine g_sip dX8_needs_19 rfl ?_
      refine g_icmp_le (tgt := 28) dX8_needs_22 (by decide) (fun b4 => ?_) (fun b4 => ?_)
      · replace h := ifp b4 h
        refine g_aload_n 0 dX8_needs_28 rfl ?_
        refine g_getR dX8_needs_29 flX8_14 (by decide) rfl hx0 ?_
        refine g_getR dX8_needs_32 flX8_72 (by decide) rfl (sf_7_0 hx0) ?_
        refine g_iload_n 1 dX8_needs_35 rfl ?_
        obtain ⟨c5, h⟩ := chk_some h
        refine g_zald dX8_needs_36 (sf_1_2 (sf_7_0 hx0)) c5.1 c5.2 ?_
        refine g_if_eq (tgt := 43) dX8_needs_37 (by decide) (fun b6 => ?_) (fun b6 => ?_)
        · replace h := ifp b6 h
          refine g_aload_n 0 dX8_needs_43 rfl ?_
          refine g_getR dX8_needs_44 flX8_18 (by decide) rfl hx0 ?_
          refine g_aload_n 0 dX8_needs_47 rfl ?_
          refine g_getR dX8_needs_48 flX8_14 (by decide) rfl hx0 ?_
          obtain ⟨q7, hq7, h⟩ := bnd_some h
          refine v_V (ci := 1) (as := [XR (x0 + 10990)]) dX8_needs_51 mlX8_253 mdX1_copyFrom mvX1_copyFrom rfl (sf_7_1 hx0) rfl (Nat.le_of_ble_eq_true rfl) (kX1_copyFrom (sf_7_1 hx0) (sf_7_0 hx0) hq7) rfl ?_
          refine g_aload_n 0 dX8_needs_54 rfl ?_
          refine g_getR dX8_needs_55 flX8_14 (by decide) rfl hx0 ?_
          refine g_getI dX8_needs_58 flX8_83 (by decide) rfl (sf_7_0 hx0) ?_
          refine g_pc (pc' := 61) rfl ?_
          refine g_nmI (fun v8 ev8 => ?_)
          replace h := nm_s ev8 h
          refine g_istore_n (ls' := [(3, XI v8), (0, XR x0), (1, XI x1), (2, XI x2)]) dX8_needs_61 (by decide) rfl ?_
          refine g_aload_n 1 dX8_needs_62 rfl ?_
          refine g_getR dX8_needs_63 flX8_18 (by decide) rfl hx0 ?_
          refine g_getR dX8_needs_66 flX8_89 (by decide) rfl (sf_7_1 hx0) ?_
          refine g_iload_n 0 dX8_needs_69 rfl ?_
          refine g_iload_n 2 dX8_needs_70 rfl ?_
          refine g_iconst (v := 0) dX8_needs_71 rfl (i32l rfl) ?_
          obtain ⟨q9, hq9, h⟩ := bnd_some h
          refine s_I (as := [XI x1, XI 0]) dX8_needs_72 mlX8_259 mdX2_ledBy msX2_ledBy rfl (Nat.le_of_ble_eq_true rfl) (kX2_ledBy  hq9) rfl ?_
          obtain ⟨c10, h⟩ := chk_some h
          refine g_iast dX8_needs_75 (sf_1_4 (sf_7_1 hx0)) c10.1 c10.2 ?_
          refine g_nmM (fun M11 eM11 => ?_)
          replace h := nm_s eM11 h
          refine g_pc (pc' := 76) rfl ?_
          refine g_aload_n 1 dX8_needs_76 rfl ?_
          refine g_getR dX8_needs_77 flX8_18 (by decide) rfl hx0 ?_
          refine g_iload_n 0 dX8_needs_80 rfl ?_
          refine g_iconst (v := 1) dX8_needs_81 rfl (i32l rfl) ?_
          obtain ⟨c12, h⟩ := chk_some h
          refine g_iadd dX8_needs_82 rfl c12 ?_
          refine g_putI dX8_needs_83 flX8_83 (by decide) rfl (sf_7_1 hx0) ?_
          refine g_nmM (fun M13 eM13 => ?_)
          replace h := nm_s eM13 h
          refine g_aload_n 1 dX8_needs_86 rfl ?_
          refine g_getR dX8_needs_87 flX8_14 (by decide) rfl hx0 ?_
          obtain ⟨q14, hq14, h⟩ := bnd_some h
          refine v_J (ci := 1) (as := []) dX8_needs_90 mlX8_262 mdX1_together mvX1_together rfl (sf_7_0 hx0) rfl (Nat.le_of_ble_eq_true rfl) (kX1_together (sf_7_0 hx0) hq14) rfl ?_
          refine g_pc (pc' := 93) rfl ?_
          refine g_nmL (fun v15 ev15 => ?_)
          replace h := nm_s ev15 h
          refine g_lstore (ls' := [(4, XL v15), (3, XI v8), (0, XR x0), (1, XI x1), (2, XI x2)]) dX8_needs_93 (by decide) rfl ?_
          refine g_iconst (v := 0) dX8_needs_95 rfl (i32l rfl) ?_
          refine g_istore (ls' := [(6, XI 0), (4, XL v15), (3, XI v8), (0, XR x0), (1, XI x1), (2, XI x2)]) dX8_needs_96 (by decide) rfl ?_
          obtain ⟨z26, hz26, rz26, h⟩ := lr_some h
          refine g_sub (ls' := [(0, XR x0), (1, XI x1), (2, XI x2), (3, XI v8), (4, XL v15), (6, XI 0)]) [3, 4, 5, 2, 1, 0] rfl ?_
          refine lX8_needs_l98 hx0 1000 _ _ _ hz26 (fun r e => ?_)
          have rz26 := rz26 r e
          subst rz26
          exact ⟨rfl, rfl⟩
        · replace h := ifn b6 h
          refine g_pc (pc' := 40) rfl ?_
          refine g_bip dX8_needs_40 rfl ?_
          cases h
          exact g_ireturn dX8_needs_42 rfl ⟨rfl, rfl⟩
      · replace h := ifn b4 h
        refine g_pc (pc' := 25) rfl ?_
        refine g_bip dX8_needs_25 rfl ?_
        cases h
        exact g_ireturn dX8_needs_27 rfl ⟨rfl, rfl⟩
  · replace h := ifp b2 h
    refine g_pc (pc' := 11) rfl ?_
    refine g_iconst (v := -1) dX8_needs_11 rfl (i32l rfl) ?_
    cases h
    exact g_ireturn dX8_needs_12 rfl ⟨rfl, rfl⟩
def fX8_see (x0 : Nat) (x1 : Int) (x2 : Int) (M : Mem) : Option (Int × Mem) := (if x1 = (-1) then nm (wr M (x0 + 10990) 9 0) (fun M12 => some (0, M12)) else Option.bind (fX1_hasCandidate (x0 + 10990) x1 M) (fun q2 => (if q2.1 = 0 then some ((-1), q2.2) else (if (q2.2 (x0 + 10990) 9) < 5 then if 0 ≤ (q2.2 (x0 + 10990) 9) ∧ (q2.2 (x0 + 10990) 9) < 5 then nm (wr q2.2 ((x0 + 10990) + 11) (Int.toNat (q2.2 (x0 + 10990) 9)) x1) (fun M6 => if 0 ≤ (M6 (x0 + 10990) 9) ∧ (M6 (x0 + 10990) 9) < 5 then if x2 = 0 ∨ x2 = 1 then nm (wr M6 ((x0 + 10990) + 12) (Int.toNat (M6 (x0 + 10990) 9)) x2) (fun M9 => if -2147483648 ≤ ((M9 (x0 + 10990) 9) + 1) ∧ ((M9 (x0 + 10990) 9) + 1) ≤ 2147483647 then nm (wr M9 (x0 + 10990) 9 ((M9 (x0 + 10990) 9) + 1)) (fun M11 => some ((M11 (x0 + 10990) 9), M11)) else none) else none else none) else none else some ((-4), q2.2)))))
set_option maxRecDepth 20000 in
theorem kX8_see {X : XC} {d : Nat} {x0 : Nat} {x1 : Int} {x2 : Int} (hx0 : Sh x0 = (17, 10)) {M : Mem} {q : Int × Mem} (h : fX8_see x0 x1 x2 M = some q) : Ct X mX8_see (d + 1) [XR x0, XI x1, XI x2] M (pI q) := by
  unfold fX8_see at h
  refine ct_go (by decide +kernel) (Nat.le_of_ble_eq_true rfl) (ls := [(0, XR x0), (1, XI x1), (2, XI x2)]) rfl ?_
  refine g_iload_n 1 dX8_see_0 rfl ?_
  refine g_iconst (v := -1) dX8_see_1 rfl (i32l rfl) ?_
  refine g_icmp_ne (tgt := 15) dX8_see_2 (by decide) (fun b1 => ?_) (fun b1 => ?_)
  · replace h := ifn b1 h
    refine g_aload_n 0 dX8_see_15 rfl ?_
    refine g_getR dX8_see_16 flX8_14 (by decide) rfl hx0 ?_
    refine g_iload_n 1 dX8_see_19 rfl ?_
    obtain ⟨q2, hq2, h⟩ := bnd_some h
    refine v_I (ci := 1) (as := [XI x1]) dX8_see_20 mlX8_103 mdX1_hasCandidate mvX1_hasCandidate rfl (sf_7_0 hx0) rfl (Nat.le_of_ble_eq_true rfl) (kX1_hasCandidate (sf_7_0 hx0) hq2) rfl ?_
    refine g_if_ne (tgt := 28) dX8_see_23 (by decide) (fun b3 => ?_) (fun b3 => ?_)
    · replace h := ifn b3 h
      refine g_aload_n 0 dX8_see_28 rfl ?_
      refine g_getR dX8_see_29 flX8_14 (by decide) rfl hx0 ?_
      refine g_getI dX8_see_32 flX8_266 (by decide) rfl (sf_7_0 hx0) ?_
      refine g_iconst (v := 5) dX8_see_35 rfl (i32l rfl) ?_
      refine g_icmp_lt (tgt := 42) dX8_see_36 (by decide) (fun b4 => ?_) (fun b4 => ?_)
      · replace h := ifp b4 h
        refine g_aload_n 0 dX8_see_42 rfl ?_
        refine g_getR dX8_see_43 flX8_14 (by decide) rfl hx0 ?_
        refine g_getR dX8_see_46 flX8_269 (by decide) rfl (sf_7_0 hx0) ?_
        refine g_aload_n 0 dX8_see_49 rfl ?_
        refine g_getR dX8_see_50 flX8_14 (by decide) rfl hx0 ?_
        refine g_getI dX8_see_53 flX8_266 (by decide) rfl (sf_7_0 hx0) ?_
        refine g_iload_n 1 dX8_see_56 rfl ?_
        obtain ⟨c5, h⟩ := chk_some h
        refine g_iast dX8_see_57 (sf_1_10 (sf_7_0 hx0)) c5.1 c5.2 ?_
        refine g_nmM (fun M6 eM6 => ?_)
        replace h := nm_s eM6 h
        refine g_pc (pc' := 58) rfl ?_
        refine g_aload_n 0 dX8_see_58 rfl ?_
        refine g_getR dX8_see_59 flX8_14 (by decide) rfl hx0 ?_
        refine g_getR dX8_see_62 flX8_272 (by decide) rfl (sf_7_0 hx0) ?_
        refine g_aload_n 0 dX8_see_65 rfl ?_
        refine g_getR dX8_see_66 flX8_14 (by decide) rfl hx0 ?_
        refine g_getI dX8_see_69 flX8_266 (by decide) rfl (sf_7_0 hx0) ?_
        refine g_iload_n 2 dX8_see_72 rfl ?_
        obtain ⟨c7, h⟩ := chk_some h
        obtain ⟨c8, h⟩ := chk_some h
        refine g_zast dX8_see_73 (sf_1_11 (sf_7_0 hx0)) c7.1 c7.2 c8 ?_
        refine g_nmM (fun M9 eM9 => ?_)
        replace h := nm_s eM9 h
        refine g_aload_n 0 dX8_see_74 rfl ?_
        refine g_pc (pc' := 75) rfl ?_
        refine g_getR dX8_see_75 flX8_14 (by decide) rfl hx0 ?_
        refine g_dupR dX8_see_78 ?_
        refine g_getI dX8_see_79 flX8_266 (by decide) rfl (sf_7_0 hx0) ?_
        refine g_iconst (v := 1) dX8_see_82 rfl (i32l rfl) ?_
        obtain ⟨c10, h⟩ := chk_some h
        refine g_iadd dX8_see_83 rfl c10 ?_
        refine g_putI dX8_see_84 flX8_266 (by decide) rfl (sf_7_0 hx0) ?_
        refine g_nmM (fun M11 eM11 => ?_)
        replace h := nm_s eM11 h
        refine g_aload_n 0 dX8_see_87 rfl ?_
        refine g_getR dX8_see_88 flX8_14 (by decide) rfl hx0 ?_
        refine g_getI dX8_see_91 flX8_266 (by decide) rfl (sf_7_0 hx0) ?_
        refine g_pc (pc' := 94) rfl ?_
        cases h
        exact g_ireturn dX8_see_94 rfl ⟨rfl, rfl⟩
      · replace h := ifn b4 h
        refine g_pc (pc' := 39) rfl ?_
        refine g_bip dX8_see_39 rfl ?_
        cases h
        exact g_ireturn dX8_see_41 rfl ⟨rfl, rfl⟩
    · replace h := ifp b3 h
      refine g_pc (pc' := 26) rfl ?_
      refine g_iconst (v := -1) dX8_see_26 rfl (i32l rfl) ?_
      cases h
      exact g_ireturn dX8_see_27 rfl ⟨rfl, rfl⟩
  · replace h := ifp b1 h
    refine g_pc (pc' := 5) rfl ?_
    refine g_aload_n 0 dX8_see_5 rfl ?_
    refine g_getR dX8_see_6 flX8_14 (by decide) rfl hx0 ?_
    refine g_iconst (v := 0) dX8_see_9 rfl (i32l rfl) ?_
    refine g_putI dX8_see_10 flX8_266 (by decide) rfl (sf_7_0 hx0) ?_
    refine g_nmM (fun M12 eM12 => ?_)
    replace h := nm_s eM12 h
    refine g_iconst (v := 0) dX8_see_13 rfl (i32l rfl) ?_
    cases h
    exact g_ireturn dX8_see_14 rfl ⟨rfl, rfl⟩
def fX8_fits_l31 (x0 : Nat) (x1 : Int) : Nat → Int → Int → Int → Mem → Option (Int × Int × Int × Mem)
  | 0, _, _, _, _ => none
  | n + 1, x2, x3, x4, M => (if x4 < 1 then some (x2, x3, x4, M) else nm (wr M (x0 + 11990) 6 x4) (fun M5 => Option.bind (fX8_electedInThought x0 M5) (fun q6 => Option.bind (fX1_isSeenSo (x0 + 10990) q6.1 q6.2) (fun q7 => Option.bind ((if q7.1 = 0 then some (x2, x3) else if -2147483648 ≤ (x2 + 1) ∧ (x2 + 1) ≤ 2147483647 then some ((x2 + 1), x4) else none) : Option (Int × Int)) (fun t10 => if -2147483648 ≤ (x4 + (-1)) ∧ (x4 + (-1)) ≤ 2147483647 then fX8_fits_l31 x0 x1 n t10.1 t10.2 (x4 + (-1)) q7.2 else none)))))
def fX8_fits (x0 : Nat) (x1 : Int) (M : Mem) : Option (Int × Mem) := (if x1 < 0 then some ((-1), M) else (if x1 ≤ 1 then Option.bind (fX1_copyFrom (x0 + 11990) (x0 + 10990) M) (fun q3 => Option.bind (fX8_fits_l31 x0 x1 1000 0 (-5) 7 q3.2) (fun z14 => Option.bind ((if x1 = 0 then some (z14.1) else some (z14.2.1)) : Option (Int)) (fun t16 => some (t16, z14.2.2.2)))) else some ((-1), M)))
set_option maxRecDepth 20000 in
theorem lX8_fits_l31 {X : XC} {d : Nat} {Post : Option XV → Mem → Prop} {x0 : Nat} {x1 : Int} (hx0 : Sh x0 = (17, 10)) : ∀ (n : Nat) (x2 x3 x4 : Int) (M : Mem) (t0 : Int × Int × Int × Mem), fX8_fits_l31 x0 x1 n x2 x3 x4 M = some t0 → Go X mX8_fits (d + 6) 72 [(1, XI x1), (2, XI t0.1), (3, XI t0.2.1)] [] t0.2.2.2 Post → Go X mX8_fits (d + 6) 31 [(0, XR x0), (1, XI x1), (2, XI x2), (3, XI x3), (4, XI x4)] [] M Post := by
  intro n
  induction n with
  | zero => intro _ _ _ _ _ h; cases h
  | succ n ih =>
    intro x2 x3 x4 M t0 h K
    unfold fX8_fits_l31 at h
    refine g_iload 4 dX8_fits_31 rfl ?_
    refine g_iconst (v := 1) dX8_fits_33 rfl (i32l rfl) ?_
    refine g_icmp_lt (tgt := 72) dX8_fits_34 (by decide) (fun b4 => ?_) (fun b4 => ?_)
    · replace h := ifp b4 h
      cases h
      exact g_sub [1, 2, 3] rfl K
    · replace h := ifn b4 h
      refine g_pc (pc' := 37) rfl ?_
      refine g_aload_n 0 dX8_fits_37 rfl ?_
      refine g_getR dX8_fits_38 flX8_18 (by decide) rfl hx0 ?_
      refine g_iload 4 dX8_fits_41 rfl ?_
      refine g_putI dX8_fits_43 flX8_116 (by decide) rfl (sf_7_1 hx0) ?_
      refine g_nmM (fun M5 eM5 => ?_)
      replace h := nm_s eM5 h
      refine g_aload_n 0 dX8_fits_46 rfl ?_
      refine g_getR dX8_fits_47 flX8_14 (by decide) rfl hx0 ?_
      refine g_aload_n 0 dX8_fits_50 rfl ?_
      obtain ⟨q6, hq6, h⟩ := bnd_some h
      refine v_I (ci := 7) (as := []) dX8_fits_51 mlX8_256 mdX8_electedInThought mvX8_electedInThought rfl hx0 rfl (Nat.le_of_ble_eq_true rfl) (kX8_electedInThought hx0 hq6) rfl ?_
      refine g_pc (pc' := 54) rfl ?_
      obtain ⟨q7, hq7, h⟩ := bnd_some h
      refine v_I (ci := 1) (as := [XI q6.1]) dX8_fits_54 mlX8_275 mdX1_isSeenSo mvX1_isSeenSo rfl (sf_7_0 hx0) rfl (Nat.le_of_ble_eq_true rfl) (kX1_isSeenSo (sf_7_0 hx0) hq7) rfl ?_
      obtain ⟨t10, ht10, h⟩ := bnd_some h
      have Kt10 : Go X mX8_fits (d + 6) 66 [(0, XR x0), (1, XI x1), (2, XI t10.1), (3, XI t10.2), (4, XI x4)] [] q7.2 Post := by
        obtain ⟨c13, h⟩ := chk_some h
        refine g_iinc (ls' := [(4, XI (x4 + (-1))), (0, XR x0), (1, XI x1), (2, XI t10.1), (3, XI t10.2)]) 4 dX8_fits_66 rfl rfl c13 (by decide) rfl ?_
        refine g_goto (tgt := 31) dX8_fits_69 (by decide) ?_
        exact g_sub [1, 2, 3, 4, 0] rfl (ih _ _ _ _ _ h K)
      refine g_if_eq (tgt := 66) dX8_fits_57 (by decide) (fun b11 => ?_) (fun b11 => ?_)
      · replace ht10 := ifp b11 ht10
        cases ht10
        exact g_sub [0, 1, 2, 3, 4] rfl Kt10
      · replace ht10 := ifn b11 ht10
        refine g_pc (pc' := 60) rfl ?_
        obtain ⟨c12, ht10⟩ := chk_some ht10
        refine g_iinc (ls' := [(2, XI (x2 + 1)), (0, XR x0), (1, XI x1), (3, XI x3), (4, XI x4)]) 2 dX8_fits_60 rfl rfl c12 (by decide) rfl ?_
        refine g_iload 4 dX8_fits_63 rfl ?_
        refine g_istore_n (ls' := [(3, XI x4), (2, XI (x2 + 1)), (0, XR x0), (1, XI x1), (4, XI x4)]) dX8_fits_65 (by decide) rfl ?_
        cases ht10
        exact g_sub [2, 3, 1, 0, 4] rfl Kt10
set_option maxRecDepth 20000 in
theorem kX8_fits {X : XC} {d : Nat} {x0 : Nat} {x1 : Int} (hx0 : Sh x0 = (17, 10)) {M : Mem} {q : Int × Mem} (h : fX8_fits x0 x1 M = some q) : Ct X mX8_fits (d + 6) [XR x0, XI x1] M (pI q) := by
  unfold fX8_fits at h
  refine ct_go (by decide +kernel) (Nat.le_of_ble_eq_true rfl) (ls := [(0, XR x0), (1, XI x1)]) rfl ?_
  refine g_iload_n 1 dX8_fits_0 rfl ?_
  refine g_if_lt (tgt := 9) dX8_fits_1 (by decide) (fun b1 => ?_) (fun b1 => ?_)
  · replace h := ifp b1 h
    refine g_iconst (v := -1) dX8_fits_9 rfl (i32l rfl) ?_
    cases h
    exact g_ireturn dX8_fits_10 rfl ⟨rfl, rfl⟩
  · replace h := ifn b1 h
    refine g_pc (pc' := 4) rfl ?_
    refine g_iload_n 1 dX8_fits_4 rfl ?_
    refine g_iconst (v := 1) dX8_fits_5 rfl (i32l rfl) ?_
    refine g_icmp_le (tgt := 11) dX8_fits_6 (by decide) (fun b2 => ?_) (fun b2 => ?_)
    · replace h := ifp b2 h
      refine g_iconst (v := 0) dX8_fits_11 rfl (i32l rfl) ?_
      refine g_istore_n (ls' := [(2, XI 0), (0, XR x0), (1, XI x1)]) dX8_fits_12 (by decide) rfl ?_
      refine g_bip dX8_fits_13 rfl ?_
      refine g_istore_n (ls' := [(3, XI (-5)), (2, XI 0), (0, XR x0), (1, XI x1)]) dX8_fits_15 (by decide) rfl ?_
      refine g_aload_n 2 dX8_fits_16 rfl ?_
      refine g_getR dX8_fits_17 flX8_18 (by decide) rfl hx0 ?_
      refine g_aload_n 2 dX8_fits_20 rfl ?_
      refine g_getR dX8_fits_21 flX8_14 (by decide) rfl hx0 ?_
      refine g_pc (pc' := 24) rfl ?_
      obtain ⟨q3, hq3, h⟩ := bnd_some h
      refine v_V (ci := 1) (as := [XR (x0 + 10990)]) dX8_fits_24 mlX8_253 mdX1_copyFrom mvX1_copyFrom rfl (sf_7_1 hx0) rfl (Nat.le_of_ble_eq_true rfl) (kX1_copyFrom (sf_7_1 hx0) (sf_7_0 hx0) hq3) rfl ?_
      refine g_bip dX8_fits_27 rfl ?_
      refine g_istore (ls' := [(4, XI 7), (3, XI (-5)), (2, XI 0), (0, XR x0), (1, XI x1)]) dX8_fits_29 (by decide) rfl ?_
      obtain ⟨z14, hz14, h⟩ := bnd_some h
      refine g_sub (ls' := [(0, XR x0), (1, XI x1), (2, XI 0), (3, XI (-5)), (4, XI 7)]) [3, 4, 2, 1, 0] rfl ?_
      refine lX8_fits_l31 hx0 1000 _ _ _ _ _ hz14 ?_
      refine g_iload_n 0 dX8_fits_72 rfl ?_
      obtain ⟨t16, ht16, h⟩ := bnd_some h
      have Kt16 : Go X mX8_fits (d + 6) 81 [] [XI t16] z14.2.2.2 (pI q) := by
        cases h
        exact g_ireturn dX8_fits_81 rfl ⟨rfl, rfl⟩
      refine g_if_ne (tgt := 80) dX8_fits_73 (by decide) (fun b17 => ?_) (fun b17 => ?_)
      · replace ht16 := ifn b17 ht16
        refine g_iload_n 2 dX8_fits_80 rfl ?_
        cases ht16
        exact g_sub [] rfl Kt16
      · replace ht16 := ifp b17 ht16
        refine g_pc (pc' := 76) rfl ?_
        refine g_iload_n 1 dX8_fits_76 rfl ?_
        refine g_goto (tgt := 81) dX8_fits_77 (by decide) ?_
        cases ht16
        exact g_sub [] rfl Kt16
    · replace h := ifn b2 h
      refine g_pc (pc' := 9) rfl ?_
      refine g_iconst (v := -1) dX8_fits_9 rfl (i32l rfl) ?_
      cases h
      exact g_ireturn dX8_fits_10 rfl ⟨rfl, rfl⟩
def fX8_event (x0 : Nat) (x1 : Int) (x2 : Int) (M : Mem) : Option (Int × Mem) := (if x1 = (-1) then nm (wr M (x0 + 10990) 12 0) (fun M23 => some (0, M23)) else (if x1 < 0 then some ((-1), M) else (if x1 ≤ 3 then (if x1 = 2 then (if x2 < 1 then some ((-2), M) else (if x2 ≤ 7 then (if (M (x0 + 10990) 12) < 8 then if 0 ≤ (M (x0 + 10990) 12) ∧ (M (x0 + 10990) 12) < 8 then nm (wr M ((x0 + 10990) + 14) (Int.toNat (M (x0 + 10990) 12)) x1) (fun M18 => if 0 ≤ (M18 (x0 + 10990) 12) ∧ (M18 (x0 + 10990) 12) < 8 then nm (wr M18 ((x0 + 10990) + 15) (Int.toNat (M18 (x0 + 10990) 12)) x2) (fun M20 => if -2147483648 ≤ ((M20 (x0 + 10990) 12) + 1) ∧ ((M20 (x0 + 10990) 12) + 1) ≤ 2147483647 then nm (wr M20 (x0 + 10990) 12 ((M20 (x0 + 10990) 12) + 1)) (fun M22 => some ((M22 (x0 + 10990) 12), M22)) else none) else none) else none else some ((-4), M)) else some ((-2), M))) else Option.bind (fX1_hasCandidate (x0 + 10990) x2 M) (fun q5 => (if q5.1 = 0 then some ((-1), q5.2) else (if (q5.2 (x0 + 10990) 12) < 8 then if 0 ≤ (q5.2 (x0 + 10990) 12) ∧ (q5.2 (x0 + 10990) 12) < 8 then nm (wr q5.2 ((x0 + 10990) + 14) (Int.toNat (q5.2 (x0 + 10990) 12)) x1) (fun M9 => if 0 ≤ (M9 (x0 + 10990) 12) ∧ (M9 (x0 + 10990) 12) < 8 then nm (wr M9 ((x0 + 10990) + 15) (Int.toNat (M9 (x0 + 10990) 12)) x2) (fun M11 => if -2147483648 ≤ ((M11 (x0 + 10990) 12) + 1) ∧ ((M11 (x0 + 10990) 12) + 1) ≤ 2147483647 then nm (wr M11 (x0 + 10990) 12 ((M11 (x0 + 10990) 12) + 1)) (fun M13 => some ((M13 (x0 + 10990) 12), M13)) else none) else none) else none else some ((-4), q5.2))))) else some ((-1), M))))
set_option maxRecDepth 20000 in
theorem kX8_event {X : XC} {d : Nat} {x0 : Nat} {x1 : Int} {x2 : Int} (hx0 : Sh x0 = (17, 10)) {M : Mem} {q : Int × Mem} (h : fX8_event x0 x1 x2 M = some q) : Ct X mX8_event (d + 1) [XR x0, XI x1, XI x2] M (pI q) := by
  unfold fX8_event at h
  refine ct_go (by decide +kernel) (Nat.le_of_ble_eq_true rfl) (ls := [(0, XR x0), (1, XI x1), (2, XI x2)]) rfl ?_
  refine g_iload_n 1 dX8_event_0 rfl ?_
  refine g_iconst (v := -1) dX8_event_1 rfl (i32l rfl) ?_
  refine g_icmp_ne (tgt := 15) dX8_event_2 (by decide) (fun b1 => ?_) (fun b1 => ?_)
  · replace h := ifn b1 h
    refine g_iload_n 1 dX8_event_15 rfl ?_
    refine g_if_lt (tgt := 24) dX8_event_16 (by decide) (fun b2 => ?_) (fun b2 => ?_)
    · replace h := ifp b2 h
      refine g_iconst (v := -1) dX8_event_24 rfl (i32l rfl) ?_
      cases h
      exact g_ireturn dX8_event_25 rfl ⟨rfl, rfl⟩
    · replace h := ifn b2 h
      refine g_pc (pc' := 19) rfl ?_
      refine g_iload_n 1 dX8_event_19 rfl ?_
      refine g_iconst (v := 3) dX8_event_20 rfl (i32l rfl) ?_
      refine g_icmp_le (tgt := 26) dX8_event_21 (by decide) (fun b3 => ?_) (fun b3 => ?_)
      · replace h := ifp b3 h
        refine g_iload_n 1 dX8_event_26 rfl ?_
        refine g_iconst (v := 2) dX8_event_27 rfl (i32l rfl) ?_
        refine g_icmp_ne (tgt := 45) dX8_event_28 (by decide) (fun b4 => ?_) (fun b4 => ?_)
        · replace h := ifn b4 h
          refine g_aload_n 0 dX8_event_45 rfl ?_
          refine g_getR dX8_event_46 flX8_14 (by decide) rfl hx0 ?_
          refine g_iload_n 2 dX8_event_49 rfl ?_
          obtain ⟨q5, hq5, h⟩ := bnd_some h
          refine v_I (ci := 1) (as := [XI x2]) dX8_event_50 mlX8_103 mdX1_hasCandidate mvX1_hasCandidate rfl (sf_7_0 hx0) rfl (Nat.le_of_ble_eq_true rfl) (kX1_hasCandidate (sf_7_0 hx0) hq5) rfl ?_
          refine g_if_ne (tgt := 58) dX8_event_53 (by decide) (fun b6 => ?_) (fun b6 => ?_)
          · replace h := ifn b6 h
            refine g_aload_n 0 dX8_event_58 rfl ?_
            refine g_getR dX8_event_59 flX8_14 (by decide) rfl hx0 ?_
            refine g_getI dX8_event_62 flX8_278 (by decide) rfl (sf_7_0 hx0) ?_
            refine g_bip dX8_event_65 rfl ?_
            refine g_icmp_lt (tgt := 73) dX8_event_67 (by decide) (fun b7 => ?_) (fun b7 => ?_)
            · replace h := ifp b7 h
              refine g_aload_n 0 dX8_event_73 rfl ?_
              refine g_getR dX8_event_74 flX8_14 (by decide) rfl hx0 ?_
              refine g_getR dX8_event_77 flX8_281 (by decide) rfl (sf_7_0 hx0) ?_
              refine g_aload_n 0 dX8_event_80 rfl ?_
              refine g_getR dX8_event_81 flX8_14 (by decide) rfl hx0 ?_
              refine g_getI dX8_event_84 flX8_278 (by decide) rfl (sf_7_0 hx0) ?_
              refine g_iload_n 1 dX8_event_87 rfl ?_
              obtain ⟨c8, h⟩ := chk_some h
              refine g_iast dX8_event_88 (sf_1_13 (sf_7_0 hx0)) c8.1 c8.2 ?_
              refine g_nmM (fun M9 eM9 => ?_)
              replace h := nm_s eM9 h
              refine g_pc (pc' := 89) rfl ?_
              refine g_aload_n 0 dX8_event_89 rfl ?_
              refine g_getR dX8_event_90 flX8_14 (by decide) rfl hx0 ?_
              refine g_getR dX8_event_93 flX8_284 (by decide) rfl (sf_7_0 hx0) ?_
              refine g_aload_n 0 dX8_event_96 rfl ?_
              refine g_getR dX8_event_97 flX8_14 (by decide) rfl hx0 ?_
              refine g_getI dX8_event_100 flX8_278 (by decide) rfl (sf_7_0 hx0) ?_
              refine g_iload_n 2 dX8_event_103 rfl ?_
              obtain ⟨c10, h⟩ := chk_some h
              refine g_iast dX8_event_104 (sf_1_14 (sf_7_0 hx0)) c10.1 c10.2 ?_
              refine g_nmM (fun M11 eM11 => ?_)
              replace h := nm_s eM11 h
              refine g_aload_n 0 dX8_event_105 rfl ?_
              refine g_pc (pc' := 106) rfl ?_
              refine g_getR dX8_event_106 flX8_14 (by decide) rfl hx0 ?_
              refine g_dupR dX8_event_109 ?_
              refine g_getI dX8_event_110 flX8_278 (by decide) rfl (sf_7_0 hx0) ?_
              refine g_iconst (v := 1) dX8_event_113 rfl (i32l rfl) ?_
              obtain ⟨c12, h⟩ := chk_some h
              refine g_iadd dX8_event_114 rfl c12 ?_
              refine g_putI dX8_event_115 flX8_278 (by decide) rfl (sf_7_0 hx0) ?_
              refine g_nmM (fun M13 eM13 => ?_)
              replace h := nm_s eM13 h
              refine g_aload_n 0 dX8_event_118 rfl ?_
              refine g_getR dX8_event_119 flX8_14 (by decide) rfl hx0 ?_
              refine g_getI dX8_event_122 flX8_278 (by decide) rfl (sf_7_0 hx0) ?_
              refine g_pc (pc' := 125) rfl ?_
              cases h
              exact g_ireturn dX8_event_125 rfl ⟨rfl, rfl⟩
            · replace h := ifn b7 h
              refine g_pc (pc' := 70) rfl ?_
              refine g_bip dX8_event_70 rfl ?_
              cases h
              exact g_ireturn dX8_event_72 rfl ⟨rfl, rfl⟩
          · replace h := ifp b6 h
            refine g_pc (pc' := 56) rfl ?_
            refine g_iconst (v := -1) dX8_event_56 rfl (i32l rfl) ?_
            cases h
            exact g_ireturn dX8_event_57 rfl ⟨rfl, rfl⟩
        · replace h := ifp b4 h
          refine g_pc (pc' := 31) rfl ?_
          refine g_iload_n 2 dX8_event_31 rfl ?_
          refine g_iconst (v := 1) dX8_event_32 rfl (i32l rfl) ?_
          refine g_icmp_lt (tgt := 42) dX8_event_33 (by decide) (fun b14 => ?_) (fun b14 => ?_)
          · replace h := ifp b14 h
            refine g_bip dX8_event_42 rfl ?_
            cases h
            exact g_ireturn dX8_event_44 rfl ⟨rfl, rfl⟩
          · replace h := ifn b14 h
            refine g_pc (pc' := 36) rfl ?_
            refine g_iload_n 2 dX8_event_36 rfl ?_
            refine g_bip dX8_event_37 rfl ?_
            refine g_icmp_le (tgt := 58) dX8_event_39 (by decide) (fun b15 => ?_) (fun b15 => ?_)
            · replace h := ifp b15 h
              refine g_aload_n 0 dX8_event_58 rfl ?_
              refine g_getR dX8_event_59 flX8_14 (by decide) rfl hx0 ?_
              refine g_getI dX8_event_62 flX8_278 (by decide) rfl (sf_7_0 hx0) ?_
              refine g_bip dX8_event_65 rfl ?_
              refine g_icmp_lt (tgt := 73) dX8_event_67 (by decide) (fun b16 => ?_) (fun b16 => ?_)
              · replace h := ifp b16 h
                refine g_aload_n 0 dX8_event_73 rfl ?_
                refine g_getR dX8_event_74 flX8_14 (by decide) rfl hx0 ?_
                refine g_getR dX8_event_77 flX8_281 (by decide) rfl (sf_7_0 hx0) ?_
                refine g_aload_n 0 dX8_event_80 rfl ?_
                refine g_getR dX8_event_81 flX8_14 (by decide) rfl hx0 ?_
                refine g_getI dX8_event_84 flX8_278 (by decide) rfl (sf_7_0 hx0) ?_
                refine g_iload_n 1 dX8_event_87 rfl ?_
                obtain ⟨c17, h⟩ := chk_some h
                refine g_iast dX8_event_88 (sf_1_13 (sf_7_0 hx0)) c17.1 c17.2 ?_
                refine g_nmM (fun M18 eM18 => ?_)
                replace h := nm_s eM18 h
                refine g_pc (pc' := 89) rfl ?_
                refine g_aload_n 0 dX8_event_89 rfl ?_
                refine g_getR dX8_event_90 flX8_14 (by decide) rfl hx0 ?_
                refine g_getR dX8_event_93 flX8_284 (by decide) rfl (sf_7_0 hx0) ?_
                refine g_aload_n 0 dX8_event_96 rfl ?_
                refine g_getR dX8_event_97 flX8_14 (by decide) rfl hx0 ?_
                refine g_getI dX8_event_100 flX8_278 (by decide) rfl (sf_7_0 hx0) ?_
                refine g_iload_n 2 dX8_event_103 rfl ?_
                obtain ⟨c19, h⟩ := chk_some h
                refine g_iast dX8_event_104 (sf_1_14 (sf_7_0 hx0)) c19.1 c19.2 ?_
                refine g_nmM (fun M20 eM20 => ?_)
                replace h := nm_s eM20 h
                refine g_aload_n 0 dX8_event_105 rfl ?_
                refine g_pc (pc' := 106) rfl ?_
                refine g_getR dX8_event_106 flX8_14 (by decide) rfl hx0 ?_
                refine g_dupR dX8_event_109 ?_
                refine g_getI dX8_event_110 flX8_278 (by decide) rfl (sf_7_0 hx0) ?_
                refine g_iconst (v := 1) dX8_event_113 rfl (i32l rfl) ?_
                obtain ⟨c21, h⟩ := chk_some h
                refine g_iadd dX8_event_114 rfl c21 ?_
                refine g_putI dX8_event_115 flX8_278 (by decide) rfl (sf_7_0 hx0) ?_
                refine g_nmM (fun M22 eM22 => ?_)
                replace h := nm_s eM22 h
                refine g_aload_n 0 dX8_event_118 rfl ?_
                refine g_getR dX8_event_119 flX8_14 (by decide) rfl hx0 ?_
                refine g_getI dX8_event_122 flX8_278 (by decide) rfl (sf_7_0 hx0) ?_
                refine g_pc (pc' := 125) rfl ?_
                cases h
                exact g_ireturn dX8_event_125 rfl ⟨rfl, rfl⟩
              · replace h := ifn b16 h
                refine g_pc (pc' := 70) rfl ?_
                refine g_bip dX8_event_70 rfl ?_
                cases h
                exact g_ireturn dX8_event_72 rfl ⟨rfl, rfl⟩
            · replace h := ifn b15 h
              refine g_pc (pc' := 42) rfl ?_
              refine g_bip dX8_event_42 rfl ?_
              cases h
              exact g_ireturn dX8_event_44 rfl ⟨rfl, rfl⟩
      · replace h := ifn b3 h
        refine g_pc (pc' := 24) rfl ?_
        refine g_iconst (v := -1) dX8_event_24 rfl (i32l rfl) ?_
        cases h
        exact g_ireturn dX8_event_25 rfl ⟨rfl, rfl⟩
  · replace h := ifp b1 h
    refine g_pc (pc' := 5) rfl ?_
    refine g_aload_n 0 dX8_event_5 rfl ?_
    refine g_getR dX8_event_6 flX8_14 (by decide) rfl hx0 ?_
    refine g_iconst (v := 0) dX8_event_9 rfl (i32l rfl) ?_
    refine g_putI dX8_event_10 flX8_278 (by decide) rfl (sf_7_0 hx0) ?_
    refine g_nmM (fun M23 eM23 => ?_)
    replace h := nm_s eM23 h
    refine g_iconst (v := 0) dX8_event_13 rfl (i32l rfl) ?_
    cases h
    exact g_ireturn dX8_event_14 rfl ⟨rfl, rfl⟩
def fX8_after_l13 (x0 : Nat) : Nat → Int → Mem → Option (Int × Mem)
  | 0, _, _ => none
  | n + 1, x1, M => (if (M (x0 + 10990) 12) ≤ x1 then some (x1, M) else if 0 ≤ x1 ∧ x1 < 8 then if 0 ≤ x1 ∧ x1 < 8 then Option.bind (fX1_suffer (x0 + 11990) (M ((x0 + 10990) + 14) (Int.toNat x1)) (M ((x0 + 10990) + 15) (Int.toNat x1)) M) (fun q5 => if -2147483648 ≤ (x1 + 1) ∧ (x1 + 1) ≤ 2147483647 then fX8_after_l13 x0 n (x1 + 1) q5.2 else none) else none else none)
def fX8_after (x0 : Nat) (M : Mem) : Option (Int × Mem) := Option.bind (fX1_copyFrom (x0 + 11990) (x0 + 10990) M) (fun q1 => Option.bind (fX8_after_l13 x0 1000 0 q1.2) (fun z7 => Option.bind (fX8_electedInThought x0 z7.2) (fun q8 => some (q8.1, q8.2))))
set_option maxRecDepth 20000 in
theorem lX8_after_l13 {X : XC} {d : Nat} {Post : Option XV → Mem → Prop} {x0 : Nat} (hx0 : Sh x0 = (17, 10)) : ∀ (n : Nat) (x1 : Int) (M : Mem) (t0 : Int × Mem), fX8_after_l13 x0 n x1 M = some t0 → Go X mX8_after (d + 6) 55 [(0, XR x0)] [] t0.2 Post → Go X mX8_after (d + 6) 13 [(0, XR x0), (1, XI x1)] [] M Post := by
  intro n
  induction n with
  | zero => intro _ _ _ h; cases h
  | succ n ih =>
    intro x1 M t0 h K
    unfold fX8_after_l13 at h
    refine g_iload_n 1 dX8_after_13 rfl ?_
    refine g_aload_n 0 dX8_after_14 rfl ?_
    refine g_getR dX8_after_15 flX8_14 (by decide) rfl hx0 ?_
    refine g_getI dX8_after_18 flX8_278 (by decide) rfl (sf_7_0 hx0) ?_
    refine g_icmp_ge (tgt := 55) dX8_after_21 (by decide) (fun b2 => ?_) (fun b2 => ?_)
    · replace h := ifp b2 h
      cases h
      exact g_sub [0] rfl K
    · replace h := ifn b2 h
      refine g_pc (pc' := 24) rfl ?_
      refine g_aload_n 0 dX8_after_24 rfl ?_
      refine g_getR dX8_after_25 flX8_18 (by decide) rfl hx0 ?_
      refine g_aload_n 0 dX8_after_28 rfl ?_
      refine g_getR dX8_after_29 flX8_14 (by decide) rfl hx0 ?_
      refine g_getR dX8_after_32 flX8_281 (by decide) rfl (sf_7_0 hx0) ?_
      refine g_iload_n 1 dX8_after_35 rfl ?_
      obtain ⟨c3, h⟩ := chk_some h
      refine g_iald dX8_after_36 (sf_1_13 (sf_7_0 hx0)) c3.1 c3.2 ?_
      refine g_aload_n 0 dX8_after_37 rfl ?_
      refine g_pc (pc' := 38) rfl ?_
      refine g_getR dX8_after_38 flX8_14 (by decide) rfl hx0 ?_
      refine g_getR dX8_after_41 flX8_284 (by decide) rfl (sf_7_0 hx0) ?_
      refine g_iload_n 1 dX8_after_44 rfl ?_
      obtain ⟨c4, h⟩ := chk_some h
      refine g_iald dX8_after_45 (sf_1_14 (sf_7_0 hx0)) c4.1 c4.2 ?_
      obtain ⟨q5, hq5, h⟩ := bnd_some h
      refine v_V (ci := 1) (as := [XI (M ((x0 + 10990) + 14) (Int.toNat x1)), XI (M ((x0 + 10990) + 15) (Int.toNat x1))]) dX8_after_46 mlX8_287 mdX1_suffer mvX1_suffer rfl (sf_7_1 hx0) rfl (Nat.le_of_ble_eq_true rfl) (kX1_suffer (sf_7_1 hx0) hq5) rfl ?_
      obtain ⟨c6, h⟩ := chk_some h
      refine g_iinc (ls' := [(1, XI (x1 + 1)), (0, XR x0)]) 1 dX8_after_49 rfl rfl c6 (by decide) rfl ?_
      refine g_goto (tgt := 13) dX8_after_52 (by decide) ?_
      exact g_sub [1, 0] rfl (ih _ _ _ h K)
set_option maxRecDepth 20000 in
theorem kX8_after {X : XC} {d : Nat} {x0 : Nat} (hx0 : Sh x0 = (17, 10)) {M : Mem} {q : Int × Mem} (h : fX8_after x0 M = some q) : Ct X mX8_after (d + 6) [XR x0] M (pI q) := by
  unfold fX8_after at h
  refine ct_go (by decide +kernel) (Nat.le_of_ble_eq_true rfl) (ls := [(0, XR x0)]) rfl ?_
  refine g_aload_n 0 dX8_after_0 rfl ?_
  refine g_getR dX8_after_1 flX8_18 (by decide) rfl hx0 ?_
  refine g_aload_n 0 dX8_after_4 rfl ?_
  refine g_getR dX8_after_5 flX8_14 (by decide) rfl hx0 ?_
  obtain ⟨q1, hq1, h⟩ := bnd_some h
  refine v_V (ci := 1) (as := [XR (x0 + 10990)]) dX8_after_8 mlX8_253 mdX1_copyFrom mvX1_copyFrom rfl (sf_7_1 hx0) rfl (Nat.le_of_ble_eq_true rfl) (kX1_copyFrom (sf_7_1 hx0) (sf_7_0 hx0) hq1) rfl ?_
  refine g_iconst (v := 0) dX8_after_11 rfl (i32l rfl) ?_
  refine g_istore_n (ls' := [(1, XI 0), (0, XR x0)]) dX8_after_12 (by decide) rfl ?_
  obtain ⟨z7, hz7, h⟩ := bnd_some h
  refine g_sub (ls' := [(0, XR x0), (1, XI 0)]) [1, 0] rfl ?_
  refine lX8_after_l13 hx0 1000 _ _ _ hz7 ?_
  refine g_aload_n 0 dX8_after_55 rfl ?_
  obtain ⟨q8, hq8, h⟩ := bnd_some h
  refine v_I (ci := 7) (as := []) dX8_after_56 mlX8_256 mdX8_electedInThought mvX8_electedInThought rfl hx0 rfl (Nat.le_of_ble_eq_true rfl) (kX8_electedInThought hx0 hq8) rfl ?_
  cases h
  exact g_ireturn dX8_after_59 rfl ⟨rfl, rfl⟩
def fX8_feed (x0 : Nat) (x1 : Int) (M : Mem) : Option (Int × Mem) := (if x1 < 0 then some ((-2), M) else (if x1 ≤ 127 then (if (M (x0 + 200) 0) < 100 then if 0 ≤ (M (x0 + 200) 0) ∧ (M (x0 + 200) 0) < 100 then nm (wr M ((x0 + 200) + 2) (Int.toNat (M (x0 + 200) 0)) x1) (fun M5 => if -2147483648 ≤ ((M5 (x0 + 200) 0) + 1) ∧ ((M5 (x0 + 200) 0) + 1) ≤ 2147483647 then nm (wr M5 (x0 + 200) 0 ((M5 (x0 + 200) 0) + 1)) (fun M7 => some ((M7 (x0 + 200) 0), M7)) else none) else none else some ((-4), M)) else some ((-2), M)))
set_option maxRecDepth 20000 in
theorem kX8_feed {X : XC} {d : Nat} {x0 : Nat} {x1 : Int} (hx0 : Sh x0 = (17, 10)) {M : Mem} {q : Int × Mem} (h : fX8_feed x0 x1 M = some q) : Ct X mX8_feed d [XR x0, XI x1] M (pI q) := by
  unfold fX8_feed at h
  refine ct_go (by decide +kernel) (Nat.le_of_ble_eq_true rfl) (ls := [(0, XR x0), (1, XI x1)]) rfl ?_
  refine g_iload_n 1 dX8_feed_0 rfl ?_
  refine g_if_lt (tgt := 10) dX8_feed_1 (by decide) (fun b1 => ?_) (fun b1 => ?_)
  · replace h := ifp b1 h
    refine g_bip dX8_feed_10 rfl ?_
    cases h
    exact g_ireturn dX8_feed_12 rfl ⟨rfl, rfl⟩
  · replace h := ifn b1 h
    refine g_pc (pc' := 4) rfl ?_
    refine g_iload_n 1 dX8_feed_4 rfl ?_
    refine g_bip dX8_feed_5 rfl ?_
    refine g_icmp_le (tgt := 13) dX8_feed_7 (by decide) (fun b2 => ?_) (fun b2 => ?_)
    · replace h := ifp b2 h
      refine g_aload_n 0 dX8_feed_13 rfl ?_
      refine g_getR dX8_feed_14 flX8_46 (by decide) rfl hx0 ?_
      refine g_getI dX8_feed_17 flX8_290 (by decide) rfl (sf_7_7 hx0) ?_
      refine g_bip dX8_feed_20 rfl ?_
      refine g_icmp_lt (tgt := 28) dX8_feed_22 (by decide) (fun b3 => ?_) (fun b3 => ?_)
      · replace h := ifp b3 h
        refine g_aload_n 0 dX8_feed_28 rfl ?_
        refine g_getR dX8_feed_29 flX8_46 (by decide) rfl hx0 ?_
        refine g_getR dX8_feed_32 flX8_291 (by decide) rfl (sf_7_7 hx0) ?_
        refine g_aload_n 0 dX8_feed_35 rfl ?_
        refine g_getR dX8_feed_36 flX8_46 (by decide) rfl hx0 ?_
        refine g_getI dX8_feed_39 flX8_290 (by decide) rfl (sf_7_7 hx0) ?_
        refine g_iload_n 1 dX8_feed_42 rfl ?_
        obtain ⟨c4, h⟩ := chk_some h
        refine g_iast dX8_feed_43 (sf_5_1 (sf_7_7 hx0)) c4.1 c4.2 ?_
        refine g_nmM (fun M5 eM5 => ?_)
        replace h := nm_s eM5 h
        refine g_pc (pc' := 44) rfl ?_
        refine g_aload_n 0 dX8_feed_44 rfl ?_
        refine g_getR dX8_feed_45 flX8_46 (by decide) rfl hx0 ?_
        refine g_dupR dX8_feed_48 ?_
        refine g_getI dX8_feed_49 flX8_290 (by decide) rfl (sf_7_7 hx0) ?_
        refine g_iconst (v := 1) dX8_feed_52 rfl (i32l rfl) ?_
        obtain ⟨c6, h⟩ := chk_some h
        refine g_iadd dX8_feed_53 rfl c6 ?_
        refine g_putI dX8_feed_54 flX8_290 (by decide) rfl (sf_7_7 hx0) ?_
        refine g_nmM (fun M7 eM7 => ?_)
        replace h := nm_s eM7 h
        refine g_aload_n 0 dX8_feed_57 rfl ?_
        refine g_getR dX8_feed_58 flX8_46 (by decide) rfl hx0 ?_
        refine g_pc (pc' := 61) rfl ?_
        refine g_getI dX8_feed_61 flX8_290 (by decide) rfl (sf_7_7 hx0) ?_
        cases h
        exact g_ireturn dX8_feed_64 rfl ⟨rfl, rfl⟩
      · replace h := ifn b3 h
        refine g_pc (pc' := 25) rfl ?_
        refine g_bip dX8_feed_25 rfl ?_
        cases h
        exact g_ireturn dX8_feed_27 rfl ⟨rfl, rfl⟩
    · replace h := ifn b2 h
      refine g_pc (pc' := 10) rfl ?_
      refine g_bip dX8_feed_10 rfl ?_
      cases h
      exact g_ireturn dX8_feed_12 rfl ⟨rfl, rfl⟩
def fX8_isDone (x0 : Nat) (x1 : Int) (x2 : Int) (x3 : Int) (M : Mem) : Option (Int × Mem) := (if x1 = 98 then Option.bind (fX8_ballot x0 x2 x3 M) (fun q2 => Option.bind ((if q2.1 < 0 then some (0) else some (1)) : Option (Int)) (fun t4 => if t4 = 0 ∨ t4 = 1 then some (t4, q2.2) else none)) else if x1 = 99 then Option.bind (fX8_candidate x0 M) (fun q7 => Option.bind ((if q7.1 < 0 then some (0) else some (1)) : Option (Int)) (fun t9 => if t9 = 0 ∨ t9 = 1 then some (t9, q7.2) else none)) else if x1 = 103 then Option.bind (fX8_gone x0 x2 1 M) (fun q12 => Option.bind ((if q12.1 < 0 then some (0) else some (1)) : Option (Int)) (fun t14 => if t14 = 0 ∨ t14 = 1 then some (t14, q12.2) else none)) else if x1 = 108 then Option.bind (fX8_set x0 1 x2 M) (fun q17 => Option.bind ((if q17.1 < 0 then some (0) else some (1)) : Option (Int)) (fun t19 => if t19 = 0 ∨ t19 = 1 then some (t19, q17.2) else none)) else if x1 = 115 then Option.bind (fX8_set x0 0 x2 M) (fun q22 => Option.bind ((if q22.1 < 0 then some (0) else some (1)) : Option (Int)) (fun t24 => if t24 = 0 ∨ t24 = 1 then some (t24, q22.2) else none)) else some (0, M))
set_option maxRecDepth 20000 in
theorem kX8_isDone {X : XC} {d : Nat} {x0 : Nat} {x1 : Int} {x2 : Int} {x3 : Int} (hx0 : Sh x0 = (17, 10)) {M : Mem} {q : Int × Mem} (h : fX8_isDone x0 x1 x2 x3 M = some q) : Ct X mX8_isDone (d + 4) [XR x0, XI x1, XI x2, XI x3] M (pI q) := by
  unfold fX8_isDone at h
  refine ct_go (by decide +kernel) (Nat.le_of_ble_eq_true rfl) (ls := [(0, XR x0), (1, XI x1), (2, XI x2), (3, XI x3)]) rfl ?_
  refine g_iload_n 1 dX8_isDone_0 rfl ?_
  by_cases b1 : x1 = 98
  · replace h := ifp b1 h
    refine g_lsw (off := 64) (tgt := 65) dX8_isDone_1 (by decide) (by rw [b1]; rfl) (by decide) ?_
    refine g_aload_n 0 dX8_isDone_65 rfl ?_
    refine g_iload_n 2 dX8_isDone_66 rfl ?_
    refine g_iload_n 3 dX8_isDone_67 rfl ?_
    obtain ⟨q2, hq2, h⟩ := bnd_some h
    refine v_I (ci := 7) (as := [XI x2, XI x3]) dX8_isDone_68 mlX8_317 mdX8_ballot mvX8_ballot rfl hx0 rfl (Nat.le_of_ble_eq_true rfl) (kX8_ballot hx0 hq2) rfl ?_
    obtain ⟨t4, ht4, h⟩ := bnd_some h
    have Kt4 : Go X mX8_isDone (d + 4) 79 [] [XI t4] q2.2 (pI q) := by
      obtain ⟨cz, h⟩ := chk_some h
      cases h
      exact g_zreturn dX8_isDone_79 rfl cz ⟨rfl, rfl⟩
    refine g_if_lt (tgt := 78) dX8_isDone_71 (by decide) (fun b5 => ?_) (fun b5 => ?_)
    · replace ht4 := ifp b5 ht4
      refine g_iconst (v := 0) dX8_isDone_78 rfl (i32l rfl) ?_
      cases ht4
      exact g_sub [] rfl Kt4
    · replace ht4 := ifn b5 ht4
      refine g_pc (pc' := 74) rfl ?_
      refine g_iconst (v := 1) dX8_isDone_74 rfl (i32l rfl) ?_
      refine g_goto (tgt := 79) dX8_isDone_75 (by decide) ?_
      cases ht4
      exact g_sub [] rfl Kt4
  · replace h := ifn b1 h
    by_cases b6 : x1 = 99
    · replace h := ifp b6 h
      refine g_lsw (off := 51) (tgt := 52) dX8_isDone_1 (by decide) (by rw [b6]; rfl) (by decide) ?_
      refine g_aload_n 0 dX8_isDone_52 rfl ?_
      obtain ⟨q7, hq7, h⟩ := bnd_some h
      refine v_I (ci := 7) (as := []) dX8_isDone_53 mlX8_314 mdX8_candidate mvX8_candidate rfl hx0 rfl (Nat.le_of_ble_eq_true rfl) (kX8_candidate hx0 hq7) rfl ?_
      obtain ⟨t9, ht9, h⟩ := bnd_some h
      have Kt9 : Go X mX8_isDone (d + 4) 64 [] [XI t9] q7.2 (pI q) := by
        obtain ⟨cz, h⟩ := chk_some h
        cases h
        exact g_zreturn dX8_isDone_64 rfl cz ⟨rfl, rfl⟩
      refine g_if_lt (tgt := 63) dX8_isDone_56 (by decide) (fun b10 => ?_) (fun b10 => ?_)
      · replace ht9 := ifp b10 ht9
        refine g_iconst (v := 0) dX8_isDone_63 rfl (i32l rfl) ?_
        cases ht9
        exact g_sub [] rfl Kt9
      · replace ht9 := ifn b10 ht9
        refine g_pc (pc' := 59) rfl ?_
        refine g_iconst (v := 1) dX8_isDone_59 rfl (i32l rfl) ?_
        refine g_goto (tgt := 64) dX8_isDone_60 (by decide) ?_
        cases ht9
        exact g_sub [] rfl Kt9
    · replace h := ifn b6 h
      by_cases b11 : x1 = 103
      · replace h := ifp b11 h
        refine g_lsw (off := 109) (tgt := 110) dX8_isDone_1 (by decide) (by rw [b11]; rfl) (by decide) ?_
        refine g_aload_n 0 dX8_isDone_110 rfl ?_
        refine g_iload_n 2 dX8_isDone_111 rfl ?_
        refine g_iconst (v := 1) dX8_isDone_112 rfl (i32l rfl) ?_
        obtain ⟨q12, hq12, h⟩ := bnd_some h
        refine v_I (ci := 7) (as := [XI x2, XI 1]) dX8_isDone_113 mlX8_323 mdX8_gone mvX8_gone rfl hx0 rfl (Nat.le_of_ble_eq_true rfl) (kX8_gone hx0 hq12) rfl ?_
        obtain ⟨t14, ht14, h⟩ := bnd_some h
        have Kt14 : Go X mX8_isDone (d + 4) 124 [] [XI t14] q12.2 (pI q) := by
          obtain ⟨cz, h⟩ := chk_some h
          cases h
          exact g_zreturn dX8_isDone_124 rfl cz ⟨rfl, rfl⟩
        refine g_if_lt (tgt := 123) dX8_isDone_116 (by decide) (fun b15 => ?_) (fun b15 => ?_)
        · replace ht14 := ifp b15 ht14
          refine g_iconst (v := 0) dX8_isDone_123 rfl (i32l rfl) ?_
          cases ht14
          exact g_sub [] rfl Kt14
        · replace ht14 := ifn b15 ht14
          refine g_pc (pc' := 119) rfl ?_
          refine g_iconst (v := 1) dX8_isDone_119 rfl (i32l rfl) ?_
          refine g_goto (tgt := 124) dX8_isDone_120 (by decide) ?_
          cases ht14
          exact g_sub [] rfl Kt14
      · replace h := ifn b11 h
        by_cases b16 : x1 = 108
        · replace h := ifp b16 h
          refine g_lsw (off := 94) (tgt := 95) dX8_isDone_1 (by decide) (by rw [b16]; rfl) (by decide) ?_
          refine g_aload_n 0 dX8_isDone_95 rfl ?_
          refine g_iconst (v := 1) dX8_isDone_96 rfl (i32l rfl) ?_
          refine g_iload_n 2 dX8_isDone_97 rfl ?_
          obtain ⟨q17, hq17, h⟩ := bnd_some h
          refine v_I (ci := 7) (as := [XI 1, XI x2]) dX8_isDone_98 mlX8_320 mdX8_set mvX8_set rfl hx0 rfl (Nat.le_of_ble_eq_true rfl) (kX8_set hx0 hq17) rfl ?_
          obtain ⟨t19, ht19, h⟩ := bnd_some h
          have Kt19 : Go X mX8_isDone (d + 4) 109 [] [XI t19] q17.2 (pI q) := by
            obtain ⟨cz, h⟩ := chk_some h
            cases h
            exact g_zreturn dX8_isDone_109 rfl cz ⟨rfl, rfl⟩
          refine g_if_lt (tgt := 108) dX8_isDone_101 (by decide) (fun b20 => ?_) (fun b20 => ?_)
          · replace ht19 := ifp b20 ht19
            refine g_iconst (v := 0) dX8_isDone_108 rfl (i32l rfl) ?_
            cases ht19
            exact g_sub [] rfl Kt19
          · replace ht19 := ifn b20 ht19
            refine g_pc (pc' := 104) rfl ?_
            refine g_iconst (v := 1) dX8_isDone_104 rfl (i32l rfl) ?_
            refine g_goto (tgt := 109) dX8_isDone_105 (by decide) ?_
            cases ht19
            exact g_sub [] rfl Kt19
        · replace h := ifn b16 h
          by_cases b21 : x1 = 115
          · replace h := ifp b21 h
            refine g_lsw (off := 79) (tgt := 80) dX8_isDone_1 (by decide) (by rw [b21]; rfl) (by decide) ?_
            refine g_aload_n 0 dX8_isDone_80 rfl ?_
            refine g_iconst (v := 0) dX8_isDone_81 rfl (i32l rfl) ?_
            refine g_iload_n 2 dX8_isDone_82 rfl ?_
            obtain ⟨q22, hq22, h⟩ := bnd_some h
            refine v_I (ci := 7) (as := [XI 0, XI x2]) dX8_isDone_83 mlX8_320 mdX8_set mvX8_set rfl hx0 rfl (Nat.le_of_ble_eq_true rfl) (kX8_set hx0 hq22) rfl ?_
            obtain ⟨t24, ht24, h⟩ := bnd_some h
            have Kt24 : Go X mX8_isDone (d + 4) 94 [] [XI t24] q22.2 (pI q) := by
              obtain ⟨cz, h⟩ := chk_some h
              cases h
              exact g_zreturn dX8_isDone_94 rfl cz ⟨rfl, rfl⟩
            refine g_if_lt (tgt := 93) dX8_isDone_86 (by decide) (fun b25 => ?_) (fun b25 => ?_)
            · replace ht24 := ifp b25 ht24
              refine g_iconst (v := 0) dX8_isDone_93 rfl (i32l rfl) ?_
              cases ht24
              exact g_sub [] rfl Kt24
            · replace ht24 := ifn b25 ht24
              refine g_pc (pc' := 89) rfl ?_
              refine g_iconst (v := 1) dX8_isDone_89 rfl (i32l rfl) ?_
              refine g_goto (tgt := 94) dX8_isDone_90 (by decide) ?_
              cases ht24
              exact g_sub [] rfl Kt24
          · replace h := ifn b21 h
            refine g_lsw (off := 124) (tgt := 125) dX8_isDone_1 (by decide) (by simp [Op.lookupswitch.offset, Ne.symm b1, b1, Ne.symm b6, b6, Ne.symm b11, b11, Ne.symm b16, b16, Ne.symm b21, b21]) (by decide) ?_
            refine g_iconst (v := 0) dX8_isDone_125 rfl (i32l rfl) ?_
            cases h
            exact g_zreturn dX8_isDone_126 rfl (by decide) ⟨rfl, rfl⟩
end
