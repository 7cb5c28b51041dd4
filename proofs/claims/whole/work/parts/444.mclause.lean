section
/-! a clause read by the other one -/
def RM (j a : Nat) (M : Mem) : CL → Prop
  | .inl r => M 20000 48 = r.1 ∧ M 20000 51 = bz r.2 ∧ M 20000 49 = j ∧ M 20000 50 = a
  | .inr r => M 20000 48 = -1 ∧ M 20000 47 = r.1 ∧ M 20000 49 = (j : Int) + 1 ∧ ClM M j r.2
def clK (x : Nat × Vec) (kd : Int) (a : Nat) : CL := if kd = 99 then .inr (a + 1, 99, 0, 0) else if kd = 98 then clB x a else cl1 x kd (if kd = 108 then 9 else 1) a
theorem mpiece_ok {x : Nat × Vec} (hl : x.1 ≤ 100) {a j : Nat} {kd : Int} {M0 M : Mem} (hT : TXm M 20000 x) (ha : M 20000 47 = a) (hb : M 20000 48 = -1) (hj : M 20000 49 = j) (hj12 : j < 12) (h2 : a ≤ 100) (h50 : M 20000 50 = a) (hF : FmR j M0 M) : Ok (if -2147483648 ≤ ((M 20000 47) + 1) ∧ ((M 20000 47) + 1) ≤ 2147483647 then nm (wr M 20000 47 ((M 20000 47) + 1)) (fun M6 => if 0 ≤ (M6 20000 49) ∧ (M6 20000 49) < 12 then nm (wr M6 20053 (Int.toNat (M6 20000 49)) kd) (fun M8 => (if kd = 98 then Option.bind (fX9_numberRead 20000 8 M8) (fun q32 => if 0 ≤ (M8 20000 49) ∧ (M8 20000 49) < 12 then nm (wr q32.2 20054 (Int.toNat (M8 20000 49)) q32.1) (fun M34 => Option.bind ((if 0 ≤ (M34 20000 48) then some (M34) else Option.bind (fX9_signAt 20000 (M34 20000 47) M34) (fun q41 => (if q41.1 = 42 then some (q41.2) else Option.bind (fX9_fails 20000 0 q41.2) (fun q43 => some (q43.2))))) : Option (Mem)) (fun t39 => (if (t39 20000 48) < 0 then if -2147483648 ≤ ((t39 20000 47) + 1) ∧ ((t39 20000 47) + 1) ≤ 2147483647 then nm (wr t39 20000 47 ((t39 20000 47) + 1)) (fun M46 => Option.bind (fX9_numberRead 20000 7 M46) (fun q47 => if 0 ≤ (M46 20000 49) ∧ (M46 20000 49) < 12 then nm (wr q47.2 20055 (Int.toNat (M46 20000 49)) q47.1) (fun M49 => Option.bind ((if 0 ≤ (M49 20000 48) then some (M49) else if -2147483648 ≤ ((M49 20000 49) + 1) ∧ ((M49 20000 49) + 1) ≤ 2147483647 then nm (wr M49 20000 49 ((M49 20000 49) + 1)) (fun M56 => some (M56)) else none) : Option (Mem)) (fun t53 => some ((0 : Int), t53))) else none)) else none else some ((0 : Int), t39)))) else none) else Option.bind ((if kd = 99 then some (M8) else Option.bind ((if kd = 108 then some (9) else some (1)) : Option (Int)) (fun t20 => Option.bind (fX9_numberRead 20000 t20 M8) (fun q22 => if 0 ≤ (M8 20000 49) ∧ (M8 20000 49) < 12 then nm (wr q22.2 20054 (Int.toNat (M8 20000 49)) q22.1) (fun M24 => some (M24)) else none))) : Option (Mem)) (fun t17 => Option.bind ((if 0 ≤ (t17 20000 48) then some (t17) else if -2147483648 ≤ ((t17 20000 49) + 1) ∧ ((t17 20000 49) + 1) ≤ 2147483647 then nm (wr t17 20000 49 ((t17 20000 49) + 1)) (fun M31 => some (M31)) else none) : Option (Mem)) (fun t28 => some ((0 : Int), t28))))) else none) else none) (fun q => RM j a q.2 (clK x kd a) ∧ FmR j M0 q.2) := by
  rw [ha]
  have e49 : wr M 20000 47 ((a : Int) + 1) 20000 49 = j := by rw [wrk _ (by decide)]; exact hj
  refine ok_chk (by omega) (ok_nm0 ?_)
  simp only [e49, tn]
  refine ok_chk (by omega) (ok_nm0 ?_)
  generalize hM8 : wr (wr M 20000 47 ((a : Int) + 1)) 20053 j kd = M8
  have T8 : TXm M8 20000 x := by subst hM8; exact (hT.w _ (by decide) (fun _ => by decide)).w _ (by decide) (fun h => absurd h (by decide))
  have F8 : FmR j M0 M8 := by subst hM8; exact (hF.w _ (by omega)).w _ (by omega)
  have a8 : M8 20000 47 = ((a + 1 : Nat) : Int) := by subst hM8; rw [wrn (by decide), wra]; omega
  have b8 : M8 20000 48 = -1 := by subst hM8; rw [wrn (by decide), wrk _ (by decide)]; exact hb
  have j8 : M8 20000 49 = j := by subst hM8; rw [wrn (by decide)]; exact e49
  have c8 : M8 20000 50 = a := by subst hM8; rw [wrn (by decide), wrk _ (by decide)]; exact h50
  have k8 : M8 20053 j = kd := by subst hM8; rw [wra]
  simp only [j8, tn]
  by_cases k98 : kd = 98
  · have eK : clK x kd a = clB x a := by unfold clK; rw [if_neg (show ¬ (kd = 99) by omega), if_pos k98]
    rw [eK]
    refine ok_if k98 (ok_bs (mnumber_ok (m := 8) (a := a + 1) hl T8 a8 b8 (by omega) (by omega)) (ok_chk (by omega) (ok_nm0 ?_)))
    dsimp only
    unfold clB nmM
    have r1 := rdN_le x 8 (a + 1) 0
    generalize rdN x 8 (a + 1) 0 = R at *
    by_cases e : R.2 = a + 1
    · simp only [if_pos e]
      have e48 : wr (wr (wr M8 20000 48 ((a + 1 : Nat) : Int)) 20000 51 1) 20054 j R.1 20000 48 = ((a + 1 : Nat) : Int) := by rw [wrn (by decide), wrk _ (by decide), wra]
      refine ok_bi (ok_if (by rw [e48]; omega) (ok_some (ok_el (by rw [e48]; omega) (ok_some ⟨⟨by (try dsimp only); rw [e48], ?_, ?_, ?_⟩, ((F8.w _ (by omega)).w _ (by omega)).w _ (by omega)⟩))))
      · (try dsimp only)
        rw [wrn (by decide), wra]; rfl
      · (try dsimp only)
        rw [wrn (by decide), wrk _ (by decide), wrk _ (by decide)]; exact j8
      · (try dsimp only)
        rw [wrn (by decide), wrk _ (by decide), wrk _ (by decide)]; exact c8
    · simp only [if_neg e]
      generalize hM9 : wr (wr M8 20000 47 (R.2 : Nat)) 20054 j R.1 = M9
      have T9 : TXm M9 20000 x := by subst hM9; exact (T8.w _ (by decide) (fun _ => by decide)).w _ (by decide) (fun h => absurd h (by decide))
      have F9 : FmR j M0 M9 := by subst hM9; exact (F8.w _ (by omega)).w _ (by omega)
      have a9 : M9 20000 47 = (R.2 : Nat) := by subst hM9; rw [wrn (by decide), wra]
      have b9 : M9 20000 48 = -1 := by subst hM9; rw [wrn (by decide), wrk _ (by decide)]; exact b8
      have j9 : M9 20000 49 = j := by subst hM9; rw [wrn (by decide), wrk _ (by decide)]; exact j8
      have c9 : M9 20000 50 = a := by subst hM9; rw [wrn (by decide), wrk _ (by decide)]; exact c8
      have k9 : M9 20053 j = kd := by subst hM9; rw [wrn (by decide), wrn (by decide)]; exact k8
      have v9 : M9 20054 j = R.1 := by subst hM9; rw [wra]
      simp only [a9]
      refine ok_bi (ok_el (by rw [b9]; decide) (ok_bs (msign_ok T9 hl) ?_))
      dsimp only
      by_cases c42 : sg x R.2 = 42
      · have hlt := sg_lt (x := x) (a := R.2) (by omega)
        have e49' : wr M9 20000 47 ((R.2 : Int) + 1) 20000 49 = j := by rw [wrk _ (by decide)]; exact j9
        refine ok_if c42 (ok_some (ok_if (by rw [b9]; decide) ?_))
        rw [if_pos c42]
        simp only [a9]
        refine ok_chk (by omega) (ok_nm0 (ok_bs (mnumber_ok (m := 7) (a := R.2 + 1) hl (T9.w _ (by decide) (fun _ => by decide)) (by rw [wra]; omega) (by rw [wrk _ (by decide)]; exact b9) (by omega) (by omega)) ?_))
        dsimp only
        simp only [e49', tn]
        refine ok_chk (by omega) (ok_nm0 ?_)
        unfold nmM
        by_cases e2 : (rdN x 7 (R.2 + 1) 0).2 = R.2 + 1
        · simp only [if_pos e2]
          have e48 : ∀ v, wr (wr (wr (wr M9 20000 47 ((R.2 : Int) + 1)) 20000 48 ((R.2 + 1 : Nat) : Int)) 20000 51 1) 20055 j v 20000 48 = ((R.2 + 1 : Nat) : Int) := fun v => by rw [wrn (by decide), wrk _ (by decide), wra]
          refine ok_bi (ok_if (by rw [e48]; omega) (ok_some (ok_some ⟨⟨by (try dsimp only); rw [e48], ?_, ?_, ?_⟩, (((F9.w _ (by omega)).w _ (by omega)).w _ (by omega)).w _ (by omega)⟩)))
          · (try dsimp only)
            rw [wrn (by decide), wra]; rfl
          · (try dsimp only)
            rw [wrn (by decide), wrk _ (by decide), wrk _ (by decide)]; exact e49'
          · (try dsimp only)
            rw [wrn (by decide), wrk _ (by decide), wrk _ (by decide), wrk _ (by decide)]; exact c9
        · simp only [if_neg e2]
          generalize hMA : wr (wr (wr M9 20000 47 ((R.2 : Int) + 1)) 20000 47 ((rdN x 7 (R.2 + 1) 0).2 : Nat)) 20055 j (rdN x 7 (R.2 + 1) 0).1 = MA
          have FA : FmR j M0 MA := by subst hMA; exact ((F9.w _ (by omega)).w _ (by omega)).w _ (by omega)
          have bA : MA 20000 48 = -1 := by subst hMA; rw [wrn (by decide), wrk _ (by decide), wrk _ (by decide)]; exact b9
          have jA : MA 20000 49 = j := by subst hMA; rw [wrn (by decide), wrk _ (by decide)]; exact e49'
          simp only [jA]
          refine ok_bi (ok_el (by rw [bA]; decide) (ok_chk (by omega) (ok_nm0 (ok_some (ok_some ⟨⟨?_, ?_, ?_, ?_, fun _ => ?_, fun _ => ?_⟩, FA.w _ (by omega)⟩)))))
          · (try dsimp only)
            rw [wrk _ (by decide)]; exact bA
          · (try dsimp only)
            rw [wrk _ (by decide)]; subst hMA; rw [wrn (by decide), wra]
          · (try dsimp only)
            rw [wra]
          · (try dsimp only)
            rw [wrn (by decide)]; subst hMA; rw [wrn (by decide), wrn (by decide), wrn (by decide), k9, k98]
          · (try dsimp only)
            rw [wrn (by decide)]; subst hMA; rw [wrn (by decide), wrn (by decide), wrn (by decide), v9]
          · (try dsimp only)
            rw [wrn (by decide)]; subst hMA; rw [wra]
      · unfold fX9_fails
        refine ok_el c42 ?_
        rw [if_neg c42]
        refine (ok_bind (ok_if (by rw [b9]; decide) (ok_nm0 (ok_chk (Or.inl rfl) (ok_some (ok_some ?_))))))
        simp only [a9]
        have e48 : wr (wr M9 20000 48 (R.2 : Nat)) 20000 51 0 20000 48 = (R.2 : Nat) := by rw [wrk _ (by decide), wra]
        refine ok_el (by rw [e48]; omega) (ok_some ⟨⟨by (try dsimp only); rw [e48], ?_, ?_, ?_⟩, (F9.w _ (by omega)).w _ (by omega)⟩)
        · (try dsimp only)
          rw [wra]; rfl
        · (try dsimp only)
          rw [wrk _ (by decide), wrk _ (by decide)]; exact j9
        · (try dsimp only)
          rw [wrk _ (by decide), wrk _ (by decide)]; exact c9
  · refine ok_el k98 ?_
    by_cases k99 : kd = 99
    · have eK : clK x kd a = .inr (a + 1, 99, 0, 0) := by unfold clK; rw [if_pos k99]
      rw [eK]
      refine ok_bi (ok_if k99 (ok_some ?_))
      simp only [j8]
      refine ok_bi (ok_el (by rw [b8]; decide) (ok_chk (by omega) (ok_nm0 (ok_some (ok_some ⟨⟨?_, ?_, ?_, ?_, fun h => absurd rfl h, fun h => absurd h (show ¬ ((99 : Int) = 98) by decide)⟩, F8.w _ (by omega)⟩)))))
      · (try dsimp only)
        rw [wrk _ (by decide)]; exact b8
      · (try dsimp only)
        rw [wrk _ (by decide)]; exact a8
      · (try dsimp only)
        rw [wra]
      · (try dsimp only)
        rw [wrn (by decide), k8, k99]
    · refine ok_bi (ok_el k99 ?_)
      have key : ∀ (m : Nat), m ≤ 9 → Ok (Option.bind (fX9_numberRead 20000 m M8) (fun q22 => if 0 ≤ (j : Int) ∧ (j : Int) < 12 then nm (wr q22.2 20054 j q22.1) (fun M24 => some (M24)) else none)) (fun t17 => Ok (Option.bind ((if 0 ≤ (t17 20000 48) then some (t17) else if -2147483648 ≤ ((t17 20000 49) + 1) ∧ ((t17 20000 49) + 1) ≤ 2147483647 then nm (wr t17 20000 49 ((t17 20000 49) + 1)) (fun M31 => some (M31)) else none) : Option (Mem)) (fun t28 => some ((0 : Int), t28))) (fun q => RM j a q.2 (cl1 x kd m a) ∧ FmR j M0 q.2)) := fun m hm => by
        refine ok_bs (mnumber_ok (m := m) (a := a + 1) hl T8 a8 b8 (by omega) hm) (ok_chk (by omega) (ok_nm0 (ok_some ?_)))
        dsimp only
        unfold cl1 nmM
        generalize rdN x m (a + 1) 0 = R at *
        by_cases e : R.2 = a + 1
        · simp only [if_pos e]
          have e48 : wr (wr (wr M8 20000 48 ((a + 1 : Nat) : Int)) 20000 51 1) 20054 j R.1 20000 48 = ((a + 1 : Nat) : Int) := by rw [wrn (by decide), wrk _ (by decide), wra]
          refine ok_bi (ok_if (by rw [e48]; omega) (ok_some (ok_some ⟨⟨by (try dsimp only); rw [e48], ?_, ?_, ?_⟩, ((F8.w _ (by omega)).w _ (by omega)).w _ (by omega)⟩)))
          · (try dsimp only)
            rw [wrn (by decide), wra]; rfl
          · (try dsimp only)
            rw [wrn (by decide), wrk _ (by decide), wrk _ (by decide)]; exact j8
          · (try dsimp only)
            rw [wrn (by decide), wrk _ (by decide), wrk _ (by decide)]; exact c8
        · simp only [if_neg e]
          generalize hMA : wr (wr M8 20000 47 (R.2 : Nat)) 20054 j R.1 = MA
          have FA : FmR j M0 MA := by subst hMA; exact (F8.w _ (by omega)).w _ (by omega)
          have bA : MA 20000 48 = -1 := by subst hMA; rw [wrn (by decide), wrk _ (by decide)]; exact b8
          have jA : MA 20000 49 = j := by subst hMA; rw [wrn (by decide), wrk _ (by decide)]; exact j8
          simp only [jA]
          refine ok_bi (ok_el (by rw [bA]; decide) (ok_chk (by omega) (ok_nm0 (ok_some (ok_some ⟨⟨?_, ?_, ?_, ?_, fun _ => ?_, fun h => absurd h k98⟩, FA.w _ (by omega)⟩)))))
          · (try dsimp only)
            rw [wrk _ (by decide)]; exact bA
          · (try dsimp only)
            rw [wrk _ (by decide)]; subst hMA; rw [wrn (by decide), wra]
          · (try dsimp only)
            rw [wra]
          · (try dsimp only)
            rw [wrn (by decide)]; subst hMA; rw [wrn (by decide), wrn (by decide), k8]
          · (try dsimp only)
            rw [wrn (by decide)]; subst hMA; rw [wra]
      by_cases k108 : kd = 108
      · have eK : clK x kd a = cl1 x kd 9 a := by unfold clK; rw [if_neg k99, if_neg k98, if_pos k108]
        rw [eK]
        exact ok_bi (ok_if k108 (ok_some (key 9 (by omega))))
      · have eK : clK x kd a = cl1 x kd 1 a := by unfold clK; rw [if_neg k99, if_neg k98, if_neg k108]
        rw [eK]
        exact ok_bi (ok_el k108 (ok_some (key 1 (by omega))))
theorem clauseRead_ok {x : Nat × Vec} (hl : x.1 ≤ 100) {a j : Nat} {M : Mem} (hT : TXm M 20000 x) (ha : M 20000 47 = a) (hb : M 20000 48 = -1) (hj : M 20000 49 = j) (hj12 : j < 12) (h2 : a ≤ 100) : Ok (fX9_clauseRead 20000 M) (fun q => RM j a q.2 (cl x a) ∧ FmR j M q.2) := by
  unfold fX9_clauseRead
  simp only [Nat.reduceAdd]
  have T1 : TXm (wr M 20000 50 a) 20000 x := hT.w _ (by decide) (fun _ => by decide)
  have a1 : wr M 20000 50 (a : Int) 20000 47 = a := by rw [wrk _ (by decide)]; exact ha
  have b1 : wr M 20000 50 (a : Int) 20000 48 = -1 := by rw [wrk _ (by decide)]; exact hb
  have j1 : wr M 20000 50 (a : Int) 20000 49 = j := by rw [wrk _ (by decide)]; exact hj
  have c1 : wr M 20000 50 (a : Int) 20000 50 = a := by rw [wra]
  have F1 : FmR j M (wr M 20000 50 (a : Int)) := (FmR.refl j M).w _ (by omega)
  simp only [ha]
  refine ok_nm0 (ok_bs (q := (sg x a, wr M 20000 50 (a : Int))) (by rw [a1]; exact msign_ok T1 hl) (ok_nm0 ?_))
  dsimp only
  have key := fun kd => mpiece_ok (kd := kd) hl T1 a1 b1 j1 hj12 h2 c1 F1
  by_cases k99 : sg x a = 99
  · have ecl : cl x a = .inr (a + 1, 99, 0, 0) := by unfold cl; rw [if_pos k99]
    rw [ecl]
    refine ok_if k99 ((key (sg x a)).mono (fun q hq => ?_))
    unfold clK at hq
    rw [if_pos k99] at hq
    exact hq
  · refine ok_el k99 ?_
    by_cases k98 : sg x a = 98
    · have ecl : cl x a = clB x a := by unfold cl; rw [if_neg k99, if_pos k98]
      rw [ecl]
      refine ok_if k98 ((key (sg x a)).mono (fun q hq => ?_))
      unfold clK at hq
      rw [if_neg k99, if_pos k98] at hq
      exact hq
    · refine ok_el k98 ?_
      by_cases k115 : sg x a = 115
      · have ecl : cl x a = cl1 x 115 1 a := by unfold cl; rw [if_neg k99, if_neg k98, if_pos k115]
        rw [ecl]
        refine ok_if k115 ((key (sg x a)).mono (fun q hq => ?_))
        unfold clK at hq
        rw [if_neg k99, if_neg k98, if_neg (show ¬ (sg x a = 108) by omega), k115] at hq
        exact hq
      · refine ok_el k115 ?_
        by_cases k108 : sg x a = 108
        · have ecl : cl x a = cl1 x 108 9 a := by unfold cl; rw [if_neg k99, if_neg k98, if_neg k115, if_pos k108]
          rw [ecl]
          refine ok_if k108 ((key (sg x a)).mono (fun q hq => ?_))
          unfold clK at hq
          rw [if_neg k99, if_neg k98, if_pos k108, k108] at hq
          exact hq
        · refine ok_el k108 ?_
          by_cases k103 : sg x a = 103
          · have ecl : cl x a = cl1 x 103 1 a := by unfold cl; rw [if_neg k99, if_neg k98, if_neg k115, if_neg k108, if_pos k103]
            rw [ecl]
            refine ok_if k103 ((key (sg x a)).mono (fun q hq => ?_))
            unfold clK at hq
            rw [if_neg k99, if_neg k98, if_neg k108, k103] at hq
            exact hq
          · have ecl : cl x a = .inl (a, false) := by unfold cl; rw [if_neg k99, if_neg k98, if_neg k115, if_neg k108, if_neg k103]
            rw [ecl]
            unfold fX9_fails
            refine ok_el k103 (ok_bind (ok_if (by rw [b1]; decide) (ok_nm0 (ok_chk (Or.inl rfl) (ok_some (ok_some ?_))))))
            simp only [a1]
            refine ⟨⟨?_, ?_, ?_, ?_⟩, (F1.w _ (by omega)).w _ (by omega)⟩
            · (try dsimp only)
              rw [wrk _ (by decide), wra]
            · (try dsimp only)
              rw [wra]; rfl
            · (try dsimp only)
              rw [wrk _ (by decide), wrk _ (by decide)]; exact j1
            · (try dsimp only)
              rw [wrk _ (by decide), wrk _ (by decide)]; exact c1
end
