section
/-! a clause of the text -/
abbrev CL : Type := (Nat × Bool) ⊕ (Nat × Int × Int × Int)
def cl1 (x : Nat × Vec) (kd : Int) (m a : Nat) : CL := if (rdN x m (a + 1) 0).2 = a + 1 then .inl (a + 1, true) else .inr ((rdN x m (a + 1) 0).2, kd, (rdN x m (a + 1) 0).1, 0)
def clB (x : Nat × Vec) (a : Nat) : CL := if (rdN x 8 (a + 1) 0).2 = a + 1 then .inl (a + 1, true) else if sg x (rdN x 8 (a + 1) 0).2 = 42 then (if (rdN x 7 ((rdN x 8 (a + 1) 0).2 + 1) 0).2 = (rdN x 8 (a + 1) 0).2 + 1 then .inl ((rdN x 8 (a + 1) 0).2 + 1, true) else .inr ((rdN x 7 ((rdN x 8 (a + 1) 0).2 + 1) 0).2, 98, (rdN x 8 (a + 1) 0).1, (rdN x 7 ((rdN x 8 (a + 1) 0).2 + 1) 0).1)) else .inl ((rdN x 8 (a + 1) 0).2, false)
def cl (x : Nat × Vec) (a : Nat) : CL := if sg x a = 99 then .inr (a + 1, 99, 0, 0) else if sg x a = 98 then clB x a else if sg x a = 115 then cl1 x 115 1 a else if sg x a = 108 then cl1 x 108 9 a else if sg x a = 103 then cl1 x 103 1 a else .inl (a, false)
def bz (l : Bool) : Int := if l = true then 1 else 0
def ClC (M : Mem) (j : Nat) (c : Int × Int × Int) : Prop := M 214 j = c.1 ∧ (c.1 ≠ 99 → M 215 j = c.2.1) ∧ (c.1 = 98 → M 216 j = c.2.2)
def ClM (M : Mem) (j : Nat) (c : Int × Int × Int) : Prop := M 20053 j = c.1 ∧ (c.1 ≠ 99 → M 20054 j = c.2.1) ∧ (c.1 = 98 → M 20055 j = c.2.2)
def FcR (j : Nat) (M M' : Mem) : Prop := M' 210 0 = M 210 0 ∧ M' 210 2 = M 210 2 ∧ (∀ i, i ≠ j → M' 214 i = M 214 i ∧ M' 215 i = M 215 i ∧ M' 216 i = M 216 i) ∧ ∀ b, b ≠ 210 → b ≠ 214 → b ≠ 215 → b ≠ 216 → M' b = M b
theorem FcR.w {j : Nat} {M M' : Mem} (h : FcR j M M') {a k : Nat} (v : Int) (ha : (a = 210 ∧ k ≠ 0 ∧ k ≠ 2) ∨ ((a = 214 ∨ a = 215 ∨ a = 216) ∧ k = j)) : FcR j M (wr M' a k v) := by
  obtain ⟨h1, h2, h3, h4⟩ := h
  refine ⟨?_, ?_, fun i hi => ?_, fun b b1 b2 b3 b4 => ?_⟩
  · rw [← h1]; simp only [wr]; rw [if_neg (by omega)]
  · rw [← h2]; simp only [wr]; rw [if_neg (by omega)]
  · rw [← (h3 i hi).1, ← (h3 i hi).2.1, ← (h3 i hi).2.2]
    simp only [wr]
    rw [if_neg (by omega), if_neg (by omega), if_neg (by omega)]
    exact ⟨rfl, rfl, rfl⟩
  · rw [wrn (by omega)]; exact h4 b b1 b2 b3 b4
def FmR (j : Nat) (M M' : Mem) : Prop := (∀ k, k ≠ 47 → k ≠ 48 → k ≠ 49 → k ≠ 50 → k ≠ 51 → M' 20000 k = M 20000 k) ∧ (∀ i, i ≠ j → M' 20053 i = M 20053 i ∧ M' 20054 i = M 20054 i ∧ M' 20055 i = M 20055 i) ∧ ∀ b, b ≠ 20000 → b ≠ 20053 → b ≠ 20054 → b ≠ 20055 → M' b = M b
theorem FmR.w {j : Nat} {M M' : Mem} (h : FmR j M M') {a k : Nat} (v : Int) (ha : (a = 20000 ∧ (k = 47 ∨ k = 48 ∨ k = 49 ∨ k = 50 ∨ k = 51)) ∨ ((a = 20053 ∨ a = 20054 ∨ a = 20055) ∧ k = j)) : FmR j M (wr M' a k v) := by
  obtain ⟨h1, h3, h4⟩ := h
  refine ⟨fun i i1 i2 i3 i4 i5 => ?_, fun i hi => ?_, fun b b1 b2 b3 b4 => ?_⟩
  · rw [← h1 i i1 i2 i3 i4 i5]; simp only [wr]; rw [if_neg (by omega)]
  · rw [← (h3 i hi).1, ← (h3 i hi).2.1, ← (h3 i hi).2.2]
    simp only [wr]
    rw [if_neg (by omega), if_neg (by omega), if_neg (by omega)]
    exact ⟨rfl, rfl, rfl⟩
  · rw [wrn (by omega)]; exact h4 b b1 b2 b3 b4
theorem FcR.refl (j : Nat) (M : Mem) : FcR j M M := ⟨rfl, rfl, fun _ _ => ⟨rfl, rfl, rfl⟩, fun _ _ _ _ _ => rfl⟩
theorem FmR.refl (j : Nat) (M : Mem) : FmR j M M := ⟨fun _ _ _ _ _ _ => rfl, fun _ _ => ⟨rfl, rfl, rfl⟩, fun _ _ _ _ _ => rfl⟩
def RC (j : Nat) (q : Int × Mem) : CL → Prop
  | .inl r => q.1 = 0 ∧ q.2 210 6 = r.1 ∧ q.2 210 7 = bz r.2
  | .inr r => q.1 = 1 ∧ q.2 210 6 = r.1 ∧ ClC q.2 j r.2
theorem one_ok {x : Nat × Vec} (hl : x.1 ≤ 100) {m a j : Nat} {kd : Int} {M0 M : Mem} (hm : m ≤ 9) (hT : TXc M x) (ha : M 210 6 = a) (h2 : a ≤ 100) (hj : j < 12) (hk : M 214 j = kd) (h98 : kd ≠ 98) (hF : FcR j M0 M) : Ok (if -2147483648 ≤ ((M 210 6) + 1) ∧ ((M 210 6) + 1) ≤ 2147483647 then nm (wr M 210 6 ((M 210 6) + 1)) (fun M15 => Option.bind (fX6_number 210 m M15) (fun q16 => if 0 ≤ (j : Int) ∧ (j : Int) < 12 then nm (wr q16.2 215 (Int.toNat j) q16.1) (fun M18 => Option.bind ((if (M18 210 7) = 0 then some (1) else some (0)) : Option (Int)) (fun t20 => if t20 = 0 ∨ t20 = 1 then some (t20, M18) else none)) else none)) else none) (fun q => RC j q (cl1 x kd m a) ∧ FcR j M0 q.2) := by
  rw [ha]
  refine ok_chk (by omega) (ok_nm0 (ok_bs (number_ok (m := m) (a := a + 1) hl (hT.w _ (by decide) (fun _ => by decide)) (by rw [wra]; omega) (by omega) hm) (ok_chk (by omega) (ok_nm0 ?_))))
  dsimp only
  simp only [tn]
  have e7 : ∀ v, wr (wr (wr (wr M 210 6 ((a : Int) + 1)) 210 6 ((rdN x m (a + 1) 0).2 : Nat)) 210 7 (lk x m (a + 1))) 215 j v 210 7 = lk x m (a + 1) := fun v => by rw [wrn (by decide), wra]
  have fr : ∀ v w, FcR j M0 (wr (wr (wr (wr M 210 6 ((a : Int) + 1)) 210 6 ((rdN x m (a + 1) 0).2 : Nat)) 210 7 w) 215 j v) := fun v w => (((hF.w _ (by omega)).w _ (by omega)).w _ (by omega)).w _ (by omega)
  unfold cl1
  by_cases e : (rdN x m (a + 1) 0).2 = a + 1
  · rw [if_pos e]
    refine ok_bi (ok_el (by rw [e7]; unfold lk; rw [if_pos e]; decide) (ok_some (ok_chk (by omega) (ok_some ⟨⟨rfl, ?_, ?_⟩, fr _ _⟩))))
    · (try dsimp only)
      rw [wrn (by decide), wrk _ (by decide), wra, e]
    · (try dsimp only)
      rw [wrn (by decide), wra]; unfold lk; rw [if_pos e]; rfl
  · rw [if_neg e]
    refine ok_bi (ok_if (by rw [e7]; unfold lk; rw [if_neg e]) (ok_some (ok_chk (by omega) (ok_some ⟨⟨rfl, ?_, ?_, fun _ => ?_, fun h => absurd h h98⟩, fr _ _⟩))))
    · (try dsimp only)
      rw [wrn (by decide), wrk _ (by decide), wra]
    · (try dsimp only)
      rw [wrn (by decide), wrn (by decide), wrn (by decide), wrn (by decide), hk]
    · (try dsimp only)
      rw [wra]
theorem readsBallot_ok {x : Nat × Vec} (hl : x.1 ≤ 100) {a j : Nat} {M0 M : Mem} (hT : TXc M x) (ha : M 210 6 = (a : Int) + 1) (h2 : a ≤ 100) (hj : j < 12) (hk : M 214 j = 98) (hF : FcR j M0 M) : Ok (fX6_readsBallot 210 j M) (fun q => RC j q (clB x a) ∧ FcR j M0 q.2 ∧ (q.1 = 0 ∨ q.1 = 1)) := by
  unfold fX6_readsBallot
  simp only [Nat.reduceAdd]
  have r1 := rdN_le x 8 (a + 1) 0
  refine ok_bs (number_ok (m := 8) (a := a + 1) hl hT (by omega) (by omega) (by omega)) (ok_chk (by omega) (ok_nm0 ?_))
  dsimp only
  simp only [tn]
  generalize hM3 : wr (wr (wr M 210 6 ((rdN x 8 (a + 1) 0).2 : Nat)) 210 7 (lk x 8 (a + 1))) 215 j (rdN x 8 (a + 1) 0).1 = M3
  have T3 : TXc M3 x := by subst hM3; exact ((hT.w _ (by decide) (fun _ => by decide)).w _ (by decide) (fun _ => by decide)).w _ (by decide) (fun h => absurd h (by decide))
  have F3 : FcR j M0 M3 := by subst hM3; exact ((hF.w _ (by omega)).w _ (by omega)).w _ (by omega)
  have a3 : M3 210 6 = ((rdN x 8 (a + 1) 0).2 : Nat) := by subst hM3; rw [wrn (by decide), wrk _ (by decide), wra]
  have b3 : M3 210 7 = if (rdN x 8 (a + 1) 0).2 = a + 1 then 1 else 0 := by subst hM3; rw [wrn (by decide), wra]; rfl
  have k3 : M3 214 j = 98 := by subst hM3; rw [wrn (by decide), wrn (by decide), wrn (by decide), hk]
  have v3 : M3 215 j = (rdN x 8 (a + 1) 0).1 := by subst hM3; rw [wra]
  unfold clB
  generalize rdN x 8 (a + 1) 0 = R at *
  by_cases e : R.2 = a + 1
  · rw [if_pos e]
    refine ok_el (by rw [b3, if_pos e]; decide) (ok_some ⟨⟨rfl, ?_, ?_⟩, F3, Or.inl rfl⟩)
    · show M3 210 6 = _
      rw [a3, e]
    · show M3 210 7 = _
      rw [b3, if_pos e]; rfl
  · rw [if_neg e]
    refine ok_if (by rw [b3, if_neg e]) (ok_bs (sign_ok T3 hl a3) ?_)
    dsimp only
    by_cases c42 : sg x R.2 = 42
    · have hlt := sg_lt (x := x) (a := R.2) (by omega)
      refine ok_if c42 ?_
      rw [if_pos c42]
      simp only [a3]
      refine (ok_chk (by omega) (ok_nm0 (ok_bs (number_ok (m := 7) (a := R.2 + 1) hl (T3.w _ (by decide) (fun _ => by decide)) (by rw [wra]; omega) (by omega) (by omega)) (ok_chk (by omega) (ok_nm0 ?_)))))
      dsimp only
      have e7 : ∀ v, wr (wr (wr (wr M3 210 6 ((R.2 : Int) + 1)) 210 6 ((rdN x 7 (R.2 + 1) 0).2 : Nat)) 210 7 (lk x 7 (R.2 + 1))) 216 j v 210 7 = lk x 7 (R.2 + 1) := fun v => by rw [wrn (by decide), wra]
      have fr : ∀ v w, FcR j M0 (wr (wr (wr (wr M3 210 6 ((R.2 : Int) + 1)) 210 6 ((rdN x 7 (R.2 + 1) 0).2 : Nat)) 210 7 w) 216 j v) := fun v w => (((F3.w _ (by omega)).w _ (by omega)).w _ (by omega)).w _ (by omega)
      by_cases e2 : (rdN x 7 (R.2 + 1) 0).2 = R.2 + 1
      · rw [if_pos e2]
        refine ok_bi (ok_el (by rw [e7]; unfold lk; rw [if_pos e2]; decide) (ok_some (ok_chk (by omega) (ok_some ⟨⟨rfl, ?_, ?_⟩, fr _ _, Or.inl rfl⟩))))
        · (try dsimp only)
          rw [wrn (by decide), wrk _ (by decide), wra, e2]
        · (try dsimp only)
          rw [wrn (by decide), wra]; unfold lk; rw [if_pos e2]; rfl
      · rw [if_neg e2]
        refine ok_bi (ok_if (by rw [e7]; unfold lk; rw [if_neg e2]) (ok_some (ok_chk (by omega) (ok_some ⟨⟨rfl, ?_, ?_, fun _ => ?_, fun _ => ?_⟩, fr _ _, Or.inr rfl⟩))))
        · (try dsimp only)
          rw [wrn (by decide), wrk _ (by decide), wra]
        · (try dsimp only)
          rw [wrn (by decide), wrn (by decide), wrn (by decide), wrn (by decide), k3]
        · (try dsimp only)
          rw [wrn (by decide), wrn (by decide), wrn (by decide), wrn (by decide), v3]
        · (try dsimp only)
          rw [wra]
    · refine ok_el c42 ?_
      rw [if_neg c42]
      refine ok_some ⟨⟨rfl, ?_, ?_⟩, F3, Or.inl rfl⟩
      · show M3 210 6 = _
        rw [a3]
      · show M3 210 7 = _
        rw [b3, if_neg e]; rfl
theorem readsClause_ok {x : Nat × Vec} (hl : x.1 ≤ 100) {a j : Nat} {M : Mem} (hT : TXc M x) (ha : M 210 6 = a) (h2 : a ≤ 100) (hj : j < 12) : Ok (fX6_readsClause 210 j M) (fun q => RC j q (cl x a) ∧ FcR j M q.2) := by
  unfold fX6_readsClause
  simp only [Nat.reduceAdd]
  have T1 : TXc (wr M 210 7 0) x := hT.w _ (by decide) (fun _ => by decide)
  have a1 : wr M 210 7 0 210 6 = a := by rw [wrk _ (by decide)]; exact ha
  refine ok_nm0 (ok_bs (sign_ok T1 hl a1) (ok_chk (by omega) (ok_nm0 ?_)))
  dsimp only
  simp only [tn]
  generalize hM3 : wr (wr M 210 7 0) 214 j (sg x a) = M3
  have T3 : TXc M3 x := by subst hM3; exact T1.w _ (by decide) (fun h => absurd h (by decide))
  have F3 : FcR j M M3 := by subst hM3; exact ((FcR.refl j M).w _ (by omega)).w _ (by omega)
  have a3 : M3 210 6 = a := by subst hM3; rw [wrn (by decide)]; exact a1
  have b3 : M3 210 7 = 0 := by subst hM3; rw [wrn (by decide), wra]
  have k3 : M3 214 j = sg x a := by subst hM3; rw [wra]
  refine ok_bs (sign_ok T3 hl a3) ?_
  dsimp only
  by_cases c98 : sg x a = 98
  · have ecl : cl x a = clB x a := by unfold cl; rw [if_neg (show ¬ (sg x a = 99) by omega), if_pos c98]
    rw [ecl]
    refine ok_if c98 (ok_chk (by omega) (ok_nm0 (ok_by (readsBallot_ok (a := a) (M0 := M) hl (T3.w _ (by decide) (fun _ => by decide)) (by rw [wra, a3]) h2 hj (by rw [wrn (by decide), k3, c98]) (F3.w _ (by omega))) (fun q hq => ok_chk hq.2.2 (ok_some ⟨hq.1, hq.2.1⟩)))))
  · refine ok_el c98 ?_
    by_cases c99 : sg x a = 99
    · have ecl : cl x a = .inr (a + 1, 99, 0, 0) := by unfold cl; rw [if_pos c99]
      rw [ecl]
      refine ok_if c99 (ok_chk (by omega) (ok_nm0 (ok_some ⟨⟨rfl, ?_, ?_, fun h => absurd rfl h, fun h => absurd h (show ¬ ((99 : Int) = 98) by decide)⟩, F3.w _ (by omega)⟩)))
      · (try dsimp only)
        rw [wra, a3]; show (a : Int) + 1 = ((a + 1 : Nat) : Int); omega
      · (try dsimp only)
        rw [wrn (by decide), k3, c99]
    · refine ok_el c99 ?_
      by_cases c103 : sg x a = 103
      · have ecl : cl x a = cl1 x 103 1 a := by unfold cl; rw [if_neg c99, if_neg c98, if_neg (show ¬ (sg x a = 115) by omega), if_neg (show ¬ (sg x a = 108) by omega), if_pos c103]
        rw [ecl]
        exact ok_if c103 (one_ok (m := 1) (kd := 103) hl (by omega) T3 a3 h2 hj (by rw [k3, c103]) (by decide) F3)
      · refine ok_el c103 ?_
        by_cases c108 : sg x a = 108
        · have ecl : cl x a = cl1 x 108 9 a := by unfold cl; rw [if_neg c99, if_neg c98, if_neg (show ¬ (sg x a = 115) by omega), if_pos c108]
          rw [ecl]
          exact ok_if c108 (one_ok (m := 9) (kd := 108) hl (by omega) T3 a3 h2 hj (by rw [k3, c108]) (by decide) F3)
        · refine ok_el c108 ?_
          by_cases c115 : sg x a = 115
          · have ecl : cl x a = cl1 x 115 1 a := by unfold cl; rw [if_neg c99, if_neg c98, if_pos c115]
            rw [ecl]
            exact ok_if c115 (one_ok (m := 1) (kd := 115) hl (by omega) T3 a3 h2 hj (by rw [k3, c115]) (by decide) F3)
          · have ecl : cl x a = .inl (a, false) := by unfold cl; rw [if_neg c99, if_neg c98, if_neg c115, if_neg c108, if_neg c103]
            rw [ecl]
            exact ok_el c115 (ok_some ⟨⟨rfl, a3, b3⟩, F3⟩)
end
