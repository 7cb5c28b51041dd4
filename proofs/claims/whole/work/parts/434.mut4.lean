section
/-! see, event -/
theorem CI.s9 {M : Mem} {s : SS} {v : Nat} (hs : GS s) (h : CI M s) {e' : SE} (he : SEc (wr M 11000 9 v) 11000 e') : CI (wr M 11000 9 v) (s.1, e', s.2.2) := by
  have fx : ∀ x, x ≠ 11000 → wr M 11000 9 v x = M x := fun x hx => wrn hx
  obtain ⟨⟨b1, b2, b3, b4, b5, b6, b7⟩, -, f1, f2⟩ := h.1.1
  exact h.se hs ⟨⟨by simpa [wr] using b1, by simpa [wr] using b2, fun c hc => by simpa [wr] using b3 c hc, fun b hb => by simpa [wr] using b4 b hb, by simpa [wr] using b5, by simpa [wr] using b6, by simpa [wr] using b7⟩, he, fun c hc => by simpa [wr] using f1 c hc, fun k hk => by simpa [wr] using f2 k hk⟩ (fx 10 (by omega)) (fun x hx => fx x (by omega))
theorem op_see {s : SS} (hs : GS s) (c i : Int) (hi : i = 0 ∨ i = 1) : Op s (fX8_see 10 c i) (fX9_see 20000 c i) := by
  have h8 := hs.1.1.1
  unfold fX8_see fX9_see
  simp only [Nat.reduceAdd]
  have c1 := fun (N : Mem) (hN : CI N s) => hasCand_ok (c := c) (M := N) (o := 11000) (n := s.p.n) hN.1.1.1.1
  have c2 := fun (N : Mem) (hD : DI N s) => isOne_ok (c := c) (M := N) (a := 20000) (n := s.p.n) h8 hD.1.1
  have one0 : ¬ ((1 : Int) = 0) := by decide
  have hs' := hs
  obtain ⟨g1, g2, g3, g4, g5, g6⟩ := hs'
  by_cases hm : c = -1
  · refine ⟨0, (s.p, (0, s.e.2.1, s.e.2.2.1, s.e.2.2.2), s.2.2), ⟨g1, ⟨Nat.zero_le _, (fun k hk => absurd hk (Nat.not_lt_zero k)), g2.2.2⟩, g3, g4, g5, g6⟩, fun M hC => ok_if hm (ok_nm0 (ok_some ?_)), fun M hD => ok_if hm (ok_nm0 (ok_some ?_))⟩
    · obtain ⟨d1, d2, d3, d4⟩ := hC.1.1.2.1
      exact PC.mk' (hC.s9 hs (v := 0) ⟨wra _ _ _ _, by simpa [wr] using d2, (fun k hk => absurd hk (Nat.not_lt_zero k)), fun k hk => by simpa [wr] using d4 k hk⟩) (fun x hx => wrn (by omega))
    · obtain ⟨d1, d2, d3, d4⟩ := hD.2.1
      exact PD.mk' (hD.of (p' := s.p) (hD.1.same (fun k hk => wrk _ (by omega)) (wrn (by omega)) (wrn (by omega)) (wrn (by omega)) (wrn (by omega))) ⟨by rw [wra]; rfl, by simpa [wr] using d2, (fun k hk => absurd hk (Nat.not_lt_zero k)), fun k hk => by simpa [wr] using d4 k hk⟩ (fun j hj => wrk _ (by omega)) (fun x hx => wrn (by omega))) (fun x hx => wrn (by omega))
  · by_cases hc : 0 ≤ c ∧ c < s.p.n
    · rw [if_pos hc] at c1 c2
      by_cases hf : s.e.ns = 5
      · refine ⟨-4, s, hs, fun M hC => ok_el hm (ok_bs (c1 M hC) (ok_el one0 ?_)), fun M hD => ok_el hm (ok_bs (c2 M hD) (ok_el one0 ?_))⟩
        · have e : M 11000 9 = s.e.ns := hC.1.1.2.1.1
          dsimp only
          simp only [e]
          exact ok_el (by omega) (ok_some (PC.self hC))
        · have e : M 20000 9 = s.e.ns := hD.2.1.1
          dsimp only
          simp only [e]
          exact ok_if (by omega) (ok_some (PD.self hD))
      · have h5 : s.e.ns < 5 := by have := g2.1; omega
        refine ⟨(s.e.ns : Int) + 1, (s.p, (s.e.ns + 1, up s.e.who s.e.ns c, up s.e.so s.e.ns i, s.e.2.2.2), s.2.2), ⟨g1, ⟨h5, fun k hk => ?_, g2.2.2⟩, g3, g4, g5, g6⟩, fun M hC => ok_el hm (ok_bs (c1 M hC) (ok_el one0 ?_)), fun M hD => ok_el hm (ok_bs (c2 M hD) (ok_el one0 ?_))⟩
        · have hk' : k < s.e.ns + 1 := hk
          show 0 ≤ up s.e.who s.e.ns c k ∧ up s.e.who s.e.ns c k < s.p.n ∧ (up s.e.so s.e.ns i k = 0 ∨ up s.e.so s.e.ns i k = 1)
          by_cases e : k = s.e.ns
          · subst e; rw [up_same, up_same]; exact ⟨hc.1, hc.2, hi⟩
          · rw [up_ne e, up_ne e]; exact g2.2.1 k (by omega)
        · have e : M 11000 9 = s.e.ns := hC.1.1.2.1.1
          have e1 : ∀ v, wr M 11011 s.e.ns v 11000 9 = s.e.ns := fun v => by rw [wrn (by omega)]; exact e
          have e2 : ∀ v w, wr (wr M 11011 s.e.ns v) 11012 s.e.ns w 11000 9 = s.e.ns := fun v w => by rw [wrn (by omega)]; exact e1 v
          have e3 : ∀ v w x, wr (wr (wr M 11011 s.e.ns v) 11012 s.e.ns w) 11000 9 x 11000 9 = x := fun v w x => wra _ _ _ _
          dsimp only
          simp only [e, tn]
          refine ok_if (by omega) (ok_chk (by omega) (ok_nm0 ?_))
          simp only [e1, tn]
          refine ok_chk (by omega) (ok_chk hi (ok_nm0 ?_))
          simp only [e2]
          refine ok_chk (by omega) (ok_nm0 (ok_some ?_))
          rw [e3]
          have fx : ∀ x, x ≠ 11011 → x ≠ 11012 → x ≠ 11000 → wr (wr (wr M 11011 s.e.ns c) 11012 s.e.ns i) 11000 9 ((s.e.ns : Int) + 1) x = M x := fun x x1 x2 x3 => by rw [wrn x3, wrn x2, wrn x1]
          obtain ⟨⟨b1, b2, b3, b4, b5, b6, b7⟩, ⟨d1, d2, d3, d4⟩, f1, f2⟩ := hC.1.1
          refine PC.mk' (hC.se hs (e' := (s.e.ns + 1, up s.e.who s.e.ns c, up s.e.so s.e.ns i, s.e.2.2.2)) ⟨⟨by simpa [wr] using b1, by simpa [wr] using b2, fun c hc => by simpa [wr] using b3 c hc, fun b hb => by simpa [wr] using b4 b hb, by simpa [wr] using b5, by simpa [wr] using b6, by simpa [wr] using b7⟩, ⟨by rw [wra]; rfl, by simpa [wr] using d2, fun k hk => ?_, fun k hk => by simpa [wr] using d4 k hk⟩, fun c hc => by simpa [wr] using f1 c hc, fun k hk => ?_⟩ (fx 10 (by omega) (by omega) (by omega)) (fun x hx => fx x (by omega) (by omega) (by omega))) (fun x hx => fx x (by omega) (by omega) (by omega))
          · have hk' : k < s.e.ns + 1 := hk
            by_cases e : k = s.e.ns
            · subst e; simp [wr, up, SE.who, SE.so]
            · have := d3 k (by omega); simpa [wr, up, SE.who, SE.so, show ¬ k = s.2.1.1 from e] using this
          · by_cases e : k = s.e.ns
            · subst e; simpa [wr] using hi
            · have := f2 k hk; simpa [wr, show ¬ k = s.2.1.1 from e] using this
        · have e : M 20000 9 = s.e.ns := hD.2.1.1
          have e1 : ∀ v, wr M 20012 s.e.ns v 20000 9 = s.e.ns := fun v => by rw [wrn (by omega)]; exact e
          have e2 : ∀ v w, wr (wr M 20012 s.e.ns v) 20015 s.e.ns w 20000 9 = s.e.ns := fun v w => by rw [wrn (by omega)]; exact e1 v
          have e3 : ∀ v w x, wr (wr (wr M 20012 s.e.ns v) 20015 s.e.ns w) 20000 9 x 20000 9 = x := fun v w x => wra _ _ _ _
          dsimp only
          simp only [e, tn]
          refine ok_el (by omega) (ok_chk (by omega) (ok_nm0 ?_))
          simp only [e1, tn]
          refine ok_chk (by omega) (ok_chk hi (ok_nm0 ?_))
          simp only [e2]
          refine ok_chk (by omega) (ok_nm0 (ok_some ?_))
          rw [e3]
          have fx : ∀ x, x ≠ 20012 → x ≠ 20015 → x ≠ 20000 → wr (wr (wr M 20012 s.e.ns c) 20015 s.e.ns i) 20000 9 ((s.e.ns : Int) + 1) x = M x := fun x x1 x2 x3 => by rw [wrn x3, wrn x2, wrn x1]
          have fa : ∀ j, j ≠ 9 → wr (wr (wr M 20012 s.e.ns c) 20015 s.e.ns i) 20000 9 ((s.e.ns : Int) + 1) 20000 j = M 20000 j := fun j hj => by rw [wrk _ hj, wrn (by omega), wrn (by omega)]
          obtain ⟨d1, d2, d3, d4⟩ := hD.2.1
          refine PD.mk' (hD.of (p' := s.p) (e' := (s.e.ns + 1, up s.e.who s.e.ns c, up s.e.so s.e.ns i, s.e.2.2.2)) (hD.1.same (fun k hk => fa k (by omega)) (fx _ (by omega) (by omega) (by omega)) (fx _ (by omega) (by omega) (by omega)) (fx _ (by omega) (by omega) (by omega)) (fx _ (by omega) (by omega) (by omega))) ⟨by rw [wra]; rfl, by simpa [wr] using d2, fun k hk => ?_, fun k hk => by simpa [wr] using d4 k hk⟩ (fun j hj => fa j (by omega)) (fun x hx => fx x (by omega) (by omega) (by omega))) (fun x hx => fx x (by omega) (by omega) (by omega))
          have hk' : k < s.e.ns + 1 := hk
          by_cases e : k = s.e.ns
          · subst e; simp [wr, up, SE.who, SE.so]
          · have := d3 k (by omega); simpa [wr, up, SE.who, SE.so, show ¬ k = s.2.1.1 from e] using this
    · rw [if_neg hc] at c1 c2
      exact ⟨-1, s, hs, fun M hC => ok_el hm (ok_bs (c1 M hC) (ok_if rfl (ok_some (PC.self hC)))), fun M hD => ok_el hm (ok_bs (c2 M hD) (ok_if rfl (ok_some (PD.self hD))))⟩
/-- one EVENT more -/
def ev1 (s : SS) (w n : Int) : SS := (s.p, (s.e.1, s.e.2.1, s.e.2.2.1, s.e.ne + 1, up s.e.what s.e.ne w, up s.e.num s.e.ne n), s.2.2)
theorem event_c {s : SS} {M : Mem} (hs : GS s) (hC : CI M s) (h8 : s.e.ne < 8) {w n : Int} : CI (wr (wr (wr M 11014 s.e.ne w) 11015 s.e.ne n) 11000 12 ((s.e.ne : Int) + 1)) (ev1 s w n) := by
  have fx : ∀ x, x ≠ 11014 → x ≠ 11015 → x ≠ 11000 → wr (wr (wr M 11014 s.e.ne w) 11015 s.e.ne n) 11000 12 ((s.e.ne : Int) + 1) x = M x := fun x x1 x2 x3 => by rw [wrn x3, wrn x2, wrn x1]
  obtain ⟨⟨b1, b2, b3, b4, b5, b6, b7⟩, ⟨d1, d2, d3, d4⟩, f1, f2⟩ := hC.1.1
  refine hC.se hs (e' := (s.e.1, s.e.2.1, s.e.2.2.1, s.e.ne + 1, up s.e.what s.e.ne w, up s.e.num s.e.ne n)) ⟨⟨by simpa [wr] using b1, by simpa [wr] using b2, fun c hc => by simpa [wr] using b3 c hc, fun b hb => by simpa [wr] using b4 b hb, by simpa [wr] using b5, by simpa [wr] using b6, by simpa [wr] using b7⟩, ⟨by simpa [wr] using d1, by rw [wra]; rfl, fun k hk => by simpa [wr] using d3 k hk, fun k hk => ?_⟩, fun c hc => by simpa [wr] using f1 c hc, fun k hk => by simpa [wr] using f2 k hk⟩ (fx 10 (by omega) (by omega) (by omega)) (fun x hx => fx x (by omega) (by omega) (by omega))
  have hk' : k < s.e.ne + 1 := hk
  by_cases e : k = s.e.ne
  · subst e; simp [wr, up, SE.what, SE.num]
  · have := d4 k (by omega); simpa [wr, up, SE.what, SE.num, show ¬ k = s.2.1.2.2.2.1 from e] using this
theorem event_d {s : SS} {M : Mem} (hD : DI M s) {w n : Int} : DI (wr (wr (wr M 20013 s.e.ne w) 20014 s.e.ne n) 20000 10 ((s.e.ne : Int) + 1)) (ev1 s w n) := by
  have fx : ∀ x, x ≠ 20013 → x ≠ 20014 → x ≠ 20000 → wr (wr (wr M 20013 s.e.ne w) 20014 s.e.ne n) 20000 10 ((s.e.ne : Int) + 1) x = M x := fun x x1 x2 x3 => by rw [wrn x3, wrn x2, wrn x1]
  have fa : ∀ j, j ≠ 10 → wr (wr (wr M 20013 s.e.ne w) 20014 s.e.ne n) 20000 10 ((s.e.ne : Int) + 1) 20000 j = M 20000 j := fun j hj => by rw [wrk _ hj, wrn (by omega), wrn (by omega)]
  obtain ⟨d1, d2, d3, d4⟩ := hD.2.1
  refine hD.of (p' := s.p) (e' := (s.e.1, s.e.2.1, s.e.2.2.1, s.e.ne + 1, up s.e.what s.e.ne w, up s.e.num s.e.ne n)) (hD.1.same (fun k hk => fa k (by omega)) (fx _ (by omega) (by omega) (by omega)) (fx _ (by omega) (by omega) (by omega)) (fx _ (by omega) (by omega) (by omega)) (fx _ (by omega) (by omega) (by omega))) ⟨by simpa [wr] using d1, by rw [wra]; rfl, fun k hk => by simpa [wr] using d3 k hk, fun k hk => ?_⟩ (fun j hj => fa j (by omega)) (fun x hx => fx x (by omega) (by omega) (by omega))
  have hk' : k < s.e.ne + 1 := hk
  by_cases e : k = s.e.ne
  · subst e; simp [wr, up, SE.what, SE.num]
  · have := d4 k (by omega); simpa [wr, up, SE.what, SE.num, show ¬ k = s.2.1.2.2.2.1 from e] using this
/-- the tail of EVENT: FULL, or one more -/
theorem eventC_t {s : SS} {M : Mem} (hs : GS s) (hC : CI M s) {w n ans : Int} (ha : (s.e.ne = 8 ∧ ans = -4) ∨ (s.e.ne < 8 ∧ ans = (s.e.ne : Int) + 1)) : Ok (if (M 11000 12) < 8 then if 0 ≤ (M 11000 12) ∧ (M 11000 12) < 8 then nm (wr M 11014 (Int.toNat (M 11000 12)) w) (fun M18 => if 0 ≤ (M18 11000 12) ∧ (M18 11000 12) < 8 then nm (wr M18 11015 (Int.toNat (M18 11000 12)) n) (fun M20 => if -2147483648 ≤ ((M20 11000 12) + 1) ∧ ((M20 11000 12) + 1) ≤ 2147483647 then nm (wr M20 11000 12 ((M20 11000 12) + 1)) (fun M22 => some ((M22 11000 12), M22)) else none) else none) else none else some ((-4), M)) (PC M (if s.e.ne = 8 then s else ev1 s w n) ans) := by
  have e : M 11000 12 = s.e.ne := hC.1.1.2.1.2.1
  have e1 : ∀ v, wr M 11014 s.e.ne v 11000 12 = s.e.ne := fun v => by rw [wrn (by omega)]; exact e
  have e2 : ∀ v w, wr (wr M 11014 s.e.ne v) 11015 s.e.ne w 11000 12 = s.e.ne := fun v w => by rw [wrn (by omega)]; exact e1 v
  have e3 : ∀ v w x, wr (wr (wr M 11014 s.e.ne v) 11015 s.e.ne w) 11000 12 x 11000 12 = x := fun v w x => wra _ _ _ _
  simp only [e, tn]
  rcases ha with ⟨h1, h2⟩ | ⟨h1, h2⟩
  · rw [if_pos h1, h2]
    exact ok_el (by omega) (ok_some (PC.self hC))
  · rw [if_neg (show ¬ s.e.ne = 8 by omega), h2]
    refine ok_if (by omega) (ok_chk (by omega) (ok_nm0 ?_))
    simp only [e1, tn]
    refine ok_chk (by omega) (ok_nm0 ?_)
    simp only [e2]
    refine ok_chk (by omega) (ok_nm0 (ok_some ?_))
    rw [e3]
    exact PC.mk' (event_c hs hC h1) (fun x hx => by rw [wrn (by omega), wrn (by omega), wrn (by omega)])
theorem eventM_t {s : SS} {M : Mem} (hD : DI M s) {w n ans : Int} (ha : (s.e.ne = 8 ∧ ans = -4) ∨ (s.e.ne < 8 ∧ ans = (s.e.ne : Int) + 1)) : Ok (if (M 20000 10) = 8 then some ((-4), M) else if 0 ≤ (M 20000 10) ∧ (M 20000 10) < 8 then nm (wr M 20013 (Int.toNat (M 20000 10)) w) (fun M17 => if 0 ≤ (M17 20000 10) ∧ (M17 20000 10) < 8 then nm (wr M17 20014 (Int.toNat (M17 20000 10)) n) (fun M19 => if -2147483648 ≤ ((M19 20000 10) + 1) ∧ ((M19 20000 10) + 1) ≤ 2147483647 then nm (wr M19 20000 10 ((M19 20000 10) + 1)) (fun M21 => some ((M21 20000 10), M21)) else none) else none) else none) (PD M (if s.e.ne = 8 then s else ev1 s w n) ans) := by
  have e : M 20000 10 = s.e.ne := hD.2.1.2.1
  have e1 : ∀ v, wr M 20013 s.e.ne v 20000 10 = s.e.ne := fun v => by rw [wrn (by omega)]; exact e
  have e2 : ∀ v w, wr (wr M 20013 s.e.ne v) 20014 s.e.ne w 20000 10 = s.e.ne := fun v w => by rw [wrn (by omega)]; exact e1 v
  have e3 : ∀ v w x, wr (wr (wr M 20013 s.e.ne v) 20014 s.e.ne w) 20000 10 x 20000 10 = x := fun v w x => wra _ _ _ _
  simp only [e, tn]
  rcases ha with ⟨h1, h2⟩ | ⟨h1, h2⟩
  · have hx : (if s.e.ne = 8 then s else ev1 s w n) = s := if_pos h1
    rw [hx, h2]
    exact ok_if (by omega) (ok_some (PD.self hD))
  · have hx : (if s.e.ne = 8 then s else ev1 s w n) = ev1 s w n := if_neg (by omega)
    rw [hx, h2]
    refine ok_el (by omega) (ok_chk (by omega) (ok_nm0 ?_))
    simp only [e1, tn]
    refine ok_chk (by omega) (ok_nm0 ?_)
    simp only [e2]
    refine ok_chk (by omega) (ok_nm0 (ok_some ?_))
    rw [e3]
    exact PD.mk' (event_d hD) (fun x hx => by rw [wrn (by omega), wrn (by omega), wrn (by omega)])
theorem ev1_GS {s : SS} (hs : GS s) {w n : Int} (h8 : s.e.ne < 8) (h : 0 ≤ w ∧ w ≤ 3 ∧ (w = 2 → 1 ≤ n ∧ n ≤ 7) ∧ (w ≠ 2 → 0 ≤ n ∧ n < s.p.n)) : GS (ev1 s w n) := by
  obtain ⟨g1, g2, g3, g4, g5, g6⟩ := hs
  refine ⟨g1, ⟨g2.1, g2.2.1, h8, fun k hk => ?_⟩, g3, g4, g5, g6⟩
  have hk' : k < s.e.ne + 1 := hk
  show 0 ≤ up s.e.what s.e.ne w k ∧ up s.e.what s.e.ne w k ≤ 3 ∧ (up s.e.what s.e.ne w k = 2 → 1 ≤ up s.e.num s.e.ne n k ∧ up s.e.num s.e.ne n k ≤ 7) ∧ (up s.e.what s.e.ne w k ≠ 2 → 0 ≤ up s.e.num s.e.ne n k ∧ up s.e.num s.e.ne n k < s.p.n)
  by_cases e : k = s.e.ne
  · subst e; rw [up_same, up_same]; exact h
  · rw [up_ne e, up_ne e]; exact g2.2.2.2 k (by omega)
theorem op_event {s : SS} (hs : GS s) (w n : Int) : Op s (fX8_event 10 w n) (fX9_event 20000 w n) := by
  have h8 := hs.1.1.1
  unfold fX8_event fX9_event
  simp only [Nat.reduceAdd]
  have c1 := fun (N : Mem) (hN : CI N s) => hasCand_ok (c := n) (M := N) (o := 11000) (n := s.p.n) hN.1.1.1.1
  have c2 := fun (N : Mem) (hD : DI N s) => isOne_ok (c := n) (M := N) (a := 20000) (n := s.p.n) h8 hD.1.1
  have one0 : ¬ ((1 : Int) = 0) := by decide
  have hne := hs.2.1.2.2.1
  have hs' := hs
  obtain ⟨g1, g2, g3, g4, g5, g6⟩ := hs'
  have ha : ∃ ans : Int, (s.e.ne = 8 ∧ ans = -4) ∨ (s.e.ne < 8 ∧ ans = (s.e.ne : Int) + 1) := by
    by_cases e : s.e.ne = 8
    · exact ⟨-4, Or.inl ⟨e, rfl⟩⟩
    · exact ⟨_, Or.inr ⟨by omega, rfl⟩⟩
  obtain ⟨ans, ha⟩ := ha
  have hG : (0 ≤ w ∧ w ≤ 3 ∧ (w = 2 → 1 ≤ n ∧ n ≤ 7) ∧ (w ≠ 2 → 0 ≤ n ∧ n < s.p.n)) → GS (if s.e.ne = 8 then s else ev1 s w n) := fun h => by
    by_cases e : s.e.ne = 8
    · rw [if_pos e]; exact hs
    · rw [if_neg e]; exact ev1_GS hs (by omega) h
  by_cases hm : w = -1
  · refine ⟨0, (s.p, (s.e.1, s.e.2.1, s.e.2.2.1, 0, s.e.2.2.2.2), s.2.2), ⟨g1, ⟨g2.1, g2.2.1, Nat.zero_le _, (fun k hk => absurd hk (Nat.not_lt_zero k))⟩, g3, g4, g5, g6⟩, fun M hC => ok_if hm (ok_nm0 (ok_some ?_)), fun M hD => ok_if hm (ok_nm0 (ok_some ?_))⟩
    · have fx : ∀ x, x ≠ 11000 → wr M 11000 12 0 x = M x := fun x hx => wrn hx
      obtain ⟨⟨b1, b2, b3, b4, b5, b6, b7⟩, ⟨d1, d2, d3, d4⟩, f1, f2⟩ := hC.1.1
      exact PC.mk' (hC.se hs (e' := (s.e.1, s.e.2.1, s.e.2.2.1, 0, s.e.2.2.2.2)) ⟨⟨by simpa [wr] using b1, by simpa [wr] using b2, fun c hc => by simpa [wr] using b3 c hc, fun b hb => by simpa [wr] using b4 b hb, by simpa [wr] using b5, by simpa [wr] using b6, by simpa [wr] using b7⟩, ⟨by simpa [wr] using d1, by rw [wra]; rfl, fun k hk => by simpa [wr] using d3 k hk, (fun k hk => absurd hk (Nat.not_lt_zero k))⟩, fun c hc => by simpa [wr] using f1 c hc, fun k hk => by simpa [wr] using f2 k hk⟩ (fx 10 (by omega)) (fun x hx => fx x (by omega))) (fun x hx => fx x (by omega))
    · obtain ⟨d1, d2, d3, d4⟩ := hD.2.1
      exact PD.mk' (hD.of (p' := s.p) (e' := (s.e.1, s.e.2.1, s.e.2.2.1, 0, s.e.2.2.2.2)) (hD.1.same (fun k hk => wrk _ (by omega)) (wrn (by omega)) (wrn (by omega)) (wrn (by omega)) (wrn (by omega))) ⟨by simpa [wr] using d1, by rw [wra]; rfl, fun k hk => by simpa [wr] using d3 k hk, (fun k hk => absurd hk (Nat.not_lt_zero k))⟩ (fun j hj => wrk _ (by omega)) (fun x hx => wrn (by omega))) (fun x hx => wrn (by omega))
  · by_cases hw : 0 ≤ w ∧ w ≤ 3
    · by_cases h2 : w = 2
      · by_cases hn : 1 ≤ n ∧ n ≤ 7
        · refine ⟨ans, _, hG ⟨hw.1, hw.2, fun _ => hn, fun e => absurd h2 e⟩, fun M hC => ok_el hm (ok_el (by omega) (ok_if (by omega) (ok_if h2 (ok_el (by omega) (ok_if (by omega) (eventC_t hs hC ha)))))), fun M hD => ok_el hm (ok_bs in_ok (ok_el (by (try dsimp only); rw [if_pos hw]; decide) (ok_if h2 (ok_if h2 (ok_bs in_ok (ok_el (by (try dsimp only); rw [if_pos hn]; decide) (eventM_t hD ha)))))))⟩
        · exact ⟨-2, s, hs, fun M hC => ok_el hm (ok_el (by omega) (ok_if (by omega) (ok_if h2 (ok_ite (fun _ => ok_some (PC.self hC)) (fun h0 => ok_el (by omega) (ok_some (PC.self hC))))))), fun M hD => ok_el hm (ok_bs in_ok (ok_el (by (try dsimp only); rw [if_pos hw]; decide) (ok_if h2 (ok_if h2 (ok_bs in_ok (ok_if (by (try dsimp only); rw [if_neg hn]) (ok_some (PD.self hD))))))))⟩
      · by_cases hc : 0 ≤ n ∧ n < s.p.n
        · rw [if_pos hc] at c1 c2
          refine ⟨ans, _, hG ⟨hw.1, hw.2, fun e => absurd e h2, fun _ => hc⟩, fun M hC => ok_el hm (ok_el (by omega) (ok_if (by omega) (ok_el h2 (ok_bs (c1 M hC) (ok_el one0 (eventC_t hs hC ha)))))), fun M hD => ok_el hm (ok_bs in_ok (ok_el (by (try dsimp only); rw [if_pos hw]; decide) (ok_el h2 (ok_bs (c2 M hD) (ok_el one0 (ok_el h2 (eventM_t hD ha)))))))⟩
        · rw [if_neg hc] at c1 c2
          exact ⟨-1, s, hs, fun M hC => ok_el hm (ok_el (by omega) (ok_if (by omega) (ok_el h2 (ok_bs (c1 M hC) (ok_if rfl (ok_some (PC.self hC))))))), fun M hD => ok_el hm (ok_bs in_ok (ok_el (by (try dsimp only); rw [if_pos hw]; decide) (ok_el h2 (ok_bs (c2 M hD) (ok_if rfl (ok_some (PD.self hD)))))))⟩
    · exact ⟨-1, s, hs, fun M hC => ok_el hm (ok_ite (fun _ => ok_some (PC.self hC)) (fun h0 => ok_el (by omega) (ok_some (PC.self hC)))), fun M hD => ok_el hm (ok_bs in_ok (ok_if (by (try dsimp only); rw [if_neg hw]) (ok_some (PD.self hD))))⟩
end
