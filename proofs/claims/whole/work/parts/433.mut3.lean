section
/-! gone, set, swap -/
theorem PC.mk' {N M : Mem} {s : SS} {ans : Int} (h : CI N s) (hx : ∀ x, 20000 ≤ x → N x = M x) : PC M s ans (ans, N) := ⟨rfl, h, hx⟩
theorem PD.mk' {N M : Mem} {s : SS} {ans : Int} (h : DI N s) (hx : ∀ x, x < 20000 → N x = M x) : PD M s ans (ans, N) := ⟨rfl, h, hx⟩
theorem op_gone {s : SS} (hs : GS s) (c i : Int) (hi : i = 0 ∨ i = 1) : Op s (fX8_gone 10 c i) (fX9_gone 20000 c i) := by
  have h8 := hs.1.1.1
  unfold fX8_gone fX9_gone
  simp only [Nat.reduceAdd]
  have c1 := fun (N : Mem) (hN : CI N s) => hasCand_ok (c := c) (M := N) (o := 11000) (n := s.p.n) hN.1.1.1.1
  have c2 := fun (N : Mem) (hD : DI N s) => isOne_ok (c := c) (M := N) (a := 20000) (n := s.p.n) h8 hD.1.1
  by_cases hc : 0 ≤ c ∧ c < s.p.n
  · obtain ⟨d, rfl⟩ := Int.eq_ofNat_of_zero_le hc.1
    have hd : d < s.p.n := by omega
    rw [if_pos hc] at c1 c2
    simp only [tn]
    obtain ⟨g1, g2, g3, g4, g5, g6⟩ := hs
    have hW : WF4 (wg s.p (up s.p.g d i)) := ⟨g1.1.wg (fun x hx => by
      by_cases e : x = d
      · subst e; rw [up_same]; exact hi
      · rw [up_ne e]; exact g1.1.2.2.1 x hx), g1.2⟩
    have hg := g1.1.2.2.1 d hd
    have vb : ∀ v : Int, v = s.p.g d → Ok ((if v = 0 then some 0 else some 1) : Option Int) (fun t => t = s.p.g d) := fun v hv => by
      rw [hv]
      exact ok_ite (fun e => ok_some e.symm) (fun e => ok_some (hg.resolve_left e).symm)
    refine ⟨s.p.g d, (wg s.p (up s.p.g d i), s.2), ⟨hW, g2, g3, g4, g5, g6⟩, fun M hC => ok_bs (c1 M hC) (ok_el (show ¬ ((1 : Int) = 0) by decide) (ok_chk (by omega) (ok_by (vb _ (hC.1.1.1.2.2.1 d hd).1) (fun t ht => ok_chk (by omega) (ok_chk hi (ok_nm0 (ok_nm0 (ok_some ?_)))))))), fun M hD => ok_bs (c2 M hD) (ok_el (show ¬ ((1 : Int) = 0) by decide) (ok_chk (by omega) (ok_by (vb _ (hD.1.2.2.1 d hd).1) (fun t ht => ok_chk (by omega) (ok_chk hi (ok_nm0 (ok_some ?_)))))))⟩
    · have fx : ∀ x, x ≠ 10 → x ≠ 11003 → wr (wr M 11003 d i) 10 6 0 x = M x := fun x x1 x2 => by rw [wrn x1, wrn x2]
      obtain ⟨⟨b1, b2, b3, b4, b5, b6, b7⟩, ⟨d1, d2, d3, d4⟩, f1, f2⟩ := hC.1.1
      refine ⟨ht, hC.mut (e' := s.e) ⟨⟨by simpa [wr] using b1, by simpa [wr] using b2, fun x hx => ?_, fun b hb => by simpa [wr] using b4 b hb, by simpa [wr] using b5, by simpa [wr] using b6, by simpa [wr] using b7⟩, ⟨by simpa [wr] using d1, by simpa [wr] using d2, fun k hk => by simpa [wr] using d3 k hk, fun k hk => by simpa [wr] using d4 k hk⟩, fun x hx => ?_, fun k hk => by simpa [wr] using f2 k hk⟩ (by simp [wr]) (by simp [wr]) (fun x hx => fx x (by omega) (by omega)), fun x hx => fx x (by omega) (by omega)⟩
      · by_cases e : x = d
        · subst e; have := (b3 x hx).2; simpa [wr, up, PL.g, PL.lot] using this
        · have := b3 x hx; simpa [wr, up, PL.g, PL.lot, e] using this
      · by_cases e : x = d
        · subst e; simpa [wr] using hi
        · have := f1 x hx; simpa [wr, e] using this
    · have fx : ∀ x, x ≠ 20003 → wr M 20003 d i x = M x := fun x x1 => wrn x1
      obtain ⟨b1, b2, b3, b4, b5, b6, b7⟩ := hD.1
      refine ⟨ht, hD.of (e' := s.e) ⟨by simpa [wr] using b1, by simpa [wr] using b2, fun x hx => ?_, fun b hb => by simpa [wr] using b4 b hb, by simpa [wr] using b5, by simpa [wr] using b6, by simpa [wr] using b7⟩ (hD.2.1.same (fun j hj => by (try dsimp only); rw [fx 20000 (by omega)]) (fun x _ _ => fx x (by omega))) (fun j hj => by (try dsimp only); rw [fx 20000 (by omega)]) (fun x hx => fx x (by omega)), fun x hx => fx x (by omega)⟩
      by_cases e : x = d
      · subst e; have := (b3 x hx).2; simpa [wr, up, PL.g, PL.lot] using this
      · have := b3 x hx; simpa [wr, up, PL.g, PL.lot, e] using this
  · rw [if_neg hc] at c1 c2
    exact ⟨-1, s, hs, fun M hC => ok_bs (c1 M hC) (ok_if rfl (ok_some (PC.self hC))), fun M hD => ok_bs (c2 M hD) (ok_if rfl (ok_some (PD.self hD)))⟩
abbrev wli (p : PL) (v : Int) : PL := (p.1, p.2.1, p.2.2.1, p.2.2.2.1, p.2.2.2.2.1, p.2.2.2.2.2.1, p.2.2.2.2.2.2.1, v, p.2.2.2.2.2.2.2.2)
abbrev wro (p : PL) (v : Int) : PL := (p.1, p.2.1, p.2.2.1, p.2.2.2.1, p.2.2.2.2.1, p.2.2.2.2.2.1, p.2.2.2.2.2.2.1, p.2.2.2.2.2.2.2.1, v)
theorem op_set {s : SS} (hs : GS s) (w v : Int) : Op s (fX8_set 10 w v) (fX9_set 20000 w v) := by
  unfold fX8_set fX9_set fX8_putSeats fX8_putLimit fX8_putRounds
  simp only [Nat.reduceAdd]
  have cls : ∀ (j : Nat) (M : Mem), CI M s → j = 6 ∨ j = 7 ∨ j = 8 → ∀ p' : PL, PCc (wr (wr M 11000 j v) 10 6 0) 11000 p' → ∀ ans, PC M (p', s.2) ans (ans, wr (wr M 11000 j v) 10 6 0) := fun j M hC hj p' hp ans => by
    have fx : ∀ x, x ≠ 10 → x ≠ 11000 → wr (wr M 11000 j v) 10 6 0 x = M x := fun x x1 x2 => by rw [wrn x1, wrn x2]
    obtain ⟨-, ⟨d1, d2, d3, d4⟩, f1, f2⟩ := hC.1.1
    refine PC.mk' (hC.mut (e' := s.e) ⟨hp, ⟨?_, ?_, fun k hk => by rw [fx _ (by omega) (by omega), fx _ (by omega) (by omega)]; exact d3 k hk, fun k hk => by rw [fx _ (by omega) (by omega), fx _ (by omega) (by omega)]; exact d4 k hk⟩, fun x hx => by rw [fx _ (by omega) (by omega)]; exact f1 x hx, fun k hk => by rw [fx _ (by omega) (by omega)]; exact f2 k hk⟩ (by rw [wra]) (by rw [wrk _ (by decide), wrn (by omega)]) (fun x hx => fx x (by omega) (by omega))) (fun x hx => fx x (by omega) (by omega))
    · rw [wrn (by omega), wrk _ (by omega)]; exact d1
    · rw [wrn (by omega), wrk _ (by omega)]; exact d2
  have mdl : ∀ (j : Nat) (M : Mem), DI M s → j = 6 ∨ j = 7 ∨ j = 8 → ∀ p' : PL, PMm (wr M 20000 j v) 20000 p' → ∀ ans, PD M (p', s.2) ans (ans, wr M 20000 j v) := fun j M hD hj p' hp ans =>
    ⟨rfl, hD.of (e' := s.e) hp (hD.2.1.same (fun k hk => wrk _ (by omega)) (fun x _ _ => wrn (by omega))) (fun k hk => wrk _ (by omega)) (fun x hx => wrn (by omega)), fun x hx => wrn (by omega)⟩
  by_cases w0 : w = 0
  · subst w0
    by_cases hv : 1 ≤ v ∧ v ≤ 7
    · obtain ⟨g1, g2, g3, g4, g5, g6⟩ := hs
      refine ⟨s.p.se, (wse s.p v, s.2), ⟨⟨g1.1.wse hv, g1.2⟩, g2, g3, g4, g5, g6⟩, fun M hC => ok_if rfl (ok_bi (ok_el (by omega) (ok_if (by omega) ?_))), fun M hD => ok_bs in_ok (ok_el (by (try dsimp only); rw [if_pos (by omega)]; decide) (ok_if rfl (ok_bs in_ok (ok_el (by (try dsimp only); rw [if_pos hv]; decide) (ok_bi (ok_if rfl (ok_some (ok_bi (ok_if rfl (ok_nm0 (ok_some (ok_bi (ok_el (by decide) (ok_some (ok_bi (ok_el (by decide) (ok_some (ok_some ?_))))))))))))))))))⟩
      · obtain ⟨b1, b2, b3, b4, b5, b6, b7⟩ := hC.1.1.1
        have hx := cls 6 M hC (by omega) (wse s.p v) ⟨by simpa [wr] using b1, by simpa [wr] using b2, fun c hc => by simpa [wr] using b3 c hc, fun b hb => by simpa [wr] using b4 b hb, by simp [wr, PL.se], by simpa [wr] using b6, by simpa [wr] using b7⟩ s.p.se
        refine ok_bind (ok_nm0 (ok_nm0 (ok_nm0 (ok_some (ok_some (ok_some ?_))))))
        rw [b5]; exact hx
      · obtain ⟨b1, b2, b3, b4, b5, b6, b7⟩ := hD.1
        have hx := mdl 6 M hD (by omega) (wse s.p v) ⟨by simpa [wr] using b1, by simpa [wr] using b2, fun c hc => by simpa [wr] using b3 c hc, fun b hb => by simpa [wr] using b4 b hb, by simp [wr, PL.se], by simpa [wr] using b6, by simpa [wr] using b7⟩ s.p.se
        dsimp only
        rw [b5]; exact hx
    · exact ⟨-2, s, hs, fun M hC => ok_if rfl (ok_bi (ok_ite (fun _ => ok_some (ok_some (PC.self hC))) (fun h0 => ok_el (by omega) (ok_some (ok_some (PC.self hC)))))), fun M hD => ok_bs in_ok (ok_el (by (try dsimp only); rw [if_pos (by omega)]; decide) (ok_if rfl (ok_bs in_ok (ok_if (by (try dsimp only); rw [if_neg hv]) (ok_some (PD.self hD))))))⟩
  · by_cases w1 : w = 1
    · subst w1
      by_cases hv : 0 ≤ v ∧ v ≤ 1000000000
      · obtain ⟨g1, g2, g3, g4, g5, g6⟩ := hs
        have hW : WF (wli s.p v) := ⟨g1.1.1, g1.1.2.1, g1.1.2.2.1, g1.1.2.2.2.1, g1.1.2.2.2.2.1, g1.1.2.2.2.2.2.1, g1.1.2.2.2.2.2.2.1, hv, g1.1.2.2.2.2.2.2.2.2⟩
        refine ⟨s.p.li, (wli s.p v, s.2), ⟨⟨hW, g1.2⟩, g2, g3, g4, g5, g6⟩, fun M hC => ok_el (by decide) (ok_if rfl (ok_bi (ok_el (by omega) (ok_if (by omega) ?_)))), fun M hD => ok_bs in_ok (ok_el (by (try dsimp only); rw [if_pos (by omega)]; decide) (ok_el (by decide) (ok_if rfl (ok_bs in_ok (ok_el (by (try dsimp only); rw [if_pos hv]; decide) (ok_bi (ok_el (by decide) (ok_if rfl (ok_some (ok_bi (ok_el (by decide) (ok_some (ok_bi (ok_if rfl (ok_nm0 (ok_some (ok_bi (ok_el (by decide) (ok_some (ok_some ?_))))))))))))))))))))⟩
        · obtain ⟨b1, b2, b3, b4, b5, b6, b7⟩ := hC.1.1.1
          have hx := cls 7 M hC (by omega) (wli s.p v) ⟨by simpa [wr] using b1, by simpa [wr] using b2, fun c hc => by simpa [wr] using b3 c hc, fun b hb => by simpa [wr] using b4 b hb, by simpa [wr] using b5, by simp [wr, PL.li], by simpa [wr] using b7⟩ s.p.li
          refine ok_bind (ok_nm0 (ok_nm0 (ok_nm0 (ok_some (ok_some (ok_some ?_))))))
          rw [b6]; exact hx
        · obtain ⟨b1, b2, b3, b4, b5, b6, b7⟩ := hD.1
          have hx := mdl 7 M hD (by omega) (wli s.p v) ⟨by simpa [wr] using b1, by simpa [wr] using b2, fun c hc => by simpa [wr] using b3 c hc, fun b hb => by simpa [wr] using b4 b hb, by simpa [wr] using b5, by simp [wr, PL.li], by simpa [wr] using b7⟩ s.p.li
          dsimp only
          rw [b6]; exact hx
      · exact ⟨-2, s, hs, fun M hC => ok_el (by decide) (ok_if rfl (ok_bi (ok_ite (fun _ => ok_some (ok_some (PC.self hC))) (fun h0 => ok_el (by omega) (ok_some (ok_some (PC.self hC))))))), fun M hD => ok_bs in_ok (ok_el (by (try dsimp only); rw [if_pos (by omega)]; decide) (ok_el (by decide) (ok_if rfl (ok_bs in_ok (ok_if (by (try dsimp only); rw [if_neg hv]) (ok_some (PD.self hD)))))))⟩
    · by_cases w2 : w = 2
      · subst w2
        by_cases hv : 1 ≤ v ∧ v ≤ 20
        · obtain ⟨g1, g2, g3, g4, g5, g6⟩ := hs
          have hW : WF (wro s.p v) := ⟨g1.1.1, g1.1.2.1, g1.1.2.2.1, g1.1.2.2.2.1, g1.1.2.2.2.2.1, g1.1.2.2.2.2.2.1, g1.1.2.2.2.2.2.2.1, g1.1.2.2.2.2.2.2.2.1, hv⟩
          refine ⟨s.p.ro, (wro s.p v, s.2), ⟨⟨hW, g1.2⟩, g2, g3, g4, g5, g6⟩, fun M hC => ok_el (by decide) (ok_el (by decide) (ok_if rfl (ok_bi (ok_el (by omega) (ok_if (by omega) ?_))))), fun M hD => ok_bs in_ok (ok_el (by (try dsimp only); rw [if_pos (by omega)]; decide) (ok_el (by decide) (ok_el (by decide) (ok_bs in_ok (ok_el (by (try dsimp only); rw [if_pos hv]; decide) (ok_bi (ok_el (by decide) (ok_el (by decide) (ok_some (ok_bi (ok_el (by decide) (ok_some (ok_bi (ok_el (by decide) (ok_some (ok_bi (ok_if rfl (ok_nm0 (ok_some (ok_some ?_))))))))))))))))))))⟩
          · obtain ⟨b1, b2, b3, b4, b5, b6, b7⟩ := hC.1.1.1
            have hx := cls 8 M hC (by omega) (wro s.p v) ⟨by simpa [wr] using b1, by simpa [wr] using b2, fun c hc => by simpa [wr] using b3 c hc, fun b hb => by simpa [wr] using b4 b hb, by simpa [wr] using b5, by simpa [wr] using b6, by simp [wr, PL.ro]⟩ s.p.ro
            refine ok_bind (ok_nm0 (ok_nm0 (ok_nm0 (ok_some (ok_some (ok_some ?_))))))
            rw [b7]; exact hx
          · obtain ⟨b1, b2, b3, b4, b5, b6, b7⟩ := hD.1
            have hx := mdl 8 M hD (by omega) (wro s.p v) ⟨by simpa [wr] using b1, by simpa [wr] using b2, fun c hc => by simpa [wr] using b3 c hc, fun b hb => by simpa [wr] using b4 b hb, by simpa [wr] using b5, by simpa [wr] using b6, by simp [wr, PL.ro]⟩ s.p.ro
            dsimp only
            rw [b7]; exact hx
        · exact ⟨-2, s, hs, fun M hC => ok_el (by decide) (ok_el (by decide) (ok_if rfl (ok_bi (ok_ite (fun _ => ok_some (ok_some (PC.self hC))) (fun h0 => ok_el (by omega) (ok_some (ok_some (PC.self hC)))))))), fun M hD => ok_bs in_ok (ok_el (by (try dsimp only); rw [if_pos (by omega)]; decide) (ok_el (by decide) (ok_el (by decide) (ok_bs in_ok (ok_if (by (try dsimp only); rw [if_neg hv]) (ok_some (PD.self hD)))))))⟩
      · exact ⟨-1, s, hs, fun M hC => ok_el w0 (ok_el w1 (ok_el w2 (ok_some (PC.self hC)))), fun M hD => ok_bs in_ok (ok_if (by (try dsimp only); rw [if_neg (by omega)]) (ok_some (PD.self hD)))⟩
theorem Perm.swap {n : Nat} {lot : Vec} (h : Perm n lot) {i j : Nat} (hi : i < n) (hj : j < n) (hne : i ≠ j) : Perm n (up (up lot i (lot j)) j (lot i)) := by
  obtain ⟨inv, i1, i2⟩ := h
  refine ⟨fun c => if inv c = i then j else if inv c = j then i else inv c, fun k hk => ?_, fun c hc => ?_⟩
  · dsimp only
    by_cases e1 : k = j
    · subst e1
      obtain ⟨c, hc, e, e'⟩ := i1 i hi
      exact ⟨c, hc, by rw [up_same]; exact e, by rw [if_pos e']⟩
    · by_cases e2 : k = i
      · subst e2
        obtain ⟨c, hc, e, e'⟩ := i1 j hj
        exact ⟨c, hc, by rw [up_ne e1, up_same]; exact e, by rw [e', if_neg (by omega), if_pos rfl]⟩
      · obtain ⟨c, hc, e, e'⟩ := i1 k hk
        exact ⟨c, hc, by rw [up_ne e1, up_ne e2]; exact e, by rw [e', if_neg e2, if_neg e1]⟩
  · have h2 := i2 c hc
    dsimp only
    by_cases e1 : inv c = i
    · rw [if_pos e1, up_same]; exact ⟨hj, by rw [← e1]; exact h2.2⟩
    · by_cases e2 : inv c = j
      · rw [if_neg e1, if_pos e2, up_ne hne, up_same]; exact ⟨hi, by rw [← e2]; exact h2.2⟩
      · rw [if_neg e1, if_neg e2, up_ne e2, up_ne e1]; exact h2
theorem op_swap {s : SS} (hs : GS s) (a b : Int) : Op s (fX8_swap 10 a b) (fX9_swap 20000 a b) := by
  have h8 := hs.1.1.1
  unfold fX8_swap fX9_swap
  simp only [Nat.reduceAdd]
  have c1 := fun (N : Mem) (hN : CI N s) (c : Int) => hasCand_ok (c := c) (M := N) (o := 11000) (n := s.p.n) hN.1.1.1.1
  have c2 := fun (N : Mem) (hD : DI N s) (c : Int) => isOne_ok (c := c) (M := N) (a := 20000) (n := s.p.n) h8 hD.1.1
  have one0 : ¬ ((1 : Int) = 0) := by decide
  by_cases ha : 0 ≤ a ∧ a < s.p.n
  · by_cases hb : 0 ≤ b ∧ b < s.p.n
    · by_cases hne : a = b
      · exact ⟨-1, s, hs, fun M hC => ok_bs (c1 M hC a) (ok_el (by rw [if_pos ha]; exact one0) (ok_bs (c1 M hC b) (ok_el (by rw [if_pos hb]; exact one0) (ok_if hne (ok_some (PC.self hC)))))), fun M hD => ok_bs (c2 M hD a) (ok_el (by rw [if_pos ha]; exact one0) (ok_bs (c2 M hD b) (ok_el (by rw [if_pos hb]; exact one0) (ok_if hne (ok_some (PD.self hD))))))⟩
      · obtain ⟨i, rfl⟩ := Int.eq_ofNat_of_zero_le ha.1
        obtain ⟨j, rfl⟩ := Int.eq_ofNat_of_zero_le hb.1
        have hi : i < s.p.n := by omega
        have hj : j < s.p.n := by omega
        have hij : i ≠ j := by omega
        simp only [tn]
        obtain ⟨g1, g2, g3, g4, g5, g6⟩ := hs
        have hW : WF4 (s.p.1, s.p.2.1, s.p.2.2.1, up (up s.p.lot i (s.p.lot j)) j (s.p.lot i), s.p.2.2.2.2) := ⟨⟨g1.1.1, g1.1.2.1, g1.1.2.2.1, g1.1.2.2.2.1.swap hi hj hij, g1.1.2.2.2.2⟩, g1.2⟩
        refine ⟨s.p.lot j, ((s.p.1, s.p.2.1, s.p.2.2.1, up (up s.p.lot i (s.p.lot j)) j (s.p.lot i), s.p.2.2.2.2), s.2), ⟨hW, g2, g3, g4, g5, g6⟩, fun M hC => ok_bs (c1 M hC _) (ok_el (by rw [if_pos ha]; exact one0) (ok_bs (c1 M hC _) (ok_el (by rw [if_pos hb]; exact one0) (ok_el hne (ok_chk (by omega) (ok_nm0 (ok_chk (by omega) (ok_chk (by omega) (ok_nm0 (ok_chk (by omega) (ok_nm0 (ok_nm0 (ok_chk (by omega) (ok_some ?_)))))))))))))), fun M hD => ok_bs (c2 M hD _) (ok_el (by rw [if_pos ha]; exact one0) (ok_bs (c2 M hD _) (ok_el (by rw [if_pos hb]; exact one0) (ok_el hne (ok_chk (by omega) (ok_nm0 (ok_chk (by omega) (ok_chk (by omega) (ok_nm0 (ok_chk (by omega) (ok_nm0 (ok_chk (by omega) (ok_some ?_)))))))))))))⟩
        · obtain ⟨⟨b1, b2, b3, b4, b5, b6, b7⟩, ⟨d1, d2, d3, d4⟩, f1, f2⟩ := hC.1.1
          have vi : M 11002 i = s.p.lot i := (b3 i hi).2
          have vj : M 11002 j = s.p.lot j := (b3 j hj).2
          dsimp only
          rw [vi, vj]
          have ev : wr (wr (wr M 11002 i (s.p.lot j)) 11002 j (s.p.lot i)) 10 6 0 11002 = up (up (M 11002) i (s.p.lot j)) j (s.p.lot i) := by rw [wrn (by omega), wre, wre]
          have fx : ∀ x, x ≠ 10 → x ≠ 11002 → wr (wr (wr M 11002 i (s.p.lot j)) 11002 j (s.p.lot i)) 10 6 0 x = M x := fun x x1 x2 => by rw [wrn x1, wrn x2, wrn x2]
          refine ⟨by (try dsimp only); rw [ev, up_ne hij, up_same], hC.mut (e' := s.e) ⟨⟨by simpa [wr] using b1, by simpa [wr] using b2, fun x hx => ⟨by simpa [wr] using (b3 x hx).1, ?_⟩, fun b hb => by simpa [wr] using b4 b hb, by simpa [wr] using b5, by simpa [wr] using b6, by simpa [wr] using b7⟩, ⟨by simpa [wr] using d1, by simpa [wr] using d2, fun k hk => by simpa [wr] using d3 k hk, fun k hk => by simpa [wr] using d4 k hk⟩, fun x hx => by simpa [wr] using f1 x hx, fun k hk => by simpa [wr] using f2 k hk⟩ (by simp [wr]) (by simp [wr]) (fun x hx => fx x (by omega) (by omega)), fun x hx => fx x (by omega) (by omega)⟩
          show wr (wr (wr M 11002 i (s.p.lot j)) 11002 j (s.p.lot i)) 10 6 0 11002 x = up (up s.p.lot i (s.p.lot j)) j (s.p.lot i) x
          rw [ev]
          have hx2 : M 11002 x = s.p.lot x := (b3 x hx).2
          simp only [up, hx2]
        · obtain ⟨b1, b2, b3, b4, b5, b6, b7⟩ := hD.1
          have vi : M 20004 i = s.p.lot i := (b3 i hi).2
          have vj : M 20004 j = s.p.lot j := (b3 j hj).2
          dsimp only
          rw [vi, vj]
          have ev : wr (wr M 20004 i (s.p.lot j)) 20004 j (s.p.lot i) 20004 = up (up (M 20004) i (s.p.lot j)) j (s.p.lot i) := by rw [wre, wre]
          have fx : ∀ x, x ≠ 20004 → wr (wr M 20004 i (s.p.lot j)) 20004 j (s.p.lot i) x = M x := fun x x1 => by rw [wrn x1, wrn x1]
          refine ⟨by (try dsimp only); rw [ev, up_ne hij, up_same], hD.of (e' := s.e) ⟨by simpa [wr] using b1, by simpa [wr] using b2, fun x hx => ⟨by simpa [wr] using (b3 x hx).1, ?_⟩, fun b hb => by simpa [wr] using b4 b hb, by simpa [wr] using b5, by simpa [wr] using b6, by simpa [wr] using b7⟩ (hD.2.1.same (fun k _ => by (try dsimp only); rw [fx 20000 (by omega)]) (fun x _ _ => fx x (by omega))) (fun k _ => by (try dsimp only); rw [fx 20000 (by omega)]) (fun x hx => fx x (by omega)), fun x hx => fx x (by omega)⟩
          show wr (wr M 20004 i (s.p.lot j)) 20004 j (s.p.lot i) 20004 x = up (up s.p.lot i (s.p.lot j)) j (s.p.lot i) x
          rw [ev]
          have hx2 : M 20004 x = s.p.lot x := (b3 x hx).2
          simp only [up, hx2]
    · exact ⟨-1, s, hs, fun M hC => ok_bs (c1 M hC a) (ok_el (by rw [if_pos ha]; exact one0) (ok_bs (c1 M hC b) (ok_if (by rw [if_neg hb]) (ok_some (PC.self hC))))), fun M hD => ok_bs (c2 M hD a) (ok_el (by rw [if_pos ha]; exact one0) (ok_bs (c2 M hD b) (ok_if (by rw [if_neg hb]) (ok_some (PD.self hD)))))⟩
  · exact ⟨-1, s, hs, fun M hC => ok_bs (c1 M hC a) (ok_if (by rw [if_neg ha]) (ok_some (PC.self hC))), fun M hD => ok_bs (c2 M hD a) (ok_if (by rw [if_neg ha]) (ok_some (PD.self hD)))⟩
end
