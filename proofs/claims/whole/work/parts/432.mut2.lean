section
/-! what is told changes -/
theorem CT.pc {M M' : Mem} {t : Nat} {p : PL} {st : ST} (h : CT M t p st) (hl : st.h.length ≤ 8) (hx : ∀ x, t ≤ x → x < t + 1000 → M' x = M x) (hp : PCc M' (t + 10000) p) : CT M' t p st := by
  obtain ⟨a1, a2, a3, a4, a5, a6, a7, a8, a9⟩ := h
  have e0 := hx t (by omega) (by omega)
  refine ⟨by rw [e0]; exact a1, by rw [e0]; exact a2, by rw [e0]; exact a3, fun c hc => ?_, fun i c hi => ?_, fun s sr hs => ?_, fun e => ?_, ?_, hp⟩
  · rw [hx (t + 3) (by omega) (by omega), hx (t + 10) (by omega) (by omega), hx (t + 4) (by omega) (by omega)]; exact a4 c hc
  · rw [hx (t + 5) (by omega) (by omega)]; exact a5 i c hi
  · have := getq_lt hs
    exact (a6 s sr hs).same (hx _ (by omega) (by omega)) (hx _ (by omega) (by omega)) (hx _ (by omega) (by omega))
  · rw [e0, hx (t + 11) (by omega) (by omega)]; exact a7 e
  · exact a8.same (hx _ (by omega) (by omega)) (hx _ (by omega) (by omega)) (hx _ (by omega) (by omega))
theorem CI0.of {M M' : Mem} {s : SS} {p' : PL} {e' : SE} (h : CI0 M s) (hp : PF M' 11000 p' e') (h3 : M' 10 3 = M 10 3) (hx : ∀ x, (50 ≤ x ∧ x < 1000) ∨ (13000 ≤ x ∧ x < 13016) → M' x = M x) : CI0 M' (p', e', s.2.2) := by
  obtain ⟨a1, a2, a3, a4, a5⟩ := h
  refine ⟨hp, ?_, ?_, ?_, fun t ht => ?_⟩
  · show IMc M' s.i
    cases e : s.i with
    | none => rw [e] at a2; exact h3.trans a2
    | some q => rw [e] at a2; exact ⟨h3.trans a2.1, a2.2.same (fun x _ _ => hx x (by omega))⟩
  · show TXc M' s.x
    unfold TXc at *
    rw [hx 210 (by omega), hx 212 (by omega)]; exact a3
  · show TRc M' s.t
    unfold TRc at *
    rw [hx 310 (by omega), hx 312 (by omega), hx 313 (by omega)]; exact a4
  · rw [hx (56 + 16 * t) (by omega), hx (59 + 16 * t) (by omega)]; exact a5 t ht
theorem CI.mut {M M' : Mem} {s : SS} {p' : PL} {e' : SE} (h : CI M s) (hp : PF M' 11000 p' e') (h6 : M' 10 6 = 0) (h3 : M' 10 3 = M 10 3) (hx : ∀ x, (50 ≤ x ∧ x < 1000) ∨ (13000 ≤ x ∧ x < 13016) → M' x = M x) : CI M' (p', e', s.2.2) := ⟨h.1.of hp h3 hx, Or.inl h6⟩
theorem CI.se {M M' : Mem} {s : SS} {e' : SE} (hs : GS s) (h : CI M s) (hp : PF M' 11000 s.p e') (h10 : M' 10 = M 10) (hx : ∀ x, (50 ≤ x ∧ x < 2000) ∨ (13000 ≤ x ∧ x < 13016) → M' x = M x) : CI M' (s.1, e', s.2.2) := by
  refine ⟨h.1.of hp (by rw [h10]) (fun x hx' => hx x (by omega)), ?_⟩
  show FT M' s.p
  rcases h.2 with h6 | h6
  · exact Or.inl (by rw [h10]; exact h6)
  · exact Or.inr ⟨by rw [h10]; exact h6.1, h6.2.pc (cnt_len hs.1.1) (fun x _ _ => hx x (by omega)) hp.1⟩
theorem DI.of {M M' : Mem} {s : SS} {p' : PL} {e' : SE} (h : DI M s) (hp : PMm M' 20000 p') (he : SEm M' 20000 e') (h0 : ∀ j, j = 15 ∨ j = 46 ∨ j = 55 → M' 20000 j = M 20000 j) (hx : ∀ x, (20017 ≤ x ∧ x < 20019) ∨ x = 20046 ∨ (20057 ≤ x ∧ x < 20069) ∨ 20104 ≤ x → M' x = M x) : DI M' (p', e', s.2.2) := by
  obtain ⟨a1, a2, a3, a4, a5, a6⟩ := h
  refine ⟨hp, he, ?_, ?_, ?_, fun t ht => ?_⟩
  · show IMm M' 20000 s.i
    cases e : s.i with
    | none => rw [e] at a3; exact (h0 55 (by omega)).trans a3
    | some q =>
      rw [e] at a3
      unfold IMm at *
      rw [h0 55 (by omega), hx (20000 + 57) (by omega), hx (20000 + 58) (by omega), hx (20000 + 59) (by omega), hx (20000 + 60) (by omega), hx (20000 + 61) (by omega), hx (20000 + 62) (by omega), hx (20000 + 63) (by omega), hx (20000 + 64) (by omega), hx (20000 + 65) (by omega)]
      exact a3
  · show TXm M' 20000 s.x
    unfold TXm at *
    rw [h0 46 (by omega), hx (20000 + 46) (by omega)]; exact a4
  · show TRm M' 20000 s.t
    unfold TRm at *
    rw [h0 15 (by omega), hx (20000 + 17) (by omega), hx (20000 + 18) (by omega)]; exact a5
  · rw [hx (20000 + 66) (by omega), hx (20000 + 67) (by omega), hx (20000 + 68 + 36 + 16 * t) (by omega)]; exact a6 t ht
theorem SEm.same {M M' : Mem} {e : SE} (h : SEm M 20000 e) (h0 : ∀ j, j = 9 ∨ j = 10 → M' 20000 j = M 20000 j) (hx : ∀ x, 20012 ≤ x → x < 20016 → M' x = M x) : SEm M' 20000 e := by
  unfold SEm at *
  rw [h0 9 (by omega), h0 10 (by omega), hx (20000 + 12) (by omega) (by omega), hx (20000 + 13) (by omega) (by omega), hx (20000 + 14) (by omega) (by omega), hx (20000 + 15) (by omega) (by omega)]
  exact h
theorem rgood.mono {n m : Nat} (hnm : n ≤ m) {l : List Int} (h : rgood n l) : rgood m l := ⟨h.1, h.2.1, fun d hd => by have := h.2.2.1 d hd; omega, h.2.2.2⟩
theorem SEok.mono {n m : Nat} (hnm : n ≤ m) {e : SE} (h : SEok n e) : SEok m e := ⟨h.1, fun k hk => by have := h.2.1 k hk; omega, h.2.2.1, fun k hk => by
  have := h.2.2.2 k hk
  exact ⟨this.1, this.2.1, this.2.2.1, fun e => by have := this.2.2.2 e; omega⟩⟩
theorem op_candidate {s : SS} (hs : GS s) : Op s (fX8_candidate 10) (fX9_candidate 20000) := by
  obtain ⟨g1, g2, g3, g4, g5, g6⟩ := hs
  have h8 := g1.1.1
  unfold fX8_candidate fX9_candidate
  simp only [Nat.reduceAdd]
  by_cases hn : s.p.n = 8
  · refine ⟨-4, s, ⟨g1, g2, g3, g4, g5, g6⟩, fun M hC => ?_, fun M hD => ?_⟩
    · have e : M 11000 0 = s.p.n := hC.1.1.1.1
      dsimp only
      simp only [e]
      exact ok_el (by omega) (ok_some (PC.self hC))
    · have e : M 20000 0 = s.p.n := hD.1.1
      dsimp only
      simp only [e]
      exact ok_if (by omega) (ok_some (PD.self hD))
  · have hW : WF4 (s.p.n + 1, s.p.nb, up s.p.g s.p.n 0, up s.p.lot s.p.n s.p.n, s.p.2.2.2.2) := by
      refine ⟨⟨by show s.p.n + 1 ≤ 8; omega, g1.1.2.1, fun c hc => ?_, ?_, fun b hb => ?_, g1.1.2.2.2.2.2⟩, g1.2⟩
      · have hc' : c < s.p.n + 1 := hc
        show up s.p.g s.p.n 0 c = 0 ∨ up s.p.g s.p.n 0 c = 1
        by_cases e : c = s.p.n
        · subst e; rw [up_same]; exact Or.inl rfl
        · rw [up_ne e]; exact g1.1.2.2.1 c (by omega)
      · obtain ⟨inv, i1, i2⟩ := g1.1.2.2.2.1
        refine ⟨fun c => if c = s.p.n then s.p.n else inv c, fun i hi => ?_, fun c hc => ?_⟩
        · have hi' : i < s.p.n + 1 := hi
          show ∃ c, c < s.p.n + 1 ∧ up s.p.lot s.p.n s.p.n i = (c : Int) ∧ (if c = s.p.n then s.p.n else inv c) = i
          by_cases e : i = s.p.n
          · subst e
            exact ⟨s.p.n, by omega, by rw [up_same], if_pos rfl⟩
          · obtain ⟨c, hc, e1, e2⟩ := i1 i (by omega)
            exact ⟨c, by omega, by rw [up_ne e]; exact e1, by rw [if_neg (by omega)]; exact e2⟩
        · have hc' : c < s.p.n + 1 := hc
          show (if c = s.p.n then s.p.n else inv c) < s.p.n + 1 ∧ up s.p.lot s.p.n s.p.n (if c = s.p.n then s.p.n else inv c) = (c : Int)
          by_cases e : c = s.p.n
          · rw [if_pos e, up_same]; exact ⟨by omega, by rw [e]⟩
          · have := i2 c (by omega)
            rw [if_neg e, up_ne (by omega)]; exact ⟨by omega, this.2⟩
      · have := g1.1.2.2.2.2.1 b hb
        exact ⟨this.1.mono (Nat.le_succ _), this.2⟩
    refine ⟨s.p.n, ((s.p.n + 1, s.p.nb, up s.p.g s.p.n 0, up s.p.lot s.p.n s.p.n, s.p.2.2.2.2), s.2), ⟨hW, g2.mono (Nat.le_succ _), g3, g4, g5, g6⟩, fun M hC => ?_, fun M hD => ?_⟩
    · have e : M 11000 0 = s.p.n := hC.1.1.1.1
      dsimp only
      simp only [e]
      refine ok_if (by omega) (ok_nm0 (ok_chk (by omega) (ok_nm0 (ok_chk (by omega) (ok_nm0 (ok_chk (by omega) (ok_nm0 (ok_nm0 (ok_some ?_)))))))))
      rw [tn]
      have fx : ∀ x, x ≠ 10 → x ≠ 11000 → x ≠ 11002 → x ≠ 11003 → wr (wr (wr (wr M 11002 s.p.n s.p.n) 11003 s.p.n 0) 11000 0 ((s.p.n : Int) + 1)) 10 6 0 x = M x := fun x x1 x2 x3 x4 => by rw [wrn x1, wrn x2, wrn x4, wrn x3]
      obtain ⟨⟨b1, b2, b3, b4, b5, b6, b7⟩, ⟨d1, d2, d3, d4⟩, f1, f2⟩ := hC.1.1
      refine ⟨rfl, hC.mut (e' := s.e) ⟨⟨by simp [wr, PL.n], by simpa [wr] using b2, fun c hc => ?_, fun b hb => by simpa [wr] using b4 b hb, by simpa [wr] using b5, by simpa [wr] using b6, by simpa [wr] using b7⟩, ⟨by simpa [wr] using d1, by simpa [wr] using d2, fun k hk => by simpa [wr] using d3 k hk, fun k hk => by simpa [wr] using d4 k hk⟩, fun c hc => ?_, fun k hk => by simpa [wr] using f2 k hk⟩ (by simp [wr]) (by simp [wr]) (fun x hx => fx x (by omega) (by omega) (by omega) (by omega)), fun x hx => fx x (by omega) (by omega) (by omega) (by omega)⟩
      · have hc' : c < s.p.n + 1 := hc
        by_cases e : c = s.p.n
        · subst e; simp [wr, up, PL.n, PL.g, PL.lot]
        · have := b3 c (by omega); simpa [wr, up, PL.n, PL.g, PL.lot, show ¬ c = s.1.1 from e] using this
      · by_cases e : c = s.p.n
        · subst e; simp [wr]
        · have := f1 c hc; simpa [wr, e] using this
    · have e : M 20000 0 = s.p.n := hD.1.1
      have e1 : ∀ v, wr M 20003 s.p.n v 20000 0 = s.p.n := fun v => by rw [wrn (by omega)]; exact e
      have e2 : ∀ v w, wr (wr M 20003 s.p.n v) 20004 s.p.n w 20000 0 = s.p.n := fun v w => by rw [wrn (by omega)]; exact e1 v
      dsimp only
      simp only [e, tn]
      refine ok_el (by omega) (ok_chk (by omega) (ok_nm0 ?_))
      simp only [e1, tn]
      refine ok_chk (by omega) (ok_nm0 ?_)
      simp only [e2]
      refine ok_chk (by omega) (ok_nm0 ?_)
      have e3 : ∀ v w x, wr (wr (wr M 20003 s.p.n v) 20004 s.p.n w) 20000 0 x 20000 0 = x := fun v w x => by rw [wra]
      simp only [e3]
      refine ok_chk (by omega) (ok_some ?_)
      rw [show (s.p.n : Int) + 1 - 1 = (s.p.n : Int) by omega]
      have fx : ∀ x, x ≠ 20000 → x ≠ 20003 → x ≠ 20004 → wr (wr (wr M 20003 s.p.n 0) 20004 s.p.n s.p.n) 20000 0 ((s.p.n : Int) + 1) x = M x := fun x x1 x2 x3 => by rw [wrn x1, wrn x3, wrn x2]
      have k0 : ∀ j, j ≠ 0 → wr (wr (wr M 20003 s.p.n 0) 20004 s.p.n s.p.n) 20000 0 ((s.p.n : Int) + 1) 20000 j = M 20000 j := fun j hj => by rw [wrk _ hj, wrn (by omega), wrn (by omega)]
      obtain ⟨b1, b2, b3, b4, b5, b6, b7⟩ := hD.1
      refine ⟨rfl, hD.of (e' := s.e) ⟨by simp [wr, PL.n], by simpa [wr] using b2, fun c hc => ?_, fun b hb => by simpa [wr] using b4 b hb, by simpa [wr] using b5, by simpa [wr] using b6, by simpa [wr] using b7⟩ (hD.2.1.same (fun j hj => k0 j (by omega)) (fun x _ _ => fx x (by omega) (by omega) (by omega))) (fun j hj => k0 j (by omega)) (fun x hx => fx x (by omega) (by omega) (by omega)), fun x hx => fx x (by omega) (by omega) (by omega)⟩
      have hc' : c < s.p.n + 1 := hc
      by_cases e : c = s.p.n
      · subst e; simp [wr, up, PL.n, PL.g, PL.lot]
      · have := b3 c (by omega); simpa [wr, up, PL.n, PL.g, PL.lot, show ¬ c = s.1.1 from e] using this
theorem op_drop {s : SS} (hs : GS s) : Op s (fX8_drop 10) (fX9_drop 20000) := by
  obtain ⟨g1, g2, g3, g4, g5, g6⟩ := hs
  have h24 := g1.2
  unfold fX8_drop fX9_drop
  simp only [Nat.reduceAdd]
  by_cases hn : s.p.nb = 0
  · refine ⟨-3, s, ⟨g1, g2, g3, g4, g5, g6⟩, fun M hC => ?_, fun M hD => ?_⟩
    · have e : M 11000 3 = s.p.nb := hC.1.1.1.2.1
      dsimp only
      simp only [e]
      exact ok_el (by omega) (ok_some (PC.self hC))
    · have e : M 20000 1 = s.p.nb := hD.1.2.1
      dsimp only
      simp only [e]
      exact ok_if (by omega) (ok_some (PD.self hD))
  · obtain ⟨nb, hnb⟩ : ∃ k, s.p.nb = k + 1 := ⟨s.p.nb - 1, by omega⟩
    have hsm := sm_nb g1.1 (b := nb) (by omega)
    have hlt : ∀ b, b < nb → b < s.p.nb := fun b hb => by omega
    have h25 : nb ≤ 25 := by omega
    have h24' : nb ≤ 24 := by omega
    have hW : WF4 (s.p.n, nb, s.p.2.2) := ⟨⟨g1.1.1, h25, g1.1.2.2.1, g1.1.2.2.2.1, fun b hb => g1.1.2.2.2.2.1 b (hlt b hb), hsm, g1.1.2.2.2.2.2.2⟩, h24'⟩
    refine ⟨nb, ((s.p.n, nb, s.p.2.2), s.2), ⟨hW, g2, g3, g4, g5, g6⟩, fun M hC => ?_, fun M hD => ?_⟩
    · have e : M 11000 3 = s.p.nb := hC.1.1.1.2.1
      dsimp only
      simp only [e]
      rw [show (s.p.nb : Int) - 1 = (nb : Int) by omega]
      refine ok_if (by omega) (ok_chk (by omega) (ok_nm0 (ok_nm0 (ok_some ?_))))
      have ev : wr (wr M 11000 3 (nb : Int)) 10 6 0 11000 3 = nb := by rw [wrn (by omega), wra]
      rw [ev]
      have fx : ∀ x, x ≠ 10 → x ≠ 11000 → wr (wr M 11000 3 (nb : Int)) 10 6 0 x = M x := fun x x1 x2 => by rw [wrn x1, wrn x2]
      obtain ⟨⟨b1, b2, b3, b4, b5, b6, b7⟩, ⟨d1, d2, d3, d4⟩, f1, f2⟩ := hC.1.1
      exact ⟨rfl, hC.mut (e' := s.e) ⟨⟨by simpa [wr] using b1, ev, fun c hc => by simpa [wr] using b3 c hc, fun b hb => by simpa [wr] using b4 b (hlt b hb), by simpa [wr] using b5, by simpa [wr] using b6, by simpa [wr] using b7⟩, ⟨by simpa [wr] using d1, by simpa [wr] using d2, fun k hk => by simpa [wr] using d3 k hk, fun k hk => by simpa [wr] using d4 k hk⟩, fun c hc => by simpa [wr] using f1 c hc, fun k hk => by simpa [wr] using f2 k hk⟩ (by simp [wr]) (by simp [wr]) (fun x hx => fx x (by omega) (by omega)), fun x hx => fx x (by omega) (by omega)⟩
    · have e : M 20000 1 = s.p.nb := hD.1.2.1
      dsimp only
      simp only [e]
      rw [show (s.p.nb : Int) - 1 = (nb : Int) by omega]
      refine ok_el (by omega) (ok_chk (by omega) (ok_nm0 (ok_some ?_)))
      rw [wra]
      have fx : ∀ x, x ≠ 20000 → wr M 20000 1 (nb : Int) x = M x := fun x hx => wrn hx
      have k0 : ∀ j, j ≠ 1 → wr M 20000 1 (nb : Int) 20000 j = M 20000 j := fun j hj => wrk _ hj
      obtain ⟨b1, b2, b3, b4, b5, b6, b7⟩ := hD.1
      exact ⟨rfl, hD.of (e' := s.e) ⟨by simpa [wr] using b1, by simp [wr], fun c hc => by simpa [wr] using b3 c hc, fun b hb => by simpa [wr] using b4 b (hlt b hb), by simpa [wr] using b5, by simpa [wr] using b6, by simpa [wr] using b7⟩ (hD.2.1.same (fun j hj => k0 j (by omega)) (fun x _ _ => fx x (by omega))) (fun j hj => k0 j (by omega)) (fun x hx => fx x (by omega)), fun x hx => fx x (by omega)⟩
end
