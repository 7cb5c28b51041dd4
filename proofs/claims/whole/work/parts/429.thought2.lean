section
/-! raised, needs, fits -/
theorem nd_len : ∀ (n : Nat) (l : List Int), l.Nodup → (∀ d, d ∈ l → 1 ≤ d ∧ d ≤ (n : Int)) → l.length ≤ n
  | 0, l, _, h => by
    cases l with
    | nil => exact Nat.le_refl 0
    | cons d r => have := h d List.mem_cons_self; omega
  | n + 1, l, hn, h => by
    by_cases e : ((n : Int) + 1) ∈ l
    · have h1 := nd_len n (l.erase ((n : Int) + 1)) (hn.erase _) (fun d hd => by
        have h2 := (hn.mem_erase_iff).mp hd
        have := h d h2.2
        have := h2.1
        omega)
      rw [List.length_erase_of_mem e] at h1
      omega
    · have := nd_len n l hn (fun d hd => by
        have h2 := h d hd
        have : d ≠ (n : Int) + 1 := fun e2 => e (e2 ▸ hd)
        omega)
      omega
theorem led_good {n : Nat} (hn : n ≤ 8) {l : List Int} (h : rgood n l) {c : Nat} (hc : c < n) : rgood n (led ((c : Int) + 1) l) := by
  have hm : ∀ d, d ∈ led ((c : Int) + 1) l → 1 ≤ d ∧ d ≤ (n : Int) := by
    intro d hd
    rcases List.mem_cons.mp hd with e | e
    · omega
    · have h1 := (List.mem_filter.mp e).1
      have := h.1.1 d h1
      have := h.2.2.1 d h1
      omega
  have hnd : (led ((c : Int) + 1) l).Nodup := List.nodup_cons.mpr ⟨fun hx => by have := (List.mem_filter.mp hx).2; simp at this, h.2.2.2.sublist List.filter_sublist⟩
  have hl := nd_len n _ hnd hm
  exact ⟨⟨fun d hd => by have := hm d hd; omega, by omega⟩, by simp [led], fun d hd => (hm d hd).2, hnd⟩
abbrev wL (p : PL) (L : Nat → List Int) : PL := (p.1, p.2.1, p.2.2.1, p.2.2.2.1, L, p.2.2.2.2.2)
def upL (L : Nat → List Int) (b : Nat) (l : List Int) : Nat → List Int := fun k => if k = b then l else L k
theorem upL_same (L : Nat → List Int) (b : Nat) (l : List Int) : upL L b l b = l := by simp [upL]
theorem upL_ne {L : Nat → List Int} {b k : Nat} {l : List Int} (h : k ≠ b) : upL L b l k = L k := by simp [upL, h]
theorem raised_l33 {a : Nat} {x1 : Int} {c : Nat} {l : List Int} {n : Nat} (hn : n ≤ 8) (hc : c < n) (h : rgood n l) (M : Mem) : ∀ (m i : Nat) (x : Int), i ≤ l.length → l.length < m + i → x = num (led ((c : Int) + 1) (l.take i)) → Ok (fX9_raised_l33 a x1 c (num l) m x i M) (fun z => z.1 = num (led ((c : Int) + 1) l) ∧ z.2.2 = M) := by
  intro m
  have h8 := h.1.2
  have hlg := led_good hn h hc
  induction m with
  | zero => intros; omega
  | succ m ih =>
    intro i x h1 h2 hx
    unfold fX9_raised_l33
    refine ok_bs (lengthOf_ok h.1 M) (ok_ite (fun hq => ok_some ⟨?_, rfl⟩) (fun hq => ?_))
    · dsimp only at hq
      rw [List.take_of_length_le (by omega)] at hx
      exact hx
    · dsimp only at hq
      have hi : i < l.length := by omega
      have hr := rl_getD h.1 hi
      have hd := getD_lt hi
      have hx2 := led_take ((c : Int) + 1) hi
      rw [← hd] at hx2
      have hsub : (led ((c : Int) + 1) (l.take i)).length ≤ 8 := by
        have h3 : ((l.take i).filter (fun x => decide (x ≠ (c : Int) + 1))).length ≤ (l.filter (fun x => decide (x ≠ (c : Int) + 1))).length := ((List.take_sublist i l).filter _).length_le
        have h4 := hlg.1.2
        simp only [led, List.length_cons] at h4 ⊢
        omega
      have hgl := led_gl (h.1.take i) (d := (c : Int) + 1) (by omega)
      have hn9 := num9 hgl hsub
      refine ok_bs (digitAt_ok h.1 hi M) (ok_chk (by omega) (ok_bi (ok_ite (fun hq => ?_) (fun hq => ?_))))
      · dsimp only at hq
        rw [if_pos hq] at hx2
        refine ok_some (ok_chk (by omega) (ih (i + 1) _ (by omega) (by omega) ?_))
        rw [hx2, List.append_nil]; exact hx
      · dsimp only at hq
        rw [if_neg hq] at hx2
        refine ok_chk (by omega) (ok_bs (digitAt_ok h.1 hi M) (ok_chk (by (try dsimp only); omega) (ok_nm0 (ok_some (ok_chk (by omega) (ih (i + 1) _ (by omega) (by omega) ?_))))))
        rw [hx2, num_snoc, hx]
theorem op_raised {s : SS} (hs : GS s) (b c : Int) : Op s (fX8_raised 10 b c) (fX9_raised 20000 b c) := by
  have h8 := hs.1.1.1
  have h25 := hs.1.1.2.1
  unfold fX8_raised fX9_raised
  simp only [Nat.reduceAdd]
  have c1 := fun (N : Mem) (hN : CI N s) => hasCand_ok (c := c) (M := N) (o := 11000) (n := s.p.n) hN.1.1.1.1
  have c2 := fun (N : Mem) (hD : DI N s) => isOne_ok (c := c) (M := N) (a := 20000) (n := s.p.n) h8 hD.1.1
  have b1 := fun (N : Mem) (hN : CI N s) => hasBal_ok (c := b) (M := N) (o := 11000) (n := s.p.nb) hN.1.1.1.2.1
  have b2 := fun (N : Mem) (hD : DI N s) => isBal_ok (c := b) (M := N) (a := 20000) (n := s.p.nb) h25 hD.1.2.1
  by_cases hb : 0 ≤ b ∧ b < s.p.nb
  · obtain ⟨e, rfl⟩ := Int.eq_ofNat_of_zero_le hb.1
    have he : e < s.p.nb := by omega
    rw [if_pos hb] at b1 b2
    by_cases hc : 0 ≤ c ∧ c < s.p.n
    · obtain ⟨d, rfl⟩ := Int.eq_ofNat_of_zero_le hc.1
      have hd : d < s.p.n := by omega
      rw [if_pos hc] at c1 c2
      simp only [tn]
      have hr := (hs.1.1.2.2.2.2.1 e he).1
      have hlg := led_good h8 hr hd
      have hW : WF (wL s.p (upL s.p.L e (led ((d : Int) + 1) (s.p.L e)))) := ⟨h8, h25, hs.1.1.2.2.1, hs.1.1.2.2.2.1, fun x hx => by
        show rgood s.p.n (upL s.p.L e (led ((d : Int) + 1) (s.p.L e)) x) ∧ _
        by_cases ex : x = e
        · subst ex; rw [upL_same]; exact ⟨hlg, (hs.1.1.2.2.2.2.1 x hx).2⟩
        · rw [upL_ne ex]; exact hs.1.1.2.2.2.2.1 x hx, hs.1.1.2.2.2.2.2⟩
      refine ⟨els (wL s.p (upL s.p.L e (led ((d : Int) + 1) (s.p.L e)))), s, hs, fun M hC => ok_bs (b1 M hC) (ok_el (show ¬ ((1 : Int) = 0) by decide) (ok_bs (c1 M hC) (ok_el (show ¬ ((1 : Int) = 0) by decide) (ok_by (copyT hs hC) (fun z hz => ok_chk (by omega) ?_))))), fun M hD => ok_bs (b2 M hD) (ok_el (show ¬ ((1 : Int) = 0) by decide) (ok_bs (c2 M hD) (ok_el (show ¬ ((1 : Int) = 0) by decide) (ok_chk (by omega) (ok_nm0 (ok_chk (by omega) (ok_nm0 ?_)))))))⟩
      · obtain ⟨z1, z2⟩ := hz
        have e5 : z.2 11005 e = fill (s.p.L e) := by rw [z2 11005 (by omega)]; exact (hC.1.1.1.2.2.2.1 e he).1
        rw [e5]
        refine ok_bs (ledBy_ok hr.1 (by omega) hlg.1 z.2) (ok_chk (by omega) (ok_nm0 ?_))
        dsimp only
        have hP : PCc (wr z.2 12005 e (fill (led ((d : Int) + 1) (s.p.L e)))) 12000 (wL s.p (upL s.p.L e (led ((d : Int) + 1) (s.p.L e)))) := by
          obtain ⟨a1, a2, a3, a4, a5⟩ := z1.1
          refine ⟨by rw [wrn (by omega)]; exact a1, by rw [wrn (by omega)]; exact a2, fun x hx => by rw [wrn (by omega), wrn (by omega)]; exact a3 x hx, fun x hx => ⟨?_, by rw [wrn (by omega)]; exact (a4 x hx).2⟩, by rw [wrn (by omega)]; exact a5⟩
          show wr z.2 12005 e (fill (led ((d : Int) + 1) (s.p.L e))) 12005 x = fill (upL s.p.L e (led ((d : Int) + 1) (s.p.L e)) x)
          rw [wre]
          by_cases ex : x = e
          · subst ex; rw [up_same, upL_same]
          · rw [up_ne ex, upL_ne ex]; exact (a4 x hx).1
        refine ok_by (thought_ok hW hP) (fun q hq => ok_some ?_)
        rw [hq.1]
        exact PC.th hs hC ((z2.wr (by omega)).trans (fun x hx => hq.2.2 x (by omega)))
      · have e5 : M 20005 e = num (s.p.L e) := (hD.1.2.2.2.1 e he).1
        dsimp only
        rw [e5]
        refine ok_by (raised_l33 h8 hd hr M 1000 0 _ (by omega) (by have := hr.1.2; omega) (by simp [led, num])) (fun z hz => ok_chk (by omega) (ok_nm0 ?_))
        obtain ⟨z1, z2⟩ := hz
        rw [z1, z2]
        have hP : PMm (wr M 20005 e (num (led ((d : Int) + 1) (s.p.L e)))) 20000 (wL s.p (upL s.p.L e (led ((d : Int) + 1) (s.p.L e)))) := by
          obtain ⟨a1, a2, a3, a4, a5⟩ := hD.1
          refine ⟨by rw [wrn (by omega)]; exact a1, by rw [wrn (by omega)]; exact a2, fun x hx => by rw [wrn (by omega), wrn (by omega)]; exact a3 x hx, fun x hx => ⟨?_, by rw [wrn (by omega)]; exact (a4 x hx).2⟩, by rw [wrn (by omega)]; exact a5⟩
          show wr M 20005 e (num (led ((d : Int) + 1) (s.p.L e))) 20005 x = num (upL s.p.L e (led ((d : Int) + 1) (s.p.L e)) x)
          rw [wre]
          by_cases ex : x = e
          · subst ex; rw [up_same, upL_same]
          · rw [up_ne ex, upL_ne ex]; exact (a4 x hx).1
        refine ok_by (elSet_ok hW hP) (fun q hq => ok_nm0 (ok_chk (by omega) (ok_nm0 (ok_some ?_))))
        obtain ⟨q1, q2, q3⟩ := hq
        rw [q1]
        have e3 : wr q.2 20005 e (num (s.p.L e)) 20005 = M 20005 := by
          rw [wre, q3.2 20005 (by omega), wre]
          funext k
          by_cases ex : k = e
          · subst ex; rw [up_same, e5]
          · rw [up_ne ex, up_ne ex]
        have fx : ∀ x, x ≠ 20005 → (x < 20000 ∨ (20000 < x ∧ x < 20020) ∨ 20043 ≤ x) → wr q.2 20005 e (num (s.p.L e)) x = M x := fun x hx hx2 => by rw [wrn hx, q3.2 x (by omega), wrn hx]
        refine ⟨rfl, hD.same (fun j hj => ?_) (fun x hx => ?_), fun x hx => fx x (by omega) (by omega)⟩
        · (try dsimp only); rw [wrn (by omega), q3.1 j (by omega) (by omega) (by omega) (by omega) (by omega) (by omega) (by omega), wrn (by omega)]
        · by_cases ex : x = 20005
          · subst ex; exact e3
          · exact fx x ex (by omega)
    · rw [if_neg hc] at c1 c2
      exact ⟨-1, s, hs, fun M hC => ok_bs (b1 M hC) (ok_el (show ¬ ((1 : Int) = 0) by decide) (ok_bs (c1 M hC) (ok_if rfl (ok_some (PC.self hC))))), fun M hD => ok_bs (b2 M hD) (ok_el (show ¬ ((1 : Int) = 0) by decide) (ok_bs (c2 M hD) (ok_if rfl (ok_some (PD.self hD)))))⟩
  · rw [if_neg hb] at b1 b2
    exact ⟨-1, s, hs, fun M hC => ok_bs (b1 M hC) (ok_if rfl (ok_some (PC.self hC))), fun M hD => ok_bs (b2 M hD) (ok_if rfl (ok_some (PD.self hD)))⟩
/-! SEEN so -/
def snR (e : SE) (w : Int) : Nat → Bool
  | 0 => true
  | k + 1 => snR e w k && decide ((if bt w (e.who k).toNat then (1 : Int) else 0) = e.so k)
theorem snR_f {e : SE} {w : Int} : ∀ {k j : Nat}, snR e w k = false → k ≤ j → snR e w j = false
  | k, 0, h, he => by
    have : k = 0 := by omega
    subst this; exact h
  | k, j + 1, h, he => by
    by_cases e1 : k = j + 1
    · subst e1; exact h
    · unfold snR
      rw [snR_f h (by omega)]; rfl
theorem seenC_l {o n : Nat} {e : SE} {w : Int} {M : Mem} (hn : n ≤ 8) (he : SEok n e) (h : SEc M o e) (h0 : 0 ≤ w) (h1 : w < 256) : ∀ (m k : Nat), k ≤ e.ns → e.ns < m + k → snR e w k = true → Ok (fX1_isSeenSo_l2 o w m k M) (fun z => ∃ a, z = .inl a ∧ a = ((if snR e w e.ns then 1 else 0 : Int), M)) := by
  intro m
  have h5 := he.1
  induction m with
  | zero => intros; omega
  | succ m ih =>
    intro k h1 h2 hb
    unfold fX1_isSeenSo_l2
    rw [h.1]
    refine ok_ite (fun hq => ok_some ⟨_, rfl, ?_⟩) (fun hq => ?_)
    · have : k = e.ns := by omega
      subst this; rw [hb]; rfl
    · have hk : k < e.ns := by omega
      have hw := he.2.1 k hk
      obtain ⟨d, hd⟩ := Int.eq_ofNat_of_zero_le hw.1
      have ee : snR e w (k + 1) = decide ((if bt w (e.who k).toNat then (1 : Int) else 0) = e.so k) := by
        show (snR e w k && _) = _
        rw [hb, Bool.true_and]
      simp only [tn, (h.2.2.1 k hk).1, (h.2.2.1 k hk).2]
      rw [hd, tn] at ee
      rw [hd, bt_shr h0 (by omega) (by omega)]
      have fin : ∀ v : Int, v = (if bt w d then (1 : Int) else 0) → Ok (if 0 ≤ (k : Int) ∧ (k : Int) < 5 then (if v = e.so k then if -2147483648 ≤ ((k : Int) + 1) ∧ ((k : Int) + 1) ≤ 2147483647 then fX1_isSeenSo_l2 o w m ((k : Int) + 1) M else none else some (.inl ((0 : Int), M))) else none) (fun z => ∃ a, z = .inl a ∧ a = ((if snR e w e.ns then 1 else 0 : Int), M)) := by
        intro v hv
        refine ok_chk (by omega) (ok_ite (fun hq2 => ok_chk (by omega) (ih (k + 1) (by omega) (by omega) (by rw [ee, ← hv]; simpa using hq2))) (fun hq2 => ok_some ⟨_, rfl, ?_⟩))
        have : snR e w (k + 1) = false := by rw [ee, ← hv]; simpa using hq2
        rw [snR_f this hk]; rfl
      refine ok_chk (by omega) (ok_bi ?_)
      cases hbt : bt w d
      · exact ok_if (by decide) (ok_some (fin 0 (by rw [hbt]; rfl)))
      · exact ok_el (by decide) (ok_some (fin 1 (by rw [hbt]; rfl)))
theorem seenC_ok {o n : Nat} {e : SE} {w : Int} {M : Mem} (hn : n ≤ 8) (he : SEok n e) (h : SEc M o e) (h0 : 0 ≤ w) (h1 : w < 256) : fX1_isSeenSo o w M = some ((if snR e w e.ns then 1 else 0 : Int), M) := by
  have h5 := he.1
  apply ok_eq
  unfold fX1_isSeenSo
  exact ok_lrl (seenC_l hn he h h0 h1 1000 0 (by omega) (by omega) rfl)
theorem seenM_l {a n : Nat} {e : SE} {w : Int} {M : Mem} (hn : n ≤ 8) (he : SEok n e) (h : SEm M a e) (h0 : 0 ≤ w) (h1 : w < 256) : ∀ (m k : Nat), k ≤ e.ns → e.ns < m + k → snR e w k = true → Ok (fX9_isAsSeen_l7 a w m k M) (fun z => ∃ r, z = .inl r ∧ r = ((if snR e w e.ns then 1 else 0 : Int), M)) := by
  intro m
  have h5 := he.1
  induction m with
  | zero => intros; omega
  | succ m ih =>
    intro k h1 h2 hb
    unfold fX9_isAsSeen_l7
    rw [h.1]
    refine ok_ite (fun hq => ok_some ⟨_, rfl, ?_⟩) (fun hq => ?_)
    · have : k = e.ns := by omega
      subst this; rw [hb]; rfl
    · have hk : k < e.ns := by omega
      have hw := he.2.1 k hk
      obtain ⟨d, hd⟩ := Int.eq_ofNat_of_zero_le hw.1
      have ee : snR e w (k + 1) = decide ((if bt w (e.who k).toNat then (1 : Int) else 0) = e.so k) := by
        show (snR e w k && _) = _
        rw [hb, Bool.true_and]
      simp only [tn, (h.2.2.1 k hk).1]
      rw [hd, tn] at ee
      rw [hd]
      refine ok_chk (by omega) (ok_bs (has_ok h0 (by omega) (by omega)) (ok_chk (by omega) ?_))
      dsimp only
      simp only [(h.2.2.1 k hk).2]
      refine ok_ite (fun hq2 => ok_chk (by omega) (ih (k + 1) (by omega) (by omega) (by rw [ee]; simpa using hq2))) (fun hq2 => ok_some ⟨_, rfl, ?_⟩)
      have : snR e w (k + 1) = false := by rw [ee]; simpa using hq2
      rw [snR_f this hk]; rfl
theorem els_bd {p : PL} (h : WF p) : 0 ≤ els p ∧ els p < 256 := mk_bd h.1 _
/-! fits -/
abbrev wse (p : PL) (se : Int) : PL := (p.1, p.2.1, p.2.2.1, p.2.2.2.1, p.2.2.2.2.1, p.2.2.2.2.2.1, se, p.2.2.2.2.2.2.2)
theorem WF.wse {p : PL} (h : WF p) {v : Int} (hv : 1 ≤ v ∧ v ≤ 7) : WF (wse p v) := ⟨h.1, h.2.1, h.2.2.1, h.2.2.2.1, h.2.2.2.2.1, h.2.2.2.2.2.1, hv, h.2.2.2.2.2.2.2⟩
def ft (p : PL) (e : SE) : Nat → Int × Int → Int × Int
  | 0, q => q
  | k + 1, q => ft p e k (if snR e (els (wse p ((k : Int) + 1))) e.ns then (q.1 + 1, (k : Int) + 1) else q)
theorem fitsC_l {s : SS} {w : Int} (hs : GS s) : ∀ (m k : Nat) (q : Int × Int) (M : Mem), k ≤ 7 → k < m → 0 ≤ q.1 → q.1 + k ≤ 7 → CI M s → (∃ v, PCc M 12000 (wse s.p v)) → Ok (fX8_fits_l31 10 w m q.1 q.2 k M) (fun z => z.1 = (ft s.p s.e k q).1 ∧ z.2.1 = (ft s.p s.e k q).2 ∧ CI z.2.2.2 s ∧ Th M z.2.2.2) := by
  intro m
  induction m with
  | zero => intros; omega
  | succ m ih =>
    intro k q M h1 h2 hq0 hq7 hC hP
    unfold fX8_fits_l31
    simp only [Nat.reduceAdd]
    cases k with
    | zero => exact ok_if (by omega) (ok_some ⟨rfl, rfl, hC, Th.refl M⟩)
    | succ k =>
      obtain ⟨v, hP⟩ := hP
      have hW := hs.1.1.wse (v := (k : Int) + 1) (by omega)
      have hP2 : PCc (wr M 12000 6 ((k : Int) + 1)) 12000 (wse s.p ((k : Int) + 1)) := by
        obtain ⟨a1, a2, a3, a4, a5, a6, a7⟩ := hP
        exact ⟨by rw [wrk _ (by decide)]; exact a1, by rw [wrk _ (by decide)]; exact a2, fun x hx => by rw [wrn (by omega), wrn (by omega)]; exact a3 x hx, fun x hx => by rw [wrn (by omega), wrn (by omega)]; exact a4 x hx, by rw [wra], by rw [wrk _ (by decide)]; exact a6, by rw [wrk _ (by decide)]; exact a7⟩
      have t1 : Th M (wr M 12000 6 ((k : Int) + 1)) := (Th.refl M).wr (by omega)
      rw [show ((k + 1 : Nat) : Int) = (k : Int) + 1 by omega]
      refine ok_el (by omega) (ok_nm0 (ok_by (thought_ok hW hP2) (fun z hz => ?_)))
      obtain ⟨z1, z2, z3⟩ := hz
      have t2 : Th M z.2 := t1.trans (fun x hx => z3 x (by omega))
      have hC2 := hC.th hs t2
      have hb := els_bd hW
      rw [z1]
      refine ok_bs (seenC_ok hs.1.1.1 hs.2.1 hC2.1.1.2.1 hb.1 hb.2) ?_
      have ef : ft s.p s.e (k + 1) q = ft s.p s.e k (if snR s.e (els (wse s.p ((k : Int) + 1))) s.e.ns then (q.1 + 1, (k : Int) + 1) else q) := rfl
      rw [ef]
      cases snR s.e (els (wse s.p ((k : Int) + 1))) s.e.ns
      · refine ok_bi (ok_if rfl (ok_some (ok_chk (by omega) ?_)))
        rw [show (k : Int) + 1 + -1 = (k : Int) by omega]
        exact (ih k q z.2 (by omega) (by omega) hq0 (by omega) hC2 ⟨_, z2⟩).mono (fun y hy => ⟨hy.1, hy.2.1, hy.2.2.1, t2.trans hy.2.2.2⟩)
      · refine ok_bi (ok_el (show ¬ ((1 : Int) = 0) by decide) (ok_chk (by omega) (ok_some (ok_chk (by omega) ?_))))
        rw [show (k : Int) + 1 + -1 = (k : Int) by omega]
        exact (ih k (q.1 + 1, (k : Int) + 1) z.2 (by omega) (by omega) (by (try dsimp only); omega) (by (try dsimp only); omega) hC2 ⟨_, z2⟩).mono (fun y hy => ⟨hy.1, hy.2.1, hy.2.2.1, t2.trans hy.2.2.2⟩)
theorem fitsM_l {s : SS} (hs : GS s) {x1 x2 : Int} : ∀ (m k : Nat) (q : Int × Int) (M M0 : Mem), k ≤ 7 → k < m → 0 ≤ q.1 → q.1 + k ≤ 7 → DI M0 s → FrM 20000 M0 (wr M 20000 6 (M0 20000 6)) → Ok (fX9_fits_l27 20000 x1 x2 m q.1 q.2 k M) (fun z => z.1 = (ft s.p s.e k q).1 ∧ z.2.1 = (ft s.p s.e k q).2 ∧ FrM 20000 M0 (wr z.2.2.2 20000 6 (M0 20000 6))) := by
  intro m
  induction m with
  | zero => intros; omega
  | succ m ih =>
    intro k q M M0 h1 h2 hq0 hq7 hD hF
    unfold fX9_fits_l27
    cases k with
    | zero => exact ok_if (by omega) (ok_some ⟨rfl, rfl, hF⟩)
    | succ k =>
      have hW := hs.1.1.wse (v := (k : Int) + 1) (by omega)
      have fa : ∀ j, j ≠ 6 → j ≠ 18 → j ≠ 22 → j ≠ 23 → j ≠ 29 → j ≠ 30 → j ≠ 31 → j ≠ 32 → M 20000 j = M0 20000 j := fun j j0 j1 j2 j3 j4 j5 j6 j7 => by have := hF.1 j j1 j2 j3 j4 j5 j6 j7; rw [wrk _ j0] at this; exact this
      have fx : ∀ x, (x < 20000 ∨ (20000 < x ∧ x < 20020) ∨ 20043 ≤ x) → M x = M0 x := fun x hx => by have := hF.2 x (by omega); rw [wrn (by omega)] at this; exact this
      have hP2 : PMm (wr M 20000 6 ((k : Int) + 1)) 20000 (wse s.p ((k : Int) + 1)) := by
        obtain ⟨a1, a2, a3, a4, a5, a6, a7⟩ := hD.1
        refine ⟨by rw [wrk _ (by decide), fa 0 (by omega) (by omega) (by omega) (by omega) (by omega) (by omega) (by omega) (by omega)]; exact a1, by rw [wrk _ (by decide), fa 1 (by omega) (by omega) (by omega) (by omega) (by omega) (by omega) (by omega) (by omega)]; exact a2, fun x hx => by rw [wrn (by omega), wrn (by omega), fx _ (by omega), fx _ (by omega)]; exact a3 x hx, fun x hx => by rw [wrn (by omega), wrn (by omega), fx _ (by omega), fx _ (by omega)]; exact a4 x hx, by rw [wra], by rw [wrk _ (by decide), fa 7 (by omega) (by omega) (by omega) (by omega) (by omega) (by omega) (by omega) (by omega)]; exact a6, by rw [wrk _ (by decide), fa 8 (by omega) (by omega) (by omega) (by omega) (by omega) (by omega) (by omega) (by omega)]; exact a7⟩
      rw [show ((k + 1 : Nat) : Int) = (k : Int) + 1 by omega]
      refine ok_el (by omega) (ok_nm0 ?_)
      have hb := els_bd hW
      have key : Ok (fX9_isAsSeen 20000 (wr M 20000 6 ((k : Int) + 1))) (fun r => r.1 = (if snR s.e (els (wse s.p ((k : Int) + 1))) s.e.ns then 1 else 0) ∧ FrM 20000 (wr M 20000 6 ((k : Int) + 1)) r.2) := by
        unfold fX9_isAsSeen
        refine ok_by (elSet_ok hW hP2) (fun z hz => ok_nm0 ?_)
        obtain ⟨z1, z2, z3⟩ := hz
        have hSE : SEm z.2 20000 s.e := by
          have h := hD.2.1
          unfold SEm at *
          rw [z3.1 9 (by omega) (by omega) (by omega) (by omega) (by omega) (by omega) (by omega), z3.1 10 (by omega) (by omega) (by omega) (by omega) (by omega) (by omega) (by omega), z3.2 (20000 + 12) (by omega), z3.2 (20000 + 13) (by omega), z3.2 (20000 + 14) (by omega), z3.2 (20000 + 15) (by omega), wrk _ (by decide), wrk _ (by decide), wrn (by omega), wrn (by omega), wrn (by omega), wrn (by omega), fa 9 (by omega) (by omega) (by omega) (by omega) (by omega) (by omega) (by omega) (by omega), fa 10 (by omega) (by omega) (by omega) (by omega) (by omega) (by omega) (by omega) (by omega), fx _ (by omega), fx _ (by omega), fx _ (by omega), fx _ (by omega)]
          exact h
        have h5 := hs.2.1.1
        rw [z1]
        refine ok_lrl ((seenM_l hs.1.1.1 hs.2.1 hSE hb.1 hb.2 1000 0 (by omega) (by omega) rfl).mono (fun y hy => ?_))
        obtain ⟨r, e, hr⟩ := hy
        exact ⟨r, e, by rw [hr], by rw [hr]; exact z3⟩
      refine ok_by key (fun r hr => ?_)
      obtain ⟨r1, r2⟩ := hr
      have hF2 : FrM 20000 M0 (wr r.2 20000 6 (M0 20000 6)) := by
        refine ⟨fun j j1 j2 j3 j4 j5 j6 j7 => ?_, fun x hx => ?_⟩
        · by_cases j0 : j = 6
          · subst j0; rw [wra]
          · rw [wrk _ j0, r2.1 j j1 j2 j3 j4 j5 j6 j7, wrk _ j0, fa j j0 j1 j2 j3 j4 j5 j6 j7]
        · rw [wrn (by omega), r2.2 x hx, wrn (by omega), fx x (by omega)]
      have ef : ft s.p s.e (k + 1) q = ft s.p s.e k (if snR s.e (els (wse s.p ((k : Int) + 1))) s.e.ns then (q.1 + 1, (k : Int) + 1) else q) := rfl
      rw [ef, r1]
      cases snR s.e (els (wse s.p ((k : Int) + 1))) s.e.ns
      · refine ok_bi (ok_if rfl (ok_some (ok_chk (by omega) ?_)))
        rw [show (k : Int) + 1 + -1 = (k : Int) by omega]
        exact ih k q r.2 M0 (by omega) (by omega) hq0 (by omega) hD hF2
      · refine ok_bi (ok_el (show ¬ ((1 : Int) = 0) by decide) (ok_chk (by omega) (ok_some (ok_chk (by omega) ?_))))
        rw [show (k : Int) + 1 + -1 = (k : Int) by omega]
        exact ih k (q.1 + 1, (k : Int) + 1) r.2 M0 (by omega) (by omega) (by (try dsimp only); omega) (by (try dsimp only); omega) hD hF2
theorem op_fits {s : SS} (hs : GS s) (w : Int) : Op s (fX8_fits 10 w) (fX9_fits 20000 w) := by
  unfold fX8_fits fX9_fits
  simp only [Nat.reduceAdd]
  by_cases hw : 0 ≤ w ∧ w ≤ 1
  · have clsF : ∀ M, CI M s → Ok (Option.bind (fX1_copyFrom 12000 11000 M) (fun q3 => Option.bind (fX8_fits_l31 10 w 1000 0 (-5) 7 q3.2) (fun z14 => some z14))) (fun z => z.1 = (ft s.p s.e 7 (0, -5)).1 ∧ z.2.1 = (ft s.p s.e 7 (0, -5)).2 ∧ CI z.2.2.2 s ∧ Th M z.2.2.2) := fun M hC => ok_by (copyT hs hC) (fun z hz => ok_by (fitsC_l (w := w) hs 1000 7 (0, -5) z.2 (by omega) (by omega) (by decide) (by decide) (hC.th hs hz.2) ⟨s.p.se, hz.1.1⟩) (fun y hy => ok_some ⟨hy.1, hy.2.1, hy.2.2.1, hz.2.trans hy.2.2.2⟩))
    have clsG : ∀ (ans : Int) (K : Int → Int → Option Int), K (ft s.p s.e 7 (0, -5)).1 (ft s.p s.e 7 (0, -5)).2 = some ans → ∀ M, CI M s → Ok (Option.bind (fX1_copyFrom 12000 11000 M) (fun q3 => Option.bind (fX8_fits_l31 10 w 1000 0 (-5) 7 q3.2) (fun z14 => Option.bind (K z14.1 z14.2.1) (fun t16 => some (t16, z14.2.2.2))))) (PC M s ans) := fun ans K hK M hC => ok_by (copyT hs hC) (fun z hz => ok_by (fitsC_l (w := w) hs 1000 7 (0, -5) z.2 (by omega) (by omega) (by decide) (by decide) (hC.th hs hz.2) ⟨s.p.se, hz.1.1⟩) (fun y hy => by
        rw [hy.1, hy.2.1, hK]
        exact ok_some ⟨rfl, hy.2.2.1, fun x hx => (hz.2.trans hy.2.2.2) x (by omega)⟩))
    have mdl : ∀ (ans : Int) (K : Int → Int → Option Int), K (ft s.p s.e 7 (0, -5)).1 (ft s.p s.e 7 (0, -5)).2 = some ans → ∀ M, DI M s → Ok (nm (M 20000 6) (fun v3 => Option.bind (fX9_fits_l27 20000 w v3 1000 0 (-5) 7 M) (fun z13 => nm (wr z13.2.2.2 20000 6 v3) (fun M14 => Option.bind (K z13.1 z13.2.1) (fun t16 => some (t16, M14)))))) (PD M s ans) := fun ans K hK M hD => by
      refine ok_nm0 (ok_by (fitsM_l hs 1000 7 (0, -5) M M (by omega) (by omega) (by decide) (by decide) hD ⟨fun j _ _ _ _ _ _ _ => ?_, fun x hx => ?_⟩) (fun y hy => ok_nm0 ?_))
      · by_cases e : j = 6
        · subst e; rw [wra]
        · rw [wrk _ e]
      · rw [wrn (by omega)]
      · rw [hy.1, hy.2.1, hK]
        exact ok_some ⟨rfl, hD.fr hy.2.2, fun x hx => hy.2.2.2 x (by omega)⟩
    by_cases w0 : w = 0
    · subst w0
      exact ⟨(ft s.p s.e 7 (0, -5)).1, s, hs, fun M hC => ok_el (by decide) (ok_if (by decide) (clsG _ (fun a b => if (0 : Int) = 0 then some a else some b) rfl M hC)), fun M hD => ok_bs in_ok (ok_el (by (try dsimp only); rw [if_pos hw]; decide) (mdl _ (fun a b => if (0 : Int) = 0 then some a else some b) rfl M hD))⟩
    · have w1 : w = 1 := by omega
      subst w1
      exact ⟨(ft s.p s.e 7 (0, -5)).2, s, hs, fun M hC => ok_el (by decide) (ok_if (by decide) (clsG _ (fun a b => if (1 : Int) = 0 then some a else some b) rfl M hC)), fun M hD => ok_bs in_ok (ok_el (by (try dsimp only); rw [if_pos hw]; decide) (mdl _ (fun a b => if (1 : Int) = 0 then some a else some b) rfl M hD))⟩
  · exact ⟨-1, s, hs, fun M hC => ok_ite (fun _ => ok_some (PC.self hC)) (fun h0 => ok_el (by omega) (ok_some (PC.self hC))), fun M hD => ok_bs in_ok (ok_if (by (try dsimp only); rw [if_neg hw]) (ok_some (PD.self hD)))⟩
end
