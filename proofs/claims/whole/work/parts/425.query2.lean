section
/-! questions about candidates, ballots -/
def fh (p : PL) (b : Nat) : Int := if lft p.g (p.L b) = [] then -5 else (lft p.g (p.L b)).getD 0 0 - 1
theorem ne_len {l : List Int} (h : l ≠ []) : 0 < l.length := List.length_pos_iff.mpr h
theorem fh_ge {p : PL} (h : WF p) {b : Nat} (hb : b < p.nb) (hn : lft p.g (p.L b) ≠ []) : fh p b = (lft p.g (p.L b)).getD 0 0 - 1 ∧ 0 ≤ fh p b ∧ fh p b < 8 := by
  have hr := lft_rl (h.2.2.2.2.1 b hb).1.1 p.g
  have := rl_getD hr (ne_len hn)
  unfold fh
  rw [if_neg hn]
  omega
theorem placeInLot_l {o : Nat} {p : PL} {M : Mem} (h : WF p) (hc : PCc M o p) {c i0 : Nat} (hi0 : i0 < p.n) (hl : p.lot i0 = (c : Int)) : ∀ (m i : Nat), i ≤ i0 → i0 < m + i → Ok (fX1_placeInLot_l2 o c m i M) (fun z => ∃ a, z = .inl a ∧ a = ((i0 : Int), M)) := by
  intro m
  have hn8 := h.1
  induction m with
  | zero => intros; omega
  | succ m ih =>
    intro i h1 h2
    unfold fX1_placeInLot_l2
    have e := (hc.2.2.1 i (by omega)).2
    rw [hc.1]
    simp only [tn, e]
    refine ok_el (by omega) (ok_chk (by omega) (ok_ite (fun hq => ok_some ⟨_, rfl, ?_⟩) (fun hq => ?_)))
    · have : i = i0 := h.2.2.2.1.inj (by omega) hi0 (by rw [hq, hl])
      subst this; rfl
    · have : i ≠ i0 := fun e => hq (by rw [e, hl])
      (repeat (first | with_reducible refine ok_nm0 ?_ | (with_reducible refine ok_chk ?_ ?_; · omega) | (with_reducible refine ok_if ?_ ?_; · omega) | (with_reducible refine ok_el ?_ ?_; · omega) | with_reducible refine ok_some ?_ | with_reducible refine ok_bi ?_ | with_reducible refine ok_bsm ?_)); try dsimp only
      exact ih (i + 1) (by omega) (by omega)
theorem placeInLot_ok {o : Nat} {p : PL} {M : Mem} (h : WF p) (hc : PCc M o p) {c : Nat} (hcn : c < p.n) : fX1_placeInLot o c M = some (pos p c, M) := by
  have hn8 := h.1
  obtain ⟨i, hi, e1, e2⟩ := pos_at h hcn
  apply ok_eq
  unfold fX1_placeInLot
  refine ok_lrl ((placeInLot_l h hc hi e1 1000 0 (by omega) (by omega)).mono (fun z hz => ?_))
  obtain ⟨a, e, ha⟩ := hz
  exact ⟨a, e, by rw [ha, e2]⟩
theorem firstHere_ok {o : Nat} {p : PL} {M : Mem} (h : WF p) (hc : PCc M o p) {b : Nat} (hb : b < p.nb) : fX1_firstHere o b M = some (fh p b, M) := by
  have h25 := h.2.1
  have hr := (h.2.2.2.2.1 b hb).1
  have hv := hc.2.2.2.1 b hb
  have hlf : lft (M (o + 3)) (p.L b) = lft p.g (p.L b) := lft_g hr (fun c hc' => (hc.2.2.1 c hc').1)
  apply ok_eq
  unfold fX1_firstHere
  rw [tn, hv.1]
  refine ok_chk (by omega) (ok_bs (leftOf_ok hr.1 _ M) ?_)
  rw [hlf]
  refine ok_bs (at_ok (lft_rl hr.1 _) (k := 0) (by omega) M) (ok_nm0 (ok_bi ?_))
  dsimp only
  by_cases hn : lft p.g (p.L b) = []
  · have e1 : fh p b = -5 := by unfold fh; rw [if_pos hn]
    rw [hn, e1]
    refine ok_el (by decide) (ok_some (ok_some rfl))
  · have := fh_ge h hb hn
    rw [this.1] at *
    exact ok_if (by omega) (ok_some (ok_some rfl))
def mf (p : PL) (c : Int) : Vec := fun b => if fh p b = c then p.mn b else 0
theorem mf_bd {p : PL} (h : WF p) (c : Int) : ∀ b, b ≤ p.nb → 0 ≤ sm b (mf p c) ∧ sm b (mf p c) ≤ sm b p.mn := by
  intro b
  induction b with
  | zero => intro _; exact ⟨Int.le_refl 0, Int.le_refl 0⟩
  | succ b ih =>
    intro hb
    have h1 := ih (by omega)
    have h2 := (h.2.2.2.2.1 b (by omega)).2
    have e : sm (b + 1) (mf p c) = sm b (mf p c) + (if fh p b = c then p.mn b else 0) := rfl
    have e2 : sm (b + 1) p.mn = sm b p.mn + p.mn b := rfl
    rw [e, e2]
    split <;> omega
theorem sm_nb {p : PL} (h : WF p) {b : Nat} (hb : b ≤ p.nb) : sm b p.mn ≤ 4611686 := Int.le_trans (sm_mono (fun c hc => (h.2.2.2.2.1 c hc).2) hb) h.2.2.2.2.2.1
theorem manyFirst_l {o : Nat} {p : PL} {M : Mem} {c : Int} (h : WF p) (hc : PCc M o p) : ∀ (m b : Nat) (x : Int), b ≤ p.nb → p.nb < m + b → x = sm b (mf p c) → Ok (fX1_manyFirst_l4 o c m x b M) (fun z => z.1 = sm p.nb (mf p c) ∧ z.2.2 = M) := by
  intro m
  have h25 := h.2.1
  induction m with
  | zero => intros; omega
  | succ m ih =>
    intro b x h1 h2 hx
    unfold fX1_manyFirst_l4
    rw [hc.2.1]
    refine ok_ite (fun hq => ok_some ⟨?_, rfl⟩) (fun hq => ?_)
    · have : b = p.nb := by omega
      subst this; exact hx
    · have hb : b < p.nb := by omega
      refine ok_bs (firstHere_ok h hc hb) ?_
      have hv := hc.2.2.2.1 b hb
      have e : sm (b + 1) (mf p c) = sm b (mf p c) + (if fh p b = c then p.mn b else 0) := rfl
      have b1 := mf_bd h c b h1
      have b2 := mf_bd h c (b + 1) hb
      have b3 := sm_nb h h1
      have b4 := sm_nb h (b := b + 1) hb
      simp only [tn, hv.2]
      refine ok_bi (ok_ite (fun hq2 => ?_) (fun hq2 => ?_))
      · rw [if_pos hq2] at e
        (repeat (first | with_reducible refine ok_nm0 ?_ | (with_reducible refine ok_chk ?_ ?_; · omega) | (with_reducible refine ok_if ?_ ?_; · omega) | (with_reducible refine ok_el ?_ ?_; · omega) | with_reducible refine ok_some ?_ | with_reducible refine ok_bi ?_ | with_reducible refine ok_bsm ?_)); try dsimp only
        exact ih (b + 1) _ (by omega) (by omega) (by omega)
      · rw [if_neg hq2] at e
        (repeat (first | with_reducible refine ok_nm0 ?_ | (with_reducible refine ok_chk ?_ ?_; · omega) | (with_reducible refine ok_if ?_ ?_; · omega) | (with_reducible refine ok_el ?_ ?_; · omega) | with_reducible refine ok_some ?_ | with_reducible refine ok_bi ?_ | with_reducible refine ok_bsm ?_)); try dsimp only
        exact ih (b + 1) _ (by omega) (by omega) (by omega)
theorem manyFirst_ok {o : Nat} {p : PL} {M : Mem} (h : WF p) (hc : PCc M o p) (c : Int) : fX1_manyFirst o c M = some (sm p.nb (mf p c), M) := by
  have h25 := h.2.1
  apply ok_eq
  unfold fX1_manyFirst
  refine ok_by (manyFirst_l h hc 1000 0 0 (by omega) (by omega) rfl) (fun z hz => ok_some ?_)
  rw [hz.1, hz.2]
theorem left_p {a : Nat} {p : PL} {M : Mem} (h : WF p) (hc : PMm M a p) {b : Nat} (hb : b < p.nb) : fX9_left a (M (a + 5) b) M = some (num (lft p.g (p.L b)), M) := by
  have hr := (h.2.2.2.2.1 b hb).1
  have hlf : lft (M (a + 3)) (p.L b) = lft p.g (p.L b) := lft_g hr (fun c hc' => (hc.2.2.1 c hc').1)
  rw [(hc.2.2.2.1 b hb).1, left_ok hr.1, hlf]
theorem firstMany_l {a : Nat} {p : PL} {M : Mem} {c : Nat} (h : WF p) (hcn : c < p.n) (hc : PMm M a p) : ∀ (m b : Nat) (x : Int), b ≤ p.nb → p.nb < m + b → x = sm b (mf p c) → Ok (fX9_firstMany_l4 a c m x b M) (fun z => z.1 = sm p.nb (mf p c) ∧ z.2.2 = M) := by
  intro m
  have h8 := h.1
  have h25 := h.2.1
  induction m with
  | zero => intros; omega
  | succ m ih =>
    intro b x h1 h2 hx
    unfold fX9_firstMany_l4
    rw [hc.2.1]
    refine ok_ite (fun hq => ok_some ⟨?_, rfl⟩) (fun hq => ?_)
    · have : b = p.nb := by omega
      subst this; exact hx
    · have hb : b < p.nb := by omega
      have hr := (h.2.2.2.2.1 b hb).1
      have hv := hc.2.2.2.1 b hb
      have e : sm (b + 1) (mf p c) = sm b (mf p c) + (if fh p b = c then p.mn b else 0) := rfl
      have b1 := mf_bd h c b h1
      have b2 := mf_bd h c (b + 1) hb
      have b3 := sm_nb h h1
      have b4 := sm_nb h (b := b + 1) hb
      simp only [tn]
      refine ok_chk (by omega) (ok_bs (left_p h hc hb) (ok_nm0 (ok_bi ?_)))
      dsimp only
      by_cases hn : lft p.g (p.L b) = []
      · have e1 : fh p b = -5 := by unfold fh; rw [if_pos hn]
        rw [hn]
        rw [if_neg (by omega)] at e
        refine ok_if (by decide) (ok_some ?_)
        (repeat (first | with_reducible refine ok_nm0 ?_ | (with_reducible refine ok_chk ?_ ?_; · omega) | (with_reducible refine ok_if ?_ ?_; · omega) | (with_reducible refine ok_el ?_ ?_; · omega) | with_reducible refine ok_some ?_ | with_reducible refine ok_bi ?_ | with_reducible refine ok_bsm ?_)); try dsimp only
        exact ih (b + 1) _ (by omega) (by omega) (by omega)
      · have hf := fh_ge h hb hn
        have hp := num_posn (lft_rl hr.1 p.g) hn
        refine ok_el (by omega) (ok_bs (digitAt_ok (lft_rl hr.1 p.g) (i := 0) (ne_len hn) M) (ok_chk (by omega) ?_))
        simp only [hv.2]
        refine ok_ite (fun hq2 => ?_) (fun hq2 => ?_)
        · rw [if_pos (by omega)] at e
          (repeat (first | with_reducible refine ok_nm0 ?_ | (with_reducible refine ok_chk ?_ ?_; · omega) | (with_reducible refine ok_if ?_ ?_; · omega) | (with_reducible refine ok_el ?_ ?_; · omega) | with_reducible refine ok_some ?_ | with_reducible refine ok_bi ?_ | with_reducible refine ok_bsm ?_)); try dsimp only
          exact ih (b + 1) _ (by omega) (by omega) (by omega)
        · rw [if_neg (by omega)] at e
          (repeat (first | with_reducible refine ok_nm0 ?_ | (with_reducible refine ok_chk ?_ ?_; · omega) | (with_reducible refine ok_if ?_ ?_; · omega) | (with_reducible refine ok_el ?_ ?_; · omega) | with_reducible refine ok_some ?_ | with_reducible refine ok_bi ?_ | with_reducible refine ok_bsm ?_)); try dsimp only
          exact ih (b + 1) _ (by omega) (by omega) (by omega)
theorem firstMany_ok {a : Nat} {p : PL} {M : Mem} (h : WF p) (hc : PMm M a p) {c : Nat} (hcn : c < p.n) : fX9_firstMany a c M = some (sm p.nb (mf p c), M) := by
  have h25 := h.2.1
  apply ok_eq
  unfold fX9_firstMany
  refine ok_by (firstMany_l h hcn hc 1000 0 0 (by omega) (by omega) rfl) (fun z hz => ok_some ?_)
  rw [hz.1, hz.2]
theorem counts_D {s : SS} (hs : GS s) {M : Mem} (hD : DI M s) : Ok (fX9_counts 20000 M) (fun q => MX q.2 20000 s.p (cnt s.p) (cnt s.p).h.length ∧ DI q.2 s ∧ ∀ x, x < 20000 → q.2 x = M x) := (counts_ok hs.1.1 hD.1).mono (fun q hq => ⟨hq.1, hD.fr hq.2, fun x hx => hq.2.2 x (by omega)⟩)
theorem op_of {s : SS} (hs : GS s) (c w : Int) : Op s (fX8_of 10 c w) (fX9_of 20000 c w) := by
  have h8 := hs.1.1.1
  unfold fX8_of fX9_of
  have c1 := fun (N : Mem) (hN : CI N s) => hasCand_ok (c := c) (M := N) (o := 11000) (n := s.p.n) hN.1.1.1.1
  have c2 := fun (N : Mem) (hD : DI N s) => isOne_ok (c := c) (M := N) (a := 20000) (n := s.p.n) h8 hD.1.1
  by_cases hc : 0 ≤ c ∧ c < s.p.n
  · obtain ⟨d, rfl⟩ := Int.eq_ofNat_of_zero_le hc.1
    have hd : d < s.p.n := by omega
    rw [if_pos hc] at *
    by_cases w0 : w = 0
    · refine ⟨(cnt s.p).f d, s, hs, fun M hC => ok_bs (c1 M hC) (ok_el (show ¬ ((1 : Int) = 0) by decide) (ok_if w0 (tal_bind hs hC (fun N hN hT hx => ok_chk (by omega) (ok_some ?_))))), fun M hD => ok_bs (c2 M hD) (ok_el (show ¬ ((1 : Int) = 0) by decide) (ok_bs in_ok (ok_el (by (try dsimp only); rw [if_pos (by omega)]; decide) (ok_by (counts_D hs hD) (fun q hq => ok_bi (ok_if w0 (ok_chk (by omega) (ok_some (ok_some ?_)))))))))⟩
      · (try dsimp only); rw [tn, (hT.2.2.2.1 d hd).1]; exact (PC.self hN).tr hx
      · (try dsimp only); rw [tn, (hq.1.2.2.1 d hd).1]; exact (PD.self hq.2.1).tr hq.2.2
    · by_cases w1 : w = 1
      · refine ⟨(cnt s.p).w d, s, hs, fun M hC => ok_bs (c1 M hC) (ok_el (show ¬ ((1 : Int) = 0) by decide) (ok_el w0 (ok_if w1 (tal_bind hs hC (fun N hN hT hx => ok_chk (by omega) (ok_some ?_)))))), fun M hD => ok_bs (c2 M hD) (ok_el (show ¬ ((1 : Int) = 0) by decide) (ok_bs in_ok (ok_el (by (try dsimp only); rw [if_pos (by omega)]; decide) (ok_by (counts_D hs hD) (fun q hq => ok_bi (ok_el w0 (ok_if w1 (ok_chk (by omega) (ok_some (ok_some ?_))))))))))⟩
        · (try dsimp only); rw [tn, (hT.2.2.2.1 d hd).2.2]; exact (PC.self hN).tr hx
        · (try dsimp only); rw [tn, (hq.1.2.2.1 d hd).2.2]; exact (PD.self hq.2.1).tr hq.2.2
      · by_cases w2 : w = 2
        · exact ⟨pos s.p d, s, hs, fun M hC => ok_bs (c1 M hC) (ok_el (show ¬ ((1 : Int) = 0) by decide) (ok_el w0 (ok_el w1 (ok_if w2 (ok_bs (placeInLot_ok hs.1.1 hC.1.1.1 hd) (ok_some (PC.self hC))))))), fun M hD => ok_bs (c2 M hD) (ok_el (show ¬ ((1 : Int) = 0) by decide) (ok_bs in_ok (ok_el (by (try dsimp only); rw [if_pos (by omega)]; decide) (ok_by (counts_D hs hD) (fun q hq => ok_bi (ok_el w0 (ok_el w1 (ok_if w2 (ok_bs (lotOf_ok hs.1.1 hq.2.1.1 hd) (ok_some (ok_some ((PD.self hq.2.1).tr hq.2.2)))))))))))) ⟩
        · by_cases w3 : w = 3
          · exact ⟨sm s.p.nb (mf s.p d), s, hs, fun M hC => ok_bs (c1 M hC) (ok_el (show ¬ ((1 : Int) = 0) by decide) (ok_el w0 (ok_el w1 (ok_el w2 (ok_if w3 (ok_bs (manyFirst_ok hs.1.1 hC.1.1.1 _) (ok_some (PC.self hC)))))))), fun M hD => ok_bs (c2 M hD) (ok_el (show ¬ ((1 : Int) = 0) by decide) (ok_bs in_ok (ok_el (by (try dsimp only); rw [if_pos (by omega)]; decide) (ok_by (counts_D hs hD) (fun q hq => ok_bi (ok_el w0 (ok_el w1 (ok_el w2 (ok_bs (firstMany_ok hs.1.1 hq.2.1.1 hd) (ok_some (ok_some ((PD.self hq.2.1).tr hq.2.2)))))))))))) ⟩
          · exact ⟨-1, s, hs, fun M hC => ok_bs (c1 M hC) (ok_el (show ¬ ((1 : Int) = 0) by decide) (ok_el w0 (ok_el w1 (ok_el w2 (ok_el w3 (ok_some (PC.self hC))))))), fun M hD => ok_bs (c2 M hD) (ok_el (show ¬ ((1 : Int) = 0) by decide) (ok_bs in_ok (ok_if (by (try dsimp only); rw [if_neg (by omega)]) (ok_some (PD.self hD)))))⟩
  · rw [if_neg hc] at *
    exact ⟨-1, s, hs, fun M hC => ok_bs (c1 M hC) (ok_if rfl (ok_some (PC.self hC))), fun M hD => ok_bs (c2 M hD) (ok_if rfl (ok_some (PD.self hD)))⟩
theorem op_ballotOf {s : SS} (hs : GS s) (c w : Int) : Op s (fX8_ballotOf 10 c w) (fX9_ballotOf 20000 c w) := by
  have h25 := hs.1.1.2.1
  unfold fX8_ballotOf fX9_ballotOf
  have c1 := fun (N : Mem) (hN : CI N s) => hasBal_ok (c := c) (M := N) (o := 11000) (n := s.p.nb) hN.1.1.1.2.1
  have c2 := fun (N : Mem) (hD : DI N s) => isBal_ok (c := c) (M := N) (a := 20000) (n := s.p.nb) h25 hD.1.2.1
  by_cases hc : 0 ≤ c ∧ c < s.p.nb
  · obtain ⟨d, rfl⟩ := Int.eq_ofNat_of_zero_le hc.1
    have hd : d < s.p.nb := by omega
    have hr := (hs.1.1.2.2.2.2.1 d hd).1
    rw [if_pos hc] at *
    simp only [tn]
    by_cases w0 : w = 0
    · refine ⟨s.p.mn d, s, hs, fun M hC => ok_bs (c1 M hC) (ok_el (show ¬ ((1 : Int) = 0) by decide) (ok_if w0 (ok_chk (by omega) (ok_some ?_)))), fun M hD => ok_bs (c2 M hD) (ok_el (show ¬ ((1 : Int) = 0) by decide) (ok_bs in_ok (ok_el (by (try dsimp only); rw [if_pos (by omega)]; decide) (ok_chk (by omega) (ok_bs (left_p hs.1.1 hD.1 hd) (ok_nm0 (ok_bi (ok_if w0 (ok_chk (by omega) (ok_some (ok_some ?_)))))))))))⟩
      · (try dsimp only); rw [(hC.1.1.1.2.2.2.1 d hd).2]; exact PC.self hC
      · (try dsimp only); rw [(hD.1.2.2.2.1 d hd).2]; exact PD.self hD
    · by_cases w1 : w = 1
      · refine ⟨(s.p.L d).length, s, hs, fun M hC => ok_bs (c1 M hC) (ok_el (show ¬ ((1 : Int) = 0) by decide) (ok_el w0 (ok_if w1 (ok_chk (by omega) ?_)))), fun M hD => ok_bs (c2 M hD) (ok_el (show ¬ ((1 : Int) = 0) by decide) (ok_bs in_ok (ok_el (by (try dsimp only); rw [if_pos (by omega)]; decide) (ok_chk (by omega) (ok_bs (left_p hs.1.1 hD.1 hd) (ok_nm0 (ok_bi (ok_el w0 (ok_if w1 (ok_chk (by omega) ?_))))))))))⟩
        · (try dsimp only); rw [(hC.1.1.1.2.2.2.1 d hd).1]; exact ok_bs (length_ok hr.1 M) (ok_some (PC.self hC))
        · (try dsimp only); rw [(hD.1.2.2.2.1 d hd).1]; exact ok_bs (lengthOf_ok hr.1 M) (ok_some (ok_some (PD.self hD)))
      · by_cases w2 : w = 2
        · refine ⟨fh s.p d, s, hs, fun M hC => ok_bs (c1 M hC) (ok_el (show ¬ ((1 : Int) = 0) by decide) (ok_el w0 (ok_el w1 (ok_if w2 (ok_bs (firstHere_ok hs.1.1 hC.1.1.1 hd) (ok_some (PC.self hC))))))), fun M hD => ok_bs (c2 M hD) (ok_el (show ¬ ((1 : Int) = 0) by decide) (ok_bs in_ok (ok_el (by (try dsimp only); rw [if_pos (by omega)]; decide) (ok_chk (by omega) (ok_bs (left_p hs.1.1 hD.1 hd) (ok_nm0 (ok_bi (ok_el w0 (ok_el w1 ?_)))))))))⟩
          dsimp only
          by_cases hn : lft s.p.g (s.p.L d) = []
          · have e1 : fh s.p d = -5 := by unfold fh; rw [if_pos hn]
            rw [hn, e1]
            exact ok_if rfl (ok_some (ok_some (PD.self hD)))
          · have hf := fh_ge hs.1.1 hd hn
            have hp := num_posn (lft_rl hr.1 s.p.g) hn
            refine ok_el (by omega) (ok_bs (digitAt_ok (lft_rl hr.1 s.p.g) (i := 0) (ne_len hn) M) (ok_chk (by (try dsimp only); omega) (ok_some (ok_some ?_))))
            rw [hf.1]
            exact PD.self hD
        · exact ⟨-1, s, hs, fun M hC => ok_bs (c1 M hC) (ok_el (show ¬ ((1 : Int) = 0) by decide) (ok_el w0 (ok_el w1 (ok_el w2 (ok_some (PC.self hC)))))), fun M hD => ok_bs (c2 M hD) (ok_el (show ¬ ((1 : Int) = 0) by decide) (ok_bs in_ok (ok_if (by (try dsimp only); rw [if_neg (by omega)]) (ok_some (PD.self hD)))))⟩
  · rw [if_neg hc] at *
    exact ⟨-1, s, hs, fun M hC => ok_bs (c1 M hC) (ok_if rfl (ok_some (PC.self hC))), fun M hD => ok_bs (c2 M hD) (ok_if rfl (ok_some (PD.self hD)))⟩
theorem op_rowOf {s : SS} (hs : GS s) (c i : Int) : Op s (fX8_rowOf 10 c i) (fX9_rowOf 20000 c i) := by
  have h25 := hs.1.1.2.1
  unfold fX8_rowOf fX9_rowOf
  have c1 := fun (N : Mem) (hN : CI N s) => hasBal_ok (c := c) (M := N) (o := 11000) (n := s.p.nb) hN.1.1.1.2.1
  have c2 := fun (N : Mem) (hD : DI N s) => isBal_ok (c := c) (M := N) (a := 20000) (n := s.p.nb) h25 hD.1.2.1
  by_cases hc : 0 ≤ c ∧ c < s.p.nb
  · obtain ⟨d, rfl⟩ := Int.eq_ofNat_of_zero_le hc.1
    have hd : d < s.p.nb := by omega
    have hr := (hs.1.1.2.2.2.2.1 d hd).1
    have hr8 := hr.1.2
    rw [if_pos hc] at *
    simp only [tn]
    by_cases hi : 0 ≤ i ∧ i < (s.p.L d).length
    · obtain ⟨k, rfl⟩ := Int.eq_ofNat_of_zero_le hi.1
      have hk : k < (s.p.L d).length := by omega
      have hv := rl_getD hr.1 hk
      refine ⟨(s.p.L d).getD k 0 - 1, s, hs, fun M hC => ok_bs (c1 M hC) (ok_el (show ¬ ((1 : Int) = 0) by decide) (ok_chk (by omega) (ok_nm0 (ok_bi (ok_el (by omega) ?_))))), fun M hD => ok_bs (c2 M hD) (ok_el (show ¬ ((1 : Int) = 0) by decide) (ok_chk (by omega) ?_))⟩
      · (try dsimp only); rw [(hC.1.1.1.2.2.2.1 d hd).1]
        exact ok_bs (length_ok hr.1 M) (ok_if (by (try dsimp only); omega) (ok_bs (at_ok hr.1 (by omega) M) (ok_some (ok_some (PC.self hC)))))
      · (try dsimp only); rw [(hD.1.2.2.2.1 d hd).1]
        refine ok_bs (lengthOf_ok hr.1 M) (ok_chk (by (try dsimp only); omega) (ok_bs in_ok (ok_el (by (try dsimp only); rw [if_pos (by omega)]; decide) (ok_chk (by omega) ?_))))
        (try dsimp only); rw [(hD.1.2.2.2.1 d hd).1]
        exact ok_bs (digitAt_ok hr.1 hk M) (ok_chk (by (try dsimp only); omega) (ok_some (PD.self hD)))
    · refine ⟨-1, s, hs, fun M hC => ok_bs (c1 M hC) (ok_el (show ¬ ((1 : Int) = 0) by decide) (ok_chk (by omega) (ok_nm0 (ok_bi ?_)))), fun M hD => ok_bs (c2 M hD) (ok_el (show ¬ ((1 : Int) = 0) by decide) (ok_chk (by omega) ?_))⟩
      · (try dsimp only); rw [(hC.1.1.1.2.2.2.1 d hd).1]
        refine ok_ite (fun h0 => ok_some (ok_some (PC.self hC))) (fun h0 => ok_bs (length_ok hr.1 M) (ok_el (by (try dsimp only); omega) (ok_some (ok_some (PC.self hC)))))
      · (try dsimp only); rw [(hD.1.2.2.2.1 d hd).1]
        exact ok_bs (lengthOf_ok hr.1 M) (ok_chk (by (try dsimp only); omega) (ok_bs in_ok (ok_if (by (try dsimp only); rw [if_neg (by omega)]) (ok_some (PD.self hD)))))
  · rw [if_neg hc] at *
    exact ⟨-1, s, hs, fun M hC => ok_bs (c1 M hC) (ok_if rfl (ok_some (PC.self hC))), fun M hD => ok_bs (c2 M hD) (ok_if rfl (ok_some (PD.self hD)))⟩
end
