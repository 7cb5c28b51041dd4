section
/-! who is preferred to whom -/
def FA (a b : Int) : List Int → Int
  | [] => -1
  | d :: r => if d - 1 = a ∨ d - 1 = b then d - 1 else FA a b r
theorem FA_iff {a b : Int} (ha : 0 ≤ a) (hne : a ≠ b) : ∀ l : List Int, FA a b l = a ↔ (a + 1 ∈ l ∧ l.idxOf (a + 1) < l.idxOf (b + 1))
  | [] => by simp [FA]; omega
  | d :: r => by
    have ih := FA_iff ha hne r
    unfold FA
    rw [List.idxOf_cons, List.idxOf_cons]
    by_cases e1 : d = a + 1
    · have k1 : (d == a + 1) = true := by simp [e1]
      have k2 : (d == b + 1) = false := by simp; omega
      rw [if_pos (by omega), k1, k2]
      refine ⟨fun _ => ⟨by rw [e1]; exact List.mem_cons_self, ?_⟩, fun _ => by omega⟩
      show 0 < List.idxOf (b + 1) r + 1
      omega
    · have k1 : (d == a + 1) = false := by simp [e1]
      by_cases e2 : d = b + 1
      · have k2 : (d == b + 1) = true := by simp [e2]
        rw [if_pos (by omega), k1, k2]
        refine ⟨fun h => by omega, fun h => ?_⟩
        have h2 : List.idxOf (a + 1) r + 1 < 0 := h.2
        omega
      · have k2 : (d == b + 1) = false := by simp [e2]
        rw [if_neg (by omega), ih, k1, k2]
        show _ ↔ _ ∧ List.idxOf (a + 1) r + 1 < List.idxOf (b + 1) r + 1
        rw [List.mem_cons]
        constructor
        · rintro ⟨h1, h2⟩; exact ⟨Or.inr h1, by omega⟩
        · rintro ⟨h1, h2⟩; exact ⟨h1.resolve_left (fun e => e1 e.symm), by omega⟩
theorem plc_lt {l : List Int} (h : l.length ≤ 8) {x y : Int} : plc l x < plc l y ↔ (x ∈ l ∧ l.idxOf x < l.idxOf y) := by
  have hx := List.idxOf_lt_length_iff (l := l) (a := x)
  have hy := List.idxOf_lt_length_iff (l := l) (a := y)
  have hyl := List.idxOf_le_length (l := l) (a := y)
  unfold plc
  by_cases e1 : l.idxOf x < l.length
  · rw [if_pos e1]
    have := hx.mp e1
    by_cases e2 : l.idxOf y < l.length
    · rw [if_pos e2]
      constructor
      · intro h; exact ⟨this, by omega⟩
      · intro h; omega
    · rw [if_neg e2]
      constructor
      · intro h; exact ⟨this, by omega⟩
      · intro h; omega
  · rw [if_neg e1]
    have : x ∉ l := fun h => e1 (hx.mpr h)
    constructor
    · intro h
      split at h <;> omega
    · rintro ⟨h, _⟩; exact absurd h this
def ah (p : PL) (a b : Int) : Vec := fun k => if plc (p.L k) (a + 1) < plc (p.L k) (b + 1) then p.mn k else 0
theorem ah_bd {p : PL} (h : WF p) (x y : Int) : ∀ b, b ≤ p.nb → 0 ≤ sm b (ah p x y) ∧ sm b (ah p x y) ≤ sm b p.mn := by
  intro b
  induction b with
  | zero => intro _; exact ⟨Int.le_refl 0, Int.le_refl 0⟩
  | succ b ih =>
    intro hb
    have h1 := ih (by omega)
    have h2 := (h.2.2.2.2.1 b (by omega)).2
    have e : sm (b + 1) (ah p x y) = sm b (ah p x y) + (if plc (p.L b) (x + 1) < plc (p.L b) (y + 1) then p.mn b else 0) := rfl
    have e2 : sm (b + 1) p.mn = sm b p.mn + p.mn b := rfl
    rw [e, e2]
    split <;> omega
theorem ahead_l {o : Nat} {p : PL} {M : Mem} {x y : Int} (h : WF p) (hc : PCc M o p) (hx : 0 ≤ x) (hy : 0 ≤ y) : ∀ (m b : Nat) (v : Int), b ≤ p.nb → p.nb < m + b → v = sm b (ah p x y) → Ok (fX1_manyAhead_l5 o x y m v b M) (fun z => z.1 = sm p.nb (ah p x y) ∧ z.2.2 = M) := by
  intro m
  have h25 := h.2.1
  induction m with
  | zero => intros; omega
  | succ m ih =>
    intro b v h1 h2 hv
    unfold fX1_manyAhead_l5
    rw [hc.2.1]
    refine ok_ite (fun hq => ok_some ⟨?_, rfl⟩) (fun hq => ?_)
    · have : b = p.nb := by omega
      subst this; exact hv
    · have hb : b < p.nb := by omega
      have hr := (h.2.2.2.2.1 b hb).1.1
      have hcv := hc.2.2.2.1 b hb
      have e : sm (b + 1) (ah p x y) = sm b (ah p x y) + (if plc (p.L b) (x + 1) < plc (p.L b) (y + 1) then p.mn b else 0) := rfl
      have b1 := ah_bd h x y b h1
      have b2 := ah_bd h x y (b + 1) hb
      have b3 := sm_nb h h1
      have b4 := sm_nb h (b := b + 1) hb
      simp only [tn, hcv.1]
      refine ok_chk (by omega) (ok_bs (placeOf_ok hr hx M) (ok_chk (by omega) ?_))
      dsimp only
      simp only [hcv.1]
      refine ok_bs (placeOf_ok hr hy M) ?_
      simp only [hcv.2]
      refine ok_bi (ok_ite (fun hq2 => ?_) (fun hq2 => ?_))
      · rw [if_neg (by omega)] at e
        (repeat (first | with_reducible refine ok_nm0 ?_ | (with_reducible refine ok_chk ?_ ?_; · omega) | (with_reducible refine ok_if ?_ ?_; · omega) | (with_reducible refine ok_el ?_ ?_; · omega) | with_reducible refine ok_some ?_ | with_reducible refine ok_bi ?_ | with_reducible refine ok_bsm ?_)); try dsimp only
        exact ih (b + 1) _ (by omega) (by omega) (by omega)
      · rw [if_pos (by omega)] at e
        (repeat (first | with_reducible refine ok_nm0 ?_ | (with_reducible refine ok_chk ?_ ?_; · omega) | (with_reducible refine ok_if ?_ ?_; · omega) | (with_reducible refine ok_el ?_ ?_; · omega) | with_reducible refine ok_some ?_ | with_reducible refine ok_bi ?_ | with_reducible refine ok_bsm ?_)); try dsimp only
        exact ih (b + 1) _ (by omega) (by omega) (by omega)
theorem ahead_ok {o : Nat} {p : PL} {M : Mem} {x y : Int} (h : WF p) (hc : PCc M o p) (hx : 0 ≤ x) (hy : 0 ≤ y) : fX1_manyAhead o x y M = some (sm p.nb (ah p x y), M) := by
  have h25 := h.2.1
  apply ok_eq
  unfold fX1_manyAhead
  refine ok_by (ahead_l h hc hx hy 1000 0 0 (by omega) (by omega) rfl) (fun z hz => ok_some ?_)
  rw [hz.1, hz.2]
theorem prefTo_l35 {a : Nat} {x y u v : Int} {l : List Int} (hl : rl l) (M : Mem) : ∀ (m k : Nat) (w : Int), k ≤ l.length → k < m → w = FA x y (l.drop k) → Ok (fX9_preferredTo_l35 a x y u v (num l) m w ((k : Int) - 1) M) (fun z => z.1 = FA x y l ∧ z.2.2 = M) := by
  intro m
  have h8 := hl.2
  induction m with
  | zero => intros; omega
  | succ m ih =>
    intro k w h1 h2 hw
    unfold fX9_preferredTo_l35
    cases k with
    | zero => exact ok_if (by omega) (ok_some ⟨hw, rfl⟩)
    | succ k =>
      have hk : k < l.length := by omega
      have hr := rl_getD hl hk
      have hd := getD_lt hk
      rw [show ((k + 1 : Nat) : Int) - 1 = (k : Int) by omega]
      refine ok_el (by omega) (ok_bs (digitAt_ok hl hk M) (ok_chk (by (try dsimp only); omega) (ok_nm0 ?_)))
      dsimp only
      have hdr : l.drop k = l[k] :: l.drop (k + 1) := List.drop_eq_getElem_cons hk
      have go : ∀ w', w' = FA x y (l.drop k) → Ok (if -2147483648 ≤ ((k : Int) + (-1)) ∧ ((k : Int) + (-1)) ≤ 2147483647 then fX9_preferredTo_l35 a x y u v (num l) m w' ((k : Int) + (-1)) M else none) (fun z => z.1 = FA x y l ∧ z.2.2 = M) := fun w' hw' => ok_chk (by omega) (by
        rw [show (k : Int) + -1 = (k : Int) - 1 by omega]
        exact ih k w' (by omega) (by omega) hw')
      have eF : FA x y (l.drop k) = if l[k] - 1 = x ∨ l[k] - 1 = y then l[k] - 1 else FA x y (l.drop (k + 1)) := by rw [hdr]; rfl
      rw [← hd] at eF
      refine ok_bi (ok_ite (fun e1 => ?_) (fun e1 => ok_ite (fun e2 => ?_) (fun e2 => ?_)))
      · exact ok_some (go _ (by rw [eF, if_pos (Or.inl e1)]))
      · exact ok_some (go _ (by rw [eF, if_pos (Or.inr e2)]))
      · exact ok_some (go _ (by rw [eF, if_neg (fun e => e.elim e1 e2)]; exact hw))
theorem prefTo_l {a : Nat} {p : PL} {M : Mem} {x y : Int} (h : WF p) (hc : PMm M a p) (hx : 0 ≤ x) (hne : x ≠ y) : ∀ (m b : Nat) (v : Int), b ≤ p.nb → p.nb < m + b → v = sm b (ah p x y) → Ok (fX9_preferredTo_l5 a x y m v b M) (fun z => z.1 = sm p.nb (ah p x y) ∧ z.2.2 = M) := by
  intro m
  have h25 := h.2.1
  induction m with
  | zero => intros; omega
  | succ m ih =>
    intro b v h1 h2 hv
    unfold fX9_preferredTo_l5
    rw [hc.2.1]
    refine ok_ite (fun hq => ok_some ⟨?_, rfl⟩) (fun hq => ?_)
    · have : b = p.nb := by omega
      subst this; exact hv
    · have hb : b < p.nb := by omega
      have hr := (h.2.2.2.2.1 b hb).1.1
      have hr8 := hr.2
      have hcv := hc.2.2.2.1 b hb
      have e : sm (b + 1) (ah p x y) = sm b (ah p x y) + (if plc (p.L b) (x + 1) < plc (p.L b) (y + 1) then p.mn b else 0) := rfl
      have b1 := ah_bd h x y b h1
      have b2 := ah_bd h x y (b + 1) hb
      have b3 := sm_nb h h1
      have b4 := sm_nb h (b := b + 1) hb
      have hiff := (FA_iff hx hne (p.L b)).trans (plc_lt hr8).symm
      simp only [tn, hcv.1]
      refine ok_chk (by omega) (ok_nm0 (ok_bs (lengthOf_ok hr M) (ok_chk (by (try dsimp only); omega) (ok_nm0 ?_))))
      dsimp only
      refine ok_by (prefTo_l35 hr M 1000 (p.L b).length (-1) (Nat.le_refl _) (by omega) (by rw [List.drop_length]; rfl)) (fun z hz => ?_)
      obtain ⟨z1, z2⟩ := hz
      rw [z1, z2]
      simp only [hcv.2]
      refine ok_bi (ok_ite (fun hq2 => ?_) (fun hq2 => ?_))
      · rw [if_pos (hiff.mp hq2)] at e
        (repeat (first | with_reducible refine ok_nm0 ?_ | (with_reducible refine ok_chk ?_ ?_; · omega) | (with_reducible refine ok_if ?_ ?_; · omega) | (with_reducible refine ok_el ?_ ?_; · omega) | with_reducible refine ok_some ?_ | with_reducible refine ok_bi ?_ | with_reducible refine ok_bsm ?_)); try dsimp only
        exact ih (b + 1) _ (by omega) (by omega) (by omega)
      · rw [if_neg (fun hx => hq2 (hiff.mpr hx))] at e
        (repeat (first | with_reducible refine ok_nm0 ?_ | (with_reducible refine ok_chk ?_ ?_; · omega) | (with_reducible refine ok_if ?_ ?_; · omega) | (with_reducible refine ok_el ?_ ?_; · omega) | with_reducible refine ok_some ?_ | with_reducible refine ok_bi ?_ | with_reducible refine ok_bsm ?_)); try dsimp only
        exact ih (b + 1) _ (by omega) (by omega) (by omega)
theorem prefTo_ok {a : Nat} {p : PL} {M : Mem} {x y : Int} (h : WF p) (hc : PMm M a p) (hx : 0 ≤ x) (hne : x ≠ y) : fX9_preferredTo a x y M = some (sm p.nb (ah p x y), M) := by
  have h25 := h.2.1
  apply ok_eq
  unfold fX9_preferredTo
  refine ok_by (prefTo_l h hc hx hne 1000 0 0 (by omega) (by omega) rfl) (fun z hz => ok_some ?_)
  rw [hz.1, hz.2]
theorem op_preferred {s : SS} (hs : GS s) (a b : Int) : Op s (fX8_preferred 10 a b) (fX9_preferred 20000 a b) := by
  have h8 := hs.1.1.1
  unfold fX8_preferred fX9_preferred fX9_isTwo
  have c1 := fun (N : Mem) (hN : CI N s) (c : Int) => hasCand_ok (c := c) (M := N) (o := 11000) (n := s.p.n) hN.1.1.1.1
  have c2 := fun (N : Mem) (hD : DI N s) (c : Int) => isOne_ok (c := c) (M := N) (a := 20000) (n := s.p.n) h8 hD.1.1
  by_cases ha : 0 ≤ a ∧ a < s.p.n
  · by_cases hb : 0 ≤ b ∧ b < s.p.n
    · by_cases hne : a = b
      · refine ⟨-1, s, hs, fun M hC => ok_bs (c1 M hC a) (ok_el (by rw [if_pos ha]; exact (show ¬ ((1 : Int) = 0) by decide)) (ok_bs (c1 M hC b) (ok_el (by rw [if_pos hb]; exact (show ¬ ((1 : Int) = 0) by decide)) (ok_if hne (ok_some (PC.self hC)))))), fun M hD => ok_by (Q := fun q => q = ((0 : Int), M)) (ok_bs (c2 M hD a) (ok_bi (ok_el (by rw [if_pos ha]; exact (show ¬ ((1 : Int) = 0) by decide)) (ok_bs (c2 M hD b) (ok_el (by rw [if_pos hb]; exact (show ¬ ((1 : Int) = 0) by decide)) (ok_if hne (ok_some (ok_chk (Or.inl rfl) (ok_some rfl))))))))) (fun q hq => ?_)⟩
        rw [hq]
        exact ok_bi (ok_if rfl (ok_some (ok_some (PD.self hD))))
      · refine ⟨sm s.p.nb (ah s.p a b), s, hs, fun M hC => ok_bs (c1 M hC a) (ok_el (by rw [if_pos ha]; exact (show ¬ ((1 : Int) = 0) by decide)) (ok_bs (c1 M hC b) (ok_el (by rw [if_pos hb]; exact (show ¬ ((1 : Int) = 0) by decide)) (ok_el hne (ok_bs (ahead_ok hs.1.1 hC.1.1.1 ha.1 hb.1) (ok_some (PC.self hC))))))), fun M hD => ok_by (Q := fun q => q = ((1 : Int), M)) (ok_bs (c2 M hD a) (ok_bi (ok_el (by rw [if_pos ha]; exact (show ¬ ((1 : Int) = 0) by decide)) (ok_bs (c2 M hD b) (ok_el (by rw [if_pos hb]; exact (show ¬ ((1 : Int) = 0) by decide)) (ok_el hne (ok_some (ok_chk (Or.inr rfl) (ok_some rfl))))))))) (fun q hq => ?_)⟩
        rw [hq]
        exact ok_bi (ok_el (show ¬ ((1 : Int) = 0) by decide) (ok_bs (prefTo_ok hs.1.1 hD.1 ha.1 hne) (ok_some (ok_some (PD.self hD)))))
    · refine ⟨-1, s, hs, fun M hC => ok_bs (c1 M hC a) (ok_el (by rw [if_pos ha]; exact (show ¬ ((1 : Int) = 0) by decide)) (ok_bs (c1 M hC b) (ok_if (by rw [if_neg hb]) (ok_some (PC.self hC))))), fun M hD => ok_by (Q := fun q => q = ((0 : Int), M)) (ok_bs (c2 M hD a) (ok_bi (ok_el (by rw [if_pos ha]; exact (show ¬ ((1 : Int) = 0) by decide)) (ok_bs (c2 M hD b) (ok_if (by rw [if_neg hb]) (ok_some (ok_chk (Or.inl rfl) (ok_some rfl)))))))) (fun q hq => ?_)⟩
      rw [hq]
      exact ok_bi (ok_if rfl (ok_some (ok_some (PD.self hD))))
  · refine ⟨-1, s, hs, fun M hC => ok_bs (c1 M hC a) (ok_if (by rw [if_neg ha]) (ok_some (PC.self hC))), fun M hD => ok_by (Q := fun q => q = ((0 : Int), M)) (ok_bs (c2 M hD a) (ok_bi (ok_if (by rw [if_neg ha]) (ok_some (ok_chk (Or.inl rfl) (ok_some rfl)))))) (fun q hq => ?_)⟩
    rw [hq]
    exact ok_bi (ok_if rfl (ok_some (ok_some (PD.self hD))))
/-! who beats all -/
def bt1 (p : PL) (c d : Nat) : Bool := decide (d = c) || decide (p.g d ≠ 0) || decide (sm p.nb (ah p d c) < sm p.nb (ah p c d))
def bbR (p : PL) (c : Nat) : Nat → Bool
  | 0 => true
  | d + 1 => bbR p c d && bt1 p c d
theorem bbR_f {p : PL} {c : Nat} : ∀ {d e : Nat}, bbR p c d = false → d ≤ e → bbR p c e = false
  | d, 0, h, he => by
    have : d = 0 := by omega
    subst this; exact h
  | d, e + 1, h, he => by
    by_cases e1 : d = e + 1
    · subst e1; exact h
    · unfold bbR
      rw [bbR_f h (by omega)]; rfl
theorem beats_l {p : PL} {M : Mem} {c : Nat} (h : WF p) (hc : PCc M 11000 p) : ∀ (m d : Nat), d ≤ p.n → p.n < m + d → bbR p c d = true → Ok (fX8_beatsAll_l2 10 c m d M) (fun z => ∃ a, z = .inl a ∧ a = ((if bbR p c p.n then 1 else 0 : Int), M)) := by
  intro m
  have h8 := h.1
  induction m with
  | zero => intros; omega
  | succ m ih =>
    intro d h1 h2 hb
    unfold fX8_beatsAll_l2
    simp only [Nat.reduceAdd]
    rw [hc.1]
    refine ok_ite (fun hq => ok_some ⟨_, rfl, ?_⟩) (fun hq => ?_)
    · have : d = p.n := by omega
      subst this; rw [hb]; rfl
    · have hd : d < p.n := by omega
      have e : bbR p c (d + 1) = (bbR p c d && bt1 p c d) := rfl
      rw [hb, Bool.true_and] at e
      simp only [tn, (hc.2.2.1 d hd).1]
      by_cases e1 : d = c
      · subst e1
        refine ok_bi (ok_if rfl (ok_some (ok_if rfl (ok_chk (by omega) (ih (d + 1) (by omega) (by omega) (by rw [e]; simp [bt1]))))))
      · refine ok_bi (ok_el (by omega) (ok_chk (by omega) ?_))
        by_cases e2 : p.g d = 0
        · refine ok_if e2 (ok_some (ok_el (by decide) (ok_bs (ahead_ok h hc (by omega) (by omega)) (ok_bs (ahead_ok h hc (by omega) (by omega)) ?_))))
          refine ok_ite (fun e3 => ok_chk (by omega) (ih (d + 1) (by omega) (by omega) (by rw [e]; simp [bt1]; exact Or.inr e3))) (fun e3 => ok_some ⟨_, rfl, ?_⟩)
          dsimp only at e3
          have : bbR p c (d + 1) = false := by rw [e]; simp [bt1, e1, e2]; omega
          rw [bbR_f this hd]; rfl
        · exact ok_el e2 (ok_some (ok_if rfl (ok_chk (by omega) (ih (d + 1) (by omega) (by omega) (by rw [e]; simp [bt1, e2])))))
theorem beats_ok {p : PL} {M : Mem} (h : WF p) (hc : PCc M 11000 p) (c : Nat) : fX8_beatsAll 10 c M = some ((if bbR p c p.n then 1 else 0 : Int), M) := by
  have h8 := h.1
  apply ok_eq
  unfold fX8_beatsAll
  exact ok_lrl (beats_l h hc 1000 0 (by omega) (by omega) rfl)
def bst (p : PL) : Nat → Nat → Int
  | 0, _ => -5
  | k + 1, i => if p.g i = 0 ∧ bbR p i p.n = true then i else bst p k (i + 1)
theorem best_l {p : PL} {M : Mem} (h : WF p) (hc : PCc M 11000 p) : ∀ (m k i : Nat), i + k = p.n → k < m → Ok (fX8_best_l2 10 m i M) (fun z => ∃ a, z = .inl a ∧ a = (bst p k i, M)) := by
  intro m
  have h8 := h.1
  induction m with
  | zero => intros; omega
  | succ m ih =>
    intro k i h1 h2
    unfold fX8_best_l2
    simp only [Nat.reduceAdd]
    rw [hc.1]
    cases k with
    | zero => exact ok_if (by omega) (ok_some ⟨_, rfl, rfl⟩)
    | succ k =>
      have hi : i < p.n := by omega
      have e : bst p (k + 1) i = if p.g i = 0 ∧ bbR p i p.n = true then (i : Int) else bst p k (i + 1) := rfl
      simp only [tn, (hc.2.2.1 i hi).1]
      refine ok_el (by omega) (ok_chk (by omega) (ok_ite (fun e1 => ?_) (fun e1 => ?_)))
      · refine ok_bs (beats_ok h hc i) ?_
        by_cases e2 : bbR p i p.n = true
        · rw [if_pos ⟨e1, e2⟩] at e
          refine ok_el (by (try dsimp only); rw [if_pos e2]; decide) (ok_some ⟨_, rfl, by rw [e]⟩)
        · rw [if_neg (fun hx => e2 hx.2)] at e
          refine ok_if (by (try dsimp only); rw [if_neg e2]) (ok_chk (by omega) ?_)
          rw [e]; exact ih k (i + 1) (by omega) (by omega)
      · rw [if_neg (fun hx => e1 hx.1)] at e
        refine ok_chk (by omega) ?_
        rw [e]; exact ih k (i + 1) (by omega) (by omega)
theorem isBest_l {p : PL} {M : Mem} {c : Nat} (h : WF p) (hc : PMm M 20000 p) : ∀ (m d : Nat) (x : Int), d ≤ p.n → p.n < m + d → x = (if p.g c = 0 ∧ bbR p c d = true then 1 else 0) → Ok (fX9_isBest_l17 20000 c m x d M) (fun z => z.1 = (if p.g c = 0 ∧ bbR p c p.n = true then 1 else 0) ∧ z.2.2 = M) := by
  intro m
  have h8 := h.1
  induction m with
  | zero => intros; omega
  | succ m ih =>
    intro d x h1 h2 hx
    unfold fX9_isBest_l17
    rw [hc.1]
    refine ok_ite (fun hq => ok_some ⟨?_, rfl⟩) (fun hq => ?_)
    · have : d = p.n := by omega
      subst this; exact hx
    · have hd : d < p.n := by omega
      have e : bbR p c (d + 1) = (bbR p c d && bt1 p c d) := rfl
      simp only [tn, (hc.2.2.1 d hd).1]
      have go : ∀ x' : Int, x' = (if p.g c = 0 ∧ bbR p c (d + 1) = true then 1 else 0) → Ok (if -2147483648 ≤ ((d : Int) + 1) ∧ ((d : Int) + 1) ≤ 2147483647 then fX9_isBest_l17 20000 c m x' ((d : Int) + 1) M else none) (fun z => z.1 = (if p.g c = 0 ∧ bbR p c p.n = true then 1 else 0) ∧ z.2.2 = M) := fun x' hx' => ok_chk (by omega) (ih (d + 1) x' (by omega) (by omega) hx')
      by_cases e1 : d = c
      · subst e1
        exact ok_bi (ok_if rfl (ok_some (go x (by rw [hx, e]; simp [bt1]))))
      · refine ok_bi (ok_el (by omega) (ok_chk (by omega) ?_))
        by_cases e2 : p.g d = 0
        · refine ok_if e2 (ok_bi ?_)
          by_cases e3 : p.g c = 0 ∧ bbR p c d = true
          · rw [if_pos e3] at hx
            refine ok_el (by omega) (ok_bs (prefTo_ok h hc (by omega) (by omega)) (ok_bs (prefTo_ok h hc (by omega) (by omega)) ?_))
            refine ok_ite (fun e4 => ok_some (ok_nm0 (ok_some (go 0 ?_)))) (fun e4 => ok_some (ok_nm0 (ok_some (go 1 ?_))))
            · dsimp only at e4
              rw [if_neg]
              rintro ⟨_, h5⟩
              rw [e, e3.2] at h5
              simp [bt1, e1, e2] at h5
              omega
            · dsimp only at e4
              rw [if_pos]
              refine ⟨e3.1, ?_⟩
              rw [e, e3.2]
              simp [bt1]
              exact Or.inr (by omega)
          · rw [if_neg e3] at hx
            refine ok_if hx (ok_some (ok_nm0 (ok_some (go 0 ?_))))
            rw [if_neg]
            rintro ⟨h4, h5⟩
            rw [e] at h5
            exact e3 ⟨h4, (Bool.and_eq_true_iff.mp h5).1⟩
        · exact ok_el e2 (ok_some (go x (by rw [hx, e]; simp [bt1, e2])))
theorem isBest_ok {p : PL} {M : Mem} {c : Nat} (h : WF p) (hc : PMm M 20000 p) (hcn : c < p.n) : fX9_isBest 20000 c M = some ((if p.g c = 0 ∧ bbR p c p.n = true then 1 else 0 : Int), M) := by
  have h8 := h.1
  apply ok_eq
  unfold fX9_isBest
  simp only [tn, (hc.2.2.1 c hcn).1]
  refine ok_chk (by omega) (ok_by (Q := fun v : Int => v = if p.g c = 0 ∧ bbR p c 0 = true then 1 else 0) (ok_ite (fun e => ok_some (by rw [if_pos ⟨e, rfl⟩])) (fun e => ok_some (by rw [if_neg (fun hx => e hx.1)]))) (fun v hv => ?_))
  refine ok_by (isBest_l h hc 1000 0 v (by omega) (by omega) hv) (fun z hz => ?_)
  rw [hz.1, hz.2]
  exact ok_chk (b01 _) (ok_some rfl)
theorem mbest_l {p : PL} {M : Mem} (h : WF p) (hc : PMm M 20000 p) : ∀ (m k i : Nat), i + k = p.n → k < m → Ok (fX9_best_l2 20000 m i M) (fun z => ∃ a, z = .inl a ∧ a = (bst p k i, M)) := by
  intro m
  have h8 := h.1
  induction m with
  | zero => intros; omega
  | succ m ih =>
    intro k i h1 h2
    unfold fX9_best_l2
    rw [hc.1]
    cases k with
    | zero => exact ok_if (by omega) (ok_some ⟨_, rfl, rfl⟩)
    | succ k =>
      have hi : i < p.n := by omega
      have e : bst p (k + 1) i = if p.g i = 0 ∧ bbR p i p.n = true then (i : Int) else bst p k (i + 1) := rfl
      refine ok_el (by omega) (ok_bs (isBest_ok h hc hi) ?_)
      by_cases e1 : p.g i = 0 ∧ bbR p i p.n = true
      · rw [if_pos e1] at e
        exact ok_el (by (try dsimp only); rw [if_pos e1]; decide) (ok_some ⟨_, rfl, by rw [e]⟩)
      · rw [if_neg e1] at e
        refine ok_if (by (try dsimp only); rw [if_neg e1]) (ok_chk (by omega) ?_)
        rw [e]; exact ih k (i + 1) (by omega) (by omega)
theorem op_best {s : SS} (hs : GS s) : Op s (fX8_best 10) (fX9_best 20000) := by
  have h8 := hs.1.1.1
  refine ⟨bst s.p s.p.n 0, s, hs, fun M hC => ?_, fun M hD => ?_⟩
  · unfold fX8_best
    refine ok_lrl ((best_l hs.1.1 hC.1.1.1 1000 s.p.n 0 (by omega) (by omega)).mono (fun z hz => ?_))
    obtain ⟨a, e, ha⟩ := hz
    exact ⟨a, e, by rw [ha]; exact PC.self hC⟩
  · unfold fX9_best
    refine ok_lrl ((mbest_l hs.1.1 hD.1 1000 s.p.n 0 (by omega) (by omega)).mono (fun z hz => ?_))
    obtain ⟨a, e, ha⟩ := hz
    exact ⟨a, e, by rw [ha]; exact PD.self hD⟩
end
