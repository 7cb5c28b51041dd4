section
theorem ok_bs {α β : Type} {x : Option α} {q : α} {k : α → Option β} {P : β → Prop} (h : x = some q) (h2 : Ok (k q) P) : Ok (Option.bind x k) P := by subst h; exact h2
theorem ok_eq {α : Type} {f : Option α} {x : α} (h : Ok f (fun q => q = x)) : f = some x := by obtain ⟨q, h1, h2⟩ := h; subst h2; exact h1
theorem ok_lrl {α β γ : Type} {x : Option (α ⊕ β)} {f : α → γ} {k : β → Option γ} {P : γ → Prop} (h : Ok x (fun z => ∃ a, z = .inl a ∧ P (f a))) : Ok (lr x f k) P := by
  obtain ⟨z, h1, a, h2, h3⟩ := h
  subst h2; rw [h1]; exact ⟨_, rfl, h3⟩
theorem tn (k : Nat) : Int.toNat (k : Int) = k := rfl
theorem at_ok {l : List Int} (h : rl l) {k : Nat} (hk : k < 8) (M : Mem) : fX2_at (fill l) k M = some (l.getD k 0 - 1, M) := by
  have h1 := fill_at h hk
  have h2 : 0 < xpl k := (by decide : ∀ k, k < 8 → 0 < xpl k) k hk
  have h3 := fill_bd h
  have h4 : 0 ≤ l.getD k 0 ∧ l.getD k 0 ≤ 8 := by
    rw [List.getD_eq_getElem?_getD]
    by_cases hl : k < l.length
    · rw [List.getElem?_eq_getElem hl]; have := h.at hl; simp only [Option.getD_some]; omega
    · rw [List.getElem?_eq_none (by omega)]; simp only [Option.getD_none]; omega
  have h5 : 0 ≤ fill l / xpl k := Int.ediv_nonneg h3.1 (by omega)
  apply ok_eq
  unfold fX2_at
  simp only [tn, h1]
  (repeat (first | with_reducible refine ok_nm0 ?_ | (with_reducible refine ok_chk ?_ ?_; · omega) | (with_reducible refine ok_if ?_ ?_; · omega) | (with_reducible refine ok_el ?_ ?_; · omega) | with_reducible refine ok_some ?_ | with_reducible refine ok_bi ?_ | with_reducible refine ok_bsm ?_)); try dsimp only
theorem getD_lt {l : List Int} {k : Nat} (hk : k < l.length) : l.getD k 0 = l[k] := by
  rw [List.getD_eq_getElem?_getD, List.getElem?_eq_getElem hk]; rfl
theorem getD_ge {l : List Int} {k : Nat} (hk : l.length ≤ k) : l.getD k 0 = 0 := by
  rw [List.getD_eq_getElem?_getD, List.getElem?_eq_none hk]; rfl
theorem rl_getD {l : List Int} (h : rl l) {k : Nat} (hk : k < l.length) : 1 ≤ l.getD k 0 ∧ l.getD k 0 ≤ 8 := by rw [getD_lt hk]; exact h.at hk
/-! filled up -/
theorem rep_snoc (l : List Int) (j : Nat) : num (l ++ List.replicate (j + 1) 0) = 10 * num (l ++ List.replicate j 0) := by
  rw [List.replicate_succ', ← List.append_assoc, num_snoc, Int.add_zero]
theorem rep_bd {l : List Int} (h : rl l) (hn : l ≠ []) {j : Nat} : 10 ^ (l.length + j - 1) ≤ num (l ++ List.replicate j 0) ∧ num (l ++ List.replicate j 0) < 10 ^ (l.length + j) := by
  have h1 := num_pos (fun d hd => (h.1 d hd).1) h.gl hn
  have h2 := (num_bd l h.gl).2
  rw [num_app, num_rep, List.length_replicate, Int.add_zero, Int.pow_add]
  have hp := ten_pos j
  have hm : l.length ≠ 0 := fun e => hn (List.length_eq_zero_iff.mp e)
  have e : l.length + j - 1 = l.length - 1 + j := by omega
  rw [e, Int.pow_add]
  exact ⟨Int.mul_le_mul_of_nonneg_right h1 (by omega), Int.mul_lt_mul_of_pos_right h2 hp⟩
theorem filledUp_l {l : List Int} (h : rl l) (hn : l ≠ []) (M : Mem) : ∀ (n i j : Nat) (x : Int), i + 1 ≤ 8 → 7 < n + i → j = min i (8 - l.length) → x = num (l ++ List.replicate j 0) → Ok (fX2_filledUp_l4 n x (i + 1 : Nat) M) (fun q => q.1 = fill l ∧ q.2.2 = M) := by
  intro n
  induction n with
  | zero => intros; omega
  | succ n ih =>
    intro i j x h1 h2 hj hx
    have hm : l.length ≠ 0 := fun e => hn (List.length_eq_zero_iff.mp e)
    have h8 := h.2
    have hb := rep_bd h hn (j := j)
    unfold fX2_filledUp_l4
    refine ok_ite (fun hc => ok_some ?_) (fun hc => ?_)
    · have hj2 : j = 8 - l.length := by omega
      exact ⟨by rw [hx, hj2]; rfl, rfl⟩
    · refine ok_bind ?_
      have x0 : xpl (Int.toNat 0) = 10000000 := rfl
      have e7 : (10 : Int) ^ 7 = 10000000 := by decide
      have e8 : (10 : Int) ^ 8 = 100000000 := by decide
      by_cases hL : l.length + j = 8
      · have hg : 10000000 ≤ x := by
          have := hb.1
          rw [show l.length + j - 1 = 7 by omega, e7] at this
          omega
        (repeat (first | with_reducible refine ok_nm0 ?_ | (with_reducible refine ok_chk ?_ ?_; · omega) | (with_reducible refine ok_if ?_ ?_; · omega) | (with_reducible refine ok_el ?_ ?_; · omega) | with_reducible refine ok_some ?_ | with_reducible refine ok_bi ?_ | with_reducible refine ok_bsm ?_)); try dsimp only
        exact ih (i + 1) j x (by omega) (by omega) (by omega) hx
      · have hg : x < 10000000 := by
          have := hb.2
          have h3 := ten_le (show l.length + j ≤ 7 by omega)
          rw [e7] at h3
          omega
        have hg0 : 0 ≤ x := by
          have := hb.1
          have := ten_pos (l.length + j - 1)
          omega
        (repeat (first | with_reducible refine ok_nm0 ?_ | (with_reducible refine ok_chk ?_ ?_; · omega) | (with_reducible refine ok_if ?_ ?_; · omega) | (with_reducible refine ok_el ?_ ?_; · omega) | with_reducible refine ok_some ?_ | with_reducible refine ok_bi ?_ | with_reducible refine ok_bsm ?_)); try dsimp only
        exact ih (i + 1) (j + 1) _ (by omega) (by omega) (by omega) (by rw [rep_snoc, hx]; omega)
theorem filledUp_z (M : Mem) : fX2_filledUp 0 M = some (0, M) := by
  have : ∀ (n i : Nat), i + 1 ≤ 8 → 7 < n + i → Ok (fX2_filledUp_l4 n 0 (i + 1 : Nat) M) (fun q => q.1 = 0 ∧ q.2.2 = M) := by
    intro n
    induction n with
    | zero => intros; omega
    | succ n ih =>
      intro i h1 h2
      unfold fX2_filledUp_l4
      refine ok_ite (fun hc => ok_some ⟨rfl, rfl⟩) (fun hc => ?_)
      have x0 : xpl (Int.toNat 0) = 10000000 := rfl
      (repeat (first | with_reducible refine ok_nm0 ?_ | (with_reducible refine ok_chk ?_ ?_; · omega) | (with_reducible refine ok_if ?_ ?_; · omega) | (with_reducible refine ok_el ?_ ?_; · omega) | with_reducible refine ok_some ?_ | with_reducible refine ok_bi ?_ | with_reducible refine ok_bsm ?_)); try dsimp only
      exact ih (i + 1) (by omega) (by omega)
  apply ok_eq
  unfold fX2_filledUp
  refine ok_by (this 1000 0 (by omega) (by omega)) (fun q hq => ok_some ?_)
  rw [hq.1, hq.2]
theorem fill_nil : fill [] = 0 := by decide
theorem filledUp_ok {l : List Int} (h : rl l) (M : Mem) : fX2_filledUp (num l) M = some (fill l, M) := by
  by_cases hn : l = []
  · subst hn; rw [fill_nil]; exact filledUp_z M
  · apply ok_eq
    unfold fX2_filledUp
    refine ok_by (filledUp_l h hn M 1000 0 0 _ (by omega) (by omega) (by omega) (by simp)) (fun q hq => ok_some ?_)
    rw [hq.1, hq.2]
theorem asTold_l {l : List Int} (h : rl l) (hn : l ≠ []) (M : Mem) : ∀ (n i j : Nat) (x : Int), i + 1 ≤ 8 → 7 < n + i → j = 8 - l.length - i → x = num (l ++ List.replicate j 0) → Ok (fX2_asTold_l4 n x (i + 1 : Nat) M) (fun q => q.1 = num l ∧ q.2.2 = M) := by
  intro n
  induction n with
  | zero => intros; omega
  | succ n ih =>
    intro i j x h1 h2 hj hx
    have hm : l.length ≠ 0 := fun e => hn (List.length_eq_zero_iff.mp e)
    have h8 := h.2
    have hb := rep_bd h hn (j := j)
    have hg0 : 0 ≤ x := by
      have := hb.1
      have := ten_pos (l.length + j - 1)
      omega
    unfold fX2_asTold_l4
    refine ok_ite (fun hc => ok_some ?_) (fun hc => ?_)
    · have hj2 : j = 0 := by omega
      exact ⟨by rw [hx, hj2]; simp, rfl⟩
    · by_cases hL : j = 0
      · have hg : 1 ≤ x % 10 := by
          have hk : l.length - 1 < l.length := by omega
          have h3 := num_mod h.gl hk
          rw [show l.length - 1 + 1 = l.length by omega, num_take_len] at h3
          have h4 := h.at hk
          rw [hL] at hx
          simp only [List.replicate_zero, List.append_nil] at hx
          rw [← hx] at h3
          omega
        (repeat (first | with_reducible refine ok_nm0 ?_ | (with_reducible refine ok_chk ?_ ?_; · omega) | (with_reducible refine ok_if ?_ ?_; · omega) | (with_reducible refine ok_el ?_ ?_; · omega) | with_reducible refine ok_some ?_ | with_reducible refine ok_bi ?_ | with_reducible refine ok_bsm ?_)); try dsimp only
        exact ih (i + 1) j x (by omega) (by omega) (by omega) hx
      · obtain ⟨j', rfl⟩ : ∃ j', j = j' + 1 := ⟨j - 1, by omega⟩
        rw [rep_snoc] at hx
        (repeat (first | with_reducible refine ok_nm0 ?_ | (with_reducible refine ok_chk ?_ ?_; · omega) | (with_reducible refine ok_if ?_ ?_; · omega) | (with_reducible refine ok_el ?_ ?_; · omega) | with_reducible refine ok_some ?_ | with_reducible refine ok_bi ?_ | with_reducible refine ok_bsm ?_)); try dsimp only
        exact ih (i + 1) j' _ (by omega) (by omega) (by omega) (by omega)
theorem asTold_ok {l : List Int} (h : rl l) (hn : l ≠ []) (M : Mem) : fX2_asTold (fill l) M = some (num l, M) := by
  apply ok_eq
  unfold fX2_asTold
  refine ok_by (asTold_l h hn M 1000 0 (8 - l.length) _ (by omega) (by omega) (by omega) rfl) (fun q hq => ok_some ?_)
  rw [hq.1, hq.2]
theorem length_l {l : List Int} (h : rl l) (M : Mem) : ∀ (n i : Nat) (x : Int), i ≤ 8 → 8 < n + i → x = (min i l.length : Nat) → Ok (fX2_length_l4 (fill l) n x i M) (fun q => q.1 = l.length ∧ q.2.2 = M) := by
  intro n
  induction n with
  | zero => intros; omega
  | succ n ih =>
    intro i x h1 h2 hx
    have h8 := h.2
    unfold fX2_length_l4
    refine ok_ite (fun hc => ok_some ?_) (fun hc => ?_)
    · exact ⟨by (try dsimp only); omega, rfl⟩
    · refine ok_bs (at_ok h (by omega) M) ?_
      by_cases hl : i < l.length
      · have := rl_getD h hl
        (repeat (first | with_reducible refine ok_nm0 ?_ | (with_reducible refine ok_chk ?_ ?_; · omega) | (with_reducible refine ok_if ?_ ?_; · omega) | (with_reducible refine ok_el ?_ ?_; · omega) | with_reducible refine ok_some ?_ | with_reducible refine ok_bi ?_ | with_reducible refine ok_bsm ?_)); try dsimp only
        exact ih (i + 1) _ (by omega) (by omega) (by omega)
      · have := getD_ge (l := l) (k := i) (by omega)
        (repeat (first | with_reducible refine ok_nm0 ?_ | (with_reducible refine ok_chk ?_ ?_; · omega) | (with_reducible refine ok_if ?_ ?_; · omega) | (with_reducible refine ok_el ?_ ?_; · omega) | with_reducible refine ok_some ?_ | with_reducible refine ok_bi ?_ | with_reducible refine ok_bsm ?_)); try dsimp only
        exact ih (i + 1) _ (by omega) (by omega) (by omega)
theorem length_ok {l : List Int} (h : rl l) (M : Mem) : fX2_length (fill l) M = some ((l.length : Int), M) := by
  apply ok_eq
  unfold fX2_length
  refine ok_by (length_l h M 1000 0 0 (by omega) (by omega) (by simp)) (fun q hq => ok_some ?_)
  rw [hq.1, hq.2]
end
