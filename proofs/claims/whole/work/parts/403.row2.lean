section
/-- the place of a digit, 8 if it lacks -/
def plc (l : List Int) (d : Int) : Int := if l.idxOf d < l.length then l.idxOf d else 8
theorem plc_at {l : List Int} {d : Int} {i : Nat} (hi : i < l.length) (h : l[i] = d) (hb : ∀ k (hk : k < i), l[k]'(by omega) ≠ d) : plc l d = i := by
  have e : l.idxOf d = i := by
    have hm : d ∈ l := h ▸ List.getElem_mem hi
    have h1 := List.idxOf_lt_length_of_mem hm
    have h2 := List.getElem_idxOf h1
    by_cases h3 : l.idxOf d < i
    · exact absurd h2 (hb _ h3)
    · by_cases h4 : i < l.idxOf d
      · have := List.not_of_lt_findIdx (p := (· == d)) (xs := l) (i := i) h4
        simp only [beq_eq_false_iff_ne] at this
        exact absurd h this
      · omega
  unfold plc
  rw [e, if_pos hi]
theorem plc_no {l : List Int} {d : Int} (h : d ∉ l) : plc l d = 8 := by
  unfold plc
  rw [if_neg (by rw [List.idxOf_lt_length_iff]; exact h)]
theorem placeOf_l {l : List Int} (h : rl l) {c : Int} (hc : 0 ≤ c) (M : Mem) : ∀ (n i : Nat), i ≤ 8 → 8 < n + i → (∀ k, k < i → l.getD k 0 - 1 ≠ c) → Ok (fX2_placeOf_l2 (fill l) c n i M) (fun z => ∃ a, z = .inl a ∧ a.1 = plc l (c + 1) ∧ a.2 = M) := by
  intro n
  induction n with
  | zero => intros; omega
  | succ n ih =>
    intro i h1 h2 hb
    have h8 := h.2
    unfold fX2_placeOf_l2
    refine ok_ite (fun hc => ok_some ?_) (fun hc => ?_)
    · refine ⟨_, rfl, ?_, rfl⟩
      rw [plc_no]
      intro hm
      obtain ⟨k, hk, e⟩ := List.getElem_of_mem hm
      have := hb k (by omega)
      rw [getD_lt hk, e] at this
      omega
    · refine ok_bs (at_ok h (by omega) M) ?_
      refine ok_ite (fun hq => ok_some ?_) (fun hq => ?_)
      · refine ⟨_, rfl, ?_, rfl⟩
        have hl : i < l.length := by
          by_cases hl : i < l.length
          · exact hl
          · have := getD_ge (l := l) (k := i) (by omega)
            try dsimp only at hq
            omega
        rw [plc_at hl]
        · rw [← getD_lt hl]; dsimp only at hq; omega
        · intro k hk e
          have := hb k hk
          rw [getD_lt (by omega)] at this
          omega
      · (repeat (first | with_reducible refine ok_nm0 ?_ | (with_reducible refine ok_chk ?_ ?_; · omega) | (with_reducible refine ok_if ?_ ?_; · omega) | (with_reducible refine ok_el ?_ ?_; · omega) | with_reducible refine ok_some ?_ | with_reducible refine ok_bi ?_ | with_reducible refine ok_bsm ?_)); try dsimp only
        refine ih (i + 1) (by omega) (by omega) ?_
        intro k hk
        by_cases e : k = i
        · subst e; exact hq
        · exact hb k (by omega)
theorem placeOf_ok {l : List Int} (h : rl l) {c : Int} (hc : 0 ≤ c) (M : Mem) : fX2_placeOf (fill l) c M = some (plc l (c + 1), M) := by
  apply ok_eq
  unfold fX2_placeOf
  refine ok_lrl ((placeOf_l h hc M 1000 0 (by omega) (by omega) (fun k hk => by omega)).mono (fun z hz => ?_))
  obtain ⟨a, rfl, h1, h2⟩ := hz
  exact ⟨a, rfl, Prod.ext h1 h2⟩
/-! left out -/
def lft (g : Nat → Int) (l : List Int) : List Int := l.filter (fun d => decide (g (d - 1).toNat = 0))
theorem rl_filter {l : List Int} (h : rl l) (p : Int → Bool) : rl (l.filter p) := ⟨fun d hd => h.1 d ((List.mem_filter.mp hd).1), by have := List.length_filter_le p l; have := h.2; omega⟩
theorem lft_rl {l : List Int} (h : rl l) (g : Nat → Int) : rl (lft g l) := rl_filter h _
theorem lft_take {l : List Int} (g : Nat → Int) {k : Nat} (hk : k < l.length) : lft g (l.take (k + 1)) = lft g (l.take k) ++ (if g (l[k] - 1).toNat = 0 then [l[k]] else []) := by
  unfold lft
  rw [List.take_succ_eq_append_getElem hk, List.filter_append]
  congr 1
  by_cases e : g (l[k] - 1).toNat = 0
  · rw [if_pos e, List.filter_cons_of_pos (by simpa using e), List.filter_nil]
  · rw [if_neg e, List.filter_cons_of_neg (by simpa using e), List.filter_nil]
theorem len_bd {l : List Int} (h : rl l) : 0 ≤ num l ∧ num l < 100000000 := ⟨(num_bd l h.gl).1, num_lt8 h⟩
theorem num7 {l : List Int} (h : gl l) (hl : l.length < 8) : 0 ≤ num l ∧ num l < 10000000 := by
  have h1 := num_bd l h
  have h2 := ten_le (show l.length ≤ 7 by omega)
  have : (10 : Int) ^ 7 = 10000000 := by decide
  omega
theorem leftOf_l {l : List Int} (h : rl l) (a : Nat) (M : Mem) : ∀ (n i : Nat) (x : Int), i ≤ 8 → 8 < n + i → x = num (lft (M a) (l.take i)) → Ok (fX2_leftOf_l4 (fill l) a n x i M) (fun q => q.1 = num (lft (M a) l) ∧ q.2.2 = M) := by
  intro n
  induction n with
  | zero => intros; omega
  | succ n ih =>
    intro i x h1 h2 hx
    have h8 := h.2
    unfold fX2_leftOf_l4
    refine ok_ite (fun hc => ok_some ?_) (fun hc => ?_)
    · refine ⟨?_, rfl⟩
      rw [List.take_of_length_le (by omega)] at hx
      exact hx
    · refine ok_bs (at_ok h (by omega) M) ?_
      by_cases hl : i < l.length
      · have hr := rl_getD h hl
        have hd := getD_lt hl
        have hx2 := lft_take (M a) hl
        rw [← hd] at hx2
        have hn7 := num7 (lft_rl (h.take i) (M a)).gl (by
          have h3 := List.length_filter_le (fun d => decide (M a (d - 1).toNat = 0)) (l.take i)
          have h4 := List.length_take_le i l
          unfold lft
          omega)
        (repeat (first | with_reducible refine ok_nm0 ?_ | (with_reducible refine ok_chk ?_ ?_; · omega) | (with_reducible refine ok_if ?_ ?_; · omega) | (with_reducible refine ok_el ?_ ?_; · omega) | with_reducible refine ok_some ?_ | with_reducible refine ok_bi ?_ | with_reducible refine ok_bsm ?_)); try dsimp only
        refine ok_ite (fun hq => ?_) (fun hq => ?_)
        · rw [if_pos hq] at hx2
          (repeat (first | with_reducible refine ok_nm0 ?_ | (with_reducible refine ok_chk ?_ ?_; · omega) | (with_reducible refine ok_if ?_ ?_; · omega) | (with_reducible refine ok_el ?_ ?_; · omega) | with_reducible refine ok_some ?_ | with_reducible refine ok_bi ?_ | with_reducible refine ok_bsm ?_)); try dsimp only
          refine ih (i + 1) _ (by omega) (by omega) ?_
          rw [hx2, num_snoc]
          omega
        · rw [if_neg hq] at hx2
          (repeat (first | with_reducible refine ok_nm0 ?_ | (with_reducible refine ok_chk ?_ ?_; · omega) | (with_reducible refine ok_if ?_ ?_; · omega) | (with_reducible refine ok_el ?_ ?_; · omega) | with_reducible refine ok_some ?_ | with_reducible refine ok_bi ?_ | with_reducible refine ok_bsm ?_)); try dsimp only
          refine ih (i + 1) _ (by omega) (by omega) ?_
          rw [hx2, List.append_nil]
          exact hx
      · have := getD_ge (l := l) (k := i) (by omega)
        (repeat (first | with_reducible refine ok_nm0 ?_ | (with_reducible refine ok_chk ?_ ?_; · omega) | (with_reducible refine ok_if ?_ ?_; · omega) | (with_reducible refine ok_el ?_ ?_; · omega) | with_reducible refine ok_some ?_ | with_reducible refine ok_bi ?_ | with_reducible refine ok_bsm ?_)); try dsimp only
        refine ih (i + 1) _ (by omega) (by omega) ?_
        rw [List.take_of_length_le (by omega)] at hx ⊢
        exact hx
theorem leftOf_ok {l : List Int} (h : rl l) (a : Nat) (M : Mem) : fX2_leftOf (fill l) a M = some (fill (lft (M a) l), M) := by
  apply ok_eq
  unfold fX2_leftOf
  refine ok_by (leftOf_l h a M 1000 0 0 (by omega) (by omega) rfl) (fun q hq => ?_)
  rw [hq.1, hq.2]
  exact ok_bs (filledUp_ok (lft_rl h _) M) (ok_some rfl)
/-! put first -/
def led (d : Int) (l : List Int) : List Int := d :: l.filter (fun x => decide (x ≠ d))
theorem led_take {l : List Int} (d : Int) {k : Nat} (hk : k < l.length) : led d (l.take (k + 1)) = led d (l.take k) ++ (if l[k] = d then [] else [l[k]]) := by
  unfold led
  rw [List.take_succ_eq_append_getElem hk, List.filter_append, List.cons_append]
  congr 2
  by_cases e : l[k] = d
  · rw [if_pos e, List.filter_cons_of_neg (by simpa using e), List.filter_nil]
  · rw [if_neg e, List.filter_cons_of_pos (by simpa using e), List.filter_nil]
theorem led_gl {l : List Int} (h : rl l) {d : Int} (hd : 1 ≤ d ∧ d ≤ 8) : gl (led d l) := by
  intro x hx
  rcases List.mem_cons.mp hx with e | e
  · omega
  · have := h.1 x ((List.mem_filter.mp e).1); omega
theorem num9 {l : List Int} (h : gl l) (hl : l.length ≤ 8) : 0 ≤ num l ∧ num l < 100000000 := by
  have h1 := num_bd l h
  have h2 := ten_le hl
  have : (10 : Int) ^ 8 = 100000000 := by decide
  omega
theorem ledBy_l {l : List Int} (h : rl l) {c : Int} (hc : 0 ≤ c ∧ c < 8) (M : Mem) : ∀ (n i : Nat) (x : Int), i ≤ 8 → 8 < n + i → x = num (led (c + 1) (l.take i)) → Ok (fX2_ledBy_l6 c (fill l) n x i M) (fun q => q.1 = num (led (c + 1) l) ∧ q.2.2 = M) := by
  intro n
  induction n with
  | zero => intros; omega
  | succ n ih =>
    intro i x h1 h2 hx
    have h8 := h.2
    unfold fX2_ledBy_l6
    refine ok_ite (fun hc => ok_some ?_) (fun hc => ?_)
    · refine ⟨?_, rfl⟩
      rw [List.take_of_length_le (by omega)] at hx
      exact hx
    · refine ok_bs (at_ok h (by omega) M) ?_
      by_cases hl : i < l.length
      · have hr := rl_getD h hl
        have hd := getD_lt hl
        have hx2 := led_take (c + 1) hl
        rw [← hd] at hx2
        have hn9 := num9 (led_gl (h.take i) (d := c + 1) (by omega)) (by
          have h3 := List.length_filter_le (fun x => decide (x ≠ c + 1)) (l.take i)
          have h4 := List.length_take_le i l
          unfold led
          rw [List.length_cons]
          omega)
        (repeat (first | with_reducible refine ok_nm0 ?_ | (with_reducible refine ok_chk ?_ ?_; · omega) | (with_reducible refine ok_if ?_ ?_; · omega) | (with_reducible refine ok_el ?_ ?_; · omega) | with_reducible refine ok_some ?_ | with_reducible refine ok_bi ?_ | with_reducible refine ok_bsm ?_)); try dsimp only
        refine ok_ite (fun hq => ?_) (fun hq => ?_)
        · rw [if_pos (by omega)] at hx2
          (repeat (first | with_reducible refine ok_nm0 ?_ | (with_reducible refine ok_chk ?_ ?_; · omega) | (with_reducible refine ok_if ?_ ?_; · omega) | (with_reducible refine ok_el ?_ ?_; · omega) | with_reducible refine ok_some ?_ | with_reducible refine ok_bi ?_ | with_reducible refine ok_bsm ?_)); try dsimp only
          refine ih (i + 1) _ (by omega) (by omega) ?_
          rw [hx2, List.append_nil]
          exact hx
        · rw [if_neg (by omega)] at hx2
          (repeat (first | with_reducible refine ok_nm0 ?_ | (with_reducible refine ok_chk ?_ ?_; · omega) | (with_reducible refine ok_if ?_ ?_; · omega) | (with_reducible refine ok_el ?_ ?_; · omega) | with_reducible refine ok_some ?_ | with_reducible refine ok_bi ?_ | with_reducible refine ok_bsm ?_)); try dsimp only
          refine ih (i + 1) _ (by omega) (by omega) ?_
          rw [hx2, num_snoc]
          omega
      · have := getD_ge (l := l) (k := i) (by omega)
        (repeat (first | with_reducible refine ok_nm0 ?_ | (with_reducible refine ok_chk ?_ ?_; · omega) | (with_reducible refine ok_if ?_ ?_; · omega) | (with_reducible refine ok_el ?_ ?_; · omega) | with_reducible refine ok_some ?_ | with_reducible refine ok_bi ?_ | with_reducible refine ok_bsm ?_)); try dsimp only
        refine ih (i + 1) _ (by omega) (by omega) ?_
        rw [List.take_of_length_le (by omega)] at hx ⊢
        exact hx
theorem ledBy_ok {l : List Int} (h : rl l) {c : Int} (hc : 0 ≤ c ∧ c < 8) (hl : rl (led (c + 1) l)) (M : Mem) : fX2_ledBy c (fill l) M = some (fill (led (c + 1) l), M) := by
  apply ok_eq
  unfold fX2_ledBy
  (repeat (first | with_reducible refine ok_nm0 ?_ | (with_reducible refine ok_chk ?_ ?_; · omega) | (with_reducible refine ok_if ?_ ?_; · omega) | (with_reducible refine ok_el ?_ ?_; · omega) | with_reducible refine ok_some ?_ | with_reducible refine ok_bi ?_ | with_reducible refine ok_bsm ?_)); try dsimp only
  refine ok_by (ledBy_l h hc M 1000 0 (c + 1) (by omega) (by omega) (by simp [led, num])) (fun q hq => ?_)
  rw [hq.1, hq.2]
  exact ok_bs (filledUp_ok hl M) (ok_some rfl)
/-! the other one's digits -/
theorem lengthOf_l {l : List Int} (h : rl l) (M : Mem) : ∀ (n k : Nat) (x v : Int), k ≤ l.length → k < n → x + k = l.length → v = num (l.take k) → Ok (fX9_lengthOf_l4 n x v M) (fun q => q.1 = l.length ∧ q.2.2 = M) := by
  intro n
  induction n with
  | zero => intros; omega
  | succ n ih =>
    intro k x v h1 h2 hx hv
    have h8 := h.2
    unfold fX9_lengthOf_l4
    cases k with
    | zero =>
      have : v = 0 := hv
      (repeat (first | with_reducible refine ok_nm0 ?_ | (with_reducible refine ok_chk ?_ ?_; · omega) | (with_reducible refine ok_if ?_ ?_; · omega) | (with_reducible refine ok_el ?_ ?_; · omega) | with_reducible refine ok_some ?_ | with_reducible refine ok_bi ?_ | with_reducible refine ok_bsm ?_)); try dsimp only
      exact ⟨by (try dsimp only); omega, rfl⟩
    | succ k =>
      have hp := num_pos0 h (k := k) (by omega)
      (repeat (first | with_reducible refine ok_nm0 ?_ | (with_reducible refine ok_chk ?_ ?_; · omega) | (with_reducible refine ok_if ?_ ?_; · omega) | (with_reducible refine ok_el ?_ ?_; · omega) | with_reducible refine ok_some ?_ | with_reducible refine ok_bi ?_ | with_reducible refine ok_bsm ?_)); try dsimp only
      exact ih k _ _ (by omega) (by omega) (by omega) (by rw [hv]; exact num_ten h.gl (by omega))
theorem lengthOf_ok {l : List Int} (h : rl l) (M : Mem) : fX9_lengthOf (num l) M = some ((l.length : Int), M) := by
  have h8 := h.2
  apply ok_eq
  unfold fX9_lengthOf
  refine ok_by (lengthOf_l h M 1000 l.length 0 _ (by omega) (by omega) (by omega) (by rw [List.take_length])) (fun q hq => ok_some ?_)
  rw [hq.1, hq.2]
theorem digitAt_l {l : List Int} (h : rl l) {i : Nat} (hi : i < l.length) (M : Mem) : ∀ (n k : Nat) (v : Int), i ≤ k → k < l.length → k < n + i → v = num (l.take (k + 1)) → Ok (fX9_digitAt_l9 i n v k M) (fun q => q.1 = num (l.take (i + 1)) ∧ q.2.2 = M) := by
  intro n
  induction n with
  | zero => intros; omega
  | succ n ih =>
    intro k v h1 h2 h3 hv
    have h8 := h.2
    unfold fX9_digitAt_l9
    refine ok_ite (fun hc => ok_some ?_) (fun hc => ?_)
    · have : k = i := by omega
      subst this
      exact ⟨hv, rfl⟩
    · have hp := num_pos0 h (k := k) (by omega)
      obtain ⟨k', rfl⟩ : ∃ k', k = k' + 1 := ⟨k - 1, by omega⟩
      (repeat (first | with_reducible refine ok_nm0 ?_ | (with_reducible refine ok_chk ?_ ?_; · omega) | (with_reducible refine ok_if ?_ ?_; · omega) | (with_reducible refine ok_el ?_ ?_; · omega) | with_reducible refine ok_some ?_ | with_reducible refine ok_bi ?_ | with_reducible refine ok_bsm ?_)); try dsimp only
      have := ih k' (v / 10) (by omega) (by omega) (by omega) (by rw [hv]; exact num_ten h.gl (by omega))
      rw [show ((k' + 1 : Nat) : Int) + -1 = (k' : Int) by omega]
      exact this
theorem digitAt_ok {l : List Int} (h : rl l) {i : Nat} (hi : i < l.length) (M : Mem) : fX9_digitAt (num l) i M = some (l.getD i 0, M) := by
  have h8 := h.2
  apply ok_eq
  unfold fX9_digitAt
  refine ok_bs (lengthOf_ok h M) ?_
  (repeat (first | with_reducible refine ok_nm0 ?_ | (with_reducible refine ok_chk ?_ ?_; · omega) | (with_reducible refine ok_if ?_ ?_; · omega) | (with_reducible refine ok_el ?_ ?_; · omega) | with_reducible refine ok_some ?_ | with_reducible refine ok_bi ?_ | with_reducible refine ok_bsm ?_)); try dsimp only
  try dsimp only
  rw [show (l.length : Int) - 1 = ((l.length - 1 : Nat) : Int) by omega]
  refine ok_by (digitAt_l h hi M 1000 (l.length - 1) _ (by omega) (by omega) (by omega) (by rw [show l.length - 1 + 1 = l.length by omega, List.take_length])) (fun q hq => ?_)
  have hp := num_pos0 h hi
  have hm := num_mod h.gl hi
  rw [← getD_lt hi] at hm
  rw [hq.1, hq.2, hm]
  exact ok_chk (by omega) (ok_some rfl)
theorem left_l {l : List Int} (h : rl l) (a : Nat) (M : Mem) : ∀ (n i : Nat) (x : Int), i ≤ l.length → l.length < n + i → x = num (lft (M (a + 3)) (l.take i)) → Ok (fX9_left_l4 a (num l) n x i M) (fun q => q.1 = num (lft (M (a + 3)) l) ∧ q.2.2 = M) := by
  intro n
  induction n with
  | zero => intros; omega
  | succ n ih =>
    intro i x h1 h2 hx
    have h8 := h.2
    unfold fX9_left_l4
    refine ok_bs (lengthOf_ok h M) ?_
    refine ok_ite (fun hc => ok_some ?_) (fun hc => ?_)
    · refine ⟨?_, rfl⟩
      try dsimp only at hc
      rw [List.take_of_length_le (by omega)] at hx
      exact hx
    · dsimp only at hc
      have hl : i < l.length := by omega
      refine ok_bs (digitAt_ok h hl M) ?_
      have hr := rl_getD h hl
      have hd := getD_lt hl
      have hx2 := lft_take (M (a + 3)) hl
      rw [← hd] at hx2
      have hn7 := num7 (lft_rl (h.take i) (M (a + 3))).gl (by
        have h3 := List.length_filter_le (fun d => decide (M (a + 3) (d - 1).toNat = 0)) (l.take i)
        have h4 := List.length_take_le i l
        unfold lft
        omega)
      (repeat (first | with_reducible refine ok_nm0 ?_ | (with_reducible refine ok_chk ?_ ?_; · omega) | (with_reducible refine ok_if ?_ ?_; · omega) | (with_reducible refine ok_el ?_ ?_; · omega) | with_reducible refine ok_some ?_ | with_reducible refine ok_bi ?_ | with_reducible refine ok_bsm ?_)); try dsimp only
      refine ok_ite (fun hq => ?_) (fun hq => ?_)
      · rw [if_pos hq] at hx2
        (repeat (first | with_reducible refine ok_nm0 ?_ | (with_reducible refine ok_chk ?_ ?_; · omega) | (with_reducible refine ok_if ?_ ?_; · omega) | (with_reducible refine ok_el ?_ ?_; · omega) | with_reducible refine ok_some ?_ | with_reducible refine ok_bi ?_ | with_reducible refine ok_bsm ?_)); try dsimp only
        refine ih (i + 1) _ (by omega) (by omega) ?_
        rw [hx2, num_snoc]
        omega
      · rw [if_neg hq] at hx2
        (repeat (first | with_reducible refine ok_nm0 ?_ | (with_reducible refine ok_chk ?_ ?_; · omega) | (with_reducible refine ok_if ?_ ?_; · omega) | (with_reducible refine ok_el ?_ ?_; · omega) | with_reducible refine ok_some ?_ | with_reducible refine ok_bi ?_ | with_reducible refine ok_bsm ?_)); try dsimp only
        refine ih (i + 1) _ (by omega) (by omega) ?_
        rw [hx2, List.append_nil]
        exact hx
theorem left_ok {l : List Int} (h : rl l) (a : Nat) (M : Mem) : fX9_left a (num l) M = some (num (lft (M (a + 3)) l), M) := by
  have h8 := h.2
  apply ok_eq
  unfold fX9_left
  refine ok_by (left_l h a M 1000 0 0 (by omega) (by omega) rfl) (fun q hq => ok_some ?_)
  rw [hq.1, hq.2]
theorem keyOf_l {l : List Int} (h : rl l) (M : Mem) : ∀ (n k : Nat) (x : Int), l.length ≤ k → k ≤ 8 → 8 < n + k → x = num (l ++ List.replicate (k - l.length) 0) → Ok (fX9_keyOf_l7 n x k M) (fun q => q.1 = fill l ∧ q.2.2 = M) := by
  intro n
  induction n with
  | zero => intros; omega
  | succ n ih =>
    intro k x h1 h2 h3 hx
    have hb := num9 (l := l ++ List.replicate (k - l.length) 0) (gl_app h.gl (gl_rep _)) (by rw [List.length_append, List.length_replicate]; omega)
    unfold fX9_keyOf_l7
    refine ok_ite (fun hc => ok_some ?_) (fun hc => ?_)
    · have : k = 8 := by omega
      subst this
      exact ⟨hx, rfl⟩
    · (repeat (first | with_reducible refine ok_nm0 ?_ | (with_reducible refine ok_chk ?_ ?_; · omega) | (with_reducible refine ok_if ?_ ?_; · omega) | (with_reducible refine ok_el ?_ ?_; · omega) | with_reducible refine ok_some ?_ | with_reducible refine ok_bi ?_ | with_reducible refine ok_bsm ?_)); try dsimp only
      refine ih (k + 1) _ (by omega) (by omega) (by omega) ?_
      rw [show k + 1 - l.length = k - l.length + 1 by omega, rep_snoc]
      omega
theorem keyOf_ok {l : List Int} (h : rl l) (M : Mem) : fX9_keyOf (num l) M = some (fill l, M) := by
  have h8 := h.2
  apply ok_eq
  unfold fX9_keyOf
  refine ok_bs (lengthOf_ok h M) ?_
  (repeat (first | with_reducible refine ok_nm0 ?_ | (with_reducible refine ok_chk ?_ ?_; · omega) | (with_reducible refine ok_if ?_ ?_; · omega) | (with_reducible refine ok_el ?_ ?_; · omega) | with_reducible refine ok_some ?_ | with_reducible refine ok_bi ?_ | with_reducible refine ok_bsm ?_)); try dsimp only
  refine ok_by (keyOf_l h M 1000 l.length _ (by omega) (by omega) (by omega) (by simp)) (fun q hq => ok_some ?_)
  rw [hq.1, hq.2]
end
