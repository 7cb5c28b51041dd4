section
/-! the other one's COUNT: small pieces -/
theorem w32_id {x : Int} (h0 : -2147483648 ≤ x) (h1 : x ≤ 2147483647) : w32 x = x := Int32.toInt_ofInt_of_le (by omega) (by omega)
theorem lotOf_l {a : Nat} {p : PL} {M : Mem} (h : WF p) (hc : PMm M a p) {c i0 : Nat} (hi0 : i0 < p.n) (hl : p.lot i0 = (c : Int)) : ∀ (m i : Nat), i ≤ i0 → i0 < m + i → Ok (fX9_lotOf_l2 a c m i M) (fun z => z = ((i0 : Int), M)) := by
  intro m
  have hn8 := h.1
  induction m with
  | zero => intros; omega
  | succ m ih =>
    intro i h1 h2
    unfold fX9_lotOf_l2
    have e := (hc.2.2.1 i (by omega)).2
    simp only [tn, e]
    refine ok_chk (by omega) (ok_ite (fun hq => ok_some ?_) (fun hq => ?_))
    · have : i = i0 := h.2.2.2.1.inj (by omega) hi0 (by rw [hq, hl])
      subst this; rfl
    · have : i ≠ i0 := fun e => hq (by rw [e, hl])
      (repeat (first | with_reducible refine ok_nm0 ?_ | (with_reducible refine ok_chk ?_ ?_; · omega) | (with_reducible refine ok_if ?_ ?_; · omega) | (with_reducible refine ok_el ?_ ?_; · omega) | with_reducible refine ok_some ?_ | with_reducible refine ok_bi ?_ | with_reducible refine ok_bsm ?_)); try dsimp only
      exact ih (i + 1) (by omega) (by omega)
theorem lotOf_ok {a : Nat} {p : PL} {M : Mem} (h : WF p) (hc : PMm M a p) {c : Nat} (hcn : c < p.n) : fX9_lotOf a c M = some (pos p c, M) := by
  have hn8 := h.1
  obtain ⟨i, hi, e1, e2⟩ := pos_at h hcn
  apply ok_eq
  unfold fX9_lotOf
  refine ok_by (lotOf_l h hc hi e1 1000 0 (by omega) (by omega)) (fun z hz => ok_some ?_)
  rw [hz, e2]
theorem isAhead_ok {a : Nat} {p : PL} {M : Mem} {g : Vec} (h : WF p) (hc : PMm M a p) (hg : Ag p.n (M (a + 29)) g) {c d : Nat} (hcn : c < p.n) (hdn : d < p.n) : fX9_isAhead a c d M = some (if lx (av p g) c d then 1 else 0, M) := by
  have hn8 := h.1
  apply ok_eq
  unfold fX9_isAhead
  refine ok_chk (by omega) (ok_chk (by omega) ?_)
  refine ok_by (Q := fun t : Int × Mem => t = (if lx (av p g) c d then 1 else 0, M)) ?_ (fun t ht => ?_)
  · simp only [tn, hg c hcn, hg d hdn]
    refine ok_ite (fun h1 => ok_some ?_) (fun h1 => ?_)
    · rw [if_pos (av_iff.mpr (Or.inl h1))]
    · refine ok_chk (by omega) (ok_chk (by omega) (ok_ite (fun h2 => ?_) (fun h2 => ok_some ?_)))
      · refine ok_bs (lotOf_ok h hc hcn) (ok_bs (lotOf_ok h hc hdn) ?_)
        refine ok_ite (fun h3 => ok_some ?_) (fun h3 => ok_some ?_)
        · dsimp only at h3
          rw [if_neg (fun hx => by rcases av_iff.mp hx with h4 | h4 <;> omega)]
        · dsimp only at h3
          rw [if_pos (av_iff.mpr (Or.inr ⟨h2, by omega⟩))]
      · rw [if_neg (fun hx => by rcases av_iff.mp hx with h4 | h4 <;> omega)]
  · rw [ht]
    refine ok_chk ?_ (ok_some rfl)
    dsimp only
    by_cases e : lx (av p g) c d = true
    · rw [if_pos e]; exact Or.inr rfl
    · rw [if_neg e]; exact Or.inl rfl
theorem many_l {a n : Nat} {what : Int} {M : Mem} (hn : n ≤ 8) (h0 : M a 0 = n) : ∀ (m c : Nat) (x : Int), c ≤ n → n < m + c → x = cn c (fun c => decide (M (a + 25) c = what)) → Ok (fX9_many__l4 a what m x c M) (fun z => z.1 = cn n (fun c => decide (M (a + 25) c = what)) ∧ z.2.2 = M) := by
  intro m
  induction m with
  | zero => intros; omega
  | succ m ih =>
    intro c x h1 h2 hx
    have hle := cn_le c (fun c => decide (M (a + 25) c = what))
    have hnn := cn_nn c (fun c => decide (M (a + 25) c = what))
    have ec : cn (c + 1) (fun c => decide (M (a + 25) c = what)) = cn c (fun c => decide (M (a + 25) c = what)) + (if decide (M (a + 25) c = what) = true then 1 else 0) := rfl
    unfold fX9_many__l4
    rw [h0]
    refine ok_ite (fun hc => ok_some ⟨?_, rfl⟩) (fun hc => ?_)
    · have : c = n := by omega
      subst this; exact hx
    · simp only [tn]
      refine ok_chk (by omega) (ok_bi (ok_ite (fun hq => ?_) (fun hq => ?_)))
      · rw [if_pos (by simpa using hq)] at ec
        (repeat (first | with_reducible refine ok_nm0 ?_ | (with_reducible refine ok_chk ?_ ?_; · omega) | (with_reducible refine ok_if ?_ ?_; · omega) | (with_reducible refine ok_el ?_ ?_; · omega) | with_reducible refine ok_some ?_ | with_reducible refine ok_bi ?_ | with_reducible refine ok_bsm ?_)); try dsimp only
        exact ih (c + 1) _ (by omega) (by omega) (by rw [ec, hx])
      · rw [if_neg (by simpa using hq)] at ec
        (repeat (first | with_reducible refine ok_nm0 ?_ | (with_reducible refine ok_chk ?_ ?_; · omega) | (with_reducible refine ok_if ?_ ?_; · omega) | (with_reducible refine ok_el ?_ ?_; · omega) | with_reducible refine ok_some ?_ | with_reducible refine ok_bi ?_ | with_reducible refine ok_bsm ?_)); try dsimp only
        exact ih (c + 1) _ (by omega) (by omega) (by rw [ec, hx]; omega)
theorem many_ok {a n : Nat} {what : Int} {M : Mem} {f : Vec} (hn : n ≤ 8) (h0 : M a 0 = n) (hf : Ag n (M (a + 25)) f) : fX9_many_ a what M = some (cn n (fun c => decide (f c = what)), M) := by
  apply ok_eq
  unfold fX9_many_
  refine ok_by (many_l hn h0 1000 0 0 (by omega) (by omega) rfl) (fun z hz => ok_some ?_)
  rw [hz.1, hz.2]
  congr 1
  exact cn_congr (fun c hc => by rw [hf c hc])
theorem has_ok {w : Int} {c : Nat} {M : Mem} (h0 : 0 ≤ w) (h1 : w < 512) (hc : c < 9) : fX9_has w c M = some (if bt w c then 1 else 0, M) := by
  apply ok_eq
  unfold fX9_has
  rw [bt_shr h0 h1 hc]
  cases bt w c
  · show Ok (Option.bind (if (0 : Int) = 1 then some (1 : Int) else some 0) (fun t2 => if t2 = 0 ∨ t2 = 1 then some (t2, M) else none)) (fun q => q = ((0 : Int), M))
    (repeat (first | with_reducible refine ok_nm0 ?_ | (with_reducible refine ok_chk ?_ ?_; · omega) | (with_reducible refine ok_if ?_ ?_; · omega) | (with_reducible refine ok_el ?_ ?_; · omega) | with_reducible refine ok_some ?_ | with_reducible refine ok_bi ?_ | with_reducible refine ok_bsm ?_)); try dsimp only
  · show Ok (Option.bind (if (1 : Int) = 1 then some (1 : Int) else some 0) (fun t2 => if t2 = 0 ∨ t2 = 1 then some (t2, M) else none)) (fun q => q = ((1 : Int), M))
    (repeat (first | with_reducible refine ok_nm0 ?_ | (with_reducible refine ok_chk ?_ ?_; · omega) | (with_reducible refine ok_if ?_ ?_; · omega) | (with_reducible refine ok_el ?_ ?_; · omega) | with_reducible refine ok_some ?_ | with_reducible refine ok_bi ?_ | with_reducible refine ok_bsm ?_)); try dsimp only
/-! the cells that THE COUNT writes -/
def FrM (a : Nat) (M M' : Mem) : Prop := (∀ j, j ≠ 18 → j ≠ 22 → j ≠ 23 → j ≠ 29 → j ≠ 30 → j ≠ 31 → j ≠ 32 → M' a j = M a j) ∧ ∀ x, (x < a ∨ (a < x ∧ x < a + 20) ∨ a + 43 ≤ x) → M' x = M x
theorem FrM.refl (a : Nat) (M : Mem) : FrM a M M := ⟨fun _ _ _ _ _ _ _ _ => rfl, fun _ _ => rfl⟩
theorem FrM.trans {a : Nat} {M M' M'' : Mem} (h : FrM a M M') (h2 : FrM a M' M'') : FrM a M M'' := ⟨fun j j1 j2 j3 j4 j5 j6 j7 => by rw [h2.1 j j1 j2 j3 j4 j5 j6 j7, h.1 j j1 j2 j3 j4 j5 j6 j7], fun x hx => by rw [h2.2 x hx, h.2 x hx]⟩
theorem FrM.wra {a : Nat} {M M' : Mem} {j : Nat} {v : Int} (h : FrM a M M') (hj : j = 18 ∨ j = 22 ∨ j = 23 ∨ j = 29 ∨ j = 30 ∨ j = 31 ∨ j = 32) : FrM a M (wr M' a j v) := ⟨fun k k1 k2 k3 k4 k5 k6 k7 => by rw [wrk _ (by omega)]; exact h.1 k k1 k2 k3 k4 k5 k6 k7, fun x hx => by rw [wrn (by omega)]; exact h.2 x hx⟩
theorem FrM.wr {a : Nat} {M M' : Mem} {b j : Nat} {v : Int} (h : FrM a M M') (hb : a + 20 ≤ b ∧ b < a + 43) : FrM a M (wr M' b j v) := ⟨fun k k1 k2 k3 k4 k5 k6 k7 => by rw [wrn (by omega)]; exact h.1 k k1 k2 k3 k4 k5 k6 k7, fun x hx => by rw [wrn (by omega)]; exact h.2 x hx⟩
theorem PMm.fr {M M' : Mem} {a : Nat} {p : PL} (h : PMm M a p) (hf : FrM a M M') : PMm M' a p := h.same (fun k hk => hf.1 k (by omega) (by omega) (by omega) (by omega) (by omega) (by omega) (by omega)) (hf.2 _ (by omega)) (hf.2 _ (by omega)) (hf.2 _ (by omega)) (hf.2 _ (by omega))
/-! a scan, step by step -/
theorem scan_0 (vs : List Vec) (w : Nat → Bool) : opt (scan 0 vs w) = -1 := rfl
theorem scan_lt : ∀ {n : Nat} {vs : List Vec} {w : Nat → Bool} {b : Nat}, scan n vs w = some b → b < n ∧ w b = true
  | 0, _, _, _, h => by cases h
  | n + 1, vs, w, b, h => by
    unfold scan at h
    cases e : w n
    · rw [if_neg (by rw [e]; decide)] at h
      have := scan_lt h
      exact ⟨by omega, this.2⟩
    · rw [if_pos e] at h
      cases e2 : scan n vs w with
      | none => rw [e2] at h; cases h; exact ⟨by omega, e⟩
      | some d =>
        rw [e2] at h
        have := scan_lt e2
        dsimp only at h
        split at h
        · cases h; exact ⟨by omega, e⟩
        · cases h; exact ⟨by omega, this.2⟩
theorem scan_f {n : Nat} {vs : List Vec} {w : Nat → Bool} (h : w n = false) : scan (n + 1) vs w = scan n vs w := by
  conv => lhs; unfold scan
  rw [if_neg (by rw [h]; decide)]
theorem scan_t0 {n : Nat} {vs : List Vec} {w : Nat → Bool} (h : w n = true) (e : scan n vs w = none) : scan (n + 1) vs w = some n := by
  conv => lhs; unfold scan
  rw [if_pos h, e]
theorem scan_t1 {n b : Nat} {vs : List Vec} {w : Nat → Bool} (h : w n = true) (e : scan n vs w = some b) : scan (n + 1) vs w = if lx vs n b then some n else some b := by
  conv => lhs; unfold scan
  rw [if_pos h, e]
theorem opt_no {x : Option Nat} (h : opt x = -1) : x = none := by
  cases x with
  | none => rfl
  | some c => have : (c : Int) = -1 := h; omega
end
