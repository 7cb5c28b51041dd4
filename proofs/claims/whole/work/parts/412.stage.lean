section
/-! a STAGE: ROUNDS, who was EXCLUDED, who ELECTED, QUOTA, EXCESS, SURPLUS, VOTES of all, VOTES, KEEPS -/
abbrev SR : Type := Int × Int × List Nat × Int × Int × Int × Int × Vec × Vec
abbrev SR.r (s : SR) : Int := s.1
abbrev SR.o (s : SR) : Int := s.2.1
abbrev SR.E (s : SR) : List Nat := s.2.2.1
abbrev SR.q (s : SR) : Int := s.2.2.2.1
abbrev SR.x (s : SR) : Int := s.2.2.2.2.1
abbrev SR.s (s : SR) : Int := s.2.2.2.2.2.1
abbrev SR.t (s : SR) : Int := s.2.2.2.2.2.2.1
abbrev SR.g (s : SR) : Vec := s.2.2.2.2.2.2.2.1
abbrev SR.k (s : SR) : Vec := s.2.2.2.2.2.2.2.2
/-- KEEPS anew -/
def tk (f K g : Vec) (q : Int) : Vec := fun c => if f c = 2 ∧ 0 < g c then (if 1000000 < (K c * q + g c - 1) / g c then 1000000 else (K c * q + g c - 1) / g c) else K c
def sur (n : Nat) (f g : Vec) (q : Int) : Int := sm n (fun c => if f c = 2 ∧ q < g c then g c - q else 0)
def reach (f g : Vec) (q : Int) : Nat → Bool := fun c => decide (f c = 1) && decide (q ≤ g c)
theorem tk_KB {n : Nat} {f K g : Vec} {q : Int} (h : KB n K) (hq : 0 ≤ q) : KB n (tk f K g q) := by
  intro c hc
  unfold tk
  have hk := h c hc
  split
  · rename_i h2
    have h3 : 0 ≤ K c * q := Int.mul_nonneg hk.1 hq
    have h4 : 0 ≤ (K c * q + g c - 1) / g c := Int.ediv_nonneg (by omega) (by omega)
    split <;> omega
  · exact hk
theorem tk_bd {n : Nat} {f K g : Vec} {q : Int} {c : Nat} (h : KB n K) (hc : c < n) (hq : 0 ≤ q) (hq2 : q ≤ 2305843000001) : 0 ≤ K c * q ∧ K c * q ≤ 1000000 * 2305843000001 := mul_bd (h c hc).1 (h c hc).2 hq hq2
theorem turn_l {t n : Nat} {f K g : Vec} {q : Int} (hn : n ≤ 8) (hK : KB n K) (hq : 0 ≤ q) (hq2 : q ≤ 2305843000001) (hg : ∀ c, c < n → 0 ≤ g c ∧ g c ≤ 4611686000000) : ∀ (m i : Nat) (M : Mem), i ≤ n → n < m + i → M (t + 10000) 0 = n → Ag n (M (t + 3)) f → Ag n (M (t + 11)) g → M t 11 = q → (∀ c, c < n → M (t + 10) c = if c < i then tk f K g q c else K c) → Ok (fX4_turnKeeps_l2 t m i M) (fun z => Ag n (z.2 (t + 10)) (tk f K g q) ∧ ∀ b, b ≠ t + 10 → z.2 b = M b) := by
  intro m
  induction m with
  | zero => intros; omega
  | succ m ih =>
    intro i M h1 h2 h0 hf hg2 hqv hk
    unfold fX4_turnKeeps_l2
    rw [h0]
    refine ok_ite (fun hc => ok_some ⟨fun c hc2 => ?_, fun _ _ => rfl⟩) (fun hc => ?_)
    · have : i = n := by omega
      subst this
      show M (t + 10) c = _
      rw [hk c hc2, if_pos hc2]
    · have hi : i < n := by omega
      have e1 := hf i hi
      have e2 := hg2 i hi
      have e3 := hk i hi
      rw [if_neg (by omega)] at e3
      have hb := tk_bd (f := f) (g := g) hK hi hq hq2
      have hgb := hg i hi
      have hkb := hK i hi
      simp only [tn, e1, e2, e3, hqv]
      (repeat (first | with_reducible refine ok_nm0 ?_ | (with_reducible refine ok_chk ?_ ?_; · omega) | (with_reducible refine ok_if ?_ ?_; · omega) | (with_reducible refine ok_el ?_ ?_; · omega) | with_reducible refine ok_some ?_ | with_reducible refine ok_bi ?_ | with_reducible refine ok_bsm ?_)); try dsimp only
      have step : ∀ M' : Mem, (∀ b, b ≠ t + 10 → M' b = M b) → M' (t + 10) = up (M (t + 10)) i (tk f K g q i) → Ok (fX4_turnKeeps_l2 t m ((i : Int) + 1) M') (fun z => Ag n (z.2 (t + 10)) (tk f K g q) ∧ ∀ b, b ≠ t + 10 → z.2 b = M b) := by
        intro M' hM' h10
        refine (ih (i + 1) M' (by omega) (by omega) ?_ ?_ ?_ ?_ ?_).mono (fun z hz => ⟨hz.1, fun b hb => by rw [hz.2 b hb, hM' b hb]⟩)
        · rw [hM' _ (by omega)]; exact h0
        · rw [hM' _ (by omega)]; exact hf
        · rw [hM' _ (by omega)]; exact hg2
        · rw [hM' _ (by omega)]; exact hqv
        · intro c hc2
          rw [h10]
          by_cases e : c = i
          · subst e; rw [up_same, if_pos (by omega)]
          · rw [up_ne e, hk c hc2]
            by_cases e2 : c < i
            · rw [if_pos e2, if_pos (by omega)]
            · rw [if_neg e2, if_neg (by omega)]
      have same : tk f K g q i = K i → Ok (fX4_turnKeeps_l2 t m ((i : Int) + 1) M) (fun z => Ag n (z.2 (t + 10)) (tk f K g q) ∧ ∀ b, b ≠ t + 10 → z.2 b = M b) := fun e => step M (fun _ _ => rfl) (by
        funext c
        by_cases e2 : c = i
        · subst e2; rw [up_same, e3, e]
        · rw [up_ne e2])
      refine ok_ite (fun h3 => ?_) (fun h3 => ?_)
      · refine ok_ite (fun h4 => ?_) (fun h4 => ?_)
        · (repeat (first | with_reducible refine ok_nm0 ?_ | (with_reducible refine ok_chk ?_ ?_; · omega) | (with_reducible refine ok_if ?_ ?_; · omega) | (with_reducible refine ok_el ?_ ?_; · omega) | with_reducible refine ok_some ?_ | with_reducible refine ok_bi ?_ | with_reducible refine ok_bsm ?_)); try dsimp only
          exact same (by unfold tk; rw [if_neg (by omega)])
        · (repeat (first | with_reducible refine ok_nm0 ?_ | (with_reducible refine ok_chk ?_ ?_; · omega) | (with_reducible refine ok_if ?_ ?_; · omega) | (with_reducible refine ok_el ?_ ?_; · omega) | with_reducible refine ok_some ?_ | with_reducible refine ok_bi ?_ | with_reducible refine ok_bsm ?_)); try dsimp only
          refine step _ (fun b hb => wrn hb) ?_
          have e : tk f K g q i = (if 1000000 < (K i * q + g i - 1) / g i then 1000000 else (K i * q + g i - 1) / g i) := by
            unfold tk
            rw [if_pos ⟨h3, by omega⟩]
          rw [wre, e]
      · (repeat (first | with_reducible refine ok_nm0 ?_ | (with_reducible refine ok_chk ?_ ?_; · omega) | (with_reducible refine ok_if ?_ ?_; · omega) | (with_reducible refine ok_el ?_ ?_; · omega) | with_reducible refine ok_some ?_ | with_reducible refine ok_bi ?_ | with_reducible refine ok_bsm ?_)); try dsimp only
        exact same (by unfold tk; rw [if_neg (by omega)])
theorem turn_ok {t : Nat} {p : PL} {f K g : Vec} {q : Int} {M : Mem} (h : WF p) (hK : KB p.n K) (hq : 0 ≤ q) (hq2 : q ≤ 2305843000001) (hg : ∀ c, c < p.n → 0 ≤ g c ∧ g c ≤ 4611686000000) (h0 : PCc M (t + 10000) p) (hf : Ag p.n (M (t + 3)) f) (hg2 : Ag p.n (M (t + 11)) g) (hqv : M t 11 = q) (hk : Ag p.n (M (t + 10)) K) : Ok (fX4_turnKeeps t M) (fun z => Ag p.n (z.2 (t + 10)) (tk f K g q) ∧ ∀ b, b ≠ t + 10 → z.2 b = M b) := by
  have := h.1
  unfold fX4_turnKeeps
  refine ok_by (turn_l h.1 hK hq hq2 hg 1000 0 M (by omega) (by omega) h0.1 hf hg2 hqv (fun c hc => by rw [if_neg (by omega)]; exact hk c hc)) (fun z hz => ok_some hz)
theorem sur_part {n : Nat} {f g : Vec} {q : Int} (hn : n ≤ 8) (hq : 0 ≤ q) (hg : ∀ c, c < n → 0 ≤ g c ∧ g c ≤ 4611686000000) : ∀ c, c ≤ n → 0 ≤ sur c f g q ∧ sur c f g q ≤ c * 4611686000000 := by
  intro c
  induction c with
  | zero => intro _; simp [sur, sm]
  | succ c ih =>
    intro hc
    have h1 := ih (by omega)
    have h2 := hg c (by omega)
    have e : sur (c + 1) f g q = sur c f g q + (if f c = 2 ∧ q < g c then g c - q else 0) := rfl
    rw [e]
    split <;> omega
theorem surplus_l {t n : Nat} {f g : Vec} {q : Int} {M : Mem} (hn : n ≤ 8) (hq : 0 ≤ q) (hq2 : q ≤ 2305843000001) (hg : ∀ c, c < n → 0 ≤ g c ∧ g c ≤ 4611686000000) (h0 : M (t + 10000) 0 = n) (hf : Ag n (M (t + 3)) f) (hg2 : Ag n (M (t + 11)) g) (hqv : M t 11 = q) : ∀ (m i : Nat) (x : Int), i ≤ n → n < m + i → x = sur i f g q → Ok (fX4_surplus_l4 t m x i M) (fun z => z.1 = sur n f g q ∧ z.2.2 = M) := by
  intro m
  induction m with
  | zero => intros; omega
  | succ m ih =>
    intro i x h1 h2 hx
    unfold fX4_surplus_l4
    rw [h0]
    refine ok_ite (fun hc => ok_some ⟨?_, rfl⟩) (fun hc => ?_)
    · have : i = n := by omega
      subst this; exact hx
    · have hi : i < n := by omega
      have e1 := hf i hi
      have e2 := hg2 i hi
      have hb := sur_part (f := f) hn hq hg i (by omega)
      have hgb := hg i hi
      have e : sur (i + 1) f g q = sur i f g q + (if f i = 2 ∧ q < g i then g i - q else 0) := rfl
      simp only [tn, e1, e2, hqv]
      (repeat (first | with_reducible refine ok_nm0 ?_ | (with_reducible refine ok_chk ?_ ?_; · omega) | (with_reducible refine ok_if ?_ ?_; · omega) | (with_reducible refine ok_el ?_ ?_; · omega) | with_reducible refine ok_some ?_ | with_reducible refine ok_bi ?_ | with_reducible refine ok_bsm ?_)); try dsimp only
      refine ok_ite (fun h3 => ?_) (fun h3 => ?_)
      · by_cases h4 : g i - q < 0
        · simp only [if_pos h4]
          rw [if_neg (by omega)] at e
          (repeat (first | with_reducible refine ok_nm0 ?_ | (with_reducible refine ok_chk ?_ ?_; · omega) | (with_reducible refine ok_if ?_ ?_; · omega) | (with_reducible refine ok_el ?_ ?_; · omega) | with_reducible refine ok_some ?_ | with_reducible refine ok_bi ?_ | with_reducible refine ok_bsm ?_)); try dsimp only
          exact ih (i + 1) _ (by omega) (by omega) (by omega)
        · simp only [if_neg h4]
          by_cases h5 : q < g i
          · rw [if_pos ⟨h3, h5⟩] at e
            (repeat (first | with_reducible refine ok_nm0 ?_ | (with_reducible refine ok_chk ?_ ?_; · omega) | (with_reducible refine ok_if ?_ ?_; · omega) | (with_reducible refine ok_el ?_ ?_; · omega) | with_reducible refine ok_some ?_ | with_reducible refine ok_bi ?_ | with_reducible refine ok_bsm ?_)); try dsimp only
            exact ih (i + 1) _ (by omega) (by omega) (by omega)
          · rw [if_neg (by omega)] at e
            (repeat (first | with_reducible refine ok_nm0 ?_ | (with_reducible refine ok_chk ?_ ?_; · omega) | (with_reducible refine ok_if ?_ ?_; · omega) | (with_reducible refine ok_el ?_ ?_; · omega) | with_reducible refine ok_some ?_ | with_reducible refine ok_bi ?_ | with_reducible refine ok_bsm ?_)); try dsimp only
            exact ih (i + 1) _ (by omega) (by omega) (by omega)
      · rw [if_neg (by omega)] at e
        (repeat (first | with_reducible refine ok_nm0 ?_ | (with_reducible refine ok_chk ?_ ?_; · omega) | (with_reducible refine ok_if ?_ ?_; · omega) | (with_reducible refine ok_el ?_ ?_; · omega) | with_reducible refine ok_some ?_ | with_reducible refine ok_bi ?_ | with_reducible refine ok_bsm ?_)); try dsimp only
        exact ih (i + 1) _ (by omega) (by omega) (by omega)
theorem surplus_ok {t : Nat} {p : PL} {f g : Vec} {q : Int} {M : Mem} (h : WF p) (hq : 0 ≤ q) (hq2 : q ≤ 2305843000001) (hg : ∀ c, c < p.n → 0 ≤ g c ∧ g c ≤ 4611686000000) (h0 : PCc M (t + 10000) p) (hf : Ag p.n (M (t + 3)) f) (hg2 : Ag p.n (M (t + 11)) g) (hqv : M t 11 = q) : fX4_surplus t M = some (sur p.n f g q, M) := by
  have := h.1
  apply ok_eq
  unfold fX4_surplus
  refine ok_by (surplus_l h.1 hq hq2 hg h0.1 hf hg2 hqv 1000 0 0 (by omega) (by omega) rfl) (fun z hz => ok_some ?_)
  rw [hz.1, hz.2]
theorem reach_l {t n : Nat} {f g : Vec} {q : Int} {M : Mem} (hn : n ≤ 8) (h0 : M (t + 10000) 0 = n) (hf : Ag n (M (t + 3)) f) (hg2 : Ag n (M (t + 11)) g) (hqv : M t 11 = q) : ∀ (m i : Nat) (x : Int), i ≤ n → n < m + i → x = mk i (reach f g q) → Ok (fX4_whoReachesQuota_l4 t m x i M) (fun z => z.1 = mk n (reach f g q) ∧ z.2.2 = M) := by
  intro m
  induction m with
  | zero => intros; omega
  | succ m ih =>
    intro i x h1 h2 hx
    unfold fX4_whoReachesQuota_l4
    rw [h0]
    refine ok_ite (fun hc => ok_some ⟨?_, rfl⟩) (fun hc => ?_)
    · have : i = n := by omega
      subst this; exact hx
    · have hi : i < n := by omega
      have e1 := hf i hi
      have e2 := hg2 i hi
      simp only [tn, e1, e2, hqv]
      (repeat (first | with_reducible refine ok_nm0 ?_ | (with_reducible refine ok_chk ?_ ?_; · omega) | (with_reducible refine ok_if ?_ ?_; · omega) | (with_reducible refine ok_el ?_ ?_; · omega) | with_reducible refine ok_some ?_ | with_reducible refine ok_bi ?_ | with_reducible refine ok_bsm ?_)); try dsimp only
      refine ok_ite (fun h3 => ?_) (fun h3 => ?_)
      · (first | with_reducible refine ok_nm0 ?_ | (with_reducible refine ok_chk ?_ ?_; · omega) | (with_reducible refine ok_if ?_ ?_; · omega) | (with_reducible refine ok_el ?_ ?_; · omega) | with_reducible refine ok_some ?_ | with_reducible refine ok_bi ?_ | with_reducible refine ok_bsm ?_)
        refine ok_ite (fun h4 => ?_) (fun h4 => ?_)
        · (repeat (first | with_reducible refine ok_nm0 ?_ | (with_reducible refine ok_chk ?_ ?_; · omega) | (with_reducible refine ok_if ?_ ?_; · omega) | (with_reducible refine ok_el ?_ ?_; · omega) | with_reducible refine ok_some ?_ | with_reducible refine ok_bi ?_ | with_reducible refine ok_bsm ?_)); try dsimp only
          refine ih (i + 1) _ (by omega) (by omega) ?_
          rw [hx, mk_neg]
          simp [reach]; omega
        · (repeat (first | with_reducible refine ok_nm0 ?_ | (with_reducible refine ok_chk ?_ ?_; · omega) | (with_reducible refine ok_if ?_ ?_; · omega) | (with_reducible refine ok_el ?_ ?_; · omega) | with_reducible refine ok_some ?_ | with_reducible refine ok_bi ?_ | with_reducible refine ok_bsm ?_)); try dsimp only
          refine ih (i + 1) _ (by omega) (by omega) ?_
          rw [hx, mk_pos (by omega)]
          simp [reach]; omega
      · (repeat (first | with_reducible refine ok_nm0 ?_ | (with_reducible refine ok_chk ?_ ?_; · omega) | (with_reducible refine ok_if ?_ ?_; · omega) | (with_reducible refine ok_el ?_ ?_; · omega) | with_reducible refine ok_some ?_ | with_reducible refine ok_bi ?_ | with_reducible refine ok_bsm ?_)); try dsimp only
        refine ih (i + 1) _ (by omega) (by omega) ?_
        rw [hx, mk_neg]
        simp [reach]; omega
theorem reach_ok {t : Nat} {p : PL} {f g : Vec} {q : Int} {M : Mem} (h : WF p) (h0 : PCc M (t + 10000) p) (hf : Ag p.n (M (t + 3)) f) (hg2 : Ag p.n (M (t + 11)) g) (hqv : M t 11 = q) : fX4_whoReachesQuota t M = some (mk p.n (reach f g q), M) := by
  have := h.1
  apply ok_eq
  unfold fX4_whoReachesQuota
  refine ok_by (reach_l h.1 h0.1 hf hg2 hqv 1000 0 0 (by omega) (by omega) rfl) (fun z hz => ok_some ?_)
  rw [hz.1, hz.2]
theorem note_l {t o : Nat} {M0 : Mem} (ho : t + 13 < o) : ∀ (m i : Nat) (M : Mem), i ≤ 8 → 8 < m + i → M = (fun b j => if b = o + 8 ∧ j < i then M0 (t + 11) j else if b = o + 9 ∧ j < i then M0 (t + 10) j else M0 b j) → Ok (fX4_note_l37 t o m i M) (fun z => z.2 = (fun b j => if b = o + 8 ∧ j < 8 then M0 (t + 11) j else if b = o + 9 ∧ j < 8 then M0 (t + 10) j else M0 b j)) := by
  intro m
  induction m with
  | zero => intros; omega
  | succ m ih =>
    intro i M h1 h2 hM
    unfold fX4_note_l37
    refine ok_ite (fun hc => ok_some ?_) (fun hc => ?_)
    · have : i = 8 := by omega
      subst this; exact hM
    · (repeat (first | with_reducible refine ok_nm0 ?_ | (with_reducible refine ok_chk ?_ ?_; · omega) | (with_reducible refine ok_if ?_ ?_; · omega) | (with_reducible refine ok_el ?_ ?_; · omega) | with_reducible refine ok_some ?_ | with_reducible refine ok_bi ?_ | with_reducible refine ok_bsm ?_)); try dsimp only
      refine ih (i + 1) _ (by omega) (by omega) ?_
      rw [hM]
      funext b j
      simp only [wr, tn]
      grind
theorem note_ok {t o : Nat} {r s : Int} {M : Mem} (ho : t + 13 < o) : Ok (fX4_note t o r s M) (fun z => z.2 o 0 = r ∧ z.2 o 3 = M t 11 ∧ z.2 o 4 = M t 12 ∧ z.2 o 5 = s ∧ z.2 o 6 = M t 13 ∧ (∀ c, c < 8 → z.2 (o + 8) c = M (t + 11) c ∧ z.2 (o + 9) c = M (t + 10) c) ∧ z.2 o 1 = M o 1 ∧ z.2 o 2 = M o 2 ∧ ∀ b, b ≠ o → b ≠ o + 8 → b ≠ o + 9 → z.2 b = M b) := by
  unfold fX4_note
  (repeat (first | with_reducible refine ok_nm0 ?_ | (with_reducible refine ok_chk ?_ ?_; · omega) | (with_reducible refine ok_if ?_ ?_; · omega) | (with_reducible refine ok_el ?_ ?_; · omega) | with_reducible refine ok_some ?_ | with_reducible refine ok_bi ?_ | with_reducible refine ok_bsm ?_)); try dsimp only
  refine ok_by (note_l (M0 := (wr (wr (wr (wr (wr M o 0 r) o 3 (M t 11)) o 4 (M t 12)) o 5 s) o 6 (M t 13))) ho 1000 0 _ (by omega) (by omega) ?_) (fun z hz => ok_some ?_)
  · funext b j
    simp only [wr]
    grind
  · try dsimp only
    rw [hz]
    refine ⟨?_, ?_, ?_, ?_, ?_, fun c hc => ⟨?_, ?_⟩, ?_, ?_, fun b b1 b2 b3 => ?_⟩
    all_goals first | (funext j; simp only [wr]; grind) | (simp only [wr]; grind)
end
