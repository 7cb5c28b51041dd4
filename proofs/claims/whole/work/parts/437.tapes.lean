section
/-! tapes -/
abbrev wP (s : SS) (tp : Nat → Int × Nat × Vec) : SS := (s.1, s.2.1, s.2.2.1, s.2.2.2.1, s.2.2.2.2.1, tp)
theorem CI.tp {M M' : Mem} {s : SS} {tp : Nat → Int × Nat × Vec} (hs : GS s) (h : CI M s) (hT : TPc M' tp) (hx : ∀ x, x < 56 ∨ 150 ≤ x → M' x = M x) : CI M' (wP s tp) := by
  obtain ⟨⟨a1, a2, a3, a4, a5⟩, a6⟩ := h
  refine ⟨⟨a1.same (fun x _ _ => hx x (by omega)), ?_, ?_, ?_, hT⟩, a6.same hs.1.1 (by rw [hx 10 (by omega)]) (fun x hx' => hx x (by omega))⟩
  · show IMc M' s.i
    cases e : s.i with
    | none => rw [e] at a2; show M' 10 3 = 0; rw [hx 10 (by omega)]; exact a2
    | some q => rw [e] at a2; exact ⟨by rw [hx 10 (by omega)]; exact a2.1, a2.2.same (fun x _ _ => hx x (by omega))⟩
  · show TXc M' s.x
    unfold TXc at *
    rw [hx 210 (by omega), hx 212 (by omega)]; exact a3
  · show TRc M' s.t
    unfold TRc at *
    rw [hx 310 (by omega), hx 312 (by omega), hx 313 (by omega)]; exact a4
theorem DI.tp {M M' : Mem} {s : SS} {tp : Nat → Int × Nat × Vec} (h : DI M s) (hT : TPm M' 20000 tp) (hx : ∀ x, 20000 ≤ x → x < 20066 → M' x = M x) : DI M' (wP s tp) := by
  obtain ⟨a1, a2, a3, a4, a5, a6⟩ := h
  have h0 := hx 20000 (by omega) (by omega)
  refine ⟨a1.same (fun k _ => by rw [h0]) (hx _ (by omega) (by omega)) (hx _ (by omega) (by omega)) (hx _ (by omega) (by omega)) (hx _ (by omega) (by omega)), a2.same (fun j _ => by rw [h0]) (fun x _ _ => hx x (by omega) (by omega)), ?_, ?_, ?_, hT⟩
  · show IMm M' 20000 s.i
    cases e : s.i with
    | none => rw [e] at a3; show M' 20000 55 = 0; rw [h0]; exact a3
    | some q =>
      rw [e] at a3
      unfold IMm at *
      rw [h0, hx (20000 + 57) (by omega) (by omega), hx (20000 + 58) (by omega) (by omega), hx (20000 + 59) (by omega) (by omega), hx (20000 + 60) (by omega) (by omega), hx (20000 + 61) (by omega) (by omega), hx (20000 + 62) (by omega) (by omega), hx (20000 + 63) (by omega) (by omega), hx (20000 + 64) (by omega) (by omega), hx (20000 + 65) (by omega) (by omega)]
      exact a3
  · show TXm M' 20000 s.x
    unfold TXm at *
    rw [h0, hx (20000 + 46) (by omega) (by omega)]; exact a4
  · show TRm M' 20000 s.t
    unfold TRm at *
    rw [h0, hx (20000 + 17) (by omega) (by omega), hx (20000 + 18) (by omega) (by omega)]; exact a5
theorem tapeAt_ok {t : Int} {M : Mem} : fX8_tapeAt 10 t M = some (if 0 ≤ t ∧ t < 6 then some (56 + 16 * t.toNat) else none, M) := by
  apply ok_eq
  unfold fX8_tapeAt
  refine ok_ite (fun h => ok_some ?_) (fun h => ok_ite (fun h2 => ok_chk (by omega) (ok_some ?_)) (fun h2 => ok_some ?_))
  · rw [if_neg (by omega)]
  · rw [if_pos (by omega)]
  · rw [if_neg (by omega)]
theorem Sh_tp : ∀ k, k < 6 → Sh (56 + 16 * k) = (14, 3) := by decide
theorem isTape_ok {t : Int} {M : Mem} : fX9_isTape t M = some (if 0 ≤ t ∧ t < 6 then 1 else 0, M) := by
  apply ok_eq
  unfold fX9_isTape
  refine ok_bs in_ok (ok_chk (b01 _) (ok_some ?_))
  dsimp only
  by_cases h : 0 ≤ t ∧ t < 6
  · rw [if_pos (by omega), if_pos h]
  · rw [if_neg (by omega), if_neg h]
def upT (tp : Nat → Int × Nat × Vec) (k : Nat) (v : Int × Nat × Vec) : Nat → Int × Nat × Vec := fun j => if j = k then v else tp j
theorem upT_same (tp : Nat → Int × Nat × Vec) (k : Nat) (v : Int × Nat × Vec) : upT tp k v k = v := by simp [upT]
theorem upT_ne {tp : Nat → Int × Nat × Vec} {j k : Nat} {v : Int × Nat × Vec} (h : j ≠ k) : upT tp k v j = tp j := by simp [upT, h]
theorem wP_GS {s : SS} (hs : GS s) {k : Nat} {v : Int × Nat × Vec} (hv : TPok v) : GS (wP s (upT s.tp k v)) := ⟨hs.1, hs.2.1, hs.2.2.1, hs.2.2.2.1, hs.2.2.2.2.1, fun t ht => by
  show TPok (upT s.tp k v t)
  by_cases e : t = k
  · subst e; rw [upT_same]; exact hv
  · rw [upT_ne e]; exact hs.2.2.2.2.2 t ht⟩
theorem fill60_l {a : Nat} {M0 : Mem} : ∀ (n i : Nat) (M : Mem), i ≤ 60 → 60 < n + i → M = (fun b j => if b = a ∧ j < i then 0 else M0 b j) → Ok (fJ7_fill_d0a16_60_l6 a 0 60 n i M) (fun q => q.2 = fun b j => if b = a ∧ j < 60 then 0 else M0 b j) := by
  intro n
  induction n with
  | zero => intros; omega
  | succ n ih =>
    intro i M h1 h2 hM
    unfold fJ7_fill_d0a16_60_l6
    refine ok_ite (fun hc => ok_some ?_) (fun hc => ?_)
    · have : i = 60 := by omega
      subst this; exact hM
    · (repeat (first | with_reducible refine ok_nm0 ?_ | (with_reducible refine ok_chk ?_ ?_; · omega) | (with_reducible refine ok_if ?_ ?_; · omega) | (with_reducible refine ok_el ?_ ?_; · omega) | with_reducible refine ok_some ?_ | with_reducible refine ok_bi ?_ | with_reducible refine ok_bsm ?_)); try dsimp only
      refine ih (i + 1) _ (by omega) (by omega) ?_
      rw [hM]
      funext b j
      simp only [wr, tn]
      grind
theorem fill60_ok (a : Nat) (M : Mem) : Ok (fJ7_fill_d0a16_60 a 0 M) (fun q => q.2 = fun b j => if b = a ∧ j < 60 then 0 else M b j) := by
  unfold fJ7_fill_d0a16_60
  refine ok_by (fill60_l (M0 := M) 1000 0 M (by omega) (by omega) (by funext b j; simp)) (fun q hq => ok_some hq)
theorem become_ok {s : SS} {M : Mem} (hs : GS s) (hC : CI M s) {k n : Nat} (hk : k < 6) {so : Int} (hv : TPok (so, n, fun _ => 0)) : Ok (fX5_become (56 + 16 * k) so n M) (fun q => CI q.2 (wP s (upT s.tp k (so, n, fun _ => 0))) ∧ ∀ x, 20000 ≤ x → q.2 x = M x) := by
  unfold fX5_become
  refine ok_nm0 (ok_nm0 (ok_by (fill60_ok _ _) (fun q hq => ok_some ?_)))
  have fx : ∀ x, x ≠ 56 + 16 * k → x ≠ 59 + 16 * k → q.2 x = M x := fun x x1 x2 => by rw [hq]; funext j; dsimp only; rw [if_neg (by omega), wrn x1, wrn x1]
  refine ⟨hC.tp hs (fun t ht => ?_) (fun x hx => fx x (by omega) (by omega)), fun x hx => fx x (by omega) (by omega)⟩
  by_cases e : t = k
  · subst e
    rw [upT_same]
    have hn := hv.2
    refine ⟨?_, ?_, fun i hi => ?_⟩
    · rw [hq]; dsimp only; rw [if_neg (by omega), wrk _ (by decide), wra]
    · rw [hq]; dsimp only; rw [if_neg (by omega), wra]
    · have hi' : i < n := hi
      have hn' : n ≤ 60 := hn
      rw [hq]; dsimp only; rw [if_pos ⟨by omega, by omega⟩]
  · rw [upT_ne e, fx _ (by omega) (by omega), fx _ (by omega) (by omega)]
    exact hC.1.2.2.2.2 t ht
theorem mtape_l {t : Nat} {M0 : Mem} (ht : t < 6) : ∀ (n i : Nat) (M : Mem), i ≤ 60 → 60 < n + i → M = (fun b j => if b = 20104 + 16 * t ∧ j < i then 0 else M0 b j) → Ok (fX9_tape_l72 20000 t n i M) (fun q => q.2 = fun b j => if b = 20104 + 16 * t ∧ j < 60 then 0 else M0 b j) := by
  intro n
  induction n with
  | zero => intros; omega
  | succ n ih =>
    intro i M h1 h2 hM
    unfold fX9_tape_l72
    simp only [Nat.reduceAdd]
    refine ok_ite (fun hc => ok_some ?_) (fun hc => ?_)
    · have : i = 60 := by omega
      subst this; exact hM
    · (repeat (first | with_reducible refine ok_nm0 ?_ | (with_reducible refine ok_chk ?_ ?_; · omega) | (with_reducible refine ok_if ?_ ?_; · omega) | (with_reducible refine ok_el ?_ ?_; · omega) | with_reducible refine ok_some ?_ | with_reducible refine ok_bi ?_ | with_reducible refine ok_bsm ?_)); try dsimp only
      refine ih (i + 1) _ (by omega) (by omega) ?_
      rw [hM]
      funext b j
      simp only [wr, tn]
      grind
theorem mtape_ok {s : SS} {M : Mem} (hD : DI M s) {k n : Nat} (hk : k < 6) {so : Int} (hv : TPok (so, n, fun _ => 0)) : Ok (fX9_tape_l72 20000 k 1000 0 (wr (wr M 20066 k so) 20067 k n)) (fun z => DI z.2 (wP s (upT s.tp k (so, n, fun _ => 0))) ∧ ∀ x, x < 20000 → z.2 x = M x) := by
  refine (mtape_l (M0 := wr (wr M 20066 k so) 20067 k n) hk 1000 0 _ (by omega) (by omega) (by funext b j; simp)).mono (fun q hq => ?_)
  have fx : ∀ x, x ≠ 20066 → x ≠ 20067 → x ≠ 20104 + 16 * k → q.2 x = M x := fun x x1 x2 x3 => by rw [hq]; funext j; dsimp only; rw [if_neg (by omega), wrn x2, wrn x1]
  have e66 : q.2 20066 = up (M 20066) k so := by rw [hq]; funext j; dsimp only; rw [if_neg (by omega), wrn (by omega), wre]
  have e67 : q.2 20067 = up (M 20067) k n := by rw [hq]; funext j; dsimp only; rw [if_neg (by omega), wre, wrn (by omega)]
  refine ⟨hD.tp (fun t ht => ?_) (fun x _ hx => fx x (by omega) (by omega) (by omega)), fun x hx => fx x (by omega) (by omega) (by omega)⟩
  show q.2 20066 t = _ ∧ q.2 20067 t = _ ∧ ∀ i, i < _ → q.2 (20104 + 16 * t) i = _
  rw [e66, e67]
  by_cases e : t = k
  · subst e
    rw [upT_same, up_same, up_same]
    refine ⟨rfl, rfl, fun i hi => ?_⟩
    have hi' : i < n := hi
    have hn' : n ≤ 60 := hv.2
    rw [hq]; dsimp only; rw [if_pos ⟨rfl, by omega⟩]
  · rw [upT_ne e, up_ne e, up_ne e, fx _ (by omega) (by omega) (by omega)]
    exact hD.2.2.2.2.2 t ht
theorem op_tape {s : SS} (hs : GS s) (t so n : Int) : Op s (fX8_tape 10 t so n) (fX9_tape 20000 t so n) := by
  unfold fX8_tape fX9_tape
  simp only [Nat.reduceAdd]
  by_cases ht : 0 ≤ t ∧ t < 6
  · obtain ⟨k, rfl⟩ := Int.eq_ofNat_of_zero_le ht.1
    have hk : k < 6 := by omega
    have one0 : ¬ ((1 : Int) = 0) := by decide
    have cl : ∀ (M : Mem) {β : Type} {no : Option β} {K : Nat → Option β} {P : β → Prop}, Ok (K (56 + 16 * k)) P → Ok (oc (if 0 ≤ (k : Int) ∧ (k : Int) < 6 then some (56 + 16 * (k : Int).toNat) else none) no (fun a2 => if Sh a2 = (14, 3) then K a2 else none)) P := fun M β no K P h => by
      rw [if_pos ht, tn]
      show Ok (if Sh (56 + 16 * k) = (14, 3) then K (56 + 16 * k) else none) P
      exact ok_if (Sh_tp k hk) h
    have ml : ∀ (so : Int) (n : Nat), TPok (so, n, fun _ => 0) → ∀ M, DI M s → Ok (Option.bind (fX9_tape_l72 20000 k 1000 0 (wr (wr M 20066 k so) 20067 k n)) (fun z => some ((1 : Int), z.2))) (PD M (wP s (upT s.tp k (so, n, fun _ => 0))) 1) := fun so n hv M hD => ok_by (mtape_ok hD hk hv) (fun z hz => ok_some (PD.mk' hz.1 hz.2))
    by_cases h1 : so = -1
    · subst h1
      have hv : TPok ((-1 : Int), 0, fun _ => 0) := ⟨Or.inl ⟨rfl, rfl⟩, by decide⟩
      refine ⟨1, wP s (upT s.tp k (-1, 0, fun _ => 0)), wP_GS hs hv, fun M hC => ok_bs tapeAt_ok (cl M (ok_if rfl (ok_by (become_ok hs hC hk hv) (fun q hq => ok_some (PC.mk' hq.1 hq.2))))), fun M hD => ok_bs isTape_ok (ok_el (by rw [if_pos ht]; exact one0) (ok_bs in_ok (ok_el (by (try dsimp only); rw [if_pos (by omega)]; decide) (ok_if (by decide) (ok_if (by decide) (ok_chk (by omega) (ok_nm0 (ok_bi (ok_el (by decide) (ok_some (ok_chk (by omega) (ok_nm0 ?_))))))))))))⟩
      exact ml (-1) 0 hv M hD
    · by_cases h2 : 0 ≤ so ∧ so ≤ 4
      · by_cases h3 : n ≤ 60
        · by_cases h4 : 0 ≤ n
          · obtain ⟨m, rfl⟩ := Int.eq_ofNat_of_zero_le h4
            have hv : TPok (so, m, fun _ => 0) := ⟨Or.inr h2, by show m ≤ 60; omega⟩
            refine ⟨1, wP s (upT s.tp k (so, m, fun _ => 0)), wP_GS hs hv, fun M hC => ok_bs tapeAt_ok (cl M (ok_el h1 (ok_el (by omega) (ok_el (by omega) (ok_if h3 (ok_if h4 (ok_by (become_ok hs hC hk hv) (fun q hq => ok_some (PC.mk' hq.1 hq.2))))))))), fun M hD => ok_bs isTape_ok (ok_el (by rw [if_pos ht]; exact one0) (ok_bs in_ok (ok_el (by (try dsimp only); rw [if_pos (by omega)]; decide) (ok_el (by omega) (ok_if h3 (ok_el (by omega) (ok_if h4 (ok_chk (by omega) (ok_nm0 (ok_bi (ok_if h2.1 (ok_some (ok_chk (by omega) (ok_nm0 ?_))))))))))))))⟩
            exact ml so m hv M hD
          · exact ⟨-14, s, hs, fun M hC => ok_bs tapeAt_ok (cl M (ok_el h1 (ok_el (by omega) (ok_el (by omega) (ok_if h3 (ok_el h4 (ok_some (PC.self hC)))))))), fun M hD => ok_bs isTape_ok (ok_el (by rw [if_pos ht]; exact one0) (ok_bs in_ok (ok_el (by (try dsimp only); rw [if_pos (by omega)]; decide) (ok_el (by omega) (ok_if h3 (ok_el (by omega) (ok_el h4 (ok_some (PD.self hD)))))))))⟩
        · exact ⟨-2, s, hs, fun M hC => ok_bs tapeAt_ok (cl M (ok_el h1 (ok_el (by omega) (ok_el (by omega) (ok_el h3 (ok_some (PC.self hC))))))), fun M hD => ok_bs isTape_ok (ok_el (by rw [if_pos ht]; exact one0) (ok_bs in_ok (ok_el (by (try dsimp only); rw [if_pos (by omega)]; decide) (ok_el (by omega) (ok_el h3 (ok_some (PD.self hD)))))))⟩
      · exact ⟨-2, s, hs, fun M hC => ok_bs tapeAt_ok (cl M (ok_el h1 (ok_ite (fun _ => ok_some (PC.self hC)) (fun h0 => ok_if (by omega) (ok_some (PC.self hC)))))), fun M hD => ok_bs isTape_ok (ok_el (by rw [if_pos ht]; exact one0) (ok_bs in_ok (ok_if (by (try dsimp only); rw [if_neg (by omega)]) (ok_some (PD.self hD)))))⟩
  · refine ⟨-1, s, hs, fun M hC => ok_bs tapeAt_ok ?_, fun M hD => ok_bs isTape_ok (ok_if (by rw [if_neg ht]) (ok_some (PD.self hD)))⟩
    dsimp only
    rw [if_neg ht]
    exact ok_some (PC.self hC)
/-- a tape, or none -/
theorem oc_tp {β : Type} {t : Int} {no : Option β} {K : Nat → Option β} {P : β → Prop} (h0 : ¬ (0 ≤ t ∧ t < 6) → Ok no P) (h1 : ∀ k : Nat, t = (k : Int) → k < 6 → Ok (K (56 + 16 * k)) P) : Ok (oc (if 0 ≤ t ∧ t < 6 then some (56 + 16 * t.toNat) else none) no (fun a2 => if Sh a2 = (14, 3) then K a2 else none)) P := by
  by_cases ht : 0 ≤ t ∧ t < 6
  · obtain ⟨k, rfl⟩ := Int.eq_ofNat_of_zero_le ht.1
    rw [if_pos ht, tn]
    show Ok (if Sh (56 + 16 * k) = (14, 3) then K (56 + 16 * k) else none) P
    exact ok_if (Sh_tp k (by omega)) (h1 k rfl (by omega))
  · rw [if_neg ht]; exact h0 ht
/-- what a refusal says -/
def rfl9 (s : SS) (t i : Int) : Int := if 0 ≤ t ∧ t < 6 then (if 0 ≤ (s.tp t.toNat).1 then (if 0 ≤ i ∧ i < (s.tp t.toNat).2.1 then 0 else -13) else -11) else -1
theorem refusal_ok {s : SS} (hs : GS s) {M : Mem} (hD : DI M s) (t i : Int) : fX9_refusal 20000 t i M = some (rfl9 s t i, M) := by
  apply ok_eq
  unfold fX9_refusal rfl9
  have one0 : ¬ ((1 : Int) = 0) := by decide
  refine ok_bs isTape_ok ?_
  by_cases ht : 0 ≤ t ∧ t < 6
  · obtain ⟨k, rfl⟩ := Int.eq_ofNat_of_zero_le ht.1
    have hv := hD.2.2.2.2.2 k (by omega)
    have hg := (hs.2.2.2.2.2 k (by omega)).2
    simp only [tn, hv.1, hv.2.1]
    refine ok_bi (ok_el (by rw [if_pos ht]; exact one0) (ok_chk (by omega) ?_))
    have ea : ∀ a b : Int, (if 0 ≤ (k : Int) ∧ (k : Int) < 6 then a else b) = a := fun a b => if_pos ht
    rw [ea]
    by_cases h1 : 0 ≤ (s.tp k).1
    · have eb : ∀ a b : Int, (if 0 ≤ (s.tp k).1 then a else b) = a := fun a b => if_pos h1
      rw [eb]
      refine ok_if h1 (ok_chk (by omega) (ok_chk (by omega) (ok_bs in_ok ?_)))
      by_cases h2 : 0 ≤ i ∧ i < (s.tp k).2.1
      · have ec : ∀ a b : Int, (if 0 ≤ i ∧ i < ((s.tp k).2.1 : Int) then a else b) = a := fun a b => if_pos h2
        rw [ec]
        exact ok_el (by (try dsimp only); rw [if_pos (by omega)]; decide) (ok_some (ok_some rfl))
      · have ec : ∀ a b : Int, (if 0 ≤ i ∧ i < ((s.tp k).2.1 : Int) then a else b) = b := fun a b => if_neg h2
        rw [ec]
        exact ok_if (by (try dsimp only); rw [if_neg (by omega)]) (ok_some (ok_some rfl))
    · have eb : ∀ a b : Int, (if 0 ≤ (s.tp k).1 then a else b) = b := fun a b => if_neg h1
      rw [eb]
      exact ok_el h1 (ok_some (ok_some rfl))
  · have ea : ∀ a b : Int, (if 0 ≤ t ∧ t < 6 then a else b) = b := fun a b => if_neg ht
    refine ok_bi (ok_if (by rw [if_neg ht]) (ok_some (ok_some ?_)))
    simp only [ea]
theorem op_peek {s : SS} (hs : GS s) (t i : Int) : Op s (fX8_peek 10 t i) (fX9_peek 20000 t i) := by
  unfold fX8_peek fX9_peek
  simp only [Nat.reduceAdd]
  by_cases ht : 0 ≤ t ∧ t < 6
  · obtain ⟨k, rfl⟩ := Int.eq_ofNat_of_zero_le ht.1
    have hk : k < 6 := by omega
    have hg := hs.2.2.2.2.2 k hk
    by_cases hi : 0 ≤ i ∧ i < (s.tp k).2.1
    · obtain ⟨j, rfl⟩ := Int.eq_ofNat_of_zero_le hi.1
      have hj : j < (s.tp k).2.1 := by omega
      have h6 := hg.2
      have hso : 0 ≤ (s.tp k).1 := by rcases hg.1 with h | h <;> omega
      have er : rfl9 s k j = 0 := by unfold rfl9; rw [if_pos ht, tn, if_pos hso, if_pos hi]
      refine ⟨(s.tp k).2.2 j, s, hs, fun M hC => ok_bs tapeAt_ok (oc_tp (fun h => absurd ht h) (fun k' hk' _ => ?_)), fun M hD => ok_bs (refusal_ok hs hD _ _) (ok_bi (ok_if er (ok_chk (by omega) (ok_chk (by omega) (ok_some (ok_some ?_))))))⟩
      · have : k' = k := by omega
        subst this
        have hv := hC.1.2.2.2.2 k' hk
        refine ok_el (by omega) (ok_if (by (try dsimp only); rw [hv.2.1]; omega) (ok_chk (by omega) (ok_some ?_)))
        have e3 : M (56 + 16 * k' + 3) j = (s.tp k').2.2 j := by rw [show 56 + 16 * k' + 3 = 59 + 16 * k' by omega]; exact hv.2.2 j hj
        dsimp only
        simp only [tn, e3]; exact PC.self hC
      · have hv := hD.2.2.2.2.2 k hk
        have e3 : M (20104 + 16 * k) j = (s.tp k).2.2 j := hv.2.2 j hj
        dsimp only
        rw [tn, tn, e3]; exact PD.self hD
    · have er : ¬ rfl9 s k i = 0 := by
        unfold rfl9
        rw [if_pos ht, tn]
        by_cases h1 : 0 ≤ (s.tp k).1
        · rw [if_pos h1, if_neg hi]; decide
        · rw [if_neg h1]; decide
      refine ⟨-9223372036854775808, s, hs, fun M hC => ok_bs tapeAt_ok (oc_tp (fun h => absurd ht h) (fun k' hk' _ => ?_)), fun M hD => ok_bs (refusal_ok hs hD _ _) (ok_bi (ok_el er (ok_some (ok_some (PD.self hD)))))⟩
      have : k' = k := by omega
      subst this
      have hv := hC.1.2.2.2.2 k' hk
      exact ok_ite (fun _ => ok_some (PC.self hC)) (fun h0 => ok_el (by (try dsimp only); rw [hv.2.1]; omega) (ok_some (PC.self hC)))
  · have er : ¬ rfl9 s t i = 0 := by unfold rfl9; rw [if_neg ht]; decide
    refine ⟨-9223372036854775808, s, hs, fun M hC => ok_bs tapeAt_ok (oc_tp (fun _ => ok_some (PC.self hC)) (fun k' hk' h => absurd ⟨by omega, by omega⟩ ht)), fun M hD => ok_bs (refusal_ok hs hD _ _) (ok_bi (ok_el er (ok_some (ok_some (PD.self hD)))))⟩
/-- as its sort can hold it -/
def fit9 (so v : Int) : Int := if so = 0 then w8 (w32 v) else if so = 1 then w16 (w32 v) else if so = 2 then w32 v else if so = 3 then v else if v = 0 then 0 else 1
theorem op_item {s : SS} (hs : GS s) (t i v : Int) : Op s (fX8_item 10 t i v) (fX9_item 20000 t i v) := by
  unfold fX8_item fX9_item
  simp only [Nat.reduceAdd]
  by_cases ht : 0 ≤ t ∧ t < 6
  · obtain ⟨k, rfl⟩ := Int.eq_ofNat_of_zero_le ht.1
    have hk : k < 6 := by omega
    have hg := hs.2.2.2.2.2 k hk
    by_cases hso : 0 ≤ (s.tp k).1
    · have h4 : (s.tp k).1 ≤ 4 := by rcases hg.1 with h | h <;> omega
      by_cases hi : 0 ≤ i ∧ i < (s.tp k).2.1
      · obtain ⟨j, rfl⟩ := Int.eq_ofNat_of_zero_le hi.1
        have hj : j < (s.tp k).2.1 := by omega
        have h6 := hg.2
        have er : rfl9 s k j = 0 := by unfold rfl9; rw [if_pos ht, tn, if_pos hso, if_pos hi]
        refine ⟨1, wP s (upT s.tp k ((s.tp k).1, (s.tp k).2.1, up (s.tp k).2.2 j (fit9 (s.tp k).1 v))), wP_GS hs ⟨hg.1, hg.2⟩, fun M hC => ok_bs tapeAt_ok (oc_tp (fun h => absurd ht h) (fun k' hk' _ => ?_)), fun M hD => ok_bs (refusal_ok hs hD _ _) (ok_nm0 (ok_if er (ok_chk (by omega) (ok_nm0 (ok_chk (by omega) ?_)))))⟩
        · have : k' = k := by omega
          subst this
          have hv := hC.1.2.2.2.2 k' hk
          dsimp only
          refine ok_el (by rw [hv.1]; omega) (ok_el (by omega) (ok_if (by rw [hv.2.1]; omega) ?_))
          have hft : fX5_fitted (56 + 16 * k') v M = some (fit9 (s.tp k').1 v, M) := by
            apply ok_eq
            unfold fX5_fitted fit9
            simp only [hv.1]
            generalize (s.tp k').1 = so at *
            by_cases e0 : so = 0
            · exact ok_if e0 (ok_some (by rw [if_pos e0]))
            · by_cases e1 : so = 1
              · exact ok_el e0 (ok_if e1 (ok_some (by rw [if_neg e0, if_pos e1])))
              · by_cases e2 : so = 2
                · exact ok_el e0 (ok_el e1 (ok_if e2 (ok_some (by rw [if_neg e0, if_neg e1, if_pos e2]))))
                · by_cases e3 : so = 3
                  · exact ok_el e0 (ok_el e1 (ok_el e2 (ok_if e3 (ok_some (by rw [if_neg e0, if_neg e1, if_neg e2, if_pos e3])))))
                  · refine ok_el e0 (ok_el e1 (ok_el e2 (ok_el e3 (ok_if (by omega) (ok_bi (ok_ite (fun e => ok_some (ok_some ?_)) (fun e => ok_some (ok_some ?_))))))))
                    · rw [if_neg e0, if_neg e1, if_neg e2, if_neg e3, if_pos e]
                    · rw [if_neg e0, if_neg e1, if_neg e2, if_neg e3, if_neg e]
          refine ok_bs hft (ok_chk (by omega) (ok_nm0 (ok_some ?_)))
          dsimp only
          rw [tn, show 56 + 16 * k' + 3 = 59 + 16 * k' by omega]
          have fx : ∀ x, x ≠ 59 + 16 * k' → wr M (59 + 16 * k') j (fit9 (s.tp k').1 v) x = M x := fun x hx => wrn hx
          refine PC.mk' (hC.tp hs (fun u hu => ?_) (fun x hx => fx x (by omega))) (fun x hx => fx x (by omega))
          rw [fx (56 + 16 * u) (by omega)]
          by_cases e : u = k'
          · subst e
            rw [upT_same, wre]
            refine ⟨hv.1, hv.2.1, fun x hx => ?_⟩
            show up (M (59 + 16 * u)) j _ x = up (s.tp u).2.2 j _ x
            by_cases ex : x = j
            · subst ex; rw [up_same, up_same]
            · rw [up_ne ex, up_ne ex]; exact hv.2.2 x hx
          · rw [upT_ne e, fx _ (by omega)]; exact hC.1.2.2.2.2 u hu
        · have hv := hD.2.2.2.2.2 k hk
          have e66 : M 20066 k = (s.tp k).1 := hv.1
          dsimp only
          simp only [tn, e66]
          have hft : Ok ((if (s.tp k).1 = 0 then some ((w8 (w32 v))) else (if (s.tp k).1 = 1 then some ((w16 (w32 v))) else (if (s.tp k).1 = 2 then some ((w32 v)) else (if (s.tp k).1 = 3 then some v else (if v = 0 then some (0) else some (1)))))) : Option Int) (fun x => x = fit9 (s.tp k).1 v) := by
            unfold fit9
            generalize (s.tp k).1 = so at *
            by_cases e0 : so = 0
            · exact ok_if e0 (ok_some (by rw [if_pos e0]))
            · by_cases e1 : so = 1
              · exact ok_el e0 (ok_if e1 (ok_some (by rw [if_neg e0, if_pos e1])))
              · by_cases e2 : so = 2
                · exact ok_el e0 (ok_el e1 (ok_if e2 (ok_some (by rw [if_neg e0, if_neg e1, if_pos e2]))))
                · by_cases e3 : so = 3
                  · exact ok_el e0 (ok_el e1 (ok_el e2 (ok_if e3 (ok_some (by rw [if_neg e0, if_neg e1, if_neg e2, if_pos e3])))))
                  · refine ok_el e0 (ok_el e1 (ok_el e2 (ok_el e3 (ok_ite (fun e => ok_some ?_) (fun e => ok_some ?_)))))
                    · rw [if_neg e0, if_neg e1, if_neg e2, if_neg e3, if_pos e]
                    · rw [if_neg e0, if_neg e1, if_neg e2, if_neg e3, if_neg e]
          refine ok_by hft (fun x hx => ok_chk (by omega) (ok_nm0 (ok_some ?_)))
          rw [hx]
          have fx : ∀ x, x ≠ 20104 + 16 * k → wr M (20104 + 16 * k) j (fit9 (s.tp k).1 v) x = M x := fun x hx => wrn hx
          refine PD.mk' (hD.tp (fun u hu => ?_) (fun x _ hx => fx x (by omega))) (fun x hx => fx x (by omega))
          show wr M (20104 + 16 * k) j (fit9 (s.tp k).1 v) 20066 u = _ ∧ wr M (20104 + 16 * k) j (fit9 (s.tp k).1 v) 20067 u = _ ∧ ∀ i, i < _ → wr M (20104 + 16 * k) j (fit9 (s.tp k).1 v) (20104 + 16 * u) i = _
          rw [fx 20066 (by omega), fx 20067 (by omega)]
          by_cases e : u = k
          · subst e
            rw [upT_same, wre]
            refine ⟨hv.1, hv.2.1, fun x hx => ?_⟩
            show up (M (20104 + 16 * u)) j _ x = up (s.tp u).2.2 j _ x
            by_cases ex : x = j
            · subst ex; rw [up_same, up_same]
            · rw [up_ne ex, up_ne ex]; exact hv.2.2 x hx
          · rw [upT_ne e, fx _ (by omega)]; exact hD.2.2.2.2.2 u hu
      · have er : rfl9 s k i = -13 := by unfold rfl9; rw [if_pos ht, tn, if_pos hso, if_neg hi]
        refine ⟨-13, s, hs, fun M hC => ok_bs tapeAt_ok (oc_tp (fun h => absurd ht h) (fun k' hk' _ => ?_)), fun M hD => ok_bs (refusal_ok hs hD _ _) (ok_nm0 ?_)⟩
        · have : k' = k := by omega
          subst this
          have hv := hC.1.2.2.2.2 k' hk
          dsimp only
          exact ok_el (by rw [hv.1]; omega) (ok_ite (fun _ => ok_some (PC.self hC)) (fun h0 => ok_el (by rw [hv.2.1]; omega) (ok_some (PC.self hC))))
        · dsimp only
          rw [er]
          exact ok_el (by decide) (ok_some (PD.self hD))
    · have hm : (s.tp k).1 = -1 := by rcases hg.1 with h | h <;> omega
      have er : rfl9 s k i = -11 := by unfold rfl9; rw [if_pos ht, tn, if_neg hso]
      refine ⟨-11, s, hs, fun M hC => ok_bs tapeAt_ok (oc_tp (fun h => absurd ht h) (fun k' hk' _ => ?_)), fun M hD => ok_bs (refusal_ok hs hD _ _) (ok_nm0 ?_)⟩
      · have : k' = k := by omega
        subst this
        have hv := hC.1.2.2.2.2 k' hk
        dsimp only
        exact ok_if (by rw [hv.1]; exact hm) (ok_some (PC.self hC))
      · dsimp only
        rw [er]
        exact ok_el (by decide) (ok_some (PD.self hD))
  · have er : rfl9 s t i = -1 := by unfold rfl9; rw [if_neg ht]
    refine ⟨-1, s, hs, fun M hC => ok_bs tapeAt_ok (oc_tp (fun _ => ok_some (PC.self hC)) (fun k' hk' h => absurd ⟨by omega, by omega⟩ ht)), fun M hD => ok_bs (refusal_ok hs hD _ _) (ok_nm0 ?_)⟩
    dsimp only
    rw [er]
    exact ok_el (by decide) (ok_some (PD.self hD))
end
