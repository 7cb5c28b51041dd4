section
/-! a text's clauses done; read -/
def OpF (s : SS) (f g : Mem → Option (Int × Mem)) : Prop := ∃ (A : Int) (s1 : SS), GS s1 ∧ (∀ M, CI M s → Ok (f M) (fun q => PC M s1 A q ∧ Sm SC M q.2)) ∧ (∀ M, DI M s → Ok (g M) (fun q => PD M s1 A q ∧ Sm SD M q.2))
theorem Op.keep {s : SS} {f g : Mem → Option (Int × Mem)} (h : Op s f g) (hf : ∀ M, KQ SC M (f M)) (hg : ∀ M, KQ SD M (g M)) : OpF s f g := by
  obtain ⟨A, s1, hG, h1, h2⟩ := h
  refine ⟨A, s1, hG, fun M hC => ?_, fun M hD => ?_⟩
  · obtain ⟨q, e, hq⟩ := h1 M hC
    exact ⟨q, e, hq, hf M q e⟩
  · obtain ⟨q, e, hq⟩ := h2 M hD
    exact ⟨q, e, hq, hg M q e⟩
def StC (s s1 : SS) (A : Int) (c : Int × Int × Int) : Prop := ∀ M f g, CI M s → (c.1 ≠ 99 → f = c.2.1) → (c.1 = 98 → g = c.2.2) → Ok (fX8_isDone 10 c.1 f g M) (fun q => q.1 = (if A < 0 then 0 else 1) ∧ CI q.2 s1 ∧ (∀ x, 20000 ≤ x → q.2 x = M x) ∧ Sm SC M q.2)
def StD (s s1 : SS) (A : Int) (c : Int × Int × Int) : Prop := ∀ M (i : Nat), DI M s → ClM M i c → i < 12 → Ok (fX9_done 20000 i M) (fun q => PD M s1 A q ∧ Sm SD M q.2)
theorem done_fin {M : Mem} {s1 : SS} {A : Int} {f : Option (Int × Mem)} (h : Ok f (fun q => PC M s1 A q ∧ Sm SC M q.2)) : Ok (Option.bind f (fun q2 => Option.bind ((if q2.1 < 0 then some (0) else some (1)) : Option (Int)) (fun t4 => if t4 = 0 ∨ t4 = 1 then some (t4, q2.2) else none))) (fun q => q.1 = (if A < 0 then 0 else 1) ∧ CI q.2 s1 ∧ (∀ x, 20000 ≤ x → q.2 x = M x) ∧ Sm SC M q.2) := by
  refine ok_by h (fun q hq => ?_)
  obtain ⟨⟨q1, q2, q3⟩, q4⟩ := hq
  refine ok_bi (ok_ite (fun hc => ok_some (ok_chk (by omega) (ok_some ⟨?_, q2, q3, q4⟩))) (fun hc => ok_some (ok_chk (by omega) (ok_some ⟨?_, q2, q3, q4⟩))))
  · rw [if_pos (by omega)]
  · rw [if_neg (by omega)]
theorem done_mfin {M : Mem} {s1 : SS} {A : Int} {f : Option (Int × Mem)} (h : Ok f (fun q => PD M s1 A q ∧ Sm SD M q.2)) : Ok (Option.bind f (fun q5 => some (q5.1, q5.2))) (fun q => PD M s1 A q ∧ Sm SD M q.2) := ok_by h (fun q hq => ok_some hq)
theorem step_ok {s : SS} (hs : GS s) {c : Int × Int × Int} (hk : Kd c.1) : ∃ A s1, GS s1 ∧ StC s s1 A c ∧ StD s s1 A c := by
  obtain ⟨k, u, v⟩ := c
  have hk' : Kd k := hk
  rcases hk' with rfl | rfl | rfl | rfl | rfl
  · obtain ⟨A, s1, hG, h1, h2⟩ := (op_ballot hs u v).keep (fun M => kC_ballot u v (fun _ _ _ => rfl)) (fun M => kD_ballot u v (fun _ _ _ => rfl))
    refine ⟨A, s1, hG, fun M f g hC hf hg => ?_, fun M i hD hc hi => ?_⟩
    · have e1 : f = u := hf (show ¬ ((98 : Int) = 99) by decide)
      have e2 : g = v := hg rfl
      subst e1; subst e2
      unfold fX8_isDone
      exact ok_if rfl (done_fin (h1 M hC))
    · obtain ⟨c1, c2, c3⟩ := hc
      have c2' := c2 (show ¬ ((98 : Int) = 99) by decide)
      have c3' := c3 rfl
      unfold fX9_done
      simp only [Nat.reduceAdd, tn, c1, c2', c3']
      exact ok_chk (by omega) (ok_if trivial (ok_chk (by omega) (ok_chk (by omega) (done_mfin (h2 M hD)))))
  · obtain ⟨A, s1, hG, h1, h2⟩ := (op_candidate hs).keep (fun M => kC_candidate (fun _ _ _ => rfl)) (fun M => kD_candidate (fun _ _ _ => rfl))
    refine ⟨A, s1, hG, fun M f g hC hf hg => ?_, fun M i hD hc hi => ?_⟩
    · unfold fX8_isDone
      exact ok_el (by dsimp only; decide) (ok_if rfl (done_fin (h1 M hC)))
    · obtain ⟨c1, c2, c3⟩ := hc
      unfold fX9_done
      simp only [Nat.reduceAdd, tn, c1]
      exact ok_chk (by omega) (ok_el (by decide) (ok_if (by trivial) (done_mfin (h2 M hD))))
  · obtain ⟨A, s1, hG, h1, h2⟩ := (op_gone hs u 1 (Or.inr rfl)).keep (fun M => kC_gone u 1 (fun _ _ _ => rfl)) (fun M => kD_gone u 1 (fun _ _ _ => rfl))
    refine ⟨A, s1, hG, fun M f g hC hf hg => ?_, fun M i hD hc hi => ?_⟩
    · have e1 : f = u := hf (show ¬ ((103 : Int) = 99) by decide)
      subst e1
      unfold fX8_isDone
      exact ok_el (by dsimp only; decide) (ok_el (by dsimp only; decide) (ok_if rfl (done_fin (h1 M hC))))
    · obtain ⟨c1, c2, c3⟩ := hc
      have c2' := c2 (show ¬ ((103 : Int) = 99) by decide)
      unfold fX9_done
      simp only [Nat.reduceAdd, tn, c1, c2']
      exact ok_chk (by omega) (ok_el (by decide) (ok_el (by decide) (ok_el (by decide) (ok_el (by decide) (ok_chk (by omega) (done_mfin (h2 M hD)))))))
  · obtain ⟨A, s1, hG, h1, h2⟩ := (op_set hs 1 u).keep (fun M => kC_set 1 u (fun _ _ _ => rfl)) (fun M => kD_set 1 u (fun _ _ _ => rfl))
    refine ⟨A, s1, hG, fun M f g hC hf hg => ?_, fun M i hD hc hi => ?_⟩
    · have e1 : f = u := hf (show ¬ ((108 : Int) = 99) by decide)
      subst e1
      unfold fX8_isDone
      exact ok_el (by dsimp only; decide) (ok_el (by dsimp only; decide) (ok_el (by dsimp only; decide) (ok_if rfl (done_fin (h1 M hC)))))
    · obtain ⟨c1, c2, c3⟩ := hc
      have c2' := c2 (show ¬ ((108 : Int) = 99) by decide)
      unfold fX9_done
      simp only [Nat.reduceAdd, tn, c1, c2']
      exact ok_chk (by omega) (ok_el (by decide) (ok_el (by decide) (ok_if (by trivial) (ok_chk (by omega) (done_mfin (h2 M hD))))))
  · obtain ⟨A, s1, hG, h1, h2⟩ := (op_set hs 0 u).keep (fun M => kC_set 0 u (fun _ _ _ => rfl)) (fun M => kD_set 0 u (fun _ _ _ => rfl))
    refine ⟨A, s1, hG, fun M f g hC hf hg => ?_, fun M i hD hc hi => ?_⟩
    · have e1 : f = u := hf (show ¬ ((115 : Int) = 99) by decide)
      subst e1
      unfold fX8_isDone
      exact ok_el (by dsimp only; decide) (ok_el (by dsimp only; decide) (ok_el (by dsimp only; decide) (ok_el (by dsimp only; decide) (ok_if rfl (done_fin (h1 M hC))))))
    · obtain ⟨c1, c2, c3⟩ := hc
      have c2' := c2 (show ¬ ((115 : Int) = 99) by decide)
      unfold fX9_done
      simp only [Nat.reduceAdd, tn, c1, c2']
      exact ok_chk (by omega) (ok_el (by decide) (ok_el (by decide) (ok_el (by decide) (ok_if (by trivial) (ok_chk (by omega) (done_mfin (h2 M hD)))))))
theorem CLc.keep {M M' : Mem} {D : List (Int × Int × Int)} (h : CLc M D) (hf : Sm SC M M') : CLc M' D := fun i c hi => by
  have := h i c hi
  unfold ClC at *
  rw [hf 214 i (Or.inr (Or.inl rfl)), hf 215 i (Or.inr (Or.inr (Or.inl rfl))), hf 216 i (Or.inr (Or.inr (Or.inr rfl)))]
  exact this
theorem CLm.keep {M M' : Mem} {D : List (Int × Int × Int)} (h : CLm M D) (hf : Sm SD M M') : CLm M' D := fun i c hi => by
  have := h i c hi
  unfold ClM at *
  rw [hf 20053 i (Or.inr (Or.inl rfl)), hf 20054 i (Or.inr (Or.inr (Or.inl rfl))), hf 20055 i (Or.inr (Or.inr (Or.inr rfl)))]
  exact this
theorem chain_ok {D : List (Int × Int × Int)} (hD : ∀ c ∈ D, Kd c.1) (hl : D.length ≤ 12) : ∀ (k i : Nat) (s : SS) (n : Int), i + k = D.length → 0 ≤ n → n ≤ i → GS s → ∃ (ans : Int) (s' : SS), GS s' ∧ (∀ M m, k < m → CI M s → CLc M D → M 210 2 = D.length → Ok (fX8_read_l35 10 m n i M) (fun z => z.1 = ans ∧ CI z.2.2 s' ∧ ∀ x, 20000 ≤ x → z.2.2 x = M x)) ∧ (∀ M m, k < m → DI M s → CLm M D → M 20000 49 = D.length → Ok (fX9_read_l121 20000 m n i M) (fun z => z.1 = ans ∧ DI z.2.2 s' ∧ ∀ x, x < 20000 → z.2.2 x = M x)) := by
  intro k
  induction k with
  | zero =>
    intro i s n h1 h2 h3 hs
    refine ⟨n, s, hs, fun M m hm hC hc hL => ?_, fun M m hm hD' hc hL => ?_⟩
    · obtain ⟨m, rfl⟩ : ∃ m', m = m' + 1 := ⟨m - 1, by omega⟩
      unfold fX8_read_l35
      simp only [Nat.reduceAdd]
      exact ok_if (by rw [hL]; omega) (ok_some ⟨rfl, hC, fun _ _ => rfl⟩)
    · obtain ⟨m, rfl⟩ : ∃ m', m = m' + 1 := ⟨m - 1, by omega⟩
      unfold fX9_read_l121
      exact ok_if (by rw [hL]; omega) (ok_some ⟨rfl, hD', fun _ _ => rfl⟩)
  | succ k ih =>
    intro i s n h1 h2 h3 hs
    have hi : i < D.length := by omega
    have hg : D[i]? = some D[i] := List.getElem?_eq_getElem hi
    obtain ⟨A, s1, hG, hSC, hSD⟩ := step_ok hs (hD D[i] (List.getElem_mem hi))
    generalize D[i] = c at *
    obtain ⟨ans, s', hG', g1, g2⟩ := ih (i + 1) s1 (if A < 0 then n else n + 1) (by omega) (by split <;> omega) (by split <;> omega) hG
    refine ⟨ans, s', hG', fun M m hm hC hc hL => ?_, fun M m hm hD' hc hL => ?_⟩
    · obtain ⟨m, rfl⟩ : ∃ m', m = m' + 1 := ⟨m - 1, by omega⟩
      unfold fX8_read_l35
      simp only [Nat.reduceAdd]
      refine ok_el (by rw [hL]; omega) (ok_chk (by omega) (ok_chk (by omega) (ok_chk (by omega) ?_)))
      obtain ⟨c1, c2, c3⟩ := hc i c hg
      rw [tn, c1]
      refine ok_by (hSC M _ _ hC c2 c3) (fun q hq => ?_)
      obtain ⟨q1, q2, q3, q4⟩ := hq
      have fin : ∀ n', n' = (if A < 0 then n else n + 1) → Ok (if -2147483648 ≤ ((i : Int) + 1) ∧ ((i : Int) + 1) ≤ 2147483647 then fX8_read_l35 10 m n' ((i : Int) + 1) q.2 else none) (fun z => z.1 = ans ∧ CI z.2.2 s' ∧ ∀ x, 20000 ≤ x → z.2.2 x = M x) := fun n' hn' => by
        refine ok_chk (by omega) ?_
        rw [hn']
        exact (g1 q.2 m (by omega) q2 (hc.keep q4) ((q4 210 2 (Or.inl ⟨rfl, rfl⟩)).trans hL)).mono (fun z hz => ⟨hz.1, hz.2.1, fun x hx => (hz.2.2 x hx).trans (q3 x hx)⟩)
      by_cases hA : A < 0
      · rw [if_pos hA] at q1 fin
        exact ok_bi (ok_if q1 (ok_some (fin n rfl)))
      · rw [if_neg hA] at q1 fin
        exact ok_bi (ok_el (by rw [q1]; decide) (ok_chk (by omega) (ok_some (fin (n + 1) rfl))))
    · obtain ⟨m, rfl⟩ : ∃ m', m = m' + 1 := ⟨m - 1, by omega⟩
      unfold fX9_read_l121
      refine ok_el (by rw [hL]; omega) (ok_by (hSD M i hD' (hc i c hg) (by omega)) (fun q hq => ?_))
      obtain ⟨⟨q1, q2, q3⟩, q4⟩ := hq
      have fin : ∀ n', n' = (if A < 0 then n else n + 1) → Ok (if -2147483648 ≤ ((i : Int) + 1) ∧ ((i : Int) + 1) ≤ 2147483647 then fX9_read_l121 20000 m n' ((i : Int) + 1) q.2 else none) (fun z => z.1 = ans ∧ DI z.2.2 s' ∧ ∀ x, x < 20000 → z.2.2 x = M x) := fun n' hn' => by
        refine ok_chk (by omega) ?_
        rw [hn']
        exact (g2 q.2 m (by omega) q2 (hc.keep q4) ((q4 20000 49 (Or.inl ⟨rfl, rfl⟩)).trans hL)).mono (fun z hz => ⟨hz.1, hz.2.1, fun x hx => (hz.2.2 x hx).trans (q3 x hx)⟩)
      by_cases hA : A < 0
      · rw [if_pos hA] at fin
        exact ok_bi (ok_if (by rw [q1]; exact hA) (ok_some (fin n rfl)))
      · rw [if_neg hA] at fin
        exact ok_bi (ok_el (by rw [q1]; exact hA) (ok_chk (by omega) (ok_some (fin (n + 1) rfl))))
theorem prs_ok {x : Nat × Vec} : ∀ (n a : Nat) (D : List (Int × Int × Int)), a ≤ x.1 → (∀ c ∈ D, Kd c.1) → (∀ c ∈ (prs x n a D).1, Kd c.1) ∧ (prs x n a D).1.length ≤ D.length + n ∧ ∀ w, (prs x n a D).2 = some w → w.1 ≤ x.1 ∧ w.2.length ≤ 3
  | 0, a, D, _, hD => ⟨hD, Nat.le_refl _, fun w hw => by cases hw⟩
  | n + 1, a, D, hx, hD => by
    have hk := cl_ok hx
    unfold prs
    cases hc : cl x a with
    | inl r => exact ⟨hD, by dsimp only; omega, fun w hw => by cases hw; exact ⟨hk.1 r hc, Nat.le_refl 3⟩⟩
    | inr r =>
      have hD' : ∀ c ∈ D ++ [r.2], Kd c.1 := fun c hc2 => by
        rcases List.mem_append.mp hc2 with h | h
        · exact hD c h
        · rw [List.mem_singleton.mp h]; exact hk.2 r hc
      have hl : (D ++ [r.2]).length = D.length + 1 := by rw [List.length_append]; rfl
      dsimp only
      by_cases hx2 : x.1 ≤ r.1
      · rw [if_pos hx2]
        exact ⟨hD', by dsimp only; omega, fun w hw => by cases hw⟩
      · rw [if_neg hx2]
        by_cases h59 : sg x r.1 = 59
        · rw [if_pos h59]
          by_cases hn0 : n = 0
          · rw [if_pos hn0]
            exact ⟨hD', by dsimp only; omega, fun w hw => by cases hw; exact ⟨by dsimp only; omega, by show 2 ≤ 3; omega⟩⟩
          · rw [if_neg hn0]
            have ih := prs_ok (x := x) n (r.1 + 1) (D ++ [r.2]) (by omega) hD'
            exact ⟨ih.1, by omega, ih.2.2⟩
        · rw [if_neg h59]
          exact ⟨hD', by dsimp only; omega, fun w hw => by cases hw; exact ⟨by dsimp only; omega, by show 2 ≤ 3; omega⟩⟩
theorem ok_b2 {α β γ : Type} {x : Option α} {f : α → Option β} {g : β → Option γ} {Q : β → Prop} {P : γ → Prop} (h : Ok (Option.bind x f) Q) (hk : ∀ q, Q q → Ok (g q) P) : Ok (Option.bind x (fun q => Option.bind (f q) g)) P := by
  cases x with
  | none => obtain ⟨q, h1, _⟩ := h; cases h1
  | some v => exact ok_by (x := f v) h hk
theorem FmF.refl (M : Mem) : FmF M M := ⟨fun _ _ _ _ _ _ => rfl, fun _ _ _ _ _ => rfl⟩
theorem op_read {s : SS} (hs : GS s) : Op s (fX8_read 10) (fX9_read 20000) := by
  unfold fX8_read fX9_read fX6_faultToldTo
  simp only [Nat.reduceAdd]
  have hl := hs.2.2.2.1.1
  have hP := prs_ok (x := s.x) 12 0 [] (Nat.zero_le _) (fun c hc => by cases hc)
  have cf : ∀ M, CI M s → Ok (nm (wr M 210 2 0) (fun M1 => nm (wr M1 210 6 0) (fun M2 => lr (fX6_faultToldTo_l12 210 310 1000 0 M2) (fun r => r) (fun _ => none)))) (fun r => RLq M r (prs s.x 12 0 [])) := fun M hC => by
    have hT : TXc M s.x := hC.1.2.2.1
    have h := fault_l hl 12 1000 0 [] (wr (wr M 210 2 0) 210 6 0) rfl (by decide) (by decide) ((hT.w _ (by decide) (fun _ => by decide)).w _ (by decide) (fun _ => by decide)) (by rw [wra]; rfl) (by rw [wrk _ (by decide), wra]; rfl) (fun i c hi => by cases hi) (Nat.zero_le _)
    refine ok_nm0 (ok_nm0 (ok_lr (h.mono (fun z hz => ?_))))
    obtain ⟨r, rfl, hr⟩ := hz
    refine ⟨fun a e => ?_, fun b e => by cases e⟩
    cases e
    exact hr.tr (fun b hb => by rw [wrn (by omega), wrn (by omega)])
  have mf : ∀ M, DI M s → ∀ {P : Int × Mem → Prop} (K : Mem → Option (Int × Mem)), (∀ M', RN s.x M' (prs s.x 12 0 []) → FmF M M' → Ok (K M') P) → Ok (nm (wr M 20000 47 0) (fun M1 => nm (wr M1 20000 48 (-1)) (fun M2 => nm (wr M2 20000 49 0) (fun M3 => Option.bind (fX9_clauseRead 20000 M3) (fun q4 => Option.bind (fX9_read_l19 20000 1000 q4.2) K))))) P := fun M hD P K hK => by
    have hT : TXm M 20000 s.x := hD.2.2.2.1
    have h := mread_l hl 12 1000 0 [] (wr (wr (wr M 20000 47 0) 20000 48 (-1)) 20000 49 0) rfl (by decide) (by decide) (((hT.w _ (by decide) (fun _ => by decide)).w _ (by decide) (fun _ => by decide)).w _ (by decide) (fun _ => by decide)) (by rw [wrk _ (by decide), wrk _ (by decide), wra]; rfl) (by rw [wrk _ (by decide), wra]) (by rw [wra]; rfl) (fun i c hi => by cases hi) (Nat.zero_le _)
    have F0 : FmF M (wr (wr (wr M 20000 47 0) 20000 48 (-1)) 20000 49 0) := (((FmF.refl M).w _ (by omega)).w _ (by omega)).w _ (by omega)
    exact ok_nm0 (ok_nm0 (ok_nm0 (ok_b2 h (fun M' hM' => hK M' hM'.1 (F0.tr hM'.2)))))
  generalize hp : prs s.x 12 0 [] = p at *
  obtain ⟨D, o⟩ := p
  have tx0 : ∀ M, TXm (wr M 20000 46 0) 20000 (0, s.x.2) := fun M => ⟨by rw [wra]; rfl, fun k hk => absurd hk (Nat.not_lt_zero k)⟩
  cases o with
  | none =>
    obtain ⟨ans, s', hG, g1, g2⟩ := chain_ok (D := D) hP.1 (by have := hP.2.1; simpa using this) D.length 0 (wX s (0, s.x.2)) 0 (by omega) (Int.le_refl 0) (Int.le_refl 0) (wX_GS hs ⟨Nat.zero_le _, fun k hk => absurd hk (Nat.not_lt_zero k)⟩)
    have hlD : D.length ≤ 12 := by have := hP.2.1; simpa using this
    refine ⟨ans, s', hG, fun M hC => ?_, fun M hD => ?_⟩
    · refine ok_by (cf M hC) (fun r hr => ok_nm0 (ok_nm0 ?_))
      obtain ⟨r1, r2, r3, r4⟩ := hr
      have hC3 : CI (wr r.2 210 0 0) (wX s (0, s.x.2)) := hC.tx hs ⟨by rw [wra]; rfl, fun k hk => absurd hk (Nat.not_lt_zero k)⟩ (fun b hb => by rw [wrn (by omega)]; exact r4 b hb)
      refine ok_if r1 (ok_by (g1 (wr r.2 210 0 0) 1000 (by omega) hC3 (fun i c hi => ?_) (by rw [wrk _ (by decide)]; exact r3)) (fun z hz => ok_some ⟨hz.1, hz.2.1, fun x hx => ?_⟩))
      · have := r2 i c hi
        unfold ClC at *
        rw [wrn (by decide), wrn (by decide), wrn (by decide)]; exact this
      · rw [hz.2.2 x hx, wrn (by omega)]; exact r4 x (by omega)
    · refine mf M hD _ (fun M' hR hF => ?_)
      obtain ⟨r1, r2, r3⟩ := hR
      refine ok_bi (ok_el (by rw [r1]; decide) (ok_some (ok_nm0 (ok_nm0 (ok_if rfl ?_)))))
      have hD3 : DI (wr M' 20000 46 0) (wX s (0, s.x.2)) := hD.tx (t := s.t) (tx0 _) (by
        have h5 := hD.2.2.2.2.1
        unfold TRm at *
        rw [wrk _ (by decide), hF.1 15 (by decide) (by decide) (by decide) (by decide) (by decide), wrn (b := 20000 + 17) (by decide), wrn (b := 20000 + 18) (by decide), hF.2 (20000 + 17) (by decide) (by decide) (by decide) (by decide), hF.2 (20000 + 18) (by decide) (by decide) (by decide) (by decide)]
        exact h5) (fun j hj => by rw [wrk _ (by omega)]; exact hF.1 j (by omega) (by omega) (by omega) (by omega) (by omega)) (fun b hb => by rw [wrn (by omega)]; exact hF.2 b (by omega) (by omega) (by omega) (by omega))
      refine ok_by (g2 (wr M' 20000 46 0) 1000 (by omega) hD3 (fun i c hi => ?_) (by rw [wrk _ (by decide)]; exact r2)) (fun z hz => ok_some ⟨hz.1, hz.2.1, fun x hx => ?_⟩)
      · have := r3 i c hi
        unfold ClM at *
        rw [wrn (by decide), wrn (by decide), wrn (by decide)]; exact this
      · rw [hz.2.2 x hx, wrn (by omega)]; exact hF.2 x (by omega) (by omega) (by omega) (by omega)
  | some w =>
    obtain ⟨w1, w2⟩ := hP.2.2 w rfl
    refine ⟨-10 - (w.1 : Int), wX (wT s w.2) (0, s.x.2), wX_GS (wT_GS hs w2) ⟨Nat.zero_le _, fun k hk => absurd hk (Nat.not_lt_zero k)⟩, fun M hC => ?_, fun M hD => ?_⟩
    · refine ok_by (cf M hC) (fun r hr => ok_nm0 (ok_nm0 ?_))
      obtain ⟨r1, r2, r3⟩ := hr
      refine ok_el (by omega) (ok_chk (by omega) (ok_some ⟨by (try dsimp only); rw [r1], ?_, fun x hx => ?_⟩))
      · have h1 : CI (fun b => if 210 ≤ b ∧ b < 217 then wr r.2 210 0 0 b else M b) (wX s (0, s.x.2)) := hC.tx hs ⟨by (try dsimp only); rw [if_pos (by omega), wra]; rfl, fun k hk => absurd hk (Nat.not_lt_zero k)⟩ (fun b hb => by (try dsimp only); rw [if_neg (by omega)])
        refine h1.tr (wX_GS hs ⟨Nat.zero_le _, fun k hk => absurd hk (Nat.not_lt_zero k)⟩) ⟨?_, fun k q hk => ?_⟩ (fun b b1 b2 b3 => ?_)
        · show wr r.2 210 0 0 310 0 = _
          rw [wrn (by decide)]; exact r2.1
        · show wr r.2 210 0 0 312 k = _ ∧ wr r.2 210 0 0 313 k = _
          rw [wrn (by decide), wrn (by decide)]; exact r2.2 k q hk
        · show wr r.2 210 0 0 b = _
          by_cases hb : 210 ≤ b ∧ b < 217
          · rw [if_pos hb]
          · rw [if_neg hb, wrn (by omega)]; exact r3 b (by omega) b1 b2 b3
      · show wr r.2 210 0 0 x = _
        rw [wrn (by omega)]; exact r3 x (by omega) (by omega) (by omega) (by omega)
    · refine mf M hD _ (fun M' hR hF => ?_)
      have hT' : TXm M' 20000 s.x := TXm.fr hD.2.2.2.1 (hF.1 46 (by decide) (by decide) (by decide) (by decide) (by decide)) (hF.2 20046 (by decide) (by decide) (by decide) (by decide))
      have hR' : FAq s.x M' w := hR
      refine ok_bi (ok_if (by rw [hR'.1]; omega) (ok_by (faulty_ok hl hT' hR' (by omega)) (fun q hq => ok_some (ok_nm0 (ok_nm0 ?_)))))
      obtain ⟨q1, q2, q3, q4⟩ := hq
      dsimp only
      refine ok_el (by omega) (ok_some ⟨q1, hD.tx (tx0 _) ⟨?_, fun k y hk => ?_⟩ (fun j hj => ?_) (fun b hb => ?_), fun x hx => ?_⟩)
      · (try dsimp only); rw [wrk _ (by decide)]; exact q2.1
      · (try dsimp only); rw [wrn (b := 20000 + 17) (by decide), wrn (b := 20000 + 18) (by decide)]; exact q2.2 k y hk
      · (try dsimp only); rw [wrk _ (by omega), q3 j (by omega)]; exact hF.1 j (by omega) (by omega) (by omega) (by omega) (by omega)
      · (try dsimp only); rw [wrn (by omega), q4 b (by omega) (by omega) (by omega)]; exact hF.2 b (by omega) (by omega) (by omega) (by omega)
      · show wr q.2 20000 46 0 x = _
        rw [wrn (by omega), q4 x (by omega) (by omega) (by omega)]; exact hF.2 x (by omega) (by omega) (by omega) (by omega)
end
