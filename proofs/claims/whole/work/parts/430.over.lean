section
/-! OVER -/
def foR (f : Vec) : Nat → Nat → Int
  | 0, _ => -1
  | k + 1, i => if 4611686 < sm (i + 1) f then i else foR f k (i + 1)
theorem foR_iff {f : Vec} : ∀ {k i : Nat}, foR f k i = -1 ↔ ∀ b, i ≤ b → b < i + k → sm (b + 1) f ≤ 4611686
  | 0, i => by simp [foR]; omega
  | k + 1, i => by
    have ih := foR_iff (f := f) (k := k) (i := i + 1)
    unfold foR
    by_cases e : 4611686 < sm (i + 1) f
    · rw [if_pos e]
      constructor
      · intro h; omega
      · intro h; have := h i (Nat.le_refl i) (by omega); omega
    · rw [if_neg e, ih]
      constructor
      · intro h b h1 h2
        by_cases e2 : b = i
        · subst e2; omega
        · exact h b (by omega) (by omega)
      · intro h b h1 h2
        exact h b (by omega) (by omega)
theorem foR_ge {f : Vec} : ∀ {k i : Nat}, foR f k i ≠ -1 → 0 ≤ foR f k i
  | 0, i, h => absurd rfl h
  | k + 1, i, h => by
    unfold foR at h ⊢
    by_cases e : 4611686 < sm (i + 1) f
    · rw [if_pos e]; omega
    · rw [if_neg e] at h ⊢; exact foR_ge h
theorem foR_congr {f g : Vec} : ∀ {k i : Nat}, (∀ b, b < i + k → f b = g b) → foR f k i = foR g k i
  | 0, i, h => rfl
  | k + 1, i, h => by
    unfold foR
    rw [sm_congr (n := i + 1) (f := f) (g := g) (fun b hb => h b (by omega)), foR_congr (k := k) (i := i + 1) (fun b hb => h b (by omega))]
theorem firstOver_l {a : Nat} {f : Vec} {M : Mem} {n : Nat} (hn : n ≤ 25) (hf : ∀ b, b < n → M (a + 6) b = f b ∧ 0 ≤ f b ∧ f b ≤ 2147483647) : ∀ (m k i : Nat), i + k = n → k < m → 0 ≤ sm i f → sm i f ≤ 4611686 → Ok (fX9_firstOver_l5 a n m (sm i f) i M) (fun z => ∃ r, z = .inl r ∧ r = (foR f k i, M)) := by
  intro m
  induction m with
  | zero => intros; omega
  | succ m ih =>
    intro k i h1 h2 h3 h4
    unfold fX9_firstOver_l5
    cases k with
    | zero => exact ok_if (by omega) (ok_some ⟨_, rfl, rfl⟩)
    | succ k =>
      have hv := hf i (by omega)
      have e : sm (i + 1) f = sm i f + f i := rfl
      have e2 : foR f (k + 1) i = if 4611686 < sm (i + 1) f then (i : Int) else foR f k (i + 1) := rfl
      simp only [tn, hv.1]
      refine ok_el (by omega) (ok_chk (by omega) (ok_chk (by omega) (ok_nm0 (ok_ite (fun h5 => ?_) (fun h5 => ok_some ⟨_, rfl, ?_⟩)))))
      · rw [if_neg (by omega)] at e2
        rw [e2, ← e]
        exact ok_chk (by omega) (ih k (i + 1) (by omega) (by omega) (by omega) (by omega))
      · rw [if_pos (by omega)] at e2
        rw [e2]
theorem firstOver_ok {a : Nat} {f : Vec} {M : Mem} {n : Nat} {x : Int} (hx : x = (n : Int)) (hn : n ≤ 25) (hf : ∀ b, b < n → M (a + 6) b = f b ∧ 0 ≤ f b ∧ f b ≤ 2147483647) : fX9_firstOver a x M = some (foR f n 0, M) := by
  subst hx
  apply ok_eq
  unfold fX9_firstOver
  exact ok_lrl (firstOver_l hn hf 1000 n 0 (by omega) (by omega) (Int.le_refl 0) (show (0 : Int) ≤ 4611686 by decide))
/-! TROUBLE -/
def TRg (M : Mem) (o : Nat) (t : List (Int × Int)) : Prop := M o 0 = t.length ∧ ∀ k q, t[k]? = some q → M (o + 2) k = q.1 ∧ M (o + 3) k = q.2
theorem addCause_ok {o : Nat} {t : List (Int × Int)} {x y : Int} {M : Mem} (h : TRg M o t) (hl : t.length < 3) : Ok (fX7_addCause o x y M) (fun q => TRg q.2 o (t ++ [(x, y)]) ∧ ∀ b, b ≠ o → b ≠ o + 2 → b ≠ o + 3 → q.2 b = M b) := by
  unfold fX7_addCause
  simp only [h.1, tn]
  refine ok_bi (ok_el (by omega) (ok_chk (by omega) (ok_nm0 ?_)))
  have e1 : ∀ v, wr M (o + 2) t.length v o = M o := fun v => wrn (by omega)
  simp only [e1, h.1, tn]
  refine ok_chk (by omega) (ok_nm0 ?_)
  have e2 : ∀ v w, wr (wr M (o + 2) t.length v) (o + 3) t.length w o = M o := fun v w => by rw [wrn (by omega), e1]
  simp only [e2, h.1]
  refine ok_chk (by omega) (ok_nm0 (ok_some (ok_some ?_)))
  dsimp only
  refine ⟨⟨?_, fun k q hk => ?_⟩, fun b b1 b2 b3 => ?_⟩
  · rw [wra, List.length_append]; simp
  · have r2 : ∀ v, wr (wr (wr M (o + 2) t.length x) (o + 3) t.length y) o 0 v (o + 2) = up (M (o + 2)) t.length x := fun v => by rw [wrn (by omega), wrn (by omega), wre]
    have r3 : ∀ v, wr (wr (wr M (o + 2) t.length x) (o + 3) t.length y) o 0 v (o + 3) = up (M (o + 3)) t.length y := fun v => by rw [wrn (by omega), wre, wrn (by omega)]
    rw [r2, r3]
    by_cases c : k < t.length
    · rw [List.getElem?_append_left c] at hk
      rw [up_ne (by omega), up_ne (by omega)]
      exact h.2 k q hk
    · rw [List.getElem?_append_right (by omega)] at hk
      have := getq_lt hk
      simp only [List.length_cons, List.length_nil] at this
      have e : k = t.length := by omega
      subst e
      rw [Nat.sub_self] at hk
      cases hk
      rw [up_same, up_same]
      exact ⟨rfl, rfl⟩
  · (try dsimp only); rw [wrn b1, wrn b3, wrn b2]
theorem begin7_ok {o : Nat} {x y : Int} {M : Mem} : Ok (fX7_begin o x y M) (fun q => TRg q.2 o [(x, y)] ∧ ∀ b, b ≠ o → b ≠ o + 2 → b ≠ o + 3 → q.2 b = M b) := by
  unfold fX7_begin
  refine ok_nm0 (ok_by (addCause_ok (t := []) ⟨by rw [wra]; rfl, fun k q hk => by cases hk⟩ (by decide)) (fun q hq => ok_some ⟨hq.1, fun b b1 b2 b3 => ?_⟩))
  (try dsimp only); rw [hq.2 b b1 b2 b3, wrn b1]
/-- the trouble of OVER -/
def ovT (p : PL) (r : Int) : List (Int × Int) := [(5, (p.nb : Int)), (6, r), (7, 0)]
theorem isOver_l {p : PL} {M : Mem} {b0 n : Nat} {v : Int} (hW : WF p) (hc : PCc M 11000 p) (hn : n ≤ 24) (hb0 : b0 < n) (hnb : ∀ b, b < n → b ≠ b0 → b < p.nb) (hv : 0 ≤ v ∧ v ≤ 1000000) : ∀ (m k i : Nat), i + k = n → k < m → 0 ≤ sm i (up p.mn b0 v) → sm i (up p.mn b0 v) ≤ 4611686 → Ok (fX8_isOver_l20 10 b0 v ((n : Int) - 1) m (sm i (up p.mn b0 v)) i M) (fun z => ∃ r, z = .inl r ∧ ((foR (up p.mn b0 v) k i = -1 ∧ r = (0, M)) ∨ (foR (up p.mn b0 v) k i ≠ -1 ∧ r.1 = 1 ∧ TRg r.2 310 (ovT p (foR (up p.mn b0 v) k i)) ∧ ∀ b, b ≠ 310 → b ≠ 312 → b ≠ 313 → r.2 b = M b))) := by
  intro m
  induction m with
  | zero => intros; omega
  | succ m ih =>
    intro k i h1 h2 h3 h4
    unfold fX8_isOver_l20
    simp only [Nat.reduceAdd]
    cases k with
    | zero => exact ok_if (by omega) (ok_some ⟨_, rfl, Or.inl ⟨rfl, rfl⟩⟩)
    | succ k =>
      have e : sm (i + 1) (up p.mn b0 v) = sm i (up p.mn b0 v) + up p.mn b0 v i := rfl
      have e2 : foR (up p.mn b0 v) (k + 1) i = if 4611686 < sm (i + 1) (up p.mn b0 v) then (i : Int) else foR (up p.mn b0 v) k (i + 1) := rfl
      have hval : Ok ((if (i : Int) = (b0 : Int) then some v else if 0 ≤ (i : Int) ∧ (i : Int) < 25 then some ((M 11006 (Int.toNat (i : Int)))) else none) : Option Int) (fun t => t = up p.mn b0 v i ∧ 0 ≤ t ∧ t ≤ 4611686) := by
        by_cases ei : i = b0
        · subst ei
          rw [up_same]
          exact ok_if rfl (ok_some ⟨rfl, hv.1, by omega⟩)
        · rw [up_ne ei]
          have hi := hnb i (by omega) ei
          have := hW.2.2.2.2.1 i hi
          have hs := sm_le (n := p.nb) (f := p.mn) (fun c hc => (hW.2.2.2.2.1 c hc).2) i hi
          have := hW.2.2.2.2.2.1
          have hm : M 11006 i = p.mn i := (hc.2.2.2.1 i hi).2
          refine ok_el (by omega) (ok_chk (by omega) (ok_some ?_))
          rw [tn, hm]
          omega
      refine ok_el (by omega) (ok_el (by omega) (ok_by hval (fun t ht => ?_)))
      obtain ⟨t1, t2, t3⟩ := ht
      refine ok_chk (by omega) (ok_nm0 (ok_ite (fun h5 => ?_) (fun h5 => ?_)))
      · rw [if_neg (by omega)] at e2
        rw [e2, t1, ← e]
        exact ok_chk (by omega) (ih k (i + 1) (by omega) (by omega) (by omega) (by omega))
      · rw [if_pos (by omega)] at e2
        rw [e2]
        have h3' : M 11000 3 = p.nb := hc.2.1
        rw [h3']
        refine ok_by (begin7_ok (o := 310)) (fun q1 hq1 => ok_by (addCause_ok hq1.1 (by simp)) (fun q2 hq2 => ok_by (addCause_ok hq2.1 (by simp)) (fun q3 hq3 => ok_some ⟨_, rfl, Or.inr ⟨by omega, rfl, hq3.1, fun b b1 b2 b3 => ?_⟩⟩)))
        (try dsimp only); rw [hq3.2 b b1 b2 b3, hq2.2 b b1 b2 b3, hq1.2 b b1 b2 b3]
theorem isOver_ok {p : PL} {M : Mem} {b0 n : Nat} {v : Int} (hW : WF p) (hc : PCc M 11000 p) (hn : n ≤ 24) (hb0 : b0 < n) (hnb : ∀ b, b < n → b ≠ b0 → b < p.nb) (hn2 : (n : Int) - 1 = if (p.nb : Int) - 1 < b0 then (b0 : Int) else (p.nb : Int) - 1) (hv : 0 ≤ v ∧ v ≤ 1000000) : Ok (fX8_isOver 10 b0 v M) (fun r => (foR (up p.mn b0 v) n 0 = -1 ∧ r = (0, M)) ∨ (foR (up p.mn b0 v) n 0 ≠ -1 ∧ r.1 = 1 ∧ TRg r.2 310 (ovT p (foR (up p.mn b0 v) n 0)) ∧ ∀ b, b ≠ 310 → b ≠ 312 → b ≠ 313 → r.2 b = M b)) := by
  have h25 := hW.2.1
  unfold fX8_isOver
  simp only [Nat.reduceAdd]
  have h3' : M 11000 3 = p.nb := hc.2.1
  rw [h3', ← hn2]
  exact ok_chk (by omega) (ok_nm0 (ok_lrl (isOver_l hW hc hn hb0 hnb hv 1000 n 0 (by omega) (by omega) (Int.le_refl 0) (show (0 : Int) ≤ 4611686 by decide))))
theorem over_ok {p : PL} {r : Int} {M : Mem} {s : SS} (hD : DI M s) (hp : s.p = p) : Ok (fX9_over 20000 r M) (fun q => q.1 = -15 ∧ DI q.2 (s.1, s.2.1, s.2.2.1, s.2.2.2.1, ovT p r, s.2.2.2.2.2) ∧ ∀ x, x < 20000 → q.2 x = M x) := by
  unfold fX9_over
  have h1 : M 20000 1 = p.nb := by rw [← hp]; exact hD.1.2.1
  (repeat (first | with_reducible refine ok_nm0 ?_ | (with_reducible refine ok_chk ?_ ?_; · omega) | (with_reducible refine ok_if ?_ ?_; · omega) | (with_reducible refine ok_el ?_ ?_; · omega) | with_reducible refine ok_some ?_ | with_reducible refine ok_bi ?_ | with_reducible refine ok_bsm ?_)); try dsimp only
  have t0 : Int.toNat 0 = 0 := rfl
  have t1 : Int.toNat 1 = 1 := rfl
  have t2 : Int.toNat 2 = 2 := rfl
  rw [t0, t1, t2]
  have e1 : wr (wr M 20000 15 3) (20000 + 17) 0 5 20000 1 = p.nb := by rw [wrn (by omega), wrk _ (by decide)]; exact h1
  rw [e1]
  generalize eN : wr (wr (wr (wr (wr (wr (wr M 20000 15 3) (20000 + 17) 0 5) (20000 + 18) 0 (p.nb : Int)) (20000 + 17) 1 6) (20000 + 18) 1 r) (20000 + 17) 2 7) (20000 + 18) 2 0 = N
  have nx : ∀ x, x ≠ 20000 → x ≠ 20017 → x ≠ 20018 → N x = M x := fun x x1 x2 x3 => by
    rw [← eN, wrn x3, wrn x2, wrn x3, wrn x2, wrn x3, wrn x2, wrn x1]
  have na : ∀ j, j ≠ 15 → N 20000 j = M 20000 j := fun j hj => by
    rw [← eN, wrn (by omega), wrn (by omega), wrn (by omega), wrn (by omega), wrn (by omega), wrn (by omega), wrk _ hj]
  obtain ⟨a1, a2, a3, a4, a5, a6⟩ := hD
  refine ⟨rfl, ⟨a1.same (fun k hk => na k (by omega)) (nx _ (by omega) (by omega) (by omega)) (nx _ (by omega) (by omega) (by omega)) (nx _ (by omega) (by omega) (by omega)) (nx _ (by omega) (by omega) (by omega)), ?_, ?_, ?_, ?_, fun t ht => ?_⟩, fun x hx => nx x (by omega) (by omega) (by omega)⟩
  · show SEm N 20000 s.e
    unfold SEm at *
    rw [na 9 (by omega), na 10 (by omega), nx (20000 + 12) (by omega) (by omega) (by omega), nx (20000 + 13) (by omega) (by omega) (by omega), nx (20000 + 14) (by omega) (by omega) (by omega), nx (20000 + 15) (by omega) (by omega) (by omega)]
    exact a2
  · show IMm N 20000 s.i
    cases e : s.i with
    | none => rw [e] at a3; exact (na 55 (by omega)).trans a3
    | some q =>
      rw [e] at a3
      unfold IMm at *
      rw [na 55 (by omega), nx (20000 + 57) (by omega) (by omega) (by omega), nx (20000 + 58) (by omega) (by omega) (by omega), nx (20000 + 59) (by omega) (by omega) (by omega), nx (20000 + 60) (by omega) (by omega) (by omega), nx (20000 + 61) (by omega) (by omega) (by omega), nx (20000 + 62) (by omega) (by omega) (by omega), nx (20000 + 63) (by omega) (by omega) (by omega), nx (20000 + 64) (by omega) (by omega) (by omega), nx (20000 + 65) (by omega) (by omega) (by omega)]
      exact a3
  · show TXm N 20000 s.x
    unfold TXm at *
    rw [na 46 (by omega), nx (20000 + 46) (by omega) (by omega) (by omega)]; exact a4
  · show TRm N 20000 (ovT p r)
    refine ⟨by rw [← eN]; simp [wr, ovT], fun k q hk => ?_⟩
    have hk3 := getq_lt hk
    have : k = 0 ∨ k = 1 ∨ k = 2 := by
      have : (ovT p r).length = 3 := rfl
      omega
    rcases this with e | e | e <;> subst e <;> cases hk <;> rw [← eN] <;> simp [wr]
  · rw [nx (20000 + 66) (by omega) (by omega) (by omega), nx (20000 + 67) (by omega) (by omega) (by omega), nx (20000 + 68 + 36 + 16 * t) (by omega) (by omega) (by omega)]; exact a6 t ht
/-! needs -/
abbrev wN (p : PL) (c : Nat) (v : Int) : PL := (p.1, p.2.1 + 1, p.2.2.1, p.2.2.2.1, upL p.L p.nb [(c : Int) + 1], up p.mn p.nb v, p.2.2.2.2.2.2)
theorem sm_up_last (f : Vec) (n : Nat) (v : Int) : sm (n + 1) (up f n v) = sm n f + v := by
  show sm n (up f n v) + up f n v n = _
  rw [up_same, sm_congr (n := n) (f := up f n v) (g := f) (fun c hc => up_ne (by omega))]
theorem WF.wN {p : PL} (h : WF4 p) {c : Nat} (hc : c < p.n) {v : Int} (hv : 0 ≤ v) (hs : sm p.nb p.mn + v ≤ 4611686) : WF (wN p c v) := by
  have h8 := h.1.1
  refine ⟨h.1.1, by have := h.2; show p.nb + 1 ≤ 25; omega, h.1.2.2.1, h.1.2.2.2.1, fun b hb => ?_, by show sm (p.nb + 1) (up p.mn p.nb v) ≤ _; rw [sm_up_last]; exact hs, h.1.2.2.2.2.2.2⟩
  have hb' : b < p.nb + 1 := hb
  show rgood p.n (upL p.L p.nb [(c : Int) + 1] b) ∧ 0 ≤ up p.mn p.nb v b
  by_cases e : b = p.nb
  · subst e
    rw [upL_same, up_same]
    refine ⟨⟨⟨fun d hd => ?_, by simp⟩, by simp, fun d hd => ?_, by simp⟩, hv⟩
    · simp at hd; omega
    · simp at hd; omega
  · rw [upL_ne e, up_ne e]
    exact h.1.2.2.2.2.1 b (by omega)
def nd (p : PL) (c : Nat) (k : Int) : Nat → Nat → Int
  | 0, _ => -5
  | f + 1, i => if 4611686 < sm p.nb p.mn + (i : Int) * k then -5 else if bt (els (wN p c ((i : Int) * k))) c then i else nd p c k f (i + 1)
theorem needsC_l {s : SS} (hs : GS s) {c : Nat} (hc : c < s.p.n) {k : Int} (hk : 1 ≤ k ∧ k ≤ 10000) : ∀ (m f i : Nat) (M : Mem), i + f = 31 → f < m → CI M s → (∃ v, PCc M 12000 (wN s.p c v)) → Ok (fX8_needs_l98 10 c k s.p.nb (sm s.p.nb s.p.mn) m i M) (fun z => ∃ r, z = .inl r ∧ r.1 = nd s.p c k f i ∧ CI r.2 s ∧ Th M r.2) := by
  intro m
  have h8 := hs.1.1.1
  have h24 := hs.1.2
  have hsm := hs.1.1.2.2.2.2.2.1
  have hs0 := sm_nn (n := s.p.nb) (f := s.p.mn) (fun b hb => (hs.1.1.2.2.2.2.1 b hb).2)
  induction m with
  | zero => intros; omega
  | succ m ih =>
    intro f i M h1 h2 hC hP
    unfold fX8_needs_l98
    simp only [Nat.reduceAdd]
    cases f with
    | zero => exact ok_if (by omega) (ok_some ⟨_, rfl, rfl, hC, Th.refl M⟩)
    | succ f =>
      have hm := mul_bd (a := (i : Int)) (b := k) (A := 30) (B := 10000) (by omega) (by omega) (by omega) (by omega)
      have e : nd s.p c k (f + 1) i = if 4611686 < sm s.p.nb s.p.mn + (i : Int) * k then -5 else if bt (els (wN s.p c ((i : Int) * k))) c then (i : Int) else nd s.p c k f (i + 1) := rfl
      refine ok_el (by omega) (ok_chk (by omega) (ok_chk (by omega) (ok_ite (fun h5 => ok_some ⟨_, rfl, by rw [e, if_pos h5], hC, Th.refl M⟩) (fun h5 => ok_chk (by omega) (ok_chk (by omega) (ok_nm0 ?_))))))
      rw [if_neg h5] at e
      have hW := WF.wN hs.1 hc (v := (i : Int) * k) hm.1 (by omega)
      rw [tn]
      have hP2 : PCc (wr M 12006 s.p.nb ((i : Int) * k)) 12000 (wN s.p c ((i : Int) * k)) := by
        obtain ⟨v, a1, a2, a3, a4, a5⟩ := hP
        refine ⟨by rw [wrn (by omega)]; exact a1, by rw [wrn (by omega)]; exact a2, fun x hx => by rw [wrn (by omega), wrn (by omega)]; exact a3 x hx, fun x hx => ⟨by rw [wrn (by omega)]; exact (a4 x hx).1, ?_⟩, by rw [wrn (by omega)]; exact a5⟩
        show wr M 12006 s.p.nb ((i : Int) * k) 12006 x = up s.p.mn s.p.nb ((i : Int) * k) x
        rw [wre]
        by_cases ex : x = s.p.nb
        · subst ex; rw [up_same, up_same]
        · rw [up_ne ex, up_ne ex]
          have h3 : M 12006 x = up s.p.mn s.p.nb v x := (a4 x hx).2
          rw [h3, up_ne ex]
      have t1 : Th M (wr M 12006 s.p.nb ((i : Int) * k)) := (Th.refl M).wr (by omega)
      refine ok_by (thought_ok hW hP2) (fun z hz => ?_)
      obtain ⟨z1, z2, z3⟩ := hz
      have t2 : Th M z.2 := t1.trans (fun x hx => z3 x (by omega))
      have hb := els_bd hW
      rw [z1, bt_shr hb.1 (by omega) (by omega)]
      cases hbt : bt (els (wN s.p c ((i : Int) * k))) c
      · rw [if_neg (by rw [hbt]; decide)] at e
        refine ok_if (by decide) (ok_chk (by omega) ((ih f (i + 1) z.2 (by omega) (by omega) (hC.th hs t2) ⟨_, z2⟩).mono (fun y hy => ?_)))
        obtain ⟨r, e1, e2, e3, e4⟩ := hy
        exact ⟨r, e1, by rw [e]; exact e2, e3, t2.trans e4⟩
      · rw [if_pos hbt] at e
        exact ok_el (by decide) (ok_some ⟨_, rfl, by rw [e], hC.th hs t2, t2⟩)
theorem nd_pos {p : PL} {c : Nat} {k : Int} : ∀ {f i : Nat}, nd p c k f i = -5 ∨ 0 ≤ nd p c k f i
  | 0, _ => Or.inl rfl
  | f + 1, i => by
    unfold nd
    split
    · exact Or.inl rfl
    · split
      · exact Or.inr (by omega)
      · exact nd_pos
/-- the other one's cells while it looks -/
def NdI (M0 M : Mem) (nb : Nat) : Prop := (∀ j, j ≠ 18 → j ≠ 22 → j ≠ 23 → j ≠ 29 → j ≠ 30 → j ≠ 31 → j ≠ 32 → M 20000 j = M0 20000 j) ∧ (∀ x, x ≠ 20005 → x ≠ 20006 → (x < 20000 ∨ (20000 < x ∧ x < 20020) ∨ 20043 ≤ x) → M x = M0 x) ∧ ∀ b, b < nb → M 20005 b = M0 20005 b ∧ M 20006 b = M0 20006 b
theorem NdI.done {s : SS} {M0 M : Mem} (hD : DI M0 s) (h : NdI M0 M s.p.nb) : DI M s := by
  obtain ⟨n1, n2, n3⟩ := h
  refine hD.with (p' := s.p) ?_ (fun j hj => n1 j (by omega) (by omega) (by omega) (by omega) (by omega) (by omega) (by omega)) (fun x hx => n2 x (by omega) (by omega) (by omega))
  obtain ⟨a1, a2, a3, a4, a5, a6, a7⟩ := hD.1
  refine ⟨by rw [n1 0 (by omega) (by omega) (by omega) (by omega) (by omega) (by omega) (by omega)]; exact a1, by rw [n1 1 (by omega) (by omega) (by omega) (by omega) (by omega) (by omega) (by omega)]; exact a2, fun c hc => by rw [n2 _ (by omega) (by omega) (by omega), n2 _ (by omega) (by omega) (by omega)]; exact a3 c hc, fun b hb => ?_, by rw [n1 6 (by omega) (by omega) (by omega) (by omega) (by omega) (by omega) (by omega)]; exact a5, by rw [n1 7 (by omega) (by omega) (by omega) (by omega) (by omega) (by omega) (by omega)]; exact a6, by rw [n1 8 (by omega) (by omega) (by omega) (by omega) (by omega) (by omega) (by omega)]; exact a7⟩
  have h3 := n3 b hb
  show M 20005 b = _ ∧ M 20006 b = _
  rw [h3.1, h3.2]
  exact a4 b hb
theorem needsM_l {s : SS} (hs : GS s) {c : Nat} (hc : c < s.p.n) {k : Int} (hk : 1 ≤ k ∧ k ≤ 10000) {M0 : Mem} (hD : DI M0 s) : ∀ (m f i : Nat) (M : Mem), i + f = 31 → f + 1 < m → NdI M0 M s.p.nb → M 20005 s.p.nb = (c : Int) + 1 → Ok (fX9_needs_l55 20000 c k m (-5) i M) (fun z => ∃ r, z = .inl r ∧ r.1 = nd s.p c k f i ∧ NdI M0 r.2 s.p.nb) := by
  intro m
  have h8 := hs.1.1.1
  have h24 := hs.1.2
  have hsm := hs.1.1.2.2.2.2.2.1
  have hs0 := sm_nn (n := s.p.nb) (f := s.p.mn) (fun b hb => (hs.1.1.2.2.2.2.1 b hb).2)
  induction m with
  | zero => intros; omega
  | succ m ih =>
    intro f i M h1 h2 hN h5c
    obtain ⟨m, rfl⟩ : ∃ m', m = m' + 1 := ⟨m - 1, by omega⟩
    unfold fX9_needs_l55
    cases f with
    | zero => exact ok_if (by omega) (ok_some ⟨_, rfl, rfl, hN⟩)
    | succ f =>
      obtain ⟨n1, n2, n3⟩ := hN
      have hm := mul_bd (a := (i : Int)) (b := k) (A := 30) (B := 10000) (by omega) (by omega) (by omega) (by omega)
      have e : nd s.p c k (f + 1) i = if 4611686 < sm s.p.nb s.p.mn + (i : Int) * k then -5 else if bt (els (wN s.p c ((i : Int) * k))) c then (i : Int) else nd s.p c k f (i + 1) := rfl
      have hnb : M 20000 1 = s.p.nb := by rw [n1 1 (by omega) (by omega) (by omega) (by omega) (by omega) (by omega) (by omega)]; exact hD.1.2.1
      simp only [hnb, tn]
      refine ok_el (by omega) (ok_if (by first | rfl | trivial) (ok_chk (by omega) (ok_chk (by omega) (ok_nm0 ?_))))
      have hnb2 : ∀ v, wr M (20000 + 6) s.p.nb v 20000 1 = s.p.nb := fun v => by rw [wrn (by omega)]; exact hnb
      simp only [hnb2]
      have hfo : ∀ b, b < s.p.nb + 1 → wr M (20000 + 6) s.p.nb ((i : Int) * k) (20000 + 6) b = up s.p.mn s.p.nb ((i : Int) * k) b ∧ 0 ≤ up s.p.mn s.p.nb ((i : Int) * k) b ∧ up s.p.mn s.p.nb ((i : Int) * k) b ≤ 2147483647 := fun b hb => by
        rw [wre]
        by_cases ex : b = s.p.nb
        · subst ex; rw [up_same, up_same]; exact ⟨rfl, hm.1, by omega⟩
        · rw [up_ne ex, up_ne ex]
          have hb2 : b < s.p.nb := by omega
          have h6 := (n3 b hb2).2
          have h7 : M0 20006 b = s.p.mn b := (hD.1.2.2.2.1 b hb2).2
          have h9 := hs.1.1.2.2.2.2.1 b hb2
          have hle := sm_le (n := s.p.nb) (f := s.p.mn) (fun c hc => (hs.1.1.2.2.2.2.1 c hc).2) b hb2
          exact ⟨by rw [← h7]; exact h6, h9.2, by omega⟩
      refine ok_chk (by omega) (ok_bs (firstOver_ok (n := s.p.nb + 1) (f := up s.p.mn s.p.nb ((i : Int) * k)) (by omega) (by omega) hfo) ?_)
      have hiff := foR_iff (f := up s.p.mn s.p.nb ((i : Int) * k)) (k := s.p.nb + 1) (i := 0)
      have hlast := sm_up_last s.p.mn s.p.nb ((i : Int) * k)
      have hfov : foR (up s.p.mn s.p.nb ((i : Int) * k)) (s.p.nb + 1) 0 = -1 ↔ sm s.p.nb s.p.mn + (i : Int) * k ≤ 4611686 := by
        rw [hiff]
        constructor
        · intro h; have := h s.p.nb (by omega) (by omega); omega
        · intro h b _ hb
          by_cases ex : b = s.p.nb
          · subst ex; omega
          · rw [sm_congr (n := b + 1) (g := s.p.mn) (fun x hx => up_ne (by omega))]
            have := sm_nb hs.1.1 (b := b + 1) (by omega)
            omega
      have nI : ∀ N : Mem, (∀ j, j ≠ 1 → j ≠ 18 → j ≠ 22 → j ≠ 23 → j ≠ 29 → j ≠ 30 → j ≠ 31 → j ≠ 32 → N 20000 j = M 20000 j) → N 20000 1 = s.p.nb → (∀ x, x ≠ 20006 → (x < 20000 ∨ (20000 < x ∧ x < 20020) ∨ 20043 ≤ x) → N x = M x) → N 20006 = up (M 20006) s.p.nb ((i : Int) * k) → NdI M0 N s.p.nb ∧ N 20005 s.p.nb = (c : Int) + 1 := by
        intro N hj h1' hx h6
        refine ⟨⟨fun j j1 j2 j3 j4 j5 j6 j7 => ?_, fun x x1 x2 x3 => by rw [hx x x2 x3]; exact n2 x x1 x2 x3, fun b hb => ⟨by rw [hx 20005 (by omega) (by omega)]; exact (n3 b hb).1, by rw [h6, up_ne (by omega)]; exact (n3 b hb).2⟩⟩, by rw [hx 20005 (by omega) (by omega)]; exact h5c⟩
        by_cases e1 : j = 1
        · subst e1; rw [h1', ← hnb]; exact n1 1 j1 j2 j3 j4 j5 j6 j7
        · rw [hj j e1 j1 j2 j3 j4 j5 j6 j7]; exact n1 j j1 j2 j3 j4 j5 j6 j7
      by_cases hov : sm s.p.nb s.p.mn + (i : Int) * k ≤ 4611686
      · rw [if_neg (by omega)] at e
        have hW := WF.wN hs.1 hc (v := (i : Int) * k) hm.1 hov
        refine ok_if (hfov.mpr hov) ?_
        dsimp only
        simp only [hnb2]
        refine ok_chk (by omega) (ok_nm0 ?_)
        have hP : PMm (wr (wr M (20000 + 6) s.p.nb ((i : Int) * k)) 20000 1 ((s.p.nb : Int) + 1)) 20000 (wN s.p c ((i : Int) * k)) := by
          obtain ⟨a1, a2, a3, a4, a5, a6, a7⟩ := hD.1
          have wa : ∀ j, j ≠ 1 → wr (wr M (20000 + 6) s.p.nb ((i : Int) * k)) 20000 1 ((s.p.nb : Int) + 1) 20000 j = M 20000 j := fun j hj => by rw [wrk _ hj, wrn (by omega)]
          have wx : ∀ x, x ≠ 20000 → x ≠ 20006 → wr (wr M (20000 + 6) s.p.nb ((i : Int) * k)) 20000 1 ((s.p.nb : Int) + 1) x = M x := fun x h1 h2 => by rw [wrn h1, wrn h2]
          refine ⟨?_, ?_, fun x hx => ?_, fun b hb => ⟨?_, ?_⟩, ?_, ?_, ?_⟩
          · rw [wa 0 (by omega), n1 0 (by omega) (by omega) (by omega) (by omega) (by omega) (by omega) (by omega)]; exact a1
          · rw [wra]; rfl
          · rw [wx _ (by omega) (by omega), wx _ (by omega) (by omega), n2 _ (by omega) (by omega) (by omega), n2 _ (by omega) (by omega) (by omega)]; exact a3 x hx
          · rw [wx _ (by omega) (by omega)]
            show M 20005 b = num (upL s.p.L s.p.nb [(c : Int) + 1] b)
            by_cases ex : b = s.p.nb
            · subst ex; rw [upL_same, h5c]; simp [num]
            · have hb' : b < s.p.nb + 1 := hb
              rw [upL_ne ex, (n3 b (by omega)).1]; exact (a4 b (by omega)).1
          · rw [wrn (by omega)]
            exact (hfo b hb).1
          · rw [wa 6 (by omega), n1 6 (by omega) (by omega) (by omega) (by omega) (by omega) (by omega) (by omega)]; exact a5
          · rw [wa 7 (by omega), n1 7 (by omega) (by omega) (by omega) (by omega) (by omega) (by omega) (by omega)]; exact a6
          · rw [wa 8 (by omega), n1 8 (by omega) (by omega) (by omega) (by omega) (by omega) (by omega) (by omega)]; exact a7
        refine ok_by (elSet_ok hW hP) (fun q hq => ?_)
        obtain ⟨q1, q2, q3⟩ := hq
        have hb := els_bd hW
        rw [q1]
        refine ok_bs (has_ok hb.1 (by omega) (by omega)) ?_
        have hq1 : q.2 20000 1 = (s.p.nb : Int) + 1 := by rw [q3.1 1 (by omega) (by omega) (by omega) (by omega) (by omega) (by omega) (by omega), wra]
        have hfin := nI (wr q.2 20000 1 (s.p.nb : Int)) (fun j j0 j1 j2 j3 j4 j5 j6 j7 => by rw [wrk _ j0, q3.1 j j1 j2 j3 j4 j5 j6 j7, wrk _ j0, wrn (by omega)]) (by rw [wra]) (fun x x1 x2 => by rw [wrn (by omega), q3.2 x (by omega), wrn (by omega), wrn x1]) (by rw [wrn (by omega), q3.2 20006 (by omega), wrn (by omega), wre])
        cases hbt : bt (els (wN s.p c ((i : Int) * k))) c
        · rw [if_neg (by rw [hbt]; decide)] at e
          refine ok_bi (ok_if rfl (ok_some ?_))
          dsimp only
          rw [hq1, show (s.p.nb : Int) + 1 - 1 = (s.p.nb : Int) by omega]
          refine ok_chk (by omega) (ok_nm0 (ok_chk (by omega) ?_))
          rw [e]
          exact ih f (i + 1) _ (by omega) (by omega) hfin.1 hfin.2
        · rw [if_pos hbt] at e
          refine ok_bi (ok_el (show ¬ ((1 : Int) = 0) by decide) (ok_some ?_))
          dsimp only
          rw [hq1, show (s.p.nb : Int) + 1 - 1 = (s.p.nb : Int) by omega]
          refine ok_chk (by omega) (ok_nm0 (ok_chk (by omega) ?_))
          unfold fX9_needs_l55
          refine ok_ite (fun _ => ok_some ⟨_, rfl, by rw [e], hfin.1⟩) (fun _ => ok_el (by omega) (ok_some ⟨_, rfl, by rw [e], hfin.1⟩))
      · rw [if_pos (by omega)] at e
        refine ok_el (fun h => hov (hfov.mp h)) (ok_some ⟨_, rfl, by rw [e], ?_⟩)
        exact (nI _ (fun j j0 _ _ _ _ _ _ _ => by rw [wrn (by omega)]) (by rw [wrn (by omega)]; exact hnb) (fun x x1 _ => wrn x1) (by rw [wre])).1
end
