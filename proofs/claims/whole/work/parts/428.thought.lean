section
/-! what would be -/
def cp2 (a1 s1 a2 s2 n : Nat) (M0 : Mem) : Mem := fun b j => if b = a1 ∧ j < n then M0 s1 j else if b = a2 ∧ j < n then M0 s2 j else M0 b j
theorem cp2_x {a1 s1 a2 s2 n : Nat} {M0 : Mem} {x : Nat} (h1 : x ≠ a1) (h2 : x ≠ a2) : cp2 a1 s1 a2 s2 n M0 x = M0 x := by
  funext j
  unfold cp2
  rw [if_neg (fun h => h1 h.1), if_neg (fun h => h2 h.1)]
theorem cp2_0 (a1 s1 a2 s2 : Nat) (M0 : Mem) : cp2 a1 s1 a2 s2 0 M0 = M0 := by
  funext b j
  unfold cp2
  rw [if_neg (by omega), if_neg (by omega)]
theorem cp2_1 {a1 s1 a2 s2 n j : Nat} {M0 : Mem} (h : j < n) : cp2 a1 s1 a2 s2 n M0 a1 j = M0 s1 j := by
  unfold cp2
  rw [if_pos ⟨rfl, h⟩]
theorem cp2_2 {a1 s1 a2 s2 n j : Nat} {M0 : Mem} (hne : a2 ≠ a1) (h : j < n) : cp2 a1 s1 a2 s2 n M0 a2 j = M0 s2 j := by
  unfold cp2
  rw [if_neg (fun h => hne h.1), if_pos ⟨rfl, h⟩]
theorem cp2_s {a1 s1 a2 s2 i : Nat} {M0 : Mem} (h1 : a1 ≠ a2) (h2 : s1 ≠ a1) (h3 : s1 ≠ a2) (h4 : s2 ≠ a1) (h5 : s2 ≠ a2) : wr (wr (cp2 a1 s1 a2 s2 i M0) a1 i (cp2 a1 s1 a2 s2 i M0 s1 i)) a2 i (wr (cp2 a1 s1 a2 s2 i M0) a1 i (cp2 a1 s1 a2 s2 i M0 s1 i) s2 i) = cp2 a1 s1 a2 s2 (i + 1) M0 := by
  funext b j
  rw [wrn (b := s2) h4, cp2_x h2 h3, cp2_x h4 h5]
  simp only [wr, cp2]
  grind
theorem copy_l58 {o q : Nat} {M0 : Mem} (hne : o + 20 ≤ q ∨ q + 20 ≤ o) (hb : ∀ c, c < 8 → M0 (q + 3) c = 0 ∨ M0 (q + 3) c = 1) : ∀ (m i : Nat) (M : Mem), i ≤ 8 → 8 < m + i → M = cp2 (o + 2) (q + 2) (o + 3) (q + 3) i M0 → Ok (fX1_copyFrom_l58 o q m i M) (fun z => z.2 = cp2 (o + 2) (q + 2) (o + 3) (q + 3) 8 M0) := by
  intro m
  induction m with
  | zero => intros; omega
  | succ m ih =>
    intro i M h1 h2 hM
    unfold fX1_copyFrom_l58
    refine ok_ite (fun hc => ok_some ?_) (fun hc => ?_)
    · have : i = 8 := by omega
      subst this; exact hM
    · have hv := hb i (by omega)
      have e : wr M (o + 2) i (M (q + 2) i) (q + 3) i = M0 (q + 3) i := by rw [wrn (by omega), hM, cp2_x (by omega) (by omega)]
      simp only [tn]
      refine ok_chk (by omega) (ok_chk (by omega) (ok_nm0 (ok_chk (by omega) (ok_chk (by omega) (ok_chk (by rw [e]; exact hv) (ok_nm0 (ok_chk (by omega) ?_)))))))
      refine ih (i + 1) _ (by omega) (by omega) ?_
      rw [hM]
      exact cp2_s (by omega) (by omega) (by omega) (by omega) (by omega)
theorem copy_l96 {o q : Nat} {M0 : Mem} (hne : o + 20 ≤ q ∨ q + 20 ≤ o) : ∀ (m i : Nat) (M : Mem), i ≤ 24 → 24 < m + i → M = cp2 (o + 5) (q + 5) (o + 6) (q + 6) i M0 → Ok (fX1_copyFrom_l96 o q m i M) (fun z => z.2 = cp2 (o + 5) (q + 5) (o + 6) (q + 6) 24 M0) := by
  intro m
  induction m with
  | zero => intros; omega
  | succ m ih =>
    intro i M h1 h2 hM
    unfold fX1_copyFrom_l96
    refine ok_ite (fun hc => ok_some ?_) (fun hc => ?_)
    · have : i = 24 := by omega
      subst this; exact hM
    · simp only [tn]
      refine ok_chk (by omega) (ok_chk (by omega) (ok_nm0 (ok_chk (by omega) (ok_chk (by omega) (ok_nm0 (ok_chk (by omega) ?_))))))
      refine ih (i + 1) _ (by omega) (by omega) ?_
      rw [hM]
      exact cp2_s (by omega) (by omega) (by omega) (by omega) (by omega)
theorem copy_l134 {o q : Nat} {M0 : Mem} (hne : o + 20 ≤ q ∨ q + 20 ≤ o) (hb : ∀ c, c < 5 → M0 (q + 12) c = 0 ∨ M0 (q + 12) c = 1) : ∀ (m i : Nat) (M : Mem), i ≤ 5 → 5 < m + i → M = cp2 (o + 11) (q + 11) (o + 12) (q + 12) i M0 → Ok (fX1_copyFrom_l134 o q m i M) (fun z => z.2 = cp2 (o + 11) (q + 11) (o + 12) (q + 12) 5 M0) := by
  intro m
  induction m with
  | zero => intros; omega
  | succ m ih =>
    intro i M h1 h2 hM
    unfold fX1_copyFrom_l134
    refine ok_ite (fun hc => ok_some ?_) (fun hc => ?_)
    · have : i = 5 := by omega
      subst this; exact hM
    · have hv := hb i (by omega)
      have e : wr M (o + 11) i (M (q + 11) i) (q + 12) i = M0 (q + 12) i := by rw [wrn (by omega), hM, cp2_x (by omega) (by omega)]
      simp only [tn]
      refine ok_chk (by omega) (ok_chk (by omega) (ok_nm0 (ok_chk (by omega) (ok_chk (by omega) (ok_chk (by rw [e]; exact hv) (ok_nm0 (ok_chk (by omega) ?_)))))))
      refine ih (i + 1) _ (by omega) (by omega) ?_
      rw [hM]
      exact cp2_s (by omega) (by omega) (by omega) (by omega) (by omega)
theorem copy_l171 {o q : Nat} {M0 : Mem} (hne : o + 20 ≤ q ∨ q + 20 ≤ o) : ∀ (m i : Nat) (M : Mem), i ≤ 8 → 8 < m + i → M = cp2 (o + 14) (q + 14) (o + 15) (q + 15) i M0 → Ok (fX1_copyFrom_l171 o q m i M) (fun z => z.2 = cp2 (o + 14) (q + 14) (o + 15) (q + 15) 8 M0) := by
  intro m
  induction m with
  | zero => intros; omega
  | succ m ih =>
    intro i M h1 h2 hM
    unfold fX1_copyFrom_l171
    refine ok_ite (fun hc => ok_some ?_) (fun hc => ?_)
    · have : i = 8 := by omega
      subst this; exact hM
    · simp only [tn]
      refine ok_chk (by omega) (ok_chk (by omega) (ok_nm0 (ok_chk (by omega) (ok_chk (by omega) (ok_nm0 (ok_chk (by omega) ?_))))))
      refine ih (i + 1) _ (by omega) (by omega) ?_
      rw [hM]
      exact cp2_s (by omega) (by omega) (by omega) (by omega) (by omega)
theorem copy_ok {o q : Nat} {M : Mem} {p : PL} {e : SE} (hne : o + 20 ≤ q ∨ q + 20 ≤ o) (hp : p.n ≤ 8) (hb : p.nb ≤ 24) (hs : e.ns ≤ 5) (he : e.ne ≤ 8) (h : PF M q p e) : Ok (fX1_copyFrom o q M) (fun z => PF z.2 o p e ∧ ∀ x, (x < o ∨ o + 16 ≤ x) → z.2 x = M x) := by
  obtain ⟨⟨a1, a2, a3, a4, a5, a6, a7⟩, ⟨b1, b2, b3, b4⟩, c1, c2⟩ := h
  unfold fX1_copyFrom
  (repeat (first | with_reducible refine ok_nm0 ?_ | (with_reducible refine ok_chk ?_ ?_; · omega) | (with_reducible refine ok_if ?_ ?_; · omega) | (with_reducible refine ok_el ?_ ?_; · omega) | with_reducible refine ok_some ?_ | with_reducible refine ok_bi ?_ | with_reducible refine ok_bsm ?_)); try dsimp only
  have nq : ∀ x, x ≠ o → ∀ v0 v1 v2 v3 v4 v5 v6, wr (wr (wr (wr (wr (wr (wr M o 0 v0) o 3 v1) o 6 v2) o 7 v3) o 8 v4) o 9 v5) o 12 v6 x = M x := fun x hx v0 v1 v2 v3 v4 v5 v6 => by rw [wrn hx, wrn hx, wrn hx, wrn hx, wrn hx, wrn hx, wrn hx]
  have w1 : ∀ j v, wr M o j v q = M q := fun j v => wrn (by omega)
  have w2 : ∀ j v j' v', wr (wr M o j v) o j' v' q = M q := fun j v j' v' => by rw [wrn (by omega), w1]
  have w3 : ∀ j v j' v' j2 v2, wr (wr (wr M o j v) o j' v') o j2 v2 q = M q := fun j v j' v' j2 v2 => by rw [wrn (by omega), w2]
  have w4 : ∀ j v j' v' j2 v2 j3 v3, wr (wr (wr (wr M o j v) o j' v') o j2 v2) o j3 v3 q = M q := fun j v j' v' j2 v2 j3 v3 => by rw [wrn (by omega), w3]
  have w5 : ∀ j v j' v' j2 v2 j3 v3 j4 v4, wr (wr (wr (wr (wr M o j v) o j' v') o j2 v2) o j3 v3) o j4 v4 q = M q := fun j v j' v' j2 v2 j3 v3 j4 v4 => by rw [wrn (by omega), w4]
  have w6 : ∀ j v j' v' j2 v2 j3 v3 j4 v4 j5 v5, wr (wr (wr (wr (wr (wr M o j v) o j' v') o j2 v2) o j3 v3) o j4 v4) o j5 v5 q = M q := fun j v j' v' j2 v2 j3 v3 j4 v4 j5 v5 => by rw [wrn (by omega), w5]
  rw [w1, w2, w3, w4, w5, w6]
  generalize eN : wr (wr (wr (wr (wr (wr (wr M o 0 (M q 0)) o 3 (M q 3)) o 6 (M q 6)) o 7 (M q 7)) o 8 (M q 8)) o 9 (M q 9)) o 12 (M q 12) = N
  have nx : ∀ x, x ≠ o → N x = M x := fun x hx => by rw [← eN]; exact nq x hx _ _ _ _ _ _ _
  have n0 : N o 0 = M q 0 ∧ N o 3 = M q 3 ∧ N o 6 = M q 6 ∧ N o 7 = M q 7 ∧ N o 8 = M q 8 ∧ N o 9 = M q 9 ∧ N o 12 = M q 12 := by
    rw [← eN]
    simp [wr]
  refine ok_by (copy_l58 (M0 := N) hne (fun c hc => by rw [nx _ (by omega)]; exact c1 c hc) 1000 0 N (by omega) (by omega) (cp2_0 _ _ _ _ _).symm) (fun z1 e1 => ?_)
  have x1 : ∀ x, x ≠ o + 2 → x ≠ o + 3 → z1.2 x = N x := fun x h1 h2 => by rw [e1]; exact cp2_x h1 h2
  refine ok_by (copy_l96 (M0 := z1.2) hne 1000 0 z1.2 (by omega) (by omega) (cp2_0 _ _ _ _ _).symm) (fun z2 e2 => ?_)
  have x2 : ∀ x, x ≠ o + 5 → x ≠ o + 6 → z2.2 x = z1.2 x := fun x h1 h2 => by rw [e2]; exact cp2_x h1 h2
  refine ok_by (copy_l134 (M0 := z2.2) hne (fun c hc => by rw [x2 _ (by omega) (by omega), x1 _ (by omega) (by omega), nx _ (by omega)]; exact c2 c hc) 1000 0 z2.2 (by omega) (by omega) (cp2_0 _ _ _ _ _).symm) (fun z3 e3 => ?_)
  have x3 : ∀ x, x ≠ o + 11 → x ≠ o + 12 → z3.2 x = z2.2 x := fun x h1 h2 => by rw [e3]; exact cp2_x h1 h2
  refine ok_by (copy_l171 (M0 := z3.2) hne 1000 0 z3.2 (by omega) (by omega) (cp2_0 _ _ _ _ _).symm) (fun z4 e4 => ok_some ?_)
  have x4 : ∀ x, x ≠ o + 14 → x ≠ o + 15 → z4.2 x = z3.2 x := fun x h1 h2 => by rw [e4]; exact cp2_x h1 h2
  have xo : z4.2 o = N o := by rw [x4 _ (by omega) (by omega), x3 _ (by omega) (by omega), x2 _ (by omega) (by omega), x1 _ (by omega) (by omega)]
  have g2 : ∀ c, c < 8 → z4.2 (o + 2) c = M (q + 2) c ∧ z4.2 (o + 3) c = M (q + 3) c := fun c hc => by
    rw [x4 _ (by omega) (by omega), x3 _ (by omega) (by omega), x2 _ (by omega) (by omega), x4 (o + 3) (by omega) (by omega), x3 (o + 3) (by omega) (by omega), x2 (o + 3) (by omega) (by omega), e1, cp2_1 hc, cp2_2 (by omega) hc, nx _ (by omega), nx _ (by omega)]
    exact ⟨rfl, rfl⟩
  have g5 : ∀ c, c < 24 → z4.2 (o + 5) c = M (q + 5) c ∧ z4.2 (o + 6) c = M (q + 6) c := fun c hc => by
    rw [x4 _ (by omega) (by omega), x3 _ (by omega) (by omega), x4 (o + 6) (by omega) (by omega), x3 (o + 6) (by omega) (by omega), e2, cp2_1 hc, cp2_2 (by omega) hc, x1 _ (by omega) (by omega), x1 _ (by omega) (by omega), nx _ (by omega), nx _ (by omega)]
    exact ⟨rfl, rfl⟩
  have g11 : ∀ c, c < 5 → z4.2 (o + 11) c = M (q + 11) c ∧ z4.2 (o + 12) c = M (q + 12) c := fun c hc => by
    rw [x4 _ (by omega) (by omega), x4 (o + 12) (by omega) (by omega), e3, cp2_1 hc, cp2_2 (by omega) hc, x2 _ (by omega) (by omega), x2 _ (by omega) (by omega), x1 _ (by omega) (by omega), x1 _ (by omega) (by omega), nx _ (by omega), nx _ (by omega)]
    exact ⟨rfl, rfl⟩
  have g14 : ∀ c, c < 8 → z4.2 (o + 14) c = M (q + 14) c ∧ z4.2 (o + 15) c = M (q + 15) c := fun c hc => by
    rw [e4, cp2_1 hc, cp2_2 (by omega) hc, x3 _ (by omega) (by omega), x3 _ (by omega) (by omega), x2 _ (by omega) (by omega), x2 _ (by omega) (by omega), x1 _ (by omega) (by omega), x1 _ (by omega) (by omega), nx _ (by omega), nx _ (by omega)]
    exact ⟨rfl, rfl⟩
  obtain ⟨n1, n2, n3, n4, n5, n6, n7⟩ := n0
  dsimp only
  refine ⟨⟨⟨?_, ?_, fun c hc => ?_, fun b hb2 => ?_, ?_, ?_, ?_⟩, ⟨?_, ?_, fun k hk => ?_, fun k hk => ?_⟩, fun c hc => ?_, fun k hk => ?_⟩, fun x hx => ?_⟩
  · rw [xo, n1]; exact a1
  · rw [xo, n2]; exact a2
  · rw [(g2 c (by omega)).1, (g2 c (by omega)).2]; exact a3 c hc
  · rw [(g5 b (by omega)).1, (g5 b (by omega)).2]; exact a4 b hb2
  · rw [xo, n3]; exact a5
  · rw [xo, n4]; exact a6
  · rw [xo, n5]; exact a7
  · rw [xo, n6]; exact b1
  · rw [xo, n7]; exact b2
  · rw [(g11 k (by omega)).1, (g11 k (by omega)).2]; exact b3 k hk
  · rw [(g14 k (by omega)).1, (g14 k (by omega)).2]; exact b4 k hk
  · rw [(g2 c hc).2]; exact c1 c hc
  · rw [(g11 k hk).2]; exact c2 k hk
  · rw [x4 x (by omega) (by omega), x3 x (by omega) (by omega), x2 x (by omega) (by omega), x1 x (by omega) (by omega), nx x (by omega)]
/-- the thought's cells -/
def Th (M M' : Mem) : Prop := ∀ x, (x < 2000 ∨ (3000 ≤ x ∧ x < 12000) ∨ 12016 ≤ x) → M' x = M x
theorem Th.refl (M : Mem) : Th M M := fun _ _ => rfl
theorem Th.trans {M M' M'' : Mem} (h : Th M M') (h2 : Th M' M'') : Th M M'' := fun x hx => (h2 x hx).trans (h x hx)
theorem Th.wr {M M' : Mem} {b j : Nat} {v : Int} (h : Th M M') (hb : 12000 ≤ b ∧ b < 12016) : Th M (wr M' b j v) := fun x hx => by rw [wrn (by omega)]; exact h x hx
theorem CI.th {M M' : Mem} {s : SS} (hs : GS s) (h : CI M s) (ht : Th M M') : CI M' s := ⟨h.1.same (by rw [ht 10 (by omega)]) (fun x hx => ht x (by omega)), h.2.same hs.1.1 (by rw [ht 10 (by omega)]) (fun x hx => ht x (by omega))⟩
theorem PC.th {M M' : Mem} {s : SS} {ans : Int} (hs : GS s) (h : CI M s) (ht : Th M M') : PC M s ans (ans, M') := ⟨rfl, h.th hs ht, fun x hx => ht x (by omega)⟩
theorem thought_ok {M : Mem} {p : PL} (h : WF p) (hc : PCc M 12000 p) : Ok (fX8_electedInThought 10 M) (fun q => q.1 = els p ∧ PCc q.2 12000 p ∧ ∀ x, (x < 2000 ∨ 3000 ≤ x) → q.2 x = M x) := by
  unfold fX8_electedInThought
  simp only [Nat.reduceAdd]
  refine ok_by (work_ok (t := 2000) h hc) (fun q hq => ?_)
  obtain ⟨q1, q2⟩ := hq
  refine ok_bs (whoIs_els h q1) (ok_some ⟨rfl, q1.2.2.2.2.2.2.2.2, fun x hx => q2 x (by omega)⟩)
theorem copyT {s : SS} (hs : GS s) {M : Mem} (hC : CI M s) : Ok (fX1_copyFrom 12000 11000 M) (fun z => PF z.2 12000 s.p s.e ∧ Th M z.2) := (copy_ok (o := 12000) (q := 11000) (by omega) hs.1.1.1 hs.1.2 hs.2.1.1 hs.2.1.2.2.1 hC.1.1).mono (fun z hz => ⟨hz.1, fun x hx => hz.2 x (by omega)⟩)
/-- the other one's state, but what is told -/
theorem DI.with {M M' : Mem} {s : SS} {p' : PL} (h : DI M s) (hp : PMm M' 20000 p') (h0 : ∀ j, j = 9 ∨ j = 10 ∨ j = 15 ∨ j = 46 ∨ j = 55 → M' 20000 j = M 20000 j) (hx : ∀ x, (20012 ≤ x ∧ x < 20019) ∨ x = 20046 ∨ (20057 ≤ x ∧ x < 20069) ∨ 20104 ≤ x → M' x = M x) : DI M' (p', s.2) := by
  obtain ⟨a1, a2, a3, a4, a5, a6⟩ := h
  refine ⟨hp, ?_, ?_, ?_, ?_, fun t ht => ?_⟩
  · show SEm M' 20000 s.e
    unfold SEm at *
    rw [h0 9 (by omega), h0 10 (by omega), hx (20000 + 12) (by omega), hx (20000 + 13) (by omega), hx (20000 + 14) (by omega), hx (20000 + 15) (by omega)]
    exact a2
  · show IMm M' 20000 s.i
    cases e : s.i with
    | none => rw [e] at a3; exact (h0 55 (by omega)).trans a3
    | some q =>
      rw [e] at a3
      unfold IMm at *
      rw [h0 55 (by omega), hx (20000 + 57) (by omega), hx (20000 + 58) (by omega), hx (20000 + 59) (by omega), hx (20000 + 60) (by omega), hx (20000 + 61) (by omega), hx (20000 + 62) (by omega), hx (20000 + 63) (by omega), hx (20000 + 64) (by omega), hx (20000 + 65) (by omega)]
      exact a3
  · show TXm M' 20000 s.x
    unfold TXm at *
    rw [h0 46 (by omega), hx (20000 + 46) (by omega)]; exact a4
  · show TRm M' 20000 s.t
    unfold TRm at *
    rw [h0 15 (by omega), hx (20000 + 17) (by omega), hx (20000 + 18) (by omega)]; exact a5
  · rw [hx (20000 + 66) (by omega), hx (20000 + 67) (by omega), hx (20000 + 68 + 36 + 16 * t) (by omega)]; exact a6 t ht
/-- what is told, GONE otherwise -/
abbrev wg (p : PL) (g : Vec) : PL := (p.1, p.2.1, g, p.2.2.2)
theorem WF.wg {p : PL} (h : WF p) {g : Vec} (hg : ∀ c, c < p.n → g c = 0 ∨ g c = 1) : WF (wg p g) := ⟨h.1, h.2.1, hg, h.2.2.2.1, h.2.2.2.2.1, h.2.2.2.2.2⟩
theorem op_without {s : SS} (hs : GS s) (c : Int) : Op s (fX8_without 10 c) (fX9_without 20000 c) := by
  have h8 := hs.1.1.1
  unfold fX8_without fX9_without
  simp only [Nat.reduceAdd]
  have c1 := fun (N : Mem) (hN : CI N s) => hasCand_ok (c := c) (M := N) (o := 11000) (n := s.p.n) hN.1.1.1.1
  have c2 := fun (N : Mem) (hD : DI N s) => isOne_ok (c := c) (M := N) (a := 20000) (n := s.p.n) h8 hD.1.1
  by_cases hc : 0 ≤ c ∧ c < s.p.n
  · obtain ⟨d, rfl⟩ := Int.eq_ofNat_of_zero_le hc.1
    have hd : d < s.p.n := by omega
    rw [if_pos hc] at *
    simp only [tn]
    have hW : WF (wg s.p (up s.p.g d 1)) := hs.1.1.wg (fun x hx => by
      by_cases e : x = d
      · subst e; rw [up_same]; exact Or.inr rfl
      · rw [up_ne e]; exact hs.1.1.2.2.1 x hx)
    refine ⟨els (wg s.p (up s.p.g d 1)), s, hs, fun M hC => ok_bs (c1 M hC) (ok_el (show ¬ ((1 : Int) = 0) by decide) (ok_by (copyT hs hC) (fun z hz => ok_chk (by omega) (ok_nm0 ?_)))), fun M hD => ok_bs (c2 M hD) (ok_el (show ¬ ((1 : Int) = 0) by decide) (ok_chk (by omega) (ok_nm0 (ok_chk (by omega) (ok_nm0 ?_)))))⟩
    · obtain ⟨z1, z2⟩ := hz
      have hP : PCc (wr z.2 12003 d 1) 12000 (wg s.p (up s.p.g d 1)) := by
        obtain ⟨b1, b2, b3, b4, b5⟩ := z1.1
        refine ⟨by rw [wrn (by omega)]; exact b1, by rw [wrn (by omega)]; exact b2, fun x hx => ⟨?_, ?_⟩, fun b hb => by rw [wrn (by omega), wrn (by omega)]; exact b4 b hb, by rw [wrn (by omega)]; exact b5⟩
        · show wr z.2 12003 d 1 12003 x = up s.p.g d 1 x
          rw [wre]
          by_cases e : x = d
          · subst e; rw [up_same, up_same]
          · rw [up_ne e, up_ne e]; exact (b3 x hx).1
        · rw [wrn (by omega)]; exact (b3 x hx).2
      refine ok_by (thought_ok hW hP) (fun q hq => ok_some ?_)
      rw [hq.1]
      exact PC.th hs hC ((z2.wr (by omega)).trans (fun x hx => hq.2.2 x (by omega)))
    · have hP : PMm (wr M 20003 d 1) 20000 (wg s.p (up s.p.g d 1)) := by
        obtain ⟨b1, b2, b3, b4, b5⟩ := hD.1
        refine ⟨by rw [wrn (by omega)]; exact b1, by rw [wrn (by omega)]; exact b2, fun x hx => ⟨?_, ?_⟩, fun b hb => by rw [wrn (by omega), wrn (by omega)]; exact b4 b hb, by rw [wrn (by omega)]; exact b5⟩
        · show wr M 20003 d 1 20003 x = up s.p.g d 1 x
          rw [wre]
          by_cases e : x = d
          · subst e; rw [up_same, up_same]
          · rw [up_ne e, up_ne e]; exact (b3 x hx).1
        · rw [wrn (by omega)]; exact (b3 x hx).2
      refine ok_by (elSet_ok hW hP) (fun q hq => ok_nm0 ?_)
      obtain ⟨q1, q2, q3⟩ := hq
      have hg := (hD.1.2.2.1 d hd).1
      have hg' : M 20003 d = s.p.g d := hg
      dsimp only
      refine ok_chk (by omega) (ok_chk (by rw [hg']; exact hs.1.1.2.2.1 d hd) (ok_nm0 (ok_some ?_)))
      rw [q1]
      have e3 : wr q.2 20003 d (M 20003 d) 20003 = M 20003 := by
        rw [wre, q3.2 20003 (by omega), wre]
        funext k
        by_cases e : k = d
        · subst e; rw [up_same]
        · rw [up_ne e, up_ne e]
      have fx : ∀ x, x ≠ 20003 → (x < 20000 ∨ (20000 < x ∧ x < 20020) ∨ 20043 ≤ x) → wr q.2 20003 d (M 20003 d) x = M x := fun x hx hx2 => by rw [wrn hx, q3.2 x (by omega), wrn hx]
      refine ⟨rfl, hD.same (fun j hj => ?_) (fun x hx => ?_), fun x hx => fx x (by omega) (by omega)⟩
      · (try dsimp only); rw [wrn (by omega), q3.1 j (by omega) (by omega) (by omega) (by omega) (by omega) (by omega) (by omega), wrn (by omega)]
      · by_cases e : x = 20003
        · subst e; exact e3
        · exact fx x e (by omega)
  · rw [if_neg hc] at *
    exact ⟨-1, s, hs, fun M hC => ok_bs (c1 M hC) (ok_if rfl (ok_some (PC.self hC))), fun M hD => ok_bs (c2 M hD) (ok_if rfl (ok_some (PD.self hD)))⟩
end
