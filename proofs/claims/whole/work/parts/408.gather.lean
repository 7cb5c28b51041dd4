section
/-! what is told, as numbers: candidates, ballots, GONE, THE LOT, ROWS, MANY, SEATS, LIMIT, ROUNDS -/
abbrev PL : Type := Nat × Nat × Vec × Vec × (Nat → List Int) × Vec × Int × Int × Int
abbrev PL.n (p : PL) : Nat := p.1
abbrev PL.nb (p : PL) : Nat := p.2.1
abbrev PL.g (p : PL) : Vec := p.2.2.1
abbrev PL.lot (p : PL) : Vec := p.2.2.2.1
abbrev PL.L (p : PL) : Nat → List Int := p.2.2.2.2.1
abbrev PL.mn (p : PL) : Vec := p.2.2.2.2.2.1
abbrev PL.se (p : PL) : Int := p.2.2.2.2.2.2.1
abbrev PL.li (p : PL) : Int := p.2.2.2.2.2.2.2.1
abbrev PL.ro (p : PL) : Int := p.2.2.2.2.2.2.2.2
/-- a row of unlike candidates below n -/
def rgood (n : Nat) (l : List Int) : Prop := rl l ∧ l ≠ [] ∧ (∀ d ∈ l, d ≤ (n : Int)) ∧ l.Nodup
def Perm (n : Nat) (lot : Vec) : Prop := ∃ inv : Nat → Nat, (∀ i, i < n → ∃ c, c < n ∧ lot i = (c : Int) ∧ inv c = i) ∧ ∀ c, c < n → inv c < n ∧ lot (inv c) = (c : Int)
def WF (p : PL) : Prop := p.n ≤ 8 ∧ p.nb ≤ 25 ∧ (∀ c, c < p.n → p.g c = 0 ∨ p.g c = 1) ∧ Perm p.n p.lot ∧ (∀ b, b < p.nb → rgood p.n (p.L b) ∧ 0 ≤ p.mn b) ∧ sm p.nb p.mn ≤ 4611686 ∧ (1 ≤ p.se ∧ p.se ≤ 7) ∧ (0 ≤ p.li ∧ p.li ≤ 1000000000) ∧ (1 ≤ p.ro ∧ p.ro ≤ 20)
def PCc (M : Mem) (o : Nat) (p : PL) : Prop := M o 0 = p.n ∧ M o 3 = p.nb ∧ (∀ c, c < p.n → M (o + 3) c = p.g c ∧ M (o + 2) c = p.lot c) ∧ (∀ b, b < p.nb → M (o + 5) b = fill (p.L b) ∧ M (o + 6) b = p.mn b) ∧ M o 6 = p.se ∧ M o 7 = p.li ∧ M o 8 = p.ro
def PMm (M : Mem) (a : Nat) (p : PL) : Prop := M a 0 = p.n ∧ M a 1 = p.nb ∧ (∀ c, c < p.n → M (a + 3) c = p.g c ∧ M (a + 4) c = p.lot c) ∧ (∀ b, b < p.nb → M (a + 5) b = num (p.L b) ∧ M (a + 6) b = p.mn b) ∧ M a 6 = p.se ∧ M a 7 = p.li ∧ M a 8 = p.ro
theorem PCc.same {M M' : Mem} {o : Nat} {p : PL} (h : PCc M o p) (h0 : M' o = M o) (h2 : M' (o + 2) = M (o + 2)) (h3 : M' (o + 3) = M (o + 3)) (h5 : M' (o + 5) = M (o + 5)) (h6 : M' (o + 6) = M (o + 6)) : PCc M' o p := by
  unfold PCc at *
  rw [h0, h2, h3, h5, h6]
  exact h
theorem lft_congr {g g' : Vec} {l : List Int} (h : ∀ d ∈ l, g (d - 1).toNat = g' (d - 1).toNat) : lft g l = lft g' l := by
  unfold lft
  exact List.filter_congr (fun d hd => by rw [h d hd])
theorem rgood.ix {n : Nat} {l : List Int} (h : rgood n l) {d : Int} (hd : d ∈ l) : (d - 1).toNat < n := by
  have h1 := h.1.1 d hd
  have h2 := h.2.2.1 d hd
  omega
theorem lft_g {n : Nat} {l : List Int} {g g' : Vec} (h : rgood n l) (hg : ∀ c, c < n → g c = g' c) : lft g l = lft g' l := lft_congr (fun _ hd => hg _ (h.ix hd))
theorem lft_le {n : Nat} {l : List Int} {g : Vec} (h : rgood n l) : ∀ d ∈ lft g l, d ≤ (n : Int) := fun d hd => h.2.2.1 d (List.mem_filter.mp hd).1
def gatR (p : PL) : Nat → PIL
  | 0 => []
  | b + 1 => if lft p.g (p.L b) = [] ∨ p.mn b = 0 then gatR p b else ins (lft p.g (p.L b)) (p.mn b) (gatR p b)
def gat (p : PL) : PIL := gatR p p.nb
theorem gatR_ok {p : PL} (h : WF p) : ∀ b, b ≤ p.nb → (gatR p b).length ≤ b ∧ (∀ q ∈ gatR p b, pgood p.n q) ∧ sp (gatR p b) ≤ sm b p.mn := by
  intro b
  induction b with
  | zero => intro _; exact ⟨Nat.le_refl 0, (fun q hq => absurd hq List.not_mem_nil), Int.le_refl 0⟩
  | succ b ih =>
    intro hb
    obtain ⟨h1, h2, h3⟩ := ih (by omega)
    have h4 := h.2.2.2.2.1 b (by omega)
    unfold gatR
    have e : sm (b + 1) p.mn = sm b p.mn + p.mn b := rfl
    by_cases hc : lft p.g (p.L b) = [] ∨ p.mn b = 0
    · rw [if_pos hc]
      exact ⟨by omega, h2, by have := h4.2; omega⟩
    · rw [if_neg hc]
      have hg : pgood p.n (lft p.g (p.L b), p.mn b) := ⟨lft_rl h4.1.1 _, fun e => hc (Or.inl e), lft_le h4.1, by have := h4.2; have : p.mn b ≠ 0 := fun e => hc (Or.inr e); dsimp only; omega⟩
      exact ⟨Nat.le_trans (len_ins _ _ _) (by omega), pgood_ins hg h2, by rw [sp_ins]; omega⟩
theorem sm_part {p : PL} (h : WF p) {b : Nat} (hb : b < p.nb) : sm b p.mn + p.mn b ≤ 4611686 := by
  have h1 := sm_mono (n := b + 1) (m := p.nb) (f := p.mn) (fun c hc => (h.2.2.2.2.1 c hc).2) (by omega)
  have := h.2.2.2.2.2.1
  have e : sm (b + 1) p.mn = sm b p.mn + p.mn b := rfl
  omega
theorem gather_l {p : PL} (h : WF p) {a o : Nat} (ha : a + 3 < o) : ∀ (n b : Nat) (M : Mem), b ≤ p.nb → p.nb < n + b → PCc M o p → PAc M a (gatR p b) → Ok (fX0_gather_l7 a o n b M) (fun q => PAc q.2 a (gat p) ∧ ∀ x, x ≠ a → x ≠ a + 2 → x ≠ a + 3 → q.2 x = M x) := by
  intro n
  induction n with
  | zero => intros; omega
  | succ n ih =>
    intro b M h1 h2 hp ha2
    have h25 := h.2.1
    unfold fX0_gather_l7
    rw [hp.2.1]
    refine ok_ite (fun hc => ok_some ?_) (fun hc => ?_)
    · have : b = p.nb := by omega
      subst this
      exact ⟨ha2, fun _ _ _ _ => rfl⟩
    · have hb : b < p.nb := by omega
      have hr := h.2.2.2.2.1 b hb
      obtain ⟨g1, g2, g3⟩ := gatR_ok h b h1
      have hsp := sm_part h hb
      have hv := hp.2.2.2.1 b hb
      have hlf : lft (M (o + 3)) (p.L b) = lft p.g (p.L b) := lft_g hr.1 (fun c hc => (hp.2.2.1 c hc).1)
      (first | with_reducible refine ok_nm0 ?_ | (with_reducible refine ok_chk ?_ ?_; · omega) | (with_reducible refine ok_if ?_ ?_; · omega) | (with_reducible refine ok_el ?_ ?_; · omega) | with_reducible refine ok_some ?_ | with_reducible refine ok_bi ?_ | with_reducible refine ok_bsm ?_)
      rw [tn, hv.1]
      refine ok_bs (leftOf_ok hr.1.1 _ M) ?_
      rw [hlf]
      (first | with_reducible refine ok_nm0 ?_ | (with_reducible refine ok_chk ?_ ?_; · omega) | (with_reducible refine ok_if ?_ ?_; · omega) | (with_reducible refine ok_el ?_ ?_; · omega) | with_reducible refine ok_some ?_ | with_reducible refine ok_bi ?_ | with_reducible refine ok_bsm ?_)
      try dsimp only
      simp only [hv.2]
      refine ok_bind ?_
      have e : gatR p (b + 1) = if lft p.g (p.L b) = [] ∨ p.mn b = 0 then gatR p b else ins (lft p.g (p.L b)) (p.mn b) (gatR p b) := rfl
      refine ok_ite (fun hq => ?_) (fun hq => ?_)
      · have hl : lft p.g (p.L b) = [] := by
          by_cases hl : lft p.g (p.L b) = []
          · exact hl
          · have := fill_pos (lft_rl hr.1.1 p.g) hl; omega
        rw [if_pos (Or.inl hl)] at e
        (repeat (first | with_reducible refine ok_nm0 ?_ | (with_reducible refine ok_chk ?_ ?_; · omega) | (with_reducible refine ok_if ?_ ?_; · omega) | (with_reducible refine ok_el ?_ ?_; · omega) | with_reducible refine ok_some ?_ | with_reducible refine ok_bi ?_ | with_reducible refine ok_bsm ?_)); try dsimp only
        exact ih (b + 1) M (by omega) (by omega) hp (e ▸ ha2)
      · have hl : lft p.g (p.L b) ≠ [] := fun e => hq (by rw [e]; rfl)
        (first | with_reducible refine ok_nm0 ?_ | (with_reducible refine ok_chk ?_ ?_; · omega) | (with_reducible refine ok_if ?_ ?_; · omega) | (with_reducible refine ok_el ?_ ?_; · omega) | with_reducible refine ok_some ?_ | with_reducible refine ok_bi ?_ | with_reducible refine ok_bsm ?_)
        refine ok_ite (fun hq2 => ?_) (fun hq2 => ?_)
        · rw [if_pos (Or.inr hq2)] at e
          (repeat (first | with_reducible refine ok_nm0 ?_ | (with_reducible refine ok_chk ?_ ?_; · omega) | (with_reducible refine ok_if ?_ ?_; · omega) | (with_reducible refine ok_el ?_ ?_; · omega) | with_reducible refine ok_some ?_ | with_reducible refine ok_bi ?_ | with_reducible refine ok_bsm ?_)); try dsimp only
          exact ih (b + 1) M (by omega) (by omega) hp (e ▸ ha2)
        · rw [if_neg (fun hx => hx.elim hl hq2)] at e
          (first | with_reducible refine ok_nm0 ?_ | (with_reducible refine ok_chk ?_ ?_; · omega) | (with_reducible refine ok_if ?_ ?_; · omega) | (with_reducible refine ok_el ?_ ?_; · omega) | with_reducible refine ok_some ?_ | with_reducible refine ok_bi ?_ | with_reducible refine ok_bsm ?_)
          refine ok_by (put_ok ha2 (by omega) (fun q hq => ?_) hr.2) (fun q hq => ?_)
          · have hx := sp_le (fun q hq => (g2 q hq).2.2.2) q hq
            have := (g2 q hq).2.2.2
            omega
          · (repeat (first | with_reducible refine ok_nm0 ?_ | (with_reducible refine ok_chk ?_ ?_; · omega) | (with_reducible refine ok_if ?_ ?_; · omega) | (with_reducible refine ok_el ?_ ?_; · omega) | with_reducible refine ok_some ?_ | with_reducible refine ok_bi ?_ | with_reducible refine ok_bsm ?_)); try dsimp only
            obtain ⟨q1, q2⟩ := hq
            refine (ih (b + 1) q.2 (by omega) (by omega) (hp.same (q2 _ (by omega) (by omega) (by omega)) (q2 _ (by omega) (by omega) (by omega)) (q2 _ (by omega) (by omega) (by omega)) (q2 _ (by omega) (by omega) (by omega)) (q2 _ (by omega) (by omega) (by omega))) (e ▸ q1)).mono (fun r hr => ⟨hr.1, fun x x1 x2 x3 => ?_⟩)
            rw [hr.2 x x1 x2 x3, q2 x x1 x2 x3]
theorem gather_ok {p : PL} (h : WF p) {a o : Nat} (ha : a + 3 < o) {M : Mem} (hp : PCc M o p) : Ok (fX0_gather a o M) (fun q => PAc q.2 a (gat p) ∧ ∀ x, x ≠ a → x ≠ a + 2 → x ≠ a + 3 → q.2 x = M x) := by
  have h25 := h.2.1
  unfold fX0_gather
  (first | with_reducible refine ok_nm0 ?_ | (with_reducible refine ok_chk ?_ ?_; · omega) | (with_reducible refine ok_if ?_ ?_; · omega) | (with_reducible refine ok_el ?_ ?_; · omega) | with_reducible refine ok_some ?_ | with_reducible refine ok_bi ?_ | with_reducible refine ok_bsm ?_)
  refine ok_by (gather_l h ha 1000 0 _ (by omega) (by omega) (hp.same (wrn (by omega)) (wrn (by omega)) (wrn (by omega)) (wrn (by omega)) (wrn (by omega))) ⟨by rw [wra]; rfl, fun j q hj => by cases hj⟩) (fun q hq => ok_some ⟨hq.1, fun x x1 x2 x3 => ?_⟩)
  try dsimp only
  rw [hq.2 x x1 x2 x3, wrn x1]
/-! the other one's -/
theorem comes_l8 {a : Nat} {r m key : Int} {M : Mem} {s : Nat} (hs : M a 18 = s) (h25 : s < 25) : ∀ (n i : Nat), i ≤ s → s < n + i → (∀ j, j < i → M (a + 21) j < key) → Ok (fX9_comesTo_l8 a r m key n i M) (fun q => q.2 = M ∧ ∃ k : Nat, q.1 = k ∧ k ≤ s ∧ (∀ j, j < k → M (a + 21) j < key) ∧ (k < s → key ≤ M (a + 21) k)) := by
  intro n
  induction n with
  | zero => intros; omega
  | succ n ih =>
    intro i h1 h2 hb
    unfold fX9_comesTo_l8
    rw [hs]
    refine ok_ite (fun hc => ok_some ⟨rfl, i, rfl, h1, hb, fun h => by omega⟩) (fun hc => ?_)
    (first | with_reducible refine ok_nm0 ?_ | (with_reducible refine ok_chk ?_ ?_; · omega) | (with_reducible refine ok_if ?_ ?_; · omega) | (with_reducible refine ok_el ?_ ?_; · omega) | with_reducible refine ok_some ?_ | with_reducible refine ok_bi ?_ | with_reducible refine ok_bsm ?_)
    rw [tn]
    refine ok_ite (fun hq => ok_some ⟨rfl, i, rfl, h1, hb, fun _ => hq⟩) (fun hq => ?_)
    (first | with_reducible refine ok_nm0 ?_ | (with_reducible refine ok_chk ?_ ?_; · omega) | (with_reducible refine ok_if ?_ ?_; · omega) | (with_reducible refine ok_el ?_ ?_; · omega) | with_reducible refine ok_some ?_ | with_reducible refine ok_bi ?_ | with_reducible refine ok_bsm ?_)
    refine ih (i + 1) (by omega) (by omega) (fun j hj => ?_)
    by_cases e : j = i
    · subst e; omega
    · exact hb j (by omega)
def sM (a : Nat) : Nat → Bool := fun b => decide (b = a + 20) || decide (b = a + 21) || decide (b = a + 22)
theorem comes_l72 {a k s : Nat} {r m key : Int} {M0 : Mem} (h25 : s < 25) : ∀ (n i : Nat) (M : Mem), k ≤ i → i ≤ s → i < n + k → M = shf (sM a) i s M0 → Ok (fX9_comesTo_l72 a r m key k n i M) (fun q => q.2 = shf (sM a) k s M0) := by
  intro n
  induction n with
  | zero => intros; omega
  | succ n ih =>
    intro i M h1 h2 h3 hM
    unfold fX9_comesTo_l72
    refine ok_ite (fun hc => ok_some ?_) (fun hc => ?_)
    · have : i = k := by omega
      subst this; exact hM
    · obtain ⟨i, rfl⟩ : ∃ i', i = i' + 1 := ⟨i - 1, by omega⟩
      (repeat (first | with_reducible refine ok_nm0 ?_ | (with_reducible refine ok_chk ?_ ?_; · omega) | (with_reducible refine ok_if ?_ ?_; · omega) | (with_reducible refine ok_el ?_ ?_; · omega) | with_reducible refine ok_some ?_ | with_reducible refine ok_bi ?_ | with_reducible refine ok_bsm ?_)); try dsimp only
      rw [show ((i + 1 : Nat) : Int) + -1 = (i : Int) by omega]
      refine ih i _ (by omega) (by omega) (by omega) ?_
      rw [show ((i + 1 : Nat) : Int) - 1 = (i : Int) by omega, tn, tn, hM]
      funext b j
      simp only [wr, shf, sM]
      grind
theorem comes_ok {a : Nat} {pl : PIL} {l : List Int} {m : Int} {M : Mem} (hl : rl l) (hp : PAm M a pl) (h25 : pl.length < 25) (hb : ∀ q ∈ pl, 0 ≤ q.2 ∧ q.2 + m ≤ 2147483647) (hm : 0 ≤ m) (hbr : ∀ q ∈ pl, rl q.1) (hinj : ∀ q ∈ pl, fill q.1 = fill l → num q.1 = num l) : Ok (fX9_comesTo a (num l) m M) (fun q => PAm q.2 a (ins l m pl) ∧ (∀ k, k ≠ 18 → q.2 a k = M a k) ∧ ∀ b, b ≠ a → b ≠ a + 20 → b ≠ a + 21 → b ≠ a + 22 → q.2 b = M b) := by
  unfold fX9_comesTo
  refine ok_bs (keyOf_ok hl M) ?_
  (first | with_reducible refine ok_nm0 ?_ | (with_reducible refine ok_chk ?_ ?_; · omega) | (with_reducible refine ok_if ?_ ?_; · omega) | (with_reducible refine ok_el ?_ ?_; · omega) | with_reducible refine ok_some ?_ | with_reducible refine ok_bi ?_ | with_reducible refine ok_bsm ?_)
  try dsimp only
  refine ok_by (comes_l8 hp.1 h25 1000 0 (by omega) (by omega) (fun j hj => by omega)) (fun q hq => ?_)
  obtain ⟨e2, k, e1, hk, h1, h2⟩ := hq
  have h1' : ∀ j q, j < k → pl[j]? = some q → fill q.1 < fill l := fun j q hj hq => by have := h1 j hj; rw [(hp.2 j q hq).2.1] at this; exact this
  rw [e1, e2, hp.1]
  have new : (∀ q, pl[k]? = some q → fill l < fill q.1) → ∀ q : Mem, q = shf (sM a) k pl.length M → PAm (wr (wr (wr (wr q (a + 20) k (num l)) (a + 21) k (fill l)) (a + 22) k m) a 18 ((pl.length : Int) + 1)) a (ins l m pl) ∧ (∀ j, j ≠ 18 → (wr (wr (wr (wr q (a + 20) k (num l)) (a + 21) k (fill l)) (a + 22) k m) a 18 ((pl.length : Int) + 1)) a j = M a j) ∧ ∀ b, b ≠ a → b ≠ a + 20 → b ≠ a + 21 → b ≠ a + 22 → (wr (wr (wr (wr q (a + 20) k (num l)) (a + 21) k (fill l)) (a + 22) k m) a 18 ((pl.length : Int) + 1)) b = M b := by
    intro hgt q hq
    rw [ins_new k pl hk h1' hgt]
    refine ⟨⟨?_, fun j p hj => ?_⟩, fun j hj => ?_, fun b hb1 hb2 hb3 hb4 => ?_⟩
    · rw [wra, List.length_append, List.length_cons, List.length_take, List.length_drop]; omega
    · rw [take_get hk] at hj
      have r20 : wr (wr (wr (wr q (a + 20) k (num l)) (a + 21) k (fill l)) (a + 22) k m) a 18 ((pl.length : Int) + 1) (a + 20) = up (q (a + 20)) k (num l) := by
        rw [wrn (by omega), wrn (by omega), wrn (by omega), wre]
      have r21 : wr (wr (wr (wr q (a + 20) k (num l)) (a + 21) k (fill l)) (a + 22) k m) a 18 ((pl.length : Int) + 1) (a + 21) = up (q (a + 21)) k (fill l) := by
        rw [wrn (by omega), wrn (by omega), wre, wrn (by omega)]
      have r22 : wr (wr (wr (wr q (a + 20) k (num l)) (a + 21) k (fill l)) (a + 22) k m) a 18 ((pl.length : Int) + 1) (a + 22) = up (q (a + 22)) k m := by
        rw [wrn (by omega), wre, wrn (by omega), wrn (by omega)]
      rw [r20, r21, r22]
      by_cases c1 : j < k
      · rw [if_pos c1] at hj
        have := hp.2 j p hj
        rw [up_ne (by omega), up_ne (by omega), up_ne (by omega), hq]
        simp only [shf]
        rw [if_neg (by omega), if_neg (by omega), if_neg (by omega)]
        exact this
      · rw [if_neg c1] at hj
        by_cases c2 : j = k
        · rw [if_pos c2] at hj
          cases hj
          subst c2
          rw [up_same, up_same, up_same]
          exact ⟨rfl, rfl, rfl⟩
        · rw [if_neg c2] at hj
          have h3 := hp.2 (j - 1) p hj
          have h4 := getq_lt hj
          rw [up_ne c2, up_ne c2, up_ne c2, hq]
          simp only [shf]
          rw [if_pos ⟨by simp [sM], by omega, by omega⟩, if_pos ⟨by simp [sM], by omega, by omega⟩, if_pos ⟨by simp [sM], by omega, by omega⟩]
          exact h3
    · rw [wrk _ hj, wrn (by omega), wrn (by omega), wrn (by omega), hq, shf_ne (by simp [sM])]
    · rw [wrn hb1, wrn hb4, wrn hb3, wrn hb2, hq, shf_ne (by simp [sM, hb2, hb3, hb4])]
  refine ok_ite (fun hc => ?_) (fun hc => ?_)
  · have hkl : k = pl.length := by omega
    have hgt : ∀ q, pl[k]? = some q → fill l < fill q.1 := fun q hq => by have := getq_lt hq; omega
    (repeat (first | with_reducible refine ok_nm0 ?_ | (with_reducible refine ok_chk ?_ ?_; · omega) | (with_reducible refine ok_if ?_ ?_; · omega) | (with_reducible refine ok_el ?_ ?_; · omega) | with_reducible refine ok_some ?_ | with_reducible refine ok_bi ?_ | with_reducible refine ok_bsm ?_)); try dsimp only
    refine ok_by (comes_l72 h25 1000 pl.length M hk (Nat.le_refl _) (by omega) (shf_0 _ _ _).symm) (fun q hq => ?_)
    rw [tn]
    (repeat (first | with_reducible refine ok_nm0 ?_ | (with_reducible refine ok_chk ?_ ?_; · omega) | (with_reducible refine ok_if ?_ ?_; · omega) | (with_reducible refine ok_el ?_ ?_; · omega) | with_reducible refine ok_some ?_ | with_reducible refine ok_bi ?_ | with_reducible refine ok_bsm ?_)); try dsimp only
    have e : wr (wr (wr q.2 (a + 20) k (num l)) (a + 21) k (fill l)) (a + 22) k m a 18 = pl.length := by
      rw [wrn (by omega), wrn (by omega), wrn (by omega), hq, shf_ne (by simp [sM])]; exact hp.1
    rw [e]
    (repeat (first | with_reducible refine ok_nm0 ?_ | (with_reducible refine ok_chk ?_ ?_; · omega) | (with_reducible refine ok_if ?_ ?_; · omega) | (with_reducible refine ok_el ?_ ?_; · omega) | with_reducible refine ok_some ?_ | with_reducible refine ok_bi ?_ | with_reducible refine ok_bsm ?_)); try dsimp only
    exact new hgt q.2 hq
  · (first | with_reducible refine ok_nm0 ?_ | (with_reducible refine ok_chk ?_ ?_; · omega) | (with_reducible refine ok_if ?_ ?_; · omega) | (with_reducible refine ok_el ?_ ?_; · omega) | with_reducible refine ok_some ?_ | with_reducible refine ok_bi ?_ | with_reducible refine ok_bsm ?_)
    rw [tn]
    have hkl : k < pl.length := by omega
    obtain ⟨p, hpk⟩ := getq hkl
    have hpv := hp.2 k p hpk
    have hpb := hb p (List.mem_of_getElem? hpk)
    refine ok_ite (fun hq => ?_) (fun hq => ?_)
    · (repeat (first | with_reducible refine ok_nm0 ?_ | (with_reducible refine ok_chk ?_ ?_; · omega) | (with_reducible refine ok_if ?_ ?_; · omega) | (with_reducible refine ok_el ?_ ?_; · omega) | with_reducible refine ok_some ?_ | with_reducible refine ok_bi ?_ | with_reducible refine ok_bsm ?_)); try dsimp only
      try dsimp only
      rw [ins_old k pl p hpk h1' (by rw [← hpv.2.1]; exact hq)]
      refine ⟨⟨?_, fun j r hj => ?_⟩, fun j _ => by rw [wrn (by omega)], fun b _ _ _ hb4 => by rw [wrn hb4]⟩
      · rw [wrn (by omega), List.length_set]; exact hp.1
      · rw [List.getElem?_set] at hj
        rw [wrn (by omega), wrn (by omega), wre]
        by_cases c1 : k = j
        · rw [if_pos c1, if_pos hkl] at hj
          cases hj
          subst c1
          rw [up_same, hpv.2.2]
          exact ⟨hpv.1, hpv.2.1, rfl⟩
        · rw [if_neg c1] at hj
          rw [up_ne (fun e => c1 e.symm)]
          exact hp.2 j r hj
    · have hgt : ∀ q, pl[k]? = some q → fill l < fill q.1 := fun q hq' => by
        rw [hpk] at hq'
        cases hq'
        have := h2 hkl
        omega
      (repeat (first | with_reducible refine ok_nm0 ?_ | (with_reducible refine ok_chk ?_ ?_; · omega) | (with_reducible refine ok_if ?_ ?_; · omega) | (with_reducible refine ok_el ?_ ?_; · omega) | with_reducible refine ok_some ?_ | with_reducible refine ok_bi ?_ | with_reducible refine ok_bsm ?_)); try dsimp only
      refine ok_by (comes_l72 h25 1000 pl.length M hk (Nat.le_refl _) (by omega) (shf_0 _ _ _).symm) (fun q hq => ?_)
      (repeat (first | with_reducible refine ok_nm0 ?_ | (with_reducible refine ok_chk ?_ ?_; · omega) | (with_reducible refine ok_if ?_ ?_; · omega) | (with_reducible refine ok_el ?_ ?_; · omega) | with_reducible refine ok_some ?_ | with_reducible refine ok_bi ?_ | with_reducible refine ok_bsm ?_)); try dsimp only
      have e : wr (wr (wr q.2 (a + 20) k (num l)) (a + 21) k (fill l)) (a + 22) k m a 18 = pl.length := by
        rw [wrn (by omega), wrn (by omega), wrn (by omega), hq, shf_ne (by simp [sM])]; exact hp.1
      rw [e]
      (repeat (first | with_reducible refine ok_nm0 ?_ | (with_reducible refine ok_chk ?_ ?_; · omega) | (with_reducible refine ok_if ?_ ?_; · omega) | (with_reducible refine ok_el ?_ ?_; · omega) | with_reducible refine ok_some ?_ | with_reducible refine ok_bi ?_ | with_reducible refine ok_bsm ?_)); try dsimp only
      exact new hgt q.2 hq
theorem PMm.same {M M' : Mem} {o : Nat} {p : PL} (h : PMm M o p) (h0 : ∀ k, k ≤ 8 → M' o k = M o k) (h3 : M' (o + 3) = M (o + 3)) (h4 : M' (o + 4) = M (o + 4)) (h5 : M' (o + 5) = M (o + 5)) (h6 : M' (o + 6) = M (o + 6)) : PMm M' o p := by
  unfold PMm at *
  rw [h0 0 (by omega), h0 1 (by omega), h0 6 (by omega), h0 7 (by omega), h0 8 (by omega), h3, h4, h5, h6]
  exact h
theorem tell_l {p : PL} (h : WF p) {a : Nat} : ∀ (n b : Nat) (M : Mem), b ≤ p.nb → p.nb < n + b → PMm M a p → PAm M a (gatR p b) → Ok (fX9_tellPiles_l7 a n b M) (fun q => PAm q.2 a (gat p) ∧ (∀ k, k ≠ 18 → q.2 a k = M a k) ∧ ∀ x, x ≠ a → x ≠ a + 20 → x ≠ a + 21 → x ≠ a + 22 → q.2 x = M x) := by
  intro n
  induction n with
  | zero => intros; omega
  | succ n ih =>
    intro b M h1 h2 hp ha2
    have h25 := h.2.1
    unfold fX9_tellPiles_l7
    rw [hp.2.1]
    refine ok_ite (fun hc => ok_some ?_) (fun hc => ?_)
    · have : b = p.nb := by omega
      subst this
      exact ⟨ha2, fun _ _ => rfl, fun _ _ _ _ _ => rfl⟩
    · have hb : b < p.nb := by omega
      have hr := h.2.2.2.2.1 b hb
      obtain ⟨g1, g2, g3⟩ := gatR_ok h b h1
      have hsp := sm_part h hb
      have hv := hp.2.2.2.1 b hb
      have hlf : lft (M (a + 3)) (p.L b) = lft p.g (p.L b) := lft_g hr.1 (fun c hc => (hp.2.2.1 c hc).1)
      (first | with_reducible refine ok_nm0 ?_ | (with_reducible refine ok_chk ?_ ?_; · omega) | (with_reducible refine ok_if ?_ ?_; · omega) | (with_reducible refine ok_el ?_ ?_; · omega) | with_reducible refine ok_some ?_ | with_reducible refine ok_bi ?_ | with_reducible refine ok_bsm ?_)
      rw [tn, hv.1]
      refine ok_bs (left_ok hr.1.1 _ M) ?_
      rw [hlf]
      (first | with_reducible refine ok_nm0 ?_ | (with_reducible refine ok_chk ?_ ?_; · omega) | (with_reducible refine ok_if ?_ ?_; · omega) | (with_reducible refine ok_el ?_ ?_; · omega) | with_reducible refine ok_some ?_ | with_reducible refine ok_bi ?_ | with_reducible refine ok_bsm ?_)
      try dsimp only
      simp only [hv.2]
      refine ok_bind ?_
      have e : gatR p (b + 1) = if lft p.g (p.L b) = [] ∨ p.mn b = 0 then gatR p b else ins (lft p.g (p.L b)) (p.mn b) (gatR p b) := rfl
      refine ok_ite (fun hq => ?_) (fun hq => ?_)
      · have hl : lft p.g (p.L b) = [] := by
          by_cases hl : lft p.g (p.L b) = []
          · exact hl
          · have := num_posn (lft_rl hr.1.1 p.g) hl; omega
        rw [if_pos (Or.inl hl)] at e
        (repeat (first | with_reducible refine ok_nm0 ?_ | (with_reducible refine ok_chk ?_ ?_; · omega) | (with_reducible refine ok_if ?_ ?_; · omega) | (with_reducible refine ok_el ?_ ?_; · omega) | with_reducible refine ok_some ?_ | with_reducible refine ok_bi ?_ | with_reducible refine ok_bsm ?_)); try dsimp only
        exact ih (b + 1) M (by omega) (by omega) hp (e ▸ ha2)
      · have hl : lft p.g (p.L b) ≠ [] := fun e => hq (by rw [e]; exact Int.le_refl 0)
        (first | with_reducible refine ok_nm0 ?_ | (with_reducible refine ok_chk ?_ ?_; · omega) | (with_reducible refine ok_if ?_ ?_; · omega) | (with_reducible refine ok_el ?_ ?_; · omega) | with_reducible refine ok_some ?_ | with_reducible refine ok_bi ?_ | with_reducible refine ok_bsm ?_)
        have hmn := hr.2
        refine ok_ite (fun hq2 => ?_) (fun hq2 => ?_)
        · rw [if_pos (Or.inr (by omega))] at e
          (repeat (first | with_reducible refine ok_nm0 ?_ | (with_reducible refine ok_chk ?_ ?_; · omega) | (with_reducible refine ok_if ?_ ?_; · omega) | (with_reducible refine ok_el ?_ ?_; · omega) | with_reducible refine ok_some ?_ | with_reducible refine ok_bi ?_ | with_reducible refine ok_bsm ?_)); try dsimp only
          exact ih (b + 1) M (by omega) (by omega) hp (e ▸ ha2)
        · rw [if_neg (fun hx => hx.elim hl (fun e => hq2 (by omega)))] at e
          (first | with_reducible refine ok_nm0 ?_ | (with_reducible refine ok_chk ?_ ?_; · omega) | (with_reducible refine ok_if ?_ ?_; · omega) | (with_reducible refine ok_el ?_ ?_; · omega) | with_reducible refine ok_some ?_ | with_reducible refine ok_bi ?_ | with_reducible refine ok_bsm ?_)
          refine ok_by (comes_ok (lft_rl hr.1.1 _) ha2 (by omega) (fun q hq => ?_) hr.2 (fun q hq => (g2 q hq).1) (fun q hq he => ?_)) (fun q hq => ?_)
          · have hx := sp_le (fun q hq => (g2 q hq).2.2.2) q hq
            have := (g2 q hq).2.2.2
            omega
          · have h5 := asTold_ok (g2 q hq).1 (g2 q hq).2.1 M
            rw [he, asTold_ok (lft_rl hr.1.1 p.g) hl M] at h5
            exact (Prod.mk.inj (Option.some.inj h5)).1.symm
          · (repeat (first | with_reducible refine ok_nm0 ?_ | (with_reducible refine ok_chk ?_ ?_; · omega) | (with_reducible refine ok_if ?_ ?_; · omega) | (with_reducible refine ok_el ?_ ?_; · omega) | with_reducible refine ok_some ?_ | with_reducible refine ok_bi ?_ | with_reducible refine ok_bsm ?_)); try dsimp only
            obtain ⟨q1, q2, q3⟩ := hq
            refine (ih (b + 1) q.2 (by omega) (by omega) (hp.same (fun k hk => q2 k (by omega)) (q3 _ (by omega) (by omega) (by omega) (by omega)) (q3 _ (by omega) (by omega) (by omega) (by omega)) (q3 _ (by omega) (by omega) (by omega) (by omega)) (q3 _ (by omega) (by omega) (by omega) (by omega))) (e ▸ q1)).mono (fun r hr => ⟨hr.1, fun k hk => ?_, fun x x1 x2 x3 x4 => ?_⟩)
            · rw [hr.2.1 k hk, q2 k hk]
            · rw [hr.2.2 x x1 x2 x3 x4, q3 x x1 x2 x3 x4]
theorem tellPiles_ok {p : PL} (h : WF p) {a : Nat} {M : Mem} (hp : PMm M a p) : Ok (fX9_tellPiles a M) (fun q => PAm q.2 a (gat p) ∧ (∀ k, k ≠ 18 → q.2 a k = M a k) ∧ ∀ x, x ≠ a → x ≠ a + 20 → x ≠ a + 21 → x ≠ a + 22 → q.2 x = M x) := by
  have h25 := h.2.1
  unfold fX9_tellPiles
  (first | with_reducible refine ok_nm0 ?_ | (with_reducible refine ok_chk ?_ ?_; · omega) | (with_reducible refine ok_if ?_ ?_; · omega) | (with_reducible refine ok_el ?_ ?_; · omega) | with_reducible refine ok_some ?_ | with_reducible refine ok_bi ?_ | with_reducible refine ok_bsm ?_)
  refine ok_by (tell_l h 1000 0 _ (by omega) (by omega) (hp.same (fun k hk => wrk _ (by omega)) (wrn (by omega)) (wrn (by omega)) (wrn (by omega)) (wrn (by omega))) ⟨by rw [wra]; rfl, fun j q hj => by cases hj⟩) (fun q hq => ok_some ⟨hq.1, fun k hk => ?_, fun x x1 x2 x3 x4 => ?_⟩)
  · dsimp only
    rw [hq.2.1 k hk, wrk _ hk]
  · dsimp only
    rw [hq.2.2 x x1 x2 x3 x4, wrn x1]
end
