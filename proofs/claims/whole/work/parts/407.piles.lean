section
/-! memory -/
theorem wrn {M : Mem} {a j b : Nat} {v : Int} (h : b ≠ a) : wr M a j v b = M b := by
  funext k
  simp [wr, h]
theorem wre (M : Mem) (a j : Nat) (v : Int) : wr M a j v a = up (M a) j v := by
  funext k
  simp [wr, up]
theorem wra (M : Mem) (a j : Nat) (v : Int) : wr M a j v a j = v := by simp [wr]
theorem wrk {M : Mem} {a j k : Nat} {v : Int} (b : Nat) (h : k ≠ j) : wr M a j v b k = M b k := by simp [wr, h]
def shf (S : Nat → Bool) (i s : Nat) (M : Mem) : Mem := fun b j => if S b = true ∧ i < j ∧ j ≤ s then M b (j - 1) else M b j
theorem shf_0 (S : Nat → Bool) (s : Nat) (M : Mem) : shf S s s M = M := by
  funext b j
  unfold shf
  rw [if_neg (by omega)]
theorem shf_ne {S : Nat → Bool} {i s : Nat} {M : Mem} {b : Nat} (h : S b = false) : shf S i s M b = M b := by
  funext j
  unfold shf
  rw [if_neg (by rw [h]; simp)]
/-! piles -/
abbrev PIL : Type := List (List Int × Int)
def ins (l : List Int) (m : Int) : PIL → PIL
  | [] => [(l, m)]
  | p :: r => if fill p.1 < fill l then p :: ins l m r else if fill p.1 = fill l then (p.1, p.2 + m) :: r else (l, m) :: p :: r
theorem ins_new {l : List Int} {m : Int} : ∀ (k : Nat) (pl : PIL), k ≤ pl.length → (∀ j q, j < k → pl[j]? = some q → fill q.1 < fill l) → (∀ q, pl[k]? = some q → fill l < fill q.1) → ins l m pl = pl.take k ++ (l, m) :: pl.drop k
  | 0, [], _, _, _ => rfl
  | 0, p :: r, _, _, h2 => by
    have := h2 p rfl
    unfold ins
    rw [if_neg (by omega), if_neg (by omega)]
    rfl
  | k + 1, [], h, _, _ => by simp at h
  | k + 1, p :: r, h, h1, h2 => by
    have h3 := h1 0 p (by omega) rfl
    unfold ins
    rw [if_pos h3, ins_new k r (by simpa using h) (fun j q hj hq => h1 (j + 1) q (by omega) (by simpa using hq)) (fun q hq => h2 q (by simpa using hq))]
    rfl
theorem ins_old {l : List Int} {m : Int} : ∀ (k : Nat) (pl : PIL) (q : List Int × Int), pl[k]? = some q → (∀ j q, j < k → pl[j]? = some q → fill q.1 < fill l) → fill q.1 = fill l → ins l m pl = pl.set k (q.1, q.2 + m)
  | 0, [], _, h, _, _ => by simp at h
  | 0, p :: r, q, h, _, h2 => by
    simp only [List.getElem?_cons_zero, Option.some.injEq] at h
    subst h
    unfold ins
    rw [if_neg (by omega), if_pos h2]
    rfl
  | k + 1, [], _, h, _, _ => by simp at h
  | k + 1, p :: r, q, h, h1, h2 => by
    have h3 := h1 0 p (by omega) rfl
    unfold ins
    rw [if_pos h3, ins_old k r q (by simpa using h) (fun j q hj hq => h1 (j + 1) q (by omega) (by simpa using hq)) h2]
    rfl
theorem take_get {α : Type} {pl : List α} {x : α} {k : Nat} (hk : k ≤ pl.length) (j : Nat) : (pl.take k ++ x :: pl.drop k)[j]? = if j < k then pl[j]? else if j = k then some x else pl[j - 1]? := by
  have hl : (pl.take k).length = k := by rw [List.length_take]; omega
  by_cases h1 : j < k
  · rw [if_pos h1, List.getElem?_append_left (by omega), List.getElem?_take, if_pos h1]
  · rw [if_neg h1, List.getElem?_append_right (by omega), hl]
    by_cases h2 : j = k
    · rw [if_pos h2, h2, Nat.sub_self]; rfl
    · rw [if_neg h2]
      obtain ⟨i, hi⟩ : ∃ i, j - k = i + 1 := ⟨j - k - 1, by omega⟩
      rw [hi, List.getElem?_cons_succ, List.getElem?_drop]
      congr 1
      omega
def sp : PIL → Int
  | [] => 0
  | p :: r => p.2 + sp r
theorem sp_ins (l : List Int) (m : Int) : ∀ (pl : PIL), sp (ins l m pl) = sp pl + m
  | [] => by simp [ins, sp]
  | p :: r => by
    unfold ins
    split
    · show p.2 + sp (ins l m r) = p.2 + sp r + m
      rw [sp_ins l m r]; omega
    · split
      · show p.2 + m + sp r = p.2 + sp r + m
        omega
      · show m + (p.2 + sp r) = p.2 + sp r + m
        omega
theorem len_ins (l : List Int) (m : Int) : ∀ (pl : PIL), (ins l m pl).length ≤ pl.length + 1
  | [] => by simp [ins]
  | p :: r => by
    have := len_ins l m r
    unfold ins
    split
    · simp only [List.length_cons]; omega
    · split <;> simp only [List.length_cons] <;> omega
/-- what holds of each pile -/
def pgood (n : Nat) (q : List Int × Int) : Prop := rl q.1 ∧ q.1 ≠ [] ∧ (∀ d ∈ q.1, d ≤ (n : Int)) ∧ 0 < q.2
theorem pgood_ins {n : Nat} {l : List Int} {m : Int} (h : pgood n (l, m)) : ∀ {pl : PIL}, (∀ q ∈ pl, pgood n q) → ∀ q ∈ ins l m pl, pgood n q
  | [], _, q, hq => by simp [ins] at hq; subst hq; exact h
  | p :: r, hp, q, hq => by
    have h1 := hp p List.mem_cons_self
    have h2 : ∀ q ∈ r, pgood n q := fun q hq => hp q (List.mem_cons_of_mem _ hq)
    unfold ins at hq
    split at hq
    · rcases List.mem_cons.mp hq with e | e
      · subst e; exact h1
      · exact pgood_ins h h2 q e
    · split at hq
      · rcases List.mem_cons.mp hq with e | e
        · subst e; exact ⟨h1.1, h1.2.1, h1.2.2.1, by have := h1.2.2.2; have := h.2.2.2; dsimp only at *; omega⟩
        · exact h2 q e
      · rcases List.mem_cons.mp hq with e | e
        · subst e; exact h
        · exact hp q e
theorem sp_le {pl : PIL} (h : ∀ q ∈ pl, 0 < q.2) : ∀ q ∈ pl, q.2 ≤ sp pl := by
  induction pl with
  | nil => intro q hq; cases hq
  | cons p r ih =>
    have h2 : ∀ q ∈ r, 0 < q.2 := fun q hq => h q (List.mem_cons_of_mem _ hq)
    have hnn : ∀ (r : PIL), (∀ q ∈ r, 0 < q.2) → 0 ≤ sp r := by
      intro r
      induction r with
      | nil => intro _; exact Int.le_refl 0
      | cons a r ih => intro h; have := h a List.mem_cons_self; have := ih (fun q hq => h q (List.mem_cons_of_mem _ hq)); show 0 ≤ a.2 + sp r; omega
    intro q hq
    show q.2 ≤ p.2 + sp r
    have h3 := h p List.mem_cons_self
    have h4 := hnn r h2
    rcases List.mem_cons.mp hq with e | e
    · subst e; omega
    · have := ih h2 q e; omega
/-- the rows of a class's Piles at a -/
def PAc (M : Mem) (a : Nat) (pl : PIL) : Prop := M a 0 = pl.length ∧ ∀ j q, pl[j]? = some q → M (a + 2) j = fill q.1 ∧ M (a + 3) j = q.2
def PAm (M : Mem) (a : Nat) (pl : PIL) : Prop := M a 18 = pl.length ∧ ∀ j q, pl[j]? = some q → M (a + 20) j = num q.1 ∧ M (a + 21) j = fill q.1 ∧ M (a + 22) j = q.2
theorem getq {α : Type} {pl : List α} {j : Nat} (h : j < pl.length) : ∃ q, pl[j]? = some q := ⟨pl[j], List.getElem?_eq_getElem h⟩
theorem getq_lt {α : Type} {pl : List α} {j : Nat} {q : α} (h : pl[j]? = some q) : j < pl.length := (List.getElem?_eq_some_iff.mp h).1
theorem put_l2 {a : Nat} {key m : Int} {M : Mem} {s : Nat} (hs : M a 0 = s) (h25 : s < 25) : ∀ (n i : Nat), i ≤ s → s < n + i → (∀ j, j < i → M (a + 2) j < key) → Ok (fX0_put_l2 a key m n i M) (fun q => q.2 = M ∧ ∃ k : Nat, q.1 = k ∧ k ≤ s ∧ (∀ j, j < k → M (a + 2) j < key) ∧ (k < s → key ≤ M (a + 2) k)) := by
  intro n
  induction n with
  | zero => intros; omega
  | succ n ih =>
    intro i h1 h2 hb
    unfold fX0_put_l2
    rw [hs]
    refine ok_ite (fun hc => ok_some ⟨rfl, i, rfl, h1, hb, fun h => by omega⟩) (fun hc => ?_)
    (first | with_reducible refine ok_nm0 ?_ | (with_reducible refine ok_chk ?_ ?_; · omega) | (with_reducible refine ok_if ?_ ?_; · omega) | (with_reducible refine ok_el ?_ ?_; · omega) | with_reducible refine ok_some ?_ | with_reducible refine ok_bi ?_ | with_reducible refine ok_bsm ?_)
    rw [tn]
    refine ok_ite (fun hq => ok_some ⟨rfl, i, rfl, h1, hb, fun _ => hq⟩) (fun hq => ?_)
    (first | with_reducible refine ok_nm0 ?_ | (with_reducible refine ok_chk ?_ ?_; · omega) | (with_reducible refine ok_if ?_ ?_; · omega) | (with_reducible refine ok_el ?_ ?_; · omega) | with_reducible refine ok_some ?_ | with_reducible refine ok_bi ?_ | with_reducible refine ok_bsm ?_)
    refine ih (i + 1) (by omega) (by omega) (fun j hj => ?_)
    by_cases e : j = i
    · subst e; omega
    · exact hb j (by omega)
theorem put_l75 {a k s : Nat} {key m : Int} {M0 : Mem} (h25 : s < 25) : ∀ (n i : Nat) (M : Mem), k ≤ i → i ≤ s → i < n + k → M = shf (fun b => decide (b = a + 2) || decide (b = a + 3)) i s M0 → Ok (fX0_put_l75 a key m k n i M) (fun q => q.2 = shf (fun b => decide (b = a + 2) || decide (b = a + 3)) k s M0) := by
  intro n
  induction n with
  | zero => intros; omega
  | succ n ih =>
    intro i M h1 h2 h3 hM
    unfold fX0_put_l75
    refine ok_ite (fun hc => ok_some ?_) (fun hc => ?_)
    · have : i = k := by omega
      subst this; exact hM
    · obtain ⟨i, rfl⟩ : ∃ i', i = i' + 1 := ⟨i - 1, by omega⟩
      (repeat (first | with_reducible refine ok_nm0 ?_ | (with_reducible refine ok_chk ?_ ?_; · omega) | (with_reducible refine ok_if ?_ ?_; · omega) | (with_reducible refine ok_el ?_ ?_; · omega) | with_reducible refine ok_some ?_ | with_reducible refine ok_bi ?_ | with_reducible refine ok_bsm ?_)); try dsimp only
      rw [show ((i + 1 : Nat) : Int) + -1 = (i : Int) by omega]
      refine ih i _ (by omega) (by omega) (by omega) ?_
      rw [show ((i + 1 : Nat) : Int) - 1 = (i : Int) by omega, tn, tn, hM]
      funext b j
      simp only [wr, shf]
      grind
theorem fill_pos {l : List Int} (h : rl l) (hn : l ≠ []) : 0 < fill l := by
  have h1 := rep_bd h hn (j := 8 - l.length)
  have := ten_pos (l.length + (8 - l.length) - 1)
  unfold fill pad
  omega
theorem num_posn {l : List Int} (h : rl l) (hn : l ≠ []) : 0 < num l := by
  have h1 := num_pos (fun d hd => (h.1 d hd).1) h.gl hn
  have := ten_pos (l.length - 1)
  omega
theorem put_ok {a : Nat} {pl : PIL} {l : List Int} {m : Int} {M : Mem} (hp : PAc M a pl) (h25 : pl.length < 25) (hb : ∀ q ∈ pl, 0 ≤ q.2 ∧ q.2 + m ≤ 2147483647) (hm : 0 ≤ m) : Ok (fX0_put a (fill l) m M) (fun q => PAc q.2 a (ins l m pl) ∧ ∀ b, b ≠ a → b ≠ a + 2 → b ≠ a + 3 → q.2 b = M b) := by
  unfold fX0_put
  refine ok_by (put_l2 hp.1 h25 1000 0 (by omega) (by omega) (fun j hj => by omega)) (fun q hq => ?_)
  obtain ⟨e2, k, e1, hk, h1, h2⟩ := hq
  have h1' : ∀ j q, j < k → pl[j]? = some q → fill q.1 < fill l := fun j q hj hq => by have := h1 j hj; rw [(hp.2 j q hq).1] at this; exact this
  rw [e1, e2, hp.1]
  refine ok_bind ?_
  have new : (∀ q, pl[k]? = some q → fill l < fill q.1) → ∀ q : Mem, q = shf (fun b => decide (b = a + 2) || decide (b = a + 3)) k pl.length M → PAc (wr (wr (wr q (a + 2) k (fill l)) (a + 3) k m) a 0 ((pl.length : Int) + 1)) a (ins l m pl) ∧ ∀ b, b ≠ a → b ≠ a + 2 → b ≠ a + 3 → (wr (wr (wr q (a + 2) k (fill l)) (a + 3) k m) a 0 ((pl.length : Int) + 1)) b = M b := by
    intro hgt q hq
    rw [ins_new k pl hk h1' hgt]
    refine ⟨⟨?_, fun j p hj => ?_⟩, fun b hb1 hb2 hb3 => ?_⟩
    · rw [wra, List.length_append, List.length_cons, List.length_take, List.length_drop]; omega
    · rw [take_get hk] at hj
      rw [wrn (by omega), wrn (show a + 2 ≠ a + 3 by omega), wre, wrn (by omega), wre, wrn (show a + 3 ≠ a + 2 by omega)]
      by_cases c1 : j < k
      · rw [if_pos c1] at hj
        have := hp.2 j p hj
        rw [up_ne (by omega), up_ne (by omega), hq]
        simp only [shf]
        rw [if_neg (by omega), if_neg (by omega)]
        exact this
      · rw [if_neg c1] at hj
        by_cases c2 : j = k
        · rw [if_pos c2] at hj
          cases hj
          subst c2
          rw [up_same, up_same]
          exact ⟨rfl, rfl⟩
        · rw [if_neg c2] at hj
          have h3 := hp.2 (j - 1) p hj
          have h4 := getq_lt hj
          rw [up_ne c2, up_ne c2, hq]
          simp only [shf]
          rw [if_pos ⟨by simp, by omega, by omega⟩, if_pos ⟨by simp, by omega, by omega⟩]
          exact h3
    · rw [wrn hb1, wrn hb3, wrn hb2, hq, shf_ne (by simp [hb2, hb3])]
  refine ok_ite (fun hc => ?_) (fun hc => ?_)
  · have hkl : k = pl.length := by omega
    have hgt : ∀ q, pl[k]? = some q → fill l < fill q.1 := fun q hq => by have := getq_lt hq; omega
    (repeat (first | with_reducible refine ok_nm0 ?_ | (with_reducible refine ok_chk ?_ ?_; · omega) | (with_reducible refine ok_if ?_ ?_; · omega) | (with_reducible refine ok_el ?_ ?_; · omega) | with_reducible refine ok_some ?_ | with_reducible refine ok_bi ?_ | with_reducible refine ok_bsm ?_)); try dsimp only
    refine ok_by (put_l75 h25 1000 pl.length M hk (Nat.le_refl _) (by omega) (shf_0 _ _ _).symm) (fun q hq => ?_)
    rw [tn]
    (repeat (first | with_reducible refine ok_nm0 ?_ | (with_reducible refine ok_chk ?_ ?_; · omega) | (with_reducible refine ok_if ?_ ?_; · omega) | (with_reducible refine ok_el ?_ ?_; · omega) | with_reducible refine ok_some ?_ | with_reducible refine ok_bi ?_ | with_reducible refine ok_bsm ?_)); try dsimp only
    have e : wr (wr q.2 (a + 2) k (fill l)) (a + 3) k m a 0 = pl.length := by
      rw [wrn (by omega), wrn (by omega), hq, shf_ne (by simp)]; exact hp.1
    rw [e]
    (repeat (first | with_reducible refine ok_nm0 ?_ | (with_reducible refine ok_chk ?_ ?_; · omega) | (with_reducible refine ok_if ?_ ?_; · omega) | (with_reducible refine ok_el ?_ ?_; · omega) | with_reducible refine ok_some ?_ | with_reducible refine ok_bi ?_ | with_reducible refine ok_bsm ?_)); try dsimp only
    exact new hgt q.2 hq
  · (first | with_reducible refine ok_nm0 ?_ | (with_reducible refine ok_chk ?_ ?_; · omega) | (with_reducible refine ok_if ?_ ?_; · omega) | (with_reducible refine ok_el ?_ ?_; · omega) | with_reducible refine ok_some ?_ | with_reducible refine ok_bi ?_ | with_reducible refine ok_bsm ?_)
    rw [tn]
    have hkl : k < pl.length := by omega
    obtain ⟨p, hpk⟩ := getq hkl
    have hpv := hp.2 k p hpk
    have hpb := hb p (List.mem_of_getElem? hpk)
    refine ok_ite (fun hq => ?_) (fun hq => ?_)
    · (repeat (first | with_reducible refine ok_nm0 ?_ | (with_reducible refine ok_chk ?_ ?_; · omega) | (with_reducible refine ok_if ?_ ?_; · omega) | (with_reducible refine ok_el ?_ ?_; · omega) | with_reducible refine ok_some ?_ | with_reducible refine ok_bi ?_ | with_reducible refine ok_bsm ?_)); try dsimp only
      try dsimp only
      rw [ins_old k pl p hpk h1' (by rw [← hpv.1]; exact hq)]
      refine ⟨⟨?_, fun j r hj => ?_⟩, fun b _ _ hb3 => by rw [wrn hb3]⟩
      · rw [wrn (by omega), List.length_set]; exact hp.1
      · rw [List.getElem?_set] at hj
        rw [wrn (by omega), wre]
        by_cases c1 : k = j
        · rw [if_pos c1, if_pos hkl] at hj
          cases hj
          subst c1
          rw [up_same, hpv.2]
          exact ⟨hpv.1, rfl⟩
        · rw [if_neg c1] at hj
          rw [up_ne (fun e => c1 e.symm)]
          exact hp.2 j r hj
    · have hgt : ∀ q, pl[k]? = some q → fill l < fill q.1 := fun q hq' => by
        rw [hpk] at hq'
        cases hq'
        have := h2 hkl
        omega
      (repeat (first | with_reducible refine ok_nm0 ?_ | (with_reducible refine ok_chk ?_ ?_; · omega) | (with_reducible refine ok_if ?_ ?_; · omega) | (with_reducible refine ok_el ?_ ?_; · omega) | with_reducible refine ok_some ?_ | with_reducible refine ok_bi ?_ | with_reducible refine ok_bsm ?_)); try dsimp only
      refine ok_by (put_l75 h25 1000 pl.length M hk (Nat.le_refl _) (by omega) (shf_0 _ _ _).symm) (fun q hq => ?_)
      (repeat (first | with_reducible refine ok_nm0 ?_ | (with_reducible refine ok_chk ?_ ?_; · omega) | (with_reducible refine ok_if ?_ ?_; · omega) | (with_reducible refine ok_el ?_ ?_; · omega) | with_reducible refine ok_some ?_ | with_reducible refine ok_bi ?_ | with_reducible refine ok_bsm ?_)); try dsimp only
      have e : wr (wr q.2 (a + 2) k (fill l)) (a + 3) k m a 0 = pl.length := by
        rw [wrn (by omega), wrn (by omega), hq, shf_ne (by simp)]; exact hp.1
      rw [e]
      (repeat (first | with_reducible refine ok_nm0 ?_ | (with_reducible refine ok_chk ?_ ?_; · omega) | (with_reducible refine ok_if ?_ ?_; · omega) | (with_reducible refine ok_el ?_ ?_; · omega) | with_reducible refine ok_some ?_ | with_reducible refine ok_bi ?_ | with_reducible refine ok_bsm ?_)); try dsimp only
      exact new hgt q.2 hq
end
