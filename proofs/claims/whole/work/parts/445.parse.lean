section
/-! the text read through -/
abbrev PR : Type := List (Int × Int × Int) × Option (Nat × List (Int × Int))
def prs (x : Nat × Vec) : Nat → Nat → List (Int × Int × Int) → PR
  | 0, _, D => (D, none)
  | n + 1, a, D => match cl x a with
    | .inl r => (D, some (r.1, [(1, (D.length : Int)), (2, (a : Int)), if r.2 = true then (3, (r.1 : Int)) else (4, sg x r.1)]))
    | .inr r => if x.1 ≤ r.1 then (D ++ [r.2], none) else if sg x r.1 = 59 then (if n = 0 then (D ++ [r.2], some (r.1, [(1, ((D.length + 1 : Nat) : Int)), (4, sg x r.1)])) else prs x n (r.1 + 1) (D ++ [r.2])) else (D ++ [r.2], some (r.1, [(1, ((D.length + 1 : Nat) : Int)), (4, sg x r.1)]))
def Kd (k : Int) : Prop := k = 98 ∨ k = 99 ∨ k = 103 ∨ k = 108 ∨ k = 115
theorem cl_ok {x : Nat × Vec} {a : Nat} (ha : a ≤ x.1) : (∀ r, cl x a = .inl r → r.1 ≤ x.1) ∧ ∀ r, cl x a = .inr r → Kd r.2.1 := by
  have h1 : ∀ kd m, 0 ≤ sg x a → Kd kd → (∀ r, cl1 x kd m a = .inl r → r.1 ≤ x.1) ∧ ∀ r, cl1 x kd m a = .inr r → Kd r.2.1 := fun kd m hs hk => by
    have hlt := sg_lt hs
    unfold cl1
    by_cases e : (rdN x m (a + 1) 0).2 = a + 1
    · rw [if_pos e]
      exact ⟨fun r hr => by cases hr; exact hlt, fun r hr => by cases hr⟩
    · rw [if_neg e]
      exact ⟨fun r hr => (by cases hr), fun r hr => by cases hr; exact hk⟩
  unfold cl
  by_cases c99 : sg x a = 99
  · rw [if_pos c99]
    exact ⟨fun r hr => (by cases hr), fun r hr => by cases hr; exact Or.inr (Or.inl rfl)⟩
  · rw [if_neg c99]
    by_cases c98 : sg x a = 98
    · rw [if_pos c98]
      have hlt := sg_lt (x := x) (a := a) (by omega)
      unfold clB
      have r1 := (rdN_le x 8 (a + 1) 0).2.2 hlt
      generalize rdN x 8 (a + 1) 0 = R at *
      by_cases e : R.2 = a + 1
      · rw [if_pos e]
        exact ⟨fun r hr => by cases hr; exact hlt, fun r hr => by cases hr⟩
      · rw [if_neg e]
        by_cases c42 : sg x R.2 = 42
        · rw [if_pos c42]
          have hlt2 := sg_lt (x := x) (a := R.2) (by omega)
          by_cases e2 : (rdN x 7 (R.2 + 1) 0).2 = R.2 + 1
          · rw [if_pos e2]
            exact ⟨fun r hr => by cases hr; exact hlt2, fun r hr => by cases hr⟩
          · rw [if_neg e2]
            exact ⟨fun r hr => (by cases hr), fun r hr => by cases hr; exact Or.inl rfl⟩
        · rw [if_neg c42]
          exact ⟨fun r hr => by cases hr; exact r1, fun r hr => by cases hr⟩
    · rw [if_neg c98]
      by_cases c115 : sg x a = 115
      · rw [if_pos c115]
        exact h1 115 1 (by omega) (Or.inr (Or.inr (Or.inr (Or.inr rfl))))
      · rw [if_neg c115]
        by_cases c108 : sg x a = 108
        · rw [if_pos c108]
          exact h1 108 9 (by omega) (Or.inr (Or.inr (Or.inr (Or.inl rfl))))
        · rw [if_neg c108]
          by_cases c103 : sg x a = 103
          · rw [if_pos c103]
            exact h1 103 1 (by omega) (Or.inr (Or.inr (Or.inl rfl)))
          · rw [if_neg c103]
            exact ⟨fun r hr => by cases hr; exact ha, fun r hr => by cases hr⟩
def CLc (M : Mem) (D : List (Int × Int × Int)) : Prop := ∀ i c, D[i]? = some c → ClC M i c
def CLm (M : Mem) (D : List (Int × Int × Int)) : Prop := ∀ i c, D[i]? = some c → ClM M i c
theorem CLc.snoc {M M' : Mem} {D : List (Int × Int × Int)} {c : Int × Int × Int} (h : CLc M D) (hc : ClC M' D.length c) (hf : ∀ i, i ≠ D.length → M' 214 i = M 214 i ∧ M' 215 i = M 215 i ∧ M' 216 i = M 216 i) : CLc M' (D ++ [c]) := fun i d hd => by
  by_cases e : i < D.length
  · rw [List.getElem?_append_left e] at hd
    obtain ⟨f1, f2, f3⟩ := hf i (by omega)
    unfold ClC
    rw [f1, f2, f3]
    exact h i d hd
  · rw [List.getElem?_append_right (by omega)] at hd
    have := getq_lt hd
    simp only [List.length_cons, List.length_nil] at this
    have e : i = D.length := by omega
    subst e
    rw [Nat.sub_self] at hd
    cases hd
    exact hc
theorem CLm.snoc {M M' : Mem} {D : List (Int × Int × Int)} {c : Int × Int × Int} (h : CLm M D) (hc : ClM M' D.length c) (hf : ∀ i, i ≠ D.length → M' 20053 i = M 20053 i ∧ M' 20054 i = M 20054 i ∧ M' 20055 i = M 20055 i) : CLm M' (D ++ [c]) := fun i d hd => by
  by_cases e : i < D.length
  · rw [List.getElem?_append_left e] at hd
    obtain ⟨f1, f2, f3⟩ := hf i (by omega)
    unfold ClM
    rw [f1, f2, f3]
    exact h i d hd
  · rw [List.getElem?_append_right (by omega)] at hd
    have := getq_lt hd
    simp only [List.length_cons, List.length_nil] at this
    have e : i = D.length := by omega
    subst e
    rw [Nat.sub_self] at hd
    cases hd
    exact hc
theorem TXc.fr {M M' : Mem} {x : Nat × Vec} (h : TXc M x) (h0 : M' 210 0 = M 210 0) (h2 : M' 212 = M 212) : TXc M' x := ⟨h0.trans h.1, fun k hk => by rw [h2]; exact h.2 k hk⟩
theorem TXm.fr {M M' : Mem} {x : Nat × Vec} (h : TXm M 20000 x) (h0 : M' 20000 46 = M 20000 46) (h2 : M' 20046 = M 20046) : TXm M' 20000 x := ⟨h0.trans h.1, fun k hk => by show M' 20046 k = _; rw [h2]; exact h.2 k hk⟩
def RLq (M : Mem) (r : Int × Mem) : PR → Prop
  | (D, none) => r.1 = -5 ∧ CLc r.2 D ∧ r.2 210 2 = D.length ∧ ∀ b, b < 210 ∨ 217 ≤ b → r.2 b = M b
  | (_, some w) => r.1 = w.1 ∧ TRg r.2 310 w.2 ∧ ∀ b, b < 210 ∨ 217 ≤ b → b ≠ 310 → b ≠ 312 → b ≠ 313 → r.2 b = M b
theorem RLq.tr {M M' : Mem} {r : Int × Mem} {p : PR} (h : RLq M r p) (hf : ∀ b, b < 210 ∨ 217 ≤ b → M b = M' b) : RLq M' r p := by
  obtain ⟨D, o⟩ := p
  cases o with
  | none => exact ⟨h.1, h.2.1, h.2.2.1, fun b hb => (h.2.2.2 b hb).trans (hf b hb)⟩
  | some w => exact ⟨h.1, h.2.1, fun b hb b1 b2 b3 => (h.2.2 b hb b1 b2 b3).trans (hf b hb)⟩
theorem told_ok {x : Nat × Vec} (hl : x.1 ≤ 100) {b : Nat} {L : Int} {M : Mem} (hT : TXc M x) (hb : M 210 6 = b) (hL : M 210 2 = L) {D : List (Int × Int × Int)} : Ok (Option.bind (fX7_begin 310 1 (M 210 2) M) (fun q15 => Option.bind (fX6_sign 210 q15.2) (fun q16 => Option.bind (fX7_addCause 310 4 q16.1 q16.2) (fun q17 => some (.inl ((q17.2 210 6), q17.2) : (Int × Mem) ⊕ (Int × Mem)))))) (fun z => ∃ r, z = .inl r ∧ RLq M r (D, some (b, [(1, L), (4, sg x b)]))) := by
  rw [hL]
  refine ok_by (begin7_ok (o := 310)) (fun q1 hq1 => ?_)
  have g : ∀ b, b < 310 → q1.2 b = M b := fun b hb => hq1.2 b (by omega) (by omega) (by omega)
  refine ok_bs (sign_ok (a := b) (hT.fr (by rw [g _ (by decide)]) (g _ (by decide))) hl (by rw [g _ (by decide)]; exact hb)) (ok_by (addCause_ok hq1.1 (by simp)) (fun q3 hq3 => ok_some ⟨_, rfl, ?_, hq3.1, fun c hc c1 c2 c3 => ?_⟩))
  · show q3.2 210 6 = _
    rw [hq3.2 210 (by decide) (by decide) (by decide)]
    show q1.2 210 6 = _
    rw [g _ (by decide)]; exact hb
  · rw [hq3.2 c c1 c2 c3]
    exact hq1.2 c c1 c2 c3
theorem fault_l {x : Nat × Vec} (hl : x.1 ≤ 100) : ∀ (n m a : Nat) (D : List (Int × Int × Int)) (M : Mem), D.length + n = 12 → 0 < n → n < m → TXc M x → M 210 6 = a → M 210 2 = D.length → CLc M D → a ≤ x.1 → Ok (fX6_faultToldTo_l12 210 310 m D.length M) (fun z => ∃ r, z = .inl r ∧ RLq M r (prs x n a D))
  | 0, _, _, _, _, _, h0, _, _, _, _, _, _ => absurd h0 (Nat.lt_irrefl 0)
  | n + 1, 0, _, _, _, _, _, h, _, _, _, _, _ => absurd h (Nat.not_lt_zero _)
  | n + 1, m + 1, a, D, M, hn, h0, hm, hT, ha, hL, hD, hx => by
    unfold fX6_faultToldTo_l12
    refine ok_el (by omega) (ok_nm0 ?_)
    rw [ha]
    refine ok_by (readsClause_ok hl hT ha (by omega) (show D.length < 12 by omega)) (fun q hq => ?_)
    obtain ⟨hR, f0, f2, f3, f4⟩ := hq
    have hk := cl_ok hx
    have Tq : TXc q.2 x := hT.fr f0 (f4 212 (by decide) (by decide) (by decide) (by decide))
    have Lq : q.2 210 2 = D.length := f2.trans hL
    have fx : ∀ b, b < 210 ∨ 217 ≤ b → q.2 b = M b := fun b hb => f4 b (by omega) (by omega) (by omega) (by omega)
    unfold prs
    cases hc : cl x a with
    | inl r =>
      rw [hc] at hR
      obtain ⟨r1, r2, r3⟩ := hR
      have hr := hk.1 r hc
      dsimp only
      simp only [Lq]
      refine ok_if r1 (ok_by (begin7_ok (o := 310)) (fun q1 hq1 => ok_by (addCause_ok hq1.1 (by simp)) (fun q2 hq2 => ?_)))
      have g : ∀ b, b < 310 → q2.2 b = q.2 b := fun b hb => (hq2.2 b (by omega) (by omega) (by omega)).trans (hq1.2 b (by omega) (by omega) (by omega))
      have g2 : ∀ b, b ≠ 310 → b ≠ 312 → b ≠ 313 → q2.2 b = q.2 b := fun b b1 b2 b3 => (hq2.2 b b1 b2 b3).trans (hq1.2 b b1 b2 b3)
      have T2 : TXc q2.2 x := Tq.fr (by rw [g _ (by decide)]) (g _ (by decide))
      have a2 : q2.2 210 6 = (r.1 : Nat) := by rw [g _ (by decide)]; exact r2
      have b2 : q2.2 210 7 = bz r.2 := by rw [g _ (by decide)]; exact r3
      by_cases hl2 : r.2 = true
      · rw [if_pos hl2]
        refine ok_bi (ok_el (by rw [b2, hl2]; decide) ?_)
        rw [a2]
        refine ok_by (addCause_ok hq2.1 (by simp)) (fun q3 hq3 => ok_some (ok_some ⟨_, rfl, ?_, hq3.1, fun c hc c1 c2 c3 => ?_⟩))
        · show q3.2 210 6 = _
          rw [hq3.2 210 (by decide) (by decide) (by decide)]; exact a2
        · rw [hq3.2 c c1 c2 c3, g2 c c1 c2 c3]; exact fx c hc
      · have hl3 : r.2 = false := by cases h : r.2 with | true => exact absurd h hl2 | false => rfl
        rw [if_neg hl2]
        refine ok_bi (ok_if (by rw [b2, hl3]; rfl) (ok_bs (sign_ok T2 hl a2) (ok_by (addCause_ok hq2.1 (by simp)) (fun q3 hq3 => ok_some (ok_some ⟨_, rfl, ?_, hq3.1, fun c hc c1 c2 c3 => ?_⟩)))))
        · show q3.2 210 6 = _
          rw [hq3.2 210 (by decide) (by decide) (by decide)]; exact a2
        · rw [hq3.2 c c1 c2 c3, g2 c c1 c2 c3]; exact fx c hc
    | inr r =>
      rw [hc] at hR
      obtain ⟨r1, r2, r3⟩ := hR
      dsimp only
      simp only [Lq]
      refine ok_el (by rw [r1]; decide) (ok_chk (by omega) (ok_nm0 ?_))
      generalize hM1 : wr q.2 210 2 ((D.length : Int) + 1) = M1
      have T1 : TXc M1 x := by subst hM1; exact Tq.w _ (by decide) (fun _ => by decide)
      have a1 : M1 210 6 = (r.1 : Nat) := by subst hM1; rw [wrk _ (by decide)]; exact r2
      have L1 : M1 210 2 = ((D.length + 1 : Nat) : Int) := by subst hM1; rw [wra]; omega
      have C1 : CLc M1 (D ++ [r.2]) := by
        subst hM1
        refine hD.snoc ?_ (fun i hi => ?_)
        · unfold ClC at *
          rw [wrn (by decide), wrn (by decide), wrn (by decide)]; exact r3
        · rw [wrn (by decide), wrn (by decide), wrn (by decide)]; exact f3 i hi
      have fx1 : ∀ b, b < 210 ∨ 217 ≤ b → M1 b = M b := fun b hb => by subst hM1; rw [wrn (by omega)]; exact fx b hb
      simp only [a1, T1.1]
      by_cases hx2 : x.1 ≤ r.1
      · rw [if_pos hx2]
        refine ok_el (by omega) (ok_some ⟨_, rfl, rfl, C1, ?_, fx1⟩)
        rw [List.length_append]
        exact L1
      · rw [if_neg hx2]
        refine ok_if (by omega) (ok_bs (sign_ok T1 hl a1) ?_)
        dsimp only
        by_cases h59 : sg x r.1 = 59
        · refine ok_if h59 ?_
          rw [if_pos h59]
          by_cases hn0 : n = 0
          · rw [if_pos hn0]
            refine ok_if (by rw [L1]; omega) ((told_ok (D := D ++ [r.2]) hl T1 a1 L1).mono (fun z hz => ?_))
            obtain ⟨w, w1, w2⟩ := hz
            exact ⟨w, w1, w2.tr fx1⟩
          · rw [if_neg hn0]
            refine ok_el (by rw [L1]; omega) ?_
            simp only [a1]
            refine ok_chk (by omega) (ok_nm0 (ok_chk (by omega) ?_))
            have ih := fault_l hl n m (r.1 + 1) (D ++ [r.2]) (wr M1 210 6 ((r.1 : Int) + 1)) (by rw [List.length_append]; simp only [List.length_cons, List.length_nil]; omega) (by omega) (by omega) (T1.w _ (by decide) (fun _ => by decide)) (by rw [wra]; omega) (by rw [wrk _ (by decide), L1, List.length_append]; rfl) (fun i c hi => by
              have := C1 i c hi
              unfold ClC at *
              rw [wrn (by decide), wrn (by decide), wrn (by decide)]; exact this) (by omega)
            rw [List.length_append] at ih
            have e1 : ((D.length + [r.2].length : Nat) : Int) = (D.length : Int) + 1 := by simp only [List.length_cons, List.length_nil]; omega
            rw [e1] at ih
            refine ih.mono (fun z hz => ?_)
            obtain ⟨w, w1, w2⟩ := hz
            exact ⟨w, w1, w2.tr (fun b hb => by rw [wrn (by omega)]; exact fx1 b hb)⟩
        · refine ok_el h59 ?_
          rw [if_neg h59]
          refine ((told_ok (D := D ++ [r.2]) hl T1 a1 L1).mono (fun z hz => ?_))
          obtain ⟨w, w1, w2⟩ := hz
          exact ⟨w, w1, w2.tr fx1⟩
/-- what the other one holds of a fault -/
def FAq (x : Nat × Vec) (M : Mem) (w : Nat × List (Int × Int)) : Prop := M 20000 48 = w.1 ∧ ((M 20000 50 = -1 ∧ M 20000 51 = 0 ∧ w.2 = [(1, M 20000 49), (4, sg x w.1)]) ∨ (0 ≤ M 20000 50 ∧ ∃ l : Bool, M 20000 51 = bz l ∧ w.2 = [(1, M 20000 49), (2, M 20000 50), if l = true then (3, (w.1 : Int)) else (4, sg x w.1)]))
def RN (x : Nat × Vec) (M : Mem) : PR → Prop
  | (D, none) => M 20000 48 = -1 ∧ M 20000 49 = D.length ∧ CLm M D
  | (_, some w) => FAq x M w
def FmF (M M' : Mem) : Prop := (∀ k, k ≠ 47 → k ≠ 48 → k ≠ 49 → k ≠ 50 → k ≠ 51 → M' 20000 k = M 20000 k) ∧ ∀ b, b ≠ 20000 → b ≠ 20053 → b ≠ 20054 → b ≠ 20055 → M' b = M b
theorem FmF.tr {M M1 M2 : Mem} (h : FmF M M1) (h2 : FmF M1 M2) : FmF M M2 := ⟨fun k k1 k2 k3 k4 k5 => (h2.1 k k1 k2 k3 k4 k5).trans (h.1 k k1 k2 k3 k4 k5), fun b b1 b2 b3 b4 => (h2.2 b b1 b2 b3 b4).trans (h.2 b b1 b2 b3 b4)⟩
theorem FmF.w {M M' : Mem} (h : FmF M M') {k : Nat} (v : Int) (ha : k = 47 ∨ k = 48 ∨ k = 49 ∨ k = 50 ∨ k = 51) : FmF M (wr M' 20000 k v) := ⟨fun i i1 i2 i3 i4 i5 => by rw [wrk _ (by omega)]; exact h.1 i i1 i2 i3 i4 i5, fun b b1 b2 b3 b4 => by rw [wrn b1]; exact h.2 b b1 b2 b3 b4⟩
theorem fails_ok {M : Mem} (hb : M 20000 48 = -1) {a : Nat} (ha : M 20000 47 = a) : fX9_fails 20000 0 (wr M 20000 50 (-1)) = some (0, wr (wr (wr M 20000 50 (-1)) 20000 48 a) 20000 51 0) := by
  apply ok_eq
  unfold fX9_fails
  have e8 : wr M 20000 50 (-1) 20000 48 = -1 := by rw [wrk _ (by decide)]; exact hb
  have e7 : wr M 20000 50 (-1) 20000 47 = a := by rw [wrk _ (by decide)]; exact ha
  rw [e8, e7]
  exact ok_if (by decide) (ok_nm0 (ok_chk (Or.inl rfl) (ok_some rfl)))
theorem mread_l {x : Nat × Vec} (hl : x.1 ≤ 100) : ∀ (n m a : Nat) (D : List (Int × Int × Int)) (M : Mem), D.length + n = 12 → 0 < n → n + 1 < m → TXm M 20000 x → M 20000 47 = a → M 20000 48 = -1 → M 20000 49 = D.length → CLm M D → a ≤ x.1 → Ok (Option.bind (fX9_clauseRead 20000 M) (fun q => fX9_read_l19 20000 m q.2)) (fun M' => RN x M' (prs x n a D) ∧ FmF M M')
  | 0, _, _, _, _, _, h0, _, _, _, _, _, _, _ => absurd h0 (Nat.lt_irrefl 0)
  | n + 1, 0, _, _, _, _, _, h, _, _, _, _, _, _ => absurd h (Nat.not_lt_zero _)
  | n + 1, m + 1, a, D, M, hn, h0, hm, hT, ha, hb, hL, hD, hx => by
    refine ok_by (clauseRead_ok hl hT ha hb hL (by omega) (by omega)) (fun q hq => ?_)
    obtain ⟨hR, f0, f3, f4⟩ := hq
    have hk := cl_ok hx
    have Tq : TXm q.2 20000 x := hT.fr (f0 46 (by decide) (by decide) (by decide) (by decide) (by decide)) (f4 20046 (by decide) (by decide) (by decide) (by decide))
    have Fq : FmF M q.2 := ⟨f0, f4⟩
    unfold prs
    cases hc : cl x a with
    | inl r =>
      rw [hc] at hR
      obtain ⟨r1, r2, r3, r4⟩ := hR
      unfold fX9_read_l19
      dsimp only
      refine ok_if (by rw [r1]; omega) (ok_some ⟨⟨r1, Or.inr ⟨by rw [r4]; omega, r.2, r2, ?_⟩⟩, Fq⟩)
      rw [r3, r4]
    | inr r =>
      rw [hc] at hR
      obtain ⟨r1, r2, r3, r4⟩ := hR
      have C1 : CLm q.2 (D ++ [r.2]) := hD.snoc r4 f3
      unfold fX9_read_l19
      simp only [Nat.reduceAdd]
      have f9 : ∀ m', 0 < m' → Ok (nm (wr q.2 20000 50 (-1)) (fun M9 => Option.bind (fX9_fails 20000 0 M9) (fun q10 => fX9_read_l19 20000 m' q10.2))) (fun M' => RN x M' (D ++ [r.2], some (r.1, [(1, ((D.length + 1 : Nat) : Int)), (4, sg x r.1)])) ∧ FmF M M') := fun m' hm' => by
        obtain ⟨m2, rfl⟩ : ∃ m2, m' = m2 + 1 := ⟨m' - 1, by omega⟩
        refine ok_nm0 (ok_bs (fails_ok r1 r2) ?_)
        unfold fX9_read_l19
        have e8 : wr (wr (wr q.2 20000 50 (-1)) 20000 48 (r.1 : Nat)) 20000 51 0 20000 48 = (r.1 : Nat) := by rw [wrk _ (by decide), wra]
        refine ok_if (by (try dsimp only); rw [e8]; omega) (ok_some ⟨⟨e8, Or.inl ⟨?_, ?_, ?_⟩⟩, ((Fq.w _ (by omega)).w _ (by omega)).w _ (by omega)⟩)
        · (try dsimp only)
          rw [wrk _ (by decide), wrk _ (by decide), wra]
        · (try dsimp only)
          rw [wra]
        · (try dsimp only)
          rw [wrk _ (by decide), wrk _ (by decide), wrk _ (by decide), r3]
          congr 2
      refine ok_el (by rw [r1]; decide) ?_
      simp only [r2, Tq.1]
      by_cases hx2 : x.1 ≤ r.1
      · rw [if_pos hx2]
        refine ok_if (by omega) (ok_some ⟨⟨r1, ?_, C1⟩, Fq⟩)
        rw [r3, List.length_append]; rfl
      · rw [if_neg hx2]
        refine ok_el (by omega) (ok_chk (by omega) ?_)
        have es : q.2 20046 r.1 = sg x r.1 := by unfold sg; rw [if_pos (by omega)]; exact Tq.2 r.1 (by omega)
        simp only [tn, es]
        by_cases h59 : sg x r.1 = 59
        · refine ok_if h59 ?_
          rw [if_pos h59]
          simp only [r3]
          by_cases hn0 : n = 0
          · rw [if_pos hn0]
            exact ok_if (by omega) (f9 m (by omega))
          · rw [if_neg hn0]
            refine ok_el (by omega) (ok_chk (by omega) (ok_nm0 ?_))
            have ih := mread_l hl n m (r.1 + 1) (D ++ [r.2]) (wr q.2 20000 47 ((r.1 : Int) + 1)) (by rw [List.length_append]; simp only [List.length_cons, List.length_nil]; omega) (by omega) (by omega) (Tq.w _ (by decide) (fun _ => by decide)) (by rw [wra]; omega) (by rw [wrk _ (by decide)]; exact r1) (by rw [wrk _ (by decide), r3, List.length_append]; rfl) (fun i c hi => by
              have := C1 i c hi
              unfold ClM at *
              rw [wrn (by decide), wrn (by decide), wrn (by decide)]; exact this) (by omega)
            exact ih.mono (fun z hz => ⟨hz.1, (Fq.w _ (by omega)).tr hz.2⟩)
        · refine ok_el h59 ?_
          rw [if_neg h59]
          exact f9 m (by omega)
/-- TROUBLE's first two of a clause -/
def fN (M : Mem) (t : Int) : Mem := wr (wr (wr (wr (wr M 20000 15 (t + 1)) 20017 0 1) 20018 0 (M 20000 49)) 20017 1 2) 20018 1 (M 20000 50)
theorem fN_0 {M : Mem} {t : Int} {k : Nat} (hk : k ≠ 15) : fN M t 20000 k = M 20000 k := by
  unfold fN
  rw [wrn (by decide), wrn (by decide), wrn (by decide), wrn (by decide), wrk _ hk]
theorem fN_b {M : Mem} {t : Int} {b : Nat} (b1 : b ≠ 20000) (b2 : b ≠ 20017) (b3 : b ≠ 20018) : fN M t b = M b := by
  unfold fN
  rw [wrn b3, wrn b2, wrn b3, wrn b2, wrn b1]
theorem fN_t {M : Mem} {t : Int} : fN M t 20000 15 = t + 1 ∧ fN M t 20017 0 = 1 ∧ fN M t 20018 0 = M 20000 49 ∧ fN M t 20017 1 = 2 ∧ fN M t 20018 1 = M 20000 50 := by
  unfold fN
  refine ⟨?_, ?_, ?_, ?_, ?_⟩ <;> simp [wr]
theorem faulty_ok {x : Nat × Vec} (hl : x.1 ≤ 100) {M : Mem} {w : Nat × List (Int × Int)} (hT : TXm M 20000 x) (h : FAq x M w) (hw : w.1 ≤ 100) : Ok (fX9_faulty 20000 M) (fun q => q.1 = -10 - (w.1 : Int) ∧ TRm q.2 20000 w.2 ∧ (∀ k, k ≠ 15 → q.2 20000 k = M 20000 k) ∧ ∀ b, b ≠ 20000 → b ≠ 20017 → b ≠ 20018 → q.2 b = M b) := by
  have pre : ∀ t, wr (wr (wr (wr (wr M 20000 15 (t + 1)) 20017 (Int.toNat 0) 1) 20018 (Int.toNat 0) ((wr (wr M 20000 15 (t + 1)) 20017 (Int.toNat 0) 1) 20000 49)) 20017 (Int.toNat 1) 2) 20018 (Int.toNat 1) ((wr (wr (wr (wr M 20000 15 (t + 1)) 20017 (Int.toNat 0) 1) 20018 (Int.toNat 0) ((wr (wr M 20000 15 (t + 1)) 20017 (Int.toNat 0) 1) 20000 49)) 20017 (Int.toNat 1) 2) 20000 50) = fN M t := fun t => by
    have e1 : (wr (wr M 20000 15 (t + 1)) 20017 (Int.toNat 0) 1) 20000 49 = M 20000 49 := by rw [wrn (by decide), wrk _ (by decide)]
    rw [e1]
    have e2 : (wr (wr (wr (wr M 20000 15 (t + 1)) 20017 (Int.toNat 0) 1) 20018 (Int.toNat 0) (M 20000 49)) 20017 (Int.toNat 1) 2) 20000 50 = M 20000 50 := by rw [wrn (by decide), wrn (by decide), wrn (by decide), wrk _ (by decide)]
    rw [e2]
    rfl
  have fin : ∀ (t : Nat) (y z : Int), w.2 = ([(1, M 20000 49), (2, M 20000 50)] : List (Int × Int)).take t ++ [(y, z)] → (t = 1 ∨ t = 2) → (fun q : Int × Mem => q.1 = -10 - (w.1 : Int) ∧ TRm q.2 20000 w.2 ∧ (∀ k, k ≠ 15 → q.2 20000 k = M 20000 k) ∧ ∀ b, b ≠ 20000 → b ≠ 20017 → b ≠ 20018 → q.2 b = M b) (-10 - (w.1 : Int), wr (wr (fN M t) 20017 t y) 20018 t z) := fun t y z hyz ht => by
    obtain ⟨g0, g1, g2, g3, g4⟩ := fN_t (M := M) (t := t)
    refine ⟨rfl, ?_, fun k hk => ?_, fun b b1 b2 b3 => ?_⟩
    · rw [hyz]
      rcases ht with rfl | rfl
      · refine ⟨?_, fun k q hk => ?_⟩
        · show wr (wr (fN M _) 20017 1 y) 20018 1 z 20000 15 = 2
          rw [wrn (by decide), wrn (by decide), g0]; rfl
        · show wr (wr (fN M _) 20017 1 y) 20018 1 z 20017 k = _ ∧ wr (wr (fN M _) 20017 1 y) 20018 1 z 20018 k = _
          rw [wrn (show (20017 : Nat) ≠ 20018 by decide), wre, wre, wrn (show (20018 : Nat) ≠ 20017 by decide)]
          rcases k with _ | _ | k
          · cases hk
            exact ⟨(up_ne (by decide)).trans g1, (up_ne (by decide)).trans g2⟩
          · cases hk
            exact ⟨up_same _ _ _, up_same _ _ _⟩
          · simp at hk
      · refine ⟨?_, fun k q hk => ?_⟩
        · show wr (wr (fN M _) 20017 2 y) 20018 2 z 20000 15 = 3
          rw [wrn (by decide), wrn (by decide), g0]; rfl
        · show wr (wr (fN M _) 20017 2 y) 20018 2 z 20017 k = _ ∧ wr (wr (fN M _) 20017 2 y) 20018 2 z 20018 k = _
          rw [wrn (show (20017 : Nat) ≠ 20018 by decide), wre, wre, wrn (show (20018 : Nat) ≠ 20017 by decide)]
          rcases k with _ | _ | _ | k
          · cases hk
            exact ⟨(up_ne (by decide)).trans g1, (up_ne (by decide)).trans g2⟩
          · cases hk
            exact ⟨(up_ne (by decide)).trans g3, (up_ne (by decide)).trans g4⟩
          · cases hk
            exact ⟨up_same _ _ _, up_same _ _ _⟩
          · simp at hk
    · (try dsimp only)
      rw [wrn (by decide), wrn (by decide), fN_0 hk]
    · (try dsimp only)
      rw [wrn b3, wrn b2, fN_b b1 b2 b3]
  obtain ⟨h8, h⟩ := h
  have c51 : ∀ t, fN M t 20000 51 = M 20000 51 := fun t => fN_0 (by decide)
  have d51 : ∀ t y z, wr (fN M t) 20017 y z 20000 51 = M 20000 51 := fun t y z => by rw [wrn (by decide), c51]
  have d48 : ∀ t y z, wr (fN M t) 20017 y z 20000 48 = w.1 := fun t y z => by rw [wrn (by decide), fN_0 (by decide), h8]
  have f48 : ∀ t y z y2 z2, wr (wr (fN M t) 20017 y z) 20018 y2 z2 20000 48 = w.1 := fun t y z y2 z2 => by rw [wrn (by decide), d48]
  have dT : ∀ t y z, TXm (wr (fN M t) 20017 y z) 20000 x := fun t y z => hT.fr (by rw [wrn (by decide), fN_0 (by decide)]) (by rw [wrn (by decide), fN_b (by decide) (by decide) (by decide)])
  rcases h with h | h
  · obtain ⟨h50, h51, hw2⟩ := h
    unfold fX9_faulty
    simp only [Nat.reduceAdd]
    refine ok_bi (ok_if h50 (ok_some (ok_chk (by omega) (ok_nm0 (ok_nm0 (ok_nm0 (ok_nm0 (ok_nm0 ?_))))))))
    simp only [pre, c51]
    refine ok_bi (ok_if h51 (ok_some (ok_chk (by omega) (ok_nm0 ?_))))
    simp only [d51, d48]
    refine ok_bi (ok_if h51 (ok_bs (msign_ok (dT _ _ _) hl) (ok_some (ok_chk (by omega) (ok_nm0 ?_)))))
    dsimp only
    simp only [f48]
    exact ok_chk (by omega) (ok_some (fin 1 _ _ hw2 (Or.inl rfl)))
  · obtain ⟨h50, l, h51, hw2⟩ := h
    unfold fX9_faulty
    simp only [Nat.reduceAdd]
    refine ok_bi (ok_el (by omega) (ok_some (ok_chk (by omega) (ok_nm0 (ok_nm0 (ok_nm0 (ok_nm0 (ok_nm0 ?_))))))))
    simp only [pre, c51]
    cases l with
    | true =>
      refine ok_bi (ok_el (by rw [h51]; decide) (ok_some (ok_chk (by omega) (ok_nm0 ?_))))
      simp only [d51, d48]
      refine ok_bi (ok_el (by rw [h51]; decide) (ok_some (ok_chk (by omega) (ok_nm0 ?_))))
      dsimp only
      simp only [f48]
      exact ok_chk (by omega) (ok_some (fin 2 _ _ hw2 (Or.inr rfl)))
    | false =>
      refine ok_bi (ok_if (by rw [h51]; rfl) (ok_some (ok_chk (by omega) (ok_nm0 ?_))))
      simp only [d51, d48]
      refine ok_bi (ok_if (by rw [h51]; rfl) (ok_bs (msign_ok (dT _ _ _) hl) (ok_some (ok_chk (by omega) (ok_nm0 ?_)))))
      dsimp only
      simp only [f48]
      exact ok_chk (by omega) (ok_some (fin 2 _ _ hw2 (Or.inr rfl)))
end
