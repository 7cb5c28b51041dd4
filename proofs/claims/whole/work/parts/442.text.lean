section
/-! the text; its signs and numbers -/
abbrev wX (s : SS) (x : Nat × Vec) : SS := (s.1, s.2.1, s.2.2.1, x, s.2.2.2.2)
theorem CI.tx {M M' : Mem} {s : SS} {x : Nat × Vec} (hs : GS s) (h : CI M s) (hT : TXc M' x) (hx : ∀ b, b < 210 ∨ 217 ≤ b → M' b = M b) : CI M' (wX s x) := by
  obtain ⟨⟨a1, a2, a3, a4, a5⟩, a6⟩ := h
  refine ⟨⟨a1.same (fun x _ _ => hx x (by omega)), ?_, hT, ?_, fun k hk => ?_⟩, a6.same hs.1.1 (by rw [hx 10 (by omega)]) (fun x hx' => hx x (by omega))⟩
  · show IMc M' s.i
    cases e : s.i with
    | none => rw [e] at a2; show M' 10 3 = 0; rw [hx 10 (by omega)]; exact a2
    | some q => rw [e] at a2; exact ⟨by rw [hx 10 (by omega)]; exact a2.1, a2.2.same (fun x _ _ => hx x (by omega))⟩
  · show TRc M' s.t
    unfold TRc at *
    rw [hx 310 (by omega), hx 312 (by omega), hx 313 (by omega)]; exact a4
  · rw [hx (56 + 16 * k) (by omega), hx (59 + 16 * k) (by omega)]; exact a5 k hk
theorem DI.tx {M M' : Mem} {s : SS} {x : Nat × Vec} {t : List (Int × Int)} (h : DI M s) (hT : TXm M' 20000 x) (hR : TRm M' 20000 t) (h0 : ∀ j, j ≤ 14 ∨ j = 55 → M' 20000 j = M 20000 j) (hx : ∀ b, (20003 ≤ b ∧ b < 20017) ∨ (20057 ≤ b ∧ b < 20069) ∨ 20104 ≤ b → M' b = M b) : DI M' (wX (wT s t) x) := by
  obtain ⟨a1, a2, a3, a4, a5, a6⟩ := h
  refine ⟨a1.same (fun k hk => h0 k (by omega)) (hx _ (by omega)) (hx _ (by omega)) (hx _ (by omega)) (hx _ (by omega)), ?_, ?_, hT, hR, fun t ht => ?_⟩
  · show SEm M' 20000 s.e
    unfold SEm at *
    rw [h0 9 (by omega), h0 10 (by omega), hx (20000 + 12) (by omega), hx (20000 + 13) (by omega), hx (20000 + 14) (by omega), hx (20000 + 15) (by omega)]
    exact a2
  · show IMm M' 20000 s.i
    cases e : s.i with
    | none => rw [e] at a3; exact (h0 55 (by omega)).trans a3
    | some q =>
      rw [e] at a3
      unfold IMm at *
      rw [h0 55 (by omega), hx (20000 + 57) (by omega), hx (20000 + 58) (by omega), hx (20000 + 59) (by omega), hx (20000 + 60) (by omega), hx (20000 + 61) (by omega), hx (20000 + 62) (by omega), hx (20000 + 63) (by omega), hx (20000 + 64) (by omega), hx (20000 + 65) (by omega)]
      exact a3
  · rw [hx (20000 + 66) (by omega), hx (20000 + 67) (by omega), hx (20000 + 68 + 36 + 16 * t) (by omega)]; exact a6 t ht
theorem wX_GS {s : SS} (hs : GS s) {x : Nat × Vec} (hx : x.1 ≤ 100 ∧ ∀ k, k < x.1 → 0 ≤ x.2 k ∧ x.2 k ≤ 127) : GS (wX s x) := ⟨hs.1, hs.2.1, hs.2.2.1, hx, hs.2.2.2.2⟩
theorem op_feed {s : SS} (hs : GS s) (v : Int) : Op s (fX8_feed 10 v) (fX9_feed 20000 v) := by
  unfold fX8_feed fX9_feed
  simp only [Nat.reduceAdd]
  have one0 : ¬ ((1 : Int) = 0) := by decide
  have hg := hs.2.2.2.1
  by_cases h0 : 0 ≤ v
  · by_cases h1 : v ≤ 127
    · by_cases h2 : s.x.1 < 100
      · refine ⟨s.x.1 + 1, wX s (s.x.1 + 1, up s.x.2 s.x.1 v), wX_GS hs ⟨by show s.x.1 + 1 ≤ 100; omega, fun k hk => ?_⟩, fun M hC => ?_, fun M hD => ?_⟩
        · show 0 ≤ up s.x.2 s.x.1 v k ∧ up s.x.2 s.x.1 v k ≤ 127
          by_cases e : k = s.x.1
          · subst e; rw [up_same]; omega
          · rw [up_ne e]; exact hg.2 k (by have hk' : k < s.x.1 + 1 := hk; omega)
        · have hv : TXc M s.x := hC.1.2.2.1
          refine ok_el (by omega) (ok_if h1 (ok_if (by rw [hv.1]; omega) (ok_chk (by rw [hv.1]; omega) (ok_nm0 ?_))))
          rw [hv.1, tn]
          have e0 : wr M 212 s.x.1 v 210 0 = s.x.1 := by rw [wrn (by decide)]; exact hv.1
          simp only [e0]
          refine ok_chk (by omega) (ok_nm0 (ok_some ?_))
          refine ⟨by (try dsimp only); rw [wra], hC.tx hs ⟨?_, fun k hk => ?_⟩ (fun b hb => ?_), fun b hb => ?_⟩
          · (try dsimp only); rw [wra]; show (s.x.1 : Int) + 1 = ((s.x.1 + 1 : Nat) : Int); omega
          · dsimp only
            rw [wrn (by decide), wre]
            by_cases e : k = s.x.1
            · subst e; rw [up_same, up_same]
            · rw [up_ne e, up_ne e]; exact hv.2 k (by have hk' : k < s.x.1 + 1 := hk; omega)
          · (try dsimp only); rw [wrn (by omega), wrn (by omega)]
          · (try dsimp only); rw [wrn (by omega), wrn (by omega)]
        · have hv : TXm M 20000 s.x := hD.2.2.2.1
          refine ok_bs in_ok (ok_el (by (try dsimp only); rw [if_pos (by omega)]; decide) (ok_el (by (try dsimp only); rw [hv.1]; omega) (ok_chk (by (try dsimp only); rw [hv.1]; omega) (ok_nm0 ?_))))
          dsimp only
          rw [hv.1, tn]
          have e0 : wr M 20046 s.x.1 v 20000 46 = s.x.1 := by rw [wrn (by decide)]; exact hv.1
          simp only [e0]
          refine ok_chk (by omega) (ok_nm0 (ok_some ?_))
          refine ⟨by (try dsimp only); rw [wra], ?_, fun b hb => ?_⟩
          · refine hD.tx (t := s.t) ⟨?_, fun k hk => ?_⟩ ?_ (fun j hj => ?_) (fun b hb => ?_)
            · (try dsimp only); rw [wra]; show (s.x.1 : Int) + 1 = ((s.x.1 + 1 : Nat) : Int); omega
            · dsimp only
              rw [wrn (by decide), wre]
              by_cases e : k = s.x.1
              · subst e; rw [up_same, up_same]
              · rw [up_ne e, up_ne e]; exact hv.2 k (by have hk' : k < s.x.1 + 1 := hk; omega)
            · have h5 := hD.2.2.2.2.1
              unfold TRm at *
              dsimp only
              rw [wrk _ (by decide), wrn (by decide), wrn (b := 20000 + 17) (by decide), wrn (b := 20000 + 17) (by decide), wrn (b := 20000 + 18) (by decide), wrn (b := 20000 + 18) (by decide)]
              exact h5
            · (try dsimp only); rw [wrk _ (by omega), wrn (by omega)]
            · (try dsimp only); rw [wrn (by omega), wrn (by omega)]
          · (try dsimp only); rw [wrn (by omega), wrn (by omega)]
      · have h2' : s.x.1 = 100 := by have := hg.1; omega
        exact ⟨-4, s, hs, fun M hC => ok_el (by omega) (ok_if h1 (ok_el (by rw [hC.1.2.2.1.1]; omega) (ok_some (PC.self hC)))), fun M hD => ok_bs in_ok (ok_el (by (try dsimp only); rw [if_pos (by omega)]; decide) (ok_if (by (try dsimp only); rw [hD.2.2.2.1.1]; omega) (ok_some (PD.self hD))))⟩
    · exact ⟨-2, s, hs, fun M hC => ok_el (by omega) (ok_el h1 (ok_some (PC.self hC))), fun M hD => ok_bs in_ok (ok_if (by (try dsimp only); rw [if_neg (by omega)]) (ok_some (PD.self hD)))⟩
  · exact ⟨-2, s, hs, fun M hC => ok_if (by omega) (ok_some (PC.self hC)), fun M hD => ok_bs in_ok (ok_if (by (try dsimp only); rw [if_neg (by omega)]) (ok_some (PD.self hD)))⟩
/-- the sign at a place -/
def sg (x : Nat × Vec) (a : Nat) : Int := if a < x.1 then x.2 a else -1
/-- digits read: what they say, where they end -/
def rdN (x : Nat × Vec) : Nat → Nat → Int → Int × Nat
  | 0, a, v => (v, a)
  | m + 1, a, v => if 48 ≤ sg x a ∧ sg x a ≤ 57 then rdN x m (a + 1) (v * 10 + sg x a - 48) else (v, a)
theorem rdN_le (x : Nat × Vec) : ∀ (m a : Nat) (v : Int), a ≤ (rdN x m a v).2 ∧ (rdN x m a v).2 ≤ a + m ∧ (a ≤ x.1 → (rdN x m a v).2 ≤ x.1)
  | 0, a, v => ⟨Nat.le_refl _, Nat.le_refl _, fun h => h⟩
  | m + 1, a, v => by
    unfold rdN
    by_cases h : 48 ≤ sg x a ∧ sg x a ≤ 57
    · rw [if_pos h]
      have ih := rdN_le x m (a + 1) (v * 10 + sg x a - 48)
      have hl : a < x.1 := by
        unfold sg at h
        by_cases c : a < x.1
        · exact c
        · rw [if_neg c] at h; omega
      exact ⟨by omega, by omega, fun _ => ih.2.2 hl⟩
    · rw [if_neg h]
      exact ⟨Nat.le_refl _, by omega, fun h => h⟩
theorem sg_lt {x : Nat × Vec} {a : Nat} (h : 0 ≤ sg x a) : a < x.1 := by
  unfold sg at h
  by_cases c : a < x.1
  · exact c
  · rw [if_neg c] at h; omega
def cap : Nat → Int
  | 0 => 1000000000
  | m + 1 => cap m / 10
theorem cap_le : ∀ m, cap m ≤ 1000000000
  | 0 => by decide
  | m + 1 => by
    have := cap_le m
    show cap m / 10 ≤ 1000000000
    omega
theorem wr_self {M : Mem} {a j : Nat} {v : Int} (h : M a j = v) : wr M a j v = M := by
  funext b k
  simp only [wr]
  by_cases e : b = a ∧ k = j
  · rw [if_pos e, e.1, e.2, h]
  · rw [if_neg e]
theorem wr_wr (M : Mem) (a j : Nat) (v w : Int) : wr (wr M a j v) a j w = wr M a j w := by
  funext b k
  simp only [wr]
  by_cases e : b = a ∧ k = j
  · rw [if_pos e, if_pos e]
  · rw [if_neg e, if_neg e, if_neg e]
theorem TXc.w {M : Mem} {x : Nat × Vec} (h : TXc M x) {a j : Nat} (v : Int) (ha : a ≠ 212) (hj : a = 210 → j ≠ 0) : TXc (wr M a j v) x := by
  refine ⟨?_, fun k hk => by rw [wrn (by omega)]; exact h.2 k hk⟩
  by_cases e : a = 210
  · rw [wrk _ (by have := hj e; omega)]; exact h.1
  · rw [wrn (by omega)]; exact h.1
theorem TXm.w {M : Mem} {x : Nat × Vec} (h : TXm M 20000 x) {a j : Nat} (v : Int) (ha : a ≠ 20046) (hj : a = 20000 → j ≠ 46) : TXm (wr M a j v) 20000 x := by
  refine ⟨?_, fun k hk => by rw [wrn (by omega)]; exact h.2 k hk⟩
  by_cases e : a = 20000
  · rw [wrk _ (by have := hj e; omega)]; exact h.1
  · rw [wrn (by omega)]; exact h.1
theorem sign_ok {M : Mem} {x : Nat × Vec} (h : TXc M x) (hl : x.1 ≤ 100) {a : Nat} (ha : M 210 6 = a) : fX6_sign 210 M = some (sg x a, M) := by
  apply ok_eq
  unfold fX6_sign
  simp only [Nat.reduceAdd, ha, h.1]
  unfold sg
  by_cases c : a < x.1
  · refine ok_bi (ok_el (by omega) (ok_el (by omega) (ok_chk (by omega) (ok_some (ok_some ?_)))))
    rw [if_pos c, tn, h.2 a c]
  · refine ok_bi (ok_el (by omega) (ok_if (by omega) (ok_some (ok_some ?_))))
    rw [if_neg c]
theorem msign_ok {M : Mem} {x : Nat × Vec} (h : TXm M 20000 x) (hl : x.1 ≤ 100) {a : Nat} : fX9_signAt 20000 (a : Int) M = some (sg x a, M) := by
  apply ok_eq
  unfold fX9_signAt
  have e : M (20000 + 46) = M 20046 := rfl
  simp only [h.1]
  unfold sg
  by_cases c : a < x.1
  · refine ok_bi (ok_el (by omega) (ok_chk (by omega) (ok_some (ok_some ?_))))
    rw [if_pos c, tn, h.2 a c]
  · refine ok_bi (ok_if (by omega) (ok_some (ok_some ?_)))
    rw [if_neg c]
theorem number_l {x : Nat × Vec} (hl : x.1 ≤ 100) : ∀ (m n c a : Nat) (v : Int) (M : Mem), m < n → TXc M x → M 210 6 = a → a ≤ 200 → 0 ≤ v → v < cap m → c + m ≤ 9 → Ok (fX6_number_l4 210 ((c + m : Nat) : Int) n v c M) (fun z => z.1 = (rdN x m a v).1 ∧ z.2.1 = ((c + ((rdN x m a v).2 - a) : Nat) : Int) ∧ z.2.2 = wr M 210 6 ((rdN x m a v).2 : Nat))
  | m, 0, _, _, _, _, hn, _, _, _, _, _, _ => absurd hn (Nat.not_lt_zero m)
  | 0, n + 1, c, a, v, M, _, hT, ha, h2, h3, h4, h5 => by
    unfold fX6_number_l4
    refine ok_if (by omega) (ok_some ⟨rfl, ?_, ?_⟩)
    · show (c : Int) = ((c + (a - a) : Nat) : Int); omega
    · show M = wr M 210 6 (a : Nat); rw [wr_self ha]
  | m + 1, n + 1, c, a, v, M, hn, hT, ha, h2, h3, h4, h5 => by
    unfold fX6_number_l4
    have h4' : v < cap m / 10 := h4
    have hcap := cap_le m
    refine ok_el (by omega) (ok_bs (sign_ok hT hl ha) ?_)
    dsimp only
    by_cases hd : 48 ≤ sg x a ∧ sg x a ≤ 57
    · have hlt := sg_lt (x := x) (a := a) (by omega)
      refine ok_el (by omega) (ok_bs (sign_ok hT hl ha) (ok_el (by (try dsimp only); omega) (ok_chk (by omega) (ok_bs (sign_ok hT hl ha) ?_))))
      dsimp only
      refine ok_chk (by omega) (ok_chk (by omega) (ok_nm0 ?_))
      simp only [ha]
      refine ok_chk (by omega) (ok_nm0 (ok_chk (by omega) ?_))
      have ih := number_l hl m n (c + 1) (a + 1) (v * 10 + sg x a - 48) (wr M 210 6 ((a : Int) + 1)) (by omega) (hT.w _ (by decide) (fun _ => by decide)) (by rw [wra]; omega) (by omega) (by omega) (by omega) (by omega)
      rw [show c + 1 + m = c + (m + 1) by omega] at ih
      refine ih.mono (fun z hz => ?_)
      have hr := (rdN_le x m (a + 1) (v * 10 + sg x a - 48)).1
      have e : rdN x (m + 1) a v = rdN x m (a + 1) (v * 10 + sg x a - 48) := by rw [rdN, if_pos hd]
      rw [e]
      refine ⟨hz.1, ?_, ?_⟩
      · rw [hz.2.1]; omega
      · rw [hz.2.2, wr_wr]
    · have e : rdN x (m + 1) a v = (v, a) := by rw [rdN, if_neg hd]
      rw [e]
      have fin : ∀ (z : Int × Int × Mem), z = (v, (c : Int), M) → z.1 = v ∧ z.2.1 = ((c + (a - a) : Nat) : Int) ∧ z.2.2 = wr M 210 6 (a : Nat) := fun z hz => by
        subst hz
        exact ⟨rfl, by show (c : Int) = ((c + (a - a) : Nat) : Int); omega, by show M = _; rw [wr_self ha]⟩
      by_cases h8 : sg x a < 48
      · exact ok_if h8 (ok_some (fin _ rfl))
      · exact ok_el h8 (ok_bs (sign_ok hT hl ha) (ok_if (by (try dsimp only); omega) (ok_some (fin _ rfl))))
/-- a number that wants a digit -/
def lk (x : Nat × Vec) (m a : Nat) : Int := if (rdN x m a 0).2 = a then 1 else 0
theorem number_ok {x : Nat × Vec} (hl : x.1 ≤ 100) {m a : Nat} {M : Mem} (hT : TXc M x) (ha : M 210 6 = a) (h2 : a ≤ 200) (hm : m ≤ 9) : fX6_number 210 m M = some ((rdN x m a 0).1, wr (wr M 210 6 ((rdN x m a 0).2 : Nat)) 210 7 (lk x m a)) := by
  apply ok_eq
  unfold fX6_number
  have hc : 0 < cap m := by
    have : ∀ m, m ≤ 9 → 0 < cap m := by decide
    exact this m hm
  have h := number_l hl m 1000 0 a 0 M (by omega) hT ha h2 (Int.le_refl 0) hc (by omega)
  rw [Nat.zero_add] at h
  refine ok_by h (fun z hz => ?_)
  obtain ⟨z1, z2, z3⟩ := hz
  have hr := (rdN_le x m a 0).1
  rw [z1, z2, z3]
  unfold lk
  by_cases e : (rdN x m a 0).2 = a
  · refine ok_bi (ok_if (by omega) (ok_some (ok_chk (by omega) (ok_nm0 (ok_some ?_)))))
    rw [if_pos e]
  · refine ok_bi (ok_el (by omega) (ok_some (ok_chk (by omega) (ok_nm0 (ok_some ?_)))))
    rw [if_neg e]
theorem mnumber_l {x : Nat × Vec} (hl : x.1 ≤ 100) : ∀ (m n c a : Nat) (v : Int) (M : Mem), m < n → TXm M 20000 x → M 20000 47 = a → M 20000 48 = -1 → a ≤ 200 → 0 ≤ v → v < cap m → c + m ≤ 9 → Ok (fX9_numberRead_l4 20000 ((c + m : Nat) : Int) n c v M) (fun z => z.2.1 = (rdN x m a v).1 ∧ z.1 = ((c + ((rdN x m a v).2 - a) : Nat) : Int) ∧ z.2.2 = wr M 20000 47 ((rdN x m a v).2 : Nat))
  | m, 0, _, _, _, _, hn, _, _, _, _, _, _, _ => absurd hn (Nat.not_lt_zero m)
  | 0, n + 1, c, a, v, M, _, hT, ha, hb, h2, h3, h4, h5 => by
    unfold fX9_numberRead_l4
    refine ok_el (by omega) (ok_if (by omega) (ok_some ⟨rfl, ?_, ?_⟩))
    · show (c : Int) = ((c + (a - a) : Nat) : Int); omega
    · show M = wr M 20000 47 (a : Nat); rw [wr_self ha]
  | m + 1, n + 1, c, a, v, M, hn, hT, ha, hb, h2, h3, h4, h5 => by
    unfold fX9_numberRead_l4
    have h4' : v < cap m / 10 := h4
    have hcap := cap_le m
    refine ok_el (by omega) (ok_el (by omega) ?_)
    rw [ha]
    refine ok_bs (msign_ok hT hl) (ok_bs in_ok ?_)
    dsimp only
    by_cases hd : 48 ≤ sg x a ∧ sg x a ≤ 57
    · have hlt := sg_lt (x := x) (a := a) (by omega)
      have es : M (20000 + 46) a = sg x a := by unfold sg; rw [if_pos hlt]; exact hT.2 a hlt
      refine ok_el (by rw [if_pos hd]; decide) (ok_chk (by omega) ?_)
      simp only [ha, tn, es]
      refine ok_chk (by omega) (ok_chk (by omega) (ok_chk (by omega) (ok_nm0 (ok_chk (by omega) (ok_chk (by omega) (ok_nm0 ?_))))))
      have ih := mnumber_l hl m n (c + 1) (a + 1) (v * 10 + sg x a - 48) (wr M 20000 47 ((a : Int) + 1)) (by omega) (hT.w _ (by decide) (fun _ => by decide)) (by rw [wra]; omega) (by rw [wrk _ (by decide)]; exact hb) (by omega) (by omega) (by omega) (by omega)
      rw [show c + 1 + m = c + (m + 1) by omega] at ih
      have e10 : 10 * v + sg x a - 48 = v * 10 + sg x a - 48 := by omega
      simp only [e10]
      refine ih.mono (fun z hz => ?_)
      have hr := (rdN_le x m (a + 1) (v * 10 + sg x a - 48)).1
      have e : rdN x (m + 1) a v = rdN x m (a + 1) (v * 10 + sg x a - 48) := by rw [rdN, if_pos hd]
      rw [e]
      refine ⟨hz.1, ?_, ?_⟩
      · rw [hz.2.1]; omega
      · rw [hz.2.2, wr_wr]
    · have e : rdN x (m + 1) a v = (v, a) := by rw [rdN, if_neg hd]
      rw [e]
      refine ok_if (by rw [if_neg hd]) (ok_some ⟨rfl, ?_, ?_⟩)
      · show (c : Int) = ((c + (a - a) : Nat) : Int); omega
      · show M = wr M 20000 47 (a : Nat); rw [wr_self ha]
/-- what stands after a number -/
def nmM (x : Nat × Vec) (m a : Nat) (M : Mem) : Mem := if (rdN x m a 0).2 = a then wr (wr M 20000 48 a) 20000 51 1 else wr M 20000 47 ((rdN x m a 0).2 : Nat)
theorem mnumber_ok {x : Nat × Vec} (hl : x.1 ≤ 100) {m a : Nat} {M : Mem} (hT : TXm M 20000 x) (ha : M 20000 47 = a) (hb : M 20000 48 = -1) (h2 : a ≤ 200) (hm : m ≤ 9) : fX9_numberRead 20000 m M = some ((rdN x m a 0).1, nmM x m a M) := by
  apply ok_eq
  unfold fX9_numberRead
  have hc : 0 < cap m := by
    have : ∀ m, m ≤ 9 → 0 < cap m := by decide
    exact this m hm
  have h := mnumber_l hl m 1000 0 a 0 M (by omega) hT ha hb h2 (Int.le_refl 0) hc (by omega)
  rw [Nat.zero_add] at h
  refine ok_by h (fun z hz => ?_)
  obtain ⟨z1, z2, z3⟩ := hz
  have hr := (rdN_le x m a 0).1
  rw [z1, z2, z3]
  unfold nmM
  by_cases e : (rdN x m a 0).2 = a
  · rw [if_pos e, e, wr_self ha]
    unfold fX9_fails
    refine ok_bi (ok_if (by omega) (ok_bind ?_))
    refine ok_if (by omega) (ok_nm0 (ok_chk (Or.inr rfl) (ok_some (ok_some (ok_some ?_)))))
    rw [ha]
  · rw [if_neg e]
    exact ok_bi (ok_el (by omega) (ok_some (ok_some rfl)))
end
