section
/-! told, elected, pile, share -/
theorem elSet_l {a n : Nat} {M : Mem} (hn : n ≤ 8) (h0 : M a 0 = n) : ∀ (m c : Nat) (x : Int), c ≤ n → n < m + c → x = mk c (fun c => decide (M (a + 25) c = 2)) → Ok (fX9_electedSet_l8 a m x c M) (fun z => z.1 = mk n (fun c => decide (M (a + 25) c = 2)) ∧ z.2.2 = M) := by
  intro m
  induction m with
  | zero => intros; omega
  | succ m ih =>
    intro c x h1 h2 hx
    unfold fX9_electedSet_l8
    rw [h0]
    refine ok_ite (fun hc => ok_some ⟨?_, rfl⟩) (fun hc => ?_)
    · have : c = n := by omega
      subst this; exact hx
    · simp only [tn]
      refine ok_chk (by omega) (ok_bi (ok_ite (fun hq => ?_) (fun hq => ?_)))
      · (repeat (first | with_reducible refine ok_nm0 ?_ | (with_reducible refine ok_chk ?_ ?_; · omega) | (with_reducible refine ok_if ?_ ?_; · omega) | (with_reducible refine ok_el ?_ ?_; · omega) | with_reducible refine ok_some ?_ | with_reducible refine ok_bi ?_ | with_reducible refine ok_bsm ?_)); try dsimp only
        refine ih (c + 1) _ (by omega) (by omega) ?_
        rw [hx, mk_pos (by omega) (by simpa using hq)]
      · (repeat (first | with_reducible refine ok_nm0 ?_ | (with_reducible refine ok_chk ?_ ?_; · omega) | (with_reducible refine ok_if ?_ ?_; · omega) | (with_reducible refine ok_el ?_ ?_; · omega) | with_reducible refine ok_some ?_ | with_reducible refine ok_bi ?_ | with_reducible refine ok_bsm ?_)); try dsimp only
        refine ih (c + 1) _ (by omega) (by omega) ?_
        rw [hx, mk_neg (by simpa using hq)]
/-- who is ELECTED in the end, as bits -/
def els (p : PL) : Int := mk p.n (fun c => decide ((cnt p).f c = 2))
theorem elSet_ok {a : Nat} {p : PL} {M : Mem} (h : WF p) (hc : PMm M a p) : Ok (fX9_electedSet a M) (fun q => q.1 = els p ∧ MX q.2 a p (cnt p) (cnt p).h.length ∧ FrM a M q.2) := by
  have h8 := h.1
  unfold fX9_electedSet
  refine ok_by (counts_ok h hc) (fun q hq => ?_)
  have hpm := hq.1.2.2.2.2.2.2.2
  refine ok_by (elSet_l h8 hpm.1 1000 0 0 (by omega) (by omega) rfl) (fun z hz => ok_some ?_)
  obtain ⟨z1, z2⟩ := hz
  try dsimp only
  rw [z1, z2]
  exact ⟨mk_congr (fun c hc => by rw [(hq.1.2.2.1 c hc).1]), hq.1, hq.2⟩
theorem elSet_D {s : SS} (hs : GS s) {M : Mem} (hD : DI M s) : Ok (fX9_electedSet 20000 M) (fun q => q.1 = els s.p ∧ MX q.2 20000 s.p (cnt s.p) (cnt s.p).h.length ∧ DI q.2 s ∧ ∀ x, x < 20000 → q.2 x = M x) := (elSet_ok hs.1.1 hD.1).mono (fun q hq => ⟨hq.1, hq.2.1, hD.fr hq.2.2, fun x hx => hq.2.2.2 x (by omega)⟩)
theorem whoIs_els {t : Nat} {p : PL} {N : Mem} (h : WF p) (hT : CT N t p (cnt p)) : fX4_whoIs t 2 N = some (els p, N) := by
  rw [whoIs_ok h.1 hT.2.2.2.2.2.2.2.2.1]
  unfold els
  rw [mk_congr (q := fun c => decide ((cnt p).f c = 2)) (fun c hc => by rw [(hT.2.2.2.1 c hc).1])]
theorem op_told {s : SS} (hs : GS s) (w : Int) : Op s (fX8_told 10 w) (fX9_told 20000 w) := by
  have h8 := hs.1.1.1
  unfold fX8_told fX9_told
  by_cases hw : 0 ≤ w ∧ w ≤ 8
  · have hM : ∀ (ans : Int) (K : Int × Mem → Option (Int × Mem)), (∀ N, DI N s → MX N 20000 s.p (cnt s.p) (cnt s.p).h.length → Ok (K (els s.p, N)) (PD N s ans)) → ∀ M, DI M s → Ok (Option.bind (fX9_in w 0 8 M) (fun q1 => (if q1.1 = 0 then some ((-1), q1.2) else Option.bind (fX9_electedSet 20000 q1.2) K))) (PD M s ans) := fun ans K hK M hD => by
      refine ok_bs in_ok (ok_el (by (try dsimp only); rw [if_pos hw]; decide) (ok_by (elSet_D hs hD) (fun q hq => ?_)))
      obtain ⟨x, N⟩ := q
      obtain ⟨q1, q2, q3, q4⟩ := hq
      dsimp only at q1 q2 q3 q4
      subst q1
      exact (hK N q3 q2).mono (fun r hr => hr.tr q4)
    have : w = 0 ∨ w = 1 ∨ w = 2 ∨ w = 3 ∨ w = 4 ∨ w = 5 ∨ w = 6 ∨ w = 7 ∨ w = 8 := by omega
    rcases this with e | e | e | e | e | e | e | e | e <;> subst e
    · refine ⟨s.p.n, s, hs, fun M hC => ok_if rfl (ok_some ?_), hM _ _ (fun N hN hX => ok_nm0 (ok_if rfl (ok_some ?_)))⟩
      · rw [hC.1.1.1.1]; exact PC.self hC
      · (try dsimp only); rw [hN.1.1]; exact PD.self hN
    · refine ⟨s.p.nb, s, hs, fun M hC => ok_el (by decide) (ok_if rfl (ok_some ?_)), hM _ _ (fun N hN hX => ok_nm0 (ok_el (by decide) (ok_if rfl (ok_some ?_))))⟩
      · rw [hC.1.1.1.2.1]; exact PC.self hC
      · (try dsimp only); rw [hN.1.2.1]; exact PD.self hN
    · refine ⟨(cnt s.p).h.length, s, hs, fun M hC => ok_el (by decide) (ok_el (by decide) (ok_if rfl (tal_bind hs hC (fun N hN hT hx => ok_some ?_)))), hM _ _ (fun N hN hX => ok_nm0 (ok_el (by decide) (ok_el (by decide) (ok_if rfl (ok_some ?_)))))⟩
      · (try dsimp only); rw [hT.2.2.1]; exact (PC.self hN).tr hx
      · (try dsimp only); rw [hX.1]; exact PD.self hN
    · refine ⟨s.p.se, s, hs, fun M hC => ok_el (by decide) (ok_el (by decide) (ok_el (by decide) (ok_if rfl (ok_some ?_)))), hM _ _ (fun N hN hX => ok_nm0 (ok_el (by decide) (ok_el (by decide) (ok_el (by decide) (ok_if rfl (ok_some ?_))))))⟩
      · rw [hC.1.1.1.2.2.2.2.1]; exact PC.self hC
      · (try dsimp only); rw [hN.1.2.2.2.2.1]; exact PD.self hN
    · refine ⟨s.p.li, s, hs, fun M hC => ok_el (by decide) (ok_el (by decide) (ok_el (by decide) (ok_el (by decide) (ok_if rfl (ok_some ?_))))), hM _ _ (fun N hN hX => ok_nm0 (ok_el (by decide) (ok_el (by decide) (ok_el (by decide) (ok_el (by decide) (ok_if rfl (ok_some ?_)))))))⟩
      · rw [hC.1.1.1.2.2.2.2.2.1]; exact PC.self hC
      · (try dsimp only); rw [hN.1.2.2.2.2.2.1]; exact PD.self hN
    · refine ⟨s.p.ro, s, hs, fun M hC => ok_el (by decide) (ok_el (by decide) (ok_el (by decide) (ok_el (by decide) (ok_el (by decide) (ok_if rfl (ok_some ?_)))))), hM _ _ (fun N hN hX => ok_nm0 (ok_el (by decide) (ok_el (by decide) (ok_el (by decide) (ok_el (by decide) (ok_el (by decide) (ok_if rfl (ok_some ?_))))))))⟩
      · rw [hC.1.1.1.2.2.2.2.2.2]; exact PC.self hC
      · (try dsimp only); rw [hN.1.2.2.2.2.2.2]; exact PD.self hN
    · refine ⟨(cnt s.p).o.length, s, hs, fun M hC => ok_el (by decide) (ok_el (by decide) (ok_el (by decide) (ok_el (by decide) (ok_el (by decide) (ok_el (by decide) (ok_if rfl (tal_bind hs hC (fun N hN hT hx => ok_some ?_)))))))), hM _ _ (fun N hN hX => ok_nm0 (ok_el (by decide) (ok_el (by decide) (ok_el (by decide) (ok_el (by decide) (ok_el (by decide) (ok_el (by decide) (ok_if rfl (ok_some ?_)))))))))⟩
      · (try dsimp only); rw [hT.1]; exact (PC.self hN).tr hx
      · (try dsimp only); rw [hX.2.1]; exact PD.self hN
    · refine ⟨els s.p, s, hs, fun M hC => ok_el (by decide) (ok_el (by decide) (ok_el (by decide) (ok_el (by decide) (ok_el (by decide) (ok_el (by decide) (ok_el (by decide) (ok_if rfl (tal_bind hs hC (fun N hN hT hx => ok_bs (whoIs_els hs.1.1 hT) (ok_some ((PC.self hN).tr hx))))))))))), hM _ _ (fun N hN hX => ok_nm0 (ok_el (by decide) (ok_el (by decide) (ok_el (by decide) (ok_el (by decide) (ok_el (by decide) (ok_el (by decide) (ok_el (by decide) (ok_if rfl (ok_some (PD.self hN)))))))))))⟩
    · refine ⟨(gat s.p).length, s, hs, fun M hC => ok_el (by decide) (ok_el (by decide) (ok_el (by decide) (ok_el (by decide) (ok_el (by decide) (ok_el (by decide) (ok_el (by decide) (ok_el (by decide) (ok_if rfl (tal_bind hs hC (fun N hN hT hx => ok_some ?_)))))))))), hM _ _ (fun N hN hX => ok_nm0 (ok_el (by decide) (ok_el (by decide) (ok_el (by decide) (ok_el (by decide) (ok_el (by decide) (ok_el (by decide) (ok_el (by decide) (ok_el (by decide) (ok_some ?_))))))))))⟩
      · have := hT.2.2.2.2.2.2.2.1.1
        (try dsimp only); rw [this]; exact (PC.self hN).tr hx
      · (try dsimp only); rw [hX.2.2.2.2.2.2.1.1]; exact PD.self hN
  · refine ⟨-1, s, hs, fun M hC => ok_el (by omega) (ok_el (by omega) (ok_el (by omega) (ok_el (by omega) (ok_el (by omega) (ok_el (by omega) (ok_el (by omega) (ok_el (by omega) (ok_el (by omega) (ok_some (PC.self hC)))))))))), fun M hD => ok_bs in_ok (ok_if (by (try dsimp only); rw [if_neg (by omega)]) (ok_some (PD.self hD)))⟩
theorem op_elected {s : SS} (hs : GS s) (i : Int) : Op s (fX8_elected 10 i) (fX9_elected 20000 i) := by
  have h8 := hs.1.1.1
  have hse := hs.1.1.2.2.2.2.2.2.1
  have hol := (cnt_ok hs.1.1).2.2.2.2.1
  unfold fX8_elected fX9_elected
  have cls : ∀ (ans : Int), (∀ N, CI N s → CT N 1000 s.p (cnt s.p) → Ok (Option.bind ((if i < 0 then some ((-5)) else (if i < (N 1000 5) then if 0 ≤ i ∧ i < 8 then some ((N (1000 + 5) (Int.toNat i))) else none else some ((-5)))) : Option (Int)) (fun t9 => some (t9, N))) (PC N s ans)) → ∀ M, CI M s → Ok (Option.bind (fX8_tallied 10 M) (fun q1 => oc q1.1 ((if i < 0 then some ((-5), q1.2) else none)) (fun a2 => if Sh a2 = (13, 14) then Option.bind ((if i < 0 then some ((-5)) else (if i < (q1.2 a2 5) then if 0 ≤ i ∧ i < 8 then some ((q1.2 (a2 + 5) (Int.toNat i))) else none else some ((-5)))) : Option (Int)) (fun t9 => some (t9, q1.2)) else none))) (PC M s ans) := by
    intro ans hK M hC
    refine ok_by (tallied_ok hs hC) (fun q hq => ?_)
    obtain ⟨x, N⟩ := q
    obtain ⟨q1, q2, q3, q4⟩ := hq
    dsimp only at q1 q2 q3 q4
    subst q1
    exact ok_if Sh_t ((hK N q2 q3).mono (fun r hr => hr.tr (fun x hx => q4 x (by omega) (by omega))))
  by_cases hi : 0 ≤ i ∧ i < (cnt s.p).o.length
  · obtain ⟨k, rfl⟩ := Int.eq_ofNat_of_zero_le hi.1
    obtain ⟨c, hc⟩ := getq (pl := (cnt s.p).o) (j := k) (by omega)
    refine ⟨c, s, hs, cls _ (fun N hN hT => ?_), fun M hD => ok_by (counts_D hs hD) (fun q hq => ?_)⟩
    · rw [hT.1]
      refine ok_bi (ok_el (by omega) (ok_if (by omega) (ok_chk (by omega) (ok_some (ok_some ?_)))))
      rw [tn, hT.2.2.2.2.1 k c hc]
      exact PC.self hN
    · obtain ⟨q1, q2, q3⟩ := hq
      rw [q1.2.1]
      refine ok_chk (by omega) (ok_bs in_ok (ok_bi (ok_el (by (try dsimp only); rw [if_pos (by omega)]; decide) (ok_chk (by omega) (ok_some (ok_some ?_))))))
      (try dsimp only); rw [tn, q1.2.2.2.1 k c hc]
      exact (PD.self q2).tr q3
  · refine ⟨-5, s, hs, cls _ (fun N hN hT => ?_), fun M hD => ok_by (counts_D hs hD) (fun q hq => ?_)⟩
    · rw [hT.1]
      exact ok_bi (ok_ite (fun _ => ok_some (ok_some (PC.self hN))) (fun h0 => ok_el (by omega) (ok_some (ok_some (PC.self hN)))))
    · obtain ⟨q1, q2, q3⟩ := hq
      rw [q1.2.1]
      exact ok_chk (by omega) (ok_bs in_ok (ok_bi (ok_if (by (try dsimp only); rw [if_neg (by omega)]) (ok_some (ok_some ((PD.self q2).tr q3))))))
theorem tellP_D {s : SS} (hs : GS s) {M : Mem} (hD : DI M s) : Ok (fX9_tellPiles 20000 M) (fun q => PAm q.2 20000 (gat s.p) ∧ DI q.2 s ∧ ∀ x, x < 20000 → q.2 x = M x) := (tellPiles_ok hs.1.1 hD.1).mono (fun q hq => by
    have f1 : FrM 20000 M q.2 := ⟨fun j j1 _ _ _ _ _ _ => hq.2.1 j j1, fun x hx => hq.2.2 x (by omega) (by omega) (by omega) (by omega)⟩
    exact ⟨hq.1, hD.fr f1, fun x hx => f1.2 x (by omega)⟩)
theorem op_pile {s : SS} (hs : GS s) (i w : Int) : Op s (fX8_pile 10 i w) (fX9_pile 20000 i w) := by
  obtain ⟨g1, g2, g3⟩ := gat_ok hs.1.1
  unfold fX8_pile fX9_pile
  by_cases hi : 0 ≤ i ∧ i < (gat s.p).length
  · obtain ⟨k, rfl⟩ := Int.eq_ofNat_of_zero_le hi.1
    obtain ⟨r, hr⟩ := getq (pl := gat s.p) (j := k) (by omega)
    have hg := g2 r (List.mem_of_getElem? hr)
    by_cases w0 : w = 0
    · refine ⟨num r.1, s, hs, fun M hC => tal_bind hs hC (fun N hN hT hx => ?_), fun M hD => ok_by (tellP_D hs hD) (fun q hq => ?_)⟩
      · have hp := hT.2.2.2.2.2.2.2.1
        try dsimp only
        simp only [hp.1]
        refine ok_el (by omega) (ok_if (by omega) (ok_if w0 (ok_chk (by omega) ?_)))
        rw [tn, (hp.2 k r hr).1]
        exact ok_bs (asTold_ok hg.1 hg.2.1 N) (ok_some ((PC.self hN).tr hx))
      · obtain ⟨q1, q2, q3⟩ := hq
        rw [q1.1]
        refine ok_chk (by omega) (ok_bs in_ok (ok_el (by (try dsimp only); rw [if_pos (by omega)]; decide) (ok_bs in_ok (ok_el (by (try dsimp only); rw [if_pos (by omega)]; decide) (ok_bi (ok_if w0 (ok_chk (by omega) (ok_some (ok_some ?_)))))))))
        (try dsimp only); rw [tn, (q1.2 k r hr).1]
        exact (PD.self q2).tr q3
    · by_cases w1 : w = 1
      · refine ⟨r.2, s, hs, fun M hC => tal_bind hs hC (fun N hN hT hx => ?_), fun M hD => ok_by (tellP_D hs hD) (fun q hq => ?_)⟩
        · have hp := hT.2.2.2.2.2.2.2.1
          try dsimp only
          simp only [hp.1]
          refine ok_el (by omega) (ok_if (by omega) (ok_el w0 (ok_if w1 (ok_chk (by omega) (ok_some ?_)))))
          rw [tn, (hp.2 k r hr).2]
          exact (PC.self hN).tr hx
        · obtain ⟨q1, q2, q3⟩ := hq
          rw [q1.1]
          refine ok_chk (by omega) (ok_bs in_ok (ok_el (by (try dsimp only); rw [if_pos (by omega)]; decide) (ok_bs in_ok (ok_el (by (try dsimp only); rw [if_pos (by omega)]; decide) (ok_bi (ok_el w0 (ok_chk (by omega) (ok_some (ok_some ?_)))))))))
          (try dsimp only); rw [tn, (q1.2 k r hr).2.2]
          exact (PD.self q2).tr q3
      · refine ⟨-1, s, hs, fun M hC => tal_bind hs hC (fun N hN hT hx => ?_), fun M hD => ok_by (tellP_D hs hD) (fun q hq => ?_)⟩
        · have hp := hT.2.2.2.2.2.2.2.1
          try dsimp only
          simp only [hp.1]
          exact ok_el (by omega) (ok_if (by omega) (ok_el w0 (ok_el w1 (ok_some ((PC.self hN).tr hx)))))
        · obtain ⟨q1, q2, q3⟩ := hq
          rw [q1.1]
          exact ok_chk (by omega) (ok_bs in_ok (ok_el (by (try dsimp only); rw [if_pos (by omega)]; decide) (ok_bs in_ok (ok_if (by (try dsimp only); rw [if_neg (by omega)]) (ok_some ((PD.self q2).tr q3))))))
  · refine ⟨-1, s, hs, fun M hC => tal_bind hs hC (fun N hN hT hx => ?_), fun M hD => ok_by (tellP_D hs hD) (fun q hq => ?_)⟩
    · have hp := hT.2.2.2.2.2.2.2.1
      try dsimp only
      simp only [hp.1]
      exact ok_ite (fun _ => ok_some ((PC.self hN).tr hx)) (fun h0 => ok_el (by omega) (ok_some ((PC.self hN).tr hx)))
    · obtain ⟨q1, q2, q3⟩ := hq
      rw [q1.1]
      exact ok_chk (by omega) (ok_bs in_ok (ok_if (by (try dsimp only); rw [if_neg (by omega)]) (ok_some ((PD.self q2).tr q3))))
/-! lowest terms -/
theorem mod_half {y r : Nat} (hr : r < y) (hr0 : 0 < r) : y % r * 2 ≤ y := by
  by_cases h : r * 2 ≤ y
  · have := Nat.mod_lt y hr0
    omega
  · have : y % r = y - r := by rw [Nat.mod_eq_sub_mod (by omega), Nat.mod_eq_of_lt (by omega)]
    omega
theorem low_l {a b c : Int} {M : Mem} : ∀ (k m x y : Nat), y < 2 ^ k → 2 * k < m → Ok (fX9_lowest_l6 a b c m (x : Int) (y : Int) M) (fun z => z.1 = ((Nat.gcd x y : Nat) : Int) ∧ z.2.2 = M) := by
  intro k
  induction k with
  | zero =>
    intro m x y hy hm
    obtain ⟨m, rfl⟩ : ∃ m', m = m' + 1 := ⟨m - 1, by omega⟩
    have : y = 0 := by simpa using hy
    subst this
    unfold fX9_lowest_l6
    exact ok_if rfl (ok_some ⟨by rw [Nat.gcd_zero_right], rfl⟩)
  | succ k ih =>
    intro m x y hy hm
    obtain ⟨m, rfl⟩ : ∃ m', m = m' + 2 := ⟨m - 2, by omega⟩
    unfold fX9_lowest_l6
    by_cases h0 : y = 0
    · subst h0
      exact ok_if rfl (ok_some ⟨by rw [Nat.gcd_zero_right], rfl⟩)
    · refine ok_el (by omega) (ok_chk (by omega) (ok_nm0 ?_))
      have e1 : (x : Int) % (y : Int) = ((x % y : Nat) : Int) := by omega
      rw [e1]
      have hr : x % y < y := Nat.mod_lt _ (by omega)
      have eg : Nat.gcd x y = Nat.gcd y (x % y) := by rw [Nat.gcd_comm, Nat.gcd_rec, Nat.gcd_comm]
      unfold fX9_lowest_l6
      by_cases h1 : x % y = 0
      · rw [h1]
        exact ok_if rfl (ok_some ⟨by rw [eg, h1, Nat.gcd_zero_right], rfl⟩)
      · refine ok_el (by omega) (ok_chk (by omega) (ok_nm0 ?_))
        have e2 : (y : Int) % ((x % y : Nat) : Int) = ((y % (x % y) : Nat) : Int) := by omega
        rw [e2]
        have hh := mod_half hr (by omega)
        have hp : 2 ^ (k + 1) = 2 * 2 ^ k := by rw [Nat.pow_succ]; omega
        have eg2 : Nat.gcd y (x % y) = Nat.gcd (x % y) (y % (x % y)) := by rw [Nat.gcd_comm, Nat.gcd_rec, Nat.gcd_comm]
        rw [eg, eg2]
        exact ih m _ _ (by omega) (by omega)
theorem div_l {M : Mem} : ∀ (k m x y t : Nat), y < 2 ^ k → 2 * k < m → t + 2 * k < 1000 → Ok (fX8_commonDivisor_l9 m (x : Int) (y : Int) (t : Int) M) (fun z => z.1 = ((Nat.gcd x y : Nat) : Int) ∧ z.2.2.2 = M) := by
  intro k
  induction k with
  | zero =>
    intro m x y t hy hm ht
    obtain ⟨m, rfl⟩ : ∃ m', m = m' + 1 := ⟨m - 1, by omega⟩
    have : y = 0 := by simpa using hy
    subst this
    unfold fX8_commonDivisor_l9
    exact ok_el (by omega) (ok_if (by omega) (ok_some ⟨by rw [Nat.gcd_zero_right], rfl⟩))
  | succ k ih =>
    intro m x y t hy hm ht
    obtain ⟨m, rfl⟩ : ∃ m', m = m' + 2 := ⟨m - 2, by omega⟩
    unfold fX8_commonDivisor_l9
    by_cases h0 : y = 0
    · subst h0
      exact ok_el (by omega) (ok_if (by omega) (ok_some ⟨by rw [Nat.gcd_zero_right], rfl⟩))
    · refine ok_el (by omega) (ok_el (by omega) (ok_chk (by omega) (ok_nm0 (ok_chk (by omega) ?_))))
      have e1 : (x : Int) % (y : Int) = ((x % y : Nat) : Int) := by omega
      rw [e1]
      have hr : x % y < y := Nat.mod_lt _ (by omega)
      have eg : Nat.gcd x y = Nat.gcd y (x % y) := by rw [Nat.gcd_comm, Nat.gcd_rec, Nat.gcd_comm]
      unfold fX8_commonDivisor_l9
      by_cases h1 : x % y = 0
      · rw [h1]
        exact ok_el (by omega) (ok_if (by omega) (ok_some ⟨by rw [eg, h1, Nat.gcd_zero_right], rfl⟩))
      · refine ok_el (by omega) (ok_el (by omega) (ok_chk (by omega) (ok_nm0 (ok_chk (by omega) ?_))))
        have e2 : (y : Int) % ((x % y : Nat) : Int) = ((y % (x % y) : Nat) : Int) := by omega
        rw [e2, show (t : Int) + 1 + 1 = ((t + 2 : Nat) : Int) by omega]
        have hh := mod_half hr (by omega)
        have hp : 2 ^ (k + 1) = 2 * 2 ^ k := by rw [Nat.pow_succ]; omega
        have eg2 : Nat.gcd y (x % y) = Nat.gcd (x % y) (y % (x % y)) := by rw [Nat.gcd_comm, Nat.gcd_rec, Nat.gcd_comm]
        rw [eg, eg2]
        exact ih m _ _ (t + 2) (by omega) (by omega) (by omega)
theorem pow43 : (4611686000000 : Nat) < 2 ^ 43 := by decide
theorem op_share {s : SS} (hs : GS s) (i c w : Int) : Op s (fX8_share 10 i c w) (fX9_share 20000 i c w) := by
  have hl := cnt_len hs.1.1
  have h8 := hs.1.1.1
  unfold fX8_share fX9_share
  refine stage_op hs (fun k sr hi hk hsr => ?_)
  subst hi
  have v1 : ∀ N : Mem, CT N 1000 s.p (cnt s.p) → SRc N (1045 + 16 * k) s.p.n sr := fun N hT => hT.2.2.2.2.2.1 k sr hsr
  have v2 := fun (N : Mem) (hT : MX N 20000 s.p (cnt s.p) (cnt s.p).h.length) => hT.2.2.2.2.1 k sr hsr
  have c1 := fun (N : Mem) (hN : CI N s) => hasCand_ok (c := c) (M := N) (o := 11000) (n := s.p.n) hN.1.1.1.1
  have c2 := fun (N : Mem) (hD : DI N s) => isOne_ok (c := c) (M := N) (a := 20000) (n := s.p.n) h8 hD.1.1
  have hok := (cnt_ok hs.1.1).2.2.2.2.2.2.1 sr (List.mem_of_getElem? hsr)
  by_cases hc : 0 ≤ c ∧ c < s.p.n
  · obtain ⟨d, rfl⟩ := Int.eq_ofNat_of_zero_le hc.1
    have hd : d < s.p.n := by omega
    rw [if_pos hc] at *
    have e8 : 8 * (k : Int) + (d : Int) = ((8 * k + d : Nat) : Int) := by omega
    have hg := hok.1 d hd
    have ht := hok.2.2.2.1
    have hle : sr.g d ≤ sm s.p.n sr.g := sm_le (fun c hc => (hok.1 c hc).1) d hd
    have hsm : sm s.p.n sr.g ≤ 8 * 4611686000000 := by
      have : ∀ j, j ≤ s.p.n → sm j sr.g ≤ j * 4611686000000 := by
        intro j
        induction j with
        | zero => intro _; simp [sm]
        | succ j ih => intro hj; have := ih (by omega); have := (hok.1 j (by omega)).2; show sm j sr.g + sr.g j ≤ _; omega
      have := this s.p.n (Nat.le_refl _)
      omega
    have hy : sr.t.toNat < 2 ^ 46 := by
      have : (2 : Nat) ^ 46 = 70368744177664 := by decide
      omega
    by_cases hw : 0 ≤ w ∧ w ≤ 1
    · by_cases hz : sr.g d = 0
      · refine ⟨w, fun N hN hT => ok_bs (c1 N hN) (ok_el (show ¬ ((1 : Int) = 0) by decide) (ok_el (by omega) (ok_if (by omega) (ok_chk (by omega) (ok_nm0 ?_))))), fun N hD hX => ok_bs (c2 N hD) (ok_el (show ¬ ((1 : Int) = 0) by decide) (ok_bs in_ok (ok_el (by (try dsimp only); rw [if_pos (by omega)]; decide) (ok_chk (by omega) ?_))))⟩
        · (try dsimp only); rw [tn, (v1 N hT).2.2.2.2.2.2.2.1 d hd, hz]
          exact ok_if rfl (ok_some (PC.self hN))
        · (try dsimp only)
          simp only [e8, tn, (v2 N hX).2.2.2.2.2.2.1, ((v2 N hX).2.2.2.2.2.2.2 d hd).1, hz]
          refine ok_ite (fun h0 => ok_some (PD.self hD)) (fun h0 => ok_chk (by omega) (ok_chk (by omega) (ok_chk (by omega) (ok_chk (by omega) ?_))))
          have ht2 : sr.t = ((sr.t.toNat : Nat) : Int) := by omega
          unfold fX9_lowest
          rw [ht2]
          refine ok_bind (ok_by (low_l (a := 0) (b := ((sr.t.toNat : Nat) : Int)) (c := w) (M := N) 46 1000 0 sr.t.toNat hy (by omega)) (fun z hz2 => ?_))
          obtain ⟨z1, z2⟩ := hz2
          rw [z1, z2, Nat.gcd_zero_left]
          by_cases w0 : w = 0
          · subst w0
            refine ok_bi (ok_if rfl (ok_some (ok_chk (by omega) (ok_some (ok_some ?_)))))
            rw [Int.zero_ediv]; exact PD.self hD
          · have w1 : w = 1 := by omega
            subst w1
            refine ok_bi (ok_el (by decide) (ok_some (ok_chk (by omega) (ok_some (ok_some ?_)))))
            rw [Int.ediv_self (by omega)]; exact PD.self hD
      · have ex : sr.g d = (((sr.g d).toNat : Nat) : Int) := by omega
        have ey : sr.t = ((sr.t.toNat : Nat) : Int) := by omega
        have hpos : 0 < Nat.gcd (sr.g d).toNat sr.t.toNat := Nat.gcd_pos_of_pos_left _ (by omega)
        refine ⟨(if w = 0 then sr.g d else sr.t) / ((Nat.gcd (sr.g d).toNat sr.t.toNat : Nat) : Int), fun N hN hT => ok_bs (c1 N hN) (ok_el (show ¬ ((1 : Int) = 0) by decide) (ok_el (by omega) (ok_if (by omega) (ok_chk (by omega) (ok_nm0 ?_))))), fun N hD hX => ok_bs (c2 N hD) (ok_el (show ¬ ((1 : Int) = 0) by decide) (ok_bs in_ok (ok_el (by (try dsimp only); rw [if_pos (by omega)]; decide) (ok_chk (by omega) ?_))))⟩
        · (try dsimp only)
          simp only [tn, (v1 N hT).2.2.2.2.2.2.2.1 d hd, (v1 N hT).2.2.2.2.2.2.1]
          refine ok_el hz ?_
          have hcd : fX8_commonDivisor (sr.g d) sr.t N = some (((Nat.gcd (sr.g d).toNat sr.t.toNat : Nat) : Int), N) := by
            apply ok_eq
            unfold fX8_commonDivisor
            rw [ex, ey]
            refine ok_by (div_l (M := N) 46 1000 (sr.g d).toNat sr.t.toNat 0 hy (by omega) (by omega)) (fun z hz2 => ok_some ?_)
            rw [hz2.1, hz2.2]
            simp only [Int.toNat_natCast]
          refine ok_bs hcd (ok_nm0 ?_)
          dsimp only
          simp only [(v1 N hT).2.2.2.2.2.2.1]
          by_cases w0 : w = 0
          · have hv : (if w = 0 then sr.g d else sr.t) = sr.g d := if_pos w0
            rw [hv]
            exact ok_bi (ok_if w0 (ok_some (ok_bs (cut_ok (x := sr.g d) (y := ((Nat.gcd (sr.g d).toNat sr.t.toNat : Nat) : Int)) (by omega) (by omega) N) (ok_some (PC.self hN)))))
          · have hv : (if w = 0 then sr.g d else sr.t) = sr.t := if_neg w0
            rw [hv]
            exact ok_bi (ok_el w0 (ok_some (ok_bs (cut_ok (x := sr.t) (y := ((Nat.gcd (sr.g d).toNat sr.t.toNat : Nat) : Int)) (by omega) (by omega) N) (ok_some (PC.self hN)))))
        · (try dsimp only)
          simp only [e8, tn, (v2 N hX).2.2.2.2.2.2.1, ((v2 N hX).2.2.2.2.2.2.2 d hd).1]
          refine ok_el (by omega) (ok_chk (by omega) (ok_chk (by omega) (ok_chk (by omega) (ok_chk (by omega) ?_))))
          have hlw : fX9_lowest (sr.g d) sr.t w N = some ((if w = 0 then sr.g d else sr.t) / ((Nat.gcd (sr.g d).toNat sr.t.toNat : Nat) : Int), N) := by
            apply ok_eq
            unfold fX9_lowest
            have hL := low_l (a := sr.g d) (b := sr.t) (c := w) (M := N) 46 1000 (sr.g d).toNat sr.t.toNat hy (by omega)
            rw [← ex, ← ey] at hL
            refine ok_by hL (fun z hz2 => ?_)
            rw [hz2.1, hz2.2]
            by_cases w0 : w = 0
            · have hv : (if w = 0 then sr.g d else sr.t) = sr.g d := if_pos w0
              rw [hv]
              exact ok_bi (ok_if w0 (ok_some (ok_chk (by omega) (ok_some rfl))))
            · have hv : (if w = 0 then sr.g d else sr.t) = sr.t := if_neg w0
              rw [hv]
              exact ok_bi (ok_el w0 (ok_some (ok_chk (by omega) (ok_some rfl))))
          exact ok_bs hlw (ok_some (PD.self hD))
    · refine ⟨-9223372036854775808, fun N hN hT => ok_bs (c1 N hN) (ok_el (show ¬ ((1 : Int) = 0) by decide) (ok_ite (fun _ => ok_some (PC.self hN)) (fun h0 => ok_el (by omega) (ok_some (PC.self hN))))), fun N hD hX => ok_bs (c2 N hD) (ok_el (show ¬ ((1 : Int) = 0) by decide) (ok_bs in_ok (ok_if (by (try dsimp only); rw [if_neg (by omega)]) (ok_some (PD.self hD)))))⟩
  · rw [if_neg hc] at *
    exact ⟨-9223372036854775808, fun N hN hT => ok_bs (c1 N hN) (ok_if rfl (ok_some (PC.self hN))), fun N hD hX => ok_bs (c2 N hD) (ok_if rfl (ok_some (PD.self hD)))⟩
end
