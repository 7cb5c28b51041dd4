section
/-! judge -/
def jd (i : Nat) (sz : Nat) (it g : Vec) : Nat → Nat → Int
  | 0, _ => -5
  | k + 1, c => if (i : Int) < (sz : Int) - c then (if it (i + c) = g c then jd i sz it g k (c + 1) else c) else 100 + c
theorem judgeC_l {s : SS} {M : Mem} {i : Nat} {a5 a11 sz : Nat} {it g : Vec} (h8 : s.p.n ≤ 8) (h0 : M 11000 0 = s.p.n) (hz : sz ≤ 60) (h1 : M a11 1 = sz) (hit : ∀ k, k < sz → M (a11 + 3) k = it k) (hg : ∀ c, c < s.p.n → M (a5 + 8) c = g c) : ∀ (m k c : Nat), c + k = s.p.n → k < m → Ok (fX8_judge_l60 10 i a5 a11 m c M) (fun z => ∃ r, z = .inl r ∧ r = (jd i sz it g k c, M)) := by
  intro m
  induction m with
  | zero => intros; omega
  | succ m ih =>
    intro k c h2 h3
    unfold fX8_judge_l60
    simp only [Nat.reduceAdd]
    rw [h0]
    cases k with
    | zero => exact ok_if (by omega) (ok_some ⟨_, rfl, rfl⟩)
    | succ k =>
      have e : jd i sz it g (k + 1) c = if (i : Int) < (sz : Int) - c then (if it (i + c) = g c then jd i sz it g k (c + 1) else (c : Int)) else 100 + c := rfl
      simp only [h1]
      refine ok_el (by omega) (ok_chk (by omega) (ok_ite (fun h4 => ok_chk (by omega) (ok_chk (by omega) (ok_chk (by omega) ?_))) (fun h4 => ok_chk (by omega) (ok_some ⟨_, rfl, ?_⟩))))
      · rw [if_pos h4] at e
        rw [show (i : Int) + (c : Int) = ((i + c : Nat) : Int) by omega]
        simp only [tn, hit (i + c) (by omega), hg c (by omega)]
        refine ok_ite (fun h5 => ok_chk (by omega) ?_) (fun h5 => ok_some ⟨_, rfl, ?_⟩)
        · rw [if_pos h5] at e
          rw [e]; exact ih k (c + 1) (by omega) (by omega)
        · rw [if_neg h5] at e
          rw [e]
      · rw [if_neg h4] at e
        rw [e]
theorem judgeM_l {s : SS} {M : Mem} {i : Nat} {st t sz : Nat} {it g : Vec} (h8 : s.p.n ≤ 8) (hst : st < 8) (ht : t < 6) (h0 : M 20000 0 = s.p.n) (hz : sz ≤ 60) (h1 : M 20067 t = sz) (hit : ∀ k, k < sz → M (20104 + 16 * t) k = it k) (hg : ∀ c, c < s.p.n → M 20034 (8 * st + c) = g c) : ∀ (m k c : Nat), c + k = s.p.n → k < m → Ok (fX9_judge_l58 20000 st t i m c M) (fun z => ∃ r, z = .inl r ∧ r = (jd i sz it g k c, M)) := by
  intro m
  induction m with
  | zero => intros; omega
  | succ m ih =>
    intro k c h2 h3
    unfold fX9_judge_l58
    simp only [Nat.reduceAdd]
    rw [h0]
    cases k with
    | zero => exact ok_if (by omega) (ok_some ⟨_, rfl, rfl⟩)
    | succ k =>
      have e : jd i sz it g (k + 1) c = if (i : Int) < (sz : Int) - c then (if it (i + c) = g c then jd i sz it g k (c + 1) else (c : Int)) else 100 + c := rfl
      have e8 : 8 * (st : Int) + (c : Int) = ((8 * st + c : Nat) : Int) := by omega
      simp only [tn, h1, e8]
      refine ok_el (by omega) (ok_chk (by omega) (ok_chk (by omega) (ok_ite (fun h4 => ok_chk (by omega) (ok_chk (by omega) (ok_chk (by omega) (ok_chk (by omega) (ok_chk (by omega) (ok_chk (by omega) ?_)))))) (fun h4 => ok_chk (by omega) (ok_some ⟨_, rfl, ?_⟩)))))
      · rw [if_pos h4] at e
        rw [show (i : Int) + (c : Int) = ((i + c : Nat) : Int) by omega]
        simp only [tn, hit (i + c) (by omega), hg c (by omega)]
        refine ok_ite (fun h5 => ok_chk (by omega) ?_) (fun h5 => ok_some ⟨_, rfl, ?_⟩)
        · rw [if_pos h5] at e
          rw [e]; exact ih k (c + 1) (by omega) (by omega)
        · rw [if_neg h5] at e
          rw [e]
      · rw [if_neg h4] at e
        rw [e]
theorem op_judge {s : SS} (hs : GS s) (st t i : Int) : Op s (fX8_judge 10 st t i) (fX9_judge 20000 st t i) := by
  have hl := cnt_len hs.1.1
  have h8 := hs.1.1.1
  have hlen := (cnt_ok hs.1.1).2.2.2.2.2.1
  have hcn := cn_nn s.p.n (hop (cnt s.p).f)
  have one0 : ¬ ((1 : Int) = 0) := by decide
  have hX : ∀ M, DI M s → Ok (fX9_isStage 20000 st M) (fun q => q.1 = (if 0 ≤ st ∧ st < (cnt s.p).h.length then 1 else 0) ∧ MX q.2 20000 s.p (cnt s.p) (cnt s.p).h.length ∧ DI q.2 s ∧ ∀ x, x < 20000 → q.2 x = M x) := fun M hD => (isStage_ok hs.1.1 hD.1).mono (fun q hq => ⟨hq.1, hq.2.1, hD.fr hq.2.2, fun x hx => hq.2.2.2 x (by omega)⟩)
  unfold fX8_judge fX9_judge
  by_cases e : 0 ≤ st ∧ st < (cnt s.p).h.length
  · obtain ⟨k, rfl⟩ := Int.eq_ofNat_of_zero_le e.1
    have hk : k < (cnt s.p).h.length := by omega
    have hk8 : k < 8 := by omega
    have hn1 : 1 ≤ s.p.n := by omega
    obtain ⟨sr, hsr⟩ := getq (pl := (cnt s.p).h) (j := k) hk
    by_cases ht : 0 ≤ t ∧ t < 6
    · obtain ⟨u, rfl⟩ := Int.eq_ofNat_of_zero_le ht.1
      have hu : u < 6 := by omega
      have hg := hs.2.2.2.2.2 u hu
      have hz := hg.2
      -- the common head
      have clsK : ∀ (ans : Int) (K1 : (Option Nat × Mem) → Option (Int × Mem)) (K : Nat → Nat → (Option Nat × Mem) → Option (Int × Mem)), (∀ N, CI N s → CT N 1000 s.p (cnt s.p) → Ok (K (1045 + 16 * k) (56 + 16 * u) (some (56 + 16 * u), N)) (PC N s ans)) → ∀ M, CI M s → Ok (Option.bind (fX8_tallied 10 M) (fun q1 => oc q1.1 (none) (fun a2 => if Sh a2 = (13, 14) then Option.bind (fX4_stageAt a2 (k : Int) q1.2) (fun q4 => oc q4.1 (K1 q4) (fun a5 => if Sh a5 = (12, 9) then Option.bind (fX8_tapeAt 10 (u : Int) q4.2) (fun q10 => oc q10.1 (some ((-1), q10.2)) (fun a11 => if Sh a11 = (14, 3) then K a5 a11 q10 else none)) else none)) else none))) (PC M s ans) := fun ans K1 K hK M hC => tal_bind hs hC (fun N hN hT hx => by
        refine ok_bs (stageAt_ok hl hT) ?_
        dsimp only
        rw [if_pos e, tn]
        show Ok (if Sh (1045 + 16 * k) = (12, 9) then _ else none) _
        refine ok_if (Sh_s k hk8) (ok_bs tapeAt_ok ?_)
        dsimp only
        rw [if_pos ht, tn]
        show Ok (if Sh (56 + 16 * u) = (14, 3) then K (1045 + 16 * k) (56 + 16 * u) (some (56 + 16 * u), N) else none) _
        exact ok_if (Sh_tp u hu) ((hK N hN hT).mono (fun q hq => hq.tr hx)))
      have mdlK : ∀ (ans : Int) (K : (Int × Mem) → Option (Int × Mem)), (∀ N, DI N s → MX N 20000 s.p (cnt s.p) (cnt s.p).h.length → Ok (K (1, N)) (PD N s ans)) → ∀ M, DI M s → Ok (Option.bind (fX9_isStage 20000 (k : Int) M) (fun q1 => (if q1.1 = 0 then some ((-1), q1.2) else Option.bind (fX9_isTape (u : Int) q1.2) (fun q3 => (if q3.1 = 0 then some ((-1), q3.2) else if 0 ≤ (u : Int) ∧ (u : Int) < 6 then K q3 else none))))) (PD M s ans) := fun ans K hK M hD => ok_by (hX M hD) (fun q hq => by
        obtain ⟨x, N⟩ := q
        obtain ⟨q1, q2, q3, q4⟩ := hq
        dsimp only at q1 q2 q3 q4
        rw [if_pos e] at q1
        subst q1
        have e6 : (if 0 ≤ (u : Int) ∧ (u : Int) < 6 then (1 : Int) else 0) = 1 := if_pos ht
        have tk : fX9_isTape (u : Int) N = some (1, N) := by rw [isTape_ok, e6]
        exact ok_el one0 (ok_bs tk (ok_el one0 (ok_chk ht ((hK N q3 q2).mono (fun r hr => hr.tr q4))))))
      have v1 : ∀ N : Mem, CT N 1000 s.p (cnt s.p) → SRc N (1045 + 16 * k) s.p.n sr := fun N hT => hT.2.2.2.2.2.1 k sr hsr
      have v2 := fun (N : Mem) (hT : MX N 20000 s.p (cnt s.p) (cnt s.p).h.length) => hT.2.2.2.2.1 k sr hsr
      have tc := fun (N : Mem) (hN : CI N s) => hN.1.2.2.2.2 u hu
      have td : ∀ (N : Mem), DI N s → N 20066 u = (s.tp u).1 ∧ N 20067 u = (s.tp u).2.1 ∧ ∀ i, i < (s.tp u).2.1 → N (20104 + 16 * u) i = (s.tp u).2.2 i := fun N hD => hD.2.2.2.2.2 u hu
      simp only [Nat.reduceAdd]
      by_cases h3 : (s.tp u).1 = 3
      · by_cases hi : 0 ≤ i
        · obtain ⟨i, rfl⟩ := Int.eq_ofNat_of_zero_le hi
          refine ⟨jd i (s.tp u).2.1 (s.tp u).2.2 sr.g s.p.n 0, s, hs, clsK _ _ _ (fun N hN hT => ok_if (by (try dsimp only); rw [(tc N hN).1]; exact h3) (ok_if hi (ok_lrl ((judgeC_l (i := i) (it := (s.tp u).2.2) (sz := (s.tp u).2.1) (g := sr.g) h8 hN.1.1.1.1 hz (tc N hN).2.1 (fun x hx => by rw [show 56 + 16 * u + 3 = 59 + 16 * u by omega]; exact (tc N hN).2.2 x hx) (fun c hc => (v1 N hT).2.2.2.2.2.2.2.1 c hc) 1000 s.p.n 0 (by omega) (by omega)).mono (fun z hz => ?_))))), mdlK _ _ (fun N hD hX => ok_el ?_ (ok_chk ht (ok_if ?_ (ok_chk ht (ok_el ?_ (ok_if hi (ok_lrl ((judgeM_l (i := i) (it := (s.tp u).2.2) (sz := (s.tp u).2.1) (g := sr.g) h8 hk8 hu hD.1.1 hz (td N hD).2.1 (td N hD).2.2 (fun c hc => ((v2 N hX).2.2.2.2.2.2.2 c hc).1) 1000 s.p.n 0 (by omega) (by omega)).mono (fun z hz => ?_)))))))))⟩
          · obtain ⟨r, e1, e2⟩ := hz
            exact ⟨r, e1, by rw [e2]; exact PC.self hN⟩
          · (try dsimp only); rw [tn, (td N hD).1]; omega
          · (try dsimp only); rw [tn, (td N hD).1]; exact h3
          · (try dsimp only); rw [tn, (td N hD).1]; omega
          · obtain ⟨r, e1, e2⟩ := hz
            exact ⟨r, e1, by rw [e2]; exact PD.self hD⟩
        · refine ⟨100, s, hs, clsK _ _ _ (fun N hN hT => ok_if (by (try dsimp only); rw [(tc N hN).1]; exact h3) (ok_el hi (ok_some (PC.self hN)))), mdlK _ _ (fun N hD hX => ok_el ?_ (ok_chk ht (ok_if ?_ (ok_chk ht (ok_el ?_ (ok_el hi (ok_some (PD.self hD))))))))⟩
          · (try dsimp only); rw [tn, (td N hD).1]; omega
          · (try dsimp only); rw [tn, (td N hD).1]; exact h3
          · (try dsimp only); rw [tn, (td N hD).1]; omega
      · by_cases hm : (s.tp u).1 = -1
        · have hz0 : (s.tp u).2.1 = 0 := by
            rcases hg.1 with h | h
            · exact h.2
            · omega
          refine ⟨100, s, hs, clsK _ _ _ (fun N hN hT => ok_el (by (try dsimp only); rw [(tc N hN).1]; exact h3) (ok_if (by (try dsimp only); rw [(tc N hN).1]; exact hm) (ok_ite (fun hi => ?_) (fun _ => ok_some (PC.self hN))))), mdlK _ _ (fun N hD hX => ok_if ?_ (ok_chk ht (ok_if ?_ (ok_some (PD.self hD)))))⟩
          · obtain ⟨i, rfl⟩ := Int.eq_ofNat_of_zero_le hi
            refine ok_lrl ((judgeC_l (i := i) (it := (s.tp u).2.2) (sz := (s.tp u).2.1) (g := sr.g) h8 hN.1.1.1.1 hz (tc N hN).2.1 (fun x hx => by rw [show 56 + 16 * u + 3 = 59 + 16 * u by omega]; exact (tc N hN).2.2 x hx) (fun c hc => (v1 N hT).2.2.2.2.2.2.2.1 c hc) 1000 s.p.n 0 (by omega) (by omega)).mono (fun z hz => ?_))
            obtain ⟨r, e1, e2⟩ := hz
            refine ⟨r, e1, ?_⟩
            have : jd i (s.tp u).2.1 (s.tp u).2.2 sr.g s.p.n 0 = 100 := by
              obtain ⟨m, hm'⟩ : ∃ m, s.p.n = m + 1 := ⟨s.p.n - 1, by omega⟩
              rw [hm', hz0]
              show (if (i : Int) < ((0 : Nat) : Int) - ((0 : Nat) : Int) then _ else (100 : Int) + ((0 : Nat) : Int)) = 100
              rw [if_neg (by omega)]; rfl
            rw [e2, this]; exact PC.self hN
          · (try dsimp only); rw [tn, (td N hD).1]; omega
          · (try dsimp only); rw [tn, (td N hD).1]; omega
        · refine ⟨-12, s, hs, clsK _ _ _ (fun N hN hT => ok_el (by (try dsimp only); rw [(tc N hN).1]; exact h3) (ok_el (by (try dsimp only); rw [(tc N hN).1]; exact hm) (ok_some (PC.self hN)))), mdlK _ _ (fun N hD hX => ok_el ?_ (ok_chk ht (ok_el ?_ (ok_some (PD.self hD)))))⟩
          · (try dsimp only); rw [tn, (td N hD).1]; rcases hg.1 with h | h <;> omega
          · (try dsimp only); rw [tn, (td N hD).1]; exact h3
    · refine ⟨-1, s, hs, fun M hC => tal_bind hs hC (fun N hN hT hx => ?_), fun M hD => ok_by (hX M hD) (fun q hq => ?_)⟩
      · refine ok_bs (stageAt_ok hl hT) ?_
        dsimp only
        rw [if_pos e, tn]
        show Ok (if Sh (1045 + 16 * k) = (12, 9) then _ else none) _
        exact ok_if (Sh_s k hk8) (ok_bs tapeAt_ok (oc_tp (fun _ => ok_some ((PC.self hN).tr hx)) (fun k2 hk2 h6 => absurd ⟨by omega, by omega⟩ ht)))
      · obtain ⟨q1, q2, q3, q4⟩ := hq
        exact ok_el (by rw [q1, if_pos e]; exact one0) (ok_bs isTape_ok (ok_if (by rw [if_neg ht]) (ok_some ((PD.self q3).tr q4))))
  · refine ⟨-1, s, hs, fun M hC => tal_bind hs hC (fun N hN hT hx => ?_), fun M hD => ok_by (hX M hD) (fun q hq => ?_)⟩
    · refine ok_bs (stageAt_ok hl hT) ?_
      dsimp only
      rw [if_neg e]
      exact ok_bs tapeAt_ok (oc_tp (fun _ => ok_some ((PC.self hN).tr hx)) (fun k2 hk2 h6 => ok_some ((PC.self hN).tr hx)))
    · obtain ⟨q1, q2, q3, q4⟩ := hq
      exact ok_if (by rw [q1, if_neg e]) (ok_some ((PD.self q3).tr q4))
end
