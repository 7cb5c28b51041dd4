section
/-! questions about THE COUNT -/
theorem Sh_t : Sh 1000 = (13, 14) := rfl
theorem Sh_s : ∀ k, k < 8 → Sh (1045 + 16 * k) = (12, 9) := by decide
theorem tal_bind {β : Type} {s : SS} {M : Mem} (hs : GS s) (h : CI M s) {K : Nat → (Option Nat × Mem) → Option β} {P : β → Prop} (hk : ∀ N, CI N s → CT N 1000 s.p (cnt s.p) → (∀ x, 20000 ≤ x → N x = M x) → Ok (K 1000 (some 1000, N)) P) : Ok (Option.bind (fX8_tallied 10 M) (fun q => oc q.1 none (fun a => if Sh a = (13, 14) then K a q else none))) P := by
  refine ok_by (tallied_ok hs h) (fun q hq => ?_)
  obtain ⟨x, N⟩ := q
  obtain ⟨q1, q2, q3, q4⟩ := hq
  dsimp only at q1 q2 q3 q4
  subst q1
  show Ok (if Sh 1000 = (13, 14) then K 1000 (some 1000, N) else none) P
  exact ok_if Sh_t (hk N q2 q3 (fun x hx => q4 x (by omega) (by omega)))
theorem stageAt_ok {N : Mem} {p : PL} {st : ST} {i : Int} (hl : st.h.length ≤ 8) (h : CT N 1000 p st) : fX4_stageAt 1000 i N = some (if 0 ≤ i ∧ i < st.h.length then some (1045 + 16 * i.toNat) else none, N) := by
  apply ok_eq
  unfold fX4_stageAt
  rw [h.2.2.1]
  refine ok_ite (fun h1 => ok_some ?_) (fun h1 => ok_ite (fun h2 => ok_some ?_) (fun h2 => ok_if (by omega) (ok_chk (by omega) (ok_some ?_))))
  · rw [if_neg (by omega)]
  · rw [if_neg (by omega)]
  · rw [if_pos (by omega)]
theorem isStage_ok {M : Mem} {a : Nat} {p : PL} {i : Int} (h : WF p) (hc : PMm M a p) : Ok (fX9_isStage a i M) (fun q => q.1 = (if 0 ≤ i ∧ i < (cnt p).h.length then 1 else 0) ∧ MX q.2 a p (cnt p) (cnt p).h.length ∧ FrM a M q.2) := by
  have hl := cnt_len h
  unfold fX9_isStage
  refine ok_by (counts_ok h hc) (fun q hq => ?_)
  rw [hq.1.1]
  refine ok_chk (by omega) (ok_bs in_ok (ok_chk (b01 _) (ok_some ⟨?_, hq.1, hq.2⟩)))
  dsimp only
  by_cases e : 0 ≤ i ∧ i < (cnt p).h.length
  · rw [if_pos e, if_pos (by omega)]
  · rw [if_neg e, if_neg (by omega)]
theorem stage_op {s : SS} (hs : GS s) {i dflt : Int} {Kc : Nat → (Option Nat × Mem) → Option (Int × Mem)} {Km : (Int × Mem) → Option (Int × Mem)} (H : ∀ (k : Nat) (sr : SR), i = (k : Int) → k < 8 → (cnt s.p).h[k]? = some sr → ∃ ans, (∀ N, CI N s → CT N 1000 s.p (cnt s.p) → Ok (Kc (1045 + 16 * k) (some (1045 + 16 * k), N)) (PC N s ans)) ∧ ∀ N, DI N s → MX N 20000 s.p (cnt s.p) (cnt s.p).h.length → Ok (Km (1, N)) (PD N s ans)) : Op s (fun M => Option.bind (fX8_tallied 10 M) (fun q1 => oc q1.1 none (fun a2 => if Sh a2 = (13, 14) then Option.bind (fX4_stageAt a2 i q1.2) (fun q4 => oc q4.1 (some (dflt, q4.2)) (fun a5 => if Sh a5 = (12, 9) then Kc a5 q4 else none)) else none))) (fun M => Option.bind (fX9_isStage 20000 i M) (fun q1 => if q1.1 = 0 then some (dflt, q1.2) else Km q1)) := by
  have hl := cnt_len hs.1.1
  have hX : ∀ M, DI M s → Ok (fX9_isStage 20000 i M) (fun q => q.1 = (if 0 ≤ i ∧ i < (cnt s.p).h.length then 1 else 0) ∧ MX q.2 20000 s.p (cnt s.p) (cnt s.p).h.length ∧ DI q.2 s ∧ ∀ x, x < 20000 → q.2 x = M x) := fun M hD => (isStage_ok hs.1.1 hD.1).mono (fun q hq => ⟨hq.1, hq.2.1, hD.fr hq.2.2, fun x hx => hq.2.2.2 x (by omega)⟩)
  by_cases e : 0 ≤ i ∧ i < (cnt s.p).h.length
  · obtain ⟨k, rfl⟩ := Int.eq_ofNat_of_zero_le e.1
    obtain ⟨sr, hsr⟩ := getq (pl := (cnt s.p).h) (j := k) (by omega)
    obtain ⟨ans, h1, h2⟩ := H k sr rfl (by omega) hsr
    refine ⟨ans, s, hs, fun M hC => tal_bind hs hC (fun N hN hT hx => ?_), fun M hD => ok_by (hX M hD) (fun q hq => ?_)⟩
    · refine ok_bs (stageAt_ok hl hT) ?_
      dsimp only
      rw [if_pos e, tn]
      show Ok (if Sh (1045 + 16 * k) = (12, 9) then Kc (1045 + 16 * k) (some (1045 + 16 * k), N) else none) _
      exact ok_if (Sh_s k (by omega)) ((h1 N hN hT).mono (fun q hq => hq.tr hx))
    · obtain ⟨x, N⟩ := q
      obtain ⟨q1, q2, q3, q4⟩ := hq
      dsimp only at q1 q2 q3 q4
      rw [if_pos e] at q1
      subst q1
      exact ok_el (show ¬ ((1 : Int) = 0) by decide) ((h2 N q3 q2).mono (fun r hr => hr.tr q4))
  · refine ⟨dflt, s, hs, fun M hC => tal_bind hs hC (fun N hN hT hx => ?_), fun M hD => ok_by (hX M hD) (fun q hq => ?_)⟩
    · refine ok_bs (stageAt_ok hl hT) ?_
      dsimp only
      rw [if_neg e]
      exact ok_some ((PC.self hN).tr hx)
    · obtain ⟨q1, q2, q3, q4⟩ := hq
      rw [q1, if_neg e]
      exact ok_if rfl (ok_some ((PD.self q3).tr q4))
theorem op_stageOf {s : SS} (hs : GS s) (i w : Int) : Op s (fX8_stageOf 10 i w) (fX9_stageOf 20000 i w) := by
  have hl := cnt_len hs.1.1
  unfold fX8_stageOf fX9_stageOf
  refine stage_op hs (fun k sr hi hk hsr => ?_)
  subst hi
  have v1 : ∀ N : Mem, CT N 1000 s.p (cnt s.p) → SRc N (1045 + 16 * k) s.p.n sr := fun N hT => hT.2.2.2.2.2.1 k sr hsr
  have v2 := fun (N : Mem) (hT : MX N 20000 s.p (cnt s.p) (cnt s.p).h.length) => hT.2.2.2.2.1 k sr hsr
  by_cases w0 : w = 0
  · refine ⟨sr.r, fun N hN hT => ok_if w0 (ok_some ?_), fun N hD hX => ok_bs in_ok (ok_el (by (try dsimp only); rw [if_pos (by omega)]; decide) (ok_bi (ok_if w0 (ok_chk (by omega) (ok_some (ok_some ?_))))))⟩
    · (try dsimp only); rw [(v1 N hT).1]; exact PC.self hN
    · (try dsimp only); rw [tn, (v2 N hX).1]; exact PD.self hD
  · by_cases w1 : w = 1
    · refine ⟨sr.o, fun N hN hT => ok_el w0 (ok_if w1 (ok_some ?_)), fun N hD hX => ok_bs in_ok (ok_el (by (try dsimp only); rw [if_pos (by omega)]; decide) (ok_bi (ok_el w0 (ok_if w1 (ok_chk (by omega) (ok_some (ok_some ?_)))))))⟩
      · (try dsimp only); rw [(v1 N hT).2.1]; exact PC.self hN
      · (try dsimp only); rw [tn, (v2 N hX).2.1]; exact PD.self hD
    · by_cases w2 : w = 2
      · refine ⟨mk s.p.n (fun c => decide (c ∈ sr.E)), fun N hN hT => ok_el w0 (ok_el w1 (ok_if w2 (ok_some ?_))), fun N hD hX => ok_bs in_ok (ok_el (by (try dsimp only); rw [if_pos (by omega)]; decide) (ok_bi (ok_el w0 (ok_el w1 (ok_chk (by omega) (ok_some (ok_some ?_)))))))⟩
        · (try dsimp only); rw [(v1 N hT).2.2.1]; exact PC.self hN
        · (try dsimp only); rw [tn, (v2 N hX).2.2.1]; exact PD.self hD
      · refine ⟨-1, fun N hN hT => ok_el w0 (ok_el w1 (ok_el w2 (ok_some (PC.self hN)))), fun N hD hX => ok_bs in_ok (ok_if (by (try dsimp only); rw [if_neg (by omega)]) (ok_some (PD.self hD)))⟩
theorem op_amount {s : SS} (hs : GS s) (i w : Int) : Op s (fX8_amount 10 i w) (fX9_amount 20000 i w) := by
  have hl := cnt_len hs.1.1
  unfold fX8_amount fX9_amount
  refine stage_op hs (fun k sr hi hk hsr => ?_)
  subst hi
  have v1 : ∀ N : Mem, CT N 1000 s.p (cnt s.p) → SRc N (1045 + 16 * k) s.p.n sr := fun N hT => hT.2.2.2.2.2.1 k sr hsr
  have v2 := fun (N : Mem) (hT : MX N 20000 s.p (cnt s.p) (cnt s.p).h.length) => hT.2.2.2.2.1 k sr hsr
  by_cases w0 : w = 0
  · refine ⟨sr.q, fun N hN hT => ok_if w0 (ok_some ?_), fun N hD hX => ok_bs in_ok (ok_el (by (try dsimp only); rw [if_pos (by omega)]; decide) (ok_bi (ok_if w0 (ok_chk (by omega) (ok_some (ok_some ?_))))))⟩
    · (try dsimp only); rw [(v1 N hT).2.2.2.1]; exact PC.self hN
    · (try dsimp only); rw [tn, (v2 N hX).2.2.2.1]; exact PD.self hD
  · by_cases w1 : w = 1
    · refine ⟨sr.x, fun N hN hT => ok_el w0 (ok_if w1 (ok_some ?_)), fun N hD hX => ok_bs in_ok (ok_el (by (try dsimp only); rw [if_pos (by omega)]; decide) (ok_bi (ok_el w0 (ok_if w1 (ok_chk (by omega) (ok_some (ok_some ?_)))))))⟩
      · (try dsimp only); rw [(v1 N hT).2.2.2.2.1]; exact PC.self hN
      · (try dsimp only); rw [tn, (v2 N hX).2.2.2.2.1]; exact PD.self hD
    · by_cases w2 : w = 2
      · refine ⟨sr.s, fun N hN hT => ok_el w0 (ok_el w1 (ok_if w2 (ok_some ?_))), fun N hD hX => ok_bs in_ok (ok_el (by (try dsimp only); rw [if_pos (by omega)]; decide) (ok_bi (ok_el w0 (ok_el w1 (ok_if w2 (ok_chk (by omega) (ok_some (ok_some ?_))))))))⟩
        · (try dsimp only); rw [(v1 N hT).2.2.2.2.2.1]; exact PC.self hN
        · (try dsimp only); rw [tn, (v2 N hX).2.2.2.2.2.1]; exact PD.self hD
      · by_cases w3 : w = 3
        · refine ⟨sr.t, fun N hN hT => ok_el w0 (ok_el w1 (ok_el w2 (ok_if w3 (ok_some ?_)))), fun N hD hX => ok_bs in_ok (ok_el (by (try dsimp only); rw [if_pos (by omega)]; decide) (ok_bi (ok_el w0 (ok_el w1 (ok_el w2 (ok_chk (by omega) (ok_some (ok_some ?_))))))))⟩
          · (try dsimp only); rw [(v1 N hT).2.2.2.2.2.2.1]; exact PC.self hN
          · (try dsimp only); rw [tn, (v2 N hX).2.2.2.2.2.2.1]; exact PD.self hD
        · refine ⟨-9223372036854775808, fun N hN hT => ok_el w0 (ok_el w1 (ok_el w2 (ok_el w3 (ok_some (PC.self hN))))), fun N hD hX => ok_bs in_ok (ok_if (by (try dsimp only); rw [if_neg (by omega)]) (ok_some (PD.self hD)))⟩
theorem op_votes {s : SS} (hs : GS s) (i c w : Int) : Op s (fX8_votes 10 i c w) (fX9_votes 20000 i c w) := by
  have hl := cnt_len hs.1.1
  have h8 := hs.1.1.1
  unfold fX8_votes fX9_votes
  refine stage_op hs (fun k sr hi hk hsr => ?_)
  subst hi
  have v1 : ∀ N : Mem, CT N 1000 s.p (cnt s.p) → SRc N (1045 + 16 * k) s.p.n sr := fun N hT => hT.2.2.2.2.2.1 k sr hsr
  have v2 := fun (N : Mem) (hT : MX N 20000 s.p (cnt s.p) (cnt s.p).h.length) => hT.2.2.2.2.1 k sr hsr
  have c1 := fun (N : Mem) (hN : CI N s) => hasCand_ok (c := c) (M := N) (o := 11000) (n := s.p.n) hN.1.1.1.1
  have c2 := fun (N : Mem) (hD : DI N s) => isOne_ok (c := c) (M := N) (a := 20000) (n := s.p.n) h8 hD.1.1
  by_cases hc : 0 ≤ c ∧ c < s.p.n
  · obtain ⟨d, rfl⟩ := Int.eq_ofNat_of_zero_le hc.1
    have hd : d < s.p.n := by omega
    rw [if_pos hc] at *
    have e8 : 8 * (k : Int) + (d : Int) = ((8 * k + d : Nat) : Int) := by omega
    by_cases w0 : w = 0
    · refine ⟨sr.g d, fun N hN hT => ok_bs (c1 N hN) (ok_el (show ¬ ((1 : Int) = 0) by decide) (ok_if w0 (ok_chk (by omega) (ok_some ?_)))), fun N hD hX => ok_bs (c2 N hD) (ok_el (show ¬ ((1 : Int) = 0) by decide) (ok_bs in_ok (ok_el (by (try dsimp only); rw [if_pos (by omega)]; decide) (ok_bi (ok_if w0 (ok_chk (by omega) (ok_chk (by omega) (ok_chk (by omega) (ok_some (ok_some ?_)))))))))) ⟩
      · (try dsimp only); rw [tn, (v1 N hT).2.2.2.2.2.2.2.1 d hd]; exact PC.self hN
      · (try dsimp only); rw [e8, tn, ((v2 N hX).2.2.2.2.2.2.2 d hd).1]; exact PD.self hD
    · by_cases w1 : w = 1
      · refine ⟨sr.k d, fun N hN hT => ok_bs (c1 N hN) (ok_el (show ¬ ((1 : Int) = 0) by decide) (ok_el w0 (ok_if w1 (ok_chk (by omega) (ok_some ?_))))), fun N hD hX => ok_bs (c2 N hD) (ok_el (show ¬ ((1 : Int) = 0) by decide) (ok_bs in_ok (ok_el (by (try dsimp only); rw [if_pos (by omega)]; decide) (ok_bi (ok_el w0 (ok_chk (by omega) (ok_chk (by omega) (ok_chk (by omega) (ok_some (ok_some ?_)))))))))) ⟩
        · (try dsimp only); rw [tn, (v1 N hT).2.2.2.2.2.2.2.2 d hd]; exact PC.self hN
        · (try dsimp only); rw [e8, tn, ((v2 N hX).2.2.2.2.2.2.2 d hd).2]; exact PD.self hD
      · exact ⟨-9223372036854775808, fun N hN hT => ok_bs (c1 N hN) (ok_el (show ¬ ((1 : Int) = 0) by decide) (ok_el w0 (ok_el w1 (ok_some (PC.self hN))))), fun N hD hX => ok_bs (c2 N hD) (ok_el (show ¬ ((1 : Int) = 0) by decide) (ok_bs in_ok (ok_if (by (try dsimp only); rw [if_neg (by omega)]) (ok_some (PD.self hD)))))⟩
  · rw [if_neg hc] at *
    exact ⟨-9223372036854775808, fun N hN hT => ok_bs (c1 N hN) (ok_if rfl (ok_some (PC.self hN))), fun N hD hX => ok_bs (c2 N hD) (ok_if rfl (ok_some (PD.self hD)))⟩
end
