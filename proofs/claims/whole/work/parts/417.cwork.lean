section
/-! the class's WORK -/
theorem begin_l {t : Nat} {p : PL} {M0 : Mem} (h : WF p) (hc : PCc M0 (t + 10000) p) : ∀ (m i : Nat) (M : Mem), i ≤ p.n → p.n < m + i → (∀ c, c < i → M (t + 3) c = (ini p).f c ∧ M (t + 10) c = (ini p).k c ∧ M (t + 4) c = (ini p).w c) → M t 6 = cn i (hop (ini p).f) → (∀ j, j ≠ 6 → M t j = M0 t j) → (∀ b, b ≠ t → b ≠ t + 3 → b ≠ t + 4 → b ≠ t + 10 → M b = M0 b) → Ok (fX4_begin_l17 t m i M) (fun z => (∀ c, c < p.n → z.2 (t + 3) c = (ini p).f c ∧ z.2 (t + 10) c = (ini p).k c ∧ z.2 (t + 4) c = (ini p).w c) ∧ z.2 t 6 = cn p.n (hop (ini p).f) ∧ (∀ j, j ≠ 6 → z.2 t j = M0 t j) ∧ ∀ b, b ≠ t → b ≠ t + 3 → b ≠ t + 4 → b ≠ t + 10 → z.2 b = M0 b) := by
  intro m
  have hn8 := h.1
  induction m with
  | zero => intros; omega
  | succ m ih =>
    intro i M h1 h2 hA h6 hj hb
    have e0 : M (t + 10000) = M0 (t + 10000) := hb _ (by omega) (by omega) (by omega) (by omega)
    have e3 : M (t + 10000 + 3) = M0 (t + 10000 + 3) := hb _ (by omega) (by omega) (by omega) (by omega)
    have hnn := cn_nn i (hop (ini p).f)
    have hle := cn_le i (hop (ini p).f)
    unfold fX4_begin_l17
    rw [e0, hc.1]
    refine ok_ite (fun hq => ok_some ?_) (fun hq => ?_)
    · have : i = p.n := by omega
      subst this
      exact ⟨hA, h6, hj, hb⟩
    · have hi : i < p.n := by omega
      have hg := (hc.2.2.1 i hi).1
      have v6 : ∀ a b d : Int, wr (wr (wr M (t + 3) i a) (t + 10) i b) (t + 4) i d t 6 = cn i (hop (ini p).f) := fun a b d => by rw [wrn (by omega), wrn (by omega), wrn (by omega)]; exact h6
      have step : ∀ a b d : Int, a = (ini p).f i → b = (ini p).k i → cn i (hop (ini p).f) + d = cn (i + 1) (hop (ini p).f) → Ok (fX4_begin_l17 t m ((i : Int) + 1) (wr (wr (wr (wr M (t + 3) i a) (t + 10) i b) (t + 4) i (-5)) t 6 (cn i (hop (ini p).f) + d))) (fun z => (∀ c, c < p.n → z.2 (t + 3) c = (ini p).f c ∧ z.2 (t + 10) c = (ini p).k c ∧ z.2 (t + 4) c = (ini p).w c) ∧ z.2 t 6 = cn p.n (hop (ini p).f) ∧ (∀ j, j ≠ 6 → z.2 t j = M0 t j) ∧ ∀ b, b ≠ t → b ≠ t + 3 → b ≠ t + 4 → b ≠ t + 10 → z.2 b = M0 b) := by
        intro a b d ha hb2 hd
        refine ih (i + 1) _ (by omega) (by omega) (fun c hc2 => ?_) ?_ (fun j hj6 => ?_) (fun x x1 x2 x3 x4 => ?_)
        · have r3 : wr (wr (wr (wr M (t + 3) i a) (t + 10) i b) (t + 4) i (-5)) t 6 (cn i (hop (ini p).f) + d) (t + 3) = up (M (t + 3)) i a := by rw [wrn (by omega), wrn (by omega), wrn (by omega), wre]
          have r10 : wr (wr (wr (wr M (t + 3) i a) (t + 10) i b) (t + 4) i (-5)) t 6 (cn i (hop (ini p).f) + d) (t + 10) = up (M (t + 10)) i b := by rw [wrn (by omega), wrn (by omega), wre, wrn (by omega)]
          have r4 : wr (wr (wr (wr M (t + 3) i a) (t + 10) i b) (t + 4) i (-5)) t 6 (cn i (hop (ini p).f) + d) (t + 4) = up (M (t + 4)) i (-5) := by rw [wrn (by omega), wre, wrn (by omega), wrn (by omega)]
          rw [r3, r10, r4]
          by_cases e : c = i
          · subst e
            rw [up_same, up_same, up_same]
            exact ⟨ha, hb2, rfl⟩
          · rw [up_ne e, up_ne e, up_ne e]
            exact hA c (by omega)
        · rw [wra]; exact hd
        · rw [wrk _ hj6, wrn (by omega), wrn (by omega), wrn (by omega)]; exact hj j hj6
        · rw [wrn x1, wrn x3, wrn x4, wrn x2]; exact hb x x1 x2 x3 x4
      have ec : cn (i + 1) (hop (ini p).f) = cn i (hop (ini p).f) + (if hop (ini p).f i = true then 1 else 0) := rfl
      simp only [tn, e3, hg]
      by_cases hz : p.g i = 0
      · have f1 : (ini p).f i = 1 := by show (if p.g i = 0 then (1 : Int) else 0) = 1; rw [if_pos hz]
        have k1 : (ini p).k i = 1000000 := by show (if p.g i = 0 then (1000000 : Int) else 0) = 1000000; rw [if_pos hz]
        have hh : hop (ini p).f i = true := by unfold hop; rw [f1]; rfl
        rw [if_pos hh] at ec
        (repeat (first | with_reducible refine ok_nm0 ?_ | (with_reducible refine ok_chk ?_ ?_; · omega) | (with_reducible refine ok_if ?_ ?_; · omega) | (with_reducible refine ok_el ?_ ?_; · omega) | with_reducible refine ok_some ?_ | with_reducible refine ok_bi ?_ | with_reducible refine ok_bsm ?_)); try dsimp only
        simp only [v6]
        (repeat (first | with_reducible refine ok_nm0 ?_ | (with_reducible refine ok_chk ?_ ?_; · omega) | (with_reducible refine ok_if ?_ ?_; · omega) | (with_reducible refine ok_el ?_ ?_; · omega) | with_reducible refine ok_some ?_ | with_reducible refine ok_bi ?_ | with_reducible refine ok_bsm ?_)); try dsimp only
        exact step 1 1000000 1 f1.symm k1.symm ec.symm
      · have f1 : (ini p).f i = 0 := by show (if p.g i = 0 then (1 : Int) else 0) = 0; rw [if_neg hz]
        have k1 : (ini p).k i = 0 := by show (if p.g i = 0 then (1000000 : Int) else 0) = 0; rw [if_neg hz]
        have hh : hop (ini p).f i = false := by unfold hop; rw [f1]; rfl
        rw [hh] at ec
        (repeat (first | with_reducible refine ok_nm0 ?_ | (with_reducible refine ok_chk ?_ ?_; · omega) | (with_reducible refine ok_if ?_ ?_; · omega) | (with_reducible refine ok_el ?_ ?_; · omega) | with_reducible refine ok_some ?_ | with_reducible refine ok_bi ?_ | with_reducible refine ok_bsm ?_)); try dsimp only
        simp only [v6]
        (repeat (first | with_reducible refine ok_nm0 ?_ | (with_reducible refine ok_chk ?_ ?_; · omega) | (with_reducible refine ok_if ?_ ?_; · omega) | (with_reducible refine ok_el ?_ ?_; · omega) | with_reducible refine ok_some ?_ | with_reducible refine ok_bi ?_ | with_reducible refine ok_bsm ?_)); try dsimp only
        exact step 0 0 0 f1.symm k1.symm ec.symm
theorem begin_ok {t : Nat} {p : PL} {M : Mem} (h : WF p) (hc : PCc M (t + 10000) p) (hp : PAc M (t + 20) (gat p)) : Ok (fX4_begin t M) (fun q => CT q.2 t p (ini p) ∧ ∀ x, (x < t ∨ t + 1000 ≤ x) → q.2 x = M x) := by
  have hn8 := h.1
  unfold fX4_begin
  (repeat (first | with_reducible refine ok_nm0 ?_ | (with_reducible refine ok_chk ?_ ?_; · omega) | (with_reducible refine ok_if ?_ ?_; · omega) | (with_reducible refine ok_el ?_ ?_; · omega) | with_reducible refine ok_some ?_ | with_reducible refine ok_bi ?_ | with_reducible refine ok_bsm ?_)); try dsimp only
  refine ok_by (begin_l (M0 := wr (wr (wr M t 7 0) t 5 0) t 6 0) h (hc.same (by rw [wrn (by omega), wrn (by omega), wrn (by omega)]) (by rw [wrn (by omega), wrn (by omega), wrn (by omega)]) (by rw [wrn (by omega), wrn (by omega), wrn (by omega)]) (by rw [wrn (by omega), wrn (by omega), wrn (by omega)]) (by rw [wrn (by omega), wrn (by omega), wrn (by omega)])) 1000 0 _ (by omega) (by omega) (fun c hc => by omega) (by rw [wra]; rfl) (fun _ _ => rfl) (fun _ _ _ _ _ => rfl)) (fun z hz => ok_some ?_)
  obtain ⟨z1, z2, z3, z4⟩ := hz
  have fr : ∀ b, b ≠ t → b ≠ t + 3 → b ≠ t + 4 → b ≠ t + 10 → z.2 b = M b := fun b b1 b2 b3 b4 => by rw [z4 b b1 b2 b3 b4, wrn b1, wrn b1, wrn b1]
  refine ⟨⟨?_, z2, ?_, z1, (fun i c hi => by cases hi), (fun s sr hs => by cases hs), (fun e => absurd rfl e), ?_, ?_⟩, fun x hx => fr x (by omega) (by omega) (by omega) (by omega)⟩
  · show z.2 t 5 = ((0 : Nat) : Int)
    rw [z3 5 (by decide), wrk _ (by decide), wra]; rfl
  · show z.2 t 7 = ((0 : Nat) : Int)
    rw [z3 7 (by decide), wrk _ (by decide), wrk _ (by decide), wra]; rfl
  · exact hp.same (fr _ (by omega) (by omega) (by omega) (by omega)) (fr _ (by omega) (by omega) (by omega) (by omega)) (fr _ (by omega) (by omega) (by omega) (by omega))
  · exact hc.same (fr _ (by omega) (by omega) (by omega) (by omega)) (fr _ (by omega) (by omega) (by omega) (by omega)) (fr _ (by omega) (by omega) (by omega) (by omega)) (fr _ (by omega) (by omega) (by omega) (by omega)) (fr _ (by omega) (by omega) (by omega) (by omega))
theorem fill_ok {t : Nat} {p : PL} {st : ST} {M : Mem} (h : WF p) (hs : SI p st) (hcn : 0 < cn p.n (hop st.f)) (hle : cn p.n (hop st.f) + st.o.length ≤ p.se) (hC : CR M t p st st.k) : Ok (fX4_fill t (t + 9 + 36 + 16 * st.h.length) M) (fun q => CT q.2 t p (nxt st (filS p st)) ∧ ∀ x, (x < t ∨ t + 1000 ≤ x) → q.2 x = M x) := by
  have h8 := h.1
  obtain ⟨hl, hc0, hc8⟩ := hs.len h hcn
  have hsl := hs.2.2.2.2.1
  have hK := hs.2.1
  have hfin := filS_ok h hK hcn hle
  have hv := VT_bd h hK
  unfold fX4_fill
  refine ok_by (workOut_ok h hK hC.2.2.2.2.2.2.2.1 (fun c hc => (hC.2.2.2.1 c hc).2.1) hC.2.2.2.2.2.2.2.2) (fun q1 hw => ?_)
  obtain ⟨w1, w2, w3, w4, w5, w6⟩ := hw
  have hC2 : CR q1.2 t p st st.k := hC.upd (by omega) (fun x x1 _ x3 _ _ _ => w6 x x1 x3) (w5 5 (by decide) (by decide) (by decide)) (w5 6 (by decide) (by decide) (by decide)) (w5 7 (by decide) (by decide) (by decide)) (by rw [w6 _ (by omega) (by omega)]; exact fun c hc => (hC.2.2.2.1 c hc).2.1) (by rw [w6 _ (by omega) (by omega)]) (by rw [w6 _ (by omega) (by omega)])
  refine ok_by (note_ok (by omega)) (fun q2 hn => ?_)
  have hNC := note_CR h8 (by omega) hC2 w1 hn
  rw [w4, w2, w3] at hNC
  have hg2 : Ag p.n (q2.2 (t + 11)) (VT p st.k).2 := by rw [hn.2.2.2.2.2.2.2.2 (t + 11) (by omega) (by omega) (by omega)]; exact w1
  have hq2 : q2.2 t 11 = quo p (VT p st.k).2 := by rw [hn.2.2.2.2.2.2.2.2 t (by omega) (by omega) (by omega)]; exact w4
  obtain ⟨hC3, hSR⟩ := hNC
  have f2 : ∀ x, (x < t ∨ t + 1000 ≤ x) → q2.2 x = M x := fun x hx => by
    rw [hn.2.2.2.2.2.2.2.2 x (by omega) (by omega) (by omega), w6 x (by omega) (by omega)]
  refine ok_bs (whoIs_ok h8 hC3.2.2.2.2.2.2.2.2.1) ?_
  have hmb := mk_bd h8 (fun c => decide (q2.2 (t + 3) c = 1))
  refine ok_by (elect_ok h ⟨by omega, by omega⟩ hC3.2.2.2.2.2.2.2.2 hmb.1 hmb.2 ⟨hc0, hc8⟩ ⟨by omega, by omega⟩ (hC3.EL0 h8) hsl) (fun q4 hE => ok_some ?_)
  have ht := av_tot h (VT p st.k).2
  have eE : srt (p.se - st.o.length).toNat p.n (av p (q2.2 (t + 9 + 36 + 16 * st.h.length + 8))) (bt (mk p.n (fun c => decide (q2.2 (t + 3) c = 1)))) = (filS p st).E := by
    rw [srt_vcongr (av_congr hSR.2.2.2.2.2.2.2.1)]
    show _ = srt 8 p.n (av p (VT p st.k).2) (hop st.f)
    have hw : ∀ c, c < p.n → bt (mk p.n (fun c => decide (q2.2 (t + 3) c = 1))) c = hop st.f c := fun c hc => by
      rw [mk_bt, (hC3.2.2.2.1 c hc).1]
      simp [hop, hc]
    rw [srt_congr ht (w' := hop st.f) hw]
    have hk1 : cn p.n (hop st.f) ≤ ((p.se - (st.o.length : Int)).toNat : Nat) := by omega
    have hk2 : cn p.n (hop st.f) ≤ (8 : Nat) := by omega
    exact (srt_uniq (w := hop st.f) ht hk1 (srt_sd ht) (fun c => ⟨fun hc => srt_sub ht hc, fun hc => srt_mem ht hk2 hc.1 hc.2⟩)).symm
  rw [eE] at hE
  refine ⟨elect_CT h hl hC3 hE hfin.2 rfl hSR rfl hg2 hq2, fun x hx => ?_⟩
  rw [hE.2.2.2.2.2.2.2.2.2 x (by omega) (by omega) (by omega) (by omega) (by omega), f2 x hx]
theorem cntR_stop {p : PL} {st : ST} (hs : ¬ (0 < cn p.n (hop st.f) ∧ (st.o.length : Int) < p.se)) : ∀ m, cntR p m st = st
  | 0 => rfl
  | m + 1 => by unfold cntR; rw [if_neg hs]
theorem cntR_go {p : PL} {st : ST} {m : Nat} (hs : 0 < cn p.n (hop st.f) ∧ (st.o.length : Int) < p.se) : cntR p (m + 1) st = cntR p m (nxt st (stg p st)) := by
  conv => lhs; unfold cntR
  rw [if_pos hs]
theorem CT.GQ_ {M : Mem} {t : Nat} {p : PL} {st : ST} (hs : SI p st) (hC : CT M t p st) : GQ M t p.n st.f (lg st.h) (lq st.h) := by
  by_cases e : st.h = []
  · refine Or.inl (fun c hc hf => ?_)
    have h1 := (hs.2.2.2.1 c).mpr ⟨hc, hf⟩
    rw [hs.2.2.2.2.2.2.2.1 e] at h1
    cases h1
  · have h1 := hC.2.2.2.2.2.2.1 e
    refine Or.inr ⟨h1.1, h1.2, fun c hc => ?_⟩
    unfold lg
    cases e2 : st.h.getLast? with
    | none => exact absurd (List.getLast?_eq_none_iff.mp e2) e
    | some s => exact (hs.2.2.2.2.2.2.1 s (List.mem_of_getLast? e2)).1 c hc
theorem work_l {t : Nat} {p : PL} (h : WF p) : ∀ (n mm : Nat) (st : ST) (M : Mem), st.h.length ≤ 8 → 8 < n + st.h.length → 8 < mm + st.h.length → CT M t p st → SI p st → Ok (fX4_work_l19 t n (if beh st.h then 1 else 0) st.h.length M) (fun z => CT z.2.2 t p (cntR p mm st) ∧ ∀ x, (x < t ∨ t + 1000 ≤ x) → z.2.2 x = M x) := by
  intro n
  have h8 := h.1
  induction n with
  | zero => intros; omega
  | succ n ih =>
    intro mm st M h1 h2 h3 hC hs
    have hC' := hC
    have hG := hC.GQ_ hs
    obtain ⟨a1, a2, a3, a4, a5, a6, a7, a8, a9⟩ := hC
    have hh := hs.2.2.2.2.2.1
    have stop : ¬ (0 < cn p.n (hop st.f) ∧ (st.o.length : Int) < p.se) → CT M t p (cntR p mm st) ∧ ∀ x, (x < t ∨ t + 1000 ≤ x) → M x = M x := fun hx => by rw [cntR_stop hx]; exact ⟨hC', fun _ _ => rfl⟩
    unfold fX4_work_l19
    rw [a1, a2, a9.2.2.2.2.1]
    refine ok_ite (fun hq => ok_some (stop (by omega))) (fun hq => ?_)
    refine ok_ite (fun hq => ok_some (stop (by omega))) (fun hq2 => ?_)
    refine ok_ite (fun hq => ok_some (stop (by omega))) (fun hq3 => ?_)
    obtain ⟨mm, rfl⟩ : ∃ k, mm = k + 1 := ⟨mm - 1, by omega⟩
    have hgo : 0 < cn p.n (hop st.f) ∧ (st.o.length : Int) < p.se := ⟨by omega, by omega⟩
    rw [cntR_go hgo]
    obtain ⟨k1, k2⟩ := stg_ok h hs hgo.1
    obtain ⟨hl, hc0, hc8⟩ := hs.len h hgo.1
    have hsi := nxt_ok h hs k1 k2
    rw [tn]
    refine ok_chk (by omega) (ok_nm0 (ok_chk (by omega) (ok_nm0 (ok_nm0 ?_))))
    generalize eM : wr (wr (wr M t 7 ((st.h.length : Int) + 1)) (t + 9 + 36 + 16 * st.h.length) 2 0) (t + 9 + 36 + 16 * st.h.length) 1 (-5) = M10
    have fx : ∀ x, x ≠ t → x ≠ t + 9 + 36 + 16 * st.h.length → M10 x = M x := fun x x1 x2 => by rw [← eM, wrn x2, wrn x2, wrn x1]
    have ft : ∀ j, j ≠ 7 → M10 t j = M t j := fun j hj => by rw [← eM, wrn (by omega), wrn (by omega), wrk _ hj]
    have hCR : CR M10 t p st st.k := by
      refine ⟨by rw [ft 5 (by decide)]; exact a1, by rw [ft 6 (by decide)]; exact a2, by rw [← eM, wrn (by omega), wrn (by omega), wra], fun c hc => ?_, fun i c hi => ?_, fun s sr hsr => ?_, ⟨by rw [← eM, wra], by rw [← eM, wrk _ (by decide), wra]⟩, ?_, ?_⟩
      · rw [fx _ (by omega) (by omega), fx _ (by omega) (by omega), fx _ (by omega) (by omega)]; exact a4 c hc
      · rw [fx _ (by omega) (by omega)]; exact a5 i c hi
      · have := getq_lt hsr
        exact (a6 s sr hsr).same (fx _ (by omega) (by omega)) (fx _ (by omega) (by omega)) (fx _ (by omega) (by omega))
      · exact a8.same (fx _ (by omega) (by omega)) (fx _ (by omega) (by omega)) (fx _ (by omega) (by omega))
      · exact a9.same (fx _ (by omega) (by omega)) (fx _ (by omega) (by omega)) (fx _ (by omega) (by omega)) (fx _ (by omega) (by omega)) (fx _ (by omega) (by omega))
    have hG10 : GQ M10 t p.n st.f (lg st.h) (lq st.h) := by
      rcases hG with hG | hG
      · exact Or.inl hG
      · exact Or.inr ⟨by rw [fx _ (by omega) (by omega)]; exact hG.1, by rw [ft 11 (by decide)]; exact hG.2.1, hG.2.2⟩
    have v6 : M10 t 6 = cn p.n (hop st.f) := hCR.2.1
    have v5 : M10 t 5 = st.o.length := hCR.1
    have vs : M10 (t + 10000) 6 = p.se := hCR.2.2.2.2.2.2.2.2.2.2.2.2.1
    have hro := h.2.2.2.2.2.2.2.2
    have hse := h.2.2.2.2.2.2.1
    rw [v6, v5, vs]
    refine ok_chk (by omega) ?_
    refine ok_by (Q := fun M1 : Mem => CT M1 t p (nxt st (stg p st)) ∧ ∀ x, (x < t ∨ t + 1000 ≤ x) → M1 x = M10 x) ?_ (fun M1 hM1 => ?_)
    · unfold stg
      refine ok_ite (fun hx => ?_) (fun hx => ?_)
      · rw [if_neg (show ¬ (cn p.n (hop st.f) + (st.o.length : Int) ≤ p.se) by omega)]
        unfold fX4_goByRounds
        have hR := rounds_l (t := t) (b := beh st.h) h hs hgo.1 fu 1 st.k (lg st.h) (lq st.h) M10 (by omega) (by omega) (by have := fu_e; omega) hCR hs.2.1 (lq_bd hs).1 (lq_bd hs).2 hG10
        refine ok_bind (ok_lrl (hR.mono (fun z hz => ?_)))
        obtain ⟨a, e, ha, hb⟩ := hz
        exact ⟨a, e, ok_some ⟨ha, hb⟩⟩
      · rw [if_pos (show (cn p.n (hop st.f) + (st.o.length : Int) ≤ p.se) by omega)]
        exact ok_by (fill_ok h hs hgo.1 (by omega) hCR) (fun z hz => ok_some hz)
    · obtain ⟨hC1, hf1⟩ := hM1
      have hlast := hC1.2.2.2.2.2.1 st.h.length (stg p st) (by show (st.h ++ [stg p st])[st.h.length]? = _; simp)
      rw [hlast.2.1]
      have e20 : Ok ((if (stg p st).o = (-5) then some (0) else some (1)) : Option Int) (fun v => v = if beh (nxt st (stg p st)).h then 1 else 0) := by
        show Ok _ (fun v => v = if beh (st.h ++ [stg p st]) then 1 else 0)
        rw [beh_app]
        by_cases e : (stg p st).o = -5
        · rw [if_pos e]; exact ok_some (by simp [e])
        · rw [if_neg e]; exact ok_some (by simp [e])
      refine ok_by e20 (fun v hv => ?_)
      rw [hv]
      have hl2 : (nxt st (stg p st)).h.length = st.h.length + 1 := by show (st.h ++ [stg p st]).length = _; simp
      refine ok_chk (by omega) ?_
      have := ih mm (nxt st (stg p st)) M1 (by omega) (by omega) (by omega) hC1 hsi
      rw [hl2] at this
      refine Ok.mono this (fun z hz => ⟨hz.1, fun x hx => ?_⟩)
      rw [hz.2 x hx, hf1 x hx, fx x (by omega) (by omega)]
/-- the class's WORK leaves THE COUNT -/
theorem work_ok {t : Nat} {p : PL} {M : Mem} (h : WF p) (hc : PCc M (t + 10000) p) : Ok (fX4_work t M) (fun q => CT q.2 t p (cnt p) ∧ ∀ x, (x < t ∨ t + 1000 ≤ x) → q.2 x = M x) := by
  unfold fX4_work
  refine ok_by (gather_ok h (by omega) hc) (fun q1 hg => ?_)
  obtain ⟨g1, g2⟩ := hg
  refine ok_by (begin_ok h (hc.same (g2 _ (by omega) (by omega) (by omega)) (g2 _ (by omega) (by omega) (by omega)) (g2 _ (by omega) (by omega) (by omega)) (g2 _ (by omega) (by omega) (by omega)) (g2 _ (by omega) (by omega) (by omega))) g1) (fun q2 hb => ?_)
  have hw := work_l (t := t) h 1000 fu (ini p) q2.2 (by show 0 ≤ 8; omega) (by show 8 < 1000 + 0; omega) (by show 8 < fu + 0; have := fu_e; omega) hb.1 (ini_ok h)
  refine ok_by hw (fun z hz => ok_some ⟨hz.1, fun x hx => ?_⟩)
  rw [hz.2 x hx, hb.2 x hx, g2 x (by omega) (by omega) (by omega)]
end
