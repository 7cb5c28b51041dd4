section
/-! the other one's COUNT -/
theorem MRR.congr {M : Mem} {a : Nat} {p : PL} {st : ST} {K : Vec} {D D' : Nat → Bool} {O : Int} (h : MRR M a p st K D O) (hD : ∀ c, c < p.n → D c = D' c) : MRR M a p st K D' O := by
  obtain ⟨a1, a2, a3, a4, a5, a6, a7, a8⟩ := h
  exact ⟨a1, a2, fun c hc => by rw [← hD c hc]; exact a3 c hc, a4, a5, ⟨a6.1, by rw [a6.2]; exact mk_congr hD⟩, a7, a8⟩
theorem fills_l {a : Nat} {p : PL} {st : ST} {K : Vec} {O : Int} (h : WF p) (hl : st.h.length ≤ 8) : ∀ (m i : Nat) (M : Mem), i ≤ p.n → p.n < m + i → MRR M a p st K (Dlt (hop st.f) i) O → Ok (fX9_fills_l11 a m i M) (fun z => MRR z.2 a p st K (hop st.f) O ∧ FrM a M z.2 ∧ (∀ j, z.2 a j = M a j) ∧ z.2 (a + 29) = M (a + 29)) := by
  intro m
  have hn8 := h.1
  induction m with
  | zero => intros; omega
  | succ m ih =>
    intro i M h1 h2 hR
    have hpm := hR.2.2.2.2.2.2.2
    unfold fX9_fills_l11
    rw [hpm.1]
    refine ok_ite (fun hq => ok_some ?_) (fun hq => ?_)
    · have : i = p.n := by omega
      subst this
      exact ⟨hR.congr (fun c hc => by simp [Dlt, hc]), FrM.refl a M, fun _ => rfl, rfl⟩
    · have hi : i < p.n := by omega
      have e25 : M (a + 25) i = st.f i := by
        rw [(hR.2.2.1 i hi).1, if_neg (by simp [Dlt])]
      simp only [tn, e25]
      refine ok_chk (by omega) (ok_bind (ok_ite (fun h3 => ?_) (fun h3 => ?_)))
      · refine ok_by (becomes_ok h hl hR hi) (fun q hq => ok_some ?_)
        obtain ⟨q1, q2, q3, q4⟩ := hq
        refine ok_chk (by omega) ((ih (i + 1) q.2 (by omega) (by omega) (q1.congr (fun c hc => ?_))).mono (fun z hz => ⟨hz.1, q2.trans hz.2.1, fun j => by rw [hz.2.2.1, q3], by rw [hz.2.2.2, q4]⟩))
        unfold Dlt
        by_cases e : c = i
        · subst e; simp [hop, h3]
        · have : decide (c < i + 1) = decide (c < i) := decide_eq_decide.mpr ⟨fun h => by omega, fun h => by omega⟩
          simp [e, this]
      · refine ok_some (ok_chk (by omega) (ih (i + 1) M (by omega) (by omega) (hR.congr (fun c hc => ?_))))
        unfold Dlt
        by_cases e : c = i
        · subst e; simp [hop, h3]
        · have : decide (c < i + 1) = decide (c < i) := decide_eq_decide.mpr ⟨fun h => by omega, fun h => by omega⟩
          simp [this]
theorem fills_ok {a : Nat} {p : PL} {st : ST} {M : Mem} (h : WF p) (hs : SI p st) (hw : WI st) (hcn : 0 < cn p.n (hop st.f)) (hle : cn p.n (hop st.f) + st.o.length ≤ p.se) (hR : MRR M a p st st.k (fun _ => false) (-5)) : Ok (fX9_fills a M) (fun z => MX z.2 a p (nxt st (filS p st)) st.h.length ∧ FrM a M z.2) := by
  have h8 := h.1
  obtain ⟨hl, hc0, hc8⟩ := hs.len h hcn
  have hK := hs.2.1
  unfold fX9_fills
  refine ok_by (tellVotes_ok h hK hR.2.2.2.2.2.2.1 (fun c hc => (hR.2.2.1 c hc).2.1) hR.2.2.2.2.2.2.2) (fun q1 hw1 => ok_nm0 ?_)
  obtain ⟨w1, w2, w3, w4, w5, w6⟩ := hw1
  have f1 : FrM a M q1.2 := ⟨fun j _ _ _ j4 j5 _ j7 => w5 j j4 j5 j7, fun x hx => w6 x (by omega) (by omega)⟩
  have hR1 : MRR q1.2 a p st st.k (fun _ => false) (-5) := hR.upd f1 (w5 18 (by decide) (by decide) (by decide)) (w5 22 (by decide) (by decide) (by decide)) (w5 23 (by decide) (by decide) (by decide)) (fun x x1 _ _ x2 => w6 x (by omega) x2) (by rw [w6 _ (by omega) (by omega)]; exact fun c hc => (hR.2.2.1 c hc).2.1)
  have f2 : FrM a M (wr q1.2 a 31 0) := f1.wra (by omega)
  have hR2 : MRR (wr q1.2 a 31 0) a p st st.k (fun _ => false) (-5) := hR1.upd ((FrM.refl a q1.2).wra (by omega)) (wrk _ (by decide)) (wrk _ (by decide)) (wrk _ (by decide)) (fun x x1 _ _ _ => wrn (by omega)) (by rw [wrn (by omega)]; exact fun c hc => (hR1.2.2.1 c hc).2.1)
  refine ok_by (fills_l h (by omega) 1000 0 _ (by omega) (by omega) (hR2.congr (fun c _ => by simp [Dlt]))) (fun z hz => ?_)
  obtain ⟨z1, z2, z3, z4⟩ := hz
  have ht := av_tot h (VT p st.k).2
  have hE := ends_ok (sr := filS p st) (D := hop st.f) h hs hw hl z1 (by rw [z4, wrn (by omega)]; exact w1) (by rw [z3, wrk _ (by decide)]; exact w4) (by rw [z3, wrk _ (by decide)]; exact w2) (by rw [z3, wra]; rfl) (by rw [z3, wrk _ (by decide)]; exact w3) rfl (fun c hc => by
    have hk2 : cn p.n (hop st.f) ≤ (8 : Nat) := by omega
    rw [Bool.eq_iff_iff, decide_eq_true_iff]
    exact ⟨fun e => srt_mem ht hk2 hc e, fun e => (srt_sub ht e).2⟩) (by have := hle; omega) (fun c hc hD => by simpa [hop] using hD)
  refine ok_by hE (fun q hq => ok_some ⟨hq.1.el rfl, (f2.trans z2).trans hq.2⟩)
theorem WI.nxt {st : ST} {sr : SR} (hw : WI st) : WI (nxt st sr) := by
  intro c hc
  have hc' : c ∈ st.o ++ sr.E := hc
  show nw sr st.h.length st.w c < ((st.h ++ [sr]).length : Nat)
  rw [List.length_append]
  unfold nw
  split
  · simp only [List.length_cons, List.length_nil]; omega
  · rename_i hn
    rcases List.mem_append.mp hc' with e | e
    · have := hw c e
      simp only [List.length_cons, List.length_nil]; omega
    · exact absurd (Or.inl e) hn
theorem MX.GM_ {M : Mem} {a x : Nat} {p : PL} {st : ST} (hs : SI p st) (hC : MX M a p st x) : GM M a p.n st.f (lg st.h) (lq st.h) := by
  by_cases e : st.h = []
  · refine Or.inl (fun c hc hf => ?_)
    have h1 := (hs.2.2.2.1 c).mpr ⟨hc, hf⟩
    rw [hs.2.2.2.2.2.2.2.1 e] at h1
    cases h1
  · have h1 := hC.2.2.2.2.2.1 e
    refine Or.inr ⟨h1.1, h1.2, fun c hc => ?_⟩
    unfold lg
    cases e2 : st.h.getLast? with
    | none => exact absurd (List.getLast?_eq_none_iff.mp e2) e
    | some s => exact (hs.2.2.2.2.2.2.1 s (List.mem_of_getLast? e2)).1 c hc
theorem counts_l82 {a : Nat} {p : PL} (h : WF p) : ∀ (n mm : Nat) (st : ST) (M : Mem), st.h.length ≤ 8 → 8 < n + st.h.length → 8 < mm + st.h.length → MX M a p st st.h.length → SI p st → WI st → Ok (fX9_counts_l82 a n (if beh st.h then 1 else 0) M) (fun z => MX z.2 a p (cntR p mm st) (cntR p mm st).h.length ∧ FrM a M z.2) := by
  intro n
  have h8 := h.1
  induction n with
  | zero => intros; omega
  | succ n ih =>
    intro mm st M h1 h2 h3 hC hs hw
    have hC' := hC
    have hG := hC.GM_ hs
    obtain ⟨a1, a2, a3, a4, a5, a6, a7, a8⟩ := hC
    have hh := hs.2.2.2.2.2.1
    have stop : ¬ (0 < cn p.n (hop st.f) ∧ (st.o.length : Int) < p.se) → MX M a p (cntR p mm st) (cntR p mm st).h.length ∧ FrM a M M := fun hx => by rw [cntR_stop hx]; exact ⟨hC', FrM.refl a M⟩
    have hF : Ag p.n (M (a + 25)) st.f := fun c hc => (a3 c hc).1
    have e2 : cn p.n (fun c => decide (st.f c = 2)) = st.o.length := hs.2.2.2.2.2.2.2.2.1
    have e1 : cn p.n (fun c => decide (st.f c = 1)) = cn p.n (hop st.f) := rfl
    have m2 := many_ok (what := 2) h8 a8.1 hF
    have m1 := many_ok (what := 1) h8 a8.1 hF
    rw [e2] at m2
    rw [e1] at m1
    unfold fX9_counts_l82
    refine ok_bs m2 ?_
    dsimp only
    simp only [a8.2.2.2.2.1]
    refine ok_ite (fun hq => ok_some (stop (by omega))) (fun hq => ?_)
    refine ok_bs m1 ?_
    refine ok_ite (fun hq => ok_some (stop (by (try dsimp only at hq); omega))) (fun hq2 => ?_)
    dsimp only at hq2
    obtain ⟨mm, rfl⟩ : ∃ k, mm = k + 1 := ⟨mm - 1, by omega⟩
    have hgo : 0 < cn p.n (hop st.f) ∧ (st.o.length : Int) < p.se := ⟨by omega, by omega⟩
    rw [cntR_go hgo]
    obtain ⟨k1, k2⟩ := stg_ok h hs hgo.1
    obtain ⟨hl, hc0, hc8⟩ := hs.len h hgo.1
    have hsi := nxt_ok h hs k1 k2
    dsimp only
    simp only [a1, tn]
    refine ok_chk (by omega) (ok_nm0 ?_)
    have ea : ∀ v, wr M (a + 41) st.h.length v a = M a := fun v => wrn (by omega)
    simp only [ea, a1, tn]
    refine ok_chk (by omega) (ok_nm0 ?_)
    generalize eM : wr (wr M (a + 41) st.h.length (-5)) (a + 42) st.h.length 0 = N
    have nx : ∀ x, x ≠ a + 41 → x ≠ a + 42 → N x = M x := fun x x1 x2 => by rw [← eM, wrn x2, wrn x1]
    have na : N a = M a := nx a (by omega) (by omega)
    have frN : FrM a M N := ⟨fun j _ _ _ _ _ _ _ => by rw [na], fun x hx => nx x (by omega) (by omega)⟩
    have hRN : MRR N a p st st.k (fun _ => false) (-5) := by
      refine ⟨by rw [na]; exact a1, by rw [na]; exact a2, fun c hc => ?_, fun i c hi => ?_, fun s sr hsr => ?_, ⟨?_, ?_⟩, a7.same (by rw [na]) (nx _ (by omega) (by omega)) (nx _ (by omega) (by omega)) (nx _ (by omega) (by omega)), a8.fr frN⟩
      · rw [nx _ (by omega) (by omega), nx _ (by omega) (by omega), nx _ (by omega) (by omega)]; exact a3 c hc
      · rw [nx _ (by omega) (by omega)]; exact a4 i c hi
      · have hlt := getq_lt hsr
        have := a5 s sr hsr
        unfold SRm at *
        have n41 : N (a + 41) s = M (a + 41) s := by rw [← eM, wrn (by omega), wrk _ (by omega)]
        have n42 : N (a + 42) s = M (a + 42) s := by rw [← eM, wrk _ (by omega), wrn (by omega)]
        rw [n41, n42, nx (a + 40) (by omega) (by omega), nx (a + 35) (by omega) (by omega), nx (a + 36) (by omega) (by omega), nx (a + 37) (by omega) (by omega), nx (a + 38) (by omega) (by omega), nx (a + 34) (by omega) (by omega), nx (a + 39) (by omega) (by omega)]
        exact this
      · rw [← eM, wrn (by omega), wra]
      · rw [← eM, wra]; exact ((mk_zero h8).mpr (fun c _ => rfl)).symm
    have hFN : Ag p.n (N (a + 25)) st.f := fun c hc => by rw [(hRN.2.2.1 c hc).1]; rfl
    have hpN := hRN.2.2.2.2.2.2.2
    have m2 := many_ok (what := 2) h8 hpN.1 hFN
    have m1 := many_ok (what := 1) h8 hpN.1 hFN
    rw [e2] at m2
    rw [e1] at m1
    have hGN : GM N a p.n st.f (lg st.h) (lq st.h) := by
      rcases hG with hG | hG
      · exact Or.inl hG
      · exact Or.inr ⟨by rw [nx _ (by omega) (by omega)]; exact hG.1, by rw [na]; exact hG.2.1, hG.2.2⟩
    refine ok_bs m1 (ok_bs m2 ?_)
    dsimp only
    simp only [hpN.2.2.2.2.1]
    have hro := h.2.2.2.2.2.2.2.2
    have hse := h.2.2.2.2.2.2.1
    refine ok_chk (by omega) ?_
    refine ok_by (Q := fun M1 : Mem => MX M1 a p (nxt st (stg p st)) st.h.length ∧ FrM a N M1) ?_ (fun M1 hM1 => ?_)
    · unfold stg
      refine ok_ite (fun hx => ?_) (fun hx => ?_)
      · rw [if_neg (show ¬ (cn p.n (hop st.f) + (st.o.length : Int) ≤ p.se) by omega)]
        unfold fX9_goesStage
        have hR := goes_l (a := a) (b := beh st.h) h hs hw hgo.1 1000 fu 1 st.k (lg st.h) (lq st.h) N (by omega) (by omega) (by omega) (by have := fu_e; omega) hRN hs.2.1 (lq_bd hs).1 (lq_bd hs).2 hGN
        exact ok_bind (ok_by hR (fun z hz => ok_some (ok_some hz)))
      · rw [if_pos (show (cn p.n (hop st.f) + (st.o.length : Int) ≤ p.se) by omega)]
        exact ok_by (fills_ok h hs hw hgo.1 (by omega) hRN) (fun z hz => ok_some hz)
    · obtain ⟨hC1, hf1⟩ := hM1
      have hlast := hC1.2.2.2.2.1 st.h.length (stg p st) (by show (st.h ++ [stg p st])[st.h.length]? = _; simp)
      have h22 := hC1.1
      simp only [h22, tn, hlast.2.1]
      refine ok_chk (by omega) ?_
      have e20 : Ok ((if (stg p st).o = (-5) then some (0) else some (1)) : Option Int) (fun v => v = if beh (nxt st (stg p st)).h then 1 else 0) := by
        show Ok _ (fun v => v = if beh (st.h ++ [stg p st]) then 1 else 0)
        rw [beh_app]
        by_cases e : (stg p st).o = -5
        · rw [if_pos e]; exact ok_some (by simp [e])
        · rw [if_neg e]; exact ok_some (by simp [e])
      refine ok_by e20 (fun v hv => ?_)
      rw [hv]
      have hl2 : (nxt st (stg p st)).h.length = st.h.length + 1 := by show (st.h ++ [stg p st]).length = _; simp
      refine ok_chk (by omega) (ok_nm0 ?_)
      have hC2 : MX (wr M1 a 22 ((st.h.length : Int) + 1)) a p (nxt st (stg p st)) (nxt st (stg p st)).h.length := by
        obtain ⟨b1, b2, b3, b4, b5, b6, b7, b8⟩ := hC1
        have wx : ∀ x, x ≠ a → wr M1 a 22 ((st.h.length : Int) + 1) x = M1 x := fun x hx => wrn hx
        refine ⟨by rw [wra, hl2]; omega, by rw [wrk _ (by decide)]; exact b2, fun c hc => ?_, fun i c hi => ?_, fun s sr hsr => (b5 s sr hsr).same (fun x _ _ => wx x (by omega)), fun e => ?_, b7.same (wrk _ (by decide)) (wx _ (by omega)) (wx _ (by omega)) (wx _ (by omega)), b8.same (fun k hk => wrk _ (by omega)) (wx _ (by omega)) (wx _ (by omega)) (wx _ (by omega)) (wx _ (by omega))⟩
        · rw [wx _ (by omega), wx _ (by omega), wx _ (by omega)]; exact b3 c hc
        · rw [wx _ (by omega)]; exact b4 i c hi
        · rw [wx _ (by omega), wrk _ (by decide)]; exact b6 e
      refine (ih mm (nxt st (stg p st)) _ (by omega) (by omega) (by omega) hC2 hsi hw.nxt).mono (fun z hz => ⟨hz.1, ?_⟩)
      exact ((frN.trans hf1).wra (by omega)).trans hz.2
theorem counts_l16 {a : Nat} {p : PL} {M0 : Mem} (h : WF p) (hc : PMm M0 a p) : ∀ (m i : Nat) (M : Mem), i ≤ p.n → p.n < m + i → (∀ c, c < i → M (a + 25) c = (ini p).f c ∧ M (a + 26) c = (ini p).k c ∧ M (a + 27) c = (ini p).w c) → (∀ b, b ≠ a + 25 → b ≠ a + 26 → b ≠ a + 27 → M b = M0 b) → Ok (fX9_counts_l16 a m i M) (fun z => (∀ c, c < p.n → z.2 (a + 25) c = (ini p).f c ∧ z.2 (a + 26) c = (ini p).k c ∧ z.2 (a + 27) c = (ini p).w c) ∧ ∀ b, b ≠ a + 25 → b ≠ a + 26 → b ≠ a + 27 → z.2 b = M0 b) := by
  intro m
  have hn8 := h.1
  induction m with
  | zero => intros; omega
  | succ m ih =>
    intro i M h1 h2 hA hb
    have e0 : M a = M0 a := hb _ (by omega) (by omega) (by omega)
    have e3 : M (a + 3) = M0 (a + 3) := hb _ (by omega) (by omega) (by omega)
    unfold fX9_counts_l16
    rw [e0, hc.1]
    refine ok_ite (fun hq => ok_some ?_) (fun hq => ?_)
    · have : i = p.n := by omega
      subst this
      exact ⟨hA, hb⟩
    · have hi : i < p.n := by omega
      have hg := (hc.2.2.1 i hi).1
      have v3 : ∀ x : Int, wr M (a + 25) i x (a + 3) i = p.g i := fun x => by rw [wrn (by omega), e3]; exact hg
      have step : ∀ x y : Int, x = (ini p).f i → y = (ini p).k i → Ok (fX9_counts_l16 a m ((i : Int) + 1) (wr (wr (wr M (a + 25) i x) (a + 26) i y) (a + 27) i (-5))) (fun z => (∀ c, c < p.n → z.2 (a + 25) c = (ini p).f c ∧ z.2 (a + 26) c = (ini p).k c ∧ z.2 (a + 27) c = (ini p).w c) ∧ ∀ b, b ≠ a + 25 → b ≠ a + 26 → b ≠ a + 27 → z.2 b = M0 b) := by
        intro x y hx hy
        refine ih (i + 1) _ (by omega) (by omega) (fun c hc2 => ?_) (fun b x1 x2 x3 => ?_)
        · have r25 : wr (wr (wr M (a + 25) i x) (a + 26) i y) (a + 27) i (-5) (a + 25) = up (M (a + 25)) i x := by rw [wrn (by omega), wrn (by omega), wre]
          have r26 : wr (wr (wr M (a + 25) i x) (a + 26) i y) (a + 27) i (-5) (a + 26) = up (M (a + 26)) i y := by rw [wrn (by omega), wre, wrn (by omega)]
          have r27 : wr (wr (wr M (a + 25) i x) (a + 26) i y) (a + 27) i (-5) (a + 27) = up (M (a + 27)) i (-5) := by rw [wre, wrn (by omega), wrn (by omega)]
          rw [r25, r26, r27]
          by_cases e : c = i
          · subst e
            rw [up_same, up_same, up_same]
            exact ⟨hx, hy, rfl⟩
          · rw [up_ne e, up_ne e, up_ne e]
            exact hA c (by omega)
        · rw [wrn x3, wrn x2, wrn x1]; exact hb b x1 x2 x3
      simp only [tn, e3, hg]
      by_cases hz : p.g i = 0
      · have f1 : (ini p).f i = 1 := by show (if p.g i = 0 then (1 : Int) else 0) = 1; rw [if_pos hz]
        have k1 : (ini p).k i = 1000000 := by show (if p.g i = 0 then (1000000 : Int) else 0) = 1000000; rw [if_pos hz]
        (repeat (first | with_reducible refine ok_nm0 ?_ | (with_reducible refine ok_chk ?_ ?_; · omega) | (with_reducible refine ok_if ?_ ?_; · omega) | (with_reducible refine ok_el ?_ ?_; · omega) | with_reducible refine ok_some ?_ | with_reducible refine ok_bi ?_ | with_reducible refine ok_bsm ?_)); try dsimp only
        simp only [v3]
        (repeat (first | with_reducible refine ok_nm0 ?_ | (with_reducible refine ok_chk ?_ ?_; · omega) | (with_reducible refine ok_if ?_ ?_; · omega) | (with_reducible refine ok_el ?_ ?_; · omega) | with_reducible refine ok_some ?_ | with_reducible refine ok_bi ?_ | with_reducible refine ok_bsm ?_)); try dsimp only
        exact step 1 1000000 f1.symm k1.symm
      · have f1 : (ini p).f i = 0 := by show (if p.g i = 0 then (1 : Int) else 0) = 0; rw [if_neg hz]
        have k1 : (ini p).k i = 0 := by show (if p.g i = 0 then (1000000 : Int) else 0) = 0; rw [if_neg hz]
        (repeat (first | with_reducible refine ok_nm0 ?_ | (with_reducible refine ok_chk ?_ ?_; · omega) | (with_reducible refine ok_if ?_ ?_; · omega) | (with_reducible refine ok_el ?_ ?_; · omega) | with_reducible refine ok_some ?_ | with_reducible refine ok_bi ?_ | with_reducible refine ok_bsm ?_)); try dsimp only
        simp only [v3]
        (repeat (first | with_reducible refine ok_nm0 ?_ | (with_reducible refine ok_chk ?_ ?_; · omega) | (with_reducible refine ok_if ?_ ?_; · omega) | (with_reducible refine ok_el ?_ ?_; · omega) | with_reducible refine ok_some ?_ | with_reducible refine ok_bi ?_ | with_reducible refine ok_bsm ?_)); try dsimp only
        exact step 0 0 f1.symm k1.symm
/-- the other one's COUNT is THE COUNT -/
theorem counts_ok {a : Nat} {p : PL} {M : Mem} (h : WF p) (hc : PMm M a p) : Ok (fX9_counts a M) (fun q => MX q.2 a p (cnt p) (cnt p).h.length ∧ FrM a M q.2) := by
  have hn8 := h.1
  unfold fX9_counts
  refine ok_by (tellPiles_ok h hc) (fun q1 hg => ?_)
  obtain ⟨g1, g2, g3⟩ := hg
  have f1 : FrM a M q1.2 := ⟨fun j j1 _ _ _ _ _ _ => g2 j j1, fun x hx => g3 x (by omega) (by omega) (by omega) (by omega)⟩
  (repeat (first | with_reducible refine ok_nm0 ?_ | (with_reducible refine ok_chk ?_ ?_; · omega) | (with_reducible refine ok_if ?_ ?_; · omega) | (with_reducible refine ok_el ?_ ?_; · omega) | with_reducible refine ok_some ?_ | with_reducible refine ok_bi ?_ | with_reducible refine ok_bsm ?_)); try dsimp only
  have f2 : FrM a M (wr (wr q1.2 a 22 0) a 23 0) := (f1.wra (by omega)).wra (by omega)
  refine ok_by (counts_l16 h (hc.fr f2) 1000 0 _ (by omega) (by omega) (fun c hc => by omega) (fun _ _ _ _ => rfl)) (fun z hz => ?_)
  obtain ⟨z1, z2⟩ := hz
  have f3 : FrM a M z.2 := f2.trans ⟨fun j _ _ _ _ _ _ _ => by rw [z2 a (by omega) (by omega) (by omega)], fun x hx => z2 x (by omega) (by omega) (by omega)⟩
  have za : z.2 a = wr (wr q1.2 a 22 0) a 23 0 a := z2 a (by omega) (by omega) (by omega)
  have hMX : MX z.2 a p (ini p) 0 := by
    refine ⟨by rw [za, wrk _ (by decide), wra]; rfl, by rw [za, wra]; rfl, z1, (fun i c hi => by cases hi), (fun s sr hs => by cases hs), (fun e => absurd rfl e), g1.same (by rw [za, wrk _ (by decide), wrk _ (by decide)]) ?_ ?_ ?_, hc.fr f3⟩
    · rw [z2 _ (by omega) (by omega) (by omega), wrn (by omega), wrn (by omega)]
    · rw [z2 _ (by omega) (by omega) (by omega), wrn (by omega), wrn (by omega)]
    · rw [z2 _ (by omega) (by omega) (by omega), wrn (by omega), wrn (by omega)]
  have hw := counts_l82 (a := a) h 1000 fu (ini p) z.2 (by show 0 ≤ 8; omega) (by show 8 < 1000 + 0; omega) (by show 8 < fu + 0; have := fu_e; omega) hMX (ini_ok h) (fun c hc => by cases hc)
  exact ok_by hw (fun y hy => ok_some ⟨hy.1, f3.trans hy.2⟩)
end
