section
/-! the other one's ROUNDS: KEEPS, SURPLUS, who is elected -/
theorem keeps_l {a n : Nat} {f K g : Vec} {q : Int} (hn : n ≤ 8) (hK : KB n K) (hq : 0 ≤ q) (hq2 : q ≤ 2305843000001) (hg : ∀ c, c < n → 0 ≤ g c ∧ g c ≤ 4611686000000) : ∀ (m i : Nat) (M : Mem), i ≤ n → n < m + i → M a 0 = n → Ag n (M (a + 25)) f → Ag n (M (a + 29)) g → M a 29 = q → (∀ c, c < n → M (a + 26) c = if c < i then tk f K g q c else K c) → Ok (fX9_keepsAnew_l2 a m i M) (fun z => Ag n (z.2 (a + 26)) (tk f K g q) ∧ ∀ b, b ≠ a + 26 → z.2 b = M b) := by
  intro m
  induction m with
  | zero => intros; omega
  | succ m ih =>
    intro i M h1 h2 h0 hf hg2 hqv hk
    unfold fX9_keepsAnew_l2
    rw [h0]
    refine ok_ite (fun hc => ok_some ⟨fun c hc2 => ?_, fun _ _ => rfl⟩) (fun hc => ?_)
    · have : i = n := by omega
      subst this
      show M (a + 26) c = _
      rw [hk c hc2, if_pos hc2]
    · have hi : i < n := by omega
      have e1 := hf i hi
      have e2 := hg2 i hi
      have e3 := hk i hi
      rw [if_neg (by omega)] at e3
      have hb := tk_bd (f := f) (g := g) hK hi hq hq2
      have hgb := hg i hi
      have hkb := hK i hi
      simp only [tn, e1, e2, e3, hqv]
      have step : ∀ M' : Mem, (∀ b, b ≠ a + 26 → M' b = M b) → M' (a + 26) = up (M (a + 26)) i (tk f K g q i) → Ok (fX9_keepsAnew_l2 a m ((i : Int) + 1) M') (fun z => Ag n (z.2 (a + 26)) (tk f K g q) ∧ ∀ b, b ≠ a + 26 → z.2 b = M b) := by
        intro M' hM' h10
        refine (ih (i + 1) M' (by omega) (by omega) ?_ ?_ ?_ ?_ ?_).mono (fun z hz => ⟨hz.1, fun b hb => by rw [hz.2 b hb, hM' b hb]⟩)
        · rw [hM' _ (by omega)]; exact h0
        · rw [hM' _ (by omega)]; exact hf
        · rw [hM' _ (by omega)]; exact hg2
        · rw [hM' _ (by omega)]; exact hqv
        · intro c hc2
          rw [h10]
          by_cases e : c = i
          · subst e; rw [up_same, if_pos (by omega)]
          · rw [up_ne e, hk c hc2]
            by_cases e2 : c < i
            · rw [if_pos e2, if_pos (by omega)]
            · rw [if_neg e2, if_neg (by omega)]
      have same : tk f K g q i = K i → Ok (fX9_keepsAnew_l2 a m ((i : Int) + 1) M) (fun z => Ag n (z.2 (a + 26)) (tk f K g q) ∧ ∀ b, b ≠ a + 26 → z.2 b = M b) := fun e => step M (fun _ _ => rfl) (by
        funext c
        by_cases e2 : c = i
        · subst e2; rw [up_same, e3, e]
        · rw [up_ne e2])
      refine ok_chk (by omega) (ok_bi (ok_ite (fun h3 => ?_) (fun h3 => ?_)))
      · refine ok_chk (by omega) (ok_ite (fun h4 => ?_) (fun h4 => ?_))
        · (repeat (first | with_reducible refine ok_nm0 ?_ | (with_reducible refine ok_chk ?_ ?_; · omega) | (with_reducible refine ok_if ?_ ?_; · omega) | (with_reducible refine ok_el ?_ ?_; · omega) | with_reducible refine ok_some ?_ | with_reducible refine ok_bi ?_ | with_reducible refine ok_bsm ?_)); try dsimp only
          exact same (by unfold tk; rw [if_neg (by omega)])
        · have h5 : 0 < g i := by omega
          have hd0 : 0 ≤ (K i * q + g i - 1) / g i := Int.ediv_nonneg (by omega) (by omega)
          have e : tk f K g q i = (if 1000000 < (K i * q + g i - 1) / g i then 1000000 else (K i * q + g i - 1) / g i) := by
            unfold tk
            rw [if_pos ⟨h3, h5⟩]
          have ew : w32 (if 1000000 < (K i * q + g i - 1) / g i then 1000000 else (K i * q + g i - 1) / g i) = tk f K g q i := by
            rw [e]
            apply w32_id <;> split <;> omega
          (repeat (first | with_reducible refine ok_nm0 ?_ | (with_reducible refine ok_chk ?_ ?_; · omega) | (with_reducible refine ok_if ?_ ?_; · omega) | (with_reducible refine ok_el ?_ ?_; · omega) | with_reducible refine ok_some ?_ | with_reducible refine ok_bi ?_ | with_reducible refine ok_bsm ?_)); try dsimp only
          refine step _ (fun b hb => wrn hb) ?_
          rw [wre, ew]
      · (repeat (first | with_reducible refine ok_nm0 ?_ | (with_reducible refine ok_chk ?_ ?_; · omega) | (with_reducible refine ok_if ?_ ?_; · omega) | (with_reducible refine ok_el ?_ ?_; · omega) | with_reducible refine ok_some ?_ | with_reducible refine ok_bi ?_ | with_reducible refine ok_bsm ?_)); try dsimp only
        exact same (by unfold tk; rw [if_neg (by omega)])
theorem keeps_ok {a : Nat} {p : PL} {f K g : Vec} {q : Int} {M : Mem} (h : WF p) (hK : KB p.n K) (hq : 0 ≤ q) (hq2 : q ≤ 2305843000001) (hg : ∀ c, c < p.n → 0 ≤ g c ∧ g c ≤ 4611686000000) (h0 : PMm M a p) (hf : Ag p.n (M (a + 25)) f) (hg2 : Ag p.n (M (a + 29)) g) (hqv : M a 29 = q) (hk : Ag p.n (M (a + 26)) K) : Ok (fX9_keepsAnew a M) (fun z => Ag p.n (z.2 (a + 26)) (tk f K g q) ∧ ∀ b, b ≠ a + 26 → z.2 b = M b) := by
  have := h.1
  unfold fX9_keepsAnew
  refine ok_by (keeps_l h.1 hK hq hq2 hg 1000 0 M (by omega) (by omega) h0.1 hf hg2 hqv (fun c hc => by rw [if_neg (by omega)]; exact hk c hc)) (fun z hz => ok_some hz)
theorem msur_l {a n : Nat} {f g : Vec} {q : Int} (hn : n ≤ 8) (hq : 0 ≤ q) (hq2 : q ≤ 2305843000001) (hg : ∀ c, c < n → 0 ≤ g c ∧ g c ≤ 4611686000000) : ∀ (m i : Nat) (M : Mem), i ≤ n → n < m + i → M a 0 = n → Ag n (M (a + 25)) f → Ag n (M (a + 29)) g → M a 29 = q → M a 31 = sur i f g q → Ok (fX9_tellSurplus_l7 a m i M) (fun z => z.2 a 31 = sur n f g q ∧ (∀ j, j ≠ 31 → z.2 a j = M a j) ∧ ∀ b, b ≠ a → z.2 b = M b) := by
  intro m
  induction m with
  | zero => intros; omega
  | succ m ih =>
    intro i M h1 h2 h0 hf hg2 hqv hx
    unfold fX9_tellSurplus_l7
    rw [h0]
    refine ok_ite (fun hc => ok_some ⟨?_, fun _ _ => rfl, fun _ _ => rfl⟩) (fun hc => ?_)
    · have : i = n := by omega
      subst this; exact hx
    · have hi : i < n := by omega
      have e1 := hf i hi
      have e2 := hg2 i hi
      have hb := sur_part (f := f) hn hq hg i (by omega)
      have hgb := hg i hi
      have e : sur (i + 1) f g q = sur i f g q + (if f i = 2 ∧ q < g i then g i - q else 0) := rfl
      simp only [tn, e1, e2, hqv, hx]
      have same : sur (i + 1) f g q = sur i f g q → Ok (fX9_tellSurplus_l7 a m ((i : Int) + 1) M) (fun z => z.2 a 31 = sur n f g q ∧ (∀ j, j ≠ 31 → z.2 a j = M a j) ∧ ∀ b, b ≠ a → z.2 b = M b) := fun e => ih (i + 1) M (by omega) (by omega) h0 hf hg2 hqv (by rw [e]; exact hx)
      refine ok_chk (by omega) (ok_bi (ok_ite (fun h3 => ?_) (fun h3 => ?_)))
      · refine ok_chk (by omega) (ok_ite (fun h4 => ?_) (fun h4 => ?_))
        · rw [if_neg (by omega)] at e
          (repeat (first | with_reducible refine ok_nm0 ?_ | (with_reducible refine ok_chk ?_ ?_; · omega) | (with_reducible refine ok_if ?_ ?_; · omega) | (with_reducible refine ok_el ?_ ?_; · omega) | with_reducible refine ok_some ?_ | with_reducible refine ok_bi ?_ | with_reducible refine ok_bsm ?_)); try dsimp only
          exact same (by omega)
        · rw [if_pos ⟨h3, by omega⟩] at e
          (repeat (first | with_reducible refine ok_nm0 ?_ | (with_reducible refine ok_chk ?_ ?_; · omega) | (with_reducible refine ok_if ?_ ?_; · omega) | (with_reducible refine ok_el ?_ ?_; · omega) | with_reducible refine ok_some ?_ | with_reducible refine ok_bi ?_ | with_reducible refine ok_bsm ?_)); try dsimp only
          refine (ih (i + 1) _ (by omega) (by omega) (by rw [wrk _ (by decide)]; exact h0) (by rw [wrn (by omega)]; exact hf) (by rw [wrn (by omega)]; exact hg2) (by rw [wrk _ (by decide)]; exact hqv) (by rw [wra, e])).mono (fun z hz => ⟨hz.1, fun j hj => by rw [hz.2.1 j hj, wrk _ hj], fun b hb => by rw [hz.2.2 b hb, wrn hb]⟩)
      · rw [if_neg (by omega)] at e
        (repeat (first | with_reducible refine ok_nm0 ?_ | (with_reducible refine ok_chk ?_ ?_; · omega) | (with_reducible refine ok_if ?_ ?_; · omega) | (with_reducible refine ok_el ?_ ?_; · omega) | with_reducible refine ok_some ?_ | with_reducible refine ok_bi ?_ | with_reducible refine ok_bsm ?_)); try dsimp only
        exact same (by omega)
theorem msur_ok {a : Nat} {p : PL} {f g : Vec} {q : Int} {M : Mem} (h : WF p) (hq : 0 ≤ q) (hq2 : q ≤ 2305843000001) (hg : ∀ c, c < p.n → 0 ≤ g c ∧ g c ≤ 4611686000000) (h0 : PMm M a p) (hf : Ag p.n (M (a + 25)) f) (hg2 : Ag p.n (M (a + 29)) g) (hqv : M a 29 = q) : Ok (fX9_tellSurplus a M) (fun z => z.2 a 31 = sur p.n f g q ∧ (∀ j, j ≠ 31 → z.2 a j = M a j) ∧ ∀ b, b ≠ a → z.2 b = M b) := by
  have := h.1
  unfold fX9_tellSurplus
  refine ok_nm0 (ok_by (msur_l h.1 hq hq2 hg 1000 0 _ (by omega) (by omega) (by rw [wrk _ (by decide)]; exact h0.1) (by rw [wrn (by omega)]; exact hf) (by rw [wrn (by omega)]; exact hg2) (by rw [wrk _ (by decide)]; exact hqv) (by rw [wra]; rfl)) (fun z hz => ok_some ⟨hz.1, fun j hj => ?_, fun b hb => ?_⟩))
  · rw [hz.2.1 j hj, wrk _ hj]
  · rw [hz.2.2 b hb, wrn hb]
/-- a STAGE as it goes: who is elected in it (D), who is EXCLUDED (O) -/
def SRm (M : Mem) (a n s : Nat) (sr : SR) : Prop := M (a + 40) s = sr.r ∧ M (a + 41) s = sr.o ∧ M (a + 42) s = mk n (fun c => decide (c ∈ sr.E)) ∧ M (a + 35) s = sr.q ∧ M (a + 36) s = sr.x ∧ M (a + 37) s = sr.s ∧ M (a + 38) s = sr.t ∧ ∀ c, c < n → M (a + 34) (8 * s + c) = sr.g c ∧ M (a + 39) (8 * s + c) = sr.k c
def MRR (M : Mem) (a : Nat) (p : PL) (st : ST) (K : Vec) (D : Nat → Bool) (O : Int) : Prop :=
  M a 22 = st.h.length ∧ M a 23 = st.o.length ∧ (∀ c, c < p.n → M (a + 25) c = (if D c then 2 else st.f c) ∧ M (a + 26) c = K c ∧ M (a + 27) c = (if D c then (st.h.length : Int) else st.w c)) ∧ (∀ i c : Nat, st.o[i]? = some c → M (a + 28) i = (c : Int)) ∧ (∀ s sr, st.h[s]? = some sr → SRm M a p.n s sr) ∧ (M (a + 41) st.h.length = O ∧ M (a + 42) st.h.length = mk p.n D) ∧ PAm M a (gat p) ∧ PMm M a p
theorem SRm.same {M M' : Mem} {a n s : Nat} {sr : SR} (h : SRm M a n s sr) (hx : ∀ x, a + 34 ≤ x → x < a + 43 → M' x = M x) : SRm M' a n s sr := by
  unfold SRm at *
  rw [hx (a + 40) (by omega) (by omega), hx (a + 41) (by omega) (by omega), hx (a + 42) (by omega) (by omega), hx (a + 35) (by omega) (by omega), hx (a + 36) (by omega) (by omega), hx (a + 37) (by omega) (by omega), hx (a + 38) (by omega) (by omega), hx (a + 34) (by omega) (by omega), hx (a + 39) (by omega) (by omega)]
  exact h
theorem PAm.same {M M' : Mem} {a : Nat} {pl : PIL} (h : PAm M a pl) (h0 : M' a 18 = M a 18) (h1 : M' (a + 20) = M (a + 20)) (h2 : M' (a + 21) = M (a + 21)) (h3 : M' (a + 22) = M (a + 22)) : PAm M' a pl := by
  unfold PAm at *
  rw [h0, h1, h2, h3]
  exact h
theorem MRR.upd {M M' : Mem} {a : Nat} {p : PL} {st : ST} {K K' : Vec} {D : Nat → Bool} {O : Int} (h : MRR M a p st K D O) (hf : FrM a M M') (h18 : M' a 18 = M a 18) (h22 : M' a 22 = M a 22) (h23 : M' a 23 = M a 23) (hx : ∀ x, a + 20 ≤ x → x < a + 43 → x ≠ a + 26 → x ≠ a + 29 → M' x = M x) (hk : Ag p.n (M' (a + 26)) K') : MRR M' a p st K' D O := by
  obtain ⟨a1, a2, a3, a4, a5, a6, a7, a8⟩ := h
  refine ⟨h22.trans a1, h23.trans a2, fun c hc => ?_, fun i c hi => ?_, fun s sr hs => (a5 s sr hs).same (fun x x1 x2 => hx x (by omega) x2 (by omega) (by omega)), ?_, a7.same h18 (hx _ (by omega) (by omega) (by omega) (by omega)) (hx _ (by omega) (by omega) (by omega) (by omega)) (hx _ (by omega) (by omega) (by omega) (by omega)), a8.fr hf⟩
  · rw [hx (a + 25) (by omega) (by omega) (by omega) (by omega), hx (a + 27) (by omega) (by omega) (by omega) (by omega)]
    exact ⟨(a3 c hc).1, hk c hc, (a3 c hc).2.2⟩
  · rw [hx (a + 28) (by omega) (by omega) (by omega) (by omega)]; exact a4 i c hi
  · rw [hx (a + 41) (by omega) (by omega) (by omega) (by omega), hx (a + 42) (by omega) (by omega) (by omega) (by omega)]; exact a6
/-- one becomes elected -/
theorem becomes_ok {M : Mem} {a : Nat} {p : PL} {st : ST} {K : Vec} {D : Nat → Bool} {O : Int} (h : WF p) (hl : st.h.length ≤ 8) (hR : MRR M a p st K D O) {c : Nat} (hc : c < p.n) : Ok (fX9_becomesElected a c M) (fun q => MRR q.2 a p st K (fun d => D d || decide (d = c)) O ∧ FrM a M q.2 ∧ (∀ j, q.2 a j = M a j) ∧ q.2 (a + 29) = M (a + 29)) := by
  have hn8 := h.1
  obtain ⟨a1, a2, a3, a4, a5, a6, a7, a8⟩ := hR
  unfold fX9_becomesElected
  simp only [tn]
  refine ok_chk (by omega) (ok_nm0 (ok_chk (by omega) (ok_nm0 ?_)))
  have e22 : ∀ x y, wr (wr M (a + 25) c x) (a + 27) c y a 22 = st.h.length := fun x y => by rw [wrn (by omega), wrn (by omega)]; exact a1
  have e22' : ∀ x, wr M (a + 25) c x a 22 = st.h.length := fun x => by rw [wrn (by omega)]; exact a1
  have e42 : ∀ x y, wr (wr M (a + 25) c x) (a + 27) c y (a + 42) st.h.length = mk p.n D := fun x y => by rw [wrn (by omega), wrn (by omega)]; exact a6.2
  simp only [e22, e22', tn, e42]
  refine ok_chk (by omega) (ok_chk (by omega) (ok_nm0 (ok_some ?_)))
  rw [mk_or hn8 D hc]
  dsimp only
  have hfr : FrM a M (wr (wr (wr M (a + 25) c 2) (a + 27) c st.h.length) (a + 42) st.h.length (mk p.n fun d => D d || decide (d = c))) := (((FrM.refl a M).wr (by omega)).wr (by omega)).wr (by omega)
  have hx : ∀ x, x ≠ a + 25 → x ≠ a + 27 → x ≠ a + 42 → wr (wr (wr M (a + 25) c 2) (a + 27) c st.h.length) (a + 42) st.h.length (mk p.n fun d => D d || decide (d = c)) x = M x := fun x x1 x2 x3 => by rw [wrn x3, wrn x2, wrn x1]
  refine ⟨⟨by rw [hx a (by omega) (by omega) (by omega)]; exact a1, by rw [hx a (by omega) (by omega) (by omega)]; exact a2, fun d hd => ⟨?_, ?_, ?_⟩, fun i d hi => ?_, fun s sr hs => ?_, ⟨?_, ?_⟩, a7.same (by rw [hx a (by omega) (by omega) (by omega)]) (hx _ (by omega) (by omega) (by omega)) (hx _ (by omega) (by omega) (by omega)) (hx _ (by omega) (by omega) (by omega)), a8.fr hfr⟩, hfr, fun j => by (try dsimp only); rw [hx a (by omega) (by omega) (by omega)], hx _ (by omega) (by omega) (by omega)⟩
  · rw [wrn (by omega), wrn (by omega), wre]
    by_cases e : d = c
    · subst e; rw [up_same, if_pos (by simp)]
    · rw [up_ne e, (a3 d hd).1]; simp [e]
  · rw [hx _ (by omega) (by omega) (by omega)]; exact (a3 d hd).2.1
  · rw [wrn (by omega), wre, wrn (by omega)]
    by_cases e : d = c
    · subst e; rw [up_same, if_pos (by simp)]
    · rw [up_ne e, (a3 d hd).2.2]; simp [e]
  · rw [hx _ (by omega) (by omega) (by omega)]; exact a4 i d hi
  · have hlt := getq_lt hs
    have := a5 s sr hs
    unfold SRm at *
    rw [hx (a + 40) (by omega) (by omega) (by omega), hx (a + 41) (by omega) (by omega) (by omega), hx (a + 35) (by omega) (by omega) (by omega), hx (a + 36) (by omega) (by omega) (by omega), hx (a + 37) (by omega) (by omega) (by omega), hx (a + 38) (by omega) (by omega) (by omega), hx (a + 34) (by omega) (by omega) (by omega), hx (a + 39) (by omega) (by omega) (by omega), wre, up_ne (by omega), wrn (by omega), wrn (by omega)]
    exact this
  · rw [hx _ (by omega) (by omega) (by omega)]; exact a6.1
  · rw [wra]
theorem mel_l18 {a : Nat} {p : PL} {M : Mem} {F g : Vec} {q x1 : Int} (h : WF p) (hc : PMm M a p) (hf : Ag p.n (M (a + 25)) F) (hg : Ag p.n (M (a + 29)) g) (hq : M a 29 = q) : ∀ (m i : Nat) (x : Int), i ≤ p.n → p.n < m + i → x = opt (scan i (av p g) (reach F g q)) → Ok (fX9_elects_l18 a x1 m x i M) (fun z => z.1 = opt (scan p.n (av p g) (reach F g q)) ∧ z.2.2 = M) := by
  intro m
  have hn8 := h.1
  induction m with
  | zero => intros; omega
  | succ m ih =>
    intro i x h1 h2 hx
    unfold fX9_elects_l18
    rw [hc.1]
    refine ok_ite (fun hq => ok_some ⟨?_, rfl⟩) (fun hq2 => ?_)
    · have : i = p.n := by omega
      subst this; exact hx
    · have hi : i < p.n := by omega
      simp only [tn, hf i hi, hg i hi, hq]
      have go : ∀ y : Int, y = opt (scan (i + 1) (av p g) (reach F g q)) → Ok (fX9_elects_l18 a x1 m y ((i : Int) + 1) M) (fun z => z.1 = opt (scan p.n (av p g) (reach F g q)) ∧ z.2.2 = M) := fun y hy => ih (i + 1) y (by omega) (by omega) hy
      refine ok_chk (by omega) (ok_bi (ok_ite (fun h3 => ?_) (fun h3 => ?_)))
      · refine ok_chk (by omega) (ok_ite (fun h4 => ?_) (fun h4 => ?_))
        · (repeat (first | with_reducible refine ok_nm0 ?_ | (with_reducible refine ok_chk ?_ ?_; · omega) | (with_reducible refine ok_if ?_ ?_; · omega) | (with_reducible refine ok_el ?_ ?_; · omega) | with_reducible refine ok_some ?_ | with_reducible refine ok_bi ?_ | with_reducible refine ok_bsm ?_)); try dsimp only
          exact go x (by rw [hx, scan_f (by simp [reach]; omega)])
        · have hw : reach F g q i = true := by simp [reach]; omega
          cases es : scan i (av p g) (reach F g q) with
          | none =>
            rw [es] at hx
            have hx1 : x = -1 := hx
            rw [hx1]
            (repeat (first | with_reducible refine ok_nm0 ?_ | (with_reducible refine ok_chk ?_ ?_; · omega) | (with_reducible refine ok_if ?_ ?_; · omega) | (with_reducible refine ok_el ?_ ?_; · omega) | with_reducible refine ok_some ?_ | with_reducible refine ok_bi ?_ | with_reducible refine ok_bsm ?_)); try dsimp only
            exact go _ (by rw [scan_t0 hw es]; rfl)
          | some b =>
            rw [es] at hx
            have hx1 : x = (b : Int) := hx
            have hb := scan_lt es
            rw [hx1]
            refine ok_el (by omega) (ok_bs (isAhead_ok h hc hg hi (by omega)) ?_)
            have e2 := scan_t1 hw es
            by_cases e : lx (av p g) i b = true
            · rw [if_pos e] at e2
              refine ok_el (by (try dsimp only); rw [if_pos e]; decide) ?_
              (repeat (first | with_reducible refine ok_nm0 ?_ | (with_reducible refine ok_chk ?_ ?_; · omega) | (with_reducible refine ok_if ?_ ?_; · omega) | (with_reducible refine ok_el ?_ ?_; · omega) | with_reducible refine ok_some ?_ | with_reducible refine ok_bi ?_ | with_reducible refine ok_bsm ?_)); try dsimp only
              exact go _ (by rw [e2]; rfl)
            · rw [if_neg e] at e2
              refine ok_if (by (try dsimp only); rw [if_neg e]) ?_
              (repeat (first | with_reducible refine ok_nm0 ?_ | (with_reducible refine ok_chk ?_ ?_; · omega) | (with_reducible refine ok_if ?_ ?_; · omega) | (with_reducible refine ok_el ?_ ?_; · omega) | with_reducible refine ok_some ?_ | with_reducible refine ok_bi ?_ | with_reducible refine ok_bsm ?_)); try dsimp only
              exact go _ (by rw [e2]; rfl)
      · (repeat (first | with_reducible refine ok_nm0 ?_ | (with_reducible refine ok_chk ?_ ?_; · omega) | (with_reducible refine ok_if ?_ ?_; · omega) | (with_reducible refine ok_el ?_ ?_; · omega) | with_reducible refine ok_some ?_ | with_reducible refine ok_bi ?_ | with_reducible refine ok_bsm ?_)); try dsimp only
        exact go x (by rw [hx, scan_f (by simp [reach]; omega)])
/-- those of the QUOTA, one behind the other -/
theorem mel_l2 {a : Nat} {p : PL} {st : ST} {K g : Vec} {O q : Int} (h : WF p) (hs : SI p st) (hl : st.h.length ≤ 8) : ∀ (m k : Nat) (D : List Nat) (M : Mem), k < m → MRR M a p st K (fun c => decide (c ∈ D)) O → Ag p.n (M (a + 29)) g → M a 29 = q → D.Nodup → (∀ c, c ∈ D → c < p.n ∧ st.f c = 1) → (st.o.length + D.length + k : Int) = p.se → Ok (fX9_elects_l2 a m (if D = [] then 0 else 1) M) (fun z => ∃ E r, z = .inl r ∧ E = D ++ srt k p.n (av p g) (fun c => reach st.f g q c && !decide (c ∈ D)) ∧ r.1 = (if E = [] then 0 else 1) ∧ MRR r.2 a p st K (fun c => decide (c ∈ E)) O ∧ FrM a M r.2 ∧ (∀ j, r.2 a j = M a j) ∧ r.2 (a + 29) = M (a + 29)) := by
  intro m
  have hn8 := h.1
  induction m with
  | zero => intros; omega
  | succ m ih =>
    intro k D M h1 hR hg hq hD hDf hk
    unfold fX9_elects_l2
    have hpm := hR.2.2.2.2.2.2.2
    have hse := hpm.2.2.2.2.1
    have hF : Ag p.n (M (a + 25)) (fun c => if c ∈ D then 2 else st.f c) := fun c hc => by rw [(hR.2.2.1 c hc).1]; simp
    refine ok_bs (many_ok hn8 hpm.1 hF) ?_
    have hcn : cn p.n (fun c => decide ((if c ∈ D then 2 else st.f c) = 2)) = st.o.length + D.length := by
      rw [cn_E D st.f 2 hD (fun c hc => ⟨(hDf c hc).1, by have := (hDf c hc).2; omega⟩), hs.2.2.2.2.2.2.2.2.1]
    have h01 : ∀ L : List Nat, ((if L = [] then (0 : Int) else 1) = 0 ∨ (if L = [] then (0 : Int) else 1) = 1) := fun L => by split <;> omega
    simp only [hcn, hse]
    have fin : D = D ++ srt k p.n (av p g) (fun c => reach st.f g q c && !decide (c ∈ D)) → Ok (if (if D = [] then (0 : Int) else 1) = 0 ∨ (if D = [] then (0 : Int) else 1) = 1 then some (Sum.inl ((if D = [] then (0 : Int) else 1), M) : (Int × Mem) ⊕ (Int × Mem)) else none) (fun z => ∃ E r, z = .inl r ∧ E = D ++ srt k p.n (av p g) (fun c => reach st.f g q c && !decide (c ∈ D)) ∧ r.1 = (if E = [] then 0 else 1) ∧ MRR r.2 a p st K (fun c => decide (c ∈ E)) O ∧ FrM a M r.2 ∧ (∀ j, r.2 a j = M a j) ∧ r.2 (a + 29) = M (a + 29)) := fun e =>
      ok_chk (h01 D) (ok_some ⟨D, _, rfl, e, rfl, hR, FrM.refl a M, fun _ => rfl, rfl⟩)
    refine ok_ite (fun hc => ?_) (fun hc => ?_)
    · have hk0 : k = 0 := by omega
      subst hk0
      exact fin (by simp [srt])
    · obtain ⟨k, rfl⟩ : ∃ k', k = k' + 1 := ⟨k - 1, by omega⟩
      refine ok_by (mel_l18 (q := q) h hpm hF hg hq 1000 0 (-1) (by omega) (by omega) rfl) (fun z hz => ?_)
      have hsc : scan p.n (av p g) (reach (fun c => if c ∈ D then 2 else st.f c) g q) = scan p.n (av p g) (fun c => reach st.f g q c && !decide (c ∈ D)) := scan_congr (av_tot h g) (fun c hc => by
        unfold reach
        by_cases e : c ∈ D
        · simp [e]
        · simp [e])
      rw [hsc] at hz
      rw [hz.1, hz.2]
      cases es : scan p.n (av p g) (fun c => reach st.f g q c && !decide (c ∈ D)) with
      | none =>
        refine ok_if rfl ?_
        exact fin (by rw [srt_none es, List.append_nil])
      | some c =>
        have hm := scan_some (av_tot h g) es
        have hcw := hm.2.1
        simp only [Bool.and_eq_true, Bool.not_eq_true', decide_eq_false_iff_not] at hcw
        have hf1 : st.f c = 1 := by
          have := hcw.1
          simp only [reach, Bool.and_eq_true, decide_eq_true_eq] at this
          exact this.1
        show Ok (if (c : Int) = -1 then _ else _) _
        refine ok_el (by omega) ?_
        refine ok_by (becomes_ok h hl hR hm.1) (fun w hw => ?_)
        obtain ⟨w1, w2, w3, w4⟩ := hw
        have hR2 : MRR w.2 a p st K (fun d => decide (d ∈ D ++ [c])) O := by
          have e : (fun d => decide (d ∈ D) || decide (d = c)) = (fun d => decide (d ∈ D ++ [c])) := by funext d; simp
          rw [← e]; exact w1
        have := ih k (D ++ [c]) w.2 (by omega) hR2 (by rw [w4]; exact hg) (by rw [w3]; exact hq) (List.nodup_append.mpr ⟨hD, by simp, fun x hx y hy e => by subst e; simp at hy; subst hy; exact hcw.2 hx⟩) (fun d hd => by
          rcases List.mem_append.mp hd with e | e
          · exact hDf d e
          · simp at e; subst e; exact ⟨hm.1, hf1⟩) (by simp only [List.length_append, List.length_cons, List.length_nil]; omega)
        rw [if_neg (by simp)] at this
        refine this.mono (fun z hz => ?_)
        obtain ⟨E, r, e1, e2, e3, e4, e5, e6, e7⟩ := hz
        refine ⟨E, r, e1, ?_, e3, e4, w2.trans e5, fun j => by rw [e6, w3], by rw [e7, w4]⟩
        rw [e2, srt_some es, List.append_assoc, List.singleton_append]
        congr 2
        refine srt_congr (av_tot h g) (fun d hd => ?_)
        unfold wo
        by_cases c1 : d = c
        · subst c1; simp
        · simp [c1]
theorem mel_ok {a : Nat} {p : PL} {st : ST} {K g : Vec} {O : Int} {M : Mem} (h : WF p) (hs : SI p st) (hl : st.h.length ≤ 8) (hR : MRR M a p st K (fun _ => false) O) (hg : Ag p.n (M (a + 29)) g) (hq : M a 29 = quo p g) : Ok (fX9_elects a M) (fun r => r.1 = (if EE p st.f st.o g = [] then 0 else 1) ∧ MRR r.2 a p st K (fun c => decide (c ∈ EE p st.f st.o g)) O ∧ FrM a M r.2 ∧ (∀ j, r.2 a j = M a j) ∧ r.2 (a + 29) = M (a + 29)) := by
  have hse := h.2.2.2.2.2.2.1
  have hsl := hs.2.2.2.2.1
  unfold fX9_elects
  refine ok_lrl ((mel_l2 (q := quo p g) h hs hl 1000 (p.se - st.o.length).toNat [] M (by omega) (by simpa using hR) hg hq List.nodup_nil (fun c hc => by cases hc) (by show (st.o.length : Int) + ((0 : Nat) : Int) + _ = _; omega)).mono (fun z hz => ?_))
  obtain ⟨E, r, e1, e2, e3, e4, e5, e6, e7⟩ := hz
  have : E = EE p st.f st.o g := by
    rw [e2, List.nil_append]
    unfold EE
    exact srt_congr (av_tot h g) (fun c hc => by simp)
  subst this
  exact ⟨r, e1, e3, e4, e5, e6, e7⟩
end
