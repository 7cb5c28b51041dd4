section
/-! VOTES, the other one's -/
theorem tell_l53 {a k n : Nat} {l : List Int} {K g0 : Vec} {S left : Int} (hk25 : k < 25) (hn : n ≤ 8) (hl : rl l) (hd : ∀ d ∈ l, d ≤ (n : Int)) (hK : KB n K) (h0 : PI n S (left, g0)) (hS : S ≤ 4611686000000) : ∀ (m i : Nat) (x : Int) (M : Mem), i ≤ l.length → 8 < m + i → x = (pass K (l.take i) (left, g0)).1 → M (a + 20) k = num l → Ag n (M (a + 29)) (pass K (l.take i) (left, g0)).2 → Ag n (M (a + 26)) K → Ok (fX9_tellVotes_l53 a k m x i M) (fun z => z.1 = (pass K l (left, g0)).1 ∧ Ag n (z.2.2 (a + 29)) (pass K l (left, g0)).2 ∧ ∀ b, b ≠ a + 29 → z.2.2 b = M b) := by
  intro m
  have hdn : ∀ d ∈ l, (d - 1).toNat < n := fun d hx => by have := hl.1 d hx; have := hd d hx; omega
  induction m with
  | zero => intro i; have := hl.2; intros; omega
  | succ m ih =>
    intro i x M h1 h2 hx hr hg hk
    have h8 := hl.2
    unfold fX9_tellVotes_l53
    rw [tn, hr]
    (first | with_reducible refine ok_nm0 ?_ | (with_reducible refine ok_chk ?_ ?_; · omega) | (with_reducible refine ok_if ?_ ?_; · omega) | (with_reducible refine ok_el ?_ ?_; · omega) | with_reducible refine ok_some ?_ | with_reducible refine ok_bi ?_ | with_reducible refine ok_bsm ?_)
    refine ok_bs (lengthOf_ok hl M) ?_
    refine ok_ite (fun hc => ok_some ?_) (fun hc => ?_)
    · have hc : i = l.length := by (try dsimp only at hc); omega
      rw [hc, List.take_length] at hx hg
      exact ⟨hx, hg, fun _ _ => rfl⟩
    · have hi : i < l.length := by (try dsimp only at hc); omega
      simp only [hr]
      (first | with_reducible refine ok_nm0 ?_ | (with_reducible refine ok_chk ?_ ?_; · omega) | (with_reducible refine ok_if ?_ ?_; · omega) | (with_reducible refine ok_el ?_ ?_; · omega) | with_reducible refine ok_some ?_ | with_reducible refine ok_bi ?_ | with_reducible refine ok_bsm ?_)
      refine ok_bs (digitAt_ok hl hi M) ?_
      have hr2 := rl_getD hl hi
      have hdl : l.getD i 0 ≤ n := by rw [getD_lt hi]; exact hd _ (List.getElem_mem hi)
      have hs := pass_PI hK (l.take i) (left, g0) (fun d hx => hdn d (List.mem_of_mem_take hx)) h0
      have hle := hs.le
      have hnx : pass K (l.take (i + 1)) (left, g0) = pstep K (l.getD i 0) (pass K (l.take i) (left, g0)) := take_fold (by rw [List.getElem?_eq_getElem hi, getD_lt hi])
      generalize hP : pass K (l.take i) (left, g0) = s at *
      have hcn : (l.getD i 0 - 1).toNat < n := by omega
      have hkk := hK _ hcn
      have hkv := hk _ hcn
      have hgv := hg _ hcn
      have hpb := part_bd hs.1 hkk.1 hkk.2
      have hpb2 := mul_bd hs.1 hle.1 hkk.1 hkk.2
      have hgb := hle.2 _ hcn
      have hgb0 := hs.2.1 _ hcn
      rw [← hkv, ← hx] at hpb hpb2
      rw [← hgv] at hgb hgb0
      have hxb := hs.1
      have hxb2 := hle.1
      rw [← hx] at hxb hxb2
      try dsimp only
      (repeat (first | with_reducible refine ok_nm0 ?_ | (with_reducible refine ok_chk ?_ ?_; · omega) | (with_reducible refine ok_if ?_ ?_; · omega) | (with_reducible refine ok_el ?_ ?_; · omega) | with_reducible refine ok_some ?_ | with_reducible refine ok_bi ?_ | with_reducible refine ok_bsm ?_)); try dsimp only
      refine (ih (i + 1) _ _ (by omega) (by omega) ?_ ?_ ?_ ?_).mono (fun z hz => ?_)
      · rw [hnx]
        show _ = s.1 - s.1 * K (l.getD i 0 - 1).toNat / 1000000
        rw [← hx, ← hkv]
      · rw [wrn (by omega)]; exact hr
      · rw [hnx, wre]
        refine hg.up _ ?_
        rw [← hx, ← hkv, hgv]
      · rw [wrn (by omega)]; exact hk
      · obtain ⟨a1, a2, a3⟩ := hz
        exact ⟨a1, a2, fun b hb => by rw [a3 b hb, wrn hb]⟩
theorem tell_l30 {a : Nat} {p : PL} {K : Vec} (h : WF p) (hK : KB p.n K) : ∀ (m k : Nat) (M : Mem), k ≤ (gat p).length → (gat p).length < m + k → PAm M a (gat p) → Ag p.n (M (a + 26)) K → Ag p.n (M (a + 29)) (vt K ((gat p).take k) (0, fun _ => 0)).2 → M a 30 = (vt K ((gat p).take k) (0, fun _ => 0)).1 → Ok (fX9_tellVotes_l30 a m k M) (fun q => Ag p.n (q.2 (a + 29)) (VT p K).2 ∧ q.2 a 30 = (VT p K).1 ∧ (∀ j, j ≠ 30 → q.2 a j = M a j) ∧ ∀ b, b ≠ a → b ≠ a + 29 → q.2 b = M b) := by
  intro m
  obtain ⟨g1, g2, g3⟩ := gat_ok h
  induction m with
  | zero => intros; omega
  | succ m ih =>
    intro k M h1 h2 hp hk hg hx
    unfold fX9_tellVotes_l30
    rw [hp.1]
    refine ok_ite (fun hc => ok_some ?_) (fun hc => ?_)
    · have e : k = (gat p).length := by omega
      rw [e, List.take_length] at hg hx
      exact ⟨hg, hx, fun _ _ => rfl, fun _ _ _ => rfl⟩
    · obtain ⟨r, hr⟩ := getq (pl := gat p) (j := k) (by omega)
      have hrg := g2 r (List.mem_of_getElem? hr)
      have hv := hp.2 k r hr
      have hsp := (sp_take g2 k).2 r hr
      have hnn := sp_nn (fun q hq => (pl_take g2 k q hq).2.2.2)
      have hI := vt_take h hK k
      have hle := hI.le
      have hn1 : vt K ((gat p).take (k + 1)) (0, fun _ => 0) = vstep K r (vt K ((gat p).take k) (0, fun _ => 0)) := take_fold hr
      have hI2 := vt_take h hK (k + 1)
      have hle2 := hI2.le
      have hsp2 := (sp_take g2 (k + 1)).1
      have hmn := hrg.2.2.2
      generalize hP : vt K ((gat p).take k) (0, fun _ => 0) = s at *
      have hI0 : PI p.n (r.2 * 1000000 + sm p.n s.2) (r.2 * 1000000, s.2) := ⟨by (try dsimp only); omega, hI.2.1, rfl⟩
      have hsn := hI.2.2
      have hs1 := hI.1
      rw [tn, hv.2.2, Int.mul_comm]
      (repeat (first | with_reducible refine ok_nm0 ?_ | (with_reducible refine ok_chk ?_ ?_; · omega) | (with_reducible refine ok_if ?_ ?_; · omega) | (with_reducible refine ok_el ?_ ?_; · omega) | with_reducible refine ok_some ?_ | with_reducible refine ok_bi ?_ | with_reducible refine ok_bsm ?_)); try dsimp only
      refine ok_by (tell_l53 (by omega) h.1 hrg.1 hrg.2.2.1 hK hI0 (by omega) 1000 0 _ M (by omega) (by omega) rfl hv.1 hg hk) (fun q hq => ?_)
      obtain ⟨q1, q2, q3⟩ := hq
      have hq1 : 0 ≤ q.1 ∧ s.1 + q.1 ≤ 4611686000000 := by
        rw [hn1] at hle2 hI2
        have h5 := hle2.1
        have h6 : (vstep K r s).1 = s.1 + q.1 := by rw [q1]; rfl
        have h7 := pass_PI hK r.1 _ (fun d hd => by have := hrg.1.1 d hd; have := hrg.2.2.1 d hd; omega) hI0
        exact ⟨by rw [q1]; exact h7.1, by omega⟩
      have hx2 : q.2.2 a 30 = s.1 := by rw [q3 _ (by omega)]; exact hx
      rw [hx2]
      (repeat (first | with_reducible refine ok_nm0 ?_ | (with_reducible refine ok_chk ?_ ?_; · omega) | (with_reducible refine ok_if ?_ ?_; · omega) | (with_reducible refine ok_el ?_ ?_; · omega) | with_reducible refine ok_some ?_ | with_reducible refine ok_bi ?_ | with_reducible refine ok_bsm ?_)); try dsimp only
      refine (ih (k + 1) _ (by omega) (by omega) ⟨?_, fun j r hj => ?_⟩ ?_ ?_ ?_).mono (fun z hz => ⟨hz.1, hz.2.1, fun j hj => ?_, fun b hb1 hb2 => ?_⟩)
      · rw [wrk _ (by omega), q3 _ (by omega)]; exact hp.1
      · rw [wrn (by omega), wrn (by omega), wrn (by omega), q3 _ (by omega), q3 _ (by omega), q3 _ (by omega)]; exact hp.2 j r hj
      · rw [wrn (by omega), q3 _ (by omega)]; exact hk
      · rw [hn1, wrn (by omega)]; exact q2
      · rw [hn1, wra, q1]; rfl
      · rw [hz.2.2.1 j hj, wrk _ hj, q3 _ (by omega)]
      · rw [hz.2.2.2 b hb1 hb2, wrn hb1, q3 _ hb2]
theorem tell_l2 {a n : Nat} {M0 : Mem} (hn : n ≤ 8) (h0 : M0 a 0 = n) : ∀ (m i : Nat) (M : Mem), i ≤ n → n < m + i → M = (fun b j => if b = a + 29 ∧ j < i then 0 else M0 b j) → Ok (fX9_tellVotes_l2 a m i M) (fun q => q.2 = fun b j => if b = a + 29 ∧ j < n then 0 else M0 b j) := by
  intro m
  induction m with
  | zero => intros; omega
  | succ m ih =>
    intro i M h1 h2 hM
    unfold fX9_tellVotes_l2
    have e : M a 0 = n := by rw [hM]; simp [h0]
    rw [e]
    refine ok_ite (fun hc => ok_some ?_) (fun hc => ?_)
    · have : i = n := by omega
      subst this; exact hM
    · (repeat (first | with_reducible refine ok_nm0 ?_ | (with_reducible refine ok_chk ?_ ?_; · omega) | (with_reducible refine ok_if ?_ ?_; · omega) | (with_reducible refine ok_el ?_ ?_; · omega) | with_reducible refine ok_some ?_ | with_reducible refine ok_bi ?_ | with_reducible refine ok_bsm ?_)); try dsimp only
      refine ih (i + 1) _ (by omega) (by omega) ?_
      rw [hM]
      funext b j
      simp only [wr, tn]
      grind
theorem tell_l144 {a n : Nat} {f : Vec} (hn : n ≤ 8) (hf : ∀ c, c < n → 0 ≤ f c ∧ f c ≤ 4611686000000) : ∀ (m c : Nat) (M : Mem), c ≤ n → n < m + c → M a 0 = n → Ag n (M (a + 29)) f → M a 32 = sm c f → Ok (fX9_tellVotes_l144 a m c M) (fun q => q.2 a 32 = sm n f ∧ (∀ j, j ≠ 32 → q.2 a j = M a j) ∧ ∀ b, b ≠ a → q.2 b = M b) := by
  intro m
  induction m with
  | zero => intros; omega
  | succ m ih =>
    intro c M h1 h2 hn0 hg hx
    unfold fX9_tellVotes_l144
    rw [hn0]
    refine ok_ite (fun hc => ok_some ?_) (fun hc => ?_)
    · have : c = n := by omega
      subst this
      exact ⟨hx, fun _ _ => rfl, fun _ _ => rfl⟩
    · have hcn : c < n := by omega
      have h3 := hf c hcn
      have h4 : 0 ≤ sm c f := sm_nn (fun d hd => (hf d (by omega)).1)
      have h5 : sm c f ≤ 8 * 4611686000000 := by
        have : ∀ k, k ≤ c → sm k f ≤ k * 4611686000000 := by
          intro k
          induction k with
          | zero => intro _; simp [sm]
          | succ k ih => intro hk; have := ih (by omega); have := (hf k (by omega)).2; show sm k f + f k ≤ _; omega
        have := this c (Nat.le_refl c)
        omega
      have h6 := hg c hcn
      rw [tn, hx, h6]
      (repeat (first | with_reducible refine ok_nm0 ?_ | (with_reducible refine ok_chk ?_ ?_; · omega) | (with_reducible refine ok_if ?_ ?_; · omega) | (with_reducible refine ok_el ?_ ?_; · omega) | with_reducible refine ok_some ?_ | with_reducible refine ok_bi ?_ | with_reducible refine ok_bsm ?_)); try dsimp only
      refine (ih (c + 1) _ (by omega) (by omega) ?_ ?_ ?_).mono (fun z hz => ⟨hz.1, fun j hj => ?_, fun b hb => ?_⟩)
      · rw [wrk _ (by omega)]; exact hn0
      · rw [wrn (by omega)]; exact hg
      · rw [wra]; rfl
      · rw [hz.2.1 j hj, wrk _ hj]
      · rw [hz.2.2 b hb, wrn hb]
theorem tellVotes_ok {a : Nat} {p : PL} {K : Vec} {M : Mem} (h : WF p) (hK : KB p.n K) (hp : PAm M a (gat p)) (hk : Ag p.n (M (a + 26)) K) (hc : PMm M a p) : Ok (fX9_tellVotes a M) (fun q => Ag p.n (q.2 (a + 29)) (VT p K).2 ∧ q.2 a 30 = (VT p K).1 ∧ q.2 a 32 = sm p.n (VT p K).2 ∧ q.2 a 29 = quo p (VT p K).2 ∧ (∀ j, j ≠ 29 → j ≠ 30 → j ≠ 32 → q.2 a j = M a j) ∧ ∀ b, b ≠ a → b ≠ a + 29 → q.2 b = M b) := by
  have hbd := VT_bd h hK
  have hqb := quo_bd h hbd.2.2.2.1 hbd.2.2.2.2
  have hs := h.2.2.2.2.2.2.1
  have h25 := (gat_ok h).1
  have h8 := h.1
  unfold fX9_tellVotes
  refine ok_by (tell_l2 h.1 hc.1 1000 0 M (by omega) (by omega) (by funext b j; simp)) (fun q hq => ?_)
  (first | with_reducible refine ok_nm0 ?_ | (with_reducible refine ok_chk ?_ ?_; · omega) | (with_reducible refine ok_if ?_ ?_; · omega) | (with_reducible refine ok_el ?_ ?_; · omega) | with_reducible refine ok_some ?_ | with_reducible refine ok_bi ?_ | with_reducible refine ok_bsm ?_)
  have f1 : ∀ b, b ≠ a + 29 → q.2 b = M b := fun b hb => by rw [hq]; funext j; dsimp only; rw [if_neg (by omega)]
  refine ok_by (tell_l30 h hK 1000 0 _ (by omega) (by omega) ⟨?_, fun j r hj => ?_⟩ ?_ ?_ ?_) (fun z hz => ?_)
  · rw [wrk _ (by omega), f1 _ (by omega)]; exact hp.1
  · rw [wrn (by omega), wrn (by omega), wrn (by omega), f1 _ (by omega), f1 _ (by omega), f1 _ (by omega)]; exact hp.2 j r hj
  · rw [wrn (by omega), f1 _ (by omega)]; exact hk
  · rw [wrn (by omega), hq]
    intro c hc2
    dsimp only
    rw [if_pos ⟨rfl, by omega⟩]
    rfl
  · rw [wra]; rfl
  · obtain ⟨z1, z2, z3, z4⟩ := hz
    (first | with_reducible refine ok_nm0 ?_ | (with_reducible refine ok_chk ?_ ?_; · omega) | (with_reducible refine ok_if ?_ ?_; · omega) | (with_reducible refine ok_el ?_ ?_; · omega) | with_reducible refine ok_some ?_ | with_reducible refine ok_bi ?_ | with_reducible refine ok_bsm ?_)
    refine ok_by (tell_l144 h.1 hbd.2.2.1 1000 0 _ (by omega) (by omega) ?_ ?_ ?_) (fun y hy => ?_)
    · rw [wrk _ (by omega), z3 _ (by omega), wrk _ (by omega), f1 _ (by omega)]; exact hc.1
    · rw [wrn (by omega)]; exact z1
    · rw [wra]; rfl
    · obtain ⟨y1, y2, y3⟩ := hy
      have hse : y.2 a 6 = p.se := by
        rw [y2 _ (by omega), wrk _ (by omega), z3 _ (by omega), wrk _ (by omega), f1 _ (by omega)]; exact hc.2.2.2.2.1
      have hqq : sm p.n (VT p K).2 / (p.se + 1) + 1 = quo p (VT p K).2 := rfl
      rw [hse, y1]
      (repeat (first | with_reducible refine ok_nm0 ?_ | (with_reducible refine ok_chk ?_ ?_; · omega) | (with_reducible refine ok_if ?_ ?_; · omega) | (with_reducible refine ok_el ?_ ?_; · omega) | with_reducible refine ok_some ?_ | with_reducible refine ok_bi ?_ | with_reducible refine ok_bsm ?_)); try dsimp only
      refine ⟨?_, ?_, ?_, ?_, fun j j1 j2 j3 => ?_, fun b b1 b2 => ?_⟩
      · rw [wrn (by omega), y3 _ (by omega), wrn (by omega)]; exact z1
      · rw [wrk _ (by omega), y2 _ (by omega), wrk _ (by omega)]; exact z2
      · rw [wrk _ (by omega)]; exact y1
      · rw [wra]; rfl
      · rw [wrk _ j1, y2 _ j3, wrk _ j3, z3 _ j2, wrk _ j2, f1 _ (by omega)]
      · rw [wrn b1, y3 _ b1, wrn b1, z4 _ b1 b2, wrn b1, f1 _ b2]
end
