section
/-! needs, ballots -/
theorem together_l {o : Nat} {p : PL} {M : Mem} (h : WF p) (hc : PCc M o p) : ∀ (m b : Nat), b ≤ p.nb → p.nb < m + b → Ok (fX1_together_l4 o m (sm b p.mn) b M) (fun z => z.1 = sm p.nb p.mn ∧ z.2.2 = M) := by
  intro m
  have h25 := h.2.1
  induction m with
  | zero => intros; omega
  | succ m ih =>
    intro b h1 h2
    unfold fX1_together_l4
    rw [hc.2.1]
    refine ok_ite (fun hq => ok_some ⟨?_, rfl⟩) (fun hq => ?_)
    · have : b = p.nb := by omega
      subst this; rfl
    · have hb : b < p.nb := by omega
      have hv := (hc.2.2.2.1 b hb).2
      have e : sm (b + 1) p.mn = sm b p.mn + p.mn b := rfl
      have b0 := sm_nn (n := b) (f := p.mn) (fun c hc => (h.2.2.2.2.1 c (by omega)).2)
      have b1 := (h.2.2.2.2.1 b hb).2
      have b4 := sm_nb h (b := b + 1) hb
      simp only [tn, hv]
      refine ok_chk (by omega) (ok_chk (by omega) (ok_nm0 (ok_chk (by omega) ?_)))
      rw [← e]
      exact ih (b + 1) (by omega) (by omega)
theorem together_ok {o : Nat} {p : PL} {M : Mem} (h : WF p) (hc : PCc M o p) : fX1_together o M = some (sm p.nb p.mn, M) := by
  have h25 := h.2.1
  apply ok_eq
  unfold fX1_together
  refine ok_by (together_l h hc 1000 0 (by omega) (by omega)) (fun z hz => ok_some ?_)
  rw [hz.1, hz.2]
theorem op_needs {s : SS} (hs : GS s) (c k : Int) : Op s (fX8_needs 10 c k) (fX9_needs 20000 c k) := by
  have h8 := hs.1.1.1
  have h24 := hs.1.2
  unfold fX8_needs fX9_needs
  simp only [Nat.reduceAdd]
  have c1 := fun (N : Mem) (hN : CI N s) => hasCand_ok (c := c) (M := N) (o := 11000) (n := s.p.n) hN.1.1.1.1
  have c2 := fun (N : Mem) (hD : DI N s) => isOne_ok (c := c) (M := N) (a := 20000) (n := s.p.n) h8 hD.1.1
  by_cases hc : 0 ≤ c ∧ c < s.p.n
  · obtain ⟨d, rfl⟩ := Int.eq_ofNat_of_zero_le hc.1
    have hd : d < s.p.n := by omega
    rw [if_pos hc] at c1 c2
    simp only [tn]
    by_cases hk : 1 ≤ k ∧ k ≤ 10000
    · by_cases hg : s.p.g d = 0
      · refine ⟨nd s.p d k 31 0, s, hs, fun M hC => ok_bs (c1 M hC) (ok_el (show ¬ ((1 : Int) = 0) by decide) (ok_el (by omega) (ok_if (by omega) (ok_chk (by omega) ?_)))), fun M hD => ok_bs (c2 M hD) (ok_el (show ¬ ((1 : Int) = 0) by decide) (ok_bs in_ok (ok_el (by (try dsimp only); rw [if_pos (by omega)]; decide) (ok_chk (by omega) ?_))))⟩
        · have e3 : M 11003 d = s.p.g d := (hC.1.1.1.2.2.1 d hd).1
          dsimp only
          simp only [e3]
          refine ok_if hg (ok_by (copyT hs hC) (fun z hz => ok_nm0 ?_))
          obtain ⟨z1, z2⟩ := hz
          have e4 : z.2 11000 3 = s.p.nb := by rw [z2 11000 (by omega)]; exact hC.1.1.1.2.1
          rw [e4]
          have hrl : rl (led ((d : Int) + 1) []) := ⟨fun x hx => by simp [led] at hx; omega, by simp [led]⟩
          have hl := ledBy_ok (l := []) (c := (d : Int)) ⟨(fun x hx => by cases hx), by simp⟩ (by omega) hrl z.2
          rw [fill_nil] at hl
          refine ok_bs hl (ok_chk (by omega) (ok_nm0 (ok_chk (by omega) (ok_nm0 ?_))))
          dsimp only
          rw [tn]
          have t1 : Th M (wr (wr z.2 12005 s.p.nb (fill (led ((d : Int) + 1) []))) 12000 3 ((s.p.nb : Int) + 1)) := (z2.wr (by omega)).wr (by omega)
          have hC1 := hC.th hs t1
          refine ok_bs (together_ok hs.1.1 hC1.1.1.1) (ok_nm0 ?_)
          dsimp only
          refine ok_lrl ((needsC_l hs hd hk 1000 31 0 _ (by omega) (by omega) hC1 ⟨z.2 12006 s.p.nb, ?_⟩).mono (fun y hy => ?_))
          · obtain ⟨a1, a2, a3, a4, a5, a6, a7⟩ := z1.1
            refine ⟨by rw [wrk _ (by decide), wrn (by omega)]; exact a1, by rw [wra]; rfl, fun x hx => by rw [wrn (by omega), wrn (by omega), wrn (by omega), wrn (by omega)]; exact a3 x hx, fun b hb => ⟨?_, ?_⟩, by rw [wrk _ (by decide), wrn (by omega)]; exact a5, by rw [wrk _ (by decide), wrn (by omega)]; exact a6, by rw [wrk _ (by decide), wrn (by omega)]; exact a7⟩
            · show wr (wr z.2 12005 s.p.nb (fill (led ((d : Int) + 1) []))) 12000 3 ((s.p.nb : Int) + 1) 12005 b = fill (upL s.p.L s.p.nb [(d : Int) + 1] b)
              rw [wrn (by omega), wre]
              have hb' : b < s.p.nb + 1 := hb
              by_cases ex : b = s.p.nb
              · subst ex; rw [up_same, upL_same]; rfl
              · rw [up_ne ex, upL_ne ex]; exact (a4 b (by omega)).1
            · show wr (wr z.2 12005 s.p.nb (fill (led ((d : Int) + 1) []))) 12000 3 ((s.p.nb : Int) + 1) 12006 b = up s.p.mn s.p.nb (z.2 12006 s.p.nb) b
              rw [wrn (by omega), wrn (by omega)]
              have hb' : b < s.p.nb + 1 := hb
              by_cases ex : b = s.p.nb
              · subst ex; rw [up_same]
              · rw [up_ne ex]; exact (a4 b (by omega)).2
          · obtain ⟨r, e1, e2, e3, e4⟩ := hy
            exact ⟨r, e1, e2, e3, fun x hx => (t1.trans e4) x (by omega)⟩
        · have e3 : M 20003 d = s.p.g d := (hD.1.2.2.1 d hd).1
          have e4 : M 20000 1 = s.p.nb := hD.1.2.1
          dsimp only
          simp only [e3, e4, tn]
          refine ok_if hg (ok_chk (by omega) (ok_chk (by omega) (ok_nm0 ?_)))
          refine ok_lrl ((needsM_l hs hd hk hD 1000 31 0 _ (by omega) (by omega) ⟨fun j _ _ _ _ _ _ _ => by rw [wrn (by omega)], fun x x1 _ _ => wrn x1, fun b hb => ⟨by rw [wre, up_ne (by omega)], by rw [wrn (by omega)]⟩⟩ (by rw [wra])).mono (fun y hy => ?_))
          obtain ⟨r, e1, e2, e3⟩ := hy
          exact ⟨r, e1, e2, NdI.done hD e3, fun x hx => e3.2.1 x (by omega) (by omega) (by omega)⟩
      · refine ⟨-5, s, hs, fun M hC => ok_bs (c1 M hC) (ok_el (show ¬ ((1 : Int) = 0) by decide) (ok_el (by omega) (ok_if (by omega) (ok_chk (by omega) ?_)))), fun M hD => ok_bs (c2 M hD) (ok_el (show ¬ ((1 : Int) = 0) by decide) (ok_bs in_ok (ok_el (by (try dsimp only); rw [if_pos (by omega)]; decide) (ok_chk (by omega) ?_))))⟩
        · have e3 : M 11003 d = s.p.g d := (hC.1.1.1.2.2.1 d hd).1
          dsimp only
          simp only [e3]
          exact ok_el hg (ok_some (PC.self hC))
        · have e3 : M 20003 d = s.p.g d := (hD.1.2.2.1 d hd).1
          dsimp only
          simp only [e3]
          exact ok_el hg (ok_some (PD.self hD))
    · exact ⟨-2, s, hs, fun M hC => ok_bs (c1 M hC) (ok_el (show ¬ ((1 : Int) = 0) by decide) (ok_ite (fun _ => ok_some (PC.self hC)) (fun h0 => ok_el (by omega) (ok_some (PC.self hC))))), fun M hD => ok_bs (c2 M hD) (ok_el (show ¬ ((1 : Int) = 0) by decide) (ok_bs in_ok (ok_if (by (try dsimp only); rw [if_neg (by omega)]) (ok_some (PD.self hD)))))⟩
  · rw [if_neg hc] at c1 c2
    exact ⟨-1, s, hs, fun M hC => ok_bs (c1 M hC) (ok_if rfl (ok_some (PC.self hC))), fun M hD => ok_bs (c2 M hD) (ok_if rfl (ok_some (PD.self hD)))⟩
/-! rows told -/
def ck (n : Nat) : Nat → Int → List Int → Option (List Int)
  | 0, _, l => some l
  | k + 1, v, l => if v ≤ 0 then some l else if 1 ≤ v % 10 ∧ v % 10 ≤ (n : Int) ∧ v % 10 ∉ l then ck n k (v / 10) (v % 10 :: l) else none
theorem ck_some {n : Nat} : ∀ (k : Nat) (v : Int) (l l' : List Int), ck n k v l = some l' → 0 ≤ v → v < 10 ^ k → l.Nodup → (∀ d, d ∈ l → 1 ≤ d ∧ d ≤ (n : Int)) → l'.Nodup ∧ (∀ d, d ∈ l' → 1 ≤ d ∧ d ≤ (n : Int)) ∧ num l' = v * 10 ^ l.length + num l
  | 0, v, l, l', h, h0, h1, hn, hm => by
    cases h
    have : v = 0 := by simp at h1; omega
    subst this
    exact ⟨hn, hm, by omega⟩
  | k + 1, v, l, l', h, h0, h1, hn, hm => by
    unfold ck at h
    by_cases e : v ≤ 0
    · rw [if_pos e] at h
      cases h
      have : v = 0 := by omega
      subst this
      exact ⟨hn, hm, by omega⟩
    · rw [if_neg e] at h
      by_cases e2 : 1 ≤ v % 10 ∧ v % 10 ≤ (n : Int) ∧ v % 10 ∉ l
      · rw [if_pos e2] at h
        have hp : (10 : Int) ^ (k + 1) = 10 ^ k * 10 := Int.pow_succ _ _
        have := ck_some k (v / 10) (v % 10 :: l) l' h (by omega) (by rw [hp] at h1; omega) (List.nodup_cons.mpr ⟨e2.2.2, hn⟩) (fun d hd => by
          rcases List.mem_cons.mp hd with e3 | e3
          · subst e3; exact ⟨e2.1, e2.2.1⟩
          · exact hm d e3)
        refine ⟨this.1, this.2.1, ?_⟩
        rw [this.2.2, num_cons, List.length_cons, Int.pow_succ]
        have hv : v = 10 * (v / 10) + v % 10 := by omega
        generalize v / 10 = a at *
        generalize v % 10 = b at *
        subst hv
        grind
      · rw [if_neg e2] at h; cases h
theorem bt_sh {w v : Int} (h0 : 0 ≤ w) (h1 : w < 512) {c : Nat} (hc : c < 9) (hv : v = (c : Int)) : (bAnd (bShr w v) 1 = 0 ↔ bt w c = false) := by
  subst hv
  rw [bt_shr h0 h1 hc]
  cases bt w c <;> simp
theorem ck_mask {w : Int} {l : List Int} {c : Nat} (hc : c < 9) (h0 : 0 ≤ w) (h1 : w < 512) (hw : ∀ d : Nat, bt w d = decide ((d : Int) ∈ l)) : 0 ≤ bOr w (bShl 1 (c : Int)) ∧ bOr w (bShl 1 (c : Int)) < 512 ∧ ∀ d : Nat, bt (bOr w (bShl 1 (c : Int))) d = decide ((d : Int) ∈ (c : Int) :: l) := by
  have e9 : (2 : Int) ^ 9 = 512 := by decide
  have hb := bt_or_bd (w := w) (m := 9) (by omega) h0 (by omega) (c := c) (by omega)
  refine ⟨hb.1, by omega, fun d => ?_⟩
  rw [bt_or h0 h1 hc, hw d]
  by_cases e : d = c
  · subst e; simp
  · have : ¬ (d : Int) = (c : Int) := by omega
    simp [e, this]
theorem rowC_l {n : Nat} {M : Mem} (hn : n ≤ 8) : ∀ (m k : Nat) (w v x : Int) (l : List Int), k ≤ 8 → k < m → x = 8 - (k : Int) → 0 ≤ v → 0 ≤ w → w < 512 → (∀ d : Nat, bt w d = decide ((d : Int) ∈ l)) → Ok (fX2_isRow_l20 n m w v x M) (fun z => z = .inl ((if (ck n k v l).isSome then 1 else 0 : Int), M)) := by
  intro m
  induction m with
  | zero => intros; omega
  | succ m ih =>
    intro k w v x l h1 h2 hx hv h0 h512 hw
    unfold fX2_isRow_l20
    cases k with
    | zero => exact ok_if (by omega) (ok_some rfl)
    | succ k =>
      refine ok_el (by omega) (ok_ite (fun e => ok_some ?_) (fun e => ok_chk hv (ok_nm0 ?_)))
      · unfold ck; rw [if_pos e]; rfl
      · have ec : ck n (k + 1) v l = if v ≤ 0 then some l else if 1 ≤ v % 10 ∧ v % 10 ≤ (n : Int) ∧ v % 10 ∉ l then ck n k (v / 10) (v % 10 :: l) else none := rfl
        rw [if_neg e] at ec
        refine ok_ite (fun e1 => ok_some (by rw [if_neg (by omega)] at ec; rw [ec]; rfl)) (fun e1 => ok_ite (fun e2 => ok_some (by rw [if_neg (by omega)] at ec; rw [ec]; rfl)) (fun e2 => ?_))
        obtain ⟨c, hc⟩ := Int.eq_ofNat_of_zero_le (show 0 ≤ v % 10 by omega)
        have hc9 : c < 9 := by omega
        have hbit := bt_sh h0 h512 hc9 hc
        refine ok_ite (fun e3 => ok_nm0 (ok_chk hv (ok_nm0 (ok_chk (by omega) ?_)))) (fun e3 => ok_some ?_)
        · have h4 := hbit.mp e3
          rw [hw c] at h4
          have h5 : v % 10 ∉ l := by rw [hc]; simpa using h4
          rw [if_pos ⟨by omega, by omega, h5⟩] at ec
          have hm := ck_mask hc9 h0 h512 hw
          rw [ec, hc]
          exact ih k _ (v / 10) (x + 1) ((c : Int) :: l) (by omega) (by omega) (by omega) (by omega) hm.1 hm.2.1 hm.2.2
        · have hno : ¬ (1 ≤ v % 10 ∧ v % 10 ≤ (n : Int) ∧ v % 10 ∉ l) := by
            rintro ⟨_, _, h5⟩
            apply e3
            rw [hbit, hw c]
            rw [hc] at h5
            simpa using h5
          rw [if_neg hno] at ec
          rw [ec]; rfl
theorem rowM_l {n : Nat} {M : Mem} (hn : n ≤ 8) (h20 : M 20000 0 = n) : ∀ (m k : Nat) (w v : Int) (l : List Int), k < m → 0 ≤ v → v < 10 ^ k → 0 ≤ w → w < 512 → (∀ d : Nat, bt w d = decide ((d : Int) ∈ l)) → Ok (fX9_isRow_l18 20000 m w v M) (fun z => z = .inl ((if (ck n k v l).isSome then 1 else 0 : Int), M)) := by
  intro m
  induction m with
  | zero => intros; omega
  | succ m ih =>
    intro k w v l h2 hv hvk h0 h512 hw
    unfold fX9_isRow_l18
    cases k with
    | zero =>
      have : v = 0 := by simp at hvk; omega
      exact ok_if (by omega) (ok_some rfl)
    | succ k =>
      refine ok_ite (fun e => ok_some ?_) (fun e => ok_chk hv (ok_nm0 ?_))
      · unfold ck; rw [if_pos e]; rfl
      · have ec : ck n (k + 1) v l = if v ≤ 0 then some l else if 1 ≤ v % 10 ∧ v % 10 ≤ (n : Int) ∧ v % 10 ∉ l then ck n k (v / 10) (v % 10 :: l) else none := rfl
        rw [if_neg e] at ec
        rw [h20]
        refine ok_bs in_ok ?_
        by_cases e1 : 1 ≤ v % 10 ∧ v % 10 ≤ (n : Int)
        · refine ok_el (by (try dsimp only); rw [if_pos e1]; decide) ?_
          obtain ⟨c, hc⟩ := Int.eq_ofNat_of_zero_le (show 0 ≤ v % 10 by omega)
          have hc9 : c < 9 := by omega
          have hp : (10 : Int) ^ (k + 1) = 10 ^ k * 10 := Int.pow_succ _ _
          rw [hc] at e1 ec ⊢
          refine ok_bs (has_ok h0 h512 hc9) ?_
          by_cases h5 : (c : Int) ∈ l
          · have hb : bt w c = true := by rw [hw c]; simpa using h5
            refine ok_el (by (try dsimp only); rw [if_pos hb]; decide) (ok_some ?_)
            rw [if_neg (fun hx => hx.2.2 h5)] at ec
            rw [ec]; rfl
          · have hb : bt w c = false := by rw [hw c]; simpa using h5
            refine ok_if (by (try dsimp only); rw [hb]; rfl) (ok_nm0 (ok_chk hv (ok_nm0 ?_)))
            rw [if_pos ⟨e1.1, e1.2, h5⟩] at ec
            have hm := ck_mask hc9 h0 h512 hw
            rw [ec]
            exact ih k _ (v / 10) ((c : Int) :: l) (by omega) (by omega) (by rw [hp] at hvk; omega) hm.1 hm.2.1 hm.2.2
        · refine ok_if (by (try dsimp only); rw [if_neg e1]) (ok_some ?_)
          rw [if_neg (fun hx => e1 ⟨hx.1, hx.2.1⟩)] at ec
          rw [ec]; rfl
def isR (n : Nat) (v : Int) : Bool := decide (1 ≤ v ∧ v ≤ 99999999) && (ck n 8 v []).isSome
theorem e8 : (10 : Int) ^ 8 = 100000000 := by decide
theorem rowC_ok {n : Nat} {M : Mem} (hn : n ≤ 8) (v : Int) : fX2_isRow v n M = some ((if isR n v then 1 else 0 : Int), M) := by
  apply ok_eq
  unfold fX2_isRow
  refine ok_ite (fun h => ok_some ?_) (fun h => ok_ite (fun h2 => ?_) (fun h2 => ok_some ?_))
  · rw [if_neg (by unfold isR; simp; omega)]
  · refine ok_lrl ((rowC_l hn 1000 8 0 v 0 [] (by omega) (by omega) (by omega) (by omega) (by omega) (by omega) (fun d => by rw [bt_0]; simp)).mono (fun z hz => ⟨_, hz, ?_⟩))
    have : isR n v = (ck n 8 v []).isSome := by
      unfold isR
      have : decide (1 ≤ v ∧ v ≤ 99999999) = true := by simp; omega
      rw [this, Bool.true_and]
    rw [this]
  · rw [if_neg (by unfold isR; simp; omega)]
theorem rowM_ok {n : Nat} {M : Mem} (hn : n ≤ 8) (h20 : M 20000 0 = n) (v : Int) : fX9_isRow 20000 v M = some ((if isR n v then 1 else 0 : Int), M) := by
  apply ok_eq
  unfold fX9_isRow
  refine ok_bs in_ok ?_
  by_cases h : 1 ≤ v ∧ v ≤ 99999999
  · refine ok_el (by (try dsimp only); rw [if_pos h]; decide) (ok_lrl ((rowM_l hn h20 1000 8 0 v [] (by omega) (by omega) (by rw [e8]; omega) (by omega) (by omega) (fun d => by rw [bt_0]; simp)).mono (fun z hz => ⟨_, hz, ?_⟩)))
    have : isR n v = (ck n 8 v []).isSome := by
      unfold isR
      have : decide (1 ≤ v ∧ v ≤ 99999999) = true := by simp; omega
      rw [this, Bool.true_and]
    rw [this]
  · refine ok_if (by (try dsimp only); rw [if_neg h]) (ok_some ?_)
    have hR : isR n v = false := by unfold isR; simp; omega
    rw [hR]; rfl
theorem isR_ok {n : Nat} (hn : n ≤ 8) {v : Int} (h : isR n v = true) : ∃ l, rgood n l ∧ v = num l := by
  unfold isR at h
  have h1 := Bool.and_eq_true_iff.mp h
  have h2 := of_decide_eq_true h1.1
  obtain ⟨l, hl⟩ := Option.isSome_iff_exists.mp h1.2
  have h3 := ck_some 8 v [] l hl (by omega) (by rw [e8]; omega) List.nodup_nil (fun d hd => by cases hd)
  have hv : num l = v := by have := h3.2.2; simp [num] at this; exact this
  have hl8 := nd_len n l h3.1 h3.2.1
  refine ⟨l, ⟨⟨fun d hd => by have := h3.2.1 d hd; omega, by omega⟩, fun e => ?_, fun d hd => (h3.2.1 d hd).2, h3.1⟩, hv.symm⟩
  subst e
  simp [num] at hv
  omega
end
