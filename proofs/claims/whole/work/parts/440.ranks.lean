section
/-! standing, ranked -/
theorem isBefore_ok {p : PL} {M : Mem} {g : Vec} {st : Nat} (h : WF p) (hc : PMm M 20000 p) (hst : st ≤ 7) (hg : ∀ c, c < p.n → M 20034 (8 * st + c) = g c) {c d : Nat} (hcn : c < p.n) (hdn : d < p.n) : fX9_isBefore 20000 c d st M = some (if lx (av p g) c d then 1 else 0, M) := by
  have hn8 := h.1
  apply ok_eq
  unfold fX9_isBefore
  have ec : 8 * (st : Int) + (c : Int) = ((8 * st + c : Nat) : Int) := by omega
  have ed : 8 * (st : Int) + (d : Int) = ((8 * st + d : Nat) : Int) := by omega
  simp only [Nat.reduceAdd, ec, ed, tn, hg c hcn, hg d hdn]
  refine ok_chk (by omega) (ok_chk (by omega) (ok_chk (by omega) (ok_nm0 (ok_chk (by omega) (ok_chk (by omega) (ok_chk (by omega) (ok_nm0 ?_)))))))
  refine ok_by (Q := fun t : Int × Mem => t = (if lx (av p g) c d then 1 else 0, M)) ?_ (fun t ht => ?_)
  · refine ok_ite (fun h1 => ok_some ?_) (fun h1 => ?_)
    · rw [if_pos (av_iff.mpr (Or.inl h1))]
    · refine ok_ite (fun h2 => ?_) (fun h2 => ok_some ?_)
      · refine ok_bs (lotOf_ok h hc hcn) (ok_bs (lotOf_ok h hc hdn) ?_)
        refine ok_ite (fun h3 => ok_some ?_) (fun h3 => ok_some ?_)
        · dsimp only at h3
          rw [if_neg (fun hx => by rcases av_iff.mp hx with h4 | h4 <;> omega)]
        · dsimp only at h3
          rw [if_pos (av_iff.mpr (Or.inr ⟨h2, by omega⟩))]
      · rw [if_neg (fun hx => by rcases av_iff.mp hx with h4 | h4 <;> omega)]
  · rw [ht]
    exact ok_chk (b01 _) (ok_some rfl)
def shR : Nat → Bool := fun b => decide (b = 20043)
abbrev cst (L : List Nat) : List Int := L.map (fun (c : Nat) => (c : Int))
theorem rk_l68 {p : PL} {g : Vec} {F : List Int} {L : List Nat} {M0 : Mem} {st c : Nat} {x2 x4 : Int} (h : WF p) (hpm : PMm M0 20000 p) (hst : st ≤ 7) (hg : ∀ c, c < p.n → M0 20034 (8 * st + c) = g c) (hcn : c < p.n) (hN : F.length + L.length ≤ 7) (hA : ∀ k v, (F ++ cst L)[k]? = some v → M0 20043 k = v) (hd : ∀ d, d ∈ L → d < p.n) (hL : Sd (av p g) L) (hcL : c ∉ L) : ∀ (m j : Nat) (M : Mem), j ≤ L.length → j < m → M = shf shR (F.length + j) (F.length + L.length) M0 → (∀ i (hi : i < L.length), j ≤ i → lx (av p g) c L[i] = true) → Ok (fX9_ranksBy_l68 20000 (F.length : Int) x2 st x4 c m ((F.length + j : Nat) : Int) M) (fun z => ∃ j2 : Nat, j2 ≤ L.length ∧ z.1 = ((F.length + j2 : Nat) : Int) ∧ z.2 = shf shR (F.length + j2) (F.length + L.length) M0 ∧ (∀ i (hi : i < L.length), j2 ≤ i → lx (av p g) c L[i] = true) ∧ ∀ i (hi : i < L.length), i < j2 → lx (av p g) L[i] c = true) := by
  intro m
  have hn8 := h.1
  induction m with
  | zero => intros; omega
  | succ m ih =>
    intro j M h1 h2 hM hall
    have fx : ∀ x, x ≠ 20043 → M x = M0 x := fun x hx => by rw [hM, shf_ne (by simp [shR, hx])]
    have hpM : PMm M 20000 p := hpm.same (fun k _ => by rw [fx _ (by omega)]) (fx _ (by omega)) (fx _ (by omega)) (fx _ (by omega)) (fx _ (by omega))
    unfold fX9_ranksBy_l68
    simp only [Nat.reduceAdd]
    refine ok_ite (fun hc => ok_some ⟨j, h1, rfl, hM, hall, fun i hi hij => by omega⟩) (fun hc => ?_)
    obtain ⟨j, rfl⟩ : ∃ j', j = j' + 1 := ⟨j - 1, by omega⟩
    have hjl : j < L.length := by omega
    have ek : ((F.length + (j + 1) : Nat) : Int) - 1 = ((F.length + j : Nat) : Int) := by omega
    have hre : M 20043 (F.length + j) = (L[j] : Int) := by
      rw [hM]
      simp only [shf]
      rw [if_neg (by omega)]
      refine hA _ _ ?_
      rw [List.getElem?_append_right (by omega), show F.length + j - F.length = j by omega, List.getElem?_map, List.getElem?_eq_getElem hjl]
      rfl
    have hdn := hd _ (List.getElem_mem hjl)
    have hne : c ≠ L[j] := fun e => hcL (e ▸ List.getElem_mem hjl)
    simp only [ek, tn, hre]
    refine ok_chk (by omega) (ok_chk (by omega) (ok_bs (isBefore_ok (g := g) h hpM hst (fun x hx => by rw [fx 20034 (by omega)]; exact hg x hx) hcn hdn) ?_))
    by_cases e : lx (av p g) c L[j] = true
    · refine ok_el (by (try dsimp only); rw [if_pos e]; decide) ?_
      refine ok_chk (by omega) (ok_chk (by omega) (ok_chk (by omega) (ok_nm0 (ok_chk (by omega) ?_))))
      dsimp only
      rw [show ((F.length + (j + 1) : Nat) : Int) + -1 = ((F.length + j : Nat) : Int) by omega]
      refine ih j _ (by omega) (by omega) ?_ (fun i hi hji => ?_)
      · rw [hM]
        rw [hM] at hre
        funext b x
        by_cases b1 : b = 20043
        · subst b1
          by_cases x1 : x = F.length + (j + 1)
          · subst x1
            rw [wra]
            simp only [shf, shR]
            rw [if_neg (by omega), if_pos ⟨by simp, by omega, by omega⟩]
            congr 1
          · rw [wrk _ x1]
            simp only [shf, shR]
            by_cases x2 : F.length + (j + 1) < x ∧ x ≤ F.length + L.length
            · rw [if_pos ⟨by simp, x2.1, x2.2⟩, if_pos ⟨by simp, by omega, x2.2⟩]
            · rw [if_neg (by omega), if_neg (by omega)]
        · rw [wrn b1, shf_ne (by simp [shR, b1]), shf_ne (by simp [shR, b1])]
      · by_cases e2 : i = j
        · subst e2; exact e
        · exact hall i hi (by omega)
    · refine ok_if (by (try dsimp only); rw [if_neg e]) (ok_some ⟨j + 1, h1, rfl, hM, hall, fun i hi hij => ?_⟩)
      have hdc : lx (av p g) L[j] c = true := lx_no (av_tot h g) hcn hdn hne e
      by_cases e2 : i = j
      · subst e2; exact hdc
      · exact lx_trans (List.pairwise_iff_getElem.mp hL i j hi hjl (by omega)) hdc
theorem Dlt_cn {n : Nat} {D : Nat → Bool} (i : Nat) : cn n (Dlt D i) ≤ cn n D := by
  unfold cn
  exact sm_pw (fun c _ => by
    unfold Dlt
    cases D c
    · simp
    · simp only [Bool.and_true]
      split <;> simp)
def rkw (f : Vec) (is : Int) : Nat → Bool := fun c => if is = -1 then !decide (f c = 0) else decide (f c = is)
theorem rk_l6 {p : PL} {g f : Vec} {F : List Int} {M0 : Mem} {st : Nat} {is : Int} (h : WF p) (hpm : PMm M0 20000 p) (hf : ∀ c, c < p.n → M0 20025 c = f c) (hg : (∀ c, c < p.n → rkw f is c = false) ∨ (st ≤ 7 ∧ ∀ c, c < p.n → M0 20034 (8 * st + c) = g c)) (hcnt : F.length + cn p.n (rkw f is) ≤ 8) : ∀ (m i : Nat) (M : Mem), i ≤ p.n → p.n < m + i → (∀ k v, (F ++ cst (srt 8 p.n (av p g) (Dlt (rkw f is) i)))[k]? = some v → M 20043 k = v) → (∀ x, x ≠ 20043 → M x = M0 x) → Ok (fX9_ranksBy_l6 20000 (F.length : Int) is st m ((F.length + (srt 8 p.n (av p g) (Dlt (rkw f is) i)).length : Nat) : Int) i M) (fun z => z.1 = ((F.length + (srt 8 p.n (av p g) (rkw f is)).length : Nat) : Int) ∧ (∀ k v, (F ++ cst (srt 8 p.n (av p g) (rkw f is)))[k]? = some v → z.2.2 20043 k = v) ∧ ∀ x, x ≠ 20043 → z.2.2 x = M0 x) := by
  intro m
  have hn8 := h.1
  have ht := av_tot h g
  induction m with
  | zero => intros; omega
  | succ m ih =>
    intro i M h1 h2 hA hx
    have hpM : PMm M 20000 p := hpm.same (fun k _ => by rw [hx _ (by omega)]) (hx _ (by omega)) (hx _ (by omega)) (hx _ (by omega)) (hx _ (by omega))
    have hci : cn p.n (Dlt (rkw f is) i) ≤ cn p.n (rkw f is) := Dlt_cn i
    have hnn := cn_nn p.n (Dlt (rkw f is) i)
    have hlen : ((srt 8 p.n (av p g) (Dlt (rkw f is) i)).length : Int) = cn p.n (Dlt (rkw f is) i) := by
      have := srt_len (k := 8) (w := Dlt (rkw f is) i) ht
      rw [if_pos (by omega)] at this
      exact this
    unfold fX9_ranksBy_l6
    simp only [Nat.reduceAdd]
    rw [hpM.1]
    refine ok_ite (fun hq => ok_some ?_) (fun hq => ?_)
    · have : i = p.n := by omega
      subst this
      have e : srt 8 p.n (av p g) (Dlt (rkw f is) p.n) = srt 8 p.n (av p g) (rkw f is) := srt_congr ht (fun c hc => by unfold Dlt; simp [hc])
      rw [e] at hA
      rw [e]
      exact ⟨rfl, hA, hx⟩
    · have hi : i < p.n := by omega
      have ef : M 20025 i = f i := by rw [hx 20025 (by omega)]; exact hf i hi
      simp only [tn, ef]
      have hDs : ∀ c, c ≠ i → Dlt (rkw f is) (i + 1) c = Dlt (rkw f is) i c := fun c hc => by
        unfold Dlt
        have : decide (c < i + 1) = decide (c < i) := decide_eq_decide.mpr ⟨fun h => by omega, fun h => by omega⟩
        rw [this]
      have hDi : Dlt (rkw f is) i i = false := by simp [Dlt]
      have key : Ok ((if is = (-1) then if 0 ≤ (i : Int) ∧ (i : Int) < 8 then (if (f i) = 0 then some (0) else some (1)) else none else if 0 ≤ (i : Int) ∧ (i : Int) < 8 then (if (f i) = is then some (1) else some (0)) else none) : Option (Int)) (fun v => v = if rkw f is i then 1 else 0) := by
        unfold rkw
        refine ok_ite (fun e1 => ok_chk (by omega) (ok_ite (fun e2 => ok_some ?_) (fun e2 => ok_some ?_))) (fun e1 => ok_chk (by omega) (ok_ite (fun e2 => ok_some ?_) (fun e2 => ok_some ?_)))
        · simp [e1, e2]
        · simp [e1, e2]
        · simp [e1, e2]
        · simp [e1, e2]
      refine ok_by key (fun v hv => ?_)
      cases ew : rkw f is i
      · rw [ew] at hv
        have e : srt 8 p.n (av p g) (Dlt (rkw f is) i) = srt 8 p.n (av p g) (Dlt (rkw f is) (i + 1)) := srt_congr ht (fun c hc => by
          by_cases e : c = i
          · subst e; rw [hDi]; simp [Dlt, ew]
          · exact (hDs c e).symm)
        refine ok_bi (ok_if hv (ok_some (ok_chk (by omega) ?_)))
        rw [e] at hA ⊢
        exact ih (i + 1) M (by omega) (by omega) hA hx
      · rw [ew] at hv
        have hg2 := hg.resolve_left (fun hno => by rw [hno i hi] at ew; cases ew)
        have hN1 : (Dlt (rkw f is) (i + 1)) i = true := by simp [Dlt, ew]
        have hN2 := cn_add hi hDi hN1 (fun d _ hne => hDs d hne)
        have hc2 : cn p.n (Dlt (rkw f is) (i + 1)) ≤ cn p.n (rkw f is) := Dlt_cn (i + 1)
        generalize eL : srt 8 p.n (av p g) (Dlt (rkw f is) i) = L at *
        have hsub : ∀ c, c ∈ L → c < p.n ∧ Dlt (rkw f is) i c = true := fun c hc => by rw [← eL] at hc; exact srt_sub ht hc
        refine ok_bi (ok_el (by rw [hv]; exact (show ¬ ((1 : Int) = 0) by decide)) ?_)
        refine ok_by (rk_l68 (F := F) (L := L) (g := g) h hpM hg2.1 (fun c hc => by rw [hx 20034 (by omega)]; exact hg2.2 c hc) hi (by omega) hA (fun d hd => (hsub d hd).1) (by rw [← eL]; exact srt_sd ht) (fun hm => by have := (hsub i hm).2; rw [hDi] at this; cases this) 1000 L.length M (Nat.le_refl _) (by omega) (shf_0 _ _ _).symm (fun k hk hk2 => by omega)) (fun z hz => ?_)
        obtain ⟨j2, hj2, z1, z2, z3, z4⟩ := hz
        rw [z1, tn]
        have hnew : L.take j2 ++ i :: L.drop j2 = srt 8 p.n (av p g) (Dlt (rkw f is) (i + 1)) := by
          refine srt_uniq ht (by omega) (sd_ins (by rw [← eL]; exact srt_sd ht) hj2 z3 z4) (fun c => ?_)
          rw [mem_ins]
          constructor
          · rintro (e | e)
            · subst e; exact ⟨hi, hN1⟩
            · have := hsub c e
              refine ⟨this.1, ?_⟩
              have hne : c ≠ i := fun e => by subst e; rw [hDi] at this; cases this.2
              rw [hDs c hne]; exact this.2
          · rintro ⟨e1, e2⟩
            by_cases hne : c = i
            · exact Or.inl hne
            · rw [hDs c hne] at e2
              refine Or.inr ?_
              rw [← eL]
              exact srt_mem ht (by omega) e1 e2
        have hl2 : (srt 8 p.n (av p g) (Dlt (rkw f is) (i + 1))).length = L.length + 1 := by
          rw [← hnew]
          simp only [List.length_append, List.length_cons, List.length_take, List.length_drop]
          omega
        refine ok_chk (by omega) (ok_nm0 (ok_chk (by omega) (ok_some (ok_chk (by omega) ?_))))
        dsimp only
        have := ih (i + 1) (wr z.2 20043 (F.length + j2) i) (by omega) (by omega) (fun k v hk => ?_) (fun x hx3 => by rw [wrn hx3, z2, shf_ne (by simp [shR, hx3]), hx x hx3])
        · rw [hl2, show ((F.length + (L.length + 1) : Nat) : Int) = ((F.length + L.length : Nat) : Int) + 1 by omega] at this
          exact this
        · rw [← hnew] at hk
          rw [wre]
          have hcons : cst (L.take j2 ++ i :: L.drop j2) = (cst L).take j2 ++ (i : Int) :: (cst L).drop j2 := by
            simp [List.map_take, List.map_drop]
          rw [hcons] at hk
          have hcl : (cst L).length = L.length := by simp
          by_cases c0 : k < F.length
          · rw [List.getElem?_append_left c0] at hk
            rw [up_ne (by omega), z2]
            simp only [shf]
            rw [if_neg (by omega)]
            exact hA k v (by rw [List.getElem?_append_left c0]; exact hk)
          · rw [List.getElem?_append_right (by omega), take_get (by omega)] at hk
            by_cases c1 : k - F.length < j2
            · rw [if_pos c1] at hk
              rw [up_ne (by omega), z2]
              simp only [shf]
              rw [if_neg (by omega)]
              exact hA k v (by rw [List.getElem?_append_right (by omega)]; exact hk)
            · rw [if_neg c1] at hk
              by_cases c2 : k - F.length = j2
              · rw [if_pos c2] at hk
                cases hk
                have : k = F.length + j2 := by omega
                subst this
                rw [up_same]
              · rw [if_neg c2] at hk
                have := getq_lt hk
                rw [hcl] at this
                rw [up_ne (by omega), z2]
                simp only [shf]
                rw [if_pos ⟨by simp [shR], by omega, by omega⟩]
                exact hA (k - 1) v (by rw [List.getElem?_append_right (by omega), show k - 1 - F.length = k - F.length - 1 by omega]; exact hk)
theorem ranksBy_ok {p : PL} {g f : Vec} {F : List Int} {M : Mem} {st : Nat} {is x : Int} (h : WF p) (hpm : PMm M 20000 p) (hf : ∀ c, c < p.n → M 20025 c = f c) (hg : (∀ c, c < p.n → rkw f is c = false) ∨ (st ≤ 7 ∧ ∀ c, c < p.n → M 20034 (8 * st + c) = g c)) (hcnt : F.length + cn p.n (rkw f is) ≤ 8) (hx : x = (F.length : Int)) (hF : ∀ k v, F[k]? = some v → M 20043 k = v) : Ok (fX9_ranksBy 20000 x is st M) (fun q => q.1 = ((F.length + (srt 8 p.n (av p g) (rkw f is)).length : Nat) : Int) ∧ (∀ k v, (F ++ cst (srt 8 p.n (av p g) (rkw f is)))[k]? = some v → q.2 20043 k = v) ∧ ∀ x, x ≠ 20043 → q.2 x = M x) := by
  subst hx
  have h8 := h.1
  have ht := av_tot h g
  have h0 := rk_l6 (g := g) (F := F) h hpm hf hg hcnt 1000 0 M (by omega) (by omega) (fun k v hk => by rw [Dlt0 _ ht] at hk; simp at hk; exact hF k v hk) (fun _ _ => rfl)
  rw [Dlt0 _ ht] at h0
  unfold fX9_ranksBy
  exact ok_by h0 (fun z hz => ok_some hz)
theorem or3 {p : PL} {f : Vec} (h8 : p.n ≤ 8) (N : Mem) (t : Nat) (h0 : N (t + 10000) 0 = p.n) (hf : ∀ c, c < p.n → N (t + 3) c = f c) : ∃ w : Int, fX4_whoIsHere t N = some (w, N) ∧ 0 ≤ w ∧ w < 256 ∧ ∀ c, c < p.n → bt w c = (decide (f c = 1) || decide (f c = 2) || decide (f c = 3)) := by
  have m1 := mk_bd h8 (fun c => decide (N (t + 3) c = 1))
  have m2 := mk_bd h8 (fun c => decide (N (t + 3) c = 2))
  have m3 := mk_bd h8 (fun c => decide (N (t + 3) c = 3))
  have o1 := bt_oo m1.1 m1.2 m2.1 m2.2
  have o2 := bt_oo o1.1 o1.2.1 m3.1 m3.2
  refine ⟨_, ?_, o2.1, o2.2.1, fun c hc => ?_⟩
  · unfold fX4_whoIsHere
    rw [whoIs_ok h8 h0]
    show (fX4_whoIs t 2 N).bind _ = _
    rw [whoIs_ok h8 h0]
    show (fX4_whoIs t 3 N).bind _ = _
    rw [whoIs_ok h8 h0]
    rfl
  · rw [o2.2.2, o1.2.2, mk_bt, mk_bt, mk_bt, hf c hc]
    simp [hc]
theorem FrQ {s : SS} {M M' : Mem} (h : DI M s) (hx : ∀ x, x ≠ 20043 → M' x = M x) : DI M' s := h.same (fun j _ => by rw [hx 20000 (by omega)]) (fun x hx' => hx x (by omega))
theorem stage_op2 {s : SS} (hs : GS s) {i dflt : Int} {Kc : Nat → Nat → (Option Nat × Mem) → Option (Int × Mem)} {Km : (Int × Mem) → Option (Int × Mem)} (H : ∀ (k : Nat) (sr : SR), i = (k : Int) → k < 8 → (cnt s.p).h[k]? = some sr → ∃ ans, (∀ N, CI N s → CT N 1000 s.p (cnt s.p) → Ok (Kc 1000 (1045 + 16 * k) (some (1045 + 16 * k), N)) (PC N s ans)) ∧ ∀ N, DI N s → MX N 20000 s.p (cnt s.p) (cnt s.p).h.length → Ok (Km (1, N)) (PD N s ans)) : Op s (fun M => Option.bind (fX8_tallied 10 M) (fun q1 => oc q1.1 none (fun a2 => if Sh a2 = (13, 14) then Option.bind (fX4_stageAt a2 i q1.2) (fun q4 => oc q4.1 (some (dflt, q4.2)) (fun a5 => if Sh a5 = (12, 9) then Kc a2 a5 q4 else none)) else none))) (fun M => Option.bind (fX9_isStage 20000 i M) (fun q1 => if q1.1 = 0 then some (dflt, q1.2) else Km q1)) := by
  have hl := cnt_len hs.1.1
  have hX : ∀ M, DI M s → Ok (fX9_isStage 20000 i M) (fun q => q.1 = (if 0 ≤ i ∧ i < (cnt s.p).h.length then 1 else 0) ∧ MX q.2 20000 s.p (cnt s.p) (cnt s.p).h.length ∧ DI q.2 s ∧ ∀ x, x < 20000 → q.2 x = M x) := fun M hD => (isStage_ok hs.1.1 hD.1).mono (fun q hq => ⟨hq.1, hq.2.1, hD.fr hq.2.2, fun x hx => hq.2.2.2 x (by omega)⟩)
  by_cases e : 0 ≤ i ∧ i < (cnt s.p).h.length
  · obtain ⟨k, rfl⟩ := Int.eq_ofNat_of_zero_le e.1
    obtain ⟨sr, hsr⟩ := getq (pl := (cnt s.p).h) (j := k) (by omega)
    obtain ⟨ans, h1, h2⟩ := H k sr rfl (by omega) hsr
    refine ⟨ans, s, hs, fun M hC => tal_bind hs hC (fun N hN hT hx => ?_), fun M hD => ok_by (hX M hD) (fun q hq => ?_)⟩
    · refine ok_bs (stageAt_ok hl hT) ?_
      dsimp only
      rw [if_pos e, tn]
      show Ok (if Sh (1045 + 16 * k) = (12, 9) then Kc 1000 (1045 + 16 * k) (some (1045 + 16 * k), N) else none) _
      exact ok_if (Sh_s k (by omega)) ((h1 N hN hT).mono (fun q hq => hq.tr hx))
    · obtain ⟨x, N⟩ := q
      obtain ⟨q1, q2, q3, q4⟩ := hq
      dsimp only at q1 q2 q3 q4
      rw [if_pos e] at q1
      subst q1
      exact ok_el (show ¬ ((1 : Int) = 0) by decide) ((h2 N q3 q2).mono (fun r hr => hr.tr q4))
  · refine ⟨dflt, s, hs, fun M hC => tal_bind hs hC (fun N hN hT hx => ?_), fun M hD => ok_by (hX M hD) (fun q hq => ?_)⟩
    · refine ok_bs (stageAt_ok hl hT) ?_
      dsimp only
      rw [if_neg e]
      exact ok_some ((PC.self hN).tr hx)
    · obtain ⟨q1, q2, q3, q4⟩ := hq
      rw [q1, if_neg e]
      exact ok_if rfl (ok_some ((PD.self q3).tr q4))
theorem op_standing {s : SS} (hs : GS s) (st i : Int) : Op s (fX8_standing 10 st i) (fX9_standing 20000 st i) := by
  have hl := cnt_len hs.1.1
  have h8 := hs.1.1.1
  have one0 : ¬ ((1 : Int) = 0) := by decide
  have hSI := cnt_ok hs.1.1
  have hw : ∀ c, c < s.p.n → (decide ((cnt s.p).f c = 1) || decide ((cnt s.p).f c = 2) || decide ((cnt s.p).f c = 3)) = rkw (cnt s.p).f (-1) c := fun c hc => by
    have h1 := hSI.1 c hc
    unfold rkw
    rw [if_pos rfl]
    by_cases hg : s.p.g c = 0
    · rcases h1.1 hg with e | e | e <;> simp [e]
    · have e := h1.2 hg; simp [e]
  have hcl := cn_le s.p.n (rkw (cnt s.p).f (-1))
  unfold fX8_standing fX9_standing
  refine stage_op2 hs (fun k sr hi hk hsr => ?_)
  subst hi
  have ht := av_tot hs.1.1 sr.g
  have hsl : ((srt 8 s.p.n (av s.p sr.g) (rkw (cnt s.p).f (-1))).length : Int) = cn s.p.n (rkw (cnt s.p).f (-1)) := by
    have := srt_len (k := 8) (w := rkw (cnt s.p).f (-1)) ht
    rw [if_pos (by omega)] at this
    exact this
  have v1 : ∀ N : Mem, CT N 1000 s.p (cnt s.p) → SRc N (1045 + 16 * k) s.p.n sr := fun N hT => hT.2.2.2.2.2.1 k sr hsr
  have v2 := fun (N : Mem) (hT : MX N 20000 s.p (cnt s.p) (cnt s.p).h.length) => hT.2.2.2.2.1 k sr hsr
  have c1 := fun (N : Mem) (hN : CI N s) => hasCand_ok (c := i) (M := N) (o := 11000) (n := s.p.n) hN.1.1.1.1
  have mdl : ∀ ans : Int, (∀ N : Mem, (∀ j v, (cst (srt 8 s.p.n (av s.p sr.g) (rkw (cnt s.p).f (-1))))[j]? = some v → N 20043 j = v) → Ok ((if (if 0 ≤ i ∧ i ≤ ((srt 8 s.p.n (av s.p sr.g) (rkw (cnt s.p).f (-1))).length : Int) - 1 then (1 : Int) else 0) = 0 then some ((-1)) else if 0 ≤ i ∧ i < 8 then some ((N 20043 (Int.toNat i))) else none) : Option (Int)) (fun t => t = ans)) → ∀ N, DI N s → MX N 20000 s.p (cnt s.p) (cnt s.p).h.length → Ok (Option.bind (fX9_ranksBy 20000 0 (-1) (k : Int) N) (fun q3 => nm (q3.1) (fun v4 => if -2147483648 ≤ (v4 - 1) ∧ (v4 - 1) ≤ 2147483647 then Option.bind (fX9_in i 0 (v4 - 1) q3.2) (fun q6 => Option.bind ((if q6.1 = 0 then some ((-1)) else if 0 ≤ i ∧ i < 8 then some ((q6.2 20043 (Int.toNat i))) else none) : Option (Int)) (fun t9 => some (t9, q6.2))) else none))) (PD N s ans) := fun ans hK N hD hX => by
    refine ok_by (ranksBy_ok (F := []) (g := sr.g) (f := (cnt s.p).f) hs.1.1 hD.1 (fun c hc => (hX.2.2.1 c hc).1) (Or.inr ⟨by omega, fun c hc => ((v2 N hX).2.2.2.2.2.2.2 c hc).1⟩) (by show ((0 : Nat) : Int) + _ ≤ 8; omega) rfl (fun k v hk => by cases hk)) (fun q hq => ok_nm0 ?_)
    obtain ⟨q1, q2, q3⟩ := hq
    rw [q1]
    simp only [List.length_nil, Nat.zero_add]
    refine ok_chk (by omega) (ok_bs in_ok (ok_by (hK q.2 (fun j v hj => q2 j v hj)) (fun t ht => ok_some ?_)))
    rw [ht]
    exact PD.mk' (FrQ hD q3) (fun x hx => q3 x (by omega))
  simp only [Nat.reduceAdd]
  by_cases hi : 0 ≤ i ∧ i < s.p.n
  · obtain ⟨j, rfl⟩ := Int.eq_ofNat_of_zero_le hi.1
    rw [if_pos hi] at c1
    refine ⟨opt ((srt 8 s.p.n (av s.p sr.g) (rkw (cnt s.p).f (-1)))[j]?), fun N hN hT => ok_bs (c1 N hN) (ok_el one0 ?_), mdl _ (fun N hN => ?_)⟩
    · obtain ⟨w, e1, e2, e3, e4⟩ := or3 (f := (cnt s.p).f) h8 N 1000 hN.1.1.1.1 (fun c hc => (hT.2.2.2.1 c hc).1)
      refine ok_bs e1 ?_
      have hld := leader_ok (t := 1000) (v := 1045 + 16 * k + 8) (p := s.p) (M := N) (i := j) (left := w) hs.1.1 hN.1.1.1 (by omega) e2 e3
      refine ok_bs hld (ok_some ?_)
      have e9 : (srt (j + 1) s.p.n (av s.p (N (1045 + 16 * k + 8))) (bt w))[j]? = (srt 8 s.p.n (av s.p sr.g) (rkw (cnt s.p).f (-1)))[j]? := by
        rw [srt_get (k := 8) (show j < 8 by omega), srt_vcongr (av_congr (v1 N hT).2.2.2.2.2.2.2.1)]
        congr 1
        exact srt_congr ht (fun c hc => by rw [e4 c hc, hw c hc])
      rw [e9]
      exact PC.self hN
    · refine ok_ite (fun hz => ok_some ?_) (fun hz => ok_chk (by omega) (ok_some ?_))
      · have : ¬ j < (srt 8 s.p.n (av s.p sr.g) (rkw (cnt s.p).f (-1))).length := fun hlt => by rw [if_pos (by omega)] at hz; exact one0 hz
        rw [List.getElem?_eq_none (by omega)]; rfl
      · have hlt : j < (srt 8 s.p.n (av s.p sr.g) (rkw (cnt s.p).f (-1))).length := by
          by_cases hlt : j < (srt 8 s.p.n (av s.p sr.g) (rkw (cnt s.p).f (-1))).length
          · exact hlt
          · rw [if_neg (by omega)] at hz; exact absurd rfl hz
        rw [tn, List.getElem?_eq_getElem hlt]
        exact hN j _ (by rw [List.getElem?_map, List.getElem?_eq_getElem hlt]; rfl)
  · rw [if_neg hi] at c1
    refine ⟨-1, fun N hN hT => ok_bs (c1 N hN) (ok_if rfl (ok_some (PC.self hN))), mdl _ (fun N hN => ok_if ?_ (ok_some rfl))⟩
    rw [if_neg (by omega)]
end
