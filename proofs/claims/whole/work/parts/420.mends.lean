section
/-! the other one's LINES -/
def shS (a : Nat) : Nat → Bool := fun b => decide (b = a + 28)
theorem lines_l34 {a : Nat} {p : PL} {g : Vec} {o L : List Nat} {M0 : Mem} {S : Int} {c : Nat} (h : WF p) (hpm : PMm M0 a p) (hg : Ag p.n (M0 (a + 29)) g) (hcn : c < p.n) (hN : (o ++ L).length ≤ 7) (hA : ∀ i d : Nat, (o ++ L)[i]? = some d → M0 (a + 28) i = (d : Int)) (hd : ∀ d, d ∈ o ++ L → d < p.n) (hst : M0 a 22 = S) (hw1 : ∀ d, d ∈ o → M0 (a + 27) d ≠ S) (hw2 : ∀ d, d ∈ L → M0 (a + 27) d = S) (hL : Sd (av p g) L) (hcL : c ∉ L) : ∀ (m j : Nat) (M : Mem), j ≤ L.length → j < m → M = shf (shS a) (o.length + j) (o ++ L).length M0 → (∀ i (hi : i < L.length), j ≤ i → lx (av p g) c L[i] = true) → Ok (fX9_lines_l34 a c m ((o.length + j : Nat) : Int) M) (fun z => ∃ j2 : Nat, j2 ≤ L.length ∧ z.1 = ((o.length + j2 : Nat) : Int) ∧ z.2 = shf (shS a) (o.length + j2) (o ++ L).length M0 ∧ (∀ i (hi : i < L.length), j2 ≤ i → lx (av p g) c L[i] = true) ∧ ∀ i (hi : i < L.length), i < j2 → lx (av p g) L[i] c = true) := by
  intro m
  have hn8 := h.1
  have hlen : (o ++ L).length = o.length + L.length := List.length_append
  induction m with
  | zero => intros; omega
  | succ m ih =>
    intro j M h1 h2 hM hall
    have fx : ∀ x, x ≠ a + 28 → M x = M0 x := fun x hx => by rw [hM, shf_ne (by simp [shS, hx])]
    have hM22 : M a 22 = S := by rw [fx _ (by omega)]; exact hst
    have hpM : PMm M a p := hpm.same (fun k _ => by rw [fx _ (by omega)]) (fx _ (by omega)) (fx _ (by omega)) (fx _ (by omega)) (fx _ (by omega))
    have hgM : Ag p.n (M (a + 29)) g := by rw [fx _ (by omega)]; exact hg
    have hrd : ∀ i d : Nat, i ≤ o.length + j → (o ++ L)[i]? = some d → M (a + 28) i = (d : Int) := fun i d hi hd => by
      rw [hM]
      simp only [shf]
      rw [if_neg (by omega)]
      exact hA i d hd
    unfold fX9_lines_l34
    have fin0 : j = 0 → ∃ j2 : Nat, j2 ≤ L.length ∧ ((o.length + j : Nat) : Int) = ((o.length + j2 : Nat) : Int) ∧ M = shf (shS a) (o.length + j2) (o ++ L).length M0 ∧ (∀ i (hi : i < L.length), j2 ≤ i → lx (av p g) c L[i] = true) ∧ ∀ i (hi : i < L.length), i < j2 → lx (av p g) L[i] c = true := fun e => ⟨j, h1, rfl, hM, hall, fun i hi hij => by omega⟩
    refine ok_ite (fun hc => ok_some (fin0 (by omega))) (fun hc => ?_)
    have ek : ((o.length + j : Nat) : Int) - 1 = ((o.length + j - 1 : Nat) : Int) := by omega
    obtain ⟨d, hdl⟩ := getq (pl := o ++ L) (j := o.length + j - 1) (by omega)
    have hdn := hd d (List.mem_of_getElem? hdl)
    have hre := hrd _ d (by omega) hdl
    simp only [ek, tn, hre]
    refine ok_chk (by omega) (ok_chk (by omega) (ok_chk (by omega) ?_))
    rw [fx (a + 27) (by omega), hM22]
    by_cases ej : j = 0
    · have hdo : d ∈ o := by
        rw [List.getElem?_append_left (by omega)] at hdl
        exact List.mem_of_getElem? hdl
      exact ok_el (hw1 d hdo) (ok_some (fin0 ej))
    · obtain ⟨j, rfl⟩ : ∃ j', j = j' + 1 := ⟨j - 1, by omega⟩
      have hdL' := hdl
      rw [List.getElem?_append_right (by omega), show o.length + (j + 1) - 1 - o.length = j by omega] at hdl
      obtain ⟨hjl, edj⟩ := List.getElem?_eq_some_iff.mp hdl
      have hdL : d ∈ L := List.mem_of_getElem? hdl
      have hne : c ≠ d := fun e => hcL (e ▸ hdL)
      refine ok_if (hw2 d hdL) (ok_chk (by omega) (ok_chk (by omega) (ok_bs (isAhead_ok h hpM hgM hcn hdn) ?_)))
      by_cases e : lx (av p g) c d = true
      · refine ok_el (by (try dsimp only); rw [if_pos e]; decide) ?_
        refine ok_chk (by omega) (ok_chk (by omega) (ok_chk (by omega) (ok_nm0 (ok_chk (by omega) ?_))))
        dsimp only
        rw [show ((o.length + (j + 1) : Nat) : Int) + -1 = ((o.length + j : Nat) : Int) by omega]
        refine ih j _ (by omega) (by omega) ?_ (fun i hi hji => ?_)
        · rw [hM]
          rw [hM] at hre
          funext b x
          have e1 : (o.length + (j + 1) - 1) = o.length + j := by omega
          rw [e1] at hre ⊢
          by_cases b1 : b = a + 28
          · subst b1
            by_cases x1 : x = o.length + (j + 1)
            · subst x1
              rw [wra]
              simp only [shf, shS]
              rw [if_neg (by omega), if_pos ⟨by simp, by omega, by omega⟩]
              congr 1
            · rw [wrk _ x1]
              simp only [shf, shS]
              by_cases x2 : o.length + (j + 1) < x ∧ x ≤ (o ++ L).length
              · rw [if_pos ⟨by simp, x2.1, x2.2⟩, if_pos ⟨by simp, by omega, x2.2⟩]
              · rw [if_neg (by omega), if_neg (by omega)]
          · rw [wrn b1, shf_ne (by simp [shS, b1]), shf_ne (by simp [shS, b1])]
        · by_cases e2 : i = j
          · subst e2; rw [edj]; exact e
          · exact hall i hi (by omega)
      · refine ok_if (by (try dsimp only); rw [if_neg e]) (ok_some ⟨j + 1, h1, rfl, hM, hall, fun i hi hij => ?_⟩)
        have hdc : lx (av p g) d c = true := lx_no (av_tot h g) hcn hdn hne e
        by_cases e2 : i = j
        · subst e2; rw [edj]; exact hdc
        · have := List.pairwise_iff_getElem.mp hL i j hi hjl (by omega)
          rw [edj] at this
          exact lx_trans this hdc
def Dlt (D : Nat → Bool) (i : Nat) : Nat → Bool := fun c => decide (c < i) && D c
theorem lines_l2 {a : Nat} {p : PL} {g : Vec} {o : List Nat} {D : Nat → Bool} {S : Nat} {M0 : Mem} (h : WF p) (hpm : PMm M0 a p) (hg : Ag p.n (M0 (a + 29)) g) (hst : M0 a 22 = S) (hS : S < 9) (hin : M0 (a + 42) S = mk p.n D) (hon : ∀ d, d ∈ o → d < p.n) (hw1 : ∀ d, d ∈ o → M0 (a + 27) d ≠ S) (hw2 : ∀ d, d < p.n → D d = true → M0 (a + 27) d = S) (hcnt : cn p.n D + o.length ≤ 7) : ∀ (m i : Nat) (M : Mem), i ≤ p.n → p.n < m + i → M a 23 = (o ++ srt 8 p.n (av p g) (Dlt D i)).length → (∀ k d : Nat, (o ++ srt 8 p.n (av p g) (Dlt D i))[k]? = some d → M (a + 28) k = (d : Int)) → (∀ j, j ≠ 23 → M a j = M0 a j) → (∀ x, x ≠ a → x ≠ a + 28 → M x = M0 x) → Ok (fX9_lines_l2 a m i M) (fun z => z.2 a 23 = (o ++ srt 8 p.n (av p g) D).length ∧ (∀ k d : Nat, (o ++ srt 8 p.n (av p g) D)[k]? = some d → z.2 (a + 28) k = (d : Int)) ∧ (∀ j, j ≠ 23 → z.2 a j = M0 a j) ∧ ∀ x, x ≠ a → x ≠ a + 28 → z.2 x = M0 x) := by
  intro m
  have hn8 := h.1
  have ht := av_tot h g
  induction m with
  | zero => intros; omega
  | succ m ih =>
    intro i M h1 h2 h23 hA hj hx
    have hc8 : ∀ i, cn p.n (Dlt D i) ≤ cn p.n D := fun i => by
      unfold cn
      have : ∀ n, sm n (fun c => if Dlt D i c then (1 : Int) else 0) ≤ sm n (fun c => if D c then 1 else 0) := by
        intro n
        induction n with
        | zero => exact Int.le_refl 0
        | succ n ih =>
          show sm n _ + (if Dlt D i n then (1 : Int) else 0) ≤ sm n _ + (if D n then 1 else 0)
          have : (if Dlt D i n then (1 : Int) else 0) ≤ (if D n then 1 else 0) := by
            unfold Dlt
            cases D n <;> simp
            split <;> omega
          omega
      exact this p.n
    have hpM : PMm M a p := hpm.same (fun k hk => hj k (by omega)) (hx _ (by omega) (by omega)) (hx _ (by omega) (by omega)) (hx _ (by omega) (by omega)) (hx _ (by omega) (by omega))
    unfold fX9_lines_l2
    rw [hpM.1]
    refine ok_ite (fun hq => ok_some ?_) (fun hq => ?_)
    · have : i = p.n := by omega
      subst this
      have e : srt 8 p.n (av p g) (Dlt D p.n) = srt 8 p.n (av p g) D := srt_congr ht (fun c hc => by unfold Dlt; simp [hc])
      rw [e] at h23 hA
      exact ⟨h23, hA, hj, hx⟩
    · have hi : i < p.n := by omega
      rw [hj 22 (by decide), hst, tn, hx (a + 42) (by omega) (by omega), hin]
      have hb := mk_bd hn8 D
      refine ok_chk (by omega) (ok_bs (has_ok hb.1 (by omega) (by omega)) ?_)
      rw [mk_bt]
      simp only [hi, decide_true, Bool.true_and]
      refine ok_bind ?_
      have hDs : ∀ c, c ≠ i → Dlt D (i + 1) c = Dlt D i c := fun c hc => by
        unfold Dlt
        have : decide (c < i + 1) = decide (c < i) := decide_eq_decide.mpr ⟨fun h => by omega, fun h => by omega⟩
        rw [this]
      have hDi : Dlt D i i = false := by simp [Dlt]
      cases eD : D i
      · refine ok_if (by decide) (ok_some ?_)
        have e : srt 8 p.n (av p g) (Dlt D i) = srt 8 p.n (av p g) (Dlt D (i + 1)) := srt_congr ht (fun c hc => by
          by_cases e : c = i
          · subst e; rw [hDi]; simp [Dlt, eD]
          · exact (hDs c e).symm)
        rw [e] at h23 hA
        exact ok_chk (by omega) (ih (i + 1) M (by omega) (by omega) h23 hA hj hx)
      · refine ok_el (by decide) (ok_nm0 ?_)
        have hlen : ((srt 8 p.n (av p g) (Dlt D i)).length : Int) = cn p.n (Dlt D i) := by
          have := srt_len (k := 8) (w := Dlt D i) ht
          have := hc8 i
          rw [if_pos (by omega)] at *
          assumption
        have hci := hc8 i
        have h23' := h23
        rw [List.length_append] at h23
        try dsimp only
        rw [h23]
        generalize eL : srt 8 p.n (av p g) (Dlt D i) = L at *
        have hsub : ∀ c, c ∈ L → c < p.n ∧ Dlt D i c = true := fun c hc => by rw [← eL] at hc; exact srt_sub ht hc
        have hcnn := cn_nn p.n (Dlt D i)
        have hN1 : (Dlt D (i + 1)) i = true := by simp [Dlt, eD]
        have hN2 := cn_add hi hDi hN1 (fun d _ hne => hDs d hne)
        have hc2 := hc8 (i + 1)
        refine ok_by (lines_l34 (o := o) (L := L) (S := (S : Int)) h hpM (by rw [hx _ (by omega) (by omega)]; exact hg) hi (by rw [List.length_append]; omega) hA (fun d hd => by
          rcases List.mem_append.mp hd with e | e
          · exact hon d e
          · exact (hsub d e).1) (by rw [hj 22 (by decide)]; exact hst) (fun d hd => by rw [hx _ (by omega) (by omega)]; exact hw1 d hd) (fun d hd => by
          rw [hx _ (by omega) (by omega)]
          have := hsub d hd
          refine hw2 d this.1 ?_
          have h3 := this.2
          unfold Dlt at h3
          exact (Bool.and_eq_true_iff.mp h3).2) (by rw [← eL]; exact srt_sd ht) (fun hm => by have := (hsub i hm).2; rw [hDi] at this; cases this) 1000 L.length M (Nat.le_refl _) (by omega) (by rw [List.length_append]; exact (shf_0 _ _ _).symm) (fun k hk hk2 => by omega)) (fun z hz => ?_)
        obtain ⟨j2, hj2, z1, z2, z3, z4⟩ := hz
        rw [z1, tn]
        have hnew : L.take j2 ++ i :: L.drop j2 = srt 8 p.n (av p g) (Dlt D (i + 1)) := by
          refine srt_uniq ht (by omega) (sd_ins (by rw [← eL]; exact srt_sd ht) hj2 z3 z4) (fun c => ?_)
          rw [mem_ins]
          constructor
          · rintro (e | e)
            · subst e; exact ⟨hi, hN1⟩
            · have := hsub c e
              refine ⟨this.1, ?_⟩
              have hne : c ≠ i := fun e => by subst e; rw [hDi] at this; cases this.2
              rw [hDs c hne]; exact this.2
          · rintro ⟨e1, e2⟩
            by_cases hne : c = i
            · exact Or.inl hne
            · rw [hDs c hne] at e2
              refine Or.inr ?_
              rw [← eL]
              exact srt_mem ht (by have := hc8 i; omega) e1 e2
        have hz23 : z.2 a 23 = ((o.length + L.length : Nat) : Int) := by rw [z2, shf_ne (by simp [shS])]; exact h23
        have hw23 : wr z.2 (a + 28) (o.length + j2) i a 23 = ((o.length + L.length : Nat) : Int) := by rw [wrn (by omega)]; exact hz23
        refine ok_chk (by omega) (ok_nm0 ?_)
        try dsimp only
        rw [hw23]
        refine ok_chk (by omega) (ok_nm0 (ok_some ?_))
        refine ok_chk (by omega) (ih (i + 1) _ (by omega) (by omega) ?_ (fun k d hk => ?_) (fun j hj23 => ?_) (fun x x1 x2 => ?_))
        · rw [wra, ← hnew]
          simp only [List.length_append, List.length_cons, List.length_take, List.length_drop]
          omega
        · rw [← hnew] at hk
          rw [wrn (by omega), wre]
          by_cases c0 : k < o.length
          · rw [List.getElem?_append_left c0] at hk
            rw [up_ne (by omega), z2]
            simp only [shf]
            rw [if_neg (by omega)]
            exact hA k d (by rw [List.getElem?_append_left c0]; exact hk)
          · rw [List.getElem?_append_right (by omega), take_get hj2] at hk
            by_cases c1 : k - o.length < j2
            · rw [if_pos c1] at hk
              rw [up_ne (by omega), z2]
              simp only [shf]
              rw [if_neg (by omega)]
              exact hA k d (by rw [List.getElem?_append_right (by omega)]; exact hk)
            · rw [if_neg c1] at hk
              by_cases c2 : k - o.length = j2
              · rw [if_pos c2] at hk
                cases hk
                have : k = o.length + j2 := by omega
                subst this
                rw [up_same]
              · rw [if_neg c2] at hk
                have := getq_lt hk
                rw [up_ne (by omega), z2]
                simp only [shf]
                rw [if_pos ⟨by simp [shS], by omega, by rw [List.length_append]; omega⟩]
                exact hA (k - 1) d (by rw [List.getElem?_append_right (by omega), show k - 1 - o.length = k - o.length - 1 by omega]; exact hk)
        · rw [wrk _ hj23, wrn (by omega), z2, shf_ne (by simp [shS])]; exact hj j hj23
        · rw [wrn x1, wrn x2, z2, shf_ne (by simp [shS, x2])]; exact hx x x1 x2
theorem Dlt0 (D : Nat → Bool) {k n : Nat} {vs : List Vec} (ht : Tot n vs) : srt k n vs (Dlt D 0) = [] := by
  cases k with
  | zero => rfl
  | succ k => exact srt_none (scan_no ht (fun c _ => by simp [Dlt]))
theorem ends_l2 {a n S : Nat} {r : Int} {M0 : Mem} (hn : n ≤ 8) (hS : S < 9) (h0 : M0 a 0 = n) (hst : M0 a 22 = S) : ∀ (m i : Nat) (M : Mem), i ≤ n → n < m + i → M = (fun b j => if b = a + 34 ∧ 8 * S ≤ j ∧ j < 8 * S + i then M0 (a + 29) (j - 8 * S) else if b = a + 39 ∧ 8 * S ≤ j ∧ j < 8 * S + i then M0 (a + 26) (j - 8 * S) else M0 b j) → Ok (fX9_endsStage_l2 a r m i M) (fun z => z.2 = (fun b j => if b = a + 34 ∧ 8 * S ≤ j ∧ j < 8 * S + n then M0 (a + 29) (j - 8 * S) else if b = a + 39 ∧ 8 * S ≤ j ∧ j < 8 * S + n then M0 (a + 26) (j - 8 * S) else M0 b j)) := by
  intro m
  induction m with
  | zero => intros; omega
  | succ m ih =>
    intro i M h1 h2 hM
    have ex : ∀ x, x ≠ a + 34 → x ≠ a + 39 → M x = M0 x := fun x x1 x2 => by rw [hM]; funext j; dsimp only; rw [if_neg (by omega), if_neg (by omega)]
    have e0 : M a 0 = n := by rw [ex a (by omega) (by omega)]; exact h0
    have e22 : M a 22 = S := by rw [ex a (by omega) (by omega)]; exact hst
    unfold fX9_endsStage_l2
    rw [e0]
    refine ok_ite (fun hc => ok_some ?_) (fun hc => ?_)
    · have : i = n := by omega
      subst this; exact hM
    · have e22' : ∀ x y, wr M (a + 34) x y a 22 = S := fun x y => by rw [wrn (by omega)]; exact e22
      have ee : 8 * (S : Int) + (i : Int) = ((8 * S + i : Nat) : Int) := by omega
      simp only [e22, ee, tn]
      (repeat (first | with_reducible refine ok_nm0 ?_ | (with_reducible refine ok_chk ?_ ?_; · omega) | (with_reducible refine ok_if ?_ ?_; · omega) | (with_reducible refine ok_el ?_ ?_; · omega) | with_reducible refine ok_some ?_ | with_reducible refine ok_bi ?_ | with_reducible refine ok_bsm ?_)); try dsimp only
      simp only [e22', ee, tn]
      (repeat (first | with_reducible refine ok_nm0 ?_ | (with_reducible refine ok_chk ?_ ?_; · omega) | (with_reducible refine ok_if ?_ ?_; · omega) | (with_reducible refine ok_el ?_ ?_; · omega) | with_reducible refine ok_some ?_ | with_reducible refine ok_bi ?_ | with_reducible refine ok_bsm ?_)); try dsimp only
      refine ih (i + 1) _ (by omega) (by omega) ?_
      rw [wrn (show a + 26 ≠ a + 34 by omega), ex (a + 29) (by omega) (by omega), ex (a + 26) (by omega) (by omega), hM]
      funext b j
      simp only [wr]
      by_cases b1 : b = a + 34
      · subst b1
        by_cases j1 : j = 8 * S + i
        · subst j1
          rw [if_neg (by omega), if_pos ⟨rfl, rfl⟩, if_pos ⟨rfl, by omega, by omega⟩, show 8 * S + i - 8 * S = i by omega]
        · rw [if_neg (by omega), if_neg (by omega)]
          by_cases j2 : 8 * S ≤ j ∧ j < 8 * S + i
          · rw [if_pos ⟨rfl, j2⟩, if_pos ⟨rfl, by omega, by omega⟩]
          · rw [if_neg (by omega), if_neg (by omega), if_neg (by omega), if_neg (by omega)]
      · by_cases b2 : b = a + 39
        · subst b2
          by_cases j1 : j = 8 * S + i
          · subst j1
            rw [if_pos ⟨rfl, rfl⟩, if_neg (by omega), if_pos ⟨rfl, by omega, by omega⟩, show 8 * S + i - 8 * S = i by omega]
          · rw [if_neg (by omega), if_neg (by omega)]
            by_cases j2 : 8 * S ≤ j ∧ j < 8 * S + i
            · rw [if_neg (by omega), if_pos ⟨rfl, j2⟩, if_neg (by omega), if_pos ⟨rfl, by omega, by omega⟩]
            · rw [if_neg (by omega), if_neg (by omega), if_neg (by omega), if_neg (by omega)]
        · rw [if_neg (by omega), if_neg (by omega), if_neg (by omega), if_neg (by omega), if_neg (by omega), if_neg (by omega)]
/-- a STAGE that has ended, ahead of what an exclusion still writes -/
def ME (M : Mem) (a : Nat) (p : PL) (st : ST) (sr : SR) : Prop :=
  M a 22 = st.h.length ∧ M a 23 = (st.o ++ sr.E).length ∧ (∀ c, c < p.n → M (a + 25) c = (if c ∈ sr.E then 2 else st.f c) ∧ M (a + 26) c = sr.k c ∧ M (a + 27) c = (if c ∈ sr.E then (st.h.length : Int) else st.w c)) ∧ (∀ i c : Nat, (st.o ++ sr.E)[i]? = some c → M (a + 28) i = (c : Int)) ∧ (∀ s s2, (st.h ++ [sr])[s]? = some s2 → SRm M a p.n s s2) ∧ (Ag p.n (M (a + 29)) sr.g ∧ M a 29 = sr.q) ∧ PAm M a (gat p) ∧ PMm M a p
def WI (st : ST) : Prop := ∀ c, c ∈ st.o → st.w c < st.h.length
theorem ends_ok {M : Mem} {a : Nat} {p : PL} {st : ST} {sr : SR} {D : Nat → Bool} (h : WF p) (hs : SI p st) (hw : WI st) (hl : st.h.length ≤ 7) (hR : MRR M a p st sr.k D sr.o) (hg : Ag p.n (M (a + 29)) sr.g) (hq : M a 29 = sr.q) (hx : M a 30 = sr.x) (hsu : M a 31 = sr.s) (ht2 : M a 32 = sr.t) (hE : sr.E = srt 8 p.n (av p sr.g) D) (hDE : ∀ c, c < p.n → D c = decide (c ∈ sr.E)) (hcnt : cn p.n D + st.o.length ≤ p.se) (hDf : ∀ c, c < p.n → D c = true → st.f c = 1) : Ok (fX9_endsStage a sr.r M) (fun z => ME z.2 a p st sr ∧ FrM a M z.2) := by
  have hn8 := h.1
  have hse := h.2.2.2.2.2.2.1
  obtain ⟨a1, a2, a3, a4, a5, a6, a7, a8⟩ := hR
  unfold fX9_endsStage
  refine ok_by (ends_l2 (S := st.h.length) hn8 (by omega) a8.1 a1 1000 0 M (by omega) (by omega) (by funext b j; rw [if_neg (by omega), if_neg (by omega)])) (fun z hz => ?_)
  have zx : ∀ x, x ≠ a + 34 → x ≠ a + 39 → z.2 x = M x := fun x x1 x2 => by rw [hz]; funext j; dsimp only; rw [if_neg (by omega), if_neg (by omega)]
  have z34 : ∀ j, ¬ (8 * st.h.length ≤ j ∧ j < 8 * st.h.length + p.n) → z.2 (a + 34) j = M (a + 34) j := fun j hj => by rw [hz]; dsimp only; rw [if_neg (by omega), if_neg (by omega)]
  have z39 : ∀ j, ¬ (8 * st.h.length ≤ j ∧ j < 8 * st.h.length + p.n) → z.2 (a + 39) j = M (a + 39) j := fun j hj => by rw [hz]; dsimp only; rw [if_neg (by omega), if_neg (by omega)]
  have n34 : ∀ c, c < p.n → z.2 (a + 34) (8 * st.h.length + c) = M (a + 29) c := fun c hc => by rw [hz]; dsimp only; rw [if_pos ⟨rfl, by omega, by omega⟩, show 8 * st.h.length + c - 8 * st.h.length = c by omega]
  have n39 : ∀ c, c < p.n → z.2 (a + 39) (8 * st.h.length + c) = M (a + 26) c := fun c hc => by rw [hz]; dsimp only; rw [if_neg (by omega), if_pos ⟨rfl, by omega, by omega⟩, show 8 * st.h.length + c - 8 * st.h.length = c by omega]
  have za : z.2 a = M a := zx a (by omega) (by omega)
  try dsimp only
  simp only [za, a1, tn]
  refine ok_chk (by omega) (ok_nm0 ?_)
  have c1 : ∀ v, wr z.2 (a + 35) st.h.length v a = M a := fun v => by rw [wrn (by omega), za]
  simp only [c1, a1, tn]
  refine ok_chk (by omega) (ok_nm0 ?_)
  have c2 : ∀ v w, wr (wr z.2 (a + 35) st.h.length v) (a + 36) st.h.length w a = M a := fun v w => by rw [wrn (by omega), c1]
  simp only [c2, a1, tn]
  refine ok_chk (by omega) (ok_nm0 ?_)
  have c3 : ∀ v w x, wr (wr (wr z.2 (a + 35) st.h.length v) (a + 36) st.h.length w) (a + 37) st.h.length x a = M a := fun v w x => by rw [wrn (by omega), c2]
  simp only [c3, a1, tn]
  refine ok_chk (by omega) (ok_nm0 ?_)
  have c4 : ∀ v w x y, wr (wr (wr (wr z.2 (a + 35) st.h.length v) (a + 36) st.h.length w) (a + 37) st.h.length x) (a + 38) st.h.length y a = M a := fun v w x y => by rw [wrn (by omega), c3]
  simp only [c4, a1, tn, hq, hx, hsu, ht2]
  refine ok_chk (by omega) (ok_nm0 ?_)
  generalize eN : wr (wr (wr (wr (wr z.2 (a + 35) st.h.length sr.q) (a + 36) st.h.length sr.x) (a + 37) st.h.length sr.s) (a + 38) st.h.length sr.t) (a + 40) st.h.length sr.r = N
  have nx : ∀ x, x ≠ a + 34 → x ≠ a + 35 → x ≠ a + 36 → x ≠ a + 37 → x ≠ a + 38 → x ≠ a + 39 → x ≠ a + 40 → N x = M x := fun x x1 x2 x3 x4 x5 x6 x7 => by rw [← eN, wrn x7, wrn x5, wrn x4, wrn x3, wrn x2, zx x x1 x6]
  have hfN : FrM a M N := by
    refine ⟨fun j _ _ _ _ _ _ _ => by rw [nx a (by omega) (by omega) (by omega) (by omega) (by omega) (by omega) (by omega)], fun x hx => nx x (by omega) (by omega) (by omega) (by omega) (by omega) (by omega) (by omega)⟩
  have hNa : N a = M a := nx a (by omega) (by omega) (by omega) (by omega) (by omega) (by omega) (by omega)
  have hN29 : Ag p.n (N (a + 29)) sr.g := by rw [nx (a + 29) (by omega) (by omega) (by omega) (by omega) (by omega) (by omega) (by omega)]; exact hg
  have hN27 : N (a + 27) = M (a + 27) := nx _ (by omega) (by omega) (by omega) (by omega) (by omega) (by omega) (by omega)
  have hDo : ∀ d, d ∈ st.o → D d = false := fun d hd => by
    have := (hs.2.2.2.1 d).mp hd
    cases e : D d
    · rfl
    · have := hDf d this.1 e; omega
  have ht := av_tot h sr.g
  unfold fX9_lines
  refine ok_bind (ok_by (lines_l2 (o := st.o) (D := D) (S := st.h.length) (g := sr.g) h (a8.fr hfN) hN29 (by rw [hNa]; exact a1) (by omega) (by rw [nx (a + 42) (by omega) (by omega) (by omega) (by omega) (by omega) (by omega) (by omega)]; exact a6.2) (fun d hd => ((hs.2.2.2.1 d).mp hd).1) (fun d hd => by
    have h1 := ((hs.2.2.2.1 d).mp hd).1
    rw [hN27, (a3 d h1).2.2, hDo d hd, if_neg (by decide)]
    have := hw d hd
    omega) (fun d hd hD => by rw [hN27, (a3 d hd).2.2, if_pos hD]) (by omega) 1000 0 N (by omega) (by omega) (by rw [Dlt0 D ht, List.append_nil, hNa]; exact a2) (fun k d hk => by
    rw [Dlt0 D ht, List.append_nil] at hk
    rw [nx (a + 28) (by omega) (by omega) (by omega) (by omega) (by omega) (by omega) (by omega)]; exact a4 k d hk) (fun _ _ => rfl) (fun _ _ _ => rfl)) (fun q hq2 => ok_some (ok_some ?_)))
  obtain ⟨q1, q2, q3, q4⟩ := hq2
  try dsimp only at q1 q2 q3 q4 ⊢
  rw [← hE] at q1 q2
  have qx : ∀ x, x ≠ a → x ≠ a + 28 → x ≠ a + 34 → x ≠ a + 35 → x ≠ a + 36 → x ≠ a + 37 → x ≠ a + 38 → x ≠ a + 39 → x ≠ a + 40 → q.2 x = M x := fun x x0 x0' x1 x2 x3 x4 x5 x6 x7 => by rw [q4 x x0 x0', nx x x1 x2 x3 x4 x5 x6 x7]
  have hfq : FrM a M q.2 := hfN.trans ⟨fun j _ _ j3 _ _ _ _ => q3 j j3, fun x hx => q4 x (by omega) (by omega)⟩
  refine ⟨⟨by rw [q3 22 (by decide), hNa]; exact a1, q1, fun c hc => ⟨?_, ?_, ?_⟩, q2, fun s s2 hs2 => ?_, ⟨?_, ?_⟩, a7.same ?_ ?_ ?_ ?_, a8.fr hfq⟩, hfq⟩
  · rw [qx (a + 25) (by omega) (by omega) (by omega) (by omega) (by omega) (by omega) (by omega) (by omega) (by omega), (a3 c hc).1, hDE c hc]; simp
  · rw [qx (a + 26) (by omega) (by omega) (by omega) (by omega) (by omega) (by omega) (by omega) (by omega) (by omega)]; exact (a3 c hc).2.1
  · rw [qx (a + 27) (by omega) (by omega) (by omega) (by omega) (by omega) (by omega) (by omega) (by omega) (by omega), (a3 c hc).2.2, hDE c hc]; simp
  · have r34 : q.2 (a + 34) = z.2 (a + 34) := by rw [q4 _ (by omega) (by omega), ← eN, wrn (by omega), wrn (by omega), wrn (by omega), wrn (by omega), wrn (by omega)]
    have r39 : q.2 (a + 39) = z.2 (a + 39) := by rw [q4 _ (by omega) (by omega), ← eN, wrn (by omega), wrn (by omega), wrn (by omega), wrn (by omega), wrn (by omega)]
    have r35 : q.2 (a + 35) = up (M (a + 35)) st.h.length sr.q := by rw [q4 _ (by omega) (by omega), ← eN, wrn (by omega), wrn (by omega), wrn (by omega), wrn (by omega), wre, zx _ (by omega) (by omega)]
    have r36 : q.2 (a + 36) = up (M (a + 36)) st.h.length sr.x := by rw [q4 _ (by omega) (by omega), ← eN, wrn (by omega), wrn (by omega), wrn (by omega), wre, wrn (by omega), zx _ (by omega) (by omega)]
    have r37 : q.2 (a + 37) = up (M (a + 37)) st.h.length sr.s := by rw [q4 _ (by omega) (by omega), ← eN, wrn (by omega), wrn (by omega), wre, wrn (by omega), wrn (by omega), zx _ (by omega) (by omega)]
    have r38 : q.2 (a + 38) = up (M (a + 38)) st.h.length sr.t := by rw [q4 _ (by omega) (by omega), ← eN, wrn (by omega), wre, wrn (by omega), wrn (by omega), wrn (by omega), zx _ (by omega) (by omega)]
    have r40 : q.2 (a + 40) = up (M (a + 40)) st.h.length sr.r := by rw [q4 _ (by omega) (by omega), ← eN, wre, wrn (by omega), wrn (by omega), wrn (by omega), wrn (by omega), zx _ (by omega) (by omega)]
    have r41 : q.2 (a + 41) = M (a + 41) := qx _ (by omega) (by omega) (by omega) (by omega) (by omega) (by omega) (by omega) (by omega) (by omega)
    have r42 : q.2 (a + 42) = M (a + 42) := qx _ (by omega) (by omega) (by omega) (by omega) (by omega) (by omega) (by omega) (by omega) (by omega)
    unfold SRm
    rw [r34, r35, r36, r37, r38, r39, r40, r41, r42]
    by_cases b1 : s < st.h.length
    · rw [List.getElem?_append_left b1] at hs2
      obtain ⟨b2, b3, b4, b5, b6, b7, b8, b9⟩ := a5 s s2 hs2
      rw [up_ne (by omega), up_ne (by omega), up_ne (by omega), up_ne (by omega), up_ne (by omega)]
      exact ⟨b2, b3, b4, b5, b6, b7, b8, fun c hc => by rw [z34 _ (by omega), z39 _ (by omega)]; exact b9 c hc⟩
    · have hlt := getq_lt hs2
      simp only [List.length_append, List.length_cons, List.length_nil] at hlt
      have es : s = st.h.length := by omega
      subst es
      rw [List.getElem?_append_right (by omega), Nat.sub_self] at hs2
      cases hs2
      rw [up_same, up_same, up_same, up_same, up_same]
      exact ⟨rfl, a6.1, by rw [a6.2]; exact mk_congr hDE, rfl, rfl, rfl, rfl, fun c hc => by rw [n34 c hc, n39 c hc]; exact ⟨hg c hc, (a3 c hc).2.1⟩⟩
  · rw [q4 _ (by omega) (by omega)]; exact hN29
  · rw [q3 29 (by decide), hNa]; exact hq
  · rw [q3 18 (by decide), hNa]
  · exact qx _ (by omega) (by omega) (by omega) (by omega) (by omega) (by omega) (by omega) (by omega) (by omega)
  · exact qx _ (by omega) (by omega) (by omega) (by omega) (by omega) (by omega) (by omega) (by omega) (by omega)
  · exact qx _ (by omega) (by omega) (by omega) (by omega) (by omega) (by omega) (by omega) (by omega) (by omega)
end
