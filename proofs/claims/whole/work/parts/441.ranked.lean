section
/-! ranked -/
def exR (h : List SR) : Nat → List Int
  | 0 => []
  | s + 1 => match h[s]? with
    | some sr => if sr.o = -5 then exR h s else sr.o :: exR h s
    | none => exR h s
def gnF (f : Vec) : Nat → Nat → List Int
  | _, 0 => []
  | i, m + 1 => if f i = 0 then (i : Int) :: gnF f (i + 1) m else gnF f (i + 1) m
def oi : Option Int → Int
  | none => -1
  | some v => v
def RK (p : PL) (st : ST) : List Int := cst st.o ++ (cst (srt 8 p.n (av p (lg st.h)) (hop st.f)) ++ (exR st.h st.h.length ++ gnF st.f 0 p.n))
theorem exR_s {h : List SR} {s : Nat} {sr : SR} (e : h[s]? = some sr) : exR h (s + 1) = if sr.o = -5 then exR h s else sr.o :: exR h s := by
  simp only [exR, e]
theorem exR_len {h : List SR} : ∀ s, s ≤ h.length → (exR h s).length = ((h.take s).filter (fun sr => decide (sr.o ≠ -5))).length := by
  intro s
  induction s with
  | zero => intro _; rfl
  | succ s ih =>
    intro hs
    obtain ⟨sr, e⟩ := getq (pl := h) (j := s) (by omega)
    have e2 : h.take (s + 1) = h.take s ++ [sr] := by rw [List.take_add_one, e]; rfl
    rw [e2, List.filter_append, List.length_append, ← ih (by omega), exR_s e]
    by_cases hz : sr.o = -5
    · simp [hz]
    · simp [hz]
theorem gn_len {f : Vec} : ∀ m i, ((gnF f i m).length : Int) + cn i (fun c => decide (f c = 0)) = cn (i + m) (fun c => decide (f c = 0)) := by
  intro m
  induction m with
  | zero => intro i; simp [gnF]
  | succ m ih =>
    intro i
    have e : cn (i + 1) (fun c => decide (f c = 0)) = cn i (fun c => decide (f c = 0)) + (if decide (f i = 0) = true then 1 else 0) := rfl
    have h := ih (i + 1)
    rw [show i + (m + 1) = i + 1 + m by omega, ← h, e]
    by_cases hz : f i = 0
    · simp only [gnF, if_pos hz, List.length_cons, hz, decide_true, if_true]
      omega
    · simp only [gnF, if_neg hz, decide_eq_false hz]
      simp
theorem cn4 {f : Vec} : ∀ n, (∀ c, c < n → f c = 0 ∨ f c = 1 ∨ f c = 2 ∨ f c = 3) → cn n (fun c => decide (f c = 0)) + cn n (fun c => decide (f c = 1)) + cn n (fun c => decide (f c = 2)) + cn n (fun c => decide (f c = 3)) = n := by
  intro n
  induction n with
  | zero => intro _; rfl
  | succ n ih =>
    intro h
    have h1 := ih (fun c hc => h c (by omega))
    have e : ∀ p : Nat → Bool, cn (n + 1) p = cn n p + (if p n = true then 1 else 0) := fun _ => rfl
    rw [e, e, e, e]
    rcases h n (by omega) with g | g | g | g
    all_goals
      simp only [g]
      simp only [show decide ((0 : Int) = 1) = false from rfl, show decide ((0 : Int) = 2) = false from rfl, show decide ((0 : Int) = 3) = false from rfl, show decide ((1 : Int) = 0) = false from rfl, show decide ((1 : Int) = 2) = false from rfl, show decide ((1 : Int) = 3) = false from rfl, show decide ((2 : Int) = 0) = false from rfl, show decide ((2 : Int) = 1) = false from rfl, show decide ((2 : Int) = 3) = false from rfl, show decide ((3 : Int) = 0) = false from rfl, show decide ((3 : Int) = 1) = false from rfl, show decide ((3 : Int) = 2) = false from rfl, decide_true, if_true, Bool.false_eq_true, if_false]
      omega
theorem cst_len (L : List Nat) : (cst L).length = L.length := List.length_map _
theorem srt8_len {p : PL} (h : WF p) (g : Vec) (w : Nat → Bool) : ((srt 8 p.n (av p g) w).length : Int) = cn p.n w := by
  have h8 := h.1
  have hc := cn_le p.n w
  have := srt_len (k := 8) (w := w) (av_tot h g)
  rw [if_pos (by omega)] at this
  exact this
theorem RK_len {p : PL} (h : WF p) : (RK p (cnt p)).length = p.n := by
  obtain ⟨i1, i2, i3, i4, i5, i6, i7, i8, i9, i10⟩ := cnt_ok h
  have s1 := srt8_len h (lg (cnt p).h) (hop (cnt p).f)
  have s2 := exR_len (h := (cnt p).h) (cnt p).h.length (Nat.le_refl _)
  rw [List.take_length] at s2
  have s3 := gn_len (f := (cnt p).f) p.n 0
  rw [Nat.zero_add] at s3
  have s4 : cn 0 (fun c => decide ((cnt p).f c = 0)) = 0 := rfl
  have s5 := cn4 (f := (cnt p).f) p.n (fun c hc => by
    by_cases e : p.g c = 0
    · exact Or.inr ((i1 c hc).1 e)
    · exact Or.inl ((i1 c hc).2 e))
  have s6 : cn p.n (hop (cnt p).f) = cn p.n (fun c => decide ((cnt p).f c = 1)) := rfl
  unfold RK
  rw [List.length_append, List.length_append, List.length_append, cst_len, cst_len]
  omega
theorem cntR_grow {p : PL} : ∀ (m : Nat) (st : ST), st.h.length ≤ (cntR p m st).h.length := by
  intro m
  induction m with
  | zero => intro st; exact Nat.le_refl _
  | succ m ih =>
    intro st
    have e : (nxt st (stg p st)).h.length = st.h.length + 1 := by
      show (st.h ++ [stg p st]).length = _
      simp
    have h := ih (nxt st (stg p st))
    simp only [cntR]
    split
    · omega
    · exact Nat.le_refl _
theorem cntR_s (p : PL) (m : Nat) (st : ST) : cntR p (m + 1) st = if 0 < cn p.n (hop st.f) ∧ (st.o.length : Int) < p.se then cntR p m (nxt st (stg p st)) else st := rfl
theorem cnt_none {p : PL} (h : WF p) (hz : (cnt p).h.length = 0) : cn p.n (hop (cnt p).f) = 0 := by
  have hse := h.2.2.2.2.2.2.1
  by_cases hc : 0 < cn p.n (hop (ini p).f) ∧ ((ini p).o.length : Int) < p.se
  · exfalso
    have e : cnt p = cntR p 999 (nxt (ini p) (stg p (ini p))) := (cntR_s p 999 (ini p)).trans (if_pos hc)
    have h2 := cntR_grow (p := p) 999 (nxt (ini p) (stg p (ini p)))
    rw [← e, hz] at h2
    have e3 : (nxt (ini p) (stg p (ini p))).h.length = 0 + 1 := rfl
    omega
  · have e : cnt p = ini p := (cntR_s p 999 (ini p)).trans (if_neg hc)
    rw [e]
    have e2 : (ini p).o.length = 0 := rfl
    have h3 := cn_nn p.n (hop (ini p).f)
    omega
theorem lg_last {h : List SR} {sr : SR} (e : h[h.length - 1]? = some sr) : lg h = sr.g := by
  simp only [lg, List.getLast?_eq_getElem?, e]
theorem oi_cst (L : List Nat) (k : Nat) : oi ((cst L)[k]?) = opt (L[k]?) := by
  rw [List.getElem?_map]
  cases L[k]? <;> rfl
theorem rank_l79 {t : Nat} {h : List SR} {M : Mem} (hh : h.length ≤ 8) (hS : ∀ s sr, h[s]? = some sr → M (t + 9 + 36 + 16 * s) 1 = sr.o) : ∀ (m s k : Nat), s ≤ h.length → s < m → k ≤ 8 → Ok (fX4_rankAt_l79 t m (k : Int) ((s : Int) - 1) M) (fun z => (k < (exR h s).length → z = .inl (oi ((exR h s)[k]?), M)) ∧ (¬ k < (exR h s).length → ∃ y, z = .inr (((k - (exR h s).length : Nat) : Int), y, M))) := by
  intro m
  induction m with
  | zero => intros; omega
  | succ m ih =>
    intro s k h1 h2 hk
    unfold fX4_rankAt_l79
    cases s with
    | zero =>
      exact ok_if (by omega) (ok_some ⟨fun hc => absurd hc (Nat.not_lt_zero _), fun _ => ⟨((0 : Nat) : Int) - 1, rfl⟩⟩)
    | succ s =>
      obtain ⟨sr, e⟩ := getq (pl := h) (j := s) (by omega)
      have e1 : (((s + 1 : Nat) : Int) - 1) = (s : Int) := by omega
      have e2 : (s : Int) + (-1) = (s : Int) - 1 := by omega
      simp only [e1, e2, tn, hS s sr e]
      rw [exR_s e]
      refine ok_el (by omega) (ok_chk (by omega) (ok_ite (fun ho => ok_chk (by omega) ?_) (fun ho => ok_ite (fun h0 => ok_chk (by omega) (ok_some ?_)) (fun h0 => ok_chk (by omega) (ok_chk (by omega) ?_)))))
      · rw [if_pos ho]
        exact ih s k (by omega) (by omega) hk
      · rw [if_neg ho]
        have : k = 0 := by omega
        subst this
        exact ⟨fun _ => rfl, fun hc => absurd (by simp) hc⟩
      · rw [if_neg ho]
        obtain ⟨k, rfl⟩ : ∃ k', k = k' + 1 := ⟨k - 1, by omega⟩
        rw [show ((k + 1 : Nat) : Int) + -1 = (k : Int) by omega]
        refine (ih s k (by omega) (by omega) (by omega)).mono (fun z hz => ⟨fun hc => ?_, fun hc => ?_⟩)
        · rw [List.getElem?_cons_succ]
          exact hz.1 (by simp at hc; exact hc)
        · obtain ⟨y, hy⟩ := hz.2 (by simp at hc; omega)
          refine ⟨y, ?_⟩
          rw [hy, List.length_cons, Nat.add_sub_add_right]
theorem rank_l126 {t n : Nat} {f : Vec} {M : Mem} (hn : n ≤ 8) (h0 : M (t + 10000) 0 = n) (hf : ∀ c, c < n → M (t + 3) c = f c) : ∀ (m i k : Nat), i ≤ n → n < m + i → k ≤ 8 → Ok (fX4_rankAt_l126 t m (k : Int) i M) (fun z => z = .inl (oi ((gnF f i (n - i))[k]?), M)) := by
  intro m
  induction m with
  | zero => intros; omega
  | succ m ih =>
    intro i k h1 h2 hk
    unfold fX4_rankAt_l126
    simp only [h0]
    refine ok_ite (fun hc => ok_some ?_) (fun hc => ?_)
    · rw [show n - i = 0 by omega]
      simp [gnF, oi]
    · have hi : i < n := by omega
      have e1 : (i : Int) + 1 = ((i + 1 : Nat) : Int) := by omega
      obtain ⟨d, hd⟩ : ∃ d, n - i = d + 1 := ⟨n - i - 1, by omega⟩
      have hd2 : n - (i + 1) = d := by omega
      have ih2 := fun k hk => ih (i + 1) k (by omega) (by omega) hk
      rw [hd2] at ih2
      simp only [tn, hf i hi, e1]
      rw [hd]
      refine ok_chk (by omega) (ok_ite (fun hz => ok_ite (fun h0 => ok_some ?_) (fun h0 => ok_chk (by omega) (ok_chk (by omega) ?_))) (fun hz => ok_chk (by omega) ?_))
      · have : k = 0 := by omega
        subst this
        simp only [gnF, if_pos hz]
        rfl
      · obtain ⟨k, rfl⟩ : ∃ k', k = k' + 1 := ⟨k - 1, by omega⟩
        rw [show ((k + 1 : Nat) : Int) + -1 = (k : Int) by omega]
        simp only [gnF, if_pos hz, List.getElem?_cons_succ]
        exact ih2 k (by omega)
      · simp only [gnF, if_neg hz]
        exact ih2 k hk
theorem rankAt_ok {s : SS} {N : Mem} (hs : GS s) (hN : CI N s) (hT : CT N 1000 s.p (cnt s.p)) {i : Nat} (hi : i < s.p.n) : fX4_rankAt 1000 i N = some (oi ((RK s.p (cnt s.p))[i]?), N) := by
  have h8 := hs.1.1.1
  have hl := cnt_len hs.1.1
  have hSI := cnt_ok hs.1.1
  have hse := hs.1.1.2.2.2.2.2.2.1
  have hol := hSI.2.2.2.2.1
  have ht := av_tot hs.1.1 (lg (cnt s.p).h)
  have s1 := srt8_len hs.1.1 (lg (cnt s.p).h) (hop (cnt s.p).f)
  have hnn := cn_nn s.p.n (hop (cnt s.p).f)
  have hcle := cn_le s.p.n (hop (cnt s.p).f)
  have hf : ∀ c, c < s.p.n → N 1003 c = (cnt s.p).f c := fun c hc => (hT.2.2.2.1 c hc).1
  have hn0 : N 11000 0 = s.p.n := hN.1.1.1.1
  have h5 : N 1000 5 = (cnt s.p).o.length := hT.1
  have h6 : N 1000 6 = cn s.p.n (hop (cnt s.p).f) := hT.2.1
  have h7 : N 1000 7 = (cnt s.p).h.length := hT.2.2.1
  have hSr : ∀ k sr, (cnt s.p).h[k]? = some sr → SRc N (1045 + 16 * k) s.p.n sr := fun k sr hk => hT.2.2.2.2.2.1 k sr hk
  apply ok_eq
  unfold fX4_rankAt
  simp only [h5, h7]
  refine ok_el (by omega) (ok_ite (fun h1 => ?_) (fun h1 => ok_chk (by omega) (ok_some ?_)))
  · obtain ⟨k, rfl⟩ := Nat.exists_eq_add_of_le (show (cnt s.p).o.length ≤ i by omega)
    have ek : (((cnt s.p).o.length + k : Nat) : Int) - ((cnt s.p).o.length : Int) = (k : Int) := by omega
    have hA : (RK s.p (cnt s.p))[(cnt s.p).o.length + k]? = (cst (srt 8 s.p.n (av s.p (lg (cnt s.p).h)) (hop (cnt s.p).f)) ++ (exR (cnt s.p).h (cnt s.p).h.length ++ gnF (cnt s.p).f 0 s.p.n))[k]? := by
      unfold RK
      rw [List.getElem?_append_right (by rw [cst_len]; omega), cst_len, show (cnt s.p).o.length + k - (cnt s.p).o.length = k by omega]
    rw [hA]
    simp only [ek]
    have tail : ∀ j : Nat, cn s.p.n (hop (cnt s.p).f) + j = k → Ok (lr (fX4_rankAt_l79 1000 1000 (j : Int) (((cnt s.p).h.length : Int) - 1) N) (fun r => r) (fun t21 => lr (fX4_rankAt_l126 1000 1000 t21.1 0 t21.2.2) (fun r => r) (fun _ => none))) (fun q => q = (oi ((cst (srt 8 s.p.n (av s.p (lg (cnt s.p).h)) (hop (cnt s.p).f)) ++ (exR (cnt s.p).h (cnt s.p).h.length ++ gnF (cnt s.p).f 0 s.p.n))[k]?), N)) := by
      intro j hj
      rw [List.getElem?_append_right (by rw [cst_len]; omega), cst_len, show k - (srt 8 s.p.n (av s.p (lg (cnt s.p).h)) (hop (cnt s.p).f)).length = j by omega]
      refine ok_lr ((rank_l79 (t := 1000) (h := (cnt s.p).h) (M := N) hl (fun u sr hu => (hSr u sr hu).2.1) 1000 (cnt s.p).h.length j (Nat.le_refl _) (by omega) (by omega)).mono (fun z hz => ?_))
      by_cases hc : j < (exR (cnt s.p).h (cnt s.p).h.length).length
      · have e := hz.1 hc
        refine ⟨fun a ha => ?_, fun b hb => by rw [e] at hb; cases hb⟩
        rw [e] at ha
        cases ha
        rw [List.getElem?_append_left hc]
      · obtain ⟨y, e⟩ := hz.2 hc
        refine ⟨fun a ha => (by rw [e] at ha; cases ha), fun b hb => ?_⟩
        rw [e] at hb
        cases hb
        have e0 : (0 : Int) = ((0 : Nat) : Int) := rfl
        rw [e0]
        refine ok_lrl ((rank_l126 (t := 1000) (n := s.p.n) (f := (cnt s.p).f) (M := N) h8 hn0 hf 1000 0 _ (by omega) (by omega) (by omega)).mono (fun z2 hz2 => ⟨_, hz2, ?_⟩))
        rw [List.getElem?_append_right (by omega)]
        rfl
    refine ok_chk (by omega) (ok_nm0 (ok_chk (by omega) (ok_bs (stageAt_ok hl hT) ?_)))
    dsimp only
    by_cases hz : (cnt s.p).h.length = 0
    · have h0 := cnt_none hs.1.1 hz
      have e : (if 0 ≤ ((cnt s.p).h.length : Int) - 1 ∧ ((cnt s.p).h.length : Int) - 1 < ((cnt s.p).h.length : Int) then some (1045 + 16 * (((cnt s.p).h.length : Int) - 1).toNat) else none) = none := if_neg (by omega)
      rw [e]
      refine ok_oc (fun _ => ?_) (fun a ha => by cases ha)
      simp only [h6, h7, h0, Int.sub_zero]
      refine ok_chk (by omega) (ok_nm0 (ok_chk (by omega) (ok_nm0 ?_)))
      exact tail k (by omega)
    · obtain ⟨l, hl1⟩ : ∃ l, (cnt s.p).h.length = l + 1 := ⟨(cnt s.p).h.length - 1, by omega⟩
      have e : (if 0 ≤ ((cnt s.p).h.length : Int) - 1 ∧ ((cnt s.p).h.length : Int) - 1 < ((cnt s.p).h.length : Int) then some (1045 + 16 * (((cnt s.p).h.length : Int) - 1).toNat) else none) = some (1045 + 16 * l) := by
        rw [if_pos (by omega)]
        congr 2
        omega
      rw [e]
      refine ok_oc (fun ha => by cases ha) (fun a ha => ?_)
      cases ha
      refine ok_if (Sh_s l (by omega)) ?_
      simp only [h6, h7]
      refine ok_ite (fun h2 => ok_chk (by omega) (ok_nm0 (ok_chk (by omega) (ok_nm0 ?_)))) (fun h2 => ?_)
      · obtain ⟨j, hj⟩ := Int.eq_ofNat_of_zero_le (show 0 ≤ (k : Int) - cn s.p.n (hop (cnt s.p).f) by omega)
        rw [hj]
        exact tail j (by omega)
      · obtain ⟨sr, hsr⟩ := getq (pl := (cnt s.p).h) (j := l) (by omega)
        have elg : lg (cnt s.p).h = sr.g := lg_last (by rw [hl1]; exact hsr)
        have mb := mk_bd h8 (fun c => decide (N 1003 c = 1))
        refine ok_bs (whoIs_ok (t := 1000) (what := 1) h8 hn0) (ok_bs (leader_ok (t := 1000) (v := 1045 + 16 * l + 8) (p := s.p) (M := N) (i := k) hs.1.1 hN.1.1.1 (by omega) mb.1 mb.2) (ok_some ?_))
        have e9 : (srt (k + 1) s.p.n (av s.p (N (1045 + 16 * l + 8))) (bt (mk s.p.n (fun c => decide (N 1003 c = 1)))))[k]? = (srt 8 s.p.n (av s.p (lg (cnt s.p).h)) (hop (cnt s.p).f))[k]? := by
          rw [srt_get (k := 8) (show k < 8 by omega), elg, srt_vcongr (av_congr (hSr l sr hsr).2.2.2.2.2.2.2.1)]
          congr 1
          refine srt_congr (av_tot hs.1.1 sr.g) (fun c hc => ?_)
          rw [mk_bt, hf c hc]
          simp [hc, hop]
        rw [List.getElem?_append_left (by rw [cst_len]; omega), oi_cst, ← e9]
  · obtain ⟨c, hc⟩ := getq (pl := (cnt s.p).o) (j := i) (by omega)
    have e : (RK s.p (cnt s.p))[i]? = some (c : Int) := by
      unfold RK
      rw [List.getElem?_append_left (by rw [cst_len]; omega), List.getElem?_map, hc]
      rfl
    rw [e]
    simp only [Nat.reduceAdd, tn]
    have e2 : N 1005 i = (c : Int) := hT.2.2.2.2.1 i c hc
    rw [e2]
    rfl
theorem app1 {F : List Int} {w : Int} {M : Mem} {a : Nat} (hF : ∀ k v, F[k]? = some v → M a k = v) : ∀ k v, (F ++ [w])[k]? = some v → wr M a F.length w a k = v := by
  intro k v hk
  rw [wre]
  by_cases h1 : k < F.length
  · rw [List.getElem?_append_left h1] at hk
    rw [up_ne (by omega)]
    exact hF k v hk
  · have := getq_lt hk
    rw [List.length_append, List.length_singleton] at this
    have e : k = F.length := by omega
    subst e
    rw [List.getElem?_append_right (Nat.le_refl _), Nat.sub_self] at hk
    cases hk
    exact up_same _ _ _
theorem rnk_l58 {x1 : Int} {h : List SR} {M0 : Mem} (hh : h.length ≤ 8) (hS : ∀ s sr, h[s]? = some sr → M0 20041 s = sr.o) : ∀ (m s : Nat) (F : List Int) (M : Mem), s ≤ h.length → s < m → F.length + (exR h s).length ≤ 8 → (∀ k v, F[k]? = some v → M 20043 k = v) → (∀ x, x ≠ 20043 → M x = M0 x) → Ok (fX9_ranked_l58 20000 x1 m (F.length : Int) ((s : Int) - 1) M) (fun z => z.1 = ((F ++ exR h s).length : Int) ∧ (∀ k v, (F ++ exR h s)[k]? = some v → z.2.2 20043 k = v) ∧ ∀ x, x ≠ 20043 → z.2.2 x = M0 x) := by
  intro m
  induction m with
  | zero => intros; omega
  | succ m ih =>
    intro s F M h1 h2 h3 hF hx
    unfold fX9_ranked_l58
    simp only [Nat.reduceAdd]
    cases s with
    | zero =>
      exact ok_if (by omega) (ok_some ⟨by simp [exR], fun k v hk => hF k v (by simpa [exR] using hk), hx⟩)
    | succ s =>
      obtain ⟨sr, e⟩ := getq (pl := h) (j := s) (by omega)
      have e1 : (((s + 1 : Nat) : Int) - 1) = (s : Int) := by omega
      have e2 : (s : Int) + (-1) = (s : Int) - 1 := by omega
      have e3 : M 20041 s = sr.o := by rw [hx 20041 (by omega)]; exact hS s sr e
      simp only [e1, e2, tn, e3]
      rw [exR_s e] at h3 ⊢
      refine ok_el (by omega) (ok_chk (by omega) (ok_bi (ok_ite (fun ho => ok_some (ok_chk (by omega) ?_)) (fun ho => ?_))))
      · rw [if_pos ho] at h3 ⊢
        exact ih s F M (by omega) (by omega) h3 hF hx
      · rw [if_neg ho] at h3 ⊢
        rw [List.length_cons] at h3
        refine ok_chk (by omega) (ok_chk (by omega) (ok_nm0 (ok_chk (by omega) (ok_some (ok_chk (by omega) ?_)))))
        dsimp only
        have h4 := ih s (F ++ [sr.o]) (wr M 20043 F.length sr.o) (by omega) (by omega) (by rw [List.length_append, List.length_singleton]; omega) (app1 hF) (fun x hx2 => by rw [wrn hx2]; exact hx x hx2)
        rw [List.append_assoc, List.singleton_append, List.length_append, List.length_singleton] at h4
        rw [show (F.length : Int) + 1 = ((F.length + 1 : Nat) : Int) by omega]
        exact h4
theorem rnk_l99 {x1 : Int} {n : Nat} {f : Vec} {M0 : Mem} (hn : n ≤ 8) (h0 : M0 20000 0 = n) (hf : ∀ c, c < n → M0 20025 c = f c) : ∀ (m i : Nat) (F : List Int) (M : Mem), i ≤ n → n < m + i → F.length + (gnF f i (n - i)).length ≤ 8 → (∀ k v, F[k]? = some v → M 20043 k = v) → (∀ x, x ≠ 20043 → M x = M0 x) → Ok (fX9_ranked_l99 20000 x1 m (F.length : Int) i M) (fun z => (∀ k v, (F ++ gnF f i (n - i))[k]? = some v → z.2.2 20043 k = v) ∧ ∀ x, x ≠ 20043 → z.2.2 x = M0 x) := by
  intro m
  induction m with
  | zero => intros; omega
  | succ m ih =>
    intro i F M h1 h2 h3 hF hx
    have e0 : M 20000 0 = n := by rw [hx 20000 (by omega)]; exact h0
    unfold fX9_ranked_l99
    simp only [Nat.reduceAdd, e0]
    refine ok_ite (fun hc => ok_some ?_) (fun hc => ?_)
    · rw [show n - i = 0 by omega]
      simp only [gnF, List.append_nil]
      exact ⟨hF, hx⟩
    · have hi : i < n := by omega
      have e1 : (i : Int) + 1 = ((i + 1 : Nat) : Int) := by omega
      obtain ⟨d, hd⟩ : ∃ d, n - i = d + 1 := ⟨n - i - 1, by omega⟩
      have hd2 : n - (i + 1) = d := by omega
      have ef : M 20025 i = f i := by rw [hx 20025 (by omega)]; exact hf i hi
      have ih2 := fun F M => ih (i + 1) F M (by omega) (by omega)
      rw [hd2] at ih2
      simp only [tn, ef, e1]
      rw [hd] at h3 ⊢
      refine ok_chk (by omega) (ok_bi (ok_ite (fun hz => ?_) (fun hz => ok_some (ok_chk (by omega) ?_))))
      · simp only [gnF, if_pos hz, List.length_cons] at h3 ⊢
        refine ok_chk (by omega) (ok_nm0 (ok_chk (by omega) (ok_some (ok_chk (by omega) ?_))))
        dsimp only
        have h4 := ih2 (F ++ [(i : Int)]) (wr M 20043 F.length i) (by rw [List.length_append, List.length_singleton]; omega) (app1 hF) (fun x hx2 => by rw [wrn hx2]; exact hx x hx2)
        rw [List.append_assoc, List.singleton_append, List.length_append, List.length_singleton] at h4
        rw [show (F.length : Int) + 1 = ((F.length + 1 : Nat) : Int) by omega]
        exact h4
      · simp only [gnF, if_neg hz] at h3 ⊢
        exact ih2 F M h3 hF hx
theorem op_ranked {s : SS} (hs : GS s) (i : Int) : Op s (fX8_ranked 10 i) (fX9_ranked 20000 i) := by
  have h8 := hs.1.1.1
  have one0 : ¬ ((1 : Int) = 0) := by decide
  have hl := cnt_len hs.1.1
  have hse := hs.1.1.2.2.2.2.2.2.1
  have hSI := cnt_ok hs.1.1
  have hol := hSI.2.2.2.2.1
  unfold fX8_ranked fX9_ranked
  simp only [Nat.reduceAdd]
  by_cases hi : 0 ≤ i ∧ i < s.p.n
  · obtain ⟨j, rfl⟩ := Int.eq_ofNat_of_zero_le hi.1
    refine ⟨oi ((RK s.p (cnt s.p))[j]?), s, hs, fun M hC => ?_, fun M hD => ?_⟩
    · have c1 := hasCand_ok (c := j) (M := M) (o := 11000) (n := s.p.n) hC.1.1.1.1
      rw [if_pos hi] at c1
      refine ok_bs c1 ?_
      dsimp only
      refine ok_bi (ok_el one0 ?_)
      refine tal_bind hs hC (fun N hN hT hx => ok_bs (rankAt_ok hs hN hT (by omega)) (ok_some (ok_some ((PC.self hN).tr hx))))
    · have c1 := isOne_ok (a := 20000) (c := j) (M := M) (n := s.p.n) h8 hD.1.1
      rw [if_pos hi] at c1
      refine ok_bs c1 (ok_el one0 (ok_by (counts_D hs hD) (fun q hq => ?_)))
      obtain ⟨z, N⟩ := q
      obtain ⟨hX, hDN, hlow⟩ := hq
      dsimp only at hX hDN hlow ⊢
      have e23 : N 20000 23 = (cnt s.p).o.length := hX.2.1
      have e22 : N 20000 22 = (cnt s.p).h.length := hX.1
      refine ok_chk (by omega) (ok_nm (fun M5 e5 => ?_))
      have x5 : ∀ x, x ≠ 20043 → M5 x = N x := fun x hx => by rw [e5]; funext k; simp [cpM, hx]
      have g5 : ∀ k v, (cst (cnt s.p).o)[k]? = some v → M5 20043 k = v := fun k v hk => by
        have hkl := getq_lt hk
        rw [cst_len] at hkl
        obtain ⟨c, hc⟩ := getq (pl := (cnt s.p).o) (j := k) hkl
        rw [List.getElem?_map, hc] at hk
        cases hk
        rw [e5, e23]
        show (if 20043 = 20043 ∧ 0 ≤ k ∧ k < 0 + (cnt s.p).o.length then N 20028 (0 + (k - 0)) else N 20043 k) = c
        rw [if_pos ⟨rfl, by omega, by omega⟩, show 0 + (k - 0) = k by omega]
        exact hX.2.2.2.1 k c hc
      have h22 : M5 20000 22 = (cnt s.p).h.length := by rw [x5 20000 (by omega)]; exact e22
      have h23 : M5 20000 23 = (cnt s.p).o.length := by rw [x5 20000 (by omega)]; exact e23
      have est : (if 0 < ((M5 20000 22) - 1) then ((M5 20000 22) - 1) else 0) = (((cnt s.p).h.length - 1 : Nat) : Int) := by split <;> omega
      refine ok_chk (by omega) ?_
      simp only [est, h23]
      have hD5 : DI M5 s := FrQ hDN x5
      have tot := RK_len hs.1.1
      unfold RK at tot
      rw [List.length_append, List.length_append, List.length_append, cst_len, cst_len] at tot
      have s1 := srt8_len hs.1.1 (lg (cnt s.p).h) (hop (cnt s.p).f)
      have erk : rkw (cnt s.p).f 1 = hop (cnt s.p).f := by
        funext c
        unfold rkw hop
        rw [if_neg (by decide)]
      refine ok_by (ranksBy_ok (F := cst (cnt s.p).o) (g := lg (cnt s.p).h) (f := (cnt s.p).f) hs.1.1 hD5.1 (fun c hc => by rw [x5 20025 (by omega)]; exact (hX.2.2.1 c hc).1) ?_ (by rw [erk, cst_len]; omega) (by rw [cst_len]) g5) (fun q hq => ?_)
      · by_cases hz : (cnt s.p).h.length = 0
        · exact Or.inl (fun c hc => by rw [erk]; exact cn_0 (by rw [cnt_none hs.1.1 hz]; exact Int.le_refl _) c hc)
        · obtain ⟨sr, hsr⟩ := getq (pl := (cnt s.p).h) (j := (cnt s.p).h.length - 1) (by omega)
          refine Or.inr ⟨by omega, fun c hc => ?_⟩
          rw [lg_last hsr, x5 20034 (by omega)]
          exact ((hX.2.2.2.2.1 _ sr hsr).2.2.2.2.2.2.2 c hc).1
      · obtain ⟨q1, q2, q3⟩ := hq
        rw [erk] at q1 q2
        have q22 : q.2 20000 22 = (cnt s.p).h.length := by rw [q3 20000 (by omega)]; exact h22
        refine ok_nm0 (ok_chk (by omega) (ok_nm0 ?_))
        rw [q1, q22]
        have el : (((cst (cnt s.p).o).length + (srt 8 s.p.n (av s.p (lg (cnt s.p).h)) (hop (cnt s.p).f)).length : Nat) : Int) = ((cst (cnt s.p).o ++ cst (srt 8 s.p.n (av s.p (lg (cnt s.p).h)) (hop (cnt s.p).f))).length : Int) := by
          rw [List.length_append, cst_len, cst_len]
        rw [el]
        refine ok_by (rnk_l58 (M0 := q.2) (h := (cnt s.p).h) hl (fun u sr hu => by rw [q3 20041 (by omega), x5 20041 (by omega)]; exact (hX.2.2.2.2.1 u sr hu).2.1) 1000 (cnt s.p).h.length _ q.2 (Nat.le_refl _) (by omega) (by rw [List.length_append, cst_len, cst_len]; omega) q2 (fun _ _ => rfl)) (fun z hz => ?_)
        obtain ⟨z1, z2, z3⟩ := hz
        rw [z1]
        have zx : ∀ x, x ≠ 20043 → z.2.2 x = N x := fun x hx => by rw [z3 x hx, q3 x hx, x5 x hx]
        have hDz : DI z.2.2 s := FrQ hDN zx
        refine ok_by (rnk_l99 (x1 := (j : Int)) (M0 := z.2.2) (f := (cnt s.p).f) h8 hDz.1.1 (fun c hc => by rw [zx 20025 (by omega)]; exact (hX.2.2.1 c hc).1) 1000 0 _ z.2.2 (by omega) (by omega) (by rw [List.length_append, List.length_append, cst_len, cst_len, Nat.sub_zero]; omega) z2 (fun _ _ => rfl)) (fun y hy => ok_chk (by omega) (ok_some ?_))
        obtain ⟨y1, y2⟩ := hy
        have eR : (cst (cnt s.p).o ++ cst (srt 8 s.p.n (av s.p (lg (cnt s.p).h)) (hop (cnt s.p).f)) ++ exR (cnt s.p).h (cnt s.p).h.length) ++ gnF (cnt s.p).f 0 (s.p.n - 0) = RK s.p (cnt s.p) := by
          unfold RK
          rw [List.append_assoc, List.append_assoc]
          rfl
        rw [eR] at y1
        obtain ⟨v, hv⟩ := getq (pl := RK s.p (cnt s.p)) (j := j) (by rw [RK_len hs.1.1]; omega)
        rw [tn, y1 j v hv, hv]
        exact PD.mk' (FrQ hDN (fun x hx => by rw [y2 x hx, zx x hx])) (fun x hx => by rw [y2 x (by omega), zx x (by omega)]; exact hlow x hx)
  · refine ⟨-1, s, hs, fun M hC => ?_, fun M hD => ?_⟩
    · have c1 := hasCand_ok (c := i) (M := M) (o := 11000) (n := s.p.n) hC.1.1.1.1
      rw [if_neg hi] at c1
      exact ok_bs c1 (ok_bi (ok_if rfl (ok_some (ok_some (PC.self hC)))))
    · have c1 := isOne_ok (a := 20000) (c := i) (M := M) (n := s.p.n) h8 hD.1.1
      rw [if_neg hi] at c1
      exact ok_bs c1 (ok_if rfl (ok_some (PD.self hD)))
end
