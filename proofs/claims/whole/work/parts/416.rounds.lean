section
theorem CR.EL0 {M : Mem} {t : Nat} {p : PL} {st : ST} {K : Vec} (h8 : p.n ≤ 8) (h : CR M t p st K) : EL M t (t + 9 + 36 + 16 * st.h.length) p.n st.o (cn p.n (hop st.f)) ((st.h.length : Int) + 1) st.f st.w [] M := by
  obtain ⟨a1, a2, a3, a4, a5, a6, a7, a8, a9⟩ := h
  refine ⟨?_, by rw [List.append_nil]; exact a1, by rw [a2]; simp, fun i c hi => a5 i c (by rw [List.append_nil] at hi; exact hi), fun c hc => ?_, fun c hc => ?_, a3, fun _ _ _ => rfl, fun _ _ => rfl, fun _ _ _ _ _ _ => rfl⟩
  · rw [a7.2]
    exact ((mk_zero h8).mpr (fun c _ => by simp)).symm
  · rw [(a4 c hc).1]; simp
  · rw [(a4 c hc).2.2]; simp
theorem CR.EL1 {M M' : Mem} {t : Nat} {p : PL} {st : ST} {K : Vec} (h8 : p.n ≤ 8) (hl : st.h.length ≤ 8) (h : CR M t p st K) (hE : EL M t (t + 9 + 36 + 16 * st.h.length) p.n st.o (cn p.n (hop st.f)) ((st.h.length : Int) + 1) st.f st.w [] M') : CR M' t p st K := by
  obtain ⟨a1, a2, a3, a4, a5, a6, a7, a8, a9⟩ := h
  obtain ⟨e1, e2, e3, e4, e5, e6, e7, e8, e9, e10⟩ := hE
  rw [List.append_nil] at e2 e4
  have hx : ∀ b, b ≠ t → b ≠ t + 3 → b ≠ t + 4 → b ≠ t + 5 → b ≠ t + 9 + 36 + 16 * st.h.length → M' b = M b := e10
  refine ⟨e2, by rw [e3]; simp, e7, fun c hc => ⟨by rw [e5 c hc]; simp, by rw [hx _ (by omega) (by omega) (by omega) (by omega) (by omega)]; exact (a4 c hc).2.1, by rw [e6 c hc]; simp⟩, e4, fun s sr hs => ?_, ⟨by rw [e9 1 (by decide)]; exact a7.1, ?_⟩, ?_, ?_⟩
  · have := getq_lt hs
    exact (a6 s sr hs).same (hx _ (by omega) (by omega) (by omega) (by omega) (by omega)) (hx _ (by omega) (by omega) (by omega) (by omega) (by omega)) (hx _ (by omega) (by omega) (by omega) (by omega) (by omega))
  · rw [e1]
    exact (mk_zero h8).mpr (fun c _ => by simp)
  · exact a8.same (hx _ (by omega) (by omega) (by omega) (by omega) (by omega)) (hx _ (by omega) (by omega) (by omega) (by omega) (by omega)) (hx _ (by omega) (by omega) (by omega) (by omega) (by omega))
  · exact a9.same (hx _ (by omega) (by omega) (by omega) (by omega) (by omega)) (hx _ (by omega) (by omega) (by omega) (by omega) (by omega)) (hx _ (by omega) (by omega) (by omega) (by omega) (by omega)) (hx _ (by omega) (by omega) (by omega) (by omega) (by omega)) (hx _ (by omega) (by omega) (by omega) (by omega) (by omega))
/-- excluding: the state behind it -/
theorem excl_CT {M : Mem} {t : Nat} {p : PL} {st : ST} {K : Vec} {sr : SR} {c : Nat} (h : WF p) (hs : SI p st) (hl : st.h.length ≤ 7) (hcn : 0 < cn p.n (hop st.f)) (hC : CR M t p st K) (hw : wst p st.f st.h sr.g = some c) (hS : SRst p st.f st.o sr) (hE : sr.E = []) (ho : sr.o = (c : Int)) (hc : SRc M (t + 9 + 36 + 16 * st.h.length) p.n (sr.r, -5, [], sr.q, sr.x, sr.s, sr.t, sr.g, sr.k)) (hsr : SRok p sr) (hK : K = sr.k) (hg : Ag p.n (M (t + 11)) sr.g) (hq : M t 11 = sr.q) : Ok (fX4_exclude t (t + 9 + 36 + 16 * st.h.length) M) (fun z => CT z.2 t p (nxt st sr) ∧ ∀ x, (x < t ∨ t + 1000 ≤ x) → z.2 x = M x) := by
  obtain ⟨a1, a2, a3, a4, a5, a6, a7, a8, a9⟩ := hC
  have hcm := hc
  obtain ⟨c1, c2, c3, c4, c5, c6, c7, c8, c9⟩ := hc
  have h8 := h.1
  have hcl := cn_le p.n (hop st.f)
  have hV : ∀ s s2, s < st.h.length + 1 → (st.h ++ [sr])[s]? = some s2 → Ag p.n (M (t + 9 + 36 + 16 * s + 8)) s2.g ∧ SRok p s2 := by
    intro s s2 h1 h2
    by_cases b1 : s < st.h.length
    · rw [List.getElem?_append_left b1] at h2
      exact ⟨(a6 s s2 h2).2.2.2.2.2.2.2.1, hs.2.2.2.2.2.2.1 s2 (List.mem_of_getElem? h2)⟩
    · have es : s = st.h.length := by omega
      subst es
      rw [List.getElem?_append_right (by omega), Nat.sub_self] at h2
      cases h2
      exact ⟨c8, hsr⟩
  have hlen : (st.h ++ [sr]).length = st.h.length + 1 := by simp
  have hsc : scan p.n (vsl (fun s => M (t + 9 + 36 + 16 * s + 8)) (st.h.length + 1) ++ [npos p]) (fun c => decide (st.f c = 1)) = some c := by
    rw [← hw]
    refine (scan_vcongr (fun x y hx hy => ?_))
    rw [vsl_lx (st.h.length + 1) (st.h ++ [sr]) (by omega) (fun s s2 h1 h2 => (hV s s2 h1 h2).1) x y hx hy, List.take_of_length_le (by omega), List.reverse_append]
    rfl
  have hd := scan_some (wst_tot h st.h sr.g) hw
  refine (exclude_ok (H := cn p.n (hop st.f)) (F := st.f) (s := st.h.length + 1) h ⟨by omega, by omega⟩ a9 (by omega) (fun s' d h1 h2 => ?_) (by rw [a3]; omega) a2 ⟨by omega, by omega⟩ (fun d hd => (a4 d hd).1) hsc).mono (fun z hz => ?_)
  · obtain ⟨s2, hs2⟩ := getq (pl := st.h ++ [sr]) (j := s') (by omega)
    have := hV s' s2 h1 hs2
    rw [this.1 d h2]
    have := this.2.1 d h2
    omega
  · obtain ⟨x1, x2, x3, x4, x5, x6, x7, x8⟩ := hz
    refine ⟨⟨?_, ?_, ?_, fun d hd => ⟨?_, ?_, ?_⟩, fun i d hi => ?_, fun s s2 hs2 => ?_, fun _ => ?_, ?_, ?_⟩, fun x hx => x8 x (by omega) (by omega) (by omega) (by omega) (by omega)⟩
    · show z.2 t 5 = ((st.o ++ sr.E).length : Nat)
      rw [x4 5 (by decide), hE, List.append_nil]; exact a1
    · show z.2 t 6 = cn p.n (hop (nf sr st.f))
      rw [x3, nxt_cn hS, hE, if_neg (by omega)]
      show _ = cn p.n (hop st.f) - ((0 : Nat) : Int) - 1
      omega
    · show z.2 t 7 = ((st.h ++ [sr]).length : Nat)
      rw [x4 7 (by decide), a3, hlen]; omega
    · show z.2 (t + 3) d = nf sr st.f d
      rw [x5]
      unfold nf
      rw [hE, if_neg (by simp), ho]
      by_cases e : d = c
      · subst e; rw [up_same, if_pos rfl]
      · rw [up_ne e, if_neg (by omega)]; exact (a4 d hd).1
    · show z.2 (t + 10) d = nk sr d
      rw [x7]
      unfold nk
      rw [ho]
      by_cases e : d = c
      · subst e; rw [up_same, if_pos rfl]
      · rw [up_ne e, if_neg (by omega), ← hK]; exact (a4 d hd).2.1
    · show z.2 (t + 4) d = nw sr st.h.length st.w d
      rw [x6]
      unfold nw
      rw [hE, ho]
      by_cases e : d = c
      · subst e; rw [up_same, if_pos (Or.inr rfl)]; omega
      · rw [up_ne e, if_neg (by rintro (h1 | h1); cases h1; omega)]; exact (a4 d hd).2.2
    · have hi' : (st.o ++ sr.E)[i]? = some d := hi
      rw [hE, List.append_nil] at hi'
      rw [x8 _ (by omega) (by omega) (by omega) (by omega) (by omega)]
      exact a5 i d hi'
    · have hs' : (st.h ++ [sr])[s]? = some s2 := hs2
      by_cases b1 : s < st.h.length
      · rw [List.getElem?_append_left b1] at hs'
        exact (a6 s s2 hs').same (x8 _ (by omega) (by omega) (by omega) (by omega) (by omega)) (x8 _ (by omega) (by omega) (by omega) (by omega) (by omega)) (x8 _ (by omega) (by omega) (by omega) (by omega) (by omega))
      · have hlt := getq_lt hs'
        have es : s = st.h.length := by omega
        subst es
        rw [List.getElem?_append_right (by omega), Nat.sub_self] at hs'
        cases hs'
        refine ⟨by rw [x2 0 (by decide)]; exact c1, by rw [x1, ho], ?_, by rw [x2 3 (by decide)]; exact c4, by rw [x2 4 (by decide)]; exact c5, by rw [x2 5 (by decide)]; exact c6, by rw [x2 6 (by decide)]; exact c7, ?_, ?_⟩
        · rw [x2 2 (by decide), hE]; exact c3
        · rw [x8 _ (by omega) (by omega) (by omega) (by omega) (by omega)]; exact c8
        · rw [x8 _ (by omega) (by omega) (by omega) (by omega) (by omega)]; exact c9
    · show Ag p.n (z.2 (t + 11)) (lg (st.h ++ [sr])) ∧ z.2 t 11 = lq (st.h ++ [sr])
      rw [lg_app, lq_app, x8 (t + 11) (by omega) (by omega) (by omega) (by omega) (by omega), x4 11 (by decide)]
      exact ⟨hg, hq⟩
    · exact a8.same (x8 _ (by omega) (by omega) (by omega) (by omega) (by omega)) (x8 _ (by omega) (by omega) (by omega) (by omega) (by omega)) (x8 _ (by omega) (by omega) (by omega) (by omega) (by omega))
    · exact a9.same (x8 _ (by omega) (by omega) (by omega) (by omega) (by omega)) (x8 _ (by omega) (by omega) (by omega) (by omega) (by omega)) (x8 _ (by omega) (by omega) (by omega) (by omega) (by omega)) (x8 _ (by omega) (by omega) (by omega) (by omega) (by omega)) (x8 _ (by omega) (by omega) (by omega) (by omega) (by omega))
theorem SI.len {p : PL} {st : ST} (h : WF p) (hs : SI p st) (hcn : 0 < cn p.n (hop st.f)) : st.h.length ≤ 7 ∧ 0 ≤ cn p.n (hop st.f) ∧ cn p.n (hop st.f) ≤ 8 := by
  have h1 := hs.2.2.2.2.2.1
  have h2 := h.1
  have h3 := cn_le p.n (hop st.f)
  omega
theorem rounds_l {t : Nat} {p : PL} {st : ST} {b : Bool} (h : WF p) (hs : SI p st) (hcn : 0 < cn p.n (hop st.f)) : ∀ (m : Nat) (r : Int) (K g : Vec) (q : Int) (M : Mem), 1 ≤ r → r ≤ p.ro → p.ro - r < m → CR M t p st K → KB p.n K → 0 ≤ q → q ≤ 2305843000001 → GQ M t p.n st.f g q → Ok (fX4_goByRounds_l2 t (t + 9 + 36 + 16 * st.h.length) (if b then 1 else 0) m r M) (fun z => ∃ a, z = .inl a ∧ CT a.2 t p (nxt st (rnds p st.f st.o st.h b m r K g q)) ∧ ∀ x, (x < t ∨ t + 1000 ≤ x) → a.2 x = M x) := by
  intro m
  have h8 := h.1
  have hro := h.2.2.2.2.2.2.2.2
  obtain ⟨hl, hc0, hc8⟩ := hs.len h hcn
  have hsl := hs.2.2.2.2.1
  induction m with
  | zero => intro r K g q M h1 h2 h3; omega
  | succ m ih =>
    intro r K g q M h1 h2 h3 hC hK hq hq2 hG
    have hpc := hC.2.2.2.2.2.2.2.2
    have hfin := rnds_ok h (f := st.f) (ord := st.o) (hs := st.h) (b := b) hsl hcn (m + 1) r K g q h2 h3 hK hq
    unfold fX4_goByRounds_l2
    simp only [hpc.2.2.2.2.2.2]
    refine ok_el (by omega) ?_
    have hK' : KB p.n (kk st.f b r K g q) := kk_KB hK hq
    have key : Ok ((if 1 < r then Option.bind (fX4_turnKeeps t M) (fun q8 => some (q8.2)) else (if (if b then (1 : Int) else 0) = 0 then Option.bind (fX4_turnKeeps t M) (fun q10 => some (q10.2)) else some (M))) : Option (Mem)) (fun M1 => Ag p.n (M1 (t + 10)) (kk st.f b r K g q) ∧ ∀ x, x ≠ t + 10 → M1 x = M x) := by
      have ht := turn_any h hK hq hq2 hG hpc (fun c hc => (hC.2.2.2.1 c hc).1) (fun c hc => (hC.2.2.2.1 c hc).2.1)
      unfold kk
      refine ok_ite (fun hr => ?_) (fun hr => ?_)
      · rw [if_pos (Or.inl hr)]
        exact ok_by ht (fun z hz => ok_some hz)
      · cases b
        · rw [if_pos (Or.inr rfl)]
          exact ok_if rfl (ok_by ht (fun z hz => ok_some hz))
        · have hk : ¬ (1 < r ∨ true = false) := by simp; omega
          exact ok_el (show ¬ ((if true = true then (1 : Int) else 0) = 0) by decide) (ok_some ⟨fun c hc => by rw [if_neg hk]; exact (hC.2.2.2.1 c hc).2.1, fun _ _ => rfl⟩)
    refine ok_by key (fun M1 hM1 => ?_)
    obtain ⟨k1, k2⟩ := hM1
    have hC1 : CR M1 t p st (kk st.f b r K g q) := hC.upd (by omega) (fun x _ x2 _ _ _ _ => k2 x x2) (by rw [k2 t (by omega)]) (by rw [k2 t (by omega)]) (by rw [k2 t (by omega)]) k1 (by rw [k2 _ (by omega)]) (by rw [k2 _ (by omega)])
    unfold rnds at hfin ⊢
    generalize kk st.f b r K g q = K' at *
    have hv := VT_bd h hK'
    have hqb := quo_bd h hv.2.2.2.1 hv.2.2.2.2
    refine ok_by (workOut_ok h hK' hC1.2.2.2.2.2.2.2.1 (fun c hc => (hC1.2.2.2.1 c hc).2.1) hC1.2.2.2.2.2.2.2.2) (fun q11 hw => ?_)
    obtain ⟨w1, w2, w3, w4, w5, w6⟩ := hw
    have hC2 : CR q11.2 t p st K' := hC1.upd (by omega) (fun x x1 _ x3 _ _ _ => w6 x x1 x3) (w5 5 (by decide) (by decide) (by decide)) (w5 6 (by decide) (by decide) (by decide)) (w5 7 (by decide) (by decide) (by decide)) (by rw [w6 _ (by omega) (by omega)]; exact k1) (by rw [w6 _ (by omega) (by omega)]) (by rw [w6 _ (by omega) (by omega)])
    refine ok_bs (surplus_ok h (by omega) hqb.2 hv.2.2.1 hC2.2.2.2.2.2.2.2.2 (fun c hc => (hC2.2.2.2.1 c hc).1) w1 w4) ?_
    (first | with_reducible refine ok_nm0 ?_ | (with_reducible refine ok_chk ?_ ?_; · omega) | (with_reducible refine ok_if ?_ ?_; · omega) | (with_reducible refine ok_el ?_ ?_; · omega) | with_reducible refine ok_some ?_ | with_reducible refine ok_bi ?_ | with_reducible refine ok_bsm ?_)
    refine ok_by (note_ok (by omega)) (fun q14 hn => ?_)
    have hNC := note_CR h8 (by omega) hC2 w1 hn
    rw [w4, w2, w3] at hNC
    have hg14 : Ag p.n (q14.2 (t + 11)) (VT p K').2 := by rw [hn.2.2.2.2.2.2.2.2 (t + 11) (by omega) (by omega) (by omega)]; exact w1
    have hq14 : q14.2 t 11 = quo p (VT p K').2 := by rw [hn.2.2.2.2.2.2.2.2 t (by omega) (by omega) (by omega)]; exact w4
    obtain ⟨hC3, hSR⟩ := hNC
    have f14 : ∀ x, (x < t ∨ t + 1000 ≤ x) → q14.2 x = M x := fun x hx => by
      rw [hn.2.2.2.2.2.2.2.2 x (by omega) (by omega) (by omega), w6 x (by omega) (by omega), k2 x (by omega)]
    refine ok_bs (reach_ok h hC3.2.2.2.2.2.2.2.2 (fun c hc => (hC3.2.2.2.1 c hc).1) hg14 hq14) ?_
    have hmb := mk_bd h8 (reach st.f (VT p K').2 (quo p (VT p K').2))
    refine ok_by (elect_ok h ⟨by omega, by omega⟩ hC3.2.2.2.2.2.2.2.2 hmb.1 hmb.2 ⟨hc0, hc8⟩ ⟨by omega, by omega⟩ (hC3.EL0 h8) hsl) (fun q16 hE => ?_)
    have eE : srt (p.se - st.o.length).toNat p.n (av p (q14.2 (t + 9 + 36 + 16 * st.h.length + 8))) (bt (mk p.n (reach st.f (VT p K').2 (quo p (VT p K').2)))) = EE p st.f st.o (VT p K').2 := by
      unfold EE
      rw [srt_vcongr (av_congr hSR.2.2.2.2.2.2.2.1)]
      exact srt_congr (av_tot h _) (fun c hc => by rw [mk_bt]; simp [hc])
    rw [eE] at hE
    have f16 : ∀ x, (x < t ∨ t + 1000 ≤ x) → q16.2 x = M x := fun x hx => by
      rw [hE.2.2.2.2.2.2.2.2.2 x (by omega) (by omega) (by omega) (by omega) (by omega), f14 x hx]
    have hE1 := hE.1
    have hEo := EE_ok h (f := st.f) (ord := st.o) (g := (VT p K').2) hsl
    by_cases hne : EE p st.f st.o (VT p K').2 = []
    · have z0 : q16.2 (t + 9 + 36 + 16 * st.h.length) 2 = 0 := by rw [hE1, hne]; exact (mk_zero h8).mpr (fun c _ => by simp)
      rw [if_neg (show ¬ (EE p st.f st.o (VT p K').2 ≠ []) from fun e => e hne)] at hfin ⊢
      refine ok_if z0 ?_
      rw [hne] at hE
      have hC4 := hC3.EL1 h8 (by omega) hE
      have hg16 : Ag p.n (q16.2 (t + 11)) (VT p K').2 := by rw [hE.2.2.2.2.2.2.2.2.2 (t + 11) (by omega) (by omega) (by omega) (by omega) (by omega)]; exact hg14
      have hq16 : q16.2 t 11 = quo p (VT p K').2 := by rw [hE.2.2.2.2.2.2.2.1 11 (by decide) (by decide)]; exact hq14
      have hSR16 : SRc q16.2 (t + 9 + 36 + 16 * st.h.length) p.n (r, -5, [], quo p (VT p K').2, (VT p K').1, sur p.n st.f (VT p K').2 (quo p (VT p K').2), sm p.n (VT p K').2, (VT p K').2, K') := by
        obtain ⟨s1, s2, s3, s4, s5, s6, s7, s8, s9⟩ := hSR
        have e9 := hE.2.2.2.2.2.2.2.2.1
        have e10 := hE.2.2.2.2.2.2.2.2.2
        refine ⟨by rw [e9 0 (by decide)]; exact s1, by rw [e9 1 (by decide)]; exact s2, hE.1, by rw [e9 3 (by decide)]; exact s4, by rw [e9 4 (by decide)]; exact s5, by rw [e9 5 (by decide)]; exact s6, by rw [e9 6 (by decide)]; exact s7, ?_, ?_⟩
        · rw [e10 _ (by omega) (by omega) (by omega) (by omega) (by omega)]; exact s8
        · rw [e10 _ (by omega) (by omega) (by omega) (by omega) (by omega)]; exact s9
      have hpc4 := hC4.2.2.2.2.2.2.2.2
      simp only [hpc4.2.2.2.2.2.1, hpc4.2.2.2.2.2.2]
      by_cases hout : sur p.n st.f (VT p K').2 (quo p (VT p K').2) ≤ p.li ∨ r = p.ro
      · rw [if_pos hout] at hfin ⊢
        obtain ⟨c, hw, _, _⟩ := wst_ex h (f := st.f) (hs := st.h) (g := (VT p K').2) hcn
        have hX := excl_CT h hs hl hcn hC4 (sr := (r, opt (wst p st.f st.h (VT p K').2), [], quo p (VT p K').2, (VT p K').1, sur p.n st.f (VT p K').2 (quo p (VT p K').2), sm p.n (VT p K').2, (VT p K').2, K')) hw hfin.2 rfl (opt_some hw) hSR16 hfin.1 rfl hg16 hq16
        have hX2 : Ok (Option.bind (fX4_exclude t (t + 9 + 36 + 16 * st.h.length) q16.2) (fun q19 => some (Sum.inl ((0 : Int), q19.2) : (Int × Mem) ⊕ (Int × Mem)))) (fun z => ∃ a, z = .inl a ∧ CT a.2 t p (nxt st (r, opt (wst p st.f st.h (VT p K').2), [], quo p (VT p K').2, (VT p K').1, sur p.n st.f (VT p K').2 (quo p (VT p K').2), sm p.n (VT p K').2, (VT p K').2, K')) ∧ ∀ x, (x < t ∨ t + 1000 ≤ x) → a.2 x = M x) :=
          ok_by hX (fun z hz => ok_some ⟨_, rfl, hz.1, fun x hx => by rw [hz.2 x hx, f16 x hx]⟩)
        refine ok_ite (fun _ => hX2) (fun hno => ?_)
        exact ok_if (hout.resolve_left hno) hX2
      · rw [if_neg hout] at hfin ⊢
        refine ok_el (fun e => hout (Or.inl e)) (ok_el (fun e => hout (Or.inr e)) ?_)
        (repeat (first | with_reducible refine ok_nm0 ?_ | (with_reducible refine ok_chk ?_ ?_; · omega) | (with_reducible refine ok_if ?_ ?_; · omega) | (with_reducible refine ok_el ?_ ?_; · omega) | with_reducible refine ok_some ?_ | with_reducible refine ok_bi ?_ | with_reducible refine ok_bsm ?_)); try dsimp only
        refine (ih (r + 1) K' _ _ q16.2 (by omega) (by omega) (by omega) hC4 hK' (by omega) hqb.2 (Or.inr ⟨hg16, hq16, hv.2.2.1⟩)).mono (fun z hz => ?_)
        obtain ⟨a, e, ha, hb⟩ := hz
        exact ⟨a, e, ha, fun x hx => by rw [hb x hx, f16 x hx]⟩
    · have z0 : ¬ q16.2 (t + 9 + 36 + 16 * st.h.length) 2 = 0 := by
        rw [hE1]
        intro e
        obtain ⟨c, tl, ec⟩ := List.exists_cons_of_ne_nil hne
        have hm : c ∈ EE p st.f st.o (VT p K').2 := by rw [ec]; exact List.mem_cons_self
        have := (mk_zero h8).mp e c (hEo.2.1 c hm).1
        simp [hm] at this
      rw [if_pos hne] at hfin ⊢
      refine ok_el z0 (ok_some ⟨_, rfl, ?_, f16⟩)
      exact elect_CT h hl hC3 hE hfin.2 rfl hSR rfl hg14 hq14
end
