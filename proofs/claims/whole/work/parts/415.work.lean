section
/-! the class's count is THE COUNT -/
def SRc (M : Mem) (o n : Nat) (sr : SR) : Prop := M o 0 = sr.r ∧ M o 1 = sr.o ∧ M o 2 = mk n (fun c => decide (c ∈ sr.E)) ∧ M o 3 = sr.q ∧ M o 4 = sr.x ∧ M o 5 = sr.s ∧ M o 6 = sr.t ∧ Ag n (M (o + 8)) sr.g ∧ Ag n (M (o + 9)) sr.k
theorem SRc.same {M M' : Mem} {o n : Nat} {sr : SR} (h : SRc M o n sr) (h0 : M' o = M o) (h8 : M' (o + 8) = M (o + 8)) (h9 : M' (o + 9) = M (o + 9)) : SRc M' o n sr := by
  unfold SRc at *
  rw [h0, h8, h9]
  exact h
def CT (M : Mem) (t : Nat) (p : PL) (st : ST) : Prop := M t 5 = st.o.length ∧ M t 6 = cn p.n (hop st.f) ∧ M t 7 = st.h.length ∧ (∀ c, c < p.n → M (t + 3) c = st.f c ∧ M (t + 10) c = st.k c ∧ M (t + 4) c = st.w c) ∧ (∀ i c : Nat, st.o[i]? = some c → M (t + 5) i = (c : Int)) ∧ (∀ s sr, st.h[s]? = some sr → SRc M (t + 9 + 36 + 16 * s) p.n sr) ∧ (st.h ≠ [] → Ag p.n (M (t + 11)) (lg st.h) ∧ M t 11 = lq st.h) ∧ PAc M (t + 20) (gat p) ∧ PCc M (t + 10000) p
def CR (M : Mem) (t : Nat) (p : PL) (st : ST) (K : Vec) : Prop := M t 5 = st.o.length ∧ M t 6 = cn p.n (hop st.f) ∧ M t 7 = (st.h.length : Int) + 1 ∧ (∀ c, c < p.n → M (t + 3) c = st.f c ∧ M (t + 10) c = K c ∧ M (t + 4) c = st.w c) ∧ (∀ i c : Nat, st.o[i]? = some c → M (t + 5) i = (c : Int)) ∧ (∀ s sr, st.h[s]? = some sr → SRc M (t + 9 + 36 + 16 * s) p.n sr) ∧ (M (t + 9 + 36 + 16 * st.h.length) 1 = -5 ∧ M (t + 9 + 36 + 16 * st.h.length) 2 = 0) ∧ PAc M (t + 20) (gat p) ∧ PCc M (t + 10000) p
theorem PAc.same {M M' : Mem} {a : Nat} {pl : PIL} (h : PAc M a pl) (h0 : M' a = M a) (h2 : M' (a + 2) = M (a + 2)) (h3 : M' (a + 3) = M (a + 3)) : PAc M' a pl := by
  unfold PAc at *
  rw [h0, h2, h3]
  exact h
theorem CR.upd {M M' : Mem} {t : Nat} {p : PL} {st : ST} {K K' : Vec} (h : CR M t p st K) (hl : st.h.length ≤ 8) (hf : ∀ x, x ≠ t → x ≠ t + 10 → x ≠ t + 11 → x ≠ t + 9 + 36 + 16 * st.h.length → x ≠ t + 9 + 36 + 16 * st.h.length + 8 → x ≠ t + 9 + 36 + 16 * st.h.length + 9 → M' x = M x) (h5 : M' t 5 = M t 5) (h6 : M' t 6 = M t 6) (h7 : M' t 7 = M t 7) (hk : Ag p.n (M' (t + 10)) K') (h1 : M' (t + 9 + 36 + 16 * st.h.length) 1 = M (t + 9 + 36 + 16 * st.h.length) 1) (h2 : M' (t + 9 + 36 + 16 * st.h.length) 2 = M (t + 9 + 36 + 16 * st.h.length) 2) : CR M' t p st K' := by
  obtain ⟨a1, a2, a3, a4, a5, a6, a7, a8, a9⟩ := h
  refine ⟨h5.trans a1, h6.trans a2, h7.trans a3, fun c hc => ?_, fun i c hi => ?_, fun s sr hs => ?_, ⟨h1.trans a7.1, h2.trans a7.2⟩, ?_, ?_⟩
  · rw [hf (t + 3) (by omega) (by omega) (by omega) (by omega) (by omega) (by omega), hf (t + 4) (by omega) (by omega) (by omega) (by omega) (by omega) (by omega)]
    exact ⟨(a4 c hc).1, hk c hc, (a4 c hc).2.2⟩
  · rw [hf (t + 5) (by omega) (by omega) (by omega) (by omega) (by omega) (by omega)]
    exact a5 i c hi
  · have := getq_lt hs
    exact (a6 s sr hs).same (hf _ (by omega) (by omega) (by omega) (by omega) (by omega) (by omega)) (hf _ (by omega) (by omega) (by omega) (by omega) (by omega) (by omega)) (hf _ (by omega) (by omega) (by omega) (by omega) (by omega) (by omega))
  · exact a8.same (hf _ (by omega) (by omega) (by omega) (by omega) (by omega) (by omega)) (hf _ (by omega) (by omega) (by omega) (by omega) (by omega) (by omega)) (hf _ (by omega) (by omega) (by omega) (by omega) (by omega) (by omega))
  · exact a9.same (hf _ (by omega) (by omega) (by omega) (by omega) (by omega) (by omega)) (hf _ (by omega) (by omega) (by omega) (by omega) (by omega) (by omega)) (hf _ (by omega) (by omega) (by omega) (by omega) (by omega) (by omega)) (hf _ (by omega) (by omega) (by omega) (by omega) (by omega) (by omega)) (hf _ (by omega) (by omega) (by omega) (by omega) (by omega) (by omega))
/-- VOTES, QUOTA of the ROUND ahead: needed only where somebody is elected -/
def GQ (M : Mem) (t n : Nat) (f g : Vec) (q : Int) : Prop := (∀ c, c < n → f c ≠ 2) ∨ (Ag n (M (t + 11)) g ∧ M t 11 = q ∧ ∀ c, c < n → 0 ≤ g c ∧ g c ≤ 4611686000000)
theorem turn0_l {t n : Nat} {M : Mem} (hn : n ≤ 8) (h0 : M (t + 10000) 0 = n) (hf : ∀ c, c < n → M (t + 3) c ≠ 2) : ∀ (m i : Nat), i ≤ n → n < m + i → Ok (fX4_turnKeeps_l2 t m i M) (fun z => z.2 = M) := by
  intro m
  induction m with
  | zero => intros; omega
  | succ m ih =>
    intro i h1 h2
    unfold fX4_turnKeeps_l2
    rw [h0]
    refine ok_ite (fun hc => ok_some rfl) (fun hc => ?_)
    have := hf i (by omega)
    simp only [tn]
    (repeat (first | with_reducible refine ok_nm0 ?_ | (with_reducible refine ok_chk ?_ ?_; · omega) | (with_reducible refine ok_if ?_ ?_; · omega) | (with_reducible refine ok_el ?_ ?_; · omega) | with_reducible refine ok_some ?_ | with_reducible refine ok_bi ?_ | with_reducible refine ok_bsm ?_)); try dsimp only
    exact ih (i + 1) (by omega) (by omega)
theorem turn_any {t : Nat} {p : PL} {f K g : Vec} {q : Int} {M : Mem} (h : WF p) (hK : KB p.n K) (hq : 0 ≤ q) (hq2 : q ≤ 2305843000001) (hG : GQ M t p.n f g q) (h0 : PCc M (t + 10000) p) (hf : Ag p.n (M (t + 3)) f) (hk : Ag p.n (M (t + 10)) K) : Ok (fX4_turnKeeps t M) (fun z => Ag p.n (z.2 (t + 10)) (tk f K g q) ∧ ∀ b, b ≠ t + 10 → z.2 b = M b) := by
  rcases hG with hG | ⟨h1, h2, h3⟩
  · have := h.1
    unfold fX4_turnKeeps
    refine ok_by (turn0_l h.1 h0.1 (fun c hc => by rw [hf c hc]; exact hG c hc) 1000 0 (by omega) (by omega)) (fun z hz => ok_some ?_)
    try dsimp only
    rw [hz]
    refine ⟨fun c hc => ?_, fun _ _ => rfl⟩
    unfold tk
    rw [if_neg (fun e => hG c hc e.1)]
    exact hk c hc
  · exact turn_ok h hK hq hq2 h3 h0 hf h1 h2 hk
theorem mk_zero {n : Nat} (hn : n ≤ 8) {p : Nat → Bool} : mk n p = 0 ↔ ∀ c, c < n → p c = false := by
  constructor
  · intro h c hc
    have := mk_bt n p c
    rw [h, bt_0] at this
    simpa [hc] using this.symm
  · intro h
    exact (mk_eq hn (Int.le_refl 0) (by decide) (fun c hc => by
      rw [bt_0]
      by_cases e : c < n
      · rw [h c e]; simp
      · simp [e])).symm
theorem vsl_lx {n : Nat} {V : Nat → Vec} {tl : List Vec} : ∀ (k : Nat) (h : List SR), k ≤ h.length → (∀ s sr, s < k → h[s]? = some sr → Ag n (V s) sr.g) → ∀ c d, c < n → d < n → lx (vsl V k ++ tl) c d = lx ((h.take k).reverse.map SR.g ++ tl) c d
  | 0, _, _, _, _, _, _, _ => rfl
  | k + 1, h, hk, hV, c, d, hc, hd => by
    obtain ⟨sr, hs⟩ := getq (pl := h) (j := k) (by omega)
    obtain ⟨hi, e⟩ := List.getElem?_eq_some_iff.mp hs
    have ih := vsl_lx (tl := tl) k h (by omega) (fun s sr hs => hV s sr (by omega)) c d hc hd
    rw [List.take_succ_eq_append_getElem hi, e, List.reverse_append]
    show lx (V k :: (vsl V k ++ tl)) c d = lx (sr.g :: ((h.take k).reverse.map SR.g ++ tl)) c d
    unfold lx
    rw [ih, hV k sr (by omega) hs c hc, hV k sr (by omega) hs d hd]
theorem nxt_cn {p : PL} {f : Vec} {ord : List Nat} {sr : SR} (h : SRst p f ord sr) : cn p.n (hop (nf sr f)) = cn p.n (hop f) - sr.E.length - (if sr.o = -5 then 0 else 1) := by
  obtain ⟨t1, t2, t3, t4⟩ := h
  rcases t4 with ⟨t4, t5⟩ | ⟨t4, d, hd0, hd1, hd2⟩
  · have e : cn p.n (hop (nf sr f)) = cn p.n (fun c => decide ((if c ∈ sr.E then 2 else f c) = 1)) := cn_congr (fun c hc => by
      unfold hop nf
      have : ¬ sr.o = (c : Int) := by omega
      simp [this])
    rw [e, cn_E' _ _ _ _ (by decide) t1 t2, if_pos t4]
    show (cn p.n (hop f) - _) = _
    omega
  · have e : cn p.n (hop (nf sr f)) = cn p.n (fun c => decide ((if (d : Int) = (c : Int) then 3 else f c) = 1)) := cn_congr (fun c hc => by
      unfold hop nf
      rw [t4, hd2]
      simp)
    rw [e, cn_o' hd0 (by decide) hd1, if_neg (by omega), t4]
    show (cn p.n (hop f) - 1) = cn p.n (hop f) - ((0 : Nat) : Int) - 1
    omega
/-- the state behind a STAGE that elects -/
theorem elect_CT {M M' : Mem} {t : Nat} {p : PL} {st : ST} {K : Vec} {sr : SR} (h : WF p) (hl : st.h.length ≤ 7) (hC : CR M t p st K) (hE : EL M t (t + 9 + 36 + 16 * st.h.length) p.n st.o (cn p.n (hop st.f)) ((st.h.length : Int) + 1) st.f st.w sr.E M') (hS : SRst p st.f st.o sr) (ho : sr.o = -5) (hc : SRc M (t + 9 + 36 + 16 * st.h.length) p.n (sr.r, -5, [], sr.q, sr.x, sr.s, sr.t, sr.g, sr.k)) (hK : K = sr.k) (hg : Ag p.n (M (t + 11)) sr.g) (hq : M t 11 = sr.q) : CT M' t p (nxt st sr) := by
  obtain ⟨a1, a2, a3, a4, a5, a6, a7, a8, a9⟩ := hC
  obtain ⟨e1, e2, e3, e4, e5, e6, e7, e8, e9, e10⟩ := hE
  obtain ⟨c1, c2, c3, c4, c5, c6, c7, c8, c9⟩ := hc
  have hx : ∀ b, b ≠ t → b ≠ t + 3 → b ≠ t + 4 → b ≠ t + 5 → b ≠ t + 9 + 36 + 16 * st.h.length → M' b = M b := e10
  refine ⟨e2, ?_, ?_, fun c hc => ⟨?_, ?_, ?_⟩, e4, fun s s2 hs => ?_, fun _ => ?_, ?_, ?_⟩
  · show M' t 6 = cn p.n (hop (nf sr st.f))
    rw [nxt_cn hS, if_pos ho, e3]
    omega
  · show M' t 7 = ((st.h ++ [sr]).length : Nat)
    rw [e7, List.length_append]
    simp
  · show M' (t + 3) c = nf sr st.f c
    have : ¬ sr.o = (c : Int) := by omega
    rw [e5 c hc]
    unfold nf
    rw [if_neg this]
  · show M' (t + 10) c = nk sr c
    have : ¬ sr.o = (c : Int) := by omega
    rw [hx _ (by omega) (by omega) (by omega) (by omega) (by omega), (a4 c hc).2.1, hK]
    unfold nk
    rw [if_neg this]
  · show M' (t + 4) c = nw sr st.h.length st.w c
    have : ¬ sr.o = (c : Int) := by omega
    rw [e6 c hc]
    unfold nw
    simp only [this, or_false]
    split <;> omega
  · have hs' : (st.h ++ [sr])[s]? = some s2 := hs
    by_cases b1 : s < st.h.length
    · rw [List.getElem?_append_left b1] at hs'
      exact (a6 s s2 hs').same (hx _ (by omega) (by omega) (by omega) (by omega) (by omega)) (hx _ (by omega) (by omega) (by omega) (by omega) (by omega)) (hx _ (by omega) (by omega) (by omega) (by omega) (by omega))
    · rw [List.getElem?_append_right (by omega)] at hs'
      have hlt := getq_lt hs'
      simp only [List.length_cons, List.length_nil] at hlt
      have es : s = st.h.length := by omega
      subst es
      rw [Nat.sub_self] at hs'
      cases hs'
      refine ⟨by rw [e9 0 (by decide)]; exact c1, by rw [e9 1 (by decide), ho]; exact c2, e1, by rw [e9 3 (by decide)]; exact c4, by rw [e9 4 (by decide)]; exact c5, by rw [e9 5 (by decide)]; exact c6, by rw [e9 6 (by decide)]; exact c7, ?_, ?_⟩
      · rw [hx _ (by omega) (by omega) (by omega) (by omega) (by omega)]; exact c8
      · rw [hx _ (by omega) (by omega) (by omega) (by omega) (by omega)]; exact c9
  · show Ag p.n (M' (t + 11)) (lg (st.h ++ [sr])) ∧ M' t 11 = lq (st.h ++ [sr])
    rw [lg_app, lq_app, hx (t + 11) (by omega) (by omega) (by omega) (by omega) (by omega), e8 11 (by decide) (by decide)]
    exact ⟨hg, hq⟩
  · exact a8.same (hx _ (by omega) (by omega) (by omega) (by omega) (by omega)) (hx _ (by omega) (by omega) (by omega) (by omega) (by omega)) (hx _ (by omega) (by omega) (by omega) (by omega) (by omega))
  · exact a9.same (hx _ (by omega) (by omega) (by omega) (by omega) (by omega)) (hx _ (by omega) (by omega) (by omega) (by omega) (by omega)) (hx _ (by omega) (by omega) (by omega) (by omega) (by omega)) (hx _ (by omega) (by omega) (by omega) (by omega) (by omega)) (hx _ (by omega) (by omega) (by omega) (by omega) (by omega))
/-- what stands behind NOTE -/
theorem note_CR {M M' : Mem} {t : Nat} {p : PL} {st : ST} {K : Vec} {r s : Int} {g : Vec} (h8 : p.n ≤ 8) (hl : st.h.length ≤ 8) (hC : CR M t p st K) (hg : Ag p.n (M (t + 11)) g) (hn : M' (t + 9 + 36 + 16 * st.h.length) 0 = r ∧ M' (t + 9 + 36 + 16 * st.h.length) 3 = M t 11 ∧ M' (t + 9 + 36 + 16 * st.h.length) 4 = M t 12 ∧ M' (t + 9 + 36 + 16 * st.h.length) 5 = s ∧ M' (t + 9 + 36 + 16 * st.h.length) 6 = M t 13 ∧ (∀ c, c < 8 → M' (t + 9 + 36 + 16 * st.h.length + 8) c = M (t + 11) c ∧ M' (t + 9 + 36 + 16 * st.h.length + 9) c = M (t + 10) c) ∧ M' (t + 9 + 36 + 16 * st.h.length) 1 = M (t + 9 + 36 + 16 * st.h.length) 1 ∧ M' (t + 9 + 36 + 16 * st.h.length) 2 = M (t + 9 + 36 + 16 * st.h.length) 2 ∧ ∀ b, b ≠ t + 9 + 36 + 16 * st.h.length → b ≠ t + 9 + 36 + 16 * st.h.length + 8 → b ≠ t + 9 + 36 + 16 * st.h.length + 9 → M' b = M b) : CR M' t p st K ∧ SRc M' (t + 9 + 36 + 16 * st.h.length) p.n (r, -5, [], M t 11, M t 12, s, M t 13, g, K) := by
  obtain ⟨n0, n3, n4, n5, n6, n8, n1, n2, nx⟩ := hn
  refine ⟨hC.upd hl (fun x x1 x2 x3 x4 x5 x6 => nx x x4 x5 x6) (by rw [nx t (by omega) (by omega) (by omega)]) (by rw [nx t (by omega) (by omega) (by omega)]) (by rw [nx t (by omega) (by omega) (by omega)]) (fun c hc => by rw [nx (t + 10) (by omega) (by omega) (by omega)]; exact (hC.2.2.2.1 c hc).2.1) n1 n2, n0, by rw [n1]; exact hC.2.2.2.2.2.2.1.1, ?_, n3, n4, n5, n6, fun c hc => ?_, fun c hc => ?_⟩
  · rw [n2, hC.2.2.2.2.2.2.1.2]
    exact ((mk_zero h8).mpr (fun c _ => by simp [SR.E])).symm
  · rw [(n8 c (by omega)).1]; exact hg c hc
  · rw [(n8 c (by omega)).2]; exact (hC.2.2.2.1 c hc).2.1
end
