section
/-! THE COUNT -/
abbrev ST : Type := Vec × Vec × Vec × List Nat × List SR
abbrev ST.f (s : ST) : Vec := s.1
abbrev ST.k (s : ST) : Vec := s.2.1
abbrev ST.w (s : ST) : Vec := s.2.2.1
abbrev ST.o (s : ST) : List Nat := s.2.2.2.1
abbrev ST.h (s : ST) : List SR := s.2.2.2.2
def hop (f : Vec) : Nat → Bool := fun c => decide (f c = 1)
def beh (h : List SR) : Bool := match h.getLast? with
  | none => false
  | some s => decide (s.o ≠ -5)
def lg (h : List SR) : Vec := match h.getLast? with
  | none => fun _ => 0
  | some s => s.g
def lq (h : List SR) : Int := match h.getLast? with
  | none => 0
  | some s => s.q
/-- who is EXCLUDED by these VOTES now -/
def wst (p : PL) (f : Vec) (h : List SR) (g : Vec) : Option Nat := scan p.n ((g :: h.reverse.map SR.g) ++ [npos p]) (hop f)
def kk (f : Vec) (b : Bool) (r : Int) (K g : Vec) (q : Int) : Vec := if 1 < r ∨ b = false then tk f K g q else K
def EE (p : PL) (f : Vec) (ord : List Nat) (g : Vec) : List Nat := srt (p.se - ord.length).toNat p.n (av p g) (reach f g (quo p g))
/-- more than any loop takes -/
def fu : Nat := 1000
theorem fu_e : fu = 1000 := rfl
def rnds (p : PL) (f : Vec) (ord : List Nat) (h : List SR) (b : Bool) : Nat → Int → Vec → Vec → Int → SR
  | 0, r, K, g, q => (r, -5, [], q, 0, 0, 0, g, K)
  | m + 1, r, K, g, q =>
    if EE p f ord (VT p (kk f b r K g q)).2 ≠ [] then
      (r, -5, EE p f ord (VT p (kk f b r K g q)).2, quo p (VT p (kk f b r K g q)).2, (VT p (kk f b r K g q)).1, sur p.n f (VT p (kk f b r K g q)).2 (quo p (VT p (kk f b r K g q)).2), sm p.n (VT p (kk f b r K g q)).2, (VT p (kk f b r K g q)).2, kk f b r K g q)
    else if sur p.n f (VT p (kk f b r K g q)).2 (quo p (VT p (kk f b r K g q)).2) ≤ p.li ∨ r = p.ro then
      (r, opt (wst p f h (VT p (kk f b r K g q)).2), [], quo p (VT p (kk f b r K g q)).2, (VT p (kk f b r K g q)).1, sur p.n f (VT p (kk f b r K g q)).2 (quo p (VT p (kk f b r K g q)).2), sm p.n (VT p (kk f b r K g q)).2, (VT p (kk f b r K g q)).2, kk f b r K g q)
    else rnds p f ord h b m (r + 1) (kk f b r K g q) (VT p (kk f b r K g q)).2 (quo p (VT p (kk f b r K g q)).2)
def filS (p : PL) (st : ST) : SR := (0, -5, srt 8 p.n (av p (VT p st.k).2) (hop st.f), quo p (VT p st.k).2, (VT p st.k).1, 0, sm p.n (VT p st.k).2, (VT p st.k).2, st.k)
def stg (p : PL) (st : ST) : SR := if cn p.n (hop st.f) + st.o.length ≤ p.se then filS p st else rnds p st.f st.o st.h (beh st.h) fu 1 st.k (lg st.h) (lq st.h)
def nf (sr : SR) (f : Vec) : Vec := fun c => if c ∈ sr.E then 2 else if sr.o = (c : Int) then 3 else f c
def nk (sr : SR) : Vec := fun c => if sr.o = (c : Int) then 0 else sr.k c
def nw (sr : SR) (s : Int) (w : Vec) : Vec := fun c => if c ∈ sr.E ∨ sr.o = (c : Int) then s else w c
def nxt (st : ST) (sr : SR) : ST := (nf sr st.f, nk sr, nw sr st.h.length st.w, st.o ++ sr.E, st.h ++ [sr])
def cntR (p : PL) : Nat → ST → ST
  | 0, st => st
  | m + 1, st => if 0 < cn p.n (hop st.f) ∧ (st.o.length : Int) < p.se then cntR p m (nxt st (stg p st)) else st
def ini (p : PL) : ST := (fun c => if p.g c = 0 then 1 else 0, fun c => if p.g c = 0 then 1000000 else 0, fun _ => -5, [], [])
def cnt (p : PL) : ST := cntR p fu (ini p)
/-- what holds of a STAGE -/
def SRok (p : PL) (sr : SR) : Prop := (∀ c, c < p.n → 0 ≤ sr.g c ∧ sr.g c ≤ 4611686000000) ∧ (1 ≤ sr.q ∧ sr.q ≤ 2305843000001) ∧ KB p.n sr.k ∧ sr.t = sm p.n sr.g ∧ (sr.o = -5 ∨ ∃ c, c < p.n ∧ sr.o = (c : Int))
/-- what a STAGE does to those that are hopeful -/
def SRst (p : PL) (f : Vec) (ord : List Nat) (sr : SR) : Prop := sr.E.Nodup ∧ (∀ c, c ∈ sr.E → c < p.n ∧ f c = 1) ∧ (ord.length + sr.E.length : Int) ≤ p.se ∧ ((sr.o = -5 ∧ sr.E ≠ []) ∨ (sr.E = [] ∧ ∃ c, c < p.n ∧ f c = 1 ∧ sr.o = (c : Int)))
def SI (p : PL) (st : ST) : Prop :=
  (∀ c, c < p.n → (p.g c = 0 → st.f c = 1 ∨ st.f c = 2 ∨ st.f c = 3) ∧ (p.g c ≠ 0 → st.f c = 0)) ∧ KB p.n st.k ∧ st.o.Nodup ∧ (∀ c, c ∈ st.o ↔ c < p.n ∧ st.f c = 2) ∧ (st.o.length : Int) ≤ p.se ∧ (st.h.length : Int) + cn p.n (hop st.f) ≤ p.n ∧ (∀ sr, sr ∈ st.h → SRok p sr) ∧ (st.h = [] → st.o = []) ∧ cn p.n (fun c => decide (st.f c = 2)) = st.o.length ∧ cn p.n (fun c => decide (st.f c = 3)) = ((st.h.filter (fun sr => decide (sr.o ≠ -5))).length : Nat)
theorem beh_app (h : List SR) (sr : SR) : beh (h ++ [sr]) = decide (sr.o ≠ -5) := by simp [beh]
theorem lg_app (h : List SR) (sr : SR) : lg (h ++ [sr]) = sr.g := by simp [lg]
theorem lq_app (h : List SR) (sr : SR) : lq (h ++ [sr]) = sr.q := by simp [lq]
theorem lq_bd {p : PL} {st : ST} (h : SI p st) : 0 ≤ lq st.h ∧ lq st.h ≤ 2305843000001 := by
  unfold lq
  cases e : st.h.getLast? with
  | none => exact ⟨Int.le_refl 0, by decide⟩
  | some s =>
    have := (h.2.2.2.2.2.2.1 s (List.mem_of_getLast? e)).2.1
    exact ⟨by (try dsimp only); omega, this.2⟩
theorem kk_KB {n : Nat} {f : Vec} {b : Bool} {r : Int} {K g : Vec} {q : Int} (h : KB n K) (hq : 0 ≤ q) : KB n (kk f b r K g q) := by
  unfold kk
  split
  · exact tk_KB h hq
  · exact h
theorem opt_some {x : Option Nat} {c : Nat} (h : x = some c) : opt x = c := by rw [h]; rfl
theorem wst_tot {p : PL} (h : WF p) (hs : List SR) (g : Vec) : Tot p.n ((g :: hs.reverse.map SR.g) ++ [npos p]) := (Tot.one (npos_inj h)).app _
theorem wst_ex {p : PL} (h : WF p) {f : Vec} {hs : List SR} {g : Vec} (hc : 0 < cn p.n (hop f)) : ∃ c, wst p f hs g = some c ∧ c < p.n ∧ f c = 1 := by
  obtain ⟨d, hd, hf⟩ := cn_ex hc
  cases e : wst p f hs g with
  | none =>
    have := scan_none e d hd
    rw [hf] at this; cases this
  | some c =>
    have hm := scan_some (wst_tot h hs g) e
    exact ⟨c, rfl, hm.1, by simpa [hop] using hm.2.1⟩
theorem EE_ok {p : PL} (h : WF p) {f : Vec} {ord : List Nat} {g : Vec} (hl : (ord.length : Int) ≤ p.se) : (EE p f ord g).Nodup ∧ (∀ c, c ∈ EE p f ord g → c < p.n ∧ f c = 1) ∧ (ord.length + (EE p f ord g).length : Int) ≤ p.se := by
  have ht := av_tot h g
  refine ⟨srt_nd ht, fun c hc => ?_, ?_⟩
  · have := srt_sub ht hc
    refine ⟨this.1, ?_⟩
    have h2 := this.2
    simp only [reach, Bool.and_eq_true, decide_eq_true_eq] at h2
    exact h2.1
  · have := srt_len (k := (p.se - ord.length).toNat) (w := reach f g (quo p g)) ht
    unfold EE
    rw [this]
    split <;> omega
theorem rnds_ok {p : PL} (h : WF p) {f : Vec} {ord : List Nat} {hs : List SR} {b : Bool} (hl : (ord.length : Int) ≤ p.se) (hc : 0 < cn p.n (hop f)) : ∀ (m : Nat) (r : Int) (K g : Vec) (q : Int), r ≤ p.ro → p.ro - r < m → KB p.n K → 0 ≤ q → SRok p (rnds p f ord hs b m r K g q) ∧ SRst p f ord (rnds p f ord hs b m r K g q) := by
  intro m
  induction m with
  | zero => intro r K g q h1 h2; omega
  | succ m ih =>
    intro r K g q h1 h2 hK hq
    have hK' : KB p.n (kk f b r K g q) := kk_KB hK hq
    unfold rnds
    generalize kk f b r K g q = K' at *
    have hv := VT_bd h hK'
    have hqb := quo_bd h hv.2.2.2.1 hv.2.2.2.2
    obtain ⟨e1, e2, e3⟩ := EE_ok h (f := f) (ord := ord) (g := (VT p K').2) hl
    split
    · rename_i hne
      exact ⟨⟨hv.2.2.1, hqb, hK', rfl, Or.inl rfl⟩, e1, e2, e3, Or.inl ⟨rfl, hne⟩⟩
    · rename_i hne
      split
      · obtain ⟨c, hc1, hc2, hc3⟩ := wst_ex h (f := f) (hs := hs) (g := (VT p K').2) hc
        have ho : opt (wst p f hs (VT p K').2) = c := opt_some hc1
        exact ⟨⟨hv.2.2.1, hqb, hK', rfl, Or.inr ⟨c, hc2, ho⟩⟩, List.nodup_nil, (fun d hd => by cases hd), (by show (ord.length : Int) + ((0 : Nat) : Int) ≤ p.se; omega), Or.inr ⟨rfl, c, hc2, hc3, ho⟩⟩
      · rename_i hx
        exact ih (r + 1) K' _ _ (by omega) (by omega) hK' (by omega)
theorem filS_ok {p : PL} (h : WF p) {st : ST} (hK : KB p.n st.k) (hc : 0 < cn p.n (hop st.f)) (hle : cn p.n (hop st.f) + st.o.length ≤ p.se) : SRok p (filS p st) ∧ SRst p st.f st.o (filS p st) := by
  have hv := VT_bd h hK
  have hqb := quo_bd h hv.2.2.2.1 hv.2.2.2.2
  have ht := av_tot h (VT p st.k).2
  have hcl := cn_le p.n (hop st.f)
  have h8 := h.1
  have hlen := srt_len (k := 8) (w := hop st.f) ht
  rw [if_pos (by omega)] at hlen
  refine ⟨⟨hv.2.2.1, hqb, hK, rfl, Or.inl rfl⟩, srt_nd ht, fun c hc => ?_, ?_, Or.inl ⟨rfl, fun e => ?_⟩⟩
  · have := srt_sub ht hc
    exact ⟨this.1, by simpa [hop] using this.2⟩
  · show (st.o.length : Int) + ((srt 8 p.n (av p (VT p st.k).2) (hop st.f)).length : Int) ≤ p.se
    omega
  · have : (srt 8 p.n (av p (VT p st.k).2) (hop st.f)) = [] := e
    rw [this] at hlen
    simp at hlen
    omega
theorem stg_ok {p : PL} (h : WF p) {st : ST} (hs : SI p st) (hc : 0 < cn p.n (hop st.f)) : SRok p (stg p st) ∧ SRst p st.f st.o (stg p st) := by
  unfold stg
  have hr := h.2.2.2.2.2.2.2.2
  split
  · rename_i hle
    exact filS_ok h hs.2.1 hc hle
  · exact rnds_ok h hs.2.2.2.2.1 hc fu 1 _ _ _ (by omega) (by have := fu_e; omega) hs.2.1 (lq_bd hs).1
theorem SRst.oE {p : PL} {f : Vec} {ord : List Nat} {sr : SR} (h : SRst p f ord sr) {c : Nat} (hc : c ∈ sr.E) : ¬ sr.o = (c : Int) := by
  rcases h.2.2.2 with h1 | h1
  · have := h1.1; omega
  · rw [h1.1] at hc; cases hc
/-- numbers of those that change their fate -/
theorem cn_E {n : Nat} : ∀ (E : List Nat) (f : Vec) (v : Int), E.Nodup → (∀ c, c ∈ E → c < n ∧ f c ≠ v) → cn n (fun c => decide ((if c ∈ E then v else f c) = v)) = cn n (fun c => decide (f c = v)) + E.length
  | [], f, v, _, _ => by simp
  | c :: E, f, v, hn, h => by
    have hn' := List.nodup_cons.mp hn
    have ih := cn_E E f v hn'.2 (fun d hd => h d (List.mem_cons_of_mem _ hd))
    have hc := h c List.mem_cons_self
    rw [cn_add (p := fun d => decide ((if d ∈ E then v else f d) = v)) (c := c) hc.1 (by simp [hn'.1, hc.2]) (by simp) (fun d hd hne => by simp [hne]), ih]
    simp only [List.length_cons]
    omega
theorem cn_E' {n : Nat} : ∀ (E : List Nat) (f : Vec) (v u : Int), u ≠ v → E.Nodup → (∀ c, c ∈ E → c < n ∧ f c = v) → cn n (fun c => decide ((if c ∈ E then u else f c) = v)) = cn n (fun c => decide (f c = v)) - E.length
  | [], f, v, u, _, _, _ => by simp
  | c :: E, f, v, u, hu, hn, h => by
    have hn' := List.nodup_cons.mp hn
    have ih := cn_E' E f v u hu hn'.2 (fun d hd => h d (List.mem_cons_of_mem _ hd))
    have hc := h c List.mem_cons_self
    have := cn_add (n := n) (p := fun d => decide ((if d ∈ c :: E then u else f d) = v)) (q := fun d => decide ((if d ∈ E then u else f d) = v)) (c := c) hc.1 (by simp [hu]) (by simp [hn'.1, hc.2]) (fun d hd hne => by simp [hne])
    simp only [List.length_cons]
    omega
theorem cn_o {n : Nat} {f : Vec} {v : Int} {c : Nat} (hc : c < n) (h1 : f c ≠ v) : cn n (fun d => decide ((if (c : Int) = (d : Int) then v else f d) = v)) = cn n (fun d => decide (f d = v)) + 1 :=
  cn_add hc (by simpa using h1) (by simp) (fun d hd hne => by
    have : ¬ (c : Int) = (d : Int) := by omega
    simp [this])
theorem cn_o' {n : Nat} {f : Vec} {v u : Int} {c : Nat} (hc : c < n) (hu : u ≠ v) (h1 : f c = v) : cn n (fun d => decide ((if (c : Int) = (d : Int) then u else f d) = v)) = cn n (fun d => decide (f d = v)) - 1 := by
  have := cn_add (n := n) (p := fun d => decide ((if (c : Int) = (d : Int) then u else f d) = v)) (q := fun d => decide (f d = v)) (c := c) hc (by simp [hu]) (by simpa using h1) (fun d hd hne => by
    have : ¬ (c : Int) = (d : Int) := by omega
    simp [this])
  omega
theorem nxt_ok {p : PL} (h : WF p) {st : ST} {sr : SR} (hs : SI p st) (hk : SRok p sr) (ht : SRst p st.f st.o sr) : SI p (nxt st sr) := by
  obtain ⟨i1, i2, i3, i4, i5, i6, i7, i8, i9, i10⟩ := hs
  obtain ⟨k1, k2, k3, k4, k5⟩ := hk
  obtain ⟨t1, t2, t3, t4⟩ := ht
  refine ⟨fun c hc => ?_, fun c hc => ?_, ?_, fun c => ?_, ?_, ?_, fun s hsm => ?_, fun e => ?_, ?_, ?_⟩
  · have h1 := i1 c hc
    show (p.g c = 0 → nf sr st.f c = 1 ∨ nf sr st.f c = 2 ∨ nf sr st.f c = 3) ∧ (p.g c ≠ 0 → nf sr st.f c = 0)
    unfold nf
    by_cases c1 : c ∈ sr.E
    · rw [if_pos c1]
      have := t2 c c1
      exact ⟨fun _ => Or.inr (Or.inl rfl), fun hg => by have := h1.2 hg; omega⟩
    · rw [if_neg c1]
      by_cases c2 : sr.o = (c : Int)
      · rw [if_pos c2]
        refine ⟨fun _ => Or.inr (Or.inr rfl), fun hg => ?_⟩
        have := h1.2 hg
        rcases t4 with t4 | ⟨_, d, _, hd1, hd2⟩
        · omega
        · have : d = c := by omega
          subst this; omega
      · rw [if_neg c2]; exact h1
  · show 0 ≤ nk sr c ∧ nk sr c ≤ 1000000
    unfold nk
    split
    · omega
    · exact k3 c hc
  · show (st.o ++ sr.E).Nodup
    refine List.nodup_append.mpr ⟨i3, t1, fun a ha b hb e => ?_⟩
    subst e
    have h1 := (i4 a).mp ha
    have h2 := t2 a hb
    omega
  · show c ∈ st.o ++ sr.E ↔ c < p.n ∧ nf sr st.f c = 2
    rw [List.mem_append, i4 c]
    unfold nf
    by_cases c1 : c ∈ sr.E
    · rw [if_pos c1]
      exact ⟨fun _ => ⟨(t2 c c1).1, rfl⟩, fun _ => Or.inr c1⟩
    · rw [if_neg c1]
      by_cases c2 : sr.o = (c : Int)
      · rw [if_pos c2]
        constructor
        · rintro (h1 | h1)
          · rcases t4 with t4 | ⟨_, d, _, hd1, hd2⟩
            · omega
            · have : d = c := by omega
              subst this; omega
          · exact absurd h1 c1
        · rintro ⟨_, h1⟩; omega
      · rw [if_neg c2]
        constructor
        · rintro (h1 | h1)
          · exact h1
          · exact absurd h1 c1
        · intro h1; exact Or.inl h1
  · show ((st.o ++ sr.E).length : Int) ≤ p.se
    rw [List.length_append]; omega
  · show ((st.h ++ [sr]).length : Int) + cn p.n (hop (nf sr st.f)) ≤ p.n
    have hl : ((st.h ++ [sr]).length : Int) = st.h.length + 1 := by simp
    rw [hl]
    rcases t4 with ⟨t4, t5⟩ | ⟨t4, d, hd0, hd1, hd2⟩
    · have e : cn p.n (hop (nf sr st.f)) = cn p.n (fun c => decide ((if c ∈ sr.E then 2 else st.f c) = 1)) := cn_congr (fun c hc => by
        unfold hop nf
        have : ¬ sr.o = (c : Int) := by omega
        simp [this])
      rw [e, cn_E' _ _ _ _ (by decide) t1 t2]
      have : sr.E.length ≠ 0 := fun e => t5 (List.length_eq_zero_iff.mp e)
      show (st.h.length : Int) + 1 + (cn p.n (hop st.f) - _) ≤ _
      omega
    · have e : cn p.n (hop (nf sr st.f)) = cn p.n (fun c => decide ((if (d : Int) = (c : Int) then 3 else st.f c) = 1)) := cn_congr (fun c hc => by
        unfold hop nf
        rw [t4, hd2]
        simp)
      rw [e, cn_o' hd0 (by decide) hd1]
      show (st.h.length : Int) + 1 + (cn p.n (hop st.f) - 1) ≤ _
      omega
  · have : s ∈ st.h ++ [sr] := hsm
    rcases List.mem_append.mp this with h1 | h1
    · exact i7 s h1
    · have : s = sr := by simpa using h1
      subst this
      exact ⟨k1, k2, k3, k4, k5⟩
  · have : st.h ++ [sr] = [] := e
    simp at this
  · show cn p.n (fun c => decide (nf sr st.f c = 2)) = ((st.o ++ sr.E).length : Nat)
    rw [List.length_append]
    rcases t4 with ⟨t4, t5⟩ | ⟨t4, d, hd0, hd1, hd2⟩
    · have e : cn p.n (fun c => decide (nf sr st.f c = 2)) = cn p.n (fun c => decide ((if c ∈ sr.E then 2 else st.f c) = 2)) := cn_congr (fun c hc => by
        unfold nf
        have : ¬ sr.o = (c : Int) := by omega
        simp [this])
      rw [e, cn_E _ _ _ t1 (fun c hc => ⟨(t2 c hc).1, by have := (t2 c hc).2; omega⟩), i9]
      omega
    · have e : cn p.n (fun c => decide (nf sr st.f c = 2)) = cn p.n (fun c => decide (st.f c = 2)) := cn_congr (fun c hc => by
        unfold nf
        rw [t4, hd2]
        by_cases c1 : (d : Int) = (c : Int)
        · have : d = c := by omega
          subst this
          simp [hd1]
        · simp [c1])
      rw [e, i9, t4]
      simp
  · show cn p.n (fun c => decide (nf sr st.f c = 3)) = (((st.h ++ [sr]).filter (fun sr => decide (sr.o ≠ -5))).length : Nat)
    rw [List.filter_append, List.length_append]
    rcases t4 with ⟨t4, t5⟩ | ⟨t4, d, hd0, hd1, hd2⟩
    · have e : cn p.n (fun c => decide (nf sr st.f c = 3)) = cn p.n (fun c => decide (st.f c = 3)) := cn_congr (fun c hc => by
        unfold nf
        have c2 : ¬ sr.o = (c : Int) := by omega
        by_cases c1 : c ∈ sr.E
        · have := (t2 c c1).2
          simp [c1, this]
        · simp [c1, c2])
      rw [e, i10]
      have : [sr].filter (fun sr => decide (sr.o ≠ -5)) = [] := by simp [t4]
      rw [this]
      simp
    · have e : cn p.n (fun c => decide (nf sr st.f c = 3)) = cn p.n (fun c => decide ((if (d : Int) = (c : Int) then 3 else st.f c) = 3)) := cn_congr (fun c hc => by
        unfold nf
        rw [t4, hd2]
        simp)
      rw [e, cn_o hd0 (by omega), i10]
      have : [sr].filter (fun sr => decide (sr.o ≠ -5)) = [sr] := by
        have : sr.o ≠ -5 := by omega
        simp [this]
      rw [this]
      simp
theorem ini_ok {p : PL} (h : WF p) : SI p (ini p) := by
  have hz2 : cn p.n (fun c => decide ((ini p).f c = 2)) = 0 := cn_z (fun c hc => by
    show decide ((if p.g c = 0 then (1 : Int) else 0) = 2) = false
    split <;> rfl)
  have hz3 : cn p.n (fun c => decide ((ini p).f c = 3)) = 0 := cn_z (fun c hc => by
    show decide ((if p.g c = 0 then (1 : Int) else 0) = 3) = false
    split <;> rfl)
  have hle := cn_le p.n (hop (ini p).f)
  have hs := h.2.2.2.2.2.2.1
  refine ⟨fun c hc => ⟨fun e => Or.inl ?_, fun e => ?_⟩, fun c hc => ?_, List.nodup_nil, fun c => ⟨(fun hx => by cases hx), fun hx' => ?_⟩, ?_, ?_, (fun s hx => by cases hx), fun _ => rfl, hz2, hz3⟩
  · show (if p.g c = 0 then (1 : Int) else 0) = 1
    rw [if_pos e]
  · show (if p.g c = 0 then (1 : Int) else 0) = 0
    rw [if_neg e]
  · show 0 ≤ (if p.g c = 0 then (1000000 : Int) else 0) ∧ (if p.g c = 0 then (1000000 : Int) else 0) ≤ 1000000
    split <;> omega
  · have : (if p.g c = 0 then (1 : Int) else 0) = 2 := hx'.2
    split at this <;> omega
  · show ((0 : Nat) : Int) ≤ p.se
    omega
  · show ((0 : Nat) : Int) + _ ≤ _
    omega
theorem cntR_ok {p : PL} (h : WF p) : ∀ (m : Nat) (st : ST), SI p st → SI p (cntR p m st)
  | 0, _, hs => hs
  | m + 1, st, hs => by
    unfold cntR
    split
    · rename_i hc
      have := stg_ok h hs hc.1
      exact cntR_ok h m _ (nxt_ok h hs this.1 this.2)
    · exact hs
theorem cnt_ok {p : PL} (h : WF p) : SI p (cnt p) := cntR_ok h fu _ (ini_ok h)
end
