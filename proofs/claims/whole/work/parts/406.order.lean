section
/-! orders by several numbers, one behind the other -/
def lx : List Vec → Nat → Nat → Bool
  | [], _, _ => false
  | v :: r, c, d => decide (v c < v d) || (decide (v c = v d) && lx r c d)
theorem lx_cons {v : Vec} {r : List Vec} {c d : Nat} : lx (v :: r) c d = true ↔ v c < v d ∨ (v c = v d ∧ lx r c d = true) := by
  simp [lx]
theorem lx_asym : ∀ {vs : List Vec} {c d : Nat}, lx vs c d = true → lx vs d c = false
  | [], _, _, h => by simp [lx] at h
  | v :: r, c, d, h => by
    rcases lx_cons.mp h with h1 | ⟨h1, h2⟩
    · cases e : lx (v :: r) d c
      · rfl
      · rcases lx_cons.mp e with h3 | ⟨h3, _⟩ <;> omega
    · have ih := lx_asym h2
      cases e : lx (v :: r) d c
      · rfl
      · rcases lx_cons.mp e with h3 | ⟨_, h4⟩
        · omega
        · rw [ih] at h4; cases h4
theorem lx_irr (vs : List Vec) (c : Nat) : lx vs c c = false := by
  cases e : lx vs c c
  · rfl
  · have := lx_asym e; rw [e] at this; cases this
theorem lx_trans : ∀ {vs : List Vec} {a b c : Nat}, lx vs a b = true → lx vs b c = true → lx vs a c = true
  | [], _, _, _, h, _ => by simp [lx] at h
  | v :: r, a, b, c, h, h' => by
    rcases lx_cons.mp h with h1 | ⟨h1, h2⟩ <;> rcases lx_cons.mp h' with h3 | ⟨h3, h4⟩
    · exact lx_cons.mpr (Or.inl (by omega))
    · exact lx_cons.mpr (Or.inl (by omega))
    · exact lx_cons.mpr (Or.inl (by omega))
    · exact lx_cons.mpr (Or.inr ⟨by omega, lx_trans h2 h4⟩)
def Tot (n : Nat) (vs : List Vec) : Prop := ∀ c d, c < n → d < n → c ≠ d → lx vs c d = true ∨ lx vs d c = true
theorem Tot.one {n : Nat} {v : Vec} (h : ∀ c d, c < n → d < n → v c = v d → c = d) : Tot n [v] := fun c d hc hd hne => by
  by_cases e : v c < v d
  · exact Or.inl (lx_cons.mpr (Or.inl e))
  · have : v c ≠ v d := fun e => hne (h c d hc hd e)
    exact Or.inr (lx_cons.mpr (Or.inl (by omega)))
theorem Tot.cons {n : Nat} {vs : List Vec} (v : Vec) (h : Tot n vs) : Tot n (v :: vs) := fun c d hc hd hne => by
  by_cases e : v c = v d
  · rcases h c d hc hd hne with h1 | h1
    · exact Or.inl (lx_cons.mpr (Or.inr ⟨e, h1⟩))
    · exact Or.inr (lx_cons.mpr (Or.inr ⟨e.symm, h1⟩))
  · by_cases e2 : v c < v d
    · exact Or.inl (lx_cons.mpr (Or.inl e2))
    · exact Or.inr (lx_cons.mpr (Or.inl (by omega)))
theorem Tot.app {n : Nat} {vs : List Vec} (h : Tot n vs) : ∀ us : List Vec, Tot n (us ++ vs)
  | [] => h
  | u :: us => (Tot.app h us).cons u
theorem lx_no {n : Nat} {vs : List Vec} (h : Tot n vs) {c d : Nat} (hc : c < n) (hd : d < n) (hne : c ≠ d) (hn : ¬ lx vs c d = true) : lx vs d c = true := (h c d hc hd hne).resolve_left hn
theorem lx_congr : ∀ {vs us : List Vec} {n : Nat}, (∀ (k : Nat) (v u : Vec), vs[k]? = some v → us[k]? = some u → ∀ c, c < n → v c = u c) → vs.length = us.length → ∀ c d, c < n → d < n → lx vs c d = lx us c d
  | [], [], _, _, _, _, _, _, _ => rfl
  | [], _ :: _, _, _, hl, _, _, _, _ => by simp at hl
  | _ :: _, [], _, _, hl, _, _, _, _ => by simp at hl
  | v :: vs, u :: us, n, h, hl, c, d, hc, hd => by
    have h0 := h 0 v u rfl rfl
    have ih := lx_congr (vs := vs) (us := us) (n := n) (fun k v u hv hu => h (k + 1) v u (by simpa using hv) (by simpa using hu)) (by simpa using hl) c d hc hd
    unfold lx
    rw [h0 c hc, h0 d hd, ih]
/-- the least of a set -/
def IsMin (n : Nat) (vs : List Vec) (w : Nat → Bool) (c : Nat) : Prop := c < n ∧ w c = true ∧ ∀ d, d < n → w d = true → d ≠ c → lx vs c d = true
theorem IsMin.uniq {n : Nat} {vs : List Vec} {w : Nat → Bool} {c d : Nat} (h : IsMin n vs w c) (h2 : IsMin n vs w d) : c = d := by
  by_cases e : c = d
  · exact e
  · have h3 := h.2.2 d h2.1 h2.2.1 (fun e2 => e e2.symm)
    have h4 := h2.2.2 c h.1 h.2.1 e
    rw [lx_asym h3] at h4
    cases h4
theorem IsMin.congr {n : Nat} {vs : List Vec} {w w' : Nat → Bool} {c : Nat} (hw : ∀ d, d < n → w d = w' d) (h : IsMin n vs w c) : IsMin n vs w' c :=
  ⟨h.1, (hw c h.1) ▸ h.2.1, fun d hd hwd => h.2.2 d hd ((hw d hd).symm ▸ hwd)⟩
def scan : Nat → List Vec → (Nat → Bool) → Option Nat
  | 0, _, _ => none
  | n + 1, vs, w => if w n then (match scan n vs w with
    | none => some n
    | some b => if lx vs n b then some n else some b) else scan n vs w
theorem scan_none : ∀ {n : Nat} {vs : List Vec} {w : Nat → Bool}, scan n vs w = none → ∀ c, c < n → w c = false
  | 0, _, _, _, c, hc => by omega
  | n + 1, vs, w, h, c, hc => by
    unfold scan at h
    cases e : w n
    · rw [if_neg (by rw [e]; decide)] at h
      by_cases e2 : c = n
      · subst e2; exact e
      · exact scan_none h c (by omega)
    · rw [if_pos e] at h
      cases e3 : scan n vs w with
      | none => rw [e3] at h; cases h
      | some b =>
        rw [e3] at h
        dsimp only at h
        split at h <;> cases h
theorem scan_some : ∀ {n : Nat} {vs : List Vec} {w : Nat → Bool} {c : Nat}, Tot n vs → scan n vs w = some c → IsMin n vs w c
  | 0, _, _, _, _, h => by cases h
  | n + 1, vs, w, c, ht, h => by
    have ht' : Tot n vs := fun a b ha hb hne => ht a b (by omega) (by omega) hne
    unfold scan at h
    cases e : w n
    · rw [if_neg (by rw [e]; decide)] at h
      have ih := scan_some ht' h
      refine ⟨by have := ih.1; omega, ih.2.1, fun d hd hwd hne => ?_⟩
      by_cases e2 : d = n
      · subst e2; rw [e] at hwd; cases hwd
      · exact ih.2.2 d (by omega) hwd hne
    · rw [if_pos e] at h
      cases e3 : scan n vs w with
      | none =>
        rw [e3] at h
        cases h
        refine ⟨by omega, e, fun d hd hwd hne => ?_⟩
        have := scan_none e3 d (by omega)
        rw [this] at hwd; cases hwd
      | some b =>
        rw [e3] at h
        have ih := scan_some ht' e3
        dsimp only at h
        split at h
        · rename_i hl
          cases h
          refine ⟨by omega, e, fun d hd hwd hne => ?_⟩
          by_cases e4 : d = b
          · subst e4; exact hl
          · exact lx_trans hl (ih.2.2 d (by omega) hwd e4)
        · rename_i hl
          cases h
          refine ⟨by have := ih.1; omega, ih.2.1, fun d hd hwd hne => ?_⟩
          by_cases e4 : d = n
          · subst e4
            exact lx_no ht (by omega) (by have := ih.1; omega) hne hl
          · exact ih.2.2 d (by omega) hwd hne
theorem scan_min {n : Nat} {vs : List Vec} {w : Nat → Bool} {c : Nat} (ht : Tot n vs) (h : IsMin n vs w c) : scan n vs w = some c := by
  cases e : scan n vs w with
  | none => have := scan_none e c h.1; rw [h.2.1] at this; cases this
  | some d => rw [(scan_some ht e).uniq h]
theorem scan_no {n : Nat} {vs : List Vec} {w : Nat → Bool} (ht : Tot n vs) (h : ∀ c, c < n → w c = false) : scan n vs w = none := by
  cases e : scan n vs w with
  | none => rfl
  | some d => have h1 := scan_some ht e; have h2 := h d h1.1; rw [h1.2.1] at h2; cases h2
theorem scan_congr {n : Nat} {vs : List Vec} {w w' : Nat → Bool} (ht : Tot n vs) (h : ∀ c, c < n → w c = w' c) : scan n vs w = scan n vs w' := by
  cases e : scan n vs w with
  | none => rw [scan_no ht (fun c hc => by rw [← h c hc]; exact scan_none e c hc)]
  | some d => rw [scan_min ht ((scan_some ht e).congr h)]
/-- sorted -/
def wo (w : Nat → Bool) (c : Nat) : Nat → Bool := fun d => w d && !decide (d = c)
def srt : Nat → Nat → List Vec → (Nat → Bool) → List Nat
  | 0, _, _, _ => []
  | k + 1, n, vs, w => match scan n vs w with
    | none => []
    | some c => c :: srt k n vs (wo w c)
theorem wo_same (w : Nat → Bool) (c : Nat) : wo w c c = false := by simp [wo]
theorem wo_ne {w : Nat → Bool} {c d : Nat} (h : d ≠ c) : wo w c d = w d := by simp [wo, h]
theorem srt_none {k n : Nat} {vs : List Vec} {w : Nat → Bool} (h : scan n vs w = none) : srt (k + 1) n vs w = [] := by simp only [srt, h]
theorem srt_some {k n : Nat} {vs : List Vec} {w : Nat → Bool} {c : Nat} (h : scan n vs w = some c) : srt (k + 1) n vs w = c :: srt k n vs (wo w c) := by simp only [srt, h]
theorem srt_sub : ∀ {k n : Nat} {vs : List Vec} {w : Nat → Bool} {c : Nat}, Tot n vs → c ∈ srt k n vs w → c < n ∧ w c = true
  | 0, _, _, _, _, _, h => by cases h
  | k + 1, n, vs, w, c, ht, h => by
    cases e : scan n vs w with
    | none => rw [srt_none e] at h; cases h
    | some b =>
      have hm := scan_some ht e
      rw [srt_some e] at h
      rcases List.mem_cons.mp h with h | h
      · subst h; exact ⟨hm.1, hm.2.1⟩
      · have := srt_sub ht h
        refine ⟨this.1, ?_⟩
        have h2 := this.2
        unfold wo at h2
        exact (Bool.and_eq_true_iff.mp h2).1
abbrev Sd (vs : List Vec) (L : List Nat) : Prop := L.Pairwise (fun c d => lx vs c d = true)
theorem srt_sd : ∀ {k n : Nat} {vs : List Vec} {w : Nat → Bool}, Tot n vs → Sd vs (srt k n vs w)
  | 0, _, _, _, _ => List.Pairwise.nil
  | k + 1, n, vs, w, ht => by
    cases e : scan n vs w with
    | none => rw [srt_none e]; exact List.Pairwise.nil
    | some b =>
      have hm := scan_some ht e
      rw [srt_some e]
      refine List.Pairwise.cons (fun d hd => ?_) (srt_sd ht)
      have := srt_sub ht hd
      have hne : d ≠ b := fun e2 => by rw [e2, wo_same] at this; cases this.2
      rw [wo_ne hne] at this
      exact hm.2.2 d this.1 this.2 hne
theorem cn_wo {n : Nat} {w : Nat → Bool} {c : Nat} (hc : c < n) (h : w c = true) : cn n w = cn n (wo w c) + 1 := cn_add hc (wo_same w c) h (fun _ _ hne => (wo_ne hne).symm)
theorem srt_mem : ∀ {k n : Nat} {vs : List Vec} {w : Nat → Bool} {c : Nat}, Tot n vs → cn n w ≤ k → c < n → w c = true → c ∈ srt k n vs w
  | 0, n, vs, w, c, ht, hk, hc, hw => by
    have := cn_0 hk c hc
    rw [hw] at this; cases this
  | k + 1, n, vs, w, c, ht, hk, hc, hw => by
    cases e : scan n vs w with
    | none => have := scan_none e c hc; rw [hw] at this; cases this
    | some b =>
      have hm := scan_some ht e
      rw [srt_some e]
      by_cases e2 : c = b
      · subst e2; exact List.mem_cons_self
      · refine List.mem_cons_of_mem _ (srt_mem ht ?_ hc (by rw [wo_ne e2]; exact hw))
        have := cn_wo hm.1 hm.2.1
        omega
theorem srt_len : ∀ {k n : Nat} {vs : List Vec} {w : Nat → Bool}, Tot n vs → ((srt k n vs w).length : Int) = if cn n w ≤ k then cn n w else k
  | 0, n, vs, w, ht => by
    have := cn_nn n w
    simp only [srt, List.length_nil]
    split <;> omega
  | k + 1, n, vs, w, ht => by
    cases e : scan n vs w with
    | none =>
      rw [srt_none e, cn_z (scan_none e)]
      simp
      omega
    | some b =>
      have hm := scan_some ht e
      have ih := srt_len (k := k) (w := wo w b) ht
      have h1 := cn_wo hm.1 hm.2.1
      rw [srt_some e, List.length_cons]
      by_cases h2 : cn n (wo w b) ≤ k
      · rw [if_pos h2] at ih; rw [if_pos (by omega)]; omega
      · rw [if_neg h2] at ih; rw [if_neg (by omega)]; omega
theorem srt_nd {k n : Nat} {vs : List Vec} {w : Nat → Bool} (ht : Tot n vs) : (srt k n vs w).Nodup := by
  refine (srt_sd ht).imp (fun {a b} h e => ?_)
  subst e
  rw [lx_irr] at h
  cases h
theorem sd_uniq : ∀ {vs : List Vec} {A B : List Nat}, Sd vs A → Sd vs B → (∀ c, c ∈ A ↔ c ∈ B) → A = B
  | _, [], [], _, _, _ => rfl
  | _, [], b :: B, _, _, h => by have := (h b).mpr List.mem_cons_self; cases this
  | _, a :: A, [], _, _, h => by have := (h a).mp List.mem_cons_self; cases this
  | vs, a :: A, b :: B, hA, hB, h => by
    have hA' := List.pairwise_cons.mp hA
    have hB' := List.pairwise_cons.mp hB
    have e : a = b := by
      rcases List.mem_cons.mp ((h a).mp List.mem_cons_self) with h1 | h1
      · exact h1
      · rcases List.mem_cons.mp ((h b).mpr List.mem_cons_self) with h2 | h2
        · exact h2.symm
        · have h3 := hB'.1 a h1
          have h4 := hA'.1 b h2
          rw [lx_asym h3] at h4; cases h4
    subst e
    have : A = B := sd_uniq hA'.2 hB'.2 (fun c => ⟨fun hc => by
      rcases List.mem_cons.mp ((h c).mp (List.mem_cons_of_mem _ hc)) with h1 | h1
      · subst h1; have := hA'.1 c hc; rw [lx_irr] at this; cases this
      · exact h1, fun hc => by
      rcases List.mem_cons.mp ((h c).mpr (List.mem_cons_of_mem _ hc)) with h1 | h1
      · subst h1; have := hB'.1 c hc; rw [lx_irr] at this; cases this
      · exact h1⟩)
    rw [this]
theorem srt_uniq {k n : Nat} {vs : List Vec} {w : Nat → Bool} {A : List Nat} (ht : Tot n vs) (hk : cn n w ≤ k) (hA : Sd vs A) (h : ∀ c, c ∈ A ↔ c < n ∧ w c = true) : A = srt k n vs w :=
  sd_uniq hA (srt_sd ht) (fun c => ⟨fun hc => srt_mem ht hk ((h c).mp hc).1 ((h c).mp hc).2, fun hc => (h c).mpr (srt_sub ht hc)⟩)
theorem srt_congr : ∀ {k n : Nat} {vs : List Vec} {w w' : Nat → Bool}, Tot n vs → (∀ c, c < n → w c = w' c) → srt k n vs w = srt k n vs w'
  | 0, _, _, _, _, _, _ => rfl
  | k + 1, n, vs, w, w', ht, h => by
    have e2 := scan_congr ht h
    cases e : scan n vs w with
    | none => rw [srt_none e, srt_none (e2 ▸ e)]
    | some c =>
      rw [srt_some e, srt_some (e2 ▸ e), srt_congr ht (w := wo w c) (w' := wo w' c) (fun d hd => by unfold wo; rw [h d hd])]
theorem srt_get : ∀ {i k n : Nat} {vs : List Vec} {w : Nat → Bool}, i < k → (srt k n vs w)[i]? = (srt (i + 1) n vs w)[i]?
  | 0, k + 1, n, vs, w, _ => by
    cases e : scan n vs w with
    | none => rw [srt_none e, srt_none e]
    | some c => rw [srt_some e, srt_some e]; rfl
  | i + 1, k + 1, n, vs, w, h => by
    cases e : scan n vs w with
    | none => rw [srt_none e, srt_none e]
    | some c =>
      rw [srt_some e, srt_some e, List.getElem?_cons_succ, List.getElem?_cons_succ]
      exact srt_get (by omega)
/-- put in its place -/
theorem sd_ins {vs : List Vec} {L : List Nat} {c k : Nat} (h : Sd vs L) (hk : k ≤ L.length) (h1 : ∀ j (hj : j < L.length), k ≤ j → lx vs c L[j] = true) (h2 : ∀ j (hj : j < L.length), j < k → lx vs L[j] c = true) : Sd vs (L.take k ++ c :: L.drop k) := by
  refine List.pairwise_append.mpr ⟨h.sublist (List.take_sublist k L), List.Pairwise.cons (fun d hd => ?_) (h.sublist (List.drop_sublist k L)), fun a ha b hb => ?_⟩
  · obtain ⟨j, hj, e⟩ := List.getElem_of_mem hd
    rw [List.getElem_drop] at e
    rw [← e]
    exact h1 _ _ (by omega)
  · obtain ⟨j, hj, e⟩ := List.getElem_of_mem ha
    rw [List.length_take] at hj
    rw [List.getElem_take] at e
    rcases List.mem_cons.mp hb with e2 | e2
    · subst e2; rw [← e]; exact h2 _ _ (by omega)
    · obtain ⟨i, hi, e3⟩ := List.getElem_of_mem e2
      rw [List.length_drop] at hi
      rw [List.getElem_drop] at e3
      rw [← e, ← e3]
      exact List.pairwise_iff_getElem.mp h _ _ _ _ (by omega)
theorem mem_ins {L : List Nat} {c k d : Nat} : d ∈ L.take k ++ c :: L.drop k ↔ d = c ∨ d ∈ L := by
  conv => rhs; rw [← List.take_append_drop k L]
  simp only [List.mem_append, List.mem_cons]
  constructor
  · rintro (h | h | h)
    · exact Or.inr (Or.inl h)
    · exact Or.inl h
    · exact Or.inr (Or.inr h)
  · rintro (h | h | h)
    · exact Or.inr (Or.inl h)
    · exact Or.inl h
    · exact Or.inr (Or.inr h)
/-- first the least by the first number, then those among them -/
def fl (n : Nat) (v : Vec) (w : Nat → Bool) : Nat → Bool := fun c => w c && decide (∀ d, d < n → w d = true → v c ≤ v d)
theorem fl_iff {n : Nat} {v : Vec} {w : Nat → Bool} {c : Nat} : fl n v w c = true ↔ w c = true ∧ ∀ d, d < n → w d = true → v c ≤ v d := by simp [fl]
theorem fl_min {n : Nat} {v : Vec} {vs : List Vec} {w : Nat → Bool} {c : Nat} : IsMin n (v :: vs) w c ↔ IsMin n vs (fl n v w) c := by
  constructor
  · intro h
    have hle : ∀ d, d < n → w d = true → v c ≤ v d := fun d hd hw => by
      by_cases e : d = c
      · subst e; omega
      · rcases lx_cons.mp (h.2.2 d hd hw e) with h1 | h1 <;> omega
    refine ⟨h.1, fl_iff.mpr ⟨h.2.1, hle⟩, fun d hd hw hne => ?_⟩
    have h2 := fl_iff.mp hw
    rcases lx_cons.mp (h.2.2 d hd h2.1 hne) with h1 | h1
    · have := h2.2 c h.1 h.2.1; omega
    · exact h1.2
  · intro h
    have h2 := fl_iff.mp h.2.1
    refine ⟨h.1, h2.1, fun d hd hw hne => ?_⟩
    have h3 := h2.2 d hd hw
    by_cases e : v c = v d
    · exact lx_cons.mpr (Or.inr ⟨e, h.2.2 d hd (fl_iff.mpr ⟨hw, fun x hx hwx => by have := h2.2 x hx hwx; omega⟩) hne⟩)
    · exact lx_cons.mpr (Or.inl (by omega))
end
