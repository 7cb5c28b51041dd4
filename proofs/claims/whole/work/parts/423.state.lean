section
/-! the whole state: what is told; SEEN, EVENTS; the image; the text; TROUBLE; tapes -/
abbrev SE : Type := Nat × Vec × Vec × Nat × Vec × Vec
abbrev SE.ns (e : SE) : Nat := e.1
abbrev SE.who (e : SE) : Vec := e.2.1
abbrev SE.so (e : SE) : Vec := e.2.2.1
abbrev SE.ne (e : SE) : Nat := e.2.2.2.1
abbrev SE.what (e : SE) : Vec := e.2.2.2.2.1
abbrev SE.num (e : SE) : Vec := e.2.2.2.2.2
abbrev SS : Type := PL × SE × Option (PL × SE) × (Nat × Vec) × List (Int × Int) × (Nat → Int × Nat × Vec)
abbrev SS.p (s : SS) : PL := s.1
abbrev SS.e (s : SS) : SE := s.2.1
abbrev SS.i (s : SS) : Option (PL × SE) := s.2.2.1
abbrev SS.x (s : SS) : Nat × Vec := s.2.2.2.1
abbrev SS.t (s : SS) : List (Int × Int) := s.2.2.2.2.1
abbrev SS.tp (s : SS) : Nat → Int × Nat × Vec := s.2.2.2.2.2
def SEok (n : Nat) (e : SE) : Prop := e.ns ≤ 5 ∧ (∀ k, k < e.ns → 0 ≤ e.who k ∧ e.who k < n ∧ (e.so k = 0 ∨ e.so k = 1)) ∧ e.ne ≤ 8 ∧ ∀ k, k < e.ne → 0 ≤ e.what k ∧ e.what k ≤ 3 ∧ (e.what k = 2 → 1 ≤ e.num k ∧ e.num k ≤ 7) ∧ (e.what k ≠ 2 → 0 ≤ e.num k ∧ e.num k < n)
def WF4 (p : PL) : Prop := WF p ∧ p.nb ≤ 24
def TPok (q : Int × Nat × Vec) : Prop := ((q.1 = -1 ∧ q.2.1 = 0) ∨ (0 ≤ q.1 ∧ q.1 ≤ 4)) ∧ q.2.1 ≤ 60
def GS (s : SS) : Prop := WF4 s.p ∧ SEok s.p.n s.e ∧ (∀ q, s.i = some q → WF4 q.1 ∧ SEok q.1.n q.2) ∧ (s.x.1 ≤ 100 ∧ ∀ k, k < s.x.1 → 0 ≤ s.x.2 k ∧ s.x.2 k ≤ 127) ∧ s.t.length ≤ 3 ∧ ∀ t, t < 6 → TPok (s.tp t)
def SEc (M : Mem) (o : Nat) (e : SE) : Prop := M o 9 = e.ns ∧ M o 12 = e.ne ∧ (∀ k, k < e.ns → M (o + 11) k = e.who k ∧ M (o + 12) k = e.so k) ∧ ∀ k, k < e.ne → M (o + 14) k = e.what k ∧ M (o + 15) k = e.num k
def BO (M : Mem) (o : Nat) : Prop := (∀ c, c < 8 → M (o + 3) c = 0 ∨ M (o + 3) c = 1) ∧ ∀ k, k < 5 → M (o + 12) k = 0 ∨ M (o + 12) k = 1
def PF (M : Mem) (o : Nat) (p : PL) (e : SE) : Prop := PCc M o p ∧ SEc M o e ∧ BO M o
theorem PF.same {M M' : Mem} {o : Nat} {p : PL} {e : SE} (h : PF M o p e) (hx : ∀ x, o ≤ x → x < o + 16 → M' x = M x) : PF M' o p e := by
  unfold PF PCc SEc BO at *
  rw [hx o (by omega) (by omega), hx (o + 2) (by omega) (by omega), hx (o + 3) (by omega) (by omega), hx (o + 5) (by omega) (by omega), hx (o + 6) (by omega) (by omega), hx (o + 11) (by omega) (by omega), hx (o + 12) (by omega) (by omega), hx (o + 14) (by omega) (by omega), hx (o + 15) (by omega) (by omega)]
  exact h
def IMc (M : Mem) : Option (PL × SE) → Prop
  | none => M 10 3 = 0
  | some q => M 10 3 = 1 ∧ PF M 13000 q.1 q.2
def TXc (M : Mem) (x : Nat × Vec) : Prop := M 210 0 = x.1 ∧ ∀ k, k < x.1 → M 212 k = x.2 k
def TRc (M : Mem) (t : List (Int × Int)) : Prop := M 310 0 = t.length ∧ ∀ k q, t[k]? = some q → M 312 k = q.1 ∧ M 313 k = q.2
def TPc (M : Mem) (tp : Nat → Int × Nat × Vec) : Prop := ∀ t, t < 6 → M (56 + 16 * t) 0 = (tp t).1 ∧ M (56 + 16 * t) 1 = (tp t).2.1 ∧ ∀ i, i < (tp t).2.1 → M (59 + 16 * t) i = (tp t).2.2 i
def FT (M : Mem) (p : PL) : Prop := M 10 6 = 0 ∨ (M 10 6 = 1 ∧ CT M 1000 p (cnt p))
def CI0 (M : Mem) (s : SS) : Prop := PF M 11000 s.p s.e ∧ IMc M s.i ∧ TXc M s.x ∧ TRc M s.t ∧ TPc M s.tp
def CI (M : Mem) (s : SS) : Prop := CI0 M s ∧ FT M s.p
theorem CI0.same {M M' : Mem} {s : SS} (h : CI0 M s) (h3 : M' 10 3 = M 10 3) (hx : ∀ x, (50 ≤ x ∧ x < 1000) ∨ (11000 ≤ x ∧ x < 11016) ∨ (13000 ≤ x ∧ x < 13016) → M' x = M x) : CI0 M' s := by
  obtain ⟨a1, a2, a3, a4, a5⟩ := h
  refine ⟨a1.same (fun x _ _ => hx x (by omega)), ?_, ?_, ?_, fun t ht => ?_⟩
  · cases e : s.i with
    | none => rw [e] at a2; exact h3.trans a2
    | some q => rw [e] at a2; exact ⟨h3.trans a2.1, a2.2.same (fun x _ _ => hx x (by omega))⟩
  · unfold TXc at *
    rw [hx 210 (by omega), hx 212 (by omega)]; exact a3
  · unfold TRc at *
    rw [hx 310 (by omega), hx 312 (by omega), hx 313 (by omega)]; exact a4
  · rw [hx (56 + 16 * t) (by omega), hx (59 + 16 * t) (by omega)]; exact a5 t ht
theorem CT.same {M M' : Mem} {t : Nat} {p : PL} {st : ST} (h : CT M t p st) (hl : st.h.length ≤ 8) (hx : ∀ x, (t ≤ x ∧ x < t + 1000) ∨ (t + 10000 ≤ x ∧ x < t + 10007) → M' x = M x) : CT M' t p st := by
  obtain ⟨a1, a2, a3, a4, a5, a6, a7, a8, a9⟩ := h
  have e0 := hx t (by omega)
  refine ⟨by rw [e0]; exact a1, by rw [e0]; exact a2, by rw [e0]; exact a3, fun c hc => ?_, fun i c hi => ?_, fun s sr hs => ?_, fun e => ?_, ?_, ?_⟩
  · rw [hx (t + 3) (by omega), hx (t + 10) (by omega), hx (t + 4) (by omega)]; exact a4 c hc
  · rw [hx (t + 5) (by omega)]; exact a5 i c hi
  · have := getq_lt hs
    exact (a6 s sr hs).same (hx _ (by omega)) (hx _ (by omega)) (hx _ (by omega))
  · rw [e0, hx (t + 11) (by omega)]; exact a7 e
  · exact a8.same (hx _ (by omega)) (hx _ (by omega)) (hx _ (by omega))
  · exact a9.same (hx _ (by omega)) (hx _ (by omega)) (hx _ (by omega)) (hx _ (by omega)) (hx _ (by omega))
theorem cnt_len {p : PL} (h : WF p) : (cnt p).h.length ≤ 8 := by
  have h1 := (cnt_ok h).2.2.2.2.2.1
  have h2 := cn_nn p.n (hop (cnt p).f)
  have h3 := h.1
  omega
theorem FT.same {M M' : Mem} {p : PL} (hp : WF p) (h : FT M p) (h6 : M' 10 6 = M 10 6) (hx : ∀ x, (1000 ≤ x ∧ x < 2000) ∨ (11000 ≤ x ∧ x < 11007) → M' x = M x) : FT M' p := by
  rcases h with h | h
  · exact Or.inl (h6.trans h)
  · exact Or.inr ⟨h6.trans h.1, h.2.same (cnt_len hp) (fun x hx' => hx x (by omega))⟩
/-! the other one's -/
def SEm (M : Mem) (a : Nat) (e : SE) : Prop := M a 9 = e.ns ∧ M a 10 = e.ne ∧ (∀ k, k < e.ns → M (a + 12) k = e.who k ∧ M (a + 15) k = e.so k) ∧ ∀ k, k < e.ne → M (a + 13) k = e.what k ∧ M (a + 14) k = e.num k
def IMm (M : Mem) (a : Nat) : Option (PL × SE) → Prop
  | none => M a 55 = 0
  | some q => M a 55 = 1 ∧ (M (a + 57) 0 = q.1.n ∧ M (a + 57) 1 = q.1.nb ∧ M (a + 57) 2 = q.1.se ∧ M (a + 57) 3 = q.1.li ∧ M (a + 57) 4 = q.1.ro ∧ M (a + 57) 5 = q.2.ns ∧ M (a + 57) 6 = q.2.ne) ∧ (∀ c, c < q.1.n → M (a + 64) c = q.1.g c ∧ M (a + 58) c = q.1.lot c) ∧ (∀ b, b < q.1.nb → M (a + 59) b = num (q.1.L b) ∧ M (a + 60) b = q.1.mn b) ∧ (∀ k, k < q.2.ns → M (a + 61) k = q.2.who k ∧ M (a + 65) k = q.2.so k) ∧ ∀ k, k < q.2.ne → M (a + 62) k = q.2.what k ∧ M (a + 63) k = q.2.num k
def TXm (M : Mem) (a : Nat) (x : Nat × Vec) : Prop := M a 46 = x.1 ∧ ∀ k, k < x.1 → M (a + 46) k = x.2 k
def TRm (M : Mem) (a : Nat) (t : List (Int × Int)) : Prop := M a 15 = t.length ∧ ∀ k q, t[k]? = some q → M (a + 17) k = q.1 ∧ M (a + 18) k = q.2
def TPm (M : Mem) (a : Nat) (tp : Nat → Int × Nat × Vec) : Prop := ∀ t, t < 6 → M (a + 66) t = (tp t).1 ∧ M (a + 67) t = (tp t).2.1 ∧ ∀ i, i < (tp t).2.1 → M (a + 68 + 36 + 16 * t) i = (tp t).2.2 i
def DI (M : Mem) (s : SS) : Prop := PMm M 20000 s.p ∧ SEm M 20000 s.e ∧ IMm M 20000 s.i ∧ TXm M 20000 s.x ∧ TRm M 20000 s.t ∧ TPm M 20000 s.tp
theorem DI.same {M M' : Mem} {s : SS} (h : DI M s) (h0 : ∀ j, j ≤ 15 ∨ j = 46 ∨ j = 55 → M' 20000 j = M 20000 j) (hx : ∀ x, (20003 ≤ x ∧ x < 20019) ∨ x = 20046 ∨ (20057 ≤ x ∧ x < 20069) ∨ 20104 ≤ x → M' x = M x) : DI M' s := by
  obtain ⟨a1, a2, a3, a4, a5, a6⟩ := h
  refine ⟨?_, ?_, ?_, ?_, ?_, fun t ht => ?_⟩
  · exact a1.same (fun k hk => h0 k (by omega)) (hx _ (by omega)) (hx _ (by omega)) (hx _ (by omega)) (hx _ (by omega))
  · unfold SEm at *
    rw [h0 9 (by omega), h0 10 (by omega), hx (20000 + 12) (by omega), hx (20000 + 13) (by omega), hx (20000 + 14) (by omega), hx (20000 + 15) (by omega)]
    exact a2
  · cases e : s.i with
    | none => rw [e] at a3; exact (h0 55 (by omega)).trans a3
    | some q =>
      rw [e] at a3
      unfold IMm at *
      rw [h0 55 (by omega), hx (20000 + 57) (by omega), hx (20000 + 58) (by omega), hx (20000 + 59) (by omega), hx (20000 + 60) (by omega), hx (20000 + 61) (by omega), hx (20000 + 62) (by omega), hx (20000 + 63) (by omega), hx (20000 + 64) (by omega), hx (20000 + 65) (by omega)]
      exact a3
  · unfold TXm at *
    rw [h0 46 (by omega), hx (20000 + 46) (by omega)]; exact a4
  · unfold TRm at *
    rw [h0 15 (by omega), hx (20000 + 17) (by omega), hx (20000 + 18) (by omega)]; exact a5
  · rw [hx (20000 + 66) (by omega), hx (20000 + 67) (by omega), hx (20000 + 68 + 36 + 16 * t) (by omega)]; exact a6 t ht
theorem DI.fr {M M' : Mem} {s : SS} (h : DI M s) (hf : FrM 20000 M M') : DI M' s := h.same (fun j hj => hf.1 j (by omega) (by omega) (by omega) (by omega) (by omega) (by omega) (by omega)) (fun x hx => hf.2 x (by omega))
/-- a call of both -/
def PC (N : Mem) (s : SS) (ans : Int) (q : Int × Mem) : Prop := q.1 = ans ∧ CI q.2 s ∧ ∀ x, 20000 ≤ x → q.2 x = N x
def PD (N : Mem) (s : SS) (ans : Int) (q : Int × Mem) : Prop := q.1 = ans ∧ DI q.2 s ∧ ∀ x, x < 20000 → q.2 x = N x
theorem PC.self {N : Mem} {s : SS} {ans : Int} (h : CI N s) : PC N s ans (ans, N) := ⟨rfl, h, fun _ _ => rfl⟩
theorem PD.self {N : Mem} {s : SS} {ans : Int} (h : DI N s) : PD N s ans (ans, N) := ⟨rfl, h, fun _ _ => rfl⟩
theorem PC.tr {N M : Mem} {s : SS} {ans : Int} {q : Int × Mem} (h : PC N s ans q) (hx : ∀ x, 20000 ≤ x → N x = M x) : PC M s ans q := ⟨h.1, h.2.1, fun x hx' => (h.2.2 x hx').trans (hx x hx')⟩
theorem PD.tr {N M : Mem} {s : SS} {ans : Int} {q : Int × Mem} (h : PD N s ans q) (hx : ∀ x, x < 20000 → N x = M x) : PD M s ans q := ⟨h.1, h.2.1, fun x hx' => (h.2.2 x hx').trans (hx x hx')⟩
def Op (s : SS) (f g : Mem → Option (Int × Mem)) : Prop := ∃ (ans : Int) (s' : SS), GS s' ∧ (∀ M, CI M s → Ok (f M) (PC M s' ans)) ∧ (∀ M, DI M s → Ok (g M) (PD M s' ans))
def INV (M : Mem) : Prop := ∃ s, GS s ∧ CI M s ∧ DI M s
theorem CI.low {M M' : Mem} {s : SS} (hs : GS s) (h : CI M s) (hx : ∀ x, x < 20000 → M' x = M x) : CI M' s := ⟨h.1.same (by rw [hx 10 (by omega)]) (fun x hx' => hx x (by omega)), h.2.same hs.1.1 (by rw [hx 10 (by omega)]) (fun x hx' => hx x (by omega))⟩
theorem DI.high {M M' : Mem} {s : SS} (h : DI M s) (hx : ∀ x, 20000 ≤ x → M' x = M x) : DI M' s := h.same (fun j _ => by rw [hx 20000 (by omega)]) (fun x hx' => hx x (by omega))
theorem Op.both {s : SS} {f g : Mem → Option (Int × Mem)} (h : Op s f g) {M : Mem} (hC : CI M s) (hD : DI M s) : Ok (f M) (fun q => Ok (g q.2) (fun r => q.1 = r.1 ∧ INV r.2)) := by
  obtain ⟨ans, s', hG, h1, h2⟩ := h
  refine (h1 M hC).mono (fun q hq => ?_)
  obtain ⟨q1, q2, q3⟩ := hq
  refine (h2 q.2 (hD.high q3)).mono (fun r hr => ?_)
  obtain ⟨r1, r2, r3⟩ := hr
  exact ⟨q1.trans r1.symm, s', hG, q2.low hG r3, r2⟩
/-! small pieces -/
theorem hasCand_ok {o : Nat} {n : Nat} {c : Int} {M : Mem} (h0 : M o 0 = n) : fX1_hasCandidate o c M = some (if 0 ≤ c ∧ c < n then 1 else 0, M) := by
  apply ok_eq
  unfold fX1_hasCandidate
  rw [h0]
  refine ok_bi (ok_ite (fun h => ?_) (fun h => ok_ite (fun h2 => ?_) (fun h2 => ?_)))
  · rw [if_neg (by omega)]; (repeat (first | with_reducible refine ok_nm0 ?_ | (with_reducible refine ok_chk ?_ ?_; · omega) | (with_reducible refine ok_if ?_ ?_; · omega) | (with_reducible refine ok_el ?_ ?_; · omega) | with_reducible refine ok_some ?_ | with_reducible refine ok_bi ?_ | with_reducible refine ok_bsm ?_)); try dsimp only
  · rw [if_neg (by omega)]; (repeat (first | with_reducible refine ok_nm0 ?_ | (with_reducible refine ok_chk ?_ ?_; · omega) | (with_reducible refine ok_if ?_ ?_; · omega) | (with_reducible refine ok_el ?_ ?_; · omega) | with_reducible refine ok_some ?_ | with_reducible refine ok_bi ?_ | with_reducible refine ok_bsm ?_)); try dsimp only
  · rw [if_pos (by omega)]; (repeat (first | with_reducible refine ok_nm0 ?_ | (with_reducible refine ok_chk ?_ ?_; · omega) | (with_reducible refine ok_if ?_ ?_; · omega) | (with_reducible refine ok_el ?_ ?_; · omega) | with_reducible refine ok_some ?_ | with_reducible refine ok_bi ?_ | with_reducible refine ok_bsm ?_)); try dsimp only
theorem hasBal_ok {o : Nat} {n : Nat} {c : Int} {M : Mem} (h0 : M o 3 = n) : fX1_hasBallot o c M = some (if 0 ≤ c ∧ c < n then 1 else 0, M) := by
  apply ok_eq
  unfold fX1_hasBallot
  rw [h0]
  refine ok_bi (ok_ite (fun h => ?_) (fun h => ok_ite (fun h2 => ?_) (fun h2 => ?_)))
  · rw [if_neg (by omega)]; (repeat (first | with_reducible refine ok_nm0 ?_ | (with_reducible refine ok_chk ?_ ?_; · omega) | (with_reducible refine ok_if ?_ ?_; · omega) | (with_reducible refine ok_el ?_ ?_; · omega) | with_reducible refine ok_some ?_ | with_reducible refine ok_bi ?_ | with_reducible refine ok_bsm ?_)); try dsimp only
  · rw [if_neg (by omega)]; (repeat (first | with_reducible refine ok_nm0 ?_ | (with_reducible refine ok_chk ?_ ?_; · omega) | (with_reducible refine ok_if ?_ ?_; · omega) | (with_reducible refine ok_el ?_ ?_; · omega) | with_reducible refine ok_some ?_ | with_reducible refine ok_bi ?_ | with_reducible refine ok_bsm ?_)); try dsimp only
  · rw [if_pos (by omega)]; (repeat (first | with_reducible refine ok_nm0 ?_ | (with_reducible refine ok_chk ?_ ?_; · omega) | (with_reducible refine ok_if ?_ ?_; · omega) | (with_reducible refine ok_el ?_ ?_; · omega) | with_reducible refine ok_some ?_ | with_reducible refine ok_bi ?_ | with_reducible refine ok_bsm ?_)); try dsimp only
theorem in_ok {x l u : Int} {M : Mem} : fX9_in x l u M = some (if l ≤ x ∧ x ≤ u then 1 else 0, M) := by
  apply ok_eq
  unfold fX9_in
  refine ok_bi (ok_ite (fun h => ?_) (fun h => ok_ite (fun h2 => ?_) (fun h2 => ?_)))
  · rw [if_neg (by omega)]; (repeat (first | with_reducible refine ok_nm0 ?_ | (with_reducible refine ok_chk ?_ ?_; · omega) | (with_reducible refine ok_if ?_ ?_; · omega) | (with_reducible refine ok_el ?_ ?_; · omega) | with_reducible refine ok_some ?_ | with_reducible refine ok_bi ?_ | with_reducible refine ok_bsm ?_)); try dsimp only
  · rw [if_neg (by omega)]; (repeat (first | with_reducible refine ok_nm0 ?_ | (with_reducible refine ok_chk ?_ ?_; · omega) | (with_reducible refine ok_if ?_ ?_; · omega) | (with_reducible refine ok_el ?_ ?_; · omega) | with_reducible refine ok_some ?_ | with_reducible refine ok_bi ?_ | with_reducible refine ok_bsm ?_)); try dsimp only
  · rw [if_pos (by omega)]; (repeat (first | with_reducible refine ok_nm0 ?_ | (with_reducible refine ok_chk ?_ ?_; · omega) | (with_reducible refine ok_if ?_ ?_; · omega) | (with_reducible refine ok_el ?_ ?_; · omega) | with_reducible refine ok_some ?_ | with_reducible refine ok_bi ?_ | with_reducible refine ok_bsm ?_)); try dsimp only
theorem b01 (c : Prop) [Decidable c] : (if c then (1 : Int) else 0) = 0 ∨ (if c then (1 : Int) else 0) = 1 := by split <;> omega
theorem isOne_ok {a n : Nat} {c : Int} {M : Mem} (hn : n ≤ 8) (h0 : M a 0 = n) : fX9_isOne a c M = some (if 0 ≤ c ∧ c < n then 1 else 0, M) := by
  apply ok_eq
  unfold fX9_isOne
  rw [h0]
  refine ok_chk (by omega) (ok_bs in_ok (ok_chk (b01 _) (ok_some ?_)))
  dsimp only
  by_cases h : 0 ≤ c ∧ c < n
  · rw [if_pos (by omega), if_pos h]
  · rw [if_neg (by omega), if_neg h]
theorem isBal_ok {a n : Nat} {c : Int} {M : Mem} (hn : n ≤ 25) (h0 : M a 1 = n) : fX9_isBallot a c M = some (if 0 ≤ c ∧ c < n then 1 else 0, M) := by
  apply ok_eq
  unfold fX9_isBallot
  rw [h0]
  refine ok_chk (by omega) (ok_bs in_ok (ok_chk (b01 _) (ok_some ?_)))
  dsimp only
  by_cases h : 0 ≤ c ∧ c < n
  · rw [if_pos (by omega), if_pos h]
  · rw [if_neg (by omega), if_neg h]
theorem tallied_ok {M : Mem} {s : SS} (hs : GS s) (h : CI M s) : Ok (fX8_tallied 10 M) (fun q => q.1 = some 1000 ∧ CI q.2 s ∧ CT q.2 1000 s.p (cnt s.p) ∧ ∀ x, x ≠ 10 → (x < 1000 ∨ 2000 ≤ x) → q.2 x = M x) := by
  unfold fX8_tallied
  simp only [Nat.reduceAdd]
  refine ok_bi (ok_ite (fun h6 => ?_) (fun h6 => ?_))
  · refine ok_by (work_ok (t := 1000) hs.1.1 h.1.1.1) (fun q hq => ok_nm0 (ok_some ?_))
    obtain ⟨q1, q2⟩ := hq
    have fx : ∀ x, x ≠ 10 → (x < 1000 ∨ 2000 ≤ x) → wr q.2 10 6 1 x = M x := fun x hx hx2 => by rw [wrn hx]; exact q2 x (by omega)
    have hCT : CT (wr q.2 10 6 1) 1000 s.p (cnt s.p) := q1.same (cnt_len hs.1.1) (fun x hx => wrn (by omega))
    refine ok_some ⟨rfl, ⟨h.1.same (by (try dsimp only); rw [wrk _ (by decide), q2 10 (by omega)]) (fun x hx => fx x (by omega) (by omega)), Or.inr ⟨by (try dsimp only); rw [wra], hCT⟩⟩, hCT, fx⟩
  · have hCT := (h.2.resolve_left h6).2
    exact ok_some (ok_some ⟨rfl, h, hCT, fun _ _ _ => rfl⟩)
end
