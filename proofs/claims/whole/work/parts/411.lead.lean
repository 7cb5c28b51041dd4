section
/-! THE LOT -/
def posR (lot : Vec) (c : Nat) : Nat → Int
  | 0 => 0
  | i + 1 => if lot i = (c : Int) then (i : Int) else posR lot c i
def pos (p : PL) : Vec := fun c => posR p.lot c p.n
def npos (p : PL) : Vec := fun c => - pos p c
theorem posR_eq {lot : Vec} {c i : Nat} (hi : lot i = (c : Int)) : ∀ m, i < m → (∀ j, j < m → lot j = (c : Int) → j = i) → posR lot c m = i
  | 0, h, _ => by omega
  | m + 1, h, hu => by
    unfold posR
    by_cases e : lot m = (c : Int)
    · rw [if_pos e, hu m (by omega) e]
    · rw [if_neg e]
      have : i ≠ m := fun e2 => e (e2 ▸ hi)
      exact posR_eq hi m (by omega) (fun j hj => hu j (by omega))
theorem Perm.at {n : Nat} {lot : Vec} (h : Perm n lot) {i : Nat} (hi : i < n) : ∃ c, c < n ∧ lot i = (c : Int) := by
  obtain ⟨inv, h1, h2⟩ := h
  obtain ⟨c, hc, e, _⟩ := h1 i hi
  exact ⟨c, hc, e⟩
theorem Perm.inj {n : Nat} {lot : Vec} (h : Perm n lot) {i j : Nat} (hi : i < n) (hj : j < n) (e : lot i = lot j) : i = j := by
  obtain ⟨inv, h1, h2⟩ := h
  obtain ⟨c, hc, e1, e2⟩ := h1 i hi
  obtain ⟨d, hd, e3, e4⟩ := h1 j hj
  have : c = d := by rw [e1, e3] at e; exact_mod_cast e
  rw [← e2, ← e4, this]
theorem Perm.sur {n : Nat} {lot : Vec} (h : Perm n lot) {c : Nat} (hc : c < n) : ∃ i, i < n ∧ lot i = (c : Int) := by
  obtain ⟨inv, h1, h2⟩ := h
  exact ⟨inv c, h2 c hc⟩
theorem pos_lot {p : PL} (h : WF p) {i c : Nat} (hi : i < p.n) (e : p.lot i = (c : Int)) : pos p c = i := posR_eq e p.n hi (fun j hj e2 => h.2.2.2.1.inj hj hi (by rw [e, e2]))
theorem pos_at {p : PL} (h : WF p) {c : Nat} (hc : c < p.n) : ∃ i, i < p.n ∧ p.lot i = (c : Int) ∧ pos p c = i := by
  obtain ⟨i, hi, e⟩ := h.2.2.2.1.sur hc
  exact ⟨i, hi, e, pos_lot h hi e⟩
theorem pos_inj {p : PL} (h : WF p) : ∀ c d, c < p.n → d < p.n → pos p c = pos p d → c = d := by
  intro c d hc hd e
  obtain ⟨i, hi, e1, e2⟩ := pos_at h hc
  obtain ⟨j, hj, e3, e4⟩ := pos_at h hd
  have : i = j := by omega
  subst this
  rw [e1] at e3
  exact_mod_cast e3
theorem npos_inj {p : PL} (h : WF p) : ∀ c d, c < p.n → d < p.n → npos p c = npos p d → c = d := fun c d hc hd e => pos_inj h c d hc hd (by unfold npos at e; omega)
/-- the most first -/
def av (p : PL) (got : Vec) : List Vec := [fun c => - got c, pos p]
theorem av_tot {p : PL} (h : WF p) (got : Vec) : Tot p.n (av p got) := (Tot.one (pos_inj h)).cons _
theorem av_iff {p : PL} {got : Vec} {c d : Nat} : lx (av p got) c d = true ↔ got d < got c ∨ (got c = got d ∧ pos p c < pos p d) := by
  unfold av
  rw [lx_cons, lx_cons]
  simp only [lx]
  constructor
  · rintro (h | ⟨h, h2 | ⟨_, h3⟩⟩)
    · exact Or.inl (by omega)
    · exact Or.inr ⟨by omega, h2⟩
    · cases h3
  · rintro (h | ⟨h, h2⟩)
    · exact Or.inl (by omega)
    · exact Or.inr ⟨by omega, Or.inl h2⟩
def opt : Option Nat → Int
  | none => -1
  | some c => c
theorem scan_vcongr : ∀ {n : Nat} {vs us : List Vec} {w : Nat → Bool}, (∀ c d, c < n → d < n → lx vs c d = lx us c d) → scan n vs w = scan n us w
  | 0, _, _, _, _ => rfl
  | n + 1, vs, us, w, h => by
    have ih := scan_vcongr (n := n) (vs := vs) (us := us) (w := w) (fun c d hc hd => h c d (by omega) (by omega))
    unfold scan
    rw [ih]
    cases e : scan n us w with
    | none => rfl
    | some b =>
      have hb : b < n := by
        have : ∀ {m : Nat} {b : Nat}, scan m us w = some b → b < m := by
          intro m
          induction m with
          | zero => intro b h; cases h
          | succ m ih =>
            intro b h
            unfold scan at h
            split at h
            · cases e2 : scan m us w with
              | none => rw [e2] at h; cases h; omega
              | some d =>
                rw [e2] at h
                dsimp only at h
                split at h
                · cases h; omega
                · cases h; have := ih e2; omega
            · have := ih h; omega
        exact this e
      dsimp only
      rw [h n b (by omega) (by omega)]
theorem srt_vcongr : ∀ {k n : Nat} {vs us : List Vec} {w : Nat → Bool}, (∀ c d, c < n → d < n → lx vs c d = lx us c d) → srt k n vs w = srt k n us w
  | 0, _, _, _, _, _ => rfl
  | k + 1, n, vs, us, w, h => by
    have e2 := scan_vcongr (w := w) h
    cases e : scan n vs w with
    | none => rw [srt_none e, srt_none (e2 ▸ e)]
    | some c => rw [srt_some e, srt_some (e2 ▸ e), srt_vcongr h]
theorem av_congr {p : PL} {f g : Vec} (h : Ag p.n f g) : ∀ c d, c < p.n → d < p.n → lx (av p f) c d = lx (av p g) c d := by
  intro c d hc hd
  have h1 := h c hc
  have h2 := h d hd
  rw [Bool.eq_iff_iff, av_iff, av_iff, h1, h2]
theorem bt_f {w : Int} (h0 : 0 ≤ w) (h1 : w < 512) {c : Nat} (hc : c < 9) (h : bt w c = false) : bAnd (bShr w (c : Int)) 1 = 0 := by
  rw [bt_shr h0 h1 hc, h]; rfl
theorem bt_t {w : Int} (h0 : 0 ≤ w) (h1 : w < 512) {c : Nat} (hc : c < 9) (h : bt w c = true) : bAnd (bShr w (c : Int)) 1 = 1 := by
  rw [bt_shr h0 h1 hc, h]; rfl
theorem leader_l28 {t v : Nat} {p : PL} {M : Mem} {left i k : Int} (h : WF p) (hc : PCc M (t + 10000) p) (h0 : 0 ≤ left) (h1 : left < 256) : ∀ (m q : Nat) (x : Int), q ≤ p.n → p.n < m + q → ((x = -1 ∧ ∀ j c : Nat, j < q → p.lot j = (c : Int) → bt left c = false) ∨ ∃ c : Nat, x = c ∧ c < p.n ∧ bt left c = true ∧ pos p c < q ∧ ∀ j d : Nat, j < q → p.lot j = (d : Int) → bt left d = true → d ≠ c → lx (av p (M v)) c d = true) → Ok (fX4_leader_l28 t v i left k m x q M) (fun z => z.1 = opt (scan p.n (av p (M v)) (bt left)) ∧ z.2.2 = M) := by
  intro m
  have hn8 := h.1
  induction m with
  | zero => intros; omega
  | succ m ih =>
    intro q x h2 h3 hI
    unfold fX4_leader_l28
    rw [hc.1]
    refine ok_ite (fun hq => ok_some ⟨?_, rfl⟩) (fun hq => ?_)
    · have e : q = p.n := by omega
      subst e
      rcases hI with ⟨e, hno⟩ | ⟨c, e, hcn, hb, _, hall⟩
      · rw [scan_no (av_tot h _) (fun c hc => by obtain ⟨j, hj, e2, _⟩ := pos_at h hc; exact hno j c hj e2)]
        exact e
      · rw [scan_min (av_tot h _) (c := c) ⟨hcn, hb, fun d hd hbd hne => by obtain ⟨j, hj, e2, _⟩ := pos_at h hd; exact hall j d hj e2 hbd hne⟩]
        exact e
    · have hqn : q < p.n := by omega
      obtain ⟨d, hd, ed⟩ := h.2.2.2.1.at hqn
      have hl := (hc.2.2.1 q hqn).2
      have hpd := pos_lot h hqn ed
      (repeat (first | with_reducible refine ok_nm0 ?_ | (with_reducible refine ok_chk ?_ ?_; · omega) | (with_reducible refine ok_if ?_ ?_; · omega) | (with_reducible refine ok_el ?_ ?_; · omega) | with_reducible refine ok_some ?_ | with_reducible refine ok_bi ?_ | with_reducible refine ok_bsm ?_)); try dsimp only
      rw [tn, hl, ed]
      cases hb : bt left d
      · have hz := bt_f h0 (by omega) (by omega) hb
        (repeat (first | with_reducible refine ok_nm0 ?_ | (with_reducible refine ok_chk ?_ ?_; · omega) | (with_reducible refine ok_if ?_ ?_; · omega) | (with_reducible refine ok_el ?_ ?_; · omega) | with_reducible refine ok_some ?_ | with_reducible refine ok_bi ?_ | with_reducible refine ok_bsm ?_)); try dsimp only
        refine ih (q + 1) x (by omega) (by omega) ?_
        rcases hI with ⟨e, hno⟩ | ⟨c, e, hcn, hbc, hpc, hall⟩
        · refine Or.inl ⟨e, fun j c hj ec => ?_⟩
          by_cases ej : j = q
          · subst ej
            rw [ed] at ec
            have : d = c := by exact_mod_cast ec
            subst this; exact hb
          · exact hno j c (by omega) ec
        · refine Or.inr ⟨c, e, hcn, hbc, by omega, fun j f hj ef hbf hne => ?_⟩
          by_cases ej : j = q
          · subst ej
            rw [ed] at ef
            have : d = f := by exact_mod_cast ef
            subst this; rw [hb] at hbf; cases hbf
          · exact hall j f (by omega) ef hbf hne
      · have hz := bt_t h0 (by omega) (by omega) hb
        (repeat (first | with_reducible refine ok_nm0 ?_ | (with_reducible refine ok_chk ?_ ?_; · omega) | (with_reducible refine ok_if ?_ ?_; · omega) | (with_reducible refine ok_el ?_ ?_; · omega) | with_reducible refine ok_some ?_ | with_reducible refine ok_bi ?_ | with_reducible refine ok_bsm ?_)); try dsimp only
        rcases hI with ⟨e, hno⟩ | ⟨c, e, hcn, hbc, hpc, hall⟩
        · (repeat (first | with_reducible refine ok_nm0 ?_ | (with_reducible refine ok_chk ?_ ?_; · omega) | (with_reducible refine ok_if ?_ ?_; · omega) | (with_reducible refine ok_el ?_ ?_; · omega) | with_reducible refine ok_some ?_ | with_reducible refine ok_bi ?_ | with_reducible refine ok_bsm ?_)); try dsimp only
          refine ih (q + 1) _ (by omega) (by omega) (Or.inr ⟨d, rfl, hd, hb, by omega, fun j f hj ef hbf hne => ?_⟩)
          by_cases ej : j = q
          · subst ej
            rw [ed] at ef
            exact absurd (by exact_mod_cast ef.symm) hne
          · rw [hno j f (by omega) ef] at hbf; cases hbf
        · subst e
          have hne : d ≠ c := fun e => by subst e; omega
          (repeat (first | with_reducible refine ok_nm0 ?_ | (with_reducible refine ok_chk ?_ ?_; · omega) | (with_reducible refine ok_if ?_ ?_; · omega) | (with_reducible refine ok_el ?_ ?_; · omega) | with_reducible refine ok_some ?_ | with_reducible refine ok_bi ?_ | with_reducible refine ok_bsm ?_)); try dsimp only
          rw [tn, tn]
          refine ok_ite (fun hle => ?_) (fun hle => ?_)
          · (repeat (first | with_reducible refine ok_nm0 ?_ | (with_reducible refine ok_chk ?_ ?_; · omega) | (with_reducible refine ok_if ?_ ?_; · omega) | (with_reducible refine ok_el ?_ ?_; · omega) | with_reducible refine ok_some ?_ | with_reducible refine ok_bi ?_ | with_reducible refine ok_bsm ?_)); try dsimp only
            refine ih (q + 1) _ (by omega) (by omega) (Or.inr ⟨c, rfl, hcn, hbc, by omega, fun j f hj ef hbf hnf => ?_⟩)
            by_cases ej : j = q
            · subst ej
              rw [ed] at ef
              have : d = f := by exact_mod_cast ef
              subst this
              rw [av_iff]
              by_cases e2 : M v c = M v d
              · exact Or.inr ⟨e2, by omega⟩
              · exact Or.inl (by omega)
            · exact hall j f (by omega) ef hbf hnf
          · (repeat (first | with_reducible refine ok_nm0 ?_ | (with_reducible refine ok_chk ?_ ?_; · omega) | (with_reducible refine ok_if ?_ ?_; · omega) | (with_reducible refine ok_el ?_ ?_; · omega) | with_reducible refine ok_some ?_ | with_reducible refine ok_bi ?_ | with_reducible refine ok_bsm ?_)); try dsimp only
            refine ih (q + 1) _ (by omega) (by omega) (Or.inr ⟨d, rfl, hd, hb, by omega, fun j f hj ef hbf hnf => ?_⟩)
            have hdc : lx (av p (M v)) d c = true := av_iff.mpr (Or.inl (by omega))
            by_cases ej : j = q
            · subst ej
              rw [ed] at ef
              exact absurd (by exact_mod_cast ef.symm) hnf
            · by_cases efc : f = c
              · subst efc; exact hdc
              · exact lx_trans hdc (hall j f (by omega) ef hbf efc)
theorem leader_l9 {t v : Nat} {p : PL} {M : Mem} {i : Nat} (h : WF p) (hc : PCc M (t + 10000) p) (hi : i < 8) : ∀ (m k : Nat) (left x : Int), k ≤ i → i + 1 < m + k → 0 ≤ left → left < 256 → Ok (fX4_leader_l9 t v i m left x k M) (fun z => z.2.1 = opt ((srt (i - k + 1) p.n (av p (M v)) (bt left))[i - k]?) ∧ z.2.2.2 = M) := by
  intro m
  have hn8 := h.1
  induction m with
  | zero => intros; omega
  | succ m ih =>
    intro k left x h2 h3 h0 h1
    unfold fX4_leader_l9
    refine ok_el (by omega) (ok_el (by omega) ?_)
    refine ok_by (leader_l28 h hc h0 h1 1000 0 (-1) (by omega) (by omega) (Or.inl ⟨rfl, fun j c hj => by omega⟩)) (fun z hz => ?_)
    obtain ⟨z1, z2⟩ := hz
    rw [z1, z2]
    have fin : ∀ (left' y : Int), k = i → y = opt (scan p.n (av p (M v)) (bt left)) → Ok (fX4_leader_l9 t v i m left' y (k + 1) M) (fun z => z.2.1 = opt ((srt (i - k + 1) p.n (av p (M v)) (bt left))[i - k]?) ∧ z.2.2.2 = M) := by
      intro left' y e ey
      subst e
      cases m with
      | zero => omega
      | succ m =>
        unfold fX4_leader_l9
        refine ok_if (by omega) (ok_some ⟨?_, rfl⟩)
        show y = _
        rw [ey, Nat.sub_self]
        cases es : scan p.n (av p (M v)) (bt left) with
        | none => rw [srt_none es]; rfl
        | some c => rw [srt_some es]; rfl
    cases es : scan p.n (av p (M v)) (bt left) with
    | none =>
      show Ok (Option.bind (if (-1 : Int) < 0 then _ else _) _) _
      (repeat (first | with_reducible refine ok_nm0 ?_ | (with_reducible refine ok_chk ?_ ?_; · omega) | (with_reducible refine ok_if ?_ ?_; · omega) | (with_reducible refine ok_el ?_ ?_; · omega) | with_reducible refine ok_some ?_ | with_reducible refine ok_bi ?_ | with_reducible refine ok_bsm ?_)); try dsimp only
      by_cases e : k = i
      · exact fin _ _ e (by rw [es])
      · refine (ih (k + 1) left (-1) (by omega) (by omega) h0 h1).mono (fun z hz => ⟨?_, hz.2⟩)
        rw [hz.1, srt_none es, srt_none es]
        rfl
    | some c =>
      have hm := scan_some (av_tot h _) es
      have hc8 : c < 8 := by have := hm.1; omega
      have hcl := bt_cl h0 h1 hc8
      show Ok (Option.bind (if (c : Int) < 0 then _ else _) _) _
      (repeat (first | with_reducible refine ok_nm0 ?_ | (with_reducible refine ok_chk ?_ ?_; · omega) | (with_reducible refine ok_if ?_ ?_; · omega) | (with_reducible refine ok_el ?_ ?_; · omega) | with_reducible refine ok_some ?_ | with_reducible refine ok_bi ?_ | with_reducible refine ok_bsm ?_)); try dsimp only
      by_cases e : k = i
      · exact fin _ _ e (by rw [es])
      · refine (ih (k + 1) _ c (by omega) (by omega) hcl.1 hcl.2.1).mono (fun z hz => ⟨?_, hz.2⟩)
        rw [hz.1, srt_some es, show i - k = i - (k + 1) + 1 by omega, List.getElem?_cons_succ]
        rw [srt_congr (av_tot h _) (w' := wo (bt left) c) (fun d hd => by rw [hcl.2.2 d (by omega)]; rfl)]
theorem leader_ok {t v : Nat} {p : PL} {M : Mem} {i : Nat} {left : Int} (h : WF p) (hc : PCc M (t + 10000) p) (hi : i < 8) (h0 : 0 ≤ left) (h1 : left < 256) : fX4_leader t v left i M = some (opt ((srt (i + 1) p.n (av p (M v)) (bt left))[i]?), M) := by
  apply ok_eq
  unfold fX4_leader
  refine ok_by (leader_l9 h hc hi 1000 0 left _ (by omega) (by omega) h0 h1) (fun z hz => ok_some ?_)
  rw [hz.1, hz.2]
  rfl
theorem whoIs_l {t n : Nat} {what : Int} {M : Mem} (hn : n ≤ 8) (h0 : M (t + 10000) 0 = n) : ∀ (m c : Nat) (x : Int), c ≤ n → n < m + c → x = mk c (fun c => decide (M (t + 3) c = what)) → Ok (fX4_whoIs_l4 t what m x c M) (fun z => z.1 = mk n (fun c => decide (M (t + 3) c = what)) ∧ z.2.2 = M) := by
  intro m
  induction m with
  | zero => intros; omega
  | succ m ih =>
    intro c x h1 h2 hx
    unfold fX4_whoIs_l4
    rw [h0]
    refine ok_ite (fun hc => ok_some ⟨?_, rfl⟩) (fun hc => ?_)
    · have : c = n := by omega
      subst this; exact hx
    · (repeat (first | with_reducible refine ok_nm0 ?_ | (with_reducible refine ok_chk ?_ ?_; · omega) | (with_reducible refine ok_if ?_ ?_; · omega) | (with_reducible refine ok_el ?_ ?_; · omega) | with_reducible refine ok_some ?_ | with_reducible refine ok_bi ?_ | with_reducible refine ok_bsm ?_)); try dsimp only
      rw [tn]
      refine ok_ite (fun hq => ?_) (fun hq => ?_)
      · (repeat (first | with_reducible refine ok_nm0 ?_ | (with_reducible refine ok_chk ?_ ?_; · omega) | (with_reducible refine ok_if ?_ ?_; · omega) | (with_reducible refine ok_el ?_ ?_; · omega) | with_reducible refine ok_some ?_ | with_reducible refine ok_bi ?_ | with_reducible refine ok_bsm ?_)); try dsimp only
        refine ih (c + 1) _ (by omega) (by omega) ?_
        rw [hx, mk_pos (by omega) (by simpa using hq)]
      · (repeat (first | with_reducible refine ok_nm0 ?_ | (with_reducible refine ok_chk ?_ ?_; · omega) | (with_reducible refine ok_if ?_ ?_; · omega) | (with_reducible refine ok_el ?_ ?_; · omega) | with_reducible refine ok_some ?_ | with_reducible refine ok_bi ?_ | with_reducible refine ok_bsm ?_)); try dsimp only
        refine ih (c + 1) _ (by omega) (by omega) ?_
        rw [hx, mk_neg (by simpa using hq)]
theorem whoIs_ok {t n : Nat} {what : Int} {M : Mem} (hn : n ≤ 8) (h0 : M (t + 10000) 0 = n) : fX4_whoIs t what M = some (mk n (fun c => decide (M (t + 3) c = what)), M) := by
  apply ok_eq
  unfold fX4_whoIs
  refine ok_by (whoIs_l hn h0 1000 0 0 (by omega) (by omega) rfl) (fun z hz => ok_some ?_)
  rw [hz.1, hz.2]
theorem lastInLot_l {t : Nat} {p : PL} {w : Int} {M : Mem} (h : WF p) (hc : PCc M (t + 10000) p) (h0 : 0 ≤ w) (h1 : w < 256) : ∀ (m i : Nat), i ≤ p.n → i < m → (∀ j c : Nat, i ≤ j → j < p.n → p.lot j = (c : Int) → bt w c = false) → Ok (fX4_lastInLot_l10 t w m ((i : Int) - 1) M) (fun z => ∃ a, z = .inl a ∧ a.1 = opt (scan p.n [npos p] (bt w)) ∧ a.2 = M) := by
  intro m
  have hn8 := h.1
  have ht : Tot p.n [npos p] := Tot.one (npos_inj h)
  induction m with
  | zero => intros; omega
  | succ m ih =>
    intro i h2 h3 hno
    unfold fX4_lastInLot_l10
    cases i with
    | zero =>
      refine ok_if (by omega) (ok_some ⟨_, rfl, ?_, rfl⟩)
      rw [scan_no ht (fun c hc => by obtain ⟨j, hj, e2, _⟩ := pos_at h hc; exact hno j c (by omega) hj e2)]
      rfl
    | succ i =>
      rw [show ((i + 1 : Nat) : Int) - 1 = (i : Int) by omega]
      obtain ⟨d, hd, ed⟩ := h.2.2.2.1.at (show i < p.n by omega)
      have hl := (hc.2.2.1 i (by omega)).2
      have hpd := pos_lot h (show i < p.n by omega) ed
      (repeat (first | with_reducible refine ok_nm0 ?_ | (with_reducible refine ok_chk ?_ ?_; · omega) | (with_reducible refine ok_if ?_ ?_; · omega) | (with_reducible refine ok_el ?_ ?_; · omega) | with_reducible refine ok_some ?_ | with_reducible refine ok_bi ?_ | with_reducible refine ok_bsm ?_)); try dsimp only
      rw [tn, hl, ed]
      cases hb : bt w d
      · have hz := bt_f h0 (by omega) (by omega) hb
        (repeat (first | with_reducible refine ok_nm0 ?_ | (with_reducible refine ok_chk ?_ ?_; · omega) | (with_reducible refine ok_if ?_ ?_; · omega) | (with_reducible refine ok_el ?_ ?_; · omega) | with_reducible refine ok_some ?_ | with_reducible refine ok_bi ?_ | with_reducible refine ok_bsm ?_)); try dsimp only
        refine ih i (by omega) (by omega) (fun j c hj hjn ec => ?_)
        by_cases ej : j = i
        · subst ej
          rw [ed] at ec
          have : d = c := by exact_mod_cast ec
          subst this; exact hb
        · exact hno j c (by omega) hjn ec
      · have hz := bt_t h0 (by omega) (by omega) hb
        (repeat (first | with_reducible refine ok_nm0 ?_ | (with_reducible refine ok_chk ?_ ?_; · omega) | (with_reducible refine ok_if ?_ ?_; · omega) | (with_reducible refine ok_el ?_ ?_; · omega) | with_reducible refine ok_some ?_ | with_reducible refine ok_bi ?_ | with_reducible refine ok_bsm ?_)); try dsimp only
        refine ⟨_, rfl, ?_, rfl⟩
        rw [scan_min ht (c := d)]
        · rfl
        · refine ⟨hd, hb, fun f hf hbf hne => ?_⟩
          obtain ⟨j, hj, e1, e2⟩ := pos_at h hf
          by_cases ej : i + 1 ≤ j
          · rw [hno j f ej hj e1] at hbf; cases hbf
          · refine lx_cons.mpr (Or.inl ?_)
            have : j ≠ i := fun e => by subst e; rw [ed] at e1; exact hne (by exact_mod_cast e1.symm)
            unfold npos
            omega
theorem lastInLot_ok {t : Nat} {p : PL} {w : Int} {M : Mem} (h : WF p) (hc : PCc M (t + 10000) p) (h0 : 0 ≤ w) (h1 : w < 256) : fX4_lastInLot t w M = some (opt (scan p.n [npos p] (bt w)), M) := by
  have hn8 := h.1
  apply ok_eq
  unfold fX4_lastInLot
  rw [hc.1]
  (repeat (first | with_reducible refine ok_nm0 ?_ | (with_reducible refine ok_chk ?_ ?_; · omega) | (with_reducible refine ok_if ?_ ?_; · omega) | (with_reducible refine ok_el ?_ ?_; · omega) | with_reducible refine ok_some ?_ | with_reducible refine ok_bi ?_ | with_reducible refine ok_bsm ?_)); try dsimp only
  refine ok_lrl ((lastInLot_l h hc h0 h1 1000 p.n (by omega) (by omega) (fun j c h2 h3 => by omega)).mono (fun z hz => ?_))
  obtain ⟨a, e, h2, h3⟩ := hz
  exact ⟨a, e, Prod.ext h2 h3⟩
theorem fewest_l {t v n : Nat} {w : Int} {M : Mem} (hn : n ≤ 8) (h0 : M (t + 10000) 0 = n) (hw0 : 0 ≤ w) (hw1 : w < 256) (hv : ∀ c, c < n → M v c < 9223372036854775807) : ∀ (m c : Nat) (x y : Int), c ≤ n → n < m + c → x = mk c (fun d => bt w d && decide (M v d = y)) → (∀ d, d < c → bt w d = true → y ≤ M v d) → (y = 9223372036854775807 ∨ ∃ d, d < c ∧ bt w d = true ∧ M v d = y) → Ok (fX4_whoHasFewest_l10 t v w m x y c M) (fun z => z.1 = mk n (fl n (M v) (bt w)) ∧ z.2.2.2 = M) := by
  intro m
  induction m with
  | zero => intros; omega
  | succ m ih =>
    intro c x y h1 h2 hx hmin hex
    unfold fX4_whoHasFewest_l10
    rw [h0]
    refine ok_ite (fun hc => ok_some ⟨?_, rfl⟩) (fun hc => ?_)
    · have e : c = n := by omega
      subst e
      rw [hx]
      refine mk_congr (fun d hd => ?_)
      rw [Bool.eq_iff_iff, fl_iff]
      simp only [Bool.and_eq_true, decide_eq_true_eq]
      constructor
      · rintro ⟨hb, e⟩
        exact ⟨hb, fun f hf hbf => by rw [e]; exact hmin f hf hbf⟩
      · rintro ⟨hb, hall⟩
        refine ⟨hb, ?_⟩
        have h3 := hmin d hd hb
        rcases hex with e | ⟨f, hf, hbf, e⟩
        · have := hv d hd; omega
        · have := hall f hf hbf; omega
    · have hcn : c < n := by omega
      have hvc := hv c hcn
      (repeat (first | with_reducible refine ok_nm0 ?_ | (with_reducible refine ok_chk ?_ ?_; · omega) | (with_reducible refine ok_if ?_ ?_; · omega) | (with_reducible refine ok_el ?_ ?_; · omega) | with_reducible refine ok_some ?_ | with_reducible refine ok_bi ?_ | with_reducible refine ok_bsm ?_)); try dsimp only
      cases hb : bt w c
      · have hz := bt_f hw0 (by omega) (by omega) hb
        (repeat (first | with_reducible refine ok_nm0 ?_ | (with_reducible refine ok_chk ?_ ?_; · omega) | (with_reducible refine ok_if ?_ ?_; · omega) | (with_reducible refine ok_el ?_ ?_; · omega) | with_reducible refine ok_some ?_ | with_reducible refine ok_bi ?_ | with_reducible refine ok_bsm ?_)); try dsimp only
        refine ih (c + 1) _ _ (by omega) (by omega) ?_ (fun d hd hbd => ?_) ?_
        · rw [← mk_neg (by rw [hb]; rfl)]; exact hx
        · by_cases e : d = c
          · subst e; rw [hb] at hbd; cases hbd
          · exact hmin d (by omega) hbd
        · rcases hex with e | ⟨f, hf, hbf, e⟩
          · exact Or.inl e
          · exact Or.inr ⟨f, by omega, hbf, e⟩
      · have hz := bt_t hw0 (by omega) (by omega) hb
        (repeat (first | with_reducible refine ok_nm0 ?_ | (with_reducible refine ok_chk ?_ ?_; · omega) | (with_reducible refine ok_if ?_ ?_; · omega) | (with_reducible refine ok_el ?_ ?_; · omega) | with_reducible refine ok_some ?_ | with_reducible refine ok_bi ?_ | with_reducible refine ok_bsm ?_)); try dsimp only
        rw [tn]
        refine ok_ite (fun hle => ?_) (fun hle => ?_)
        · (repeat (first | with_reducible refine ok_nm0 ?_ | (with_reducible refine ok_chk ?_ ?_; · omega) | (with_reducible refine ok_if ?_ ?_; · omega) | (with_reducible refine ok_el ?_ ?_; · omega) | with_reducible refine ok_some ?_ | with_reducible refine ok_bi ?_ | with_reducible refine ok_bsm ?_)); try dsimp only
          refine ok_ite (fun he => ?_) (fun he => ?_)
          · (repeat (first | with_reducible refine ok_nm0 ?_ | (with_reducible refine ok_chk ?_ ?_; · omega) | (with_reducible refine ok_if ?_ ?_; · omega) | (with_reducible refine ok_el ?_ ?_; · omega) | with_reducible refine ok_some ?_ | with_reducible refine ok_bi ?_ | with_reducible refine ok_bsm ?_)); try dsimp only
            refine ih (c + 1) _ _ (by omega) (by omega) ?_ (fun d hd hbd => ?_) (Or.inr ⟨c, by omega, hb, he⟩)
            · rw [hx, mk_pos (by omega) (by rw [hb]; simpa using he)]
            · by_cases e : d = c
              · subst e; exact hle
              · exact hmin d (by omega) hbd
          · (repeat (first | with_reducible refine ok_nm0 ?_ | (with_reducible refine ok_chk ?_ ?_; · omega) | (with_reducible refine ok_if ?_ ?_; · omega) | (with_reducible refine ok_el ?_ ?_; · omega) | with_reducible refine ok_some ?_ | with_reducible refine ok_bi ?_ | with_reducible refine ok_bsm ?_)); try dsimp only
            refine ih (c + 1) _ _ (by omega) (by omega) ?_ (fun d hd hbd => ?_) ?_
            · rw [hx, mk_neg (by rw [hb]; simpa using he)]
            · by_cases e : d = c
              · subst e; exact hle
              · exact hmin d (by omega) hbd
            · rcases hex with e | ⟨f, hf, hbf, e⟩
              · exact Or.inl e
              · exact Or.inr ⟨f, by omega, hbf, e⟩
        · (repeat (first | with_reducible refine ok_nm0 ?_ | (with_reducible refine ok_chk ?_ ?_; · omega) | (with_reducible refine ok_if ?_ ?_; · omega) | (with_reducible refine ok_el ?_ ?_; · omega) | with_reducible refine ok_some ?_ | with_reducible refine ok_bi ?_ | with_reducible refine ok_bsm ?_)); try dsimp only
          refine ih (c + 1) _ _ (by omega) (by omega) ?_ (fun d hd hbd => ?_) (Or.inr ⟨c, by omega, hb, rfl⟩)
          · rw [← mk_pos (by omega) (by rw [hb]; simp)]
            congr 1
            have : mk c (fun d => bt w d && decide (M v d = M v c)) = mk c (fun _ => false) := mk_congr (fun d hd => by
              cases hbd : bt w d
              · rfl
              · have := hmin d hd hbd
                simp
                omega)
            rw [this]
            have z : ∀ k, mkN k (fun _ => false) = 0 := by
              intro k
              induction k with
              | zero => rfl
              | succ k ih => simp [mkN, ih]
            unfold mk
            rw [z]
            rfl
          · by_cases e : d = c
            · subst e; omega
            · have := hmin d (by omega) hbd; omega
theorem fewest_ok {t v n : Nat} {w : Int} {M : Mem} (hn : n ≤ 8) (h0 : M (t + 10000) 0 = n) (hw0 : 0 ≤ w) (hw1 : w < 256) (hv : ∀ c, c < n → M v c < 9223372036854775807) : fX4_whoHasFewest t v w M = some (mk n (fl n (M v) (bt w)), M) := by
  apply ok_eq
  unfold fX4_whoHasFewest
  refine ok_by (fewest_l hn h0 hw0 hw1 hv 1000 0 _ _ (by omega) (by omega) rfl (fun d hd => by omega) (Or.inl rfl)) (fun z hz => ok_some ?_)
  rw [hz.1, hz.2]
end
