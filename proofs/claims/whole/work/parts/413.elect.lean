section
/-! electing, excluding: the class's -/
theorem srt1 {n : Nat} {vs : List Vec} {w : Nat → Bool} : (srt (0 + 1) n vs w)[0]? = scan n vs w := by
  cases e : scan n vs w with
  | none => rw [srt_none e]; rfl
  | some c => rw [srt_some e]; rfl
theorem mk_or {n : Nat} (hn : n ≤ 8) (p : Nat → Bool) {c : Nat} (hc : c < n) : bOr (mk n p) (bShl 1 (c : Int)) = mk n (fun d => p d || decide (d = c)) := by
  have hb := mk_bd hn p
  have h2 := bt_or_bd (w := mk n p) (m := 8) (by omega) hb.1 (by omega) (c := c) (by omega)
  have e8 : (2 : Int) ^ 8 = 256 := by decide
  refine mk_eq hn h2.1 (by omega) (fun d hd => ?_)
  rw [bt_or hb.1 (by omega) (by omega), mk_bt]
  by_cases e : d = c
  · subst e; simp [hc]
  · simp [e]
def EL (M0 : Mem) (t o n : Nat) (ord : List Nat) (H S : Int) (F W : Vec) (D : List Nat) (M : Mem) : Prop :=
  M o 2 = mk n (fun c => decide (c ∈ D)) ∧ M t 5 = (ord ++ D).length ∧ M t 6 = H - D.length ∧ (∀ i c : Nat, (ord ++ D)[i]? = some c → M (t + 5) i = (c : Int)) ∧ (∀ c, c < n → M (t + 3) c = if c ∈ D then 2 else F c) ∧ (∀ c, c < n → M (t + 4) c = if c ∈ D then S - 1 else W c) ∧ M t 7 = S ∧ (∀ j, j ≠ 5 → j ≠ 6 → M t j = M0 t j) ∧ (∀ j, j ≠ 2 → M o j = M0 o j) ∧ ∀ b, b ≠ t → b ≠ t + 3 → b ≠ t + 4 → b ≠ t + 5 → b ≠ o → M b = M0 b
theorem elect_l13 {M0 : Mem} {t o : Nat} {p : PL} {ord : List Nat} {H S w : Int} {F W : Vec} (h : WF p) (ho : t + 13 < o ∧ o + 9 < t + 10000) (hc0 : PCc M0 (t + 10000) p) (hw0 : 0 ≤ w) (hw1 : w < 256) (hH : 0 ≤ H ∧ H ≤ 8) (hS : 1 ≤ S ∧ S ≤ 8) : ∀ (m k : Nat) (D : List Nat) (M : Mem), k < m → EL M0 t o p.n ord H S F W D M → (ord ++ D).length + k ≤ 7 → Ok (fX4_elect_l13 t o w m k M) (fun z => ∃ a, z = .inl a ∧ EL M0 t o p.n ord H S F W (D ++ srt k p.n (av p (M0 (o + 8))) (fun d => bt w d && !decide (d ∈ D))) a.2) := by
  intro m
  have hn8 := h.1
  induction m with
  | zero => intros; omega
  | succ m ih =>
    intro k D M hk hE hl
    unfold fX4_elect_l13
    cases k with
    | zero =>
      refine ok_if (by omega) (ok_some ⟨_, rfl, ?_⟩)
      show EL M0 t o p.n ord H S F W (D ++ []) M
      rw [List.append_nil]
      exact hE
    | succ k =>
      obtain ⟨e1, e2, e3, e4, e5, e6, e7, e8, e9, e10⟩ := hE
      have hpc : PCc M (t + 10000) p := hc0.same (e10 _ (by omega) (by omega) (by omega) (by omega) (by omega)) (e10 _ (by omega) (by omega) (by omega) (by omega) (by omega)) (e10 _ (by omega) (by omega) (by omega) (by omega) (by omega)) (e10 _ (by omega) (by omega) (by omega) (by omega) (by omega)) (e10 _ (by omega) (by omega) (by omega) (by omega) (by omega))
      have hb := mk_bd hn8 (fun c => decide (c ∈ D))
      have han := bt_an hw0 hw1 hb.1 hb.2
      have hv8 : M (o + 8) = M0 (o + 8) := e10 _ (by omega) (by omega) (by omega) (by omega) (by omega)
      have hsc : scan p.n (av p (M0 (o + 8))) (bt (bAnd w (bXor (mk p.n (fun c => decide (c ∈ D))) (-1)))) = scan p.n (av p (M0 (o + 8))) (fun d => bt w d && !decide (d ∈ D)) := scan_congr (av_tot h _) (fun d hd => by
        rw [han.2.2 d (by omega), mk_bt]
        simp [hd])
      have hlen : (ord ++ D).length = ord.length + D.length := List.length_append
      refine ok_el (by omega) ?_
      rw [e1]
      have hlead := leader_ok (t := t) (v := o + 8) (p := p) (M := M) (i := 0) (left := bAnd w (bXor (mk p.n (fun c => decide (c ∈ D))) (-1))) h hpc (by omega) han.1 han.2.1
      refine ok_bs hlead ?_
      rw [srt1, hv8, hsc]
      cases es : scan p.n (av p (M0 (o + 8))) (fun d => bt w d && !decide (d ∈ D)) with
      | none =>
        show Ok (nm (-1) _) _
        (repeat (first | with_reducible refine ok_nm0 ?_ | (with_reducible refine ok_chk ?_ ?_; · omega) | (with_reducible refine ok_if ?_ ?_; · omega) | (with_reducible refine ok_el ?_ ?_; · omega) | with_reducible refine ok_some ?_ | with_reducible refine ok_bi ?_ | with_reducible refine ok_bsm ?_)); try dsimp only
        refine ⟨_, rfl, ?_⟩
        rw [srt_none es, List.append_nil]
        exact ⟨e1, e2, e3, e4, e5, e6, e7, e8, e9, e10⟩
      | some c =>
        have hm := scan_some (av_tot h _) es
        have hcn := hm.1
        have hcw := hm.2.1
        simp only [Bool.and_eq_true, Bool.not_eq_true', decide_eq_false_iff_not] at hcw
        have hcD := hcw.2
        show Ok (nm (c : Int) _) _
        (first | with_reducible refine ok_nm0 ?_ | (with_reducible refine ok_chk ?_ ?_; · omega) | (with_reducible refine ok_if ?_ ?_; · omega) | (with_reducible refine ok_el ?_ ?_; · omega) | with_reducible refine ok_some ?_ | with_reducible refine ok_bi ?_ | with_reducible refine ok_bsm ?_)
        refine ok_el (by omega) ?_
        try dsimp only
        simp only [e2]
        refine ok_if (by omega) ?_
        rw [e1, mk_or hn8 _ hcn]
        (first | with_reducible refine ok_nm0 ?_ | (with_reducible refine ok_chk ?_ ?_; · omega) | (with_reducible refine ok_if ?_ ?_; · omega) | (with_reducible refine ok_el ?_ ?_; · omega) | with_reducible refine ok_some ?_ | with_reducible refine ok_bi ?_ | with_reducible refine ok_bsm ?_)
        have t5 : wr M o 2 (mk p.n (fun d => decide (d ∈ D) || decide (d = c))) t 5 = (ord ++ D).length := by rw [wrn (by omega)]; exact e2
        simp only [t5]
        (repeat (first | with_reducible refine ok_nm0 ?_ | (with_reducible refine ok_chk ?_ ?_; · omega) | (with_reducible refine ok_if ?_ ?_; · omega) | (with_reducible refine ok_el ?_ ?_; · omega) | with_reducible refine ok_some ?_ | with_reducible refine ok_bi ?_ | with_reducible refine ok_bsm ?_)); try dsimp only
        have t5' : ∀ v, wr (wr M o 2 (mk p.n (fun d => decide (d ∈ D) || decide (d = c)))) (t + 5) ((ord ++ D).length : Int).toNat v t 5 = (ord ++ D).length := fun v => by rw [wrn (by omega)]; exact t5
        simp only [t5']
        (repeat (first | with_reducible refine ok_nm0 ?_ | (with_reducible refine ok_chk ?_ ?_; · omega) | (with_reducible refine ok_if ?_ ?_; · omega) | (with_reducible refine ok_el ?_ ?_; · omega) | with_reducible refine ok_some ?_ | with_reducible refine ok_bi ?_ | with_reducible refine ok_bsm ?_)); try dsimp only
        have t6 : ∀ v u, wr (wr (wr M o 2 (mk p.n (fun d => decide (d ∈ D) || decide (d = c)))) (t + 5) ((ord ++ D).length : Int).toNat v) t 5 u t 6 = H - D.length := fun v u => by rw [wrk _ (by omega), wrn (by omega), wrn (by omega)]; exact e3
        simp only [t6]
        (repeat (first | with_reducible refine ok_nm0 ?_ | (with_reducible refine ok_chk ?_ ?_; · omega) | (with_reducible refine ok_if ?_ ?_; · omega) | (with_reducible refine ok_el ?_ ?_; · omega) | with_reducible refine ok_some ?_ | with_reducible refine ok_bi ?_ | with_reducible refine ok_bsm ?_)); try dsimp only
        have t7 : ∀ v u x y, wr (wr (wr (wr (wr M o 2 (mk p.n (fun d => decide (d ∈ D) || decide (d = c)))) (t + 5) ((ord ++ D).length : Int).toNat v) t 5 u) t 6 x) (t + 3) (c : Int).toNat y t 7 = S := fun v u x y => by rw [wrn (by omega), wrk _ (by omega), wrk _ (by omega), wrn (by omega), wrn (by omega)]; exact e7
        simp only [t7]
        (repeat (first | with_reducible refine ok_nm0 ?_ | (with_reducible refine ok_chk ?_ ?_; · omega) | (with_reducible refine ok_if ?_ ?_; · omega) | (with_reducible refine ok_el ?_ ?_; · omega) | with_reducible refine ok_some ?_ | with_reducible refine ok_bi ?_ | with_reducible refine ok_bsm ?_)); try dsimp only
        rw [show ((k + 1 : Nat) : Int) + -1 = (k : Int) by omega, tn, tn]
        refine (ih k (D ++ [c]) _ (by omega) ⟨?_, ?_, ?_, fun i d hi => ?_, fun d hd => ?_, fun d hd => ?_, ?_, fun j j1 j2 => ?_, fun j j1 => ?_, fun b b1 b2 b3 b4 b5 => ?_⟩ ?_).mono (fun z hz => ?_)
        · rw [wrn (by omega), wrn (by omega), wrn (by omega), wrn (by omega), wrn (by omega), wra]
          exact mk_congr (fun d _ => by simp)
        · rw [wrn (by omega), wrn (by omega), wrk _ (by omega), wra]
          simp only [List.length_append, List.length_cons, List.length_nil]
          omega
        · rw [wrn (by omega), wrn (by omega), wra]
          simp only [List.length_append, List.length_cons, List.length_nil]
          omega
        · rw [wrn (by omega), wrn (by omega), wrn (by omega), wrn (by omega), wre, wrn (by omega)]
          rw [← List.append_assoc] at hi
          by_cases c1 : i < (ord ++ D).length
          · rw [List.getElem?_append_left c1] at hi
            rw [up_ne (by omega)]
            exact e4 i d hi
          · rw [List.getElem?_append_right (by omega)] at hi
            have hil := getq_lt hi
            simp only [List.length_cons, List.length_nil] at hil
            have : i = (ord ++ D).length := by omega
            subst this
            rw [Nat.sub_self] at hi
            cases hi
            rw [up_same]
        · rw [wrn (by omega), wre, wrn (by omega), wrn (by omega), wrn (by omega), wrn (by omega)]
          by_cases c1 : d = c
          · subst c1; rw [up_same, if_pos (by simp)]
          · rw [up_ne c1, e5 d hd]
            simp [c1]
        · rw [wre, wrn (by omega), wrn (by omega), wrn (by omega), wrn (by omega), wrn (by omega)]
          by_cases c1 : d = c
          · subst c1; rw [up_same, if_pos (by simp)]
          · rw [up_ne c1, e6 d hd]
            simp [c1]
        · rw [wrn (by omega), wrn (by omega), wrk _ (by omega), wrk _ (by omega), wrn (by omega), wrn (by omega)]
          exact e7
        · rw [wrn (by omega), wrn (by omega), wrk _ j2, wrk _ j1, wrn (by omega), wrn (by omega)]
          exact e8 j j1 j2
        · rw [wrn (by omega), wrn (by omega), wrn (by omega), wrn (by omega), wrn (by omega), wrk _ j1]
          exact e9 j j1
        · rw [wrn b3, wrn b2, wrn b1, wrn b1, wrn b4, wrn b5]
          exact e10 b b1 b2 b3 b4 b5
        · simp only [List.length_append, List.length_cons, List.length_nil]
          omega
        · obtain ⟨a, e, ha⟩ := hz
          refine ⟨a, e, ?_⟩
          rw [srt_some es]
          have ec : srt k p.n (av p (M0 (o + 8))) (wo (fun d => bt w d && !decide (d ∈ D)) c) = srt k p.n (av p (M0 (o + 8))) (fun d => bt w d && !decide (d ∈ D ++ [c])) := srt_congr (av_tot h _) (fun d hd => by
            unfold wo
            by_cases c1 : d = c
            · subst c1; simp
            · simp [c1])
          rw [ec, List.append_cons]
          exact ha
theorem elect_ok {M : Mem} {t o : Nat} {p : PL} {ord : List Nat} {H S w : Int} {F W : Vec} (h : WF p) (ho : t + 13 < o ∧ o + 9 < t + 10000) (hc : PCc M (t + 10000) p) (hw0 : 0 ≤ w) (hw1 : w < 256) (hH : 0 ≤ H ∧ H ≤ 8) (hS : 1 ≤ S ∧ S ≤ 8) (hE : EL M t o p.n ord H S F W [] M) (hl : (ord.length : Int) ≤ p.se) : Ok (fX4_elect t o w M) (fun q => EL M t o p.n ord H S F W (srt (p.se - ord.length).toNat p.n (av p (M (o + 8))) (bt w)) q.2) := by
  have hs := h.2.2.2.2.2.2.1
  have e5 := hE.2.1
  rw [List.append_nil] at e5
  unfold fX4_elect
  rw [hc.2.2.2.2.1, e5]
  (repeat (first | with_reducible refine ok_nm0 ?_ | (with_reducible refine ok_chk ?_ ?_; · omega) | (with_reducible refine ok_if ?_ ?_; · omega) | (with_reducible refine ok_el ?_ ?_; · omega) | with_reducible refine ok_some ?_ | with_reducible refine ok_bi ?_ | with_reducible refine ok_bsm ?_)); try dsimp only
  have ek : p.se - (ord.length : Int) = ((p.se - ord.length).toNat : Int) := by omega
  rw [ek]
  refine ok_lrl ((elect_l13 h ho hc hw0 hw1 hH hS 1000 (p.se - ord.length).toNat [] M (by omega) hE (by rw [List.append_nil]; omega)).mono (fun z hz => ?_))
  obtain ⟨a, e, ha⟩ := hz
  refine ⟨a, e, ?_⟩
  have : srt (p.se - ord.length).toNat p.n (av p (M (o + 8))) (fun d => bt w d && !decide (d ∈ ([] : List Nat))) = srt (p.se - ord.length).toNat p.n (av p (M (o + 8))) (bt w) := srt_congr (av_tot h _) (fun d hd => by simp)
  rw [this, List.nil_append] at ha
  rw [Int.toNat_natCast]
  exact ha
/-- the votes of the stages below s, the last first -/
def vsl (V : Nat → Vec) : Nat → List Vec
  | 0 => []
  | s + 1 => V s :: vsl V s
theorem excl_l13 {t o S0 : Nat} {p : PL} {M : Mem} (h : WF p) (hc : PCc M (t + 10000) p) (hS0 : S0 ≤ 8) (hv : ∀ s c, s < S0 → c < p.n → M (t + 9 + 36 + 16 * s + 8) c < 9223372036854775807) : ∀ (m s : Nat) (w : Int), s < m → s ≤ S0 → 0 ≤ w → w < 256 → Ok (fX4_exclude_l13 t o m w ((s : Int) - 1) M) (fun z => z.2.2 = M ∧ 0 ≤ z.1 ∧ z.1 < 256 ∧ ∀ c, IsMin p.n (vsl (fun s => M (t + 9 + 36 + 16 * s + 8)) s ++ [npos p]) (bt w) c ↔ IsMin p.n [npos p] (bt z.1) c) := by
  intro m
  have hn8 := h.1
  induction m with
  | zero => intros; omega
  | succ m ih =>
    intro s w h1 h2 h3 h4
    unfold fX4_exclude_l13
    cases s with
    | zero => exact ok_if (by omega) (ok_some ⟨rfl, h3, h4, fun c => Iff.rfl⟩)
    | succ s =>
      rw [show ((s + 1 : Nat) : Int) - 1 = (s : Int) by omega]
      (repeat (first | with_reducible refine ok_nm0 ?_ | (with_reducible refine ok_chk ?_ ?_; · omega) | (with_reducible refine ok_if ?_ ?_; · omega) | (with_reducible refine ok_el ?_ ?_; · omega) | with_reducible refine ok_some ?_ | with_reducible refine ok_bi ?_ | with_reducible refine ok_bsm ?_)); try dsimp only
      rw [tn]
      refine ok_bs (fewest_ok hn8 hc.1 h3 h4 (fun c hc => hv s c (by omega) hc)) ?_
      (repeat (first | with_reducible refine ok_nm0 ?_ | (with_reducible refine ok_chk ?_ ?_; · omega) | (with_reducible refine ok_if ?_ ?_; · omega) | (with_reducible refine ok_el ?_ ?_; · omega) | with_reducible refine ok_some ?_ | with_reducible refine ok_bi ?_ | with_reducible refine ok_bsm ?_)); try dsimp only
      have hb := mk_bd hn8 (fl p.n (M (t + 9 + 36 + 16 * s + 8)) (bt w))
      refine (ih s _ (by omega) (by omega) hb.1 hb.2).mono (fun z hz => ⟨hz.1, hz.2.1, hz.2.2.1, fun c => ?_⟩)
      rw [← hz.2.2.2 c]
      show IsMin p.n (M (t + 9 + 36 + 16 * s + 8) :: (vsl _ s ++ [npos p])) (bt w) c ↔ _
      rw [fl_min]
      constructor
      · exact fun hm => hm.congr (fun d hd => by rw [mk_bt]; simp [hd])
      · exact fun hm => hm.congr (fun d hd => by rw [mk_bt]; simp [hd])
theorem scan_iff {n : Nat} {vs us : List Vec} {w w' : Nat → Bool} (hv : Tot n vs) (hu : Tot n us) (h : ∀ c, IsMin n vs w c ↔ IsMin n us w' c) : scan n vs w = scan n us w' := by
  cases e : scan n vs w with
  | some c => rw [scan_min hu ((h c).mp (scan_some hv e))]
  | none =>
    cases e2 : scan n us w' with
    | none => rfl
    | some c =>
      have := scan_min hv ((h c).mpr (scan_some hu e2))
      rw [e] at this; cases this
/-- who is EXCLUDED, and what is left then -/
theorem exclude_ok {t o s : Nat} {p : PL} {M : Mem} {H : Int} {F : Vec} (h : WF p) (ho : t + 13 < o ∧ o + 9 < t + 10000) (hc : PCc M (t + 10000) p) (hs : s ≤ 8) (hv : ∀ s' c, s' < s → c < p.n → M (t + 9 + 36 + 16 * s' + 8) c < 9223372036854775807) (h7 : M t 7 = s) (h6 : M t 6 = H) (hH : 0 ≤ H ∧ H ≤ 8) (hf : Ag p.n (M (t + 3)) F) {c : Nat} (hsc : scan p.n (vsl (fun s => M (t + 9 + 36 + 16 * s + 8)) s ++ [npos p]) (fun c => decide (F c = 1)) = some c) : Ok (fX4_exclude t o M) (fun q => q.2 o 1 = c ∧ (∀ j, j ≠ 1 → q.2 o j = M o j) ∧ q.2 t 6 = H - 1 ∧ (∀ j, j ≠ 6 → q.2 t j = M t j) ∧ q.2 (t + 3) = up (M (t + 3)) c 3 ∧ q.2 (t + 4) = up (M (t + 4)) c ((s : Int) - 1) ∧ q.2 (t + 10) = up (M (t + 10)) c 0 ∧ ∀ b, b ≠ t → b ≠ t + 3 → b ≠ t + 4 → b ≠ t + 10 → b ≠ o → q.2 b = M b) := by
  have hn8 := h.1
  have htot : Tot p.n (vsl (fun s => M (t + 9 + 36 + 16 * s + 8)) s ++ [npos p]) := (Tot.one (npos_inj h)).app _
  have hcn := (scan_some htot hsc).1
  unfold fX4_exclude
  refine ok_bs (whoIs_ok hn8 hc.1) ?_
  have hb := mk_bd hn8 (fun c => decide (M (t + 3) c = 1))
  try dsimp only
  simp only [h7]
  (repeat (first | with_reducible refine ok_nm0 ?_ | (with_reducible refine ok_chk ?_ ?_; · omega) | (with_reducible refine ok_if ?_ ?_; · omega) | (with_reducible refine ok_el ?_ ?_; · omega) | with_reducible refine ok_some ?_ | with_reducible refine ok_bi ?_ | with_reducible refine ok_bsm ?_)); try dsimp only
  refine ok_by (excl_l13 h hc hs hv 1000 s _ (by omega) (Nat.le_refl s) hb.1 hb.2) (fun z hz => ?_)
  obtain ⟨z1, z2, z3, z4⟩ := hz
  rw [z1]
  refine ok_bs (lastInLot_ok h hc z2 z3) ?_
  have e : scan p.n [npos p] (bt z.1) = some c := by
    rw [← scan_iff htot (Tot.one (npos_inj h)) z4, ← hsc]
    refine scan_congr htot (fun d hd => ?_)
    rw [mk_bt, hf d hd]
    simp [hd]
  rw [e]
  show Ok (nm (c : Int) _) _
  (repeat (first | with_reducible refine ok_nm0 ?_ | (with_reducible refine ok_chk ?_ ?_; · omega) | (with_reducible refine ok_if ?_ ?_; · omega) | (with_reducible refine ok_el ?_ ?_; · omega) | with_reducible refine ok_some ?_ | with_reducible refine ok_bi ?_ | with_reducible refine ok_bsm ?_)); try dsimp only
  have r6 : wr M o 1 (c : Int) t 6 = H := by rw [wrn (by omega)]; exact h6
  simp only [r6]
  (repeat (first | with_reducible refine ok_nm0 ?_ | (with_reducible refine ok_chk ?_ ?_; · omega) | (with_reducible refine ok_if ?_ ?_; · omega) | (with_reducible refine ok_el ?_ ?_; · omega) | with_reducible refine ok_some ?_ | with_reducible refine ok_bi ?_ | with_reducible refine ok_bsm ?_)); try dsimp only
  have r7 : ∀ x y, wr (wr (wr M o 1 (c : Int)) t 6 x) (t + 3) (c : Int).toNat y t 7 = s := fun x y => by rw [wrn (by omega), wrk _ (by omega), wrn (by omega)]; exact h7
  simp only [r7]
  (repeat (first | with_reducible refine ok_nm0 ?_ | (with_reducible refine ok_chk ?_ ?_; · omega) | (with_reducible refine ok_if ?_ ?_; · omega) | (with_reducible refine ok_el ?_ ?_; · omega) | with_reducible refine ok_some ?_ | with_reducible refine ok_bi ?_ | with_reducible refine ok_bsm ?_)); try dsimp only
  rw [tn]
  refine ⟨?_, fun j hj => ?_, ?_, fun j hj => ?_, ?_, ?_, ?_, fun b b1 b2 b3 b4 b5 => ?_⟩
  · rw [wrn (by omega), wrn (by omega), wrn (by omega), wrn (by omega), wra]
  · rw [wrn (by omega), wrn (by omega), wrn (by omega), wrn (by omega), wrk _ hj]
  · rw [wrn (by omega), wrn (by omega), wrn (by omega), wra]
  · rw [wrn (by omega), wrn (by omega), wrn (by omega), wrk _ hj, wrn (by omega)]
  · rw [wrn (by omega), wrn (by omega), wre, wrn (by omega), wrn (by omega)]
  · rw [wrn (by omega), wre, wrn (by omega), wrn (by omega), wrn (by omega)]
  · rw [wre, wrn (by omega), wrn (by omega), wrn (by omega), wrn (by omega)]
  · rw [wrn b4, wrn b3, wrn b2, wrn b1, wrn b5]
end
