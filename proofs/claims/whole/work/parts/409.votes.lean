section
/-! VOTES by KEEPS -/
def Ag (n : Nat) (f g : Vec) : Prop := ∀ c, c < n → f c = g c
theorem Ag.up {n : Nat} {f g : Vec} (h : Ag n f g) (c : Nat) {v w : Int} (e : v = w) : Ag n (up f c v) (up g c w) := fun k hk => by
  subst e
  by_cases hc : k = c
  · subst hc; rw [up_same, up_same]
  · rw [up_ne hc, up_ne hc]; exact h k hk
def pstep (K : Vec) (d : Int) (s : Int × Vec) : Int × Vec := (s.1 - s.1 * K (d - 1).toNat / 1000000, up s.2 (d - 1).toNat (s.2 (d - 1).toNat + s.1 * K (d - 1).toNat / 1000000))
def pass (K : Vec) (l : List Int) (s : Int × Vec) : Int × Vec := l.foldl (fun s d => pstep K d s) s
def vstep (K : Vec) (p : List Int × Int) (s : Int × Vec) : Int × Vec := (s.1 + (pass K p.1 (p.2 * 1000000, s.2)).1, (pass K p.1 (p.2 * 1000000, s.2)).2)
def vt (K : Vec) (pl : PIL) (s : Int × Vec) : Int × Vec := pl.foldl (fun s p => vstep K p s) s
theorem take_fold {α β : Type} {f : β → α → β} {l : List α} {s : β} {i : Nat} {x : α} (h : l[i]? = some x) : (l.take (i + 1)).foldl f s = f ((l.take i).foldl f s) x := by
  obtain ⟨hi, e⟩ := List.getElem?_eq_some_iff.mp h
  rw [List.take_succ_eq_append_getElem hi, List.foldl_append, e]
  rfl
def PI (n : Nat) (S : Int) (s : Int × Vec) : Prop := 0 ≤ s.1 ∧ (∀ c, c < n → 0 ≤ s.2 c) ∧ s.1 + sm n s.2 = S
def KB (n : Nat) (K : Vec) : Prop := ∀ c, c < n → 0 ≤ K c ∧ K c ≤ 1000000
theorem part_bd {l k : Int} (h0 : 0 ≤ l) (h1 : 0 ≤ k) (h2 : k ≤ 1000000) : 0 ≤ l * k ∧ 0 ≤ l * k / 1000000 ∧ l * k / 1000000 ≤ l := by
  have h3 : l * k ≤ l * 1000000 := Int.mul_le_mul_of_nonneg_left h2 h0
  have h4 : 0 ≤ l * k := Int.mul_nonneg h0 h1
  omega
theorem pstep_PI {n : Nat} {S : Int} {K : Vec} {s : Int × Vec} {d : Int} (h : PI n S s) (hK : KB n K) (hd : (d - 1).toNat < n) : PI n S (pstep K d s) := by
  obtain ⟨h1, h2, h3⟩ := h
  have hk := hK _ hd
  have hp := part_bd h1 hk.1 hk.2
  have hg := h2 _ hd
  refine ⟨?_, fun c hc => ?_, ?_⟩
  · show 0 ≤ s.1 - _
    omega
  · show 0 ≤ up s.2 _ _ c
    by_cases e : c = (d - 1).toNat
    · rw [e, up_same]; omega
    · rw [up_ne e]; exact h2 c hc
  · show s.1 - _ + sm n (up s.2 _ _) = S
    rw [sm_up, if_pos hd]
    omega
theorem pass_PI {n : Nat} {S : Int} {K : Vec} (hK : KB n K) : ∀ (l : List Int) (s : Int × Vec), (∀ d ∈ l, (d - 1).toNat < n) → PI n S s → PI n S (pass K l s)
  | [], _, _, h => h
  | d :: l, s, hl, h => pass_PI hK l (pstep K d s) (fun x hx => hl x (List.mem_cons_of_mem _ hx)) (pstep_PI h hK (hl d List.mem_cons_self))
theorem vt_PI {n : Nat} {K : Vec} (hK : KB n K) : ∀ (pl : PIL) (S : Int) (s : Int × Vec), (∀ q ∈ pl, pgood n q) → PI n S s → PI n (S + 1000000 * sp pl) (vt K pl s)
  | [], S, s, _, h => by
    have e : S + 1000000 * sp [] = S := by simp [sp]
    rw [e]; exact h
  | p :: r, S, s, hp, h => by
    have h1 := hp p List.mem_cons_self
    have e : S + 1000000 * sp (p :: r) = (S + 1000000 * p.2) + 1000000 * sp r := by show S + 1000000 * (p.2 + sp r) = _; omega
    rw [e]
    refine vt_PI hK r _ (vstep K p s) (fun x hx => hp x (List.mem_cons_of_mem _ hx)) ?_
    have h2 : PI n (p.2 * 1000000 + sm n s.2) (p.2 * 1000000, s.2) := ⟨by have := h1.2.2.2; dsimp only; omega, h.2.1, rfl⟩
    have h3 := pass_PI hK p.1 _ (fun d hd => by have := h1.1.1 d hd; have := h1.2.2.1 d hd; omega) h2
    have h4 := h.2.2
    have h5 := h.1
    exact ⟨by have := h3.1; show 0 ≤ s.1 + _; omega, h3.2.1, by have := h3.2.2; show s.1 + (pass K p.1 (p.2 * 1000000, s.2)).1 + sm n (pass K p.1 (p.2 * 1000000, s.2)).2 = _; omega⟩
theorem PI.le {n : Nat} {S : Int} {s : Int × Vec} (h : PI n S s) : s.1 ≤ S ∧ ∀ c, c < n → s.2 c ≤ S := by
  have h1 := sm_nn h.2.1
  have h2 := h.2.2
  refine ⟨by omega, fun c hc => ?_⟩
  have := sm_le h.2.1 c hc
  have := h.1
  omega
theorem up_self (f : Vec) (c : Nat) {v : Int} (e : v = f c) : up f c v = f := funext fun k => by
  subst e
  by_cases hc : k = c
  · subst hc; rw [up_same]
  · rw [up_ne hc]
theorem pass_0 {K : Vec} : ∀ (l : List Int) (g : Vec), pass K l (0, g) = (0, g)
  | [], _ => rfl
  | d :: l, g => by
    have e : pstep K d (0, g) = (0, g) := by
      unfold pstep
      have h : (0 : Int) * K (d - 1).toNat / 1000000 = 0 := by rw [Int.zero_mul]; rfl
      dsimp only
      rw [h, up_self g _ (by omega)]
      rfl
    show pass K l (pstep K d (0, g)) = _
    rw [e]; exact pass_0 l g
theorem pass_end {K : Vec} {l : List Int} {i : Nat} {s : Int × Vec} (h : (pass K (l.take i) s).1 = 0) : pass K l s = pass K (l.take i) s := by
  have e : pass K l s = pass K (l.drop i) (pass K (l.take i) s) := by
    have h1 : pass K (l.take i ++ l.drop i) s = pass K (l.drop i) (pass K (l.take i) s) := List.foldl_append
    rw [List.take_append_drop] at h1
    exact h1
  rw [e]
  generalize pass K (l.take i) s = q at h ⊢
  obtain ⟨a, g⟩ := q
  dsimp only at h
  subst h
  exact pass_0 _ _
theorem passOn_l {t n : Nat} {l : List Int} {K g0 : Vec} {S left : Int} (hn : n ≤ 8) (hl : rl l) (hd : ∀ d ∈ l, d ≤ (n : Int)) (hK : KB n K) (h0 : PI n S (left, g0)) (hS : S ≤ 4611686000000) : ∀ (m i : Nat) (x : Int) (M : Mem), i ≤ l.length → 8 < m + i → x = (pass K (l.take i) (left, g0)).1 → Ag n (M (t + 11)) (pass K (l.take i) (left, g0)).2 → Ag n (M (t + 10)) K → Ok (fX4_passOn_l6 t (fill l) m x i M) (fun z => ∃ a, z = .inl a ∧ a.1 = (pass K l (left, g0)).1 ∧ Ag n (a.2 (t + 11)) (pass K l (left, g0)).2 ∧ ∀ b, b ≠ t + 11 → a.2 b = M b) := by
  intro m
  have hdn : ∀ d ∈ l, (d - 1).toNat < n := fun d hx => by have := hl.1 d hx; have := hd d hx; omega
  induction m with
  | zero => intro i; have := hl.2; intros; omega
  | succ m ih =>
    intro i x M h1 h2 hx hg hk
    have h8 := hl.2
    unfold fX4_passOn_l6
    by_cases hc : i = l.length
    · rw [hc, List.take_length] at hx hg
      by_cases hc8 : (8 : Int) ≤ i
      · refine ok_if hc8 (ok_some ⟨_, rfl, hx, hg, fun _ _ => rfl⟩)
      · refine ok_el hc8 ?_
        by_cases hx0 : x ≤ 0
        · exact ok_if hx0 (ok_some ⟨_, rfl, hx, hg, fun _ _ => rfl⟩)
        refine ok_el hx0 (ok_bs (at_ok hl (by omega) M) ?_)
        have := getD_ge (l := l) (k := i) (by omega)
        (repeat (first | with_reducible refine ok_nm0 ?_ | (with_reducible refine ok_chk ?_ ?_; · omega) | (with_reducible refine ok_if ?_ ?_; · omega) | (with_reducible refine ok_el ?_ ?_; · omega) | with_reducible refine ok_some ?_ | with_reducible refine ok_bi ?_ | with_reducible refine ok_bsm ?_)); try dsimp only
        exact ⟨_, rfl, hx, hg, fun _ _ => rfl⟩
    · have hi : i < l.length := by omega
      refine ok_el (by omega) ?_
      by_cases hx0 : x ≤ 0
      · have hs := pass_PI hK (l.take i) (left, g0) (fun d hx => hdn d (List.mem_of_mem_take hx)) h0
        have h00 : (pass K (l.take i) (left, g0)).1 = 0 := by have := hs.1; omega
        have hp := pass_end (l := l) h00
        exact ok_if hx0 (ok_some ⟨_, rfl, by rw [hp]; exact hx, by rw [hp]; exact hg, fun _ _ => rfl⟩)
      refine ok_el hx0 (ok_bs (at_ok hl (by omega) M) ?_)
      have hr := rl_getD hl hi
      have hdl : l.getD i 0 ≤ n := by rw [getD_lt hi]; exact hd _ (List.getElem_mem hi)
      have hs := pass_PI hK (l.take i) (left, g0) (fun d hx => hdn d (List.mem_of_mem_take hx)) h0
      have hle := hs.le
      have hnx : pass K (l.take (i + 1)) (left, g0) = pstep K (l.getD i 0) (pass K (l.take i) (left, g0)) := take_fold (by rw [List.getElem?_eq_getElem hi, getD_lt hi])
      generalize hP : pass K (l.take i) (left, g0) = s at *
      have hcn : (l.getD i 0 - 1).toNat < n := by omega
      have hkk := hK _ hcn
      have hkv := hk _ hcn
      have hgv := hg _ hcn
      have hpb := part_bd hs.1 hkk.1 hkk.2
      have hpb2 := mul_bd hs.1 hle.1 hkk.1 hkk.2
      have hgb := hle.2 _ hcn
      have hgb0 := hs.2.1 _ hcn
      rw [← hkv, ← hx] at hpb hpb2
      rw [← hgv] at hgb hgb0
      have hxb := hs.1
      have hxb2 := hle.1
      rw [← hx] at hxb hxb2
      try dsimp only
      (repeat (first | with_reducible refine ok_nm0 ?_ | (with_reducible refine ok_chk ?_ ?_; · omega) | (with_reducible refine ok_if ?_ ?_; · omega) | (with_reducible refine ok_el ?_ ?_; · omega) | with_reducible refine ok_some ?_ | with_reducible refine ok_bi ?_ | with_reducible refine ok_bsm ?_)); try dsimp only
      refine (ih (i + 1) _ _ (by omega) (by omega) ?_ ?_ ?_).mono (fun z hz => ?_)
      · rw [hnx]
        show _ = s.1 - s.1 * K (l.getD i 0 - 1).toNat / 1000000
        rw [← hx, ← hkv]
      · rw [hnx, wre]
        refine hg.up _ ?_
        rw [← hx, ← hkv, hgv]
      · rw [wrn (by omega)]; exact hk
      · obtain ⟨a, e, a1, a2, a3⟩ := hz
        exact ⟨a, e, a1, a2, fun b hb => by rw [a3 b hb, wrn hb]⟩
theorem passOn_ok {t n : Nat} {l : List Int} {K g0 : Vec} {S left : Int} {M : Mem} (hn : n ≤ 8) (hl : rl l) (hd : ∀ d ∈ l, d ≤ (n : Int)) (hK : KB n K) (h0 : PI n S (left, g0)) (hS : S ≤ 4611686000000) (hg : Ag n (M (t + 11)) g0) (hk : Ag n (M (t + 10)) K) : Ok (fX4_passOn t (fill l) left M) (fun q => q.1 = (pass K l (left, g0)).1 ∧ Ag n (q.2 (t + 11)) (pass K l (left, g0)).2 ∧ ∀ b, b ≠ t + 11 → q.2 b = M b) := by
  have h8 := hl.2
  unfold fX4_passOn
  refine ok_lrl ((passOn_l hn hl hd hK h0 hS 1000 0 left M (by omega) (by omega) rfl hg hk).mono (fun z hz => ?_))
  obtain ⟨a, e, h⟩ := hz
  exact ⟨a, e, h⟩
/-- the numbers of a ROUND -/
def VT (p : PL) (K : Vec) : Int × Vec := vt K (gat p) (0, fun _ => 0)
def quo (p : PL) (f : Vec) : Int := sm p.n f / (p.se + 1) + 1
theorem z_PI (n : Nat) : PI n 0 (0, fun _ => 0) := ⟨Int.le_refl 0, fun _ _ => Int.le_refl 0, by rw [sm_z]; rfl⟩
theorem pl_take {n : Nat} {pl : PIL} (h : ∀ q ∈ pl, pgood n q) (k : Nat) : ∀ q ∈ pl.take k, pgood n q := fun q hq => h q (List.mem_of_mem_take hq)
theorem sp_nn {pl : PIL} (h : ∀ q ∈ pl, 0 < q.2) : 0 ≤ sp pl := by
  induction pl with
  | nil => exact Int.le_refl 0
  | cons a r ih => have := h a List.mem_cons_self; have := ih (fun q hq => h q (List.mem_cons_of_mem _ hq)); show 0 ≤ a.2 + sp r; omega
theorem sp_take {n : Nat} : ∀ {pl : PIL} (_ : ∀ q ∈ pl, pgood n q) (k : Nat), sp (pl.take k) ≤ sp pl ∧ ∀ q, pl[k]? = some q → sp (pl.take k) + q.2 ≤ sp pl
  | [], _, k => by simp [sp]
  | p :: r, h, 0 => by
    have h1 := h p List.mem_cons_self
    have h2 := sp_nn (pl := r) (fun q hq => (h q (List.mem_cons_of_mem _ hq)).2.2.2)
    have := h1.2.2.2
    refine ⟨by show 0 ≤ p.2 + sp r; omega, fun q hq => ?_⟩
    cases hq
    show 0 + p.2 ≤ p.2 + sp r
    omega
  | p :: r, h, k + 1 => by
    have ih := sp_take (pl := r) (fun q hq => h q (List.mem_cons_of_mem _ hq)) k
    refine ⟨?_, fun q hq => ?_⟩
    · show p.2 + sp (r.take k) ≤ p.2 + sp r
      omega
    · have := ih.2 q (by simpa using hq)
      show p.2 + sp (r.take k) + q.2 ≤ p.2 + sp r
      omega
theorem gat_ok {p : PL} (h : WF p) : (gat p).length ≤ 25 ∧ (∀ q ∈ gat p, pgood p.n q) ∧ sp (gat p) ≤ 4611686 := by
  obtain ⟨g1, g2, g3⟩ := gatR_ok h p.nb (Nat.le_refl _)
  have := h.2.1
  have := h.2.2.2.2.2.1
  exact ⟨Nat.le_trans g1 (by omega), g2, Int.le_trans g3 (by omega)⟩
theorem VT_PI {p : PL} (h : WF p) {K : Vec} (hK : KB p.n K) : PI p.n (1000000 * sp (gat p)) (VT p K) := by
  have := vt_PI hK (gat p) 0 (0, fun _ => 0) (gat_ok h).2.1 (z_PI _)
  rw [Int.zero_add] at this
  exact this
theorem vt_take {p : PL} (h : WF p) {K : Vec} (hK : KB p.n K) (k : Nat) : PI p.n (1000000 * sp ((gat p).take k)) (vt K ((gat p).take k) (0, fun _ => 0)) := by
  have := vt_PI hK ((gat p).take k) 0 (0, fun _ => 0) (pl_take (gat_ok h).2.1 k) (z_PI _)
  rw [Int.zero_add] at this
  exact this
theorem VT_bd {p : PL} (h : WF p) {K : Vec} (hK : KB p.n K) : 0 ≤ (VT p K).1 ∧ (VT p K).1 ≤ 4611686000000 ∧ (∀ c, c < p.n → 0 ≤ (VT p K).2 c ∧ (VT p K).2 c ≤ 4611686000000) ∧ 0 ≤ sm p.n (VT p K).2 ∧ sm p.n (VT p K).2 ≤ 4611686000000 := by
  have h1 := VT_PI h hK
  have h2 := (gat_ok h).2.2
  have h3 := h1.le
  have h4 := h1.2.2
  have h5 := sm_nn h1.2.1
  have h6 := h1.1
  exact ⟨h1.1, by omega, fun c hc => ⟨h1.2.1 c hc, by have := h3.2 c hc; omega⟩, h5, by omega⟩
theorem quo_bd {p : PL} (h : WF p) {f : Vec} (h0 : 0 ≤ sm p.n f) (h1 : sm p.n f ≤ 4611686000000) : 1 ≤ quo p f ∧ quo p f ≤ 2305843000001 := by
  have hs := h.2.2.2.2.2.2.1
  unfold quo
  generalize sm p.n f = T at *
  have : p.se = 1 ∨ p.se = 2 ∨ p.se = 3 ∨ p.se = 4 ∨ p.se = 5 ∨ p.se = 6 ∨ p.se = 7 := by omega
  rcases this with e | e | e | e | e | e | e <;> rw [e] <;> omega
theorem fill8_l {a : Nat} {M0 : Mem} : ∀ (n i : Nat) (M : Mem), i ≤ 8 → 8 < n + i → M = (fun b j => if b = a ∧ j < i then 0 else M0 b j) → Ok (fJ7_fill_d0a16_l6 a 0 8 n i M) (fun q => q.2 = fun b j => if b = a ∧ j < 8 then 0 else M0 b j) := by
  intro n
  induction n with
  | zero => intros; omega
  | succ n ih =>
    intro i M h1 h2 hM
    unfold fJ7_fill_d0a16_l6
    refine ok_ite (fun hc => ok_some ?_) (fun hc => ?_)
    · have : i = 8 := by omega
      subst this; exact hM
    · (repeat (first | with_reducible refine ok_nm0 ?_ | (with_reducible refine ok_chk ?_ ?_; · omega) | (with_reducible refine ok_if ?_ ?_; · omega) | (with_reducible refine ok_el ?_ ?_; · omega) | with_reducible refine ok_some ?_ | with_reducible refine ok_bi ?_ | with_reducible refine ok_bsm ?_)); try dsimp only
      refine ih (i + 1) _ (by omega) (by omega) ?_
      rw [hM]
      funext b j
      simp only [wr, tn]
      grind
theorem fill8_ok (a : Nat) (M : Mem) : Ok (fJ7_fill_d0a16 a 0 M) (fun q => q.2 = fun b j => if b = a ∧ j < 8 then 0 else M b j) := by
  unfold fJ7_fill_d0a16
  refine ok_by (fill8_l (M0 := M) 1000 0 M (by omega) (by omega) (by funext b j; simp)) (fun q hq => ok_some ?_)
  exact hq
theorem cut_ok {x y : Int} (hx : 0 ≤ x) (hy : 0 < y) (M : Mem) : fX8_cut x y M = some (x / y, M) := by
  apply ok_eq
  unfold fX8_cut
  (repeat (first | with_reducible refine ok_nm0 ?_ | (with_reducible refine ok_chk ?_ ?_; · omega) | (with_reducible refine ok_if ?_ ?_; · omega) | (with_reducible refine ok_el ?_ ?_; · omega) | with_reducible refine ok_some ?_ | with_reducible refine ok_bi ?_ | with_reducible refine ok_bsm ?_)); try dsimp only
theorem workOut_l15 {t : Nat} {p : PL} {K : Vec} (h : WF p) (hK : KB p.n K) : ∀ (m k : Nat) (M : Mem), k ≤ (gat p).length → (gat p).length < m + k → PAc M (t + 20) (gat p) → Ag p.n (M (t + 10)) K → Ag p.n (M (t + 11)) (vt K ((gat p).take k) (0, fun _ => 0)).2 → M t 12 = (vt K ((gat p).take k) (0, fun _ => 0)).1 → Ok (fX4_workOut_l15 t m k M) (fun q => Ag p.n (q.2 (t + 11)) (VT p K).2 ∧ q.2 t 12 = (VT p K).1 ∧ (∀ j, j ≠ 12 → q.2 t j = M t j) ∧ ∀ b, b ≠ t → b ≠ t + 11 → q.2 b = M b) := by
  intro m
  obtain ⟨g1, g2, g3⟩ := gat_ok h
  induction m with
  | zero => intros; omega
  | succ m ih =>
    intro k M h1 h2 hp hk hg hx
    unfold fX4_workOut_l15
    rw [hp.1]
    refine ok_ite (fun hc => ok_some ?_) (fun hc => ?_)
    · have e : k = (gat p).length := by omega
      rw [e, List.take_length] at hg hx
      exact ⟨hg, hx, fun _ _ => rfl, fun _ _ _ => rfl⟩
    · obtain ⟨r, hr⟩ := getq (pl := gat p) (j := k) (by omega)
      have hrg := g2 r (List.mem_of_getElem? hr)
      have hv := hp.2 k r hr
      have hsp := (sp_take g2 k).2 r hr
      have hnn := sp_nn (fun q hq => (pl_take g2 k q hq).2.2.2)
      have hI := vt_take h hK k
      have hle := hI.le
      have hn1 : vt K ((gat p).take (k + 1)) (0, fun _ => 0) = vstep K r (vt K ((gat p).take k) (0, fun _ => 0)) := take_fold hr
      have hI2 := vt_take h hK (k + 1)
      have hle2 := hI2.le
      have hsp2 := (sp_take g2 (k + 1)).1
      have hmn := hrg.2.2.2
      generalize hP : vt K ((gat p).take k) (0, fun _ => 0) = s at *
      have hI0 : PI p.n (r.2 * 1000000 + sm p.n s.2) (r.2 * 1000000, s.2) := ⟨by (try dsimp only); omega, hI.2.1, rfl⟩
      have hsn := hI.2.2
      have hs1 := hI.1
      rw [tn, hv.1, hv.2]
      (repeat (first | with_reducible refine ok_nm0 ?_ | (with_reducible refine ok_chk ?_ ?_; · omega) | (with_reducible refine ok_if ?_ ?_; · omega) | (with_reducible refine ok_el ?_ ?_; · omega) | with_reducible refine ok_some ?_ | with_reducible refine ok_bi ?_ | with_reducible refine ok_bsm ?_)); try dsimp only
      refine ok_by (passOn_ok h.1 hrg.1 hrg.2.2.1 hK hI0 (by omega) hg hk) (fun q hq => ?_)
      obtain ⟨q1, q2, q3⟩ := hq
      have hq1 : 0 ≤ q.1 ∧ s.1 + q.1 ≤ 4611686000000 := by
        rw [hn1] at hle2 hI2
        have h5 := hle2.1
        have h6 : (vstep K r s).1 = s.1 + q.1 := by rw [q1]; rfl
        have h7 := pass_PI hK r.1 _ (fun d hd => by have := hrg.1.1 d hd; have := hrg.2.2.1 d hd; omega) hI0
        exact ⟨by rw [q1]; exact h7.1, by omega⟩
      rw [hx]
      (repeat (first | with_reducible refine ok_nm0 ?_ | (with_reducible refine ok_chk ?_ ?_; · omega) | (with_reducible refine ok_if ?_ ?_; · omega) | (with_reducible refine ok_el ?_ ?_; · omega) | with_reducible refine ok_some ?_ | with_reducible refine ok_bi ?_ | with_reducible refine ok_bsm ?_)); try dsimp only
      refine (ih (k + 1) _ (by omega) (by omega) ⟨?_, fun j r hj => ?_⟩ ?_ ?_ ?_).mono (fun z hz => ⟨hz.1, hz.2.1, fun j hj => ?_, fun b hb1 hb2 => ?_⟩)
      · rw [wrn (by omega), q3 _ (by omega)]; exact hp.1
      · rw [wrn (by omega), wrn (by omega), q3 _ (by omega), q3 _ (by omega)]; exact hp.2 j r hj
      · rw [wrn (by omega), q3 _ (by omega)]; exact hk
      · rw [hn1, wrn (by omega)]; exact q2
      · rw [hn1, wra, q1]; rfl
      · rw [hz.2.2.1 j hj, wrk _ hj, q3 _ (by omega)]
      · rw [hz.2.2.2 b hb1 hb2, wrn hb1, q3 _ hb2]
theorem workOut_l75 {t n : Nat} {f : Vec} (hn : n ≤ 8) (hf : ∀ c, c < n → 0 ≤ f c ∧ f c ≤ 4611686000000) : ∀ (m c : Nat) (M : Mem), c ≤ n → n < m + c → M (t + 10000) 0 = n → Ag n (M (t + 11)) f → M t 13 = sm c f → Ok (fX4_workOut_l75 t m c M) (fun q => q.2 t 13 = sm n f ∧ (∀ j, j ≠ 13 → q.2 t j = M t j) ∧ ∀ b, b ≠ t → q.2 b = M b) := by
  intro m
  induction m with
  | zero => intros; omega
  | succ m ih =>
    intro c M h1 h2 hn0 hg hx
    unfold fX4_workOut_l75
    rw [hn0]
    refine ok_ite (fun hc => ok_some ?_) (fun hc => ?_)
    · have : c = n := by omega
      subst this
      exact ⟨hx, fun _ _ => rfl, fun _ _ => rfl⟩
    · have hcn : c < n := by omega
      have h3 := hf c hcn
      have h4 : 0 ≤ sm c f := sm_nn (fun d hd => (hf d (by omega)).1)
      have h5 : sm c f ≤ 8 * 4611686000000 := by
        have : ∀ k, k ≤ c → sm k f ≤ k * 4611686000000 := by
          intro k
          induction k with
          | zero => intro _; simp [sm]
          | succ k ih => intro hk; have := ih (by omega); have := (hf k (by omega)).2; show sm k f + f k ≤ _; omega
        have := this c (Nat.le_refl c)
        omega
      have h6 := hg c hcn
      rw [tn, hx, h6]
      (repeat (first | with_reducible refine ok_nm0 ?_ | (with_reducible refine ok_chk ?_ ?_; · omega) | (with_reducible refine ok_if ?_ ?_; · omega) | (with_reducible refine ok_el ?_ ?_; · omega) | with_reducible refine ok_some ?_ | with_reducible refine ok_bi ?_ | with_reducible refine ok_bsm ?_)); try dsimp only
      refine (ih (c + 1) _ (by omega) (by omega) ?_ ?_ ?_).mono (fun z hz => ⟨hz.1, fun j hj => ?_, fun b hb => ?_⟩)
      · rw [wrn (by omega)]; exact hn0
      · rw [wrn (by omega)]; exact hg
      · rw [wra]; rfl
      · rw [hz.2.1 j hj, wrk _ hj]
      · rw [hz.2.2 b hb, wrn hb]
/-- what WORK OUT leaves -/
theorem workOut_ok {t : Nat} {p : PL} {K : Vec} {M : Mem} (h : WF p) (hK : KB p.n K) (hp : PAc M (t + 20) (gat p)) (hk : Ag p.n (M (t + 10)) K) (hc : PCc M (t + 10000) p) : Ok (fX4_workOut t M) (fun q => Ag p.n (q.2 (t + 11)) (VT p K).2 ∧ q.2 t 12 = (VT p K).1 ∧ q.2 t 13 = sm p.n (VT p K).2 ∧ q.2 t 11 = quo p (VT p K).2 ∧ (∀ j, j ≠ 11 → j ≠ 12 → j ≠ 13 → q.2 t j = M t j) ∧ ∀ b, b ≠ t → b ≠ t + 11 → q.2 b = M b) := by
  have hbd := VT_bd h hK
  have hqb := quo_bd h hbd.2.2.2.1 hbd.2.2.2.2
  have hs := h.2.2.2.2.2.2.1
  have h25 := (gat_ok h).1
  have h8 := h.1
  unfold fX4_workOut
  refine ok_by (fill8_ok (t + 11) M) (fun q hq => ?_)
  (first | with_reducible refine ok_nm0 ?_ | (with_reducible refine ok_chk ?_ ?_; · omega) | (with_reducible refine ok_if ?_ ?_; · omega) | (with_reducible refine ok_el ?_ ?_; · omega) | with_reducible refine ok_some ?_ | with_reducible refine ok_bi ?_ | with_reducible refine ok_bsm ?_)
  have f1 : ∀ b, b ≠ t + 11 → q.2 b = M b := fun b hb => by rw [hq]; funext j; dsimp only; rw [if_neg (by omega)]
  refine ok_by (workOut_l15 h hK 1000 0 _ (by omega) (by omega) ⟨?_, fun j r hj => ?_⟩ ?_ ?_ ?_) (fun z hz => ?_)
  · rw [wrn (by omega), f1 _ (by omega)]; exact hp.1
  · rw [wrn (by omega), wrn (by omega), f1 _ (by omega), f1 _ (by omega)]; exact hp.2 j r hj
  · rw [wrn (by omega), f1 _ (by omega)]; exact hk
  · rw [wrn (by omega), hq]
    intro c hc2
    try dsimp only
    rw [if_pos ⟨rfl, by omega⟩]
    rfl
  · rw [wra]; rfl
  · obtain ⟨z1, z2, z3, z4⟩ := hz
    (first | with_reducible refine ok_nm0 ?_ | (with_reducible refine ok_chk ?_ ?_; · omega) | (with_reducible refine ok_if ?_ ?_; · omega) | (with_reducible refine ok_el ?_ ?_; · omega) | with_reducible refine ok_some ?_ | with_reducible refine ok_bi ?_ | with_reducible refine ok_bsm ?_)
    refine ok_by (workOut_l75 h.1 hbd.2.2.1 1000 0 _ (by omega) (by omega) ?_ ?_ ?_) (fun y hy => ?_)
    · rw [wrn (by omega), z4 _ (by omega) (by omega), wrn (by omega), f1 _ (by omega)]; exact hc.1
    · rw [wrn (by omega)]; exact z1
    · rw [wra]; rfl
    · obtain ⟨y1, y2, y3⟩ := hy
      have hse : y.2 (t + 10000) 6 = p.se := by
        rw [y3 _ (by omega), wrn (by omega), z4 _ (by omega) (by omega), wrn (by omega), f1 _ (by omega)]; exact hc.2.2.2.2.1
      rw [hse, y1]
      (repeat (first | with_reducible refine ok_nm0 ?_ | (with_reducible refine ok_chk ?_ ?_; · omega) | (with_reducible refine ok_if ?_ ?_; · omega) | (with_reducible refine ok_el ?_ ?_; · omega) | with_reducible refine ok_some ?_ | with_reducible refine ok_bi ?_ | with_reducible refine ok_bsm ?_)); try dsimp only
      refine ok_bs (cut_ok hbd.2.2.2.1 (by omega) _) ?_
      have hqq : sm p.n (VT p K).2 / (p.se + 1) + 1 = quo p (VT p K).2 := rfl
      (repeat (first | with_reducible refine ok_nm0 ?_ | (with_reducible refine ok_chk ?_ ?_; · omega) | (with_reducible refine ok_if ?_ ?_; · omega) | (with_reducible refine ok_el ?_ ?_; · omega) | with_reducible refine ok_some ?_ | with_reducible refine ok_bi ?_ | with_reducible refine ok_bsm ?_)); try dsimp only
      refine ⟨?_, ?_, ?_, ?_, fun j j1 j2 j3 => ?_, fun b b1 b2 => ?_⟩
      · rw [wrn (by omega), y3 _ (by omega), wrn (by omega)]; exact z1
      · rw [wrk _ (by omega), y2 _ (by omega), wrk _ (by omega)]; exact z2
      · rw [wrk _ (by omega)]; exact y1
      · rw [wra]; rfl
      · rw [wrk _ j1, y2 _ j3, wrk _ j3, z3 _ j2, wrk _ j2, f1 _ (by omega)]
      · rw [wrn b1, y3 _ b1, wrn b1, z4 _ b1 b2, wrn b1, f1 _ b2]
end
