section
/-! EVENTS happen -/
theorem sm_pw : ∀ {n : Nat} {f g : Vec}, (∀ c, c < n → f c ≤ g c) → sm n f ≤ sm n g
  | 0, _, _, _ => Int.le_refl 0
  | n + 1, f, g, h => by
    have h1 := sm_pw (n := n) (f := f) (g := g) (fun c hc => h c (by omega))
    have h2 := h n (by omega)
    show sm n f + f n ≤ sm n g + g n
    omega
def emp (p : PL) (n : Int) (k : Nat) : Vec := fun b => if b < k ∧ fh p b = n then 0 else p.mn b
def evp (p : PL) (w n : Int) : PL := if w = 0 then wg p (up p.g n.toNat 1) else if w = 1 then wg p (up p.g n.toNat 0) else if w = 2 then wse p n else wm p (emp p n p.nb)
def evs (p : PL) (e : SE) : Nat → PL
  | 0 => p
  | k + 1 => evp (evs p e k) (e.what k) (e.num k)
theorem WF.emp_ {p : PL} (h : WF p) (n : Int) (k : Nat) : WF (wm p (emp p n k)) := ⟨h.1, h.2.1, h.2.2.1, h.2.2.2.1, fun b hb => ⟨(h.2.2.2.2.1 b hb).1, by
  show 0 ≤ (if b < k ∧ fh p b = n then 0 else p.mn b)
  have := (h.2.2.2.2.1 b hb).2
  split <;> omega⟩, Int.le_trans (sm_pw (n := p.nb) (f := emp p n k) (g := p.mn) (fun b hb => by
  show (if b < k ∧ fh p b = n then 0 else p.mn b) ≤ p.mn b
  have := (h.2.2.2.2.1 b hb).2
  split <;> omega)) h.2.2.2.2.2.1, h.2.2.2.2.2.2⟩
def evg (n : Nat) (w v : Int) : Prop := 0 ≤ w ∧ w ≤ 3 ∧ (w = 2 → 1 ≤ v ∧ v ≤ 7) ∧ (w ≠ 2 → 0 ≤ v ∧ v < n)
theorem WF.evp_ {p : PL} (h : WF p) {w n : Int} (hg : evg p.n w n) : WF (evp p w n) ∧ (evp p w n).n = p.n ∧ (evp p w n).nb = p.nb := by
  unfold evp
  have gup : ∀ v : Int, v = 0 ∨ v = 1 → ∀ c, c < p.n → up p.g n.toNat v c = 0 ∨ up p.g n.toNat v c = 1 := fun v hv c hc => by
    by_cases e : c = n.toNat
    · subst e; rw [up_same]; exact hv
    · rw [up_ne e]; exact h.2.2.1 c hc
  by_cases w0 : w = 0
  · rw [if_pos w0]; exact ⟨h.wg (gup 1 (Or.inr rfl)), rfl, rfl⟩
  · rw [if_neg w0]
    by_cases w1 : w = 1
    · rw [if_pos w1]; exact ⟨h.wg (gup 0 (Or.inl rfl)), rfl, rfl⟩
    · rw [if_neg w1]
      by_cases w2 : w = 2
      · rw [if_pos w2]; exact ⟨h.wse (hg.2.2.1 w2), rfl, rfl⟩
      · rw [if_neg w2]; exact ⟨h.emp_ n p.nb, rfl, rfl⟩
theorem evs_ok {p : PL} {e : SE} (h : WF p) (he : SEok p.n e) : ∀ k, k ≤ e.ne → WF (evs p e k) ∧ (evs p e k).n = p.n ∧ (evs p e k).nb = p.nb
  | 0, _ => ⟨h, rfl, rfl⟩
  | k + 1, hk => by
    obtain ⟨h1, h2, h3⟩ := evs_ok h he k (by omega)
    have hg : evg (evs p e k).n (e.what k) (e.num k) := by rw [h2]; exact he.2.2.2 k (by omega)
    have := h1.evp_ hg
    exact ⟨this.1, this.2.1.trans h2, this.2.2.trans h3⟩
theorem empty_l {p : PL} {n : Int} (h : WF p) : ∀ (m b : Nat) (M : Mem), b ≤ p.nb → p.nb < m + b → PCc M 12000 (wm p (emp p n b)) → Ok (fX1_emptyLedBy_l2 12000 n m b M) (fun q => PCc q.2 12000 (wm p (emp p n p.nb)) ∧ Th M q.2) := by
  intro m
  have h25 := h.2.1
  induction m with
  | zero => intros; omega
  | succ m ih =>
    intro b M h1 h2 hP
    unfold fX1_emptyLedBy_l2
    have e3 : M 12000 3 = p.nb := hP.2.1
    rw [e3]
    refine ok_ite (fun hq => ok_some ?_) (fun hq => ?_)
    · have : b = p.nb := by omega
      subst this; exact ⟨hP, Th.refl M⟩
    · have hb : b < p.nb := by omega
      have hf := firstHere_ok (h.emp_ n b) hP (b := b) hb
      have efh : fh (wm p (emp p n b)) b = fh p b := rfl
      rw [efh] at hf
      refine ok_bs hf ?_
      dsimp only
      obtain ⟨b1, b2, b3, b4, b5, b6, b7⟩ := hP
      by_cases hn : fh p b = n
      · refine ok_bi (ok_if hn (ok_chk (by omega) (ok_nm0 (ok_some (ok_chk (by omega) ?_)))))
        rw [tn]
        refine (ih (b + 1) _ (by omega) (by omega) ⟨by simpa [wr] using b1, by simpa [wr] using b2, fun c hc => by simpa [wr] using b3 c hc, fun x hx => ⟨by simpa [wr] using (b4 x hx).1, ?_⟩, by simpa [wr] using b5, by simpa [wr] using b6, by simpa [wr] using b7⟩).mono (fun z hz => ⟨hz.1, ((Th.refl M).wr (by omega)).trans hz.2⟩)
        show wr M 12006 b 0 12006 x = emp p n (b + 1) x
        have h4 : M 12006 x = emp p n b x := (b4 x hx).2
        rw [wre]
        unfold emp at h4 ⊢
        by_cases ex : x = b
        · subst ex; rw [up_same, if_pos ⟨by omega, hn⟩]
        · rw [up_ne ex, h4]
          by_cases e2 : x < b ∧ fh p x = n
          · rw [if_pos e2, if_pos ⟨by omega, e2.2⟩]
          · rw [if_neg e2, if_neg (fun h => e2 ⟨by omega, h.2⟩)]
      · refine ok_bi (ok_el hn (ok_some (ok_chk (by omega) ?_)))
        refine ih (b + 1) M (by omega) (by omega) ⟨b1, b2, b3, fun x hx => ⟨(b4 x hx).1, ?_⟩, b5, b6, b7⟩
        show M 12006 x = emp p n (b + 1) x
        have h4 : M 12006 x = emp p n b x := (b4 x hx).2
        rw [h4]
        unfold emp
        by_cases ex : x = b
        · subst ex; rw [if_neg (by omega), if_neg (fun h => hn h.2)]
        · by_cases e2 : x < b ∧ fh p x = n
          · rw [if_pos e2, if_pos ⟨by omega, e2.2⟩]
          · rw [if_neg e2, if_neg (fun h => e2 ⟨by omega, h.2⟩)]
theorem suffer_ok {p : PL} {w n : Int} {M : Mem} (h : WF p) (hg : evg p.n w n) (hP : PCc M 12000 p) : Ok (fX1_suffer 12000 w n M) (fun q => PCc q.2 12000 (evp p w n) ∧ Th M q.2) := by
  have h8 := h.1
  have h25 := h.2.1
  have one0 : ¬ ((1 : Int) = 0) := by decide
  have hP' := hP
  obtain ⟨b1, b2, b3, b4, b5, b6, b7⟩ := hP
  unfold fX1_suffer evp
  by_cases w2 : w = 2
  · rw [if_neg (show ¬ w = 0 by omega), if_neg (show ¬ w = 1 by omega)]
    have ex : (if w = 2 then wse p n else wm p (emp p n p.nb)) = wse p n := if_pos w2
    rw [ex]
    refine ok_if w2 (ok_nm0 (ok_some ⟨⟨by simpa [wr] using b1, by simpa [wr] using b2, fun c hc => by simpa [wr] using b3 c hc, fun b hb => by simpa [wr] using b4 b hb, by simp [wr, PL.se], by simpa [wr] using b6, by simpa [wr] using b7⟩, (Th.refl M).wr (by omega)⟩))
  · have hn := hg.2.2.2 w2
    obtain ⟨d, rfl⟩ := Int.eq_ofNat_of_zero_le hn.1
    have hd : d < p.n := by omega
    have hcd := hasCand_ok (o := 12000) (n := p.n) (c := (d : Int)) (M := M) b1
    rw [if_pos hn] at hcd
    refine ok_el w2 (ok_bs hcd (ok_el one0 ?_))
    simp only [tn]
    have wgc : ∀ v : Int, PCc (wr M 12003 d v) 12000 (wg p (up p.g d v)) := fun v => ⟨by simpa [wr] using b1, by simpa [wr] using b2, fun c hc => by
      by_cases e : c = d
      · subst e; have := (b3 c hc).2; simpa [wr, up, PL.g, PL.lot] using this
      · have := b3 c hc; simpa [wr, up, PL.g, PL.lot, e] using this, fun b hb => by simpa [wr] using b4 b hb, by simpa [wr] using b5, by simpa [wr] using b6, by simpa [wr] using b7⟩
    by_cases w0 : w = 0
    · have ex : (if w = 0 then wg p (up p.g d 1) else if w = 1 then wg p (up p.g d 0) else if w = 2 then wse p d else wm p (emp p d p.nb)) = wg p (up p.g d 1) := if_pos w0
      rw [ex]
      exact ok_bi (ok_if w0 (ok_chk (by omega) (ok_nm0 (ok_some (ok_some ⟨wgc 1, (Th.refl M).wr (by omega)⟩)))))
    · by_cases w1 : w = 1
      · have ex : (if w = 0 then wg p (up p.g d 1) else if w = 1 then wg p (up p.g d 0) else if w = 2 then wse p d else wm p (emp p d p.nb)) = wg p (up p.g d 0) := by rw [if_neg w0, if_pos w1]
        rw [ex]
        exact ok_bi (ok_el w0 (ok_if w1 (ok_chk (by omega) (ok_nm0 (ok_some (ok_some ⟨wgc 0, (Th.refl M).wr (by omega)⟩))))))
      · have ex : (if w = 0 then wg p (up p.g d 1) else if w = 1 then wg p (up p.g d 0) else if w = 2 then wse p d else wm p (emp p d p.nb)) = wm p (emp p d p.nb) := by rw [if_neg w0, if_neg w1, if_neg w2]
        rw [ex]
        have hE : PCc M 12000 (wm p (emp p d 0)) := ⟨b1, b2, b3, fun b hb => ⟨(b4 b hb).1, by
          show M 12006 b = (if b < 0 ∧ fh p b = d then 0 else p.mn b)
          rw [if_neg (by omega)]; exact (b4 b hb).2⟩, b5, b6, b7⟩
        unfold fX1_emptyLedBy
        exact ok_bi (ok_el w0 (ok_el w1 (ok_el w2 (ok_if (by have := hg.1; have := hg.2.1; omega) (ok_bind (ok_by (empty_l h 1000 0 M (by omega) (by omega) hE) (fun z hz => ok_some (ok_some (ok_some hz)))))))))
theorem afterC_l {s : SS} (hs : GS s) : ∀ (m k : Nat) (M : Mem), k ≤ s.e.ne → s.e.ne < m + k → CI M s → PCc M 12000 (evs s.p s.e k) → Ok (fX8_after_l13 10 m k M) (fun z => CI z.2 s ∧ PCc z.2 12000 (evs s.p s.e s.e.ne) ∧ Th M z.2) := by
  intro m
  have h8 := hs.2.1.2.2.1
  induction m with
  | zero => intros; omega
  | succ m ih =>
    intro k M h1 h2 hC hP
    unfold fX8_after_l13
    simp only [Nat.reduceAdd]
    have e12 : M 11000 12 = s.e.ne := hC.1.1.2.1.2.1
    rw [e12]
    refine ok_ite (fun hq => ok_some ?_) (fun hq => ?_)
    · have : k = s.e.ne := by omega
      subst this; exact ⟨hC, hP, Th.refl M⟩
    · have hk : k < s.e.ne := by omega
      have hv := hC.1.1.2.1.2.2.2 k hk
      have ew : M 11014 k = s.e.what k := hv.1
      have en : M 11015 k = s.e.num k := hv.2
      rw [tn, ew, en]
      obtain ⟨w1, w2, w3⟩ := evs_ok hs.1.1 hs.2.1 k h1
      have hg : evg (evs s.p s.e k).n (s.e.what k) (s.e.num k) := by rw [w2]; exact hs.2.1.2.2.2 k hk
      refine ok_chk (by omega) (ok_chk (by omega) (ok_by (suffer_ok w1 hg hP) (fun q hq => ok_chk (by omega) ?_)))
      exact (ih (k + 1) q.2 hk (by omega) (hC.th hs hq.2) hq.1).mono (fun z hz => ⟨hz.1, hz.2.1, hq.2.trans hz.2.2⟩)
/-! the other one's -/
def HaF (M M' : Mem) : Prop := (∀ j, j ≠ 6 → M' 20000 j = M 20000 j) ∧ ∀ x, x ≠ 20000 → x ≠ 20003 → x ≠ 20006 → M' x = M x
theorem HaF.refl (M : Mem) : HaF M M := ⟨fun _ _ => rfl, fun _ _ _ _ => rfl⟩
theorem HaF.trans {M M' M'' : Mem} (h : HaF M M') (h2 : HaF M' M'') : HaF M M'' := ⟨fun j hj => (h2.1 j hj).trans (h.1 j hj), fun x x1 x2 x3 => (h2.2 x x1 x2 x3).trans (h.2 x x1 x2 x3)⟩
theorem emptyM_l {p : PL} {n : Int} (h : WF p) (hn : 0 ≤ n ∧ n < p.n) : ∀ (m b : Nat) (M : Mem), b ≤ p.nb → p.nb < m + b → PMm M 20000 (wm p (emp p n b)) → Ok (fX9_happens_l32 20000 3 n m b M) (fun q => PMm q.2 20000 (wm p (emp p n p.nb)) ∧ HaF M q.2) := by
  intro m
  have h8 := h.1
  have h25 := h.2.1
  induction m with
  | zero => intros; omega
  | succ m ih =>
    intro b M h1 h2 hP
    unfold fX9_happens_l32
    have e3 : M 20000 1 = p.nb := hP.2.1
    rw [e3]
    refine ok_if rfl (ok_ite (fun hq => ok_some ?_) (fun hq => ?_))
    · have : b = p.nb := by omega
      subst this; exact ⟨hP, HaF.refl M⟩
    · have hb : b < p.nb := by omega
      have hl := left_p (h.emp_ n b) hP (b := b) hb
      have hr := (h.2.2.2.2.1 b hb).1
      rw [tn]
      refine ok_chk (by omega) (ok_bs hl (ok_nm0 ?_))
      dsimp only
      have elf : lft (PL.g (wm p (emp p n b))) (PL.L (wm p (emp p n b)) b) = lft p.g (p.L b) := rfl
      rw [elf]
      obtain ⟨b1, b2, b3, b4, b5, b6, b7⟩ := hP
      have yes : fh p b = n → Ok (if -2147483648 ≤ ((b : Int) + 1) ∧ ((b : Int) + 1) ≤ 2147483647 then fX9_happens_l32 20000 3 n m ((b : Int) + 1) (wr M 20006 b 0) else none) (fun q => PMm q.2 20000 (wm p (emp p n p.nb)) ∧ HaF M q.2) := fun hn => by
        refine ok_chk (by omega) ((ih (b + 1) _ (by omega) (by omega) ⟨by simpa [wr] using b1, by simpa [wr] using b2, fun c hc => by simpa [wr] using b3 c hc, fun x hx => ⟨by simpa [wr] using (b4 x hx).1, ?_⟩, by simpa [wr] using b5, by simpa [wr] using b6, by simpa [wr] using b7⟩).mono (fun z hz => ⟨hz.1, HaF.trans ⟨fun j _ => by rw [wrn (by omega)], fun x x1 x2 x3 => wrn x3⟩ hz.2⟩))
        show wr M 20006 b 0 20006 x = emp p n (b + 1) x
        have h4 : M 20006 x = emp p n b x := (b4 x hx).2
        rw [wre]
        unfold emp at h4 ⊢
        by_cases ex : x = b
        · subst ex; rw [up_same, if_pos ⟨by omega, hn⟩]
        · rw [up_ne ex, h4]
          by_cases e2 : x < b ∧ fh p x = n
          · rw [if_pos e2, if_pos ⟨by omega, e2.2⟩]
          · rw [if_neg e2, if_neg (fun h => e2 ⟨by omega, h.2⟩)]
      have no : fh p b ≠ n → Ok (if -2147483648 ≤ ((b : Int) + 1) ∧ ((b : Int) + 1) ≤ 2147483647 then fX9_happens_l32 20000 3 n m ((b : Int) + 1) M else none) (fun q => PMm q.2 20000 (wm p (emp p n p.nb)) ∧ HaF M q.2) := fun hn => by
        refine ok_chk (by omega) (ih (b + 1) M (by omega) (by omega) ⟨b1, b2, b3, fun x hx => ⟨(b4 x hx).1, ?_⟩, b5, b6, b7⟩)
        show M 20006 x = emp p n (b + 1) x
        have h4 : M 20006 x = emp p n b x := (b4 x hx).2
        rw [h4]
        unfold emp
        by_cases ex : x = b
        · subst ex; rw [if_neg (by omega), if_neg (fun h => hn h.2)]
        · by_cases e2 : x < b ∧ fh p x = n
          · rw [if_pos e2, if_pos ⟨by omega, e2.2⟩]
          · rw [if_neg e2, if_neg (fun h => e2 ⟨by omega, h.2⟩)]
      by_cases he : lft p.g (p.L b) = []
      · have e1 : fh p b = -5 := by unfold fh; rw [if_pos he]
        rw [he]
        exact ok_bi (ok_if (by decide) (ok_some (no (by omega))))
      · have hf := fh_ge h hb he
        have hp := num_posn (lft_rl hr.1 p.g) he
        refine ok_bi (ok_el (by omega) (ok_bs (digitAt_ok (lft_rl hr.1 p.g) (i := 0) (ne_len he) M) (ok_chk (by omega) ?_)))
        dsimp only
        refine ok_ite (fun e2 => ok_chk (by omega) (ok_nm0 (ok_some ?_))) (fun e2 => ok_some (no (by omega)))
        try rw [tn]
        exact yes (by omega)
theorem happens_ok {p : PL} {w n : Int} {M : Mem} (h : WF p) (hg : evg p.n w n) (hP : PMm M 20000 p) : Ok (fX9_happens 20000 w n M) (fun q => PMm q.2 20000 (evp p w n) ∧ HaF M q.2) := by
  have h8 := h.1
  have h25 := h.2.1
  have hP' := hP
  obtain ⟨b1, b2, b3, b4, b5, b6, b7⟩ := hP
  unfold fX9_happens evp
  have stop : ∀ N : Mem, w ≠ 3 → fX9_happens_l32 20000 w n 1000 0 N = some (0, N) := fun N hw => by
    show (if w = 3 then _ else some ((0 : Int), N)) = _
    rw [if_neg hw]
  by_cases w2 : w = 2
  · have ex : (if w = 0 then wg p (up p.g n.toNat 1) else if w = 1 then wg p (up p.g n.toNat 0) else if w = 2 then wse p n else wm p (emp p n p.nb)) = wse p n := by rw [if_neg (show ¬ w = 0 by omega), if_neg (show ¬ w = 1 by omega), if_pos w2]
    rw [ex]
    refine ok_bi (ok_if (by omega) (ok_some (ok_bi (ok_if w2 (ok_nm0 (ok_some (ok_bs (stop _ (by omega)) (ok_some ?_))))))))
    exact ⟨⟨by simpa [wr] using b1, by simpa [wr] using b2, fun c hc => by simpa [wr] using b3 c hc, fun b hb => by simpa [wr] using b4 b hb, by simp [wr, PL.se], by simpa [wr] using b6, by simpa [wr] using b7⟩, fun j hj => wrk _ hj, fun x x1 _ _ => wrn x1⟩
  · have hn := hg.2.2.2 w2
    obtain ⟨d, rfl⟩ := Int.eq_ofNat_of_zero_le hn.1
    have hd : d < p.n := by omega
    simp only [tn]
    have wgc : ∀ v : Int, PMm (wr M 20003 d v) 20000 (wg p (up p.g d v)) ∧ HaF M (wr M 20003 d v) := fun v => ⟨⟨by simpa [wr] using b1, by simpa [wr] using b2, fun c hc => by
      by_cases e : c = d
      · subst e; have := (b3 c hc).2; simpa [wr, up, PL.g, PL.lot] using this
      · have := b3 c hc; simpa [wr, up, PL.g, PL.lot, e] using this, fun b hb => by simpa [wr] using b4 b hb, by simpa [wr] using b5, by simpa [wr] using b6, by simpa [wr] using b7⟩, fun j _ => by rw [wrn (by omega)], fun x _ x2 _ => wrn x2⟩
    by_cases w0 : w = 0
    · have ex : (if w = 0 then wg p (up p.g d 1) else if w = 1 then wg p (up p.g d 0) else if w = 2 then wse p d else wm p (emp p d p.nb)) = wg p (up p.g d 1) := if_pos w0
      rw [ex]
      exact ok_bi (ok_el (by omega) (ok_bi (ok_if w0 (ok_some (ok_chk (by omega) (ok_chk (Or.inr rfl) (ok_nm0 (ok_some (ok_bi (ok_el w2 (ok_some (ok_bs (stop _ (by omega)) (ok_some (wgc 1))))))))))))))
    · by_cases w1 : w = 1
      · have ex : (if w = 0 then wg p (up p.g d 1) else if w = 1 then wg p (up p.g d 0) else if w = 2 then wse p d else wm p (emp p d p.nb)) = wg p (up p.g d 0) := by rw [if_neg w0, if_pos w1]
        rw [ex]
        exact ok_bi (ok_el (by omega) (ok_bi (ok_el w0 (ok_some (ok_chk (by omega) (ok_chk (Or.inl rfl) (ok_nm0 (ok_some (ok_bi (ok_el w2 (ok_some (ok_bs (stop _ (by omega)) (ok_some (wgc 0))))))))))))))
      · have w3 : w = 3 := by have := hg.1; have := hg.2.1; omega
        have ex : (if w = 0 then wg p (up p.g d 1) else if w = 1 then wg p (up p.g d 0) else if w = 2 then wse p d else wm p (emp p d p.nb)) = wm p (emp p d p.nb) := by rw [if_neg w0, if_neg w1, if_neg w2]
        rw [ex]
        subst w3
        have hE : PMm M 20000 (wm p (emp p d 0)) := ⟨b1, b2, b3, fun b hb => ⟨(b4 b hb).1, by
          show M 20006 b = (if b < 0 ∧ fh p b = d then 0 else p.mn b)
          rw [if_neg (by omega)]; exact (b4 b hb).2⟩, b5, b6, b7⟩
        exact ok_bi (ok_if (by decide) (ok_some (ok_bi (ok_el w2 (ok_some (ok_by (emptyM_l h hn 1000 0 M (by omega) (by omega) hE) (fun z hz => ok_some hz)))))))
theorem afterM_l {s : SS} {x1 : Int} (hs : GS s) : ∀ (m k : Nat) (M : Mem), k ≤ s.e.ne → s.e.ne < m + k → SEm M 20000 s.e → PMm M 20000 (evs s.p s.e k) → Ok (fX9_after_l37 20000 x1 m k M) (fun z => PMm z.2 20000 (evs s.p s.e s.e.ne) ∧ HaF M z.2) := by
  intro m
  have h8 := hs.2.1.2.2.1
  induction m with
  | zero => intros; omega
  | succ m ih =>
    intro k M h1 h2 hE hP
    unfold fX9_after_l37
    have e10 : M 20000 10 = s.e.ne := hE.2.1
    rw [e10]
    refine ok_ite (fun hq => ok_some ?_) (fun hq => ?_)
    · have : k = s.e.ne := by omega
      subst this; exact ⟨hP, HaF.refl M⟩
    · have hk : k < s.e.ne := by omega
      have hv := hE.2.2.2 k hk
      rw [tn, hv.1, hv.2]
      obtain ⟨w1, w2, w3⟩ := evs_ok hs.1.1 hs.2.1 k h1
      have hg : evg (evs s.p s.e k).n (s.e.what k) (s.e.num k) := by rw [w2]; exact hs.2.1.2.2.2 k hk
      refine ok_chk (by omega) (ok_chk (by omega) (ok_by (happens_ok w1 hg hP) (fun q hq => ok_chk (by omega) ?_)))
      exact (ih (k + 1) q.2 hk (by omega) (hE.same (fun j hj => hq.2.1 j (by omega)) (fun x _ _ => hq.2.2 x (by omega) (by omega) (by omega))) hq.1).mono (fun z hz => ⟨hz.1, hq.2.trans hz.2⟩)
theorem op_after {s : SS} (hs : GS s) : Op s (fX8_after 10) (fX9_after 20000) := by
  have h8 := hs.1.1.1
  have h24 := hs.1.2
  have hne := hs.2.1.2.2.1
  obtain ⟨w1, w2, w3⟩ := evs_ok hs.1.1 hs.2.1 s.e.ne (Nat.le_refl _)
  refine ⟨els (evs s.p s.e s.e.ne), s, hs, fun M hC => ?_, fun M hD => ?_⟩
  · unfold fX8_after
    simp only [Nat.reduceAdd]
    refine ok_by (copyT hs hC) (fun z hz => ok_by (afterC_l hs 1000 0 z.2 (Nat.zero_le _) (by omega) (hC.th hs hz.2) hz.1.1) (fun y hy => ok_by (thought_ok w1 hy.2.1) (fun q hq => ok_some ?_)))
    rw [hq.1]
    exact PC.th hs hC ((hz.2.trans hy.2.2).trans (fun x hx => hq.2.2 x (by omega)))
  · unfold fX9_after
    simp only [Nat.reduceAdd]
    have t0 : Int.toNat 0 = 0 := rfl
    have t8 : Int.toNat 8 = 8 := rfl
    have t25 : Int.toNat 25 = 25 := rfl
    simp only [t0, t8, t25]
    refine ok_nm0 (ok_chk (by omega) (ok_nm0 (ok_chk (by omega) (ok_nm0 ?_))))
    generalize e5 : cpM (cpM M 20003 0 20044 0 8) 20006 0 20045 0 25 = M5
    have x5 : ∀ x, x ≠ 20044 → x ≠ 20045 → M5 x = M x := fun x x1 x2 => by rw [← e5]; funext k; simp [cpM, x1, x2]
    have g5 : ∀ k, k < 8 → M5 20044 k = M 20003 k := fun k hk => by rw [← e5]; simp [cpM, hk]
    have m5 : ∀ k, k < 25 → M5 20045 k = M 20006 k := fun k hk => by rw [← e5]; simp [cpM, hk]
    have hP5 : PMm M5 20000 s.p := hD.1.same (fun k _ => by rw [x5 20000 (by omega) (by omega)]) (x5 _ (by omega) (by omega)) (x5 _ (by omega) (by omega)) (x5 _ (by omega) (by omega)) (x5 _ (by omega) (by omega))
    have hE5 : SEm M5 20000 s.e := hD.2.1.same (fun k _ => by rw [x5 20000 (by omega) (by omega)]) (fun x _ _ => x5 x (by omega) (by omega))
    refine ok_by (afterM_l hs 1000 0 M5 (Nat.zero_le _) (by omega) hE5 hP5) (fun z hz => ok_by (elSet_ok w1 hz.1) (fun q hq => ok_nm0 (ok_nm0 (ok_chk (by omega) (ok_nm0 (ok_chk (by omega) (ok_nm0 (ok_some ?_))))))))
    obtain ⟨z1, z2, z3⟩ := hz
    obtain ⟨q1, q2, q3, q4⟩ := hq
    rw [q1]
    generalize eN : cpM (cpM (wr q.2 20000 6 (M 20000 6)) 20044 0 20003 0 8) 20045 0 20006 0 25 = N
    have nx : ∀ x, x ≠ 20000 → x ≠ 20003 → x ≠ 20006 → N x = q.2 x := fun x x1 x2 x3 => by rw [← eN]; funext k; simp [cpM, wr, x1, x2, x3]
    have na : ∀ j, j ≠ 6 → N 20000 j = q.2 20000 j := fun j hj => by rw [← eN]; simp [cpM, wr, hj]
    have n6 : N 20000 6 = M 20000 6 := by rw [← eN]; simp [cpM, wr]
    have q44 : q.2 20044 = M5 20044 := by rw [q4 _ (by omega), z3 _ (by omega) (by omega) (by omega)]
    have q45 : q.2 20045 = M5 20045 := by rw [q4 _ (by omega), z3 _ (by omega) (by omega) (by omega)]
    have n3 : ∀ k, k < 8 → N 20003 k = M 20003 k := fun k hk => by rw [← g5 k hk, ← q44, ← eN]; simp [cpM, wr, hk]
    have nm6 : ∀ k, k < 25 → N 20006 k = M 20006 k := fun k hk => by rw [← m5 k hk, ← q45, ← eN]; simp [cpM, wr, hk]
    have ch : ∀ x, x < 20000 ∨ (20000 < x ∧ x < 20020) ∨ 20043 ≤ x → x ≠ 20003 → x ≠ 20006 → x ≠ 20044 → x ≠ 20045 → N x = M x := fun x h1 h2 h3 h4 h5 => by rw [nx x (by omega) h2 h3, q4 x h1, z3 x (by omega) h2 h3, x5 x h4 h5]
    have ca : ∀ j, j ≠ 18 → j ≠ 22 → j ≠ 23 → j ≠ 29 → j ≠ 30 → j ≠ 31 → j ≠ 32 → N 20000 j = M 20000 j := fun j j1 j2 j3 j4 j5 j6 j7 => by
      by_cases e : j = 6
      · subst e; exact n6
      · rw [na j e, q3 j j1 j2 j3 j4 j5 j6 j7, z2 j e, x5 20000 (by omega) (by omega)]
    obtain ⟨b1, b2, b3, b4, b5, b6, b7⟩ := hD.1
    refine PD.mk' (hD.of (p' := s.p) (e' := s.e) ⟨?_, ?_, fun c hc => ?_, fun b hb => ?_, ?_, ?_, ?_⟩ (hD.2.1.same (fun j hj => ca j (by omega) (by omega) (by omega) (by omega) (by omega) (by omega) (by omega)) (fun x _ _ => ch x (by omega) (by omega) (by omega) (by omega) (by omega))) (fun j hj => ca j (by omega) (by omega) (by omega) (by omega) (by omega) (by omega) (by omega)) (fun x hx => ch x (by omega) (by omega) (by omega) (by omega) (by omega))) (fun x hx => ch x (by omega) (by omega) (by omega) (by omega) (by omega))
    · rw [ca 0 (by omega) (by omega) (by omega) (by omega) (by omega) (by omega) (by omega)]; exact b1
    · rw [ca 1 (by omega) (by omega) (by omega) (by omega) (by omega) (by omega) (by omega)]; exact b2
    · show N 20003 c = _ ∧ N 20004 c = _
      rw [n3 c (by omega), ch 20004 (by omega) (by omega) (by omega) (by omega) (by omega)]; exact b3 c hc
    · show N 20005 b = _ ∧ N 20006 b = _
      rw [nm6 b (by omega), ch 20005 (by omega) (by omega) (by omega) (by omega) (by omega)]; exact b4 b hb
    · rw [n6]; exact b5
    · rw [ca 7 (by omega) (by omega) (by omega) (by omega) (by omega) (by omega) (by omega)]; exact b6
    · rw [ca 8 (by omega) (by omega) (by omega) (by omega) (by omega) (by omega) (by omega)]; exact b7
end
