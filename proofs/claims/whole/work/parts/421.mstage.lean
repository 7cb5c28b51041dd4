section
/-! the other one's STAGES -/
theorem npos_lx {p : PL} {c d : Nat} : lx [npos p] c d = true ↔ pos p d < pos p c := by
  rw [lx_cons]
  unfold npos
  simp only [lx]
  constructor
  · rintro (h | ⟨_, h⟩)
    · omega
    · cases h
  · intro h; exact Or.inl (by omega)
theorem rather_l45 {a : Nat} {p : PL} {hs : List SR} {M : Mem} (h : WF p) (hpm : PMm M a p) (hh : hs.length ≤ 8) (hS : ∀ s sr, hs[s]? = some sr → SRm M a p.n s sr) {c d : Nat} (hc : c < p.n) (hd : d < p.n) : ∀ (m s : Nat), s ≤ hs.length → s < m → Ok (fX9_goesRather_l45 a c d m ((s : Int) - 1) M) (fun z => z = .inl ((if lx ((hs.take s).reverse.map SR.g ++ [npos p]) c d then 1 else 0 : Int), M)) := by
  intro m
  have hn8 := h.1
  induction m with
  | zero => intros; omega
  | succ m ih =>
    intro s h1 h2
    unfold fX9_goesRather_l45
    cases s with
    | zero =>
      refine ok_if (by omega) (ok_bs (lotOf_ok h hpm hc) (ok_bs (lotOf_ok h hpm hd) ?_))
      have el0 : List.map SR.g (List.take 0 hs).reverse ++ [npos p] = [npos p] := rfl
      rw [el0]
      dsimp only
      refine ok_bi (ok_ite (fun e => ?_) (fun e => ?_))
      · rw [if_neg (fun hx => by have := npos_lx.mp hx; omega)]
        (repeat (first | with_reducible refine ok_nm0 ?_ | (with_reducible refine ok_chk ?_ ?_; · omega) | (with_reducible refine ok_if ?_ ?_; · omega) | (with_reducible refine ok_el ?_ ?_; · omega) | with_reducible refine ok_some ?_ | with_reducible refine ok_bi ?_ | with_reducible refine ok_bsm ?_)); try dsimp only
      · rw [if_pos (npos_lx.mpr (by omega))]
        (repeat (first | with_reducible refine ok_nm0 ?_ | (with_reducible refine ok_chk ?_ ?_; · omega) | (with_reducible refine ok_if ?_ ?_; · omega) | (with_reducible refine ok_el ?_ ?_; · omega) | with_reducible refine ok_some ?_ | with_reducible refine ok_bi ?_ | with_reducible refine ok_bsm ?_)); try dsimp only
    | succ s =>
      obtain ⟨sr, hsr⟩ := getq (pl := hs) (j := s) (by omega)
      obtain ⟨hi, e⟩ := List.getElem?_eq_some_iff.mp hsr
      have hg := (hS s sr hsr).2.2.2.2.2.2.2
      have ec : 8 * (s : Int) + (c : Int) = ((8 * s + c : Nat) : Int) := by omega
      have ed : 8 * (s : Int) + (d : Int) = ((8 * s + d : Nat) : Int) := by omega
      rw [show ((s + 1 : Nat) : Int) - 1 = (s : Int) by omega]
      simp only [ec, ed, tn, (hg c hc).1, (hg d hd).1]
      rw [List.take_succ_eq_append_getElem hi, e, List.reverse_append]
      have el1 : List.map SR.g ([sr].reverse ++ (List.take s hs).reverse) ++ [npos p] = sr.g :: ((hs.take s).reverse.map SR.g ++ [npos p]) := rfl
      rw [el1]
      (repeat (first | with_reducible refine ok_nm0 ?_ | (with_reducible refine ok_chk ?_ ?_; · omega) | (with_reducible refine ok_if ?_ ?_; · omega) | (with_reducible refine ok_el ?_ ?_; · omega) | with_reducible refine ok_some ?_ | with_reducible refine ok_bi ?_ | with_reducible refine ok_bsm ?_)); try dsimp only
      refine ok_ite (fun e2 => ?_) (fun e2 => ?_)
      · (repeat (first | with_reducible refine ok_nm0 ?_ | (with_reducible refine ok_chk ?_ ?_; · omega) | (with_reducible refine ok_if ?_ ?_; · omega) | (with_reducible refine ok_el ?_ ?_; · omega) | with_reducible refine ok_some ?_ | with_reducible refine ok_bi ?_ | with_reducible refine ok_bsm ?_)); try dsimp only
        have := ih s (by omega) (by omega)
        rw [show (s : Int) + -1 = (s : Int) - 1 by omega]
        have el : lx (sr.g :: ((hs.take s).reverse.map SR.g ++ [npos p])) c d = lx ((hs.take s).reverse.map SR.g ++ [npos p]) c d := by
          conv => lhs; unfold lx
          simp [e2]
        rw [el]
        exact this
      · refine ok_bi (ok_ite (fun e3 => ?_) (fun e3 => ?_))
        · rw [if_neg (fun hx => by rcases lx_cons.mp hx with h4 | h4 <;> omega)]
          (repeat (first | with_reducible refine ok_nm0 ?_ | (with_reducible refine ok_chk ?_ ?_; · omega) | (with_reducible refine ok_if ?_ ?_; · omega) | (with_reducible refine ok_el ?_ ?_; · omega) | with_reducible refine ok_some ?_ | with_reducible refine ok_bi ?_ | with_reducible refine ok_bsm ?_)); try dsimp only
        · rw [if_pos (lx_cons.mpr (Or.inl (by omega)))]
          (repeat (first | with_reducible refine ok_nm0 ?_ | (with_reducible refine ok_chk ?_ ?_; · omega) | (with_reducible refine ok_if ?_ ?_; · omega) | (with_reducible refine ok_el ?_ ?_; · omega) | with_reducible refine ok_some ?_ | with_reducible refine ok_bi ?_ | with_reducible refine ok_bsm ?_)); try dsimp only
theorem rather_ok {a : Nat} {p : PL} {hs : List SR} {M : Mem} {g : Vec} (h : WF p) (hpm : PMm M a p) (hh : hs.length ≤ 8) (hS : ∀ s sr, hs[s]? = some sr → SRm M a p.n s sr) (h22 : M a 22 = hs.length) (hg : Ag p.n (M (a + 29)) g) {c d : Nat} (hc : c < p.n) (hd : d < p.n) : fX9_goesRather a c d M = some (if lx ((g :: hs.reverse.map SR.g) ++ [npos p]) c d then 1 else 0, M) := by
  have hn8 := h.1
  apply ok_eq
  unfold fX9_goesRather
  show Ok _ (fun q => q = (if lx (g :: (hs.reverse.map SR.g ++ [npos p])) c d then (1 : Int) else 0, M))
  simp only [tn, hg c hc, hg d hd, h22]
  refine ok_chk (by omega) (ok_chk (by omega) (ok_ite (fun e => ?_) (fun e => ?_)))
  · refine ok_chk (by omega) (ok_nm0 (ok_lrl ((rather_l45 h hpm hh hS hc hd 1000 hs.length (Nat.le_refl _) (by omega)).mono (fun z hz => ?_))))
    rw [List.take_length] at hz
    refine ⟨_, hz, ?_⟩
    have el : lx (g :: (hs.reverse.map SR.g ++ [npos p])) c d = lx (hs.reverse.map SR.g ++ [npos p]) c d := by
      conv => lhs; unfold lx
      simp [e]
    rw [el]
  · refine ok_chk (by omega) (ok_chk (by omega) (ok_bi (ok_ite (fun e3 => ?_) (fun e3 => ?_))))
    · rw [if_neg (fun hx => by rcases lx_cons.mp hx with h4 | h4 <;> omega)]
      (repeat (first | with_reducible refine ok_nm0 ?_ | (with_reducible refine ok_chk ?_ ?_; · omega) | (with_reducible refine ok_if ?_ ?_; · omega) | (with_reducible refine ok_el ?_ ?_; · omega) | with_reducible refine ok_some ?_ | with_reducible refine ok_bi ?_ | with_reducible refine ok_bsm ?_)); try dsimp only
    · rw [if_pos (lx_cons.mpr (Or.inl (by omega)))]
      (repeat (first | with_reducible refine ok_nm0 ?_ | (with_reducible refine ok_chk ?_ ?_; · omega) | (with_reducible refine ok_if ?_ ?_; · omega) | (with_reducible refine ok_el ?_ ?_; · omega) | with_reducible refine ok_some ?_ | with_reducible refine ok_bi ?_ | with_reducible refine ok_bsm ?_)); try dsimp only
theorem worst_l {a : Nat} {p : PL} {hs : List SR} {M : Mem} {f g : Vec} (h : WF p) (hpm : PMm M a p) (hh : hs.length ≤ 8) (hS : ∀ s sr, hs[s]? = some sr → SRm M a p.n s sr) (h22 : M a 22 = hs.length) (hg : Ag p.n (M (a + 29)) g) (hf : Ag p.n (M (a + 25)) f) : ∀ (m i : Nat) (x : Int), i ≤ p.n → p.n < m + i → x = opt (scan i ((g :: hs.reverse.map SR.g) ++ [npos p]) (hop f)) → Ok (fX9_worst_l4 a m x i M) (fun z => z.1 = opt (wst p f hs g) ∧ z.2.2 = M) := by
  intro m
  have hn8 := h.1
  induction m with
  | zero => intros; omega
  | succ m ih =>
    intro i x h1 h2 hx
    unfold fX9_worst_l4
    rw [hpm.1]
    refine ok_ite (fun hq => ok_some ⟨?_, rfl⟩) (fun hq2 => ?_)
    · have : i = p.n := by omega
      subst this; exact hx
    · have hi : i < p.n := by omega
      simp only [tn, hf i hi]
      have go : ∀ y : Int, y = opt (scan (i + 1) ((g :: hs.reverse.map SR.g) ++ [npos p]) (hop f)) → Ok (fX9_worst_l4 a m y ((i : Int) + 1) M) (fun z => z.1 = opt (wst p f hs g) ∧ z.2.2 = M) := fun y hy => ih (i + 1) y (by omega) (by omega) hy
      refine ok_chk (by omega) (ok_bi (ok_ite (fun h3 => ?_) (fun h3 => ?_)))
      · have hw : hop f i = true := by simp [hop, h3]
        cases es : scan i ((g :: hs.reverse.map SR.g) ++ [npos p]) (hop f) with
        | none =>
          rw [es] at hx
          have hx1 : x = -1 := hx
          rw [hx1]
          (repeat (first | with_reducible refine ok_nm0 ?_ | (with_reducible refine ok_chk ?_ ?_; · omega) | (with_reducible refine ok_if ?_ ?_; · omega) | (with_reducible refine ok_el ?_ ?_; · omega) | with_reducible refine ok_some ?_ | with_reducible refine ok_bi ?_ | with_reducible refine ok_bsm ?_)); try dsimp only
          exact go _ (by rw [scan_t0 hw es]; rfl)
        | some b =>
          rw [es] at hx
          have hx1 : x = (b : Int) := hx
          have hb := scan_lt es
          rw [hx1]
          refine ok_el (by omega) (ok_bs (rather_ok h hpm hh hS h22 hg hi (by omega)) ?_)
          have e2 := scan_t1 hw es
          by_cases e : lx ((g :: hs.reverse.map SR.g) ++ [npos p]) i b = true
          · rw [if_pos e] at e2
            refine ok_el (by (try dsimp only); rw [if_pos e]; decide) ?_
            (repeat (first | with_reducible refine ok_nm0 ?_ | (with_reducible refine ok_chk ?_ ?_; · omega) | (with_reducible refine ok_if ?_ ?_; · omega) | (with_reducible refine ok_el ?_ ?_; · omega) | with_reducible refine ok_some ?_ | with_reducible refine ok_bi ?_ | with_reducible refine ok_bsm ?_)); try dsimp only
            exact go _ (by rw [e2]; rfl)
          · rw [if_neg e] at e2
            refine ok_if (by (try dsimp only); rw [if_neg e]) ?_
            (repeat (first | with_reducible refine ok_nm0 ?_ | (with_reducible refine ok_chk ?_ ?_; · omega) | (with_reducible refine ok_if ?_ ?_; · omega) | (with_reducible refine ok_el ?_ ?_; · omega) | with_reducible refine ok_some ?_ | with_reducible refine ok_bi ?_ | with_reducible refine ok_bsm ?_)); try dsimp only
            exact go _ (by rw [e2]; rfl)
      · (repeat (first | with_reducible refine ok_nm0 ?_ | (with_reducible refine ok_chk ?_ ?_; · omega) | (with_reducible refine ok_if ?_ ?_; · omega) | (with_reducible refine ok_el ?_ ?_; · omega) | with_reducible refine ok_some ?_ | with_reducible refine ok_bi ?_ | with_reducible refine ok_bsm ?_)); try dsimp only
        exact go x (by rw [hx, scan_f (by simp [hop, h3])])
theorem worst_ok {a : Nat} {p : PL} {hs : List SR} {M : Mem} {f g : Vec} (h : WF p) (hpm : PMm M a p) (hh : hs.length ≤ 8) (hS : ∀ s sr, hs[s]? = some sr → SRm M a p.n s sr) (h22 : M a 22 = hs.length) (hg : Ag p.n (M (a + 29)) g) (hf : Ag p.n (M (a + 25)) f) : fX9_worst a M = some (opt (wst p f hs g), M) := by
  have hn8 := h.1
  apply ok_eq
  unfold fX9_worst
  refine ok_by (worst_l h hpm hh hS h22 hg hf 1000 0 (-1) (by omega) (by omega) rfl) (fun z hz => ok_some ?_)
  rw [hz.1, hz.2]
/-- the state behind a STAGE; x: the number of STAGES, as it stands -/
def MX (M : Mem) (a : Nat) (p : PL) (st : ST) (x : Nat) : Prop := M a 22 = x ∧ M a 23 = st.o.length ∧ (∀ c, c < p.n → M (a + 25) c = st.f c ∧ M (a + 26) c = st.k c ∧ M (a + 27) c = st.w c) ∧ (∀ i c : Nat, st.o[i]? = some c → M (a + 28) i = (c : Int)) ∧ (∀ s sr, st.h[s]? = some sr → SRm M a p.n s sr) ∧ (st.h ≠ [] → Ag p.n (M (a + 29)) (lg st.h) ∧ M a 29 = lq st.h) ∧ PAm M a (gat p) ∧ PMm M a p
theorem ME.el {M : Mem} {a : Nat} {p : PL} {st : ST} {sr : SR} (h : ME M a p st sr) (ho : sr.o = -5) : MX M a p (nxt st sr) st.h.length := by
  obtain ⟨a1, a2, a3, a4, a5, a6, a7, a8⟩ := h
  refine ⟨a1, a2, fun c hc => ⟨?_, ?_, ?_⟩, a4, a5, fun _ => ?_, a7, a8⟩
  · show _ = nf sr st.f c
    unfold nf
    rw [(a3 c hc).1, if_neg (show ¬ sr.o = (c : Int) by omega)]
  · show _ = nk sr c
    unfold nk
    rw [(a3 c hc).2.1, if_neg (show ¬ sr.o = (c : Int) by omega)]
  · show _ = nw sr st.h.length st.w c
    unfold nw
    have : ¬ sr.o = (c : Int) := by omega
    rw [(a3 c hc).2.2]
    simp [this]
  · show Ag p.n _ (lg (st.h ++ [sr])) ∧ _ = lq (st.h ++ [sr])
    rw [lg_app, lq_app]
    exact a6
theorem ME.ex {M : Mem} {a : Nat} {p : PL} {st : ST} {sr : SR} {c : Nat} (h : ME M a p st sr) (hE : sr.E = []) (ho : sr.o = (c : Int)) : MX (wr (wr (wr M (a + 25) c 3) (a + 27) c st.h.length) (a + 26) c 0) a p (nxt st sr) st.h.length := by
  obtain ⟨a1, a2, a3, a4, a5, a6, a7, a8⟩ := h
  have hx : ∀ x, x ≠ a + 25 → x ≠ a + 26 → x ≠ a + 27 → wr (wr (wr M (a + 25) c 3) (a + 27) c st.h.length) (a + 26) c 0 x = M x := fun x x1 x2 x3 => by rw [wrn x2, wrn x3, wrn x1]
  have ha := hx a (by omega) (by omega) (by omega)
  refine ⟨by rw [ha]; exact a1, by rw [ha]; exact a2, fun d hd => ⟨?_, ?_, ?_⟩, fun i d hi => ?_, fun s s2 hs => ?_, fun _ => ?_, ?_, ?_⟩
  · show _ = nf sr st.f d
    unfold nf
    rw [wrn (by omega), wrn (by omega), wre, ho]
    by_cases e : d = c
    · subst e; rw [up_same, hE, if_neg (by simp), if_pos rfl]
    · rw [up_ne e, (a3 d hd).1, if_neg (show ¬ (c : Int) = (d : Int) by omega)]
  · show _ = nk sr d
    unfold nk
    rw [wre, wrn (by omega), wrn (by omega), ho]
    by_cases e : d = c
    · subst e; rw [up_same, if_pos rfl]
    · rw [up_ne e, (a3 d hd).2.1, if_neg (show ¬ (c : Int) = (d : Int) by omega)]
  · show _ = nw sr st.h.length st.w d
    unfold nw
    rw [wrn (by omega), wre, wrn (by omega), ho]
    by_cases e : d = c
    · subst e; rw [up_same, if_pos (Or.inr rfl)]
    · have : ¬ (c : Int) = (d : Int) := by omega
      rw [up_ne e, (a3 d hd).2.2]
      simp [this]
  · rw [hx _ (by omega) (by omega) (by omega)]; exact a4 i d hi
  · exact (a5 s s2 hs).same (fun x x1 x2 => hx x (by omega) (by omega) (by omega))
  · show Ag p.n _ (lg (st.h ++ [sr])) ∧ _ = lq (st.h ++ [sr])
    rw [lg_app, lq_app, hx (a + 29) (by omega) (by omega) (by omega), ha]
    exact a6
  · exact a7.same (by rw [ha]) (hx _ (by omega) (by omega) (by omega)) (hx _ (by omega) (by omega) (by omega)) (hx _ (by omega) (by omega) (by omega))
  · exact a8.same (fun k _ => by rw [ha]) (hx _ (by omega) (by omega) (by omega)) (hx _ (by omega) (by omega) (by omega)) (hx _ (by omega) (by omega) (by omega)) (hx _ (by omega) (by omega) (by omega))
/-- what a ROUND has worked out stands -/
def RV (M : Mem) (a : Nat) (p : PL) (sr : SR) : Prop := Ag p.n (M (a + 29)) sr.g ∧ M a 29 = sr.q ∧ M a 30 = sr.x ∧ M a 31 = sr.s ∧ M a 32 = sr.t
theorem mexcl_ok {M : Mem} {a : Nat} {p : PL} {st : ST} {sr : SR} {c : Nat} {r : Int} (h : WF p) (hs : SI p st) (hw : WI st) (hl : st.h.length ≤ 7) (hR : MRR M a p st sr.k (fun _ => false) (-5)) (hV : RV M a p sr) (hr : sr.r = r) (hE : sr.E = []) (ho : sr.o = (c : Int)) (hwst : wst p st.f st.h sr.g = some c) : Ok (Option.bind (fX9_worst a M) (fun q46 => nm (q46.1) (fun v47 => if 0 ≤ (q46.2 a 22) ∧ (q46.2 a 22) < 9 then nm (wr q46.2 (a + 41) (Int.toNat (q46.2 a 22)) v47) (fun M49 => Option.bind (fX9_endsStage a r M49) (fun q50 => if 0 ≤ v47 ∧ v47 < 8 then nm (wr q50.2 (a + 25) (Int.toNat v47) 3) (fun M52 => if 0 ≤ v47 ∧ v47 < 8 then nm (wr M52 (a + 27) (Int.toNat v47) (M52 a 22)) (fun M54 => if 0 ≤ v47 ∧ v47 < 8 then nm (wr M54 (a + 26) (Int.toNat v47) 0) (fun M56 => some ((1 : Int), M56)) else none) else none) else none)) else none))) (fun t => t.1 = 1 ∧ MX t.2 a p (nxt st sr) st.h.length ∧ FrM a M t.2) := by
  have hn8 := h.1
  have hR' := hR
  obtain ⟨a1, a2, a3, a4, a5, a6, a7, a8⟩ := hR
  obtain ⟨v1, v2, v3, v4, v5⟩ := hV
  have hc := (scan_some (wst_tot h st.h sr.g) hwst).1
  refine ok_bs (worst_ok h a8 (by omega) a5 a1 v1 (f := st.f) (fun d hd => by rw [(a3 d hd).1]; rfl)) ?_
  rw [hwst]
  show Ok (nm (c : Int) _) _
  refine ok_nm0 ?_
  dsimp only
  simp only [a1, tn]
  refine ok_chk (by omega) (ok_nm0 ?_)
  subst hr
  have hcn0 : cn p.n (fun _ => false) = 0 := cn_z (fun _ _ => rfl)
  have hE2 := ends_ok (D := fun _ => false) (M := wr M (a + 41) st.h.length c) h hs hw hl ⟨by rw [wrn (by omega)]; exact a1, by rw [wrn (by omega)]; exact a2, fun d hd => by rw [wrn (by omega), wrn (by omega), wrn (by omega)]; exact a3 d hd, fun i d hi => by rw [wrn (by omega)]; exact a4 i d hi, fun s s2 hs2 => by
    have hlt := getq_lt hs2
    have := a5 s s2 hs2
    unfold SRm at *
    have hxx : ∀ x, x ≠ a + 41 → wr M (a + 41) st.h.length c x = M x := fun x hx => wrn hx
    rw [hxx (a + 40) (by omega), hxx (a + 42) (by omega), hxx (a + 35) (by omega), hxx (a + 36) (by omega), hxx (a + 37) (by omega), hxx (a + 38) (by omega), hxx (a + 34) (by omega), hxx (a + 39) (by omega), wre, up_ne (by omega)]
    exact this, ⟨by rw [wra, ho], by rw [wrn (by omega)]; exact a6.2⟩, a7.same (by rw [wrn (by omega)]) (wrn (by omega)) (wrn (by omega)) (wrn (by omega)), a8.fr ((FrM.refl a M).wr (by omega))⟩ (by rw [wrn (by omega)]; exact v1) (by rw [wrn (by omega)]; exact v2) (by rw [wrn (by omega)]; exact v3) (by rw [wrn (by omega)]; exact v4) (by rw [wrn (by omega)]; exact v5) (by rw [hE]; exact (srt_none (scan_no (av_tot h _) (fun _ _ => rfl))).symm) (fun d hd => by rw [hE]; simp) (by rw [hcn0]; have := hs.2.2.2.2.1; omega) (fun d _ hd => by cases hd)
  refine ok_by hE2 (fun q hq => ?_)
  obtain ⟨q1, q2⟩ := hq
  have e22 : wr q.2 (a + 25) c 3 a 22 = st.h.length := by rw [wrn (by omega)]; exact q1.1
  refine ok_chk (by omega) (ok_nm0 ?_)
  simp only [e22, tn]
  (repeat (first | with_reducible refine ok_nm0 ?_ | (with_reducible refine ok_chk ?_ ?_; · omega) | (with_reducible refine ok_if ?_ ?_; · omega) | (with_reducible refine ok_el ?_ ?_; · omega) | with_reducible refine ok_some ?_ | with_reducible refine ok_bi ?_ | with_reducible refine ok_bsm ?_)); try dsimp only
  refine ⟨rfl, q1.ex hE ho, ?_⟩
  exact ((((FrM.refl a M).wr (b := a + 41) (by omega)).trans q2).wr (by omega)).wr (by omega) |>.wr (by omega)
def GM (M : Mem) (a n : Nat) (f g : Vec) (q : Int) : Prop := (∀ c, c < n → f c ≠ 2) ∨ (Ag n (M (a + 29)) g ∧ M a 29 = q ∧ ∀ c, c < n → 0 ≤ g c ∧ g c ≤ 4611686000000)
theorem goes_l {a : Nat} {p : PL} {st : ST} {b : Bool} (h : WF p) (hs : SI p st) (hw : WI st) (hcn : 0 < cn p.n (hop st.f)) : ∀ (m mm : Nat) (r : Int) (K g : Vec) (q : Int) (M : Mem), 1 ≤ r → r ≤ p.ro → p.ro - r + 1 < m → p.ro - r < mm → MRR M a p st K (fun _ => false) (-5) → KB p.n K → 0 ≤ q → q ≤ 2305843000001 → GM M a p.n st.f g q → Ok (fX9_goesStage_l4 a (if b then 1 else 0) m 0 r M) (fun z => MX z.2.2 a p (nxt st (rnds p st.f st.o st.h b mm r K g q)) st.h.length ∧ FrM a M z.2.2) := by
  intro m
  have h8 := h.1
  have hro := h.2.2.2.2.2.2.2.2
  obtain ⟨hl, hc0, hc8⟩ := hs.len h hcn
  have hsl := hs.2.2.2.2.1
  induction m with
  | zero => intros; omega
  | succ m ih =>
    intro mm r K g q M h1 h2 h3 h3' hR hK hq hq2 hG
    obtain ⟨m, rfl⟩ : ∃ m', m = m' + 1 := ⟨m - 1, by omega⟩
    obtain ⟨mm, rfl⟩ : ∃ m', mm = m' + 1 := ⟨mm - 1, by omega⟩
    have hpm := hR.2.2.2.2.2.2.2
    have hfin := rnds_ok h (f := st.f) (ord := st.o) (hs := st.h) (b := b) hsl hcn (mm + 1) r K g q h2 h3' hK hq
    have hF : Ag p.n (M (a + 25)) st.f := fun c hc => by rw [(hR.2.2.1 c hc).1]; rfl
    unfold fX9_goesStage_l4
    refine ok_if rfl (ok_bs (many_ok h8 hpm.1 hF) ?_)
    have hK' : KB p.n (kk st.f b r K g q) := kk_KB hK hq
    have hk0 : Ag p.n (M (a + 26)) K := fun c hc => (hR.2.2.1 c hc).2.1
    have key : Ok ((if cn p.n (fun c => decide (st.f c = 2)) ≤ 0 then some M else (if r = 1 then (if (if b then (1 : Int) else 0) = 0 then Option.bind (fX9_keepsAnew a M) (fun q13 => some (q13.2)) else some M) else Option.bind (fX9_keepsAnew a M) (fun q11 => some (q11.2)))) : Option (Mem)) (fun M1 => Ag p.n (M1 (a + 26)) (kk st.f b r K g q) ∧ ∀ x, x ≠ a + 26 → M1 x = M x) := by
      refine ok_ite (fun hz => ok_some ⟨fun c hc => ?_, fun _ _ => rfl⟩) (fun hz => ?_)
      · have hno := cn_0 hz c hc
        simp only [decide_eq_false_iff_not] at hno
        rw [hk0 c hc]
        unfold kk
        split
        · unfold tk
          rw [if_neg (fun e => hno e.1)]
        · rfl
      · have hG2 := hG.resolve_left (fun hno => hz (by rw [cn_z (fun c hc => by simpa using hno c hc)]; exact Int.le_refl 0))
        have ht := keeps_ok h hK hq hq2 hG2.2.2 hpm hF hG2.1 hG2.2.1 hk0
        unfold kk
        refine ok_ite (fun hr => ?_) (fun hr => ?_)
        · cases b
          · rw [if_pos (Or.inr rfl)]
            exact ok_if rfl (ok_by ht (fun z hz => ok_some hz))
          · have hk : ¬ (1 < r ∨ true = false) := by simp; omega
            rw [if_neg hk]
            exact ok_el (show ¬ ((if true = true then (1 : Int) else 0) = 0) by decide) (ok_some ⟨hk0, fun _ _ => rfl⟩)
        · rw [if_pos (Or.inl (show 1 < r by omega))]
          exact ok_by ht (fun z hz => ok_some hz)
    refine ok_by key (fun M1 hM1 => ?_)
    obtain ⟨k1, k2⟩ := hM1
    have ka : M1 a = M a := k2 a (by omega)
    have fr1 : FrM a M M1 := ⟨fun j _ _ _ _ _ _ _ => by rw [ka], fun x hx => k2 x (by omega)⟩
    have hR1 : MRR M1 a p st (kk st.f b r K g q) (fun _ => false) (-5) := hR.upd fr1 (by rw [ka]) (by rw [ka]) (by rw [ka]) (fun x _ _ x1 _ => k2 x x1) k1
    unfold rnds at hfin ⊢
    generalize kk st.f b r K g q = K' at *
    have hv := VT_bd h hK'
    have hqb := quo_bd h hv.2.2.2.1 hv.2.2.2.2
    refine ok_by (tellVotes_ok h hK' hR1.2.2.2.2.2.2.1 (fun c hc => (hR1.2.2.1 c hc).2.1) hR1.2.2.2.2.2.2.2) (fun q14 hw14 => ?_)
    obtain ⟨w1, w2, w3, w4, w5, w6⟩ := hw14
    have fr2 : FrM a M q14.2 := fr1.trans ⟨fun j _ _ _ j4 j5 _ j7 => w5 j j4 j5 j7, fun x hx => w6 x (by omega) (by omega)⟩
    have hR2 : MRR q14.2 a p st K' (fun _ => false) (-5) := hR1.upd ⟨fun j _ _ _ j4 j5 _ j7 => w5 j j4 j5 j7, fun x hx => w6 x (by omega) (by omega)⟩ (w5 18 (by decide) (by decide) (by decide)) (w5 22 (by decide) (by decide) (by decide)) (w5 23 (by decide) (by decide) (by decide)) (fun x x1 _ _ x2 => w6 x (by omega) x2) (by rw [w6 _ (by omega) (by omega)]; exact k1)
    refine ok_by (msur_ok h (by omega) hqb.2 hv.2.2.1 hR2.2.2.2.2.2.2.2 (f := st.f) (fun c hc => by rw [(hR2.2.2.1 c hc).1]; rfl) w1 w4) (fun q15 hw15 => ?_)
    obtain ⟨s1, s2, s3⟩ := hw15
    have fr3' : FrM a q14.2 q15.2 := ⟨fun j _ _ _ _ _ j6 _ => s2 j j6, fun x hx => s3 x (by omega)⟩
    have fr3 : FrM a M q15.2 := fr2.trans fr3'
    have hR3 : MRR q15.2 a p st K' (fun _ => false) (-5) := hR2.upd fr3' (s2 18 (by decide)) (s2 22 (by decide)) (s2 23 (by decide)) (fun x x1 _ _ _ => s3 x (by omega)) (by rw [s3 _ (by omega), w6 _ (by omega) (by omega)]; exact k1)
    have hV3 : Ag p.n (q15.2 (a + 29)) (VT p K').2 := by rw [s3 _ (by omega)]; exact w1
    have hq3 : q15.2 a 29 = quo p (VT p K').2 := by rw [s2 29 (by decide)]; exact w4
    refine ok_by (mel_ok h hs (by omega) hR3 hV3 hq3) (fun q16 hw16 => ?_)
    obtain ⟨x1, x2, x3, x4, x5⟩ := hw16
    have fr4 : FrM a M q16.2 := fr3.trans x3
    have hEo := EE_ok h (f := st.f) (ord := st.o) (g := (VT p K').2) hsl
    have hVr : ∀ sr : SR, sr.g = (VT p K').2 → sr.q = quo p (VT p K').2 → sr.x = (VT p K').1 → sr.s = sur p.n st.f (VT p K').2 (quo p (VT p K').2) → sr.t = sm p.n (VT p K').2 → RV q16.2 a p sr := fun sr e1 e2 e3 e4 e5 => by
      refine ⟨by rw [x5, e1]; exact hV3, by rw [x4, e2]; exact hq3, ?_, by rw [x4, s1, e4], ?_⟩
      · rw [x4, s2 30 (by decide), w2, e3]
      · rw [x4, s2 32 (by decide), w3, e5]
    have endl : ∀ (sr : SR) (t : Int × Mem), t.1 = 1 ∧ MX t.2 a p (nxt st sr) st.h.length ∧ FrM a q16.2 t.2 → Ok (if -2147483648 ≤ (r + 1) ∧ (r + 1) ≤ 2147483647 then fX9_goesStage_l4 a (if b then 1 else 0) (m + 1) t.1 (r + 1) t.2 else none) (fun z => MX z.2.2 a p (nxt st sr) st.h.length ∧ FrM a M z.2.2) := fun sr t ht => by
      refine ok_chk (by omega) ?_
      rw [ht.1]
      unfold fX9_goesStage_l4
      exact ok_el (by decide) (ok_some ⟨ht.2.1, fr4.trans ht.2.2⟩)
    rw [x1]
    by_cases hne : EE p st.f st.o (VT p K').2 = []
    · rw [if_pos hne]
      rw [if_neg (show ¬ (EE p st.f st.o (VT p K').2 ≠ []) from fun e => e hne)] at hfin ⊢
      have hR4 : MRR q16.2 a p st K' (fun _ => false) (-5) := by
        rw [hne] at x2
        simpa using x2
      have hpm4 := hR4.2.2.2.2.2.2.2
      have h31 : q16.2 a 31 = sur p.n st.f (VT p K').2 (quo p (VT p K').2) := by rw [x4, s1]
      simp only [hpm4.2.2.2.2.2.1, hpm4.2.2.2.2.2.2, h31]
      by_cases hout : sur p.n st.f (VT p K').2 (quo p (VT p K').2) ≤ p.li ∨ r = p.ro
      · rw [if_pos hout] at hfin ⊢
        obtain ⟨c, hwc, _, _⟩ := wst_ex h (f := st.f) (hs := st.h) (g := (VT p K').2) hcn
        have hX := mexcl_ok (sr := (r, opt (wst p st.f st.h (VT p K').2), [], quo p (VT p K').2, (VT p K').1, sur p.n st.f (VT p K').2 (quo p (VT p K').2), sm p.n (VT p K').2, (VT p K').2, K')) (r := r) h hs hw hl hR4 (hVr _ rfl rfl rfl rfl rfl) rfl rfl (opt_some hwc) hwc
        refine ok_by (ok_if (by first | rfl | trivial) (ok_ite (fun _ => hX) (fun hno => ok_if (hout.resolve_left hno) hX))) (fun t ht => endl _ t ht)
      · rw [if_neg hout] at hfin ⊢
        refine ok_bind (ok_if (by first | rfl | trivial) (ok_el (fun e => hout (Or.inl e)) (ok_el (fun e => hout (Or.inr e)) (ok_some ?_))))
        refine ok_chk (by omega) ?_
        refine (ih mm (r + 1) K' _ _ q16.2 (by omega) (by omega) (by omega) (by omega) hR4 hK' (by omega) hqb.2 (Or.inr ⟨by rw [x5]; exact hV3, by rw [x4]; exact hq3, hv.2.2.1⟩)).mono (fun z hz => ⟨hz.1, fr4.trans hz.2⟩)
    · rw [if_neg hne]
      rw [if_pos hne] at hfin ⊢
      have ht := av_tot h (VT p K').2
      have hEm : ∀ c, c < p.n → (reach st.f (VT p K').2 (quo p (VT p K').2) c = true → True) := fun _ _ _ => trivial
      have hnd := hEo.1
      have hcE : cn p.n (fun c => decide (c ∈ EE p st.f st.o (VT p K').2)) = (EE p st.f st.o (VT p K').2).length := by
        have := cn_E (n := p.n) (EE p st.f st.o (VT p K').2) (fun _ => 0) 2 hnd (fun c hc => ⟨(hEo.2.1 c hc).1, by decide⟩)
        have e1 : cn p.n (fun c => decide ((if c ∈ EE p st.f st.o (VT p K').2 then (2 : Int) else 0) = 2)) = cn p.n (fun c => decide (c ∈ EE p st.f st.o (VT p K').2)) := cn_congr (fun c _ => by
          by_cases e : c ∈ EE p st.f st.o (VT p K').2 <;> simp [e])
        have e2 : cn p.n (fun c => decide (((fun _ => 0 : Vec) c) = 2)) = 0 := cn_z (fun _ _ => rfl)
        rw [← e1, this, e2]
        omega
      refine ok_by (Q := fun t : Int × Mem => t.1 = 1 ∧ MX t.2 a p (nxt st (r, -5, EE p st.f st.o (VT p K').2, quo p (VT p K').2, (VT p K').1, sur p.n st.f (VT p K').2 (quo p (VT p K').2), sm p.n (VT p K').2, (VT p K').2, K')) st.h.length ∧ FrM a q16.2 t.2) (ok_el (by decide) ?_) (fun t ht => endl _ t ht)
      have hV4 := hVr (r, -5, EE p st.f st.o (VT p K').2, quo p (VT p K').2, (VT p K').1, sur p.n st.f (VT p K').2 (quo p (VT p K').2), sm p.n (VT p K').2, (VT p K').2, K') rfl rfl rfl rfl rfl
      obtain ⟨v1, v2, v3, v4, v5⟩ := hV4
      have hEe := ends_ok (sr := (r, -5, EE p st.f st.o (VT p K').2, quo p (VT p K').2, (VT p K').1, sur p.n st.f (VT p K').2 (quo p (VT p K').2), sm p.n (VT p K').2, (VT p K').2, K')) h hs hw hl x2 v1 v2 v3 v4 v5 (srt_uniq ht (by rw [hcE]; have := hEo.2.2; have := h.2.2.2.2.2.2.1; omega) (srt_sd ht) (fun c => ⟨fun hc => ⟨(hEo.2.1 c hc).1, by simpa using hc⟩, fun hc => by simpa using hc.2⟩)) (fun c hc => rfl) (by rw [hcE]; have := hEo.2.2; omega) (fun c hc hD => (hEo.2.1 c (by simpa using hD)).2)
      exact ok_by hEe (fun t ht => ok_some ⟨rfl, ht.1.el rfl, ht.2⟩)
end
