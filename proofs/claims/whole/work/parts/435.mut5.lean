section
/-! ballot, many -/
abbrev wT (s : SS) (t : List (Int × Int)) : SS := (s.1, s.2.1, s.2.2.1, s.2.2.2.1, t, s.2.2.2.2.2)
theorem CI.tr {M M' : Mem} {s : SS} {t : List (Int × Int)} (hs : GS s) (h : CI M s) (hT : TRg M' 310 t) (hx : ∀ b, b ≠ 310 → b ≠ 312 → b ≠ 313 → M' b = M b) : CI M' (wT s t) := by
  obtain ⟨⟨a1, a2, a3, a4, a5⟩, a6⟩ := h
  refine ⟨⟨a1.same (fun x _ _ => hx x (by omega) (by omega) (by omega)), ?_, ?_, hT, fun k hk => ?_⟩, a6.same hs.1.1 (by rw [hx 10 (by omega) (by omega) (by omega)]) (fun x hx' => hx x (by omega) (by omega) (by omega))⟩
  · show IMc M' s.i
    cases e : s.i with
    | none => rw [e] at a2; show M' 10 3 = 0; rw [hx 10 (by omega) (by omega) (by omega)]; exact a2
    | some q => rw [e] at a2; exact ⟨by rw [hx 10 (by omega) (by omega) (by omega)]; exact a2.1, a2.2.same (fun x _ _ => hx x (by omega) (by omega) (by omega))⟩
  · show TXc M' s.x
    unfold TXc at *
    rw [hx 210 (by omega) (by omega) (by omega), hx 212 (by omega) (by omega) (by omega)]; exact a3
  · rw [hx (56 + 16 * k) (by omega) (by omega) (by omega), hx (59 + 16 * k) (by omega) (by omega) (by omega)]; exact a5 k hk
theorem wT_GS {s : SS} (hs : GS s) {t : List (Int × Int)} (ht : t.length ≤ 3) : GS (wT s t) := ⟨hs.1, hs.2.1, hs.2.2.1, hs.2.2.2.1, ht, hs.2.2.2.2.2⟩
abbrev wB (p : PL) (l : List Int) (m : Int) : PL := (p.1, p.2.1 + 1, p.2.2.1, p.2.2.2.1, upL p.L p.nb l, up p.mn p.nb m, p.2.2.2.2.2.2)
theorem foR_last {p : PL} (h : WF p) {m : Int} (hm : 0 ≤ m) : foR (up p.mn p.nb m) (p.nb + 1) 0 = -1 → sm (p.nb + 1) (up p.mn p.nb m) ≤ 4611686 := fun e => foR_iff.mp e p.nb (Nat.zero_le _) (by omega)
theorem op_ballot {s : SS} (hs : GS s) (r m : Int) : Op s (fX8_ballot 10 r m) (fX9_ballot 20000 r m) := by
  have h8 := hs.1.1.1
  have h24 := hs.1.2
  unfold fX8_ballot fX9_ballot
  simp only [Nat.reduceAdd]
  have one0 : ¬ ((1 : Int) = 0) := by decide
  have r1 := fun (N : Mem) (hN : CI N s) => rowC_ok (M := N) h8 r
  have r2 := fun (N : Mem) (hD : DI N s) => rowM_ok (M := N) (n := s.p.n) h8 hD.1.1 r
  have n1 := fun (N : Mem) (hN : CI N s) => hN.1.1.1.1
  have n3 := fun (N : Mem) (hN : CI N s) => hN.1.1.1.2.1
  have m1 := fun (N : Mem) (hD : DI N s) => hD.1.2.1
  cases hr : isR s.p.n r
  · refine ⟨-2, s, hs, fun M hC => ?_, fun M hD => ?_⟩
    · dsimp only
      rw [n1 M hC]
      refine ok_bs (r1 M hC) ?_
      rw [hr]
      exact ok_if rfl (ok_some (PC.self hC))
    · refine ok_bs (r2 M hD) ?_
      rw [hr]
      exact ok_if rfl (ok_some (PD.self hD))
  · obtain ⟨l, hl, e⟩ := isR_ok h8 hr
    by_cases hm : 0 ≤ m ∧ m ≤ 1000000
    · by_cases hf : s.p.nb = 24
      · refine ⟨-4, s, hs, fun M hC => ?_, fun M hD => ?_⟩
        · dsimp only
          rw [n1 M hC]
          refine ok_bs (r1 M hC) ?_
          rw [hr]
          refine ok_el one0 (ok_el (by omega) (ok_if (by omega) ?_))
          dsimp only
          simp only [n3 M hC]
          exact ok_el (by omega) (ok_some (PC.self hC))
        · refine ok_bs (r2 M hD) ?_
          rw [hr]
          refine ok_el one0 (ok_bs in_ok (ok_el (by (try dsimp only); rw [if_pos hm]; decide) ?_))
          dsimp only
          simp only [m1 M hD]
          exact ok_if (by omega) (ok_some (PD.self hD))
      · have hcls : ∀ M, CI M s → Ok (fX8_isOver 10 s.p.nb m M) (fun q => (foR (up s.p.mn s.p.nb m) (s.p.nb + 1) 0 = -1 ∧ q = (0, M)) ∨ (foR (up s.p.mn s.p.nb m) (s.p.nb + 1) 0 ≠ -1 ∧ q.1 = 1 ∧ TRg q.2 310 (ovT s.p (foR (up s.p.mn s.p.nb m) (s.p.nb + 1) 0)) ∧ ∀ b, b ≠ 310 → b ≠ 312 → b ≠ 313 → q.2 b = M b)) := fun M hC => isOver_ok (n := s.p.nb + 1) hs.1.1 hC.1.1.1 (by omega) (by omega) (fun b hb hne => by omega) (by rw [if_pos (by omega)]; omega) hm
        have hmdl : ∀ M, DI M s → DI (wr (wr M 20005 s.p.nb r) 20006 s.p.nb m) s ∧ fX9_firstOver 20000 ((s.p.nb : Int) + 1) (wr (wr M 20005 s.p.nb r) 20006 s.p.nb m) = some (foR (up s.p.mn s.p.nb m) (s.p.nb + 1) 0, wr (wr M 20005 s.p.nb r) 20006 s.p.nb m) := fun M hD => by
          have fx : ∀ x, x ≠ 20005 → x ≠ 20006 → wr (wr M 20005 s.p.nb r) 20006 s.p.nb m x = M x := fun x x1 x2 => by rw [wrn x2, wrn x1]
          obtain ⟨b1, b2, b3, b4, b5, b6, b7⟩ := hD.1
          refine ⟨hD.of (p' := s.p) (e' := s.e) ⟨by simpa [wr] using b1, by simpa [wr] using b2, fun c hc => by simpa [wr] using b3 c hc, fun b hb => ?_, by simpa [wr] using b5, by simpa [wr] using b6, by simpa [wr] using b7⟩ (hD.2.1.same (fun j _ => by rw [fx 20000 (by omega) (by omega)]) (fun x _ _ => fx x (by omega) (by omega))) (fun j _ => by rw [fx 20000 (by omega) (by omega)]) (fun x hx => fx x (by omega) (by omega)), firstOver_ok (n := s.p.nb + 1) (by omega) (by omega) (fun b hb => ?_)⟩
          · have hne : ¬ b = s.p.nb := by omega
            have := b4 b hb
            simpa [wr, hne] using this
          · show wr (wr M 20005 s.p.nb r) 20006 s.p.nb m 20006 b = _ ∧ _
            rw [wre]
            by_cases ex : b = s.p.nb
            · subst ex; rw [up_same, up_same]; exact ⟨rfl, hm.1, by omega⟩
            · rw [up_ne ex, up_ne ex, wrn (by omega)]
              have hb2 : b < s.p.nb := by omega
              have h9 := hs.1.1.2.2.2.2.1 b hb2
              have hle := sm_le (n := s.p.nb) (f := s.p.mn) (fun c hc => (hs.1.1.2.2.2.2.1 c hc).2) b hb2
              have := hs.1.1.2.2.2.2.2.1
              exact ⟨(b4 b hb2).2, h9.2, by omega⟩
        by_cases ho : foR (up s.p.mn s.p.nb m) (s.p.nb + 1) 0 = -1
        · have hsm := foR_last hs.1.1 hm.1 ho
          have hs' := hs
          obtain ⟨g1, g2, g3, g4, g5, g6⟩ := hs'
          have h25' : s.p.nb + 1 ≤ 25 := by omega
          have h24' : s.p.nb + 1 ≤ 24 := by omega
          have hW : WF4 (wB s.p l m) := ⟨⟨g1.1.1, h25', g1.1.2.2.1, g1.1.2.2.2.1, fun b hb => by
            have hb' : b < s.p.nb + 1 := hb
            show rgood s.p.n (upL s.p.L s.p.nb l b) ∧ 0 ≤ up s.p.mn s.p.nb m b
            by_cases ex : b = s.p.nb
            · subst ex; rw [upL_same, up_same]; exact ⟨hl, hm.1⟩
            · rw [upL_ne ex, up_ne ex]; exact g1.1.2.2.2.2.1 b (by omega), hsm, g1.1.2.2.2.2.2.2⟩, h24'⟩
          refine ⟨s.p.nb, (wB s.p l m, s.2), ⟨hW, g2, g3, g4, g5, g6⟩, fun M hC => ?_, fun M hD => ?_⟩
          · dsimp only
            rw [n1 M hC]
            refine ok_bs (r1 M hC) ?_
            rw [hr]
            refine ok_el one0 (ok_el (by omega) (ok_if (by omega) ?_))
            dsimp only
            simp only [n3 M hC]
            refine ok_if (by omega) (ok_nm0 (ok_by (hcls M hC) (fun q hq => ?_)))
            rcases hq with ⟨_, hq⟩ | ⟨hq, _⟩
            · rw [hq, e]
              refine ok_if rfl (ok_bs (filledUp_ok hl.1 M) (ok_chk (by omega) (ok_nm0 (ok_chk (by omega) (ok_nm0 (ok_chk (by omega) (ok_nm0 (ok_nm0 (ok_some ?_)))))))))
              dsimp only
              rw [tn]
              have fx : ∀ x, x ≠ 10 → x ≠ 11000 → x ≠ 11005 → x ≠ 11006 → wr (wr (wr (wr M 11005 s.p.nb (fill l)) 11006 s.p.nb m) 11000 3 ((s.p.nb : Int) + 1)) 10 6 0 x = M x := fun x x1 x2 x3 x4 => by rw [wrn x1, wrn x2, wrn x4, wrn x3]
              obtain ⟨⟨b1, b2, b3, b4, b5, b6, b7⟩, ⟨d1, d2, d3, d4⟩, f1, f2⟩ := hC.1.1
              refine PC.mk' (hC.mut (e' := s.e) ⟨⟨by simpa [wr] using b1, by simp [wr, PL.nb], fun c hc => by simpa [wr] using b3 c hc, fun b hb => ?_, by simpa [wr] using b5, by simpa [wr] using b6, by simpa [wr] using b7⟩, ⟨by simpa [wr] using d1, by simpa [wr] using d2, fun k hk => by simpa [wr] using d3 k hk, fun k hk => by simpa [wr] using d4 k hk⟩, fun c hc => by simpa [wr] using f1 c hc, fun k hk => by simpa [wr] using f2 k hk⟩ (by simp [wr]) (by simp [wr]) (fun x hx => fx x (by omega) (by omega) (by omega) (by omega))) (fun x hx => fx x (by omega) (by omega) (by omega) (by omega))
              have hb' : b < s.p.nb + 1 := hb
              by_cases ex : b = s.p.nb
              · subst ex; simp [wr, up, upL, PL.L, PL.mn]
              · have := b4 b (by omega); simpa [wr, up, upL, PL.L, PL.mn, show ¬ b = s.1.2.1 from ex] using this
            · exact absurd ho hq
          · refine ok_bs (r2 M hD) ?_
            rw [hr]
            refine ok_el one0 (ok_bs in_ok (ok_el (by (try dsimp only); rw [if_pos hm]; decide) ?_))
            dsimp only
            obtain ⟨hD9, hfo⟩ := hmdl M hD
            have e1 : ∀ v, wr M 20005 s.p.nb v 20000 1 = s.p.nb := fun v => by rw [wrn (by omega)]; exact m1 M hD
            have e2 : ∀ v w, wr (wr M 20005 s.p.nb v) 20006 s.p.nb w 20000 1 = s.p.nb := fun v w => by rw [wrn (by omega)]; exact e1 v
            simp only [m1 M hD, tn]
            refine ok_el (by omega) (ok_chk (by omega) (ok_nm0 ?_))
            simp only [e1, tn]
            refine ok_chk (by omega) (ok_nm0 ?_)
            simp only [e2]
            refine ok_chk (by omega) (ok_bs hfo (ok_nm0 (ok_if ho ?_)))
            dsimp only
            simp only [e2]
            refine ok_chk (by omega) (ok_nm0 ?_)
            have e3 : ∀ v w x, wr (wr (wr M 20005 s.p.nb v) 20006 s.p.nb w) 20000 1 x 20000 1 = x := fun v w x => wra _ _ _ _
            simp only [e3]
            refine ok_chk (by omega) (ok_some ?_)
            rw [show (s.p.nb : Int) + 1 - 1 = (s.p.nb : Int) by omega]
            have fx : ∀ x, x ≠ 20000 → x ≠ 20005 → x ≠ 20006 → wr (wr (wr M 20005 s.p.nb r) 20006 s.p.nb m) 20000 1 ((s.p.nb : Int) + 1) x = M x := fun x x1 x2 x3 => by rw [wrn x1, wrn x3, wrn x2]
            have fa : ∀ j, j ≠ 1 → wr (wr (wr M 20005 s.p.nb r) 20006 s.p.nb m) 20000 1 ((s.p.nb : Int) + 1) 20000 j = M 20000 j := fun j hj => by rw [wrk _ hj, wrn (by omega), wrn (by omega)]
            obtain ⟨b1, b2, b3, b4, b5, b6, b7⟩ := hD.1
            refine PD.mk' (hD.of (p' := wB s.p l m) (e' := s.e) ⟨by simpa [wr] using b1, by simp [wr, PL.nb], fun c hc => by simpa [wr] using b3 c hc, fun b hb => ?_, by simpa [wr] using b5, by simpa [wr] using b6, by simpa [wr] using b7⟩ (hD.2.1.same (fun j hj => fa j (by omega)) (fun x _ _ => fx x (by omega) (by omega) (by omega))) (fun j hj => fa j (by omega)) (fun x hx => fx x (by omega) (by omega) (by omega))) (fun x hx => fx x (by omega) (by omega) (by omega))
            have hb' : b < s.p.nb + 1 := hb
            by_cases ex : b = s.p.nb
            · subst ex; simp [wr, up, upL, PL.L, PL.mn, e]
            · have := b4 b (by omega); simpa [wr, up, upL, PL.L, PL.mn, show ¬ b = s.1.2.1 from ex] using this
        · refine ⟨-15, wT s (ovT s.p (foR (up s.p.mn s.p.nb m) (s.p.nb + 1) 0)), wT_GS hs (Nat.le_refl 3), fun M hC => ?_, fun M hD => ?_⟩
          · dsimp only
            rw [n1 M hC]
            refine ok_bs (r1 M hC) ?_
            rw [hr]
            refine ok_el one0 (ok_el (by omega) (ok_if (by omega) ?_))
            dsimp only
            simp only [n3 M hC]
            refine ok_if (by omega) (ok_nm0 (ok_by (hcls M hC) (fun q hq => ?_)))
            rcases hq with ⟨hq, _⟩ | ⟨_, hq1, hq2, hq3⟩
            · exact absurd hq ho
            · exact ok_el (by rw [hq1]; exact one0) (ok_some (PC.mk' (hC.tr hs hq2 hq3) (fun x hx => hq3 x (by omega) (by omega) (by omega))))
          · refine ok_bs (r2 M hD) ?_
            rw [hr]
            refine ok_el one0 (ok_bs in_ok (ok_el (by (try dsimp only); rw [if_pos hm]; decide) ?_))
            dsimp only
            obtain ⟨hD9, hfo⟩ := hmdl M hD
            have e1 : ∀ v, wr M 20005 s.p.nb v 20000 1 = s.p.nb := fun v => by rw [wrn (by omega)]; exact m1 M hD
            have e2 : ∀ v w, wr (wr M 20005 s.p.nb v) 20006 s.p.nb w 20000 1 = s.p.nb := fun v w => by rw [wrn (by omega)]; exact e1 v
            simp only [m1 M hD, tn]
            refine ok_el (by omega) (ok_chk (by omega) (ok_nm0 ?_))
            simp only [e1, tn]
            refine ok_chk (by omega) (ok_nm0 ?_)
            simp only [e2]
            refine ok_chk (by omega) (ok_bs hfo (ok_nm0 (ok_el ho (ok_by (over_ok hD9 rfl) (fun q hq => ok_some ?_)))))
            exact ⟨hq.1, hq.2.1, fun x hx => by rw [hq.2.2 x hx]; dsimp only; rw [wrn (by omega), wrn (by omega)]⟩
    · refine ⟨-2, s, hs, fun M hC => ?_, fun M hD => ?_⟩
      · dsimp only
        rw [n1 M hC]
        refine ok_bs (r1 M hC) ?_
        rw [hr]
        exact ok_el one0 (ok_ite (fun _ => ok_some (PC.self hC)) (fun h0 => ok_el (by omega) (ok_some (PC.self hC))))
      · refine ok_bs (r2 M hD) ?_
        rw [hr]
        exact ok_el one0 (ok_bs in_ok (ok_if (by (try dsimp only); rw [if_neg hm]) (ok_some (PD.self hD))))
abbrev wm (p : PL) (m : Vec) : PL := (p.1, p.2.1, p.2.2.1, p.2.2.2.1, p.2.2.2.2.1, m, p.2.2.2.2.2.2)
theorem op_many {s : SS} (hs : GS s) (b m : Int) : Op s (fX8_many 10 b m) (fX9_many 20000 b m) := by
  have h25 := hs.1.1.2.1
  have h24 := hs.1.2
  unfold fX8_many fX9_many
  simp only [Nat.reduceAdd]
  have one0 : ¬ ((1 : Int) = 0) := by decide
  have b1 := fun (N : Mem) (hN : CI N s) => hasBal_ok (c := b) (M := N) (o := 11000) (n := s.p.nb) hN.1.1.1.2.1
  have b2 := fun (N : Mem) (hD : DI N s) => isBal_ok (c := b) (M := N) (a := 20000) (n := s.p.nb) h25 hD.1.2.1
  have m1 := fun (N : Mem) (hD : DI N s) => hD.1.2.1
  by_cases hb : 0 ≤ b ∧ b < s.p.nb
  · obtain ⟨d, rfl⟩ := Int.eq_ofNat_of_zero_le hb.1
    have hd : d < s.p.nb := by omega
    rw [if_pos hb] at b1 b2
    simp only [tn]
    by_cases hm : 0 ≤ m ∧ m ≤ 1000000
    · have hcls : ∀ M, CI M s → Ok (fX8_isOver 10 d m M) (fun q => (foR (up s.p.mn d m) s.p.nb 0 = -1 ∧ q = (0, M)) ∨ (foR (up s.p.mn d m) s.p.nb 0 ≠ -1 ∧ q.1 = 1 ∧ TRg q.2 310 (ovT s.p (foR (up s.p.mn d m) s.p.nb 0)) ∧ ∀ b, b ≠ 310 → b ≠ 312 → b ≠ 313 → q.2 b = M b)) := fun M hC => isOver_ok (n := s.p.nb) hs.1.1 hC.1.1.1 (by omega) (by omega) (fun b hb hne => hb) (by rw [if_neg (by omega)]) hm
      have hmdl : ∀ M, DI M s → fX9_firstOver 20000 (s.p.nb : Int) (wr M 20006 d m) = some (foR (up s.p.mn d m) s.p.nb 0, wr M 20006 d m) := fun M hD => firstOver_ok (n := s.p.nb) rfl (by omega) (fun x hx => by
          show wr M 20006 d m 20006 x = _ ∧ _
          rw [wre]
          have h9 := hs.1.1.2.2.2.2.1 x hx
          have hle := sm_le (n := s.p.nb) (f := s.p.mn) (fun c hc => (hs.1.1.2.2.2.2.1 c hc).2) x hx
          have := hs.1.1.2.2.2.2.2.1
          by_cases ex : x = d
          · subst ex; rw [up_same, up_same]; exact ⟨rfl, hm.1, by omega⟩
          · rw [up_ne ex, up_ne ex]; exact ⟨(hD.1.2.2.2.1 x hx).2, h9.2, by omega⟩)
      by_cases ho : foR (up s.p.mn d m) s.p.nb 0 = -1
      · have hs' := hs
        obtain ⟨g1, g2, g3, g4, g5, g6⟩ := hs'
        have hsm : sm s.p.nb (up s.p.mn d m) ≤ 4611686 := by
          have := foR_iff.mp ho (s.p.nb - 1) (Nat.zero_le _) (by omega)
          rw [show s.p.nb - 1 + 1 = s.p.nb by omega] at this
          exact this
        have hW : WF4 (wm s.p (up s.p.mn d m)) := ⟨⟨g1.1.1, g1.1.2.1, g1.1.2.2.1, g1.1.2.2.2.1, fun x hx => ⟨(g1.1.2.2.2.2.1 x hx).1, by
          show 0 ≤ up s.p.mn d m x
          by_cases ex : x = d
          · subst ex; rw [up_same]; exact hm.1
          · rw [up_ne ex]; exact (g1.1.2.2.2.2.1 x hx).2⟩, hsm, g1.1.2.2.2.2.2.2⟩, g1.2⟩
        refine ⟨s.p.mn d, (wm s.p (up s.p.mn d m), s.2), ⟨hW, g2, g3, g4, g5, g6⟩, fun M hC => ok_bs (b1 M hC) (ok_el one0 (ok_el (by omega) (ok_if (by omega) (ok_by (hcls M hC) (fun q hq => ?_))))), fun M hD => ok_bs (b2 M hD) (ok_el one0 (ok_bs in_ok (ok_el (by (try dsimp only); rw [if_pos hm]; decide) (ok_chk (by omega) (ok_nm0 (ok_chk (by omega) (ok_nm0 ?_)))))))⟩
        · rcases hq with ⟨_, hq⟩ | ⟨hq, _⟩
          · rw [hq]
            refine ok_if rfl (ok_chk (by omega) (ok_nm0 (ok_chk (by omega) (ok_nm0 (ok_nm0 (ok_some ?_))))))
            have fx : ∀ x, x ≠ 10 → x ≠ 11006 → wr (wr M 11006 d m) 10 6 0 x = M x := fun x x1 x2 => by rw [wrn x1, wrn x2]
            obtain ⟨⟨b1, b2, b3, b4, b5, b6, b7⟩, ⟨d1, d2, d3, d4⟩, f1, f2⟩ := hC.1.1
            have ea : M 11006 d = s.p.mn d := (b4 d hd).2
            dsimp only
            rw [ea]
            refine PC.mk' (hC.mut (e' := s.e) ⟨⟨by simpa [wr] using b1, by simpa [wr] using b2, fun c hc => by simpa [wr] using b3 c hc, fun x hx => ?_, by simpa [wr] using b5, by simpa [wr] using b6, by simpa [wr] using b7⟩, ⟨by simpa [wr] using d1, by simpa [wr] using d2, fun k hk => by simpa [wr] using d3 k hk, fun k hk => by simpa [wr] using d4 k hk⟩, fun c hc => by simpa [wr] using f1 c hc, fun k hk => by simpa [wr] using f2 k hk⟩ (by simp [wr]) (by simp [wr]) (fun x hx => fx x (by omega) (by omega))) (fun x hx => fx x (by omega) (by omega))
            by_cases ex : x = d
            · subst ex; have := (b4 x hx).1; simpa [wr, up, PL.L, PL.mn] using this
            · have := b4 x hx; simpa [wr, up, PL.L, PL.mn, ex] using this
          · exact absurd ho hq
        · have ea : M 20006 d = s.p.mn d := (hD.1.2.2.2.1 d hd).2
          have e1 : ∀ v, wr M 20006 d v 20000 1 = s.p.nb := fun v => by rw [wrn (by omega)]; exact m1 M hD
          dsimp only
          rw [ea, e1]
          refine ok_bs (hmdl M hD) (ok_nm0 (ok_if ho (ok_some ?_)))
          dsimp only
          have fx : ∀ x, x ≠ 20006 → wr M 20006 d m x = M x := fun x x1 => wrn x1
          obtain ⟨b1, b2, b3, b4, b5, b6, b7⟩ := hD.1
          refine PD.mk' (hD.of (p' := wm s.p (up s.p.mn d m)) (e' := s.e) ⟨by simpa [wr] using b1, by simpa [wr] using b2, fun c hc => by simpa [wr] using b3 c hc, fun x hx => ?_, by simpa [wr] using b5, by simpa [wr] using b6, by simpa [wr] using b7⟩ (hD.2.1.same (fun j _ => by rw [fx 20000 (by omega)]) (fun x _ _ => fx x (by omega))) (fun j _ => by rw [fx 20000 (by omega)]) (fun x hx => fx x (by omega))) (fun x hx => fx x (by omega))
          by_cases ex : x = d
          · subst ex; have := (b4 x hx).1; simpa [wr, up, PL.L, PL.mn] using this
          · have := b4 x hx; simpa [wr, up, PL.L, PL.mn, ex] using this
      · refine ⟨-15, wT s (ovT s.p (foR (up s.p.mn d m) s.p.nb 0)), wT_GS hs (Nat.le_refl 3), fun M hC => ok_bs (b1 M hC) (ok_el one0 (ok_el (by omega) (ok_if (by omega) (ok_by (hcls M hC) (fun q hq => ?_))))), fun M hD => ok_bs (b2 M hD) (ok_el one0 (ok_bs in_ok (ok_el (by (try dsimp only); rw [if_pos hm]; decide) (ok_chk (by omega) (ok_nm0 (ok_chk (by omega) (ok_nm0 ?_)))))))⟩
        · rcases hq with ⟨hq, _⟩ | ⟨_, hq1, hq2, hq3⟩
          · exact absurd hq ho
          · exact ok_el (by rw [hq1]; exact one0) (ok_some (PC.mk' (hC.tr hs hq2 hq3) (fun x hx => hq3 x (by omega) (by omega) (by omega))))
        · have ea : M 20006 d = s.p.mn d := (hD.1.2.2.2.1 d hd).2
          have e1 : ∀ v, wr M 20006 d v 20000 1 = s.p.nb := fun v => by rw [wrn (by omega)]; exact m1 M hD
          dsimp only
          rw [ea, e1]
          refine ok_bs (hmdl M hD) (ok_nm0 (ok_el ho (ok_chk (by omega) (ok_nm0 ?_))))
          dsimp only
          have eM : wr (wr M 20006 d m) 20006 d (s.p.mn d) = M := by
            funext x k
            simp only [wr]
            by_cases e : x = 20006 ∧ k = d
            · rw [if_pos e, e.1, e.2, ea]
            · rw [if_neg e, if_neg e]
          rw [eM]
          exact ok_by (over_ok hD rfl) (fun q hq => ok_some ⟨hq.1, hq.2.1, hq.2.2⟩)
    · exact ⟨-2, s, hs, fun M hC => ok_bs (b1 M hC) (ok_el one0 (ok_ite (fun _ => ok_some (PC.self hC)) (fun h0 => ok_el (by omega) (ok_some (PC.self hC))))), fun M hD => ok_bs (b2 M hD) (ok_el one0 (ok_bs in_ok (ok_if (by (try dsimp only); rw [if_neg hm]) (ok_some (PD.self hD)))))⟩
  · rw [if_neg hb] at b1 b2
    exact ⟨-1, s, hs, fun M hC => ok_bs (b1 M hC) (ok_if rfl (ok_some (PC.self hC))), fun M hD => ok_bs (b2 M hD) (ok_if rfl (ok_some (PD.self hD)))⟩
end
